theorem nmF_at {Q : Nat → Int} {b : Nat} {w : Int} : ∀ (k c : Nat), ¬ nmF Q b w k c = -1 → ∃ j : Nat, nmF Q b w k c = (j : Int) ∧ j < c + k ∧ Q (b + j) = w
  | 0, c, h => absurd rfl h
  | k + 1, c, h => by
    rw [nmF] at h ⊢
    by_cases z : Q (b + c) = w
    · rw [if_pos z]; exact ⟨c, rfl, by omega, z⟩
    · rw [if_neg z] at h ⊢
      obtain ⟨j, h1, h2, h3⟩ := nmF_at k (c + 1) h
      exact ⟨j, h1, by omega, h3⟩
theorem fd_num {T : Nat → Nat} {cn : Nat} {K N : Nat → Nat} {d : Int} {I : cz_I} {R : cz_R} {L : cz_L} {m x : Nat} {Q : Nat → Int} {w c : Int} {v s : Int32} (hM : NmM I R L m Q) (hW : Wf T cn K N I R d) (tm : T m = 14) (hF : FdM L R m c w v) (hc : c = Q 3 + Q 4) (h0 : 0 ≤ v.toInt) (hn : ¬ nmI Q 200 (Q 4) w = -1) (hx : R m 32 = some x) (hs : I x v.toNatClampNeg = s) : s.toInt = nmI Q 200 (Q 4) w := by
  obtain ⟨t, ht, -⟩ := rf14_30 hW tm
  obtain ⟨u, hu, -⟩ := rf14_31 hW tm
  have q := hM.1 t u x ht hu hx
  have e : v.toNatClampNeg = v.toInt.toNat := rfl
  rw [e] at hs
  obtain ⟨j, j1, j2, j3⟩ := nmF_at _ _ hn
  have j2' : (j : Int) < Q 4 := by omega
  rcases hF t ht with ⟨h1, -⟩ | ⟨-, h2, h3⟩
  · omega
  · rcases q.1 v.toInt.toNat (by omega) with ⟨h4, i, hi, he⟩ | ⟨h4, i, hi, hw, he⟩
    · exact absurd (he.symm.trans (h3.trans j3.symm)) (hM.2.1 i j hi j2')
    · have z : i = j := hM.2.2.1 i j hi j2' (he.symm.trans (h3.trans j3.symm))
      rw [← hs, hw, z]; exact j1.symm
def wik_X12_readRising : List Nat := [968, 969, 970, 971, 972, 973, 974, 3839]
def wrk_X12_readRising : List Nat := []
def wlk_X12_readRising : List Nat := [975]
set_option maxHeartbeats 4000000 in
theorem fk_X12_readRising {l : Launch} {T : Nat → Nat} {cn : Nat} {K N : Nat → Nat} {I0 : cz_I} {R0 : cz_R} {L0 : cz_L} (hW0 : Wf T cn K N I0 R0 0) (gB : cz_B) (gs : Int) (gQ : Nat → Int) {a0 : Nat} (ta0 : T a0 = 15) {a1 : Nat} (ta1 : T a1 = 59) {x2 : Int32} (hx2 : 0 ≤ x2.toInt ∧ x2.toInt ≤ 0) {x3 : Int32} (hx3 : 8 ≤ x3.toInt ∧ x3.toInt ≤ 8) (hT : ∀ t, R0 a0 5 = some t → Tx I0 t gB) (pre0 : (I0 a0 9).toInt = (tkM gB gs)) (pre1 : (I0 a0 9).toInt ≤ 4) (pre2 : (I0 a0 10).toInt = (tkS gB gs)) (pre3 : (I0 a0 11).toInt = (tkG gB gs)) (pre4 : (AtW ((tkK gB gs)) ((L0 a0 15).toInt) ((tkW gB gs)))) (pre5 : (AtV ((tkK gB gs)) ((I0 a0 12).toInt) ((tkV gB gs)))) (pre6 : (AtN ((tkK gB gs)) ((I0 a0 8).toInt) ((tkN gB gs)))) (pre7 : (I0 a0 7).toInt = (gB.2)) (pre8 : ∀ b1, R0 a0 4 = some b1 → (I0 b1 0).toInt = (gQ 0)) (pre9 : (gQ 0) ≥ 1) (nn4 : ∃ b, R0 a0 4 = some b) : ConE l mX12_readRising [.ref a0, .ref a1, .int x2, .int x3] cn K N I0 R0 L0 (ca_i (fun v cn' K' N' I' R' L' => cn = cn' ∧ K = K' ∧ N = N' ∧ R0 = R' ∧ St T cn K N 0 wik_X12_readRising wrk_X12_readRising I0 R0 I' R0 ∧ (0 ≤ v.toInt ∧ v.toInt ≤ 8) ∧ (∀ j : Nat, ((j : Int) < x2.toInt ∨ x2.toInt + 8 ≤ (j : Int)) → I' a1 j = I0 a1 j) ∧ (FrO 59 a1 T I0 I') ∧ ((((riF gB gQ 8 0 gs) = 0) ∧ ((I' a0 13).toInt = (I0 a0 13).toInt) ∧ ((I' a0 9).toInt = (tkM gB (riS gB gQ 8 0 gs))) ∧ ((I' a0 9).toInt ≤ 4) ∧ ((I' a0 10).toInt = (tkS gB (riS gB gQ 8 0 gs))) ∧ ((I' a0 11).toInt = (tkG gB (riS gB gQ 8 0 gs))) ∧ ((AtW ((tkK gB (riS gB gQ 8 0 gs))) ((L' a0 15).toInt) ((tkW gB (riS gB gQ 8 0 gs))))) ∧ ((AtV ((tkK gB (riS gB gQ 8 0 gs))) ((I' a0 12).toInt) ((tkV gB (riS gB gQ 8 0 gs))))) ∧ ((AtN ((tkK gB (riS gB gQ 8 0 gs))) ((I' a0 8).toInt) ((tkN gB (riS gB gQ 8 0 gs))))) ∧ (v.toInt = (riC gB 8 gs)) ∧ LgS T wlk_X12_readRising L0 L' ∧ (∀ k : Nat, (k : Int) < riC gB 8 gs → (I' a1 (x2.toInt.toNat + k)).toInt = tkV gB (it2 gB k gs)) ∧ True) ∨ (((riF gB gQ 8 0 gs) ≠ 0) ∧ ((I' a0 9).toInt = 5) ∧ ((I' a0 13).toInt = (riF gB gQ 8 0 gs)) ∧ ((I' a0 14).toInt = (riP gB gQ 8 0 gs)) ∧ True)) ∧ True)) := by
  refine ConE.of (by decide +kernel) rfl (Nat.le_of_ble_eq_true rfl) rfl (fun X hX hZ hE => ?_)
  subst hX
  have hS0 : St T cn K N 0 wik_X12_readRising wrk_X12_readRising I0 R0 I0 R0 := St.rf0 hW0
  have hL0 : LgS T wlk_X12_readRising L0 L0 := LgS.rf0
  obtain ⟨a11, d12⟩ := nn4
  have ta11 : T a11 = 14 := hW0.rsN ta0 rfl d12
  obtain ⟨v13, c14⟩ : ∃ v, I0 a0 9 = v := ⟨_, rfl⟩
  have b15 := iv15_9 hS0.1 ta0 c14
  have p16 := pre0
  rw [c14] at p16
  have p17 := pre1
  rw [c14] at p17
  obtain ⟨v18, c19⟩ : ∃ v, I0 a0 10 = v := ⟨_, rfl⟩
  have b20 := iv15_10 hS0.1 ta0 c19
  have p21 := pre2
  rw [c19] at p21
  obtain ⟨v22, c23⟩ : ∃ v, I0 a0 11 = v := ⟨_, rfl⟩
  have p24 := pre3
  rw [c23] at p24
  obtain ⟨y25, c26⟩ : ∃ v, L0 a0 15 = v := ⟨_, rfl⟩
  have p27 := pre4
  rw [c26] at p27
  obtain ⟨v28, c29⟩ : ∃ v, I0 a0 12 = v := ⟨_, rfl⟩
  have p30 := pre5
  rw [c29] at p30
  obtain ⟨v31, c32⟩ : ∃ v, I0 a0 8 = v := ⟨_, rfl⟩
  have b33 := iv15_8 hS0.1 ta0 c32
  have p34 := pre6
  rw [c32] at p34
  obtain ⟨v35, c36⟩ : ∃ v, I0 a0 7 = v := ⟨_, rfl⟩
  have b37 := iv15_7 hW0 ta0 c36
  have p38 := pre7
  rw [c36] at p38
  obtain ⟨v39, c40⟩ : ∃ v, I0 a11 0 = v := ⟨_, rfl⟩
  have b41 := iv14_0 hW0 ta11 c40
  have p42 := pre8 _ d12
  rw [c40] at p42
  have p43 := pre9
  obtain ⟨v44, c45⟩ : ∃ v, I0 a0 13 = v := ⟨_, rfl⟩
  have hO0 : FrO 59 a1 T I0 I0 := FrO.rf
  refine q_iconst dX12_readRising_0 (by decide) ?_
  intro v46 h47
  refine tr_istore dX12_readRising_1 (by decide) (by decide) ?_
  refine q_iconst dX12_readRising_3 (by decide) ?_
  intro v48 h49
  refine tr_istore dX12_readRising_4 (by decide) (by decide) ?_
  refine q_iconst dX12_readRising_6 (by decide) ?_
  intro v50 h51
  refine tr_istore dX12_readRising_7 (by decide) (by decide) ?_
  have lp103 : ∀ (fu : Nat) (ls : Nat → Option Value) (v52 : Int32) (v53 : Int32) (v54 : Int32) (I62 : cz_I) (L63 : cz_L) (gs64 : Int) (gr65 : Nat) (v69 : Int32) (v71 : Int32) (v73 : Int32) (v75 : Int32) (y77 : Int64) (v79 : Int32) (v81 : Int32), ls 0 = some (.ref a0) → ls 1 = some (.ref a1) → ls 2 = some (.int x2) → ls 3 = some (.int x3) → ls 4 = some (.int v52) → ls 5 = some (.int v53) → ls 6 = some (.int v54) → St T cn K N 0 wik_X12_readRising wrk_X12_readRising I0 R0 I62 R0 → LgS T wlk_X12_readRising L0 L63 → FrO 59 a1 T I0 I62 → I62 a0 13 = v69 → I62 a0 9 = v71 → I62 a0 10 = v73 → I62 a0 11 = v75 → L63 a0 15 = y77 → I62 a0 12 = v79 → I62 a0 8 = v81 → (riF gB gQ gr65 v53.toInt gs64) = (riF gB gQ 8 0 gs) → (riP gB gQ gr65 v53.toInt gs64) = (riP gB gQ 8 0 gs) → (riS gB gQ gr65 v53.toInt gs64) = (riS gB gQ 8 0 gs) → (riC gB gr65 gs64) + v52.toInt = (riC gB 8 gs) → v54.toInt = 1 → 0 ≤ v53.toInt → v53.toInt ≤ 240 → 0 ≤ v52.toInt → v52.toInt ≤ 8 → ((gr65 : Int)) = -v52.toInt + 8 → v69.toInt = v44.toInt → v71.toInt = (tkM gB gs64) → v71.toInt ≤ 4 → v73.toInt = (tkS gB gs64) → v75.toInt = (tkG gB gs64) → (AtW ((tkK gB gs64)) (y77.toInt) ((tkW gB gs64))) → (AtV ((tkK gB gs64)) (v79.toInt) ((tkV gB gs64))) → (AtN ((tkK gB gs64)) (v81.toInt) ((tkN gB gs64))) → (it2 gB v52.toInt.toNat gs = gs64 ∧ ∀ k : Nat, (k : Int) < v52.toInt → (I62 a1 (x2.toInt.toNat + k)).toInt = tkV gB (it2 gB k gs)) → (∀ j : Nat, ((j : Int) < x2.toInt ∨ x2.toInt + 8 ≤ (j : Int)) → I62 a1 j = I0 a1 j) → (-v52.toInt + 9).toNat < fu → Tr X mX12_readRising 9 ls [] cn K N I62 R0 L63 0 0 := by
    intro fu
    induction fu with
    | zero => intros; rename_i hz; exact absurd hz (Nat.not_lt_zero _)
    | succ fu ih103 =>
      intro ls v52 v53 v54 I62 L63 gs64 gr65 v69 v71 v73 v75 y77 v79 v81 hl55 hl56 hl57 hl58 hl59 hl60 hl61 hS66 hL67 hO68 c70 c72 c74 c76 c78 c80 c82 g83 g84 g85 g86 g87 g88 g89 g90 g91 g92 g93 g94 g95 g96 g97 g98 g99 g100 rw101 rw102 hm103
      have b105 := iv15_9 hS66.1 ta0 c72
      have b106 := iv15_10 hS66.1 ta0 c74
      have b107 := iv15_8 hS66.1 ta0 c82
      rcases Nat.eq_zero_or_pos gr65 with hz108 | hz108
      · skip
        subst hz108
        refine tr_iload dX12_readRising_9 hl61 ?_
        refine q_if_eq 92 dX12_readRising_11 (by decide) (fun h110 => ?_) (fun h110 => ?_)
        · skip
          exfalso; omega
        · skip
          refine tr_aload_n dX12_readRising_14 hl55 ?_
          refine q_getI dX12_readRising_15 fl12_99 (kR15 hS66.1 ta0) c72 ?_
          refine q_iconst dX12_readRising_18 (by decide) ?_
          intro v111 h112
          refine q_icmp_eq 92 dX12_readRising_19 (by decide) (fun h113 => ?_) (fun h113 => ?_)
          · skip
            exfalso; omega
          · skip
            refine tr_aload_n dX12_readRising_22 hl55 ?_
            refine tr_iload dX12_readRising_23 hl60 ?_
            refine tr_aload_n dX12_readRising_25 hl55 ?_
            refine tr_getR dX12_readRising_26 fl12_188 (kR15 hS66.1 ta0) d12 ?_
            refine q_getI dX12_readRising_29 fl12_192 (kR14 hS66.1 ta11) ((hS66.cell ta11 (by decide +kernel)).trans c40) ?_
            refine q_iconst dX12_readRising_32 (by decide) ?_
            intro v114 h115
            refine q_isubE dX12_readRising_33 (by intros; omega) ?_
            intro v116 h117
            refine q_callVi hE (M' := mX12_bounded) (as := [_, _]) dX12_readRising_34 lk12_153 inX12_bounded seX12_bounded myX12_bounded (by decide) ⟨by decide, by decide⟩ rfl (kR15 hS66.1 ta0) (Nat.le_of_ble_eq_true rfl) rfl rfl (by decide) (by decide) (fk_X12_bounded hS66.1 (gB) (gs64) ta0 (by (try rw [c72]); first | done | with_reducible assumption | omega) (by (try rw [c72]); first | done | with_reducible assumption | omega) (by (try rw [c74]); first | done | with_reducible assumption | omega) (by (try rw [c76]); first | done | with_reducible assumption | omega) (by (try rw [c78]); first | done | assumption) (by (try rw [c80]); first | done | assumption) (by (try rw [c82]); first | done | assumption)) ?_
            rintro v123 cn' K' N' I118 R119 L120 ⟨rfl, rfl, rfl, rfl, rfl, g121, dj124, -⟩
            have hS125 := hS66.tr g121 (by decide +kernel) (by decide +kernel)
            have c126 : I118 a0 10 = v73 := (g121.cell ta0 (by decide +kernel)).trans c74
            have c127 : I118 a0 11 = v75 := (g121.cell ta0 (by decide +kernel)).trans c76
            have c128 : I118 a0 12 = v79 := (g121.cell ta0 (by decide +kernel)).trans c80
            have c129 : I118 a0 8 = v81 := (g121.cell ta0 (by decide +kernel)).trans c82
            have hO130 : FrO 59 a1 T I0 I118 := hO68.st g121 (by decide +kernel)
            rcases dj124 with ⟨p131, p132, p133, p134, p135, p136, p137, p138, p139, p140, p141, p142, -⟩ | ⟨p143, p144, p145, p146, p147, -⟩ | ⟨p148, p149, p150, p151, p152, p153, -⟩
            · skip
              obtain ⟨v154, c155⟩ : ∃ v, I118 a0 13 = v := ⟨_, rfl⟩
              rw [c155] at p135
              rw [c70] at p135
              obtain ⟨v156, c157⟩ : ∃ v, I118 a0 9 = v := ⟨_, rfl⟩
              have b158 := iv15_9 hS125.1 ta0 c157
              rw [c157] at p136
              rw [c157] at p137
              rw [c126] at p138
              rw [c127] at p139
              rw [c78] at p140
              rw [c128] at p141
              rw [c129] at p142
              refine tr_istore dX12_readRising_37 (by decide) (by decide) ?_
              refine tr_iload dX12_readRising_39 hl59 ?_
              refine tr_iload_n dX12_readRising_41 hl58 ?_
              refine q_icmp_ne 50 dX12_readRising_42 (by decide) (fun h159 => ?_) (fun h159 => ?_)
              · skip
                exfalso; omega
              · skip
                refine tr_aload_n dX12_readRising_45 hl55 ?_
                refine q_iconst dX12_readRising_46 (by decide) ?_
                intro v160 h161
                refine q_callVv hE (M' := mX12_flaw) (as := [_]) dX12_readRising_47 lk12_145 inX12_flaw seX12_flaw myX12_flaw (by decide) ⟨by decide, by decide⟩ rfl (kR15 hS125.1 ta0) (Nat.le_of_ble_eq_true rfl) rfl rfl (by decide) (by decide) (fk_X12_flaw hS125.1  ta0 (by omega) (by (try rw [c157]); first | done | with_reducible assumption | omega)) ?_
                rintro cn' K' N' I162 R163 L164 ⟨rfl, rfl, rfl, rfl, rfl, g165, p168, p169, p170, -⟩
                have hS171 := hS125.tr g165 (by decide +kernel) (by decide +kernel)
                have c172 : I162 a0 10 = v73 := (g165.cell ta0 (by decide +kernel)).trans c126
                have c173 : I162 a0 11 = v75 := (g165.cell ta0 (by decide +kernel)).trans c127
                have c174 : I162 a0 12 = v79 := (g165.cell ta0 (by decide +kernel)).trans c128
                have c175 : I162 a0 8 = v81 := (g165.cell ta0 (by decide +kernel)).trans c129
                have hO176 : FrO 59 a1 T I0 I162 := hO130.st g165 (by decide +kernel)
                obtain ⟨v177, c178⟩ : ∃ v, I162 a0 9 = v := ⟨_, rfl⟩
                have b179 := iv15_9 hS171.1 ta0 c178
                rw [c178] at p168
                obtain ⟨v180, c181⟩ : ∃ v, I162 a0 13 = v := ⟨_, rfl⟩
                rw [c181] at p169
                obtain ⟨v182, c183⟩ : ∃ v, I162 a0 14 = v := ⟨_, rfl⟩
                rw [c183] at p170
                rw [c126] at p170
                refine tr_aload_n dX12_readRising_50 hl55 ?_
                refine q_callVv hE (M' := mX12_goesOn) (as := []) dX12_readRising_51 lk12_142 inX12_goesOn seX12_goesOn myX12_goesOn (by decide) ⟨by decide, by decide⟩ rfl (kR15 hS171.1 ta0) (Nat.le_of_ble_eq_true rfl) rfl rfl (by decide) (by decide) (k_X12_goesOn hS171.1 ta0) ?_
                rintro cn' K' N' I184 R185 L186 ⟨rfl, rfl, rfl, rfl, g187, p189, p190, p191, w192, -⟩
                have hS193 := hS171.tr g187 (by decide +kernel) (by decide +kernel)
                have c194 : I184 a0 13 = v180 := (g187.cell ta0 (by decide +kernel)).trans c181
                have c195 : I184 a0 14 = v182 := (g187.cell ta0 (by decide +kernel)).trans c183
                obtain ⟨v196, c197⟩ : ∃ v, I184 a0 9 = v := ⟨_, rfl⟩
                have b198 := iv15_9 hS193.1 ta0 c197
                rw [c178] at p189
                rw [c197] at p189
                rw [c178] at p190
                rw [c197] at p190
                obtain ⟨v199, c200⟩ : ∃ v, I184 a0 8 = v := ⟨_, rfl⟩
                have b201 := iv15_8 hS193.1 ta0 c200
                rw [c200] at p191
                rw [c175] at p191
                rw [c194] at p191
                rw [c181] at p191
                have hO202 : FrO 59 a1 T I0 I184 := hO176.st g187 (by decide +kernel)
                have ov203 := w192.over (by rw [c178]; omega)
                obtain ⟨v204, c205⟩ : ∃ v, I184 a0 9 = v := ⟨_, rfl⟩
                have b206 := iv15_9 hS193.1 ta0 c205
                obtain ⟨v207, c208⟩ : ∃ v, I184 a0 13 = v := ⟨_, rfl⟩
                obtain ⟨v209, c210⟩ : ∃ v, I184 a0 14 = v := ⟨_, rfl⟩
                (try rw [c205] at ov203)
                (try rw [c208] at ov203)
                (try rw [c210] at ov203)
                (try rw [c178] at ov203)
                (try rw [c181] at ov203)
                (try rw [c183] at ov203)
                refine tr_aload_n dX12_readRising_54 hl55 ?_
                refine q_getI dX12_readRising_55 fl12_99 (kR15 hS193.1 ta0) c205 ?_
                refine q_iconst dX12_readRising_58 (by decide) ?_
                intro v211 h212
                refine q_icmp_ne 64 dX12_readRising_59 (by decide) (fun h213 => ?_) (fun h213 => ?_)
                · skip
                  exfalso; omega
                · skip
                  refine q_iconst dX12_readRising_62 (by decide) ?_
                  intro v214 h215
                  obtain ⟨v216, c217⟩ : ∃ v, I184 a0 10 = v := ⟨_, rfl⟩
                  have b218 := iv15_10 hS193.1 ta0 c217
                  obtain ⟨v219, c220⟩ : ∃ v, I184 a0 11 = v := ⟨_, rfl⟩
                  obtain ⟨y221, c222⟩ : ∃ v, L186 a0 15 = v := ⟨_, rfl⟩
                  obtain ⟨v223, c224⟩ : ∃ v, I184 a0 12 = v := ⟨_, rfl⟩
                  exact tr_iret hZ dX12_readRising_63 rfl (by decide) (by decide) ⟨v214, rfl, rfl, rfl, rfl, rfl, hS193, (by omega), (fun j hj => (Eq.trans ((g187.cell ta1 (wm_no (by decide +kernel))).trans ((g165.cell ta1 (wm_no (by decide +kernel))).trans (g121.cell ta1 (wm_no (by decide +kernel))))) (rw102 j hj))), hO202, (Or.inr (⟨(by rw [← g83]; simp only [riF, ↓reduceIte]; repeat' (first | split | omega)), (by (try rw [c205]); first | done | with_reducible assumption | omega), (by (try rw [c208]); rw [← g83]; simp only [riF, ↓reduceIte]; repeat' (first | split | omega)), (by (try rw [c210]); rw [← g84]; simp only [riP, ↓reduceIte]; repeat' (first | split | omega)), trivial⟩)), trivial⟩
            · skip
              obtain ⟨v225, c226⟩ : ∃ v, I118 a0 9 = v := ⟨_, rfl⟩
              have b227 := iv15_9 hS125.1 ta0 c226
              rw [c226] at p145
              obtain ⟨v228, c229⟩ : ∃ v, I118 a0 13 = v := ⟨_, rfl⟩
              rw [c229] at p146
              obtain ⟨v230, c231⟩ : ∃ v, I118 a0 14 = v := ⟨_, rfl⟩
              rw [c231] at p147
              refine tr_istore dX12_readRising_37 (by decide) (by decide) ?_
              refine tr_iload dX12_readRising_39 hl59 ?_
              refine tr_iload_n dX12_readRising_41 hl58 ?_
              refine q_icmp_ne 50 dX12_readRising_42 (by decide) (fun h232 => ?_) (fun h232 => ?_)
              · skip
                exfalso; omega
              · skip
                refine tr_aload_n dX12_readRising_45 hl55 ?_
                refine q_iconst dX12_readRising_46 (by decide) ?_
                intro v233 h234
                refine q_callVv hE (M' := mX12_flaw) (as := [_]) dX12_readRising_47 lk12_145 inX12_flaw seX12_flaw myX12_flaw (by decide) ⟨by decide, by decide⟩ rfl (kR15 hS125.1 ta0) (Nat.le_of_ble_eq_true rfl) rfl rfl (by decide) (by decide) (k_X12_flaw hS125.1 ta0 (by omega)) ?_
                rintro cn' K' N' I235 R236 L237 ⟨rfl, rfl, rfl, rfl, rfl, g238, p240, p241, w242, -⟩
                have hS243 := hS125.tr g238 (by decide +kernel) (by decide +kernel)
                have c244 : I235 a0 10 = v73 := (g238.cell ta0 (by decide +kernel)).trans c126
                have c245 : I235 a0 11 = v75 := (g238.cell ta0 (by decide +kernel)).trans c127
                have c246 : I235 a0 12 = v79 := (g238.cell ta0 (by decide +kernel)).trans c128
                have c247 : I235 a0 8 = v81 := (g238.cell ta0 (by decide +kernel)).trans c129
                obtain ⟨v248, c249⟩ : ∃ v, I235 a0 9 = v := ⟨_, rfl⟩
                have b250 := iv15_9 hS243.1 ta0 c249
                rw [c249] at p240
                rw [c247] at p241
                rw [c129] at p241
                have hO251 : FrO 59 a1 T I0 I235 := hO130.st g238 (by decide +kernel)
                have ov252 := w242.over (by rw [c226]; omega)
                obtain ⟨v253, c254⟩ : ∃ v, I235 a0 9 = v := ⟨_, rfl⟩
                have b255 := iv15_9 hS243.1 ta0 c254
                obtain ⟨v256, c257⟩ : ∃ v, I235 a0 13 = v := ⟨_, rfl⟩
                obtain ⟨v258, c259⟩ : ∃ v, I235 a0 14 = v := ⟨_, rfl⟩
                (try rw [c254] at ov252)
                (try rw [c257] at ov252)
                (try rw [c259] at ov252)
                (try rw [c226] at ov252)
                (try rw [c229] at ov252)
                (try rw [c231] at ov252)
                refine tr_aload_n dX12_readRising_50 hl55 ?_
                refine q_callVv hE (M' := mX12_goesOn) (as := []) dX12_readRising_51 lk12_142 inX12_goesOn seX12_goesOn myX12_goesOn (by decide) ⟨by decide, by decide⟩ rfl (kR15 hS243.1 ta0) (Nat.le_of_ble_eq_true rfl) rfl rfl (by decide) (by decide) (k_X12_goesOn hS243.1 ta0) ?_
                rintro cn' K' N' I260 R261 L262 ⟨rfl, rfl, rfl, rfl, g263, p265, p266, p267, w268, -⟩
                have hS269 := hS243.tr g263 (by decide +kernel) (by decide +kernel)
                have c270 : I260 a0 13 = v256 := (g263.cell ta0 (by decide +kernel)).trans c257
                have c271 : I260 a0 14 = v258 := (g263.cell ta0 (by decide +kernel)).trans c259
                obtain ⟨v272, c273⟩ : ∃ v, I260 a0 9 = v := ⟨_, rfl⟩
                have b274 := iv15_9 hS269.1 ta0 c273
                rw [c254] at p265
                rw [c273] at p265
                rw [c254] at p266
                rw [c273] at p266
                obtain ⟨v275, c276⟩ : ∃ v, I260 a0 8 = v := ⟨_, rfl⟩
                have b277 := iv15_8 hS269.1 ta0 c276
                rw [c276] at p267
                rw [c247] at p267
                rw [c270] at p267
                rw [c257] at p267
                have hO278 : FrO 59 a1 T I0 I260 := hO251.st g263 (by decide +kernel)
                have ov279 := w268.over (by rw [c254]; omega)
                obtain ⟨v280, c281⟩ : ∃ v, I260 a0 9 = v := ⟨_, rfl⟩
                have b282 := iv15_9 hS269.1 ta0 c281
                obtain ⟨v283, c284⟩ : ∃ v, I260 a0 13 = v := ⟨_, rfl⟩
                obtain ⟨v285, c286⟩ : ∃ v, I260 a0 14 = v := ⟨_, rfl⟩
                (try rw [c281] at ov279)
                (try rw [c284] at ov279)
                (try rw [c286] at ov279)
                (try rw [c254] at ov279)
                (try rw [c257] at ov279)
                (try rw [c259] at ov279)
                refine tr_aload_n dX12_readRising_54 hl55 ?_
                refine q_getI dX12_readRising_55 fl12_99 (kR15 hS269.1 ta0) c281 ?_
                refine q_iconst dX12_readRising_58 (by decide) ?_
                intro v287 h288
                refine q_icmp_ne 64 dX12_readRising_59 (by decide) (fun h289 => ?_) (fun h289 => ?_)
                · skip
                  exfalso; omega
                · skip
                  refine q_iconst dX12_readRising_62 (by decide) ?_
                  intro v290 h291
                  obtain ⟨v292, c293⟩ : ∃ v, I260 a0 10 = v := ⟨_, rfl⟩
                  have b294 := iv15_10 hS269.1 ta0 c293
                  obtain ⟨v295, c296⟩ : ∃ v, I260 a0 11 = v := ⟨_, rfl⟩
                  obtain ⟨y297, c298⟩ : ∃ v, L262 a0 15 = v := ⟨_, rfl⟩
                  obtain ⟨v299, c300⟩ : ∃ v, I260 a0 12 = v := ⟨_, rfl⟩
                  exact tr_iret hZ dX12_readRising_63 rfl (by decide) (by decide) ⟨v290, rfl, rfl, rfl, rfl, rfl, hS269, (by omega), (fun j hj => (Eq.trans ((g263.cell ta1 (wm_no (by decide +kernel))).trans ((g238.cell ta1 (wm_no (by decide +kernel))).trans (g121.cell ta1 (wm_no (by decide +kernel))))) (rw102 j hj))), hO278, (Or.inr (⟨(by rw [← g83]; simp only [riF, ↓reduceIte]; repeat' (first | split | omega)), (by (try rw [c281]); first | done | with_reducible assumption | omega), (by (try rw [c284]); rw [← g83]; simp only [riF, ↓reduceIte]; repeat' (first | split | omega)), (by (try rw [c286]); rw [← g84]; simp only [riP, ↓reduceIte]; repeat' (first | split | omega)), trivial⟩)), trivial⟩
            · skip
              obtain ⟨v301, c302⟩ : ∃ v, I118 a0 9 = v := ⟨_, rfl⟩
              have b303 := iv15_9 hS125.1 ta0 c302
              rw [c302] at p151
              obtain ⟨v304, c305⟩ : ∃ v, I118 a0 13 = v := ⟨_, rfl⟩
              rw [c305] at p152
              obtain ⟨v306, c307⟩ : ∃ v, I118 a0 14 = v := ⟨_, rfl⟩
              rw [c307] at p153
              refine tr_istore dX12_readRising_37 (by decide) (by decide) ?_
              refine tr_iload dX12_readRising_39 hl59 ?_
              refine tr_iload_n dX12_readRising_41 hl58 ?_
              refine q_icmp_ne 50 dX12_readRising_42 (by decide) (fun h308 => ?_) (fun h308 => ?_)
              · skip
                exfalso; omega
              · skip
                refine tr_aload_n dX12_readRising_45 hl55 ?_
                refine q_iconst dX12_readRising_46 (by decide) ?_
                intro v309 h310
                refine q_callVv hE (M' := mX12_flaw) (as := [_]) dX12_readRising_47 lk12_145 inX12_flaw seX12_flaw myX12_flaw (by decide) ⟨by decide, by decide⟩ rfl (kR15 hS125.1 ta0) (Nat.le_of_ble_eq_true rfl) rfl rfl (by decide) (by decide) (k_X12_flaw hS125.1 ta0 (by omega)) ?_
                rintro cn' K' N' I311 R312 L313 ⟨rfl, rfl, rfl, rfl, rfl, g314, p316, p317, w318, -⟩
                have hS319 := hS125.tr g314 (by decide +kernel) (by decide +kernel)
                have c320 : I311 a0 10 = v73 := (g314.cell ta0 (by decide +kernel)).trans c126
                have c321 : I311 a0 11 = v75 := (g314.cell ta0 (by decide +kernel)).trans c127
                have c322 : I311 a0 12 = v79 := (g314.cell ta0 (by decide +kernel)).trans c128
                have c323 : I311 a0 8 = v81 := (g314.cell ta0 (by decide +kernel)).trans c129
                obtain ⟨v324, c325⟩ : ∃ v, I311 a0 9 = v := ⟨_, rfl⟩
                have b326 := iv15_9 hS319.1 ta0 c325
                rw [c325] at p316
                rw [c323] at p317
                rw [c129] at p317
                have hO327 : FrO 59 a1 T I0 I311 := hO130.st g314 (by decide +kernel)
                have ov328 := w318.over (by rw [c302]; omega)
                obtain ⟨v329, c330⟩ : ∃ v, I311 a0 9 = v := ⟨_, rfl⟩
                have b331 := iv15_9 hS319.1 ta0 c330
                obtain ⟨v332, c333⟩ : ∃ v, I311 a0 13 = v := ⟨_, rfl⟩
                obtain ⟨v334, c335⟩ : ∃ v, I311 a0 14 = v := ⟨_, rfl⟩
                (try rw [c330] at ov328)
                (try rw [c333] at ov328)
                (try rw [c335] at ov328)
                (try rw [c302] at ov328)
                (try rw [c305] at ov328)
                (try rw [c307] at ov328)
                refine tr_aload_n dX12_readRising_50 hl55 ?_
                refine q_callVv hE (M' := mX12_goesOn) (as := []) dX12_readRising_51 lk12_142 inX12_goesOn seX12_goesOn myX12_goesOn (by decide) ⟨by decide, by decide⟩ rfl (kR15 hS319.1 ta0) (Nat.le_of_ble_eq_true rfl) rfl rfl (by decide) (by decide) (k_X12_goesOn hS319.1 ta0) ?_
                rintro cn' K' N' I336 R337 L338 ⟨rfl, rfl, rfl, rfl, g339, p341, p342, p343, w344, -⟩
                have hS345 := hS319.tr g339 (by decide +kernel) (by decide +kernel)
                have c346 : I336 a0 13 = v332 := (g339.cell ta0 (by decide +kernel)).trans c333
                have c347 : I336 a0 14 = v334 := (g339.cell ta0 (by decide +kernel)).trans c335
                obtain ⟨v348, c349⟩ : ∃ v, I336 a0 9 = v := ⟨_, rfl⟩
                have b350 := iv15_9 hS345.1 ta0 c349
                rw [c330] at p341
                rw [c349] at p341
                rw [c330] at p342
                rw [c349] at p342
                obtain ⟨v351, c352⟩ : ∃ v, I336 a0 8 = v := ⟨_, rfl⟩
                have b353 := iv15_8 hS345.1 ta0 c352
                rw [c352] at p343
                rw [c323] at p343
                rw [c346] at p343
                rw [c333] at p343
                have hO354 : FrO 59 a1 T I0 I336 := hO327.st g339 (by decide +kernel)
                have ov355 := w344.over (by rw [c330]; omega)
                obtain ⟨v356, c357⟩ : ∃ v, I336 a0 9 = v := ⟨_, rfl⟩
                have b358 := iv15_9 hS345.1 ta0 c357
                obtain ⟨v359, c360⟩ : ∃ v, I336 a0 13 = v := ⟨_, rfl⟩
                obtain ⟨v361, c362⟩ : ∃ v, I336 a0 14 = v := ⟨_, rfl⟩
                (try rw [c357] at ov355)
                (try rw [c360] at ov355)
                (try rw [c362] at ov355)
                (try rw [c330] at ov355)
                (try rw [c333] at ov355)
                (try rw [c335] at ov355)
                refine tr_aload_n dX12_readRising_54 hl55 ?_
                refine q_getI dX12_readRising_55 fl12_99 (kR15 hS345.1 ta0) c357 ?_
                refine q_iconst dX12_readRising_58 (by decide) ?_
                intro v363 h364
                refine q_icmp_ne 64 dX12_readRising_59 (by decide) (fun h365 => ?_) (fun h365 => ?_)
                · skip
                  exfalso; omega
                · skip
                  refine q_iconst dX12_readRising_62 (by decide) ?_
                  intro v366 h367
                  obtain ⟨v368, c369⟩ : ∃ v, I336 a0 10 = v := ⟨_, rfl⟩
                  have b370 := iv15_10 hS345.1 ta0 c369
                  obtain ⟨v371, c372⟩ : ∃ v, I336 a0 11 = v := ⟨_, rfl⟩
                  obtain ⟨y373, c374⟩ : ∃ v, L338 a0 15 = v := ⟨_, rfl⟩
                  obtain ⟨v375, c376⟩ : ∃ v, I336 a0 12 = v := ⟨_, rfl⟩
                  exact tr_iret hZ dX12_readRising_63 rfl (by decide) (by decide) ⟨v366, rfl, rfl, rfl, rfl, rfl, hS345, (by omega), (fun j hj => (Eq.trans ((g339.cell ta1 (wm_no (by decide +kernel))).trans ((g314.cell ta1 (wm_no (by decide +kernel))).trans (g121.cell ta1 (wm_no (by decide +kernel))))) (rw102 j hj))), hO354, (Or.inr (⟨(by rw [← g83]; simp only [riF, ↓reduceIte]; repeat' (first | split | omega)), (by (try rw [c357]); first | done | with_reducible assumption | omega), (by (try rw [c360]); rw [← g83]; simp only [riF, ↓reduceIte]; repeat' (first | split | omega)), (by (try rw [c362]); rw [← g84]; simp only [riP, ↓reduceIte]; repeat' (first | split | omega)), trivial⟩)), trivial⟩
      · skip
        obtain ⟨gk109, rfl⟩ : ∃ k, gr65 = k + 1 := ⟨gr65 - 1, by omega⟩
        refine tr_iload dX12_readRising_9 hl61 ?_
        refine q_if_eq 92 dX12_readRising_11 (by decide) (fun h377 => ?_) (fun h377 => ?_)
        · skip
          exfalso; omega
        · skip
          refine tr_aload_n dX12_readRising_14 hl55 ?_
          refine q_getI dX12_readRising_15 fl12_99 (kR15 hS66.1 ta0) c72 ?_
          refine q_iconst dX12_readRising_18 (by decide) ?_
          intro v378 h379
          refine q_icmp_eq 92 dX12_readRising_19 (by decide) (fun h380 => ?_) (fun h380 => ?_)
          · skip
            exfalso; omega
          · skip
            refine tr_aload_n dX12_readRising_22 hl55 ?_
            refine tr_iload dX12_readRising_23 hl60 ?_
            refine tr_aload_n dX12_readRising_25 hl55 ?_
            refine tr_getR dX12_readRising_26 fl12_188 (kR15 hS66.1 ta0) d12 ?_
            refine q_getI dX12_readRising_29 fl12_192 (kR14 hS66.1 ta11) ((hS66.cell ta11 (by decide +kernel)).trans c40) ?_
            refine q_iconst dX12_readRising_32 (by decide) ?_
            intro v381 h382
            refine q_isubE dX12_readRising_33 (by intros; omega) ?_
            intro v383 h384
            refine q_callVi hE (M' := mX12_bounded) (as := [_, _]) dX12_readRising_34 lk12_153 inX12_bounded seX12_bounded myX12_bounded (by decide) ⟨by decide, by decide⟩ rfl (kR15 hS66.1 ta0) (Nat.le_of_ble_eq_true rfl) rfl rfl (by decide) (by decide) (fk_X12_bounded hS66.1 (gB) (gs64) ta0 (by (try rw [c72]); first | done | with_reducible assumption | omega) (by (try rw [c72]); first | done | with_reducible assumption | omega) (by (try rw [c74]); first | done | with_reducible assumption | omega) (by (try rw [c76]); first | done | with_reducible assumption | omega) (by (try rw [c78]); first | done | assumption) (by (try rw [c80]); first | done | assumption) (by (try rw [c82]); first | done | assumption)) ?_
            rintro v390 cn' K' N' I385 R386 L387 ⟨rfl, rfl, rfl, rfl, rfl, g388, dj391, -⟩
            have hS392 := hS66.tr g388 (by decide +kernel) (by decide +kernel)
            have c393 : I385 a0 10 = v73 := (g388.cell ta0 (by decide +kernel)).trans c74
            have c394 : I385 a0 11 = v75 := (g388.cell ta0 (by decide +kernel)).trans c76
            have c395 : I385 a0 12 = v79 := (g388.cell ta0 (by decide +kernel)).trans c80
            have c396 : I385 a0 8 = v81 := (g388.cell ta0 (by decide +kernel)).trans c82
            have hO397 : FrO 59 a1 T I0 I385 := hO68.st g388 (by decide +kernel)
            rcases dj391 with ⟨p398, p399, p400, p401, p402, p403, p404, p405, p406, p407, p408, p409, -⟩ | ⟨p410, p411, p412, p413, p414, -⟩ | ⟨p415, p416, p417, p418, p419, p420, -⟩
            · skip
              obtain ⟨v421, c422⟩ : ∃ v, I385 a0 13 = v := ⟨_, rfl⟩
              rw [c422] at p402
              rw [c70] at p402
              obtain ⟨v423, c424⟩ : ∃ v, I385 a0 9 = v := ⟨_, rfl⟩
              have b425 := iv15_9 hS392.1 ta0 c424
              rw [c424] at p403
              rw [c424] at p404
              rw [c393] at p405
              rw [c394] at p406
              rw [c78] at p407
              rw [c395] at p408
              rw [c396] at p409
              refine tr_istore dX12_readRising_37 (by decide) (by decide) ?_
              refine tr_iload dX12_readRising_39 hl59 ?_
              refine tr_iload_n dX12_readRising_41 hl58 ?_
              refine q_icmp_ne 50 dX12_readRising_42 (by decide) (fun h426 => ?_) (fun h426 => ?_)
              · skip
                refine tr_aload_n dX12_readRising_50 hl55 ?_
                have p427 := p409 (by omega)
                refine q_callVv hE (M' := mX12_goesOn) (as := []) dX12_readRising_51 lk12_142 inX12_goesOn seX12_goesOn myX12_goesOn (by decide) ⟨by decide, by decide⟩ rfl (kR15 hS392.1 ta0) (Nat.le_of_ble_eq_true rfl) rfl rfl (by decide) (by decide) (fk_X12_goesOn hS392.1 (gB) ((tkN gB gs64)) ta0 (TxA.kp hT hS392 ta0 rfl rfl rfl (by decide +kernel) (by decide +kernel)) (by (try rw [c396]); first | done | with_reducible assumption | omega) (by (try rw [((hS392.cell ta0 (by decide +kernel)).trans c36)]); first | done | with_reducible assumption | omega) (by (try rw [c424]); first | done | with_reducible assumption | omega)) ?_
                rintro cn' K' N' I428 R429 L430 ⟨rfl, rfl, rfl, rfl, g431, gl432, p434, p435, p436, p437, p438, p439, p440, -⟩
                have hS441 := hS392.tr g431 (by decide +kernel) (by decide +kernel)
                have c442 : I428 a0 13 = v421 := (g431.cell ta0 (by decide +kernel)).trans c422
                have hO443 : FrO 59 a1 T I0 I428 := hO397.st g431 (by decide +kernel)
                have hL444 := hL67.tr gl432 (by decide +kernel)
                obtain ⟨v445, c446⟩ : ∃ v, I428 a0 9 = v := ⟨_, rfl⟩
                have b447 := iv15_9 hS441.1 ta0 c446
                rw [c446] at p434
                rw [c446] at p435
                obtain ⟨v448, c449⟩ : ∃ v, I428 a0 10 = v := ⟨_, rfl⟩
                have b450 := iv15_10 hS441.1 ta0 c449
                rw [c449] at p436
                obtain ⟨v451, c452⟩ : ∃ v, I428 a0 11 = v := ⟨_, rfl⟩
                rw [c452] at p437
                obtain ⟨y453, c454⟩ : ∃ v, L430 a0 15 = v := ⟨_, rfl⟩
                rw [c454] at p438
                obtain ⟨v455, c456⟩ : ∃ v, I428 a0 12 = v := ⟨_, rfl⟩
                rw [c456] at p439
                obtain ⟨v457, c458⟩ : ∃ v, I428 a0 8 = v := ⟨_, rfl⟩
                have b459 := iv15_8 hS441.1 ta0 c458
                rw [c458] at p440
                refine tr_aload_n dX12_readRising_54 hl55 ?_
                refine q_getI dX12_readRising_55 fl12_99 (kR15 hS441.1 ta0) c446 ?_
                refine q_iconst dX12_readRising_58 (by decide) ?_
                intro v460 h461
                refine q_icmp_ne 64 dX12_readRising_59 (by decide) (fun h462 => ?_) (fun h462 => ?_)
                · skip
                  refine tr_aload_n dX12_readRising_64 hl56 ?_
                  refine tr_iload_n dX12_readRising_65 hl57 ?_
                  refine tr_iload dX12_readRising_66 hl59 ?_
                  refine q_iaddE dX12_readRising_68 (by intros; omega) ?_
                  intro v463 h464
                  refine tr_iload dX12_readRising_69 rfl ?_
                  refine q_iast dX12_readRising_71 (kR59 hS441.1 ta1) (ti_in (nR59 hS441.1 ta1) (by omega) (by omega)) hS441 ta1 (by show (0 : Int) ≤ v390.toInt ∧ v390.toInt ≤ (239 : Int); omega) rfl (by rfl) ?_
                  intro I465 hS466 e468 f467
                  have c469 : I465 a0 13 = v421 := (f467 _ _ (fun q => by have z := ta0; rw [q.1, ta1] at z; exact absurd z (by decide))).trans c442
                  have c470 : I465 a0 9 = v445 := (f467 _ _ (fun q => by have z := ta0; rw [q.1, ta1] at z; exact absurd z (by decide))).trans c446
                  have c471 : I465 a0 10 = v448 := (f467 _ _ (fun q => by have z := ta0; rw [q.1, ta1] at z; exact absurd z (by decide))).trans c449
                  have c472 : I465 a0 11 = v451 := (f467 _ _ (fun q => by have z := ta0; rw [q.1, ta1] at z; exact absurd z (by decide))).trans c452
                  have c473 : I465 a0 12 = v455 := (f467 _ _ (fun q => by have z := ta0; rw [q.1, ta1] at z; exact absurd z (by decide))).trans c456
                  have c474 : I465 a0 8 = v457 := (f467 _ _ (fun q => by have z := ta0; rw [q.1, ta1] at z; exact absurd z (by decide))).trans c458
                  have hO475 : FrO 59 a1 T I0 I465 := hO443.put f467 ta1 (Or.inr rfl)
                  refine q_iincE dX12_readRising_72 hl59 (by decide) (by decide) (by intros; omega) ?_
                  intro v476 h477
                  refine tr_iload dX12_readRising_75 rfl ?_
                  refine q_iconst dX12_readRising_77 (by decide) ?_
                  intro v478 h479
                  refine q_iaddE dX12_readRising_78 (by intros; omega) ?_
                  intro v480 h481
                  refine tr_istore dX12_readRising_79 (by decide) (by decide) ?_
                  refine tr_aload_n dX12_readRising_81 hl55 ?_
                  refine q_bipush dX12_readRising_82 (by decide +kernel) ?_
                  intro v482 h483
                  refine q_callVi hE (M' := mX12_eatsSign) (as := [_]) dX12_readRising_84 lk12_221 inX12_eatsSign seX12_eatsSign myX12_eatsSign (by decide) ⟨by decide, by decide⟩ rfl (kR15 hS466.1 ta0) (Nat.le_of_ble_eq_true rfl) rfl rfl (by decide) (by decide) (fk_X12_eatsSign hS466.1 (gB) ((tkN gB gs64)) ta0 (TxA.kp hT hS466 ta0 rfl rfl rfl (by decide +kernel) (by decide +kernel)) (by (try rw [c470]); first | done | with_reducible assumption | omega) (by (try rw [c470]); first | done | with_reducible assumption | omega) (by (try rw [c471]); first | done | with_reducible assumption | omega) (by (try rw [c472]); first | done | with_reducible assumption | omega) (by (try rw [c454]); first | done | assumption) (by (try rw [c473]); first | done | assumption) (by (try rw [c474]); first | done | assumption) (by (try rw [((hS466.cell ta0 (by decide +kernel)).trans c36)]); first | done | with_reducible assumption | omega) (by first | done | with_reducible assumption | omega)) ?_
                  rintro v489 cn' K' N' I484 R485 L486 ⟨rfl, rfl, rfl, rfl, g487, gl488, h490, dj491, -⟩
                  have hS492 := hS466.tr g487 (by decide +kernel) (by decide +kernel)
                  have c493 : I484 a0 13 = v421 := (g487.cell ta0 (by decide +kernel)).trans c469
                  have hO494 : FrO 59 a1 T I0 I484 := hO475.st g487 (by decide +kernel)
                  have hL495 := hL444.tr gl488 (by decide +kernel)
                  rcases dj491 with ⟨p496, p497, p498, p499, p500, p501, p502, p503, p504, p505, -⟩ | ⟨p506, p507, p508, p509, p510, p511, p512, p513, p514, p515, -⟩
                  · skip
                    rw [c493] at p498
                    rw [c469] at p498
                    obtain ⟨v516, c517⟩ : ∃ v, I484 a0 9 = v := ⟨_, rfl⟩
                    have b518 := iv15_9 hS492.1 ta0 c517
                    rw [c517] at p499
                    rw [c517] at p500
                    obtain ⟨v519, c520⟩ : ∃ v, I484 a0 10 = v := ⟨_, rfl⟩
                    have b521 := iv15_10 hS492.1 ta0 c520
                    rw [c520] at p501
                    obtain ⟨v522, c523⟩ : ∃ v, I484 a0 11 = v := ⟨_, rfl⟩
                    rw [c523] at p502
                    obtain ⟨y524, c525⟩ : ∃ v, L486 a0 15 = v := ⟨_, rfl⟩
                    rw [c525] at p503
                    obtain ⟨v526, c527⟩ : ∃ v, I484 a0 12 = v := ⟨_, rfl⟩
                    rw [c527] at p504
                    obtain ⟨v528, c529⟩ : ∃ v, I484 a0 8 = v := ⟨_, rfl⟩
                    have b530 := iv15_8 hS492.1 ta0 c529
                    rw [c529] at p505
                    refine tr_istore dX12_readRising_87 (by decide) (by decide) ?_
                    refine tr_goto 9 dX12_readRising_89 (by decide) ?_
                    exact ih103 _ v476 v480 v489 I484 L486 ((tkN gB (tkN gB gs64))) (gk109) v421 v516 v519 v522 y524 v526 v528 hl55 hl56 hl57 hl58 rfl rfl rfl hS492 hL495 hO494 c493 c517 c520 c523 c525 c527 c529 (by rw [← g83]; simp only [riF, ↓reduceIte]; rw [show v480.toInt = tkV gB gs64 + 1 by omega]; repeat' (first | split | omega)) (by rw [← g84]; simp only [riP, ↓reduceIte]; rw [show v480.toInt = tkV gB gs64 + 1 by omega]; repeat' (first | split | omega)) (by rw [← g85]; simp only [riS, ↓reduceIte]; rw [show v480.toInt = tkV gB gs64 + 1 by omega]; repeat' (first | split | omega)) (by rw [← g86]; simp only [riC, ↓reduceIte]; repeat' (first | split | omega)) (by omega) (by omega) (by omega) (by omega) (by omega) (by omega) (by omega) (by omega) (by omega) (by omega) (by omega) (by assumption) (by assumption) (by assumption) ⟨by rw [show v476.toInt.toNat = v52.toInt.toNat + 1 by omega, it2_on, rw101.1], fun k hk => by by_cases z : (k : Int) < v52.toInt; exact (congrArg Int32.toInt ((g487.cell ta1 (wm_no (by decide +kernel))).trans ((f467 _ _ (fun q => by have z1 := q.2; have z3 := ti_nat (i := v463) (by omega); omega)).trans ((g431.cell ta1 (wm_no (by decide +kernel))).trans (g388.cell ta1 (wm_no (by decide +kernel))))))).trans (rw101.2 k z); have y := ti_nat (i := v463) (by omega); have hk2 : (k : Int) = v52.toInt := (by omega); rw [show x2.toInt.toNat + k = v463.toNatClampNeg by omega, show I484 a1 v463.toNatClampNeg = _ from (Eq.trans (g487.cell ta1 (wm_no (by decide +kernel))) e468), show k = v52.toInt.toNat by omega, rw101.1]; omega⟩ (fun j hj => (Eq.trans ((g487.cell ta1 (wm_no (by decide +kernel))).trans ((f467 _ _ (fun q => by have z1 := q.2; have z3 := ti_nat (i := v463) (by omega); omega)).trans ((g431.cell ta1 (wm_no (by decide +kernel))).trans (g388.cell ta1 (wm_no (by decide +kernel)))))) (rw102 j hj))) (by omega)
                  · skip
                    rw [c493] at p508
                    rw [c469] at p508
                    obtain ⟨v531, c532⟩ : ∃ v, I484 a0 9 = v := ⟨_, rfl⟩
                    have b533 := iv15_9 hS492.1 ta0 c532
                    rw [c532] at p509
                    rw [c532] at p510
                    obtain ⟨v534, c535⟩ : ∃ v, I484 a0 10 = v := ⟨_, rfl⟩
                    have b536 := iv15_10 hS492.1 ta0 c535
                    rw [c535] at p511
                    obtain ⟨v537, c538⟩ : ∃ v, I484 a0 11 = v := ⟨_, rfl⟩
                    rw [c538] at p512
                    obtain ⟨y539, c540⟩ : ∃ v, L486 a0 15 = v := ⟨_, rfl⟩
                    rw [c540] at p513
                    obtain ⟨v541, c542⟩ : ∃ v, I484 a0 12 = v := ⟨_, rfl⟩
                    rw [c542] at p514
                    obtain ⟨v543, c544⟩ : ∃ v, I484 a0 8 = v := ⟨_, rfl⟩
                    have b545 := iv15_8 hS492.1 ta0 c544
                    rw [c544] at p515
                    refine tr_istore dX12_readRising_87 (by decide) (by decide) ?_
                    refine tr_goto 9 dX12_readRising_89 (by decide) ?_
                    refine tr_iload dX12_readRising_9 rfl ?_
                    refine q_if_eq 92 dX12_readRising_11 (by decide) (fun h546 => ?_) (fun h546 => ?_)
                    · skip
                      refine tr_iload dX12_readRising_92 rfl ?_
                      have es547 : riS gB gQ 8 0 gs = (tkN gB gs64) := by rw [← g85]; simp only [riS, ↓reduceIte]; repeat' (first | split | omega)
                      obtain ⟨v548, c549⟩ : ∃ v, I484 a0 14 = v := ⟨_, rfl⟩
                      exact tr_iret hZ dX12_readRising_94 rfl (by decide) (by decide) ⟨v476, rfl, rfl, rfl, rfl, rfl, hS492, (by omega), (fun j hj => (Eq.trans ((g487.cell ta1 (wm_no (by decide +kernel))).trans ((f467 _ _ (fun q => by have z1 := q.2; have z3 := ti_nat (i := v463) (by omega); omega)).trans ((g431.cell ta1 (wm_no (by decide +kernel))).trans (g388.cell ta1 (wm_no (by decide +kernel)))))) (rw102 j hj))), hO494, (Or.inl ⟨(by rw [← g83]; simp only [riF, ↓reduceIte]; repeat' (first | split | omega)), (by (try rw [es547]); (try rw [c493]); (try rw [c45]); first | done | with_reducible assumption | omega), (by (try rw [es547]); (try rw [c532]); first | done | with_reducible assumption | omega), (by (try rw [es547]); (try rw [c532]); first | done | with_reducible assumption | omega), (by (try rw [es547]); (try rw [c535]); first | done | with_reducible assumption | omega), (by (try rw [es547]); (try rw [c538]); first | done | with_reducible assumption | omega), (by (try rw [es547]); (try rw [c540]); first | done | assumption), (by (try rw [es547]); (try rw [c542]); first | done | assumption), (by (try rw [es547]); (try rw [c544]); first | done | assumption), (by rw [← g86]; simp only [riC, ↓reduceIte]; repeat' (first | split | omega)), hL495, (fun k hk => by have hc : riC gB 8 gs = v52.toInt + 1 := (by rw [← g86]; simp only [riC, ↓reduceIte]; repeat' (first | split | omega)); by_cases z : (k : Int) < v52.toInt; exact (congrArg Int32.toInt ((g487.cell ta1 (wm_no (by decide +kernel))).trans ((f467 _ _ (fun q => by have z1 := q.2; have z3 := ti_nat (i := v463) (by omega); omega)).trans ((g431.cell ta1 (wm_no (by decide +kernel))).trans (g388.cell ta1 (wm_no (by decide +kernel))))))).trans (rw101.2 k z); have y := ti_nat (i := v463) (by omega); have hk2 : (k : Int) = v52.toInt := (by omega); rw [show x2.toInt.toNat + k = v463.toNatClampNeg by omega, show I484 a1 v463.toNatClampNeg = _ from (Eq.trans (g487.cell ta1 (wm_no (by decide +kernel))) e468), show k = v52.toInt.toNat by omega, rw101.1]; omega), trivial⟩), trivial⟩
                    · skip
                      exfalso; omega
                · skip
                  exfalso; omega
              · skip
                exfalso; omega
            · skip
              obtain ⟨v550, c551⟩ : ∃ v, I385 a0 9 = v := ⟨_, rfl⟩
              have b552 := iv15_9 hS392.1 ta0 c551
              rw [c551] at p412
              obtain ⟨v553, c554⟩ : ∃ v, I385 a0 13 = v := ⟨_, rfl⟩
              rw [c554] at p413
              obtain ⟨v555, c556⟩ : ∃ v, I385 a0 14 = v := ⟨_, rfl⟩
              rw [c556] at p414
              refine tr_istore dX12_readRising_37 (by decide) (by decide) ?_
              refine tr_iload dX12_readRising_39 hl59 ?_
              refine tr_iload_n dX12_readRising_41 hl58 ?_
              refine q_icmp_ne 50 dX12_readRising_42 (by decide) (fun h557 => ?_) (fun h557 => ?_)
              · skip
                refine tr_aload_n dX12_readRising_50 hl55 ?_
                refine q_callVv hE (M' := mX12_goesOn) (as := []) dX12_readRising_51 lk12_142 inX12_goesOn seX12_goesOn myX12_goesOn (by decide) ⟨by decide, by decide⟩ rfl (kR15 hS392.1 ta0) (Nat.le_of_ble_eq_true rfl) rfl rfl (by decide) (by decide) (k_X12_goesOn hS392.1 ta0) ?_
                rintro cn' K' N' I558 R559 L560 ⟨rfl, rfl, rfl, rfl, g561, p563, p564, p565, w566, -⟩
                have hS567 := hS392.tr g561 (by decide +kernel) (by decide +kernel)
                have c568 : I558 a0 13 = v553 := (g561.cell ta0 (by decide +kernel)).trans c554
                have c569 : I558 a0 14 = v555 := (g561.cell ta0 (by decide +kernel)).trans c556
                obtain ⟨v570, c571⟩ : ∃ v, I558 a0 9 = v := ⟨_, rfl⟩
                have b572 := iv15_9 hS567.1 ta0 c571
                rw [c551] at p563
                rw [c571] at p563
                rw [c551] at p564
                rw [c571] at p564
                obtain ⟨v573, c574⟩ : ∃ v, I558 a0 8 = v := ⟨_, rfl⟩
                have b575 := iv15_8 hS567.1 ta0 c574
                rw [c574] at p565
                rw [c396] at p565
                rw [c568] at p565
                rw [c554] at p565
                have hO576 : FrO 59 a1 T I0 I558 := hO397.st g561 (by decide +kernel)
                have ov577 := w566.over (by rw [c551]; omega)
                obtain ⟨v578, c579⟩ : ∃ v, I558 a0 9 = v := ⟨_, rfl⟩
                have b580 := iv15_9 hS567.1 ta0 c579
                obtain ⟨v581, c582⟩ : ∃ v, I558 a0 13 = v := ⟨_, rfl⟩
                obtain ⟨v583, c584⟩ : ∃ v, I558 a0 14 = v := ⟨_, rfl⟩
                (try rw [c579] at ov577)
                (try rw [c582] at ov577)
                (try rw [c584] at ov577)
                (try rw [c551] at ov577)
                (try rw [c554] at ov577)
                (try rw [c556] at ov577)
                refine tr_aload_n dX12_readRising_54 hl55 ?_
                refine q_getI dX12_readRising_55 fl12_99 (kR15 hS567.1 ta0) c579 ?_
                refine q_iconst dX12_readRising_58 (by decide) ?_
                intro v585 h586
                refine q_icmp_ne 64 dX12_readRising_59 (by decide) (fun h587 => ?_) (fun h587 => ?_)
                · skip
                  exfalso; omega
                · skip
                  refine q_iconst dX12_readRising_62 (by decide) ?_
                  intro v588 h589
                  obtain ⟨v590, c591⟩ : ∃ v, I558 a0 10 = v := ⟨_, rfl⟩
                  have b592 := iv15_10 hS567.1 ta0 c591
                  obtain ⟨v593, c594⟩ : ∃ v, I558 a0 11 = v := ⟨_, rfl⟩
                  obtain ⟨y595, c596⟩ : ∃ v, L560 a0 15 = v := ⟨_, rfl⟩
                  obtain ⟨v597, c598⟩ : ∃ v, I558 a0 12 = v := ⟨_, rfl⟩
                  exact tr_iret hZ dX12_readRising_63 rfl (by decide) (by decide) ⟨v588, rfl, rfl, rfl, rfl, rfl, hS567, (by omega), (fun j hj => (Eq.trans ((g561.cell ta1 (wm_no (by decide +kernel))).trans (g388.cell ta1 (wm_no (by decide +kernel)))) (rw102 j hj))), hO576, (Or.inr (⟨(by rw [← g83]; simp only [riF, ↓reduceIte]; repeat' (first | split | omega)), (by (try rw [c579]); first | done | with_reducible assumption | omega), (by (try rw [c582]); rw [← g83]; simp only [riF, ↓reduceIte]; repeat' (first | split | omega)), (by (try rw [c584]); rw [← g84]; simp only [riP, ↓reduceIte]; repeat' (first | split | omega)), trivial⟩)), trivial⟩
              · skip
                exfalso; omega
            · skip
              obtain ⟨v599, c600⟩ : ∃ v, I385 a0 9 = v := ⟨_, rfl⟩
              have b601 := iv15_9 hS392.1 ta0 c600
              rw [c600] at p418
              obtain ⟨v602, c603⟩ : ∃ v, I385 a0 13 = v := ⟨_, rfl⟩
              rw [c603] at p419
              obtain ⟨v604, c605⟩ : ∃ v, I385 a0 14 = v := ⟨_, rfl⟩
              rw [c605] at p420
              refine tr_istore dX12_readRising_37 (by decide) (by decide) ?_
              refine tr_iload dX12_readRising_39 hl59 ?_
              refine tr_iload_n dX12_readRising_41 hl58 ?_
              refine q_icmp_ne 50 dX12_readRising_42 (by decide) (fun h606 => ?_) (fun h606 => ?_)
              · skip
                refine tr_aload_n dX12_readRising_50 hl55 ?_
                refine q_callVv hE (M' := mX12_goesOn) (as := []) dX12_readRising_51 lk12_142 inX12_goesOn seX12_goesOn myX12_goesOn (by decide) ⟨by decide, by decide⟩ rfl (kR15 hS392.1 ta0) (Nat.le_of_ble_eq_true rfl) rfl rfl (by decide) (by decide) (k_X12_goesOn hS392.1 ta0) ?_
                rintro cn' K' N' I607 R608 L609 ⟨rfl, rfl, rfl, rfl, g610, p612, p613, p614, w615, -⟩
                have hS616 := hS392.tr g610 (by decide +kernel) (by decide +kernel)
                have c617 : I607 a0 13 = v602 := (g610.cell ta0 (by decide +kernel)).trans c603
                have c618 : I607 a0 14 = v604 := (g610.cell ta0 (by decide +kernel)).trans c605
                obtain ⟨v619, c620⟩ : ∃ v, I607 a0 9 = v := ⟨_, rfl⟩
                have b621 := iv15_9 hS616.1 ta0 c620
                rw [c600] at p612
                rw [c620] at p612
                rw [c600] at p613
                rw [c620] at p613
                obtain ⟨v622, c623⟩ : ∃ v, I607 a0 8 = v := ⟨_, rfl⟩
                have b624 := iv15_8 hS616.1 ta0 c623
                rw [c623] at p614
                rw [c396] at p614
                rw [c617] at p614
                rw [c603] at p614
                have hO625 : FrO 59 a1 T I0 I607 := hO397.st g610 (by decide +kernel)
                have ov626 := w615.over (by rw [c600]; omega)
                obtain ⟨v627, c628⟩ : ∃ v, I607 a0 9 = v := ⟨_, rfl⟩
                have b629 := iv15_9 hS616.1 ta0 c628
                obtain ⟨v630, c631⟩ : ∃ v, I607 a0 13 = v := ⟨_, rfl⟩
                obtain ⟨v632, c633⟩ : ∃ v, I607 a0 14 = v := ⟨_, rfl⟩
                (try rw [c628] at ov626)
                (try rw [c631] at ov626)
                (try rw [c633] at ov626)
                (try rw [c600] at ov626)
                (try rw [c603] at ov626)
                (try rw [c605] at ov626)
                refine tr_aload_n dX12_readRising_54 hl55 ?_
                refine q_getI dX12_readRising_55 fl12_99 (kR15 hS616.1 ta0) c628 ?_
                refine q_iconst dX12_readRising_58 (by decide) ?_
                intro v634 h635
                refine q_icmp_ne 64 dX12_readRising_59 (by decide) (fun h636 => ?_) (fun h636 => ?_)
                · skip
                  exfalso; omega
                · skip
                  refine q_iconst dX12_readRising_62 (by decide) ?_
                  intro v637 h638
                  obtain ⟨v639, c640⟩ : ∃ v, I607 a0 10 = v := ⟨_, rfl⟩
                  have b641 := iv15_10 hS616.1 ta0 c640
                  obtain ⟨v642, c643⟩ : ∃ v, I607 a0 11 = v := ⟨_, rfl⟩
                  obtain ⟨y644, c645⟩ : ∃ v, L609 a0 15 = v := ⟨_, rfl⟩
                  obtain ⟨v646, c647⟩ : ∃ v, I607 a0 12 = v := ⟨_, rfl⟩
                  exact tr_iret hZ dX12_readRising_63 rfl (by decide) (by decide) ⟨v637, rfl, rfl, rfl, rfl, rfl, hS616, (by omega), (fun j hj => (Eq.trans ((g610.cell ta1 (wm_no (by decide +kernel))).trans (g388.cell ta1 (wm_no (by decide +kernel)))) (rw102 j hj))), hO625, (Or.inr (⟨(by rw [← g83]; simp only [riF, ↓reduceIte]; repeat' (first | split | omega)), (by (try rw [c628]); first | done | with_reducible assumption | omega), (by (try rw [c631]); rw [← g83]; simp only [riF, ↓reduceIte]; repeat' (first | split | omega)), (by (try rw [c633]); rw [← g84]; simp only [riP, ↓reduceIte]; repeat' (first | split | omega)), trivial⟩)), trivial⟩
              · skip
                exfalso; omega
  exact lp103 _ _ v46 v48 v50 I0 L0 (gs) (8) v44 v13 v18 v22 y25 v28 v31 rfl rfl rfl rfl rfl rfl rfl hS0 hL0 hO0 c45 c14 c19 c23 c26 c29 c32 (by first | rfl | (congr 1; omega) | (congr 2 <;> omega)) (by first | rfl | (congr 1; omega) | (congr 2 <;> omega)) (by first | rfl | (congr 1; omega) | (congr 2 <;> omega)) (by omega) (by omega) (by omega) (by omega) (by omega) (by omega) (by omega) (by omega) (by omega) (by omega) (by omega) (by omega) (by assumption) (by assumption) (by assumption) ⟨by rw [show v46.toInt.toNat = 0 by omega]; rfl, fun k hk => by omega⟩ (fun j hj => rfl) (Nat.lt_succ_self _)
set_option maxHeartbeats 4000000 in
theorem fo_X12_readRising {l : Launch} {T : Nat → Nat} {cn : Nat} {K N : Nat → Nat} {I0 : cz_I} {R0 : cz_R} {L0 : cz_L} {d : Int} (hW0 : Wf T cn K N I0 R0 d)  {a0 : Nat} (ta0 : T a0 = 15) {a1 : Nat} (ta1 : T a1 = 59) {x2 : Int32} (hx2 : 0 ≤ x2.toInt ∧ x2.toInt ≤ 0) {x3 : Int32} (hx3 : 8 ≤ x3.toInt ∧ x3.toInt ≤ 8) (pre0 : (I0 a0 9).toInt = 5) : ConE l mX12_readRising [.ref a0, .ref a1, .int x2, .int x3] cn K N I0 R0 L0 (ca_i (fun v cn' K' N' I' R' L' => cn = cn' ∧ K = K' ∧ N = N' ∧ I0 = I' ∧ R0 = R' ∧ L0 = L' ∧ (v.toInt = 0) ∧ True)) := by
  refine ConE.of (by decide +kernel) rfl (Nat.le_of_ble_eq_true rfl) rfl (fun X hX hZ hE => ?_)
  subst hX
  obtain ⟨v11, c12⟩ : ∃ v, I0 a0 9 = v := ⟨_, rfl⟩
  have b13 := iv15_9 hW0 ta0 c12
  have p14 := pre0
  rw [c12] at p14
  obtain ⟨v15, c16⟩ : ∃ v, I0 a0 13 = v := ⟨_, rfl⟩
  refine q_iconst dX12_readRising_0 (by decide) ?_
  intro v17 h18
  refine tr_istore dX12_readRising_1 (by decide) (by decide) ?_
  refine q_iconst dX12_readRising_3 (by decide) ?_
  intro v19 h20
  refine tr_istore dX12_readRising_4 (by decide) (by decide) ?_
  refine q_iconst dX12_readRising_6 (by decide) ?_
  intro v21 h22
  refine tr_istore dX12_readRising_7 (by decide) (by decide) ?_
  refine tr_iload dX12_readRising_9 rfl ?_
  refine q_if_eq 92 dX12_readRising_11 (by decide) (fun h23 => ?_) (fun h23 => ?_)
  · skip
    exfalso; omega
  · skip
    refine tr_aload_n dX12_readRising_14 rfl ?_
    refine q_getI dX12_readRising_15 fl12_99 (kR15 hW0 ta0) c12 ?_
    refine q_iconst dX12_readRising_18 (by decide) ?_
    intro v24 h25
    refine q_icmp_eq 92 dX12_readRising_19 (by decide) (fun h26 => ?_) (fun h26 => ?_)
    · skip
      refine tr_iload dX12_readRising_92 rfl ?_
      exact tr_iret hZ dX12_readRising_94 rfl (by decide) (by decide) ⟨v17, rfl, rfl, rfl, rfl, rfl, rfl, rfl, (by first | done | with_reducible assumption | omega), trivial⟩
    · skip
      exfalso; omega
def wik_X12_readAlmanac : List Nat := [904, 905, 968, 969, 970, 971, 972, 973, 974, 3839]
def wrk_X12_readAlmanac : List Nat := []
def wlk_X12_readAlmanac : List Nat := [975]
set_option maxHeartbeats 4000000 in
theorem fk_X12_readAlmanac {l : Launch} {T : Nat → Nat} {cn : Nat} {K N : Nat → Nat} {I0 : cz_I} {R0 : cz_R} {L0 : cz_L} (hW0 : Wf T cn K N I0 R0 0) (gB : cz_B) (gs : Int) (gQ : Nat → Int) {a0 : Nat} (ta0 : T a0 = 15) (hT : ∀ t, R0 a0 5 = some t → Tx I0 t gB) (hN : ∀ b, R0 a0 4 = some b → NmM I0 R0 L0 b gQ) (pre0 : (I0 a0 9).toInt = (tkM gB gs)) (pre1 : (I0 a0 9).toInt ≤ 4) (pre2 : (I0 a0 10).toInt = (tkS gB gs)) (pre3 : (I0 a0 11).toInt = (tkG gB gs)) (pre4 : (AtW ((tkK gB gs)) ((L0 a0 15).toInt) ((tkW gB gs)))) (pre5 : (AtV ((tkK gB gs)) ((I0 a0 12).toInt) ((tkV gB gs)))) (pre6 : (AtN ((tkK gB gs)) ((I0 a0 8).toInt) ((tkN gB gs)))) (pre7 : (I0 a0 7).toInt = (gB.2)) (pre8 : ∀ b1, R0 a0 4 = some b1 → (I0 b1 0).toInt = (gQ 0)) (pre9 : ∀ b1, R0 a0 4 = some b1 → (I0 b1 1).toInt = (gQ 1)) (pre10 : ∀ b1, R0 a0 4 = some b1 → (I0 b1 2).toInt = (gQ 2)) (pre11 : ∀ b1, R0 a0 4 = some b1 → (I0 b1 3).toInt = (gQ 3)) (pre12 : ∀ b1, R0 a0 4 = some b1 → (I0 b1 4).toInt = (gQ 4)) (pre13 : ∀ b1, R0 a0 4 = some b1 → (I0 b1 5).toInt = (gQ 5)) (pre14 : ∀ b1, R0 a0 4 = some b1 → (I0 b1 6).toInt = (gQ 6)) (pre15 : ∀ b1, R0 a0 4 = some b1 → (I0 b1 9).toInt = (gQ 8)) (pre16 : (Q7M ((gQ 0)) ((gQ 7)))) (pre17 : (tkK gB gs) = 1) (pre18 : (srt gB gs) = 6) (nn4 : ∃ b, R0 a0 4 = some b) : ConE l mX12_readAlmanac [.ref a0] cn K N I0 R0 L0 (ca_v (fun cn' K' N' I' R' L' => cn = cn' ∧ K = K' ∧ N = N' ∧ R0 = R' ∧ St T cn K N 0 wik_X12_readAlmanac wrk_X12_readAlmanac I0 R0 I' R0 ∧ (∀ b, R0 a0 4 = some b → FrM R0 b T I0 I') ∧ (∀ dr, R0 a0 4 = some dr → FrO 14 dr T I0 I') ∧ ((((lnF gB gQ gs) = 0) ∧ (∀ b1, R0 a0 4 = some b1 → (I' b1 0).toInt = (lnQ gB gQ gs 0)) ∧ (∀ b1, R0 a0 4 = some b1 → (I' b1 1).toInt = (lnQ gB gQ gs 1)) ∧ (∀ b1, R0 a0 4 = some b1 → (I' b1 2).toInt = (lnQ gB gQ gs 2)) ∧ (∀ b1, R0 a0 4 = some b1 → (I' b1 3).toInt = (lnQ gB gQ gs 3)) ∧ (∀ b1, R0 a0 4 = some b1 → (I' b1 4).toInt = (lnQ gB gQ gs 4)) ∧ (∀ b1, R0 a0 4 = some b1 → (I' b1 5).toInt = (lnQ gB gQ gs 5)) ∧ (∀ b1, R0 a0 4 = some b1 → (I' b1 6).toInt = (lnQ gB gQ gs 6)) ∧ (∀ b1, R0 a0 4 = some b1 → (I' b1 9).toInt = (lnQ gB gQ gs 8)) ∧ ((I' a0 13).toInt = (I0 a0 13).toInt) ∧ ((I' a0 9).toInt = (tkM gB (lnS gB gQ gs))) ∧ ((I' a0 9).toInt ≤ 4) ∧ ((I' a0 10).toInt = (tkS gB (lnS gB gQ gs))) ∧ ((I' a0 11).toInt = (tkG gB (lnS gB gQ gs))) ∧ ((AtW ((tkK gB (lnS gB gQ gs))) ((L' a0 15).toInt) ((tkW gB (lnS gB gQ gs))))) ∧ ((AtV ((tkK gB (lnS gB gQ gs))) ((I' a0 12).toInt) ((tkV gB (lnS gB gQ gs))))) ∧ ((AtN ((tkK gB (lnS gB gQ gs))) ((I' a0 8).toInt) ((tkN gB (lnS gB gQ gs))))) ∧ LgS T wlk_X12_readAlmanac L0 L' ∧ (∀ b, R0 a0 4 = some b → NmM I' R0 L' b (lnQ gB gQ gs)) ∧ (∀ E b, R0 a0 4 = some b → AlM I0 R0 b gQ E → AlM I' R0 b (lnQ gB gQ gs) (lnE gB gQ gs E)) ∧ True) ∨ (((lnF gB gQ gs) ≠ 0) ∧ ((I' a0 9).toInt = 5) ∧ ((I' a0 13).toInt = (lnF gB gQ gs)) ∧ ((I' a0 14).toInt = (lnP gB gQ gs)) ∧ True)) ∧ True)) := by
  refine ConE.of (by decide +kernel) rfl (Nat.le_of_ble_eq_true rfl) rfl (fun X hX hZ hE => ?_)
  subst hX
  have hS0 : St T cn K N 0 wik_X12_readAlmanac wrk_X12_readAlmanac I0 R0 I0 R0 := St.rf0 hW0
  have hL0 : LgS T wlk_X12_readAlmanac L0 L0 := LgS.rf0
  obtain ⟨a1, d2⟩ := nn4
  have ta1 : T a1 = 14 := hW0.rsN ta0 rfl d2
  obtain ⟨v3, c4⟩ : ∃ v, I0 a0 9 = v := ⟨_, rfl⟩
  have b5 := iv15_9 hS0.1 ta0 c4
  have p6 := pre0
  rw [c4] at p6
  have p7 := pre1
  rw [c4] at p7
  obtain ⟨v8, c9⟩ : ∃ v, I0 a0 10 = v := ⟨_, rfl⟩
  have b10 := iv15_10 hS0.1 ta0 c9
  have p11 := pre2
  rw [c9] at p11
  obtain ⟨v12, c13⟩ : ∃ v, I0 a0 11 = v := ⟨_, rfl⟩
  have p14 := pre3
  rw [c13] at p14
  obtain ⟨y15, c16⟩ : ∃ v, L0 a0 15 = v := ⟨_, rfl⟩
  have p17 := pre4
  rw [c16] at p17
  obtain ⟨v18, c19⟩ : ∃ v, I0 a0 12 = v := ⟨_, rfl⟩
  have p20 := pre5
  rw [c19] at p20
  obtain ⟨v21, c22⟩ : ∃ v, I0 a0 8 = v := ⟨_, rfl⟩
  have b23 := iv15_8 hS0.1 ta0 c22
  have p24 := pre6
  rw [c22] at p24
  obtain ⟨v25, c26⟩ : ∃ v, I0 a0 7 = v := ⟨_, rfl⟩
  have b27 := iv15_7 hW0 ta0 c26
  have p28 := pre7
  rw [c26] at p28
  obtain ⟨v29, c30⟩ : ∃ v, I0 a1 0 = v := ⟨_, rfl⟩
  have b31 := iv14_0 hW0 ta1 c30
  have p32 := pre8 _ d2
  rw [c30] at p32
  obtain ⟨v33, c34⟩ : ∃ v, I0 a1 1 = v := ⟨_, rfl⟩
  have b35 := iv14_1 hW0 ta1 c34
  have p36 := pre9 _ d2
  rw [c34] at p36
  obtain ⟨v37, c38⟩ : ∃ v, I0 a1 2 = v := ⟨_, rfl⟩
  have b39 := iv14_2 hW0 ta1 c38
  have p40 := pre10 _ d2
  rw [c38] at p40
  obtain ⟨v41, c42⟩ : ∃ v, I0 a1 3 = v := ⟨_, rfl⟩
  have b43 := iv14_3 hW0 ta1 c42
  have p44 := pre11 _ d2
  rw [c42] at p44
  obtain ⟨v45, c46⟩ : ∃ v, I0 a1 4 = v := ⟨_, rfl⟩
  have b47 := iv14_4 hW0 ta1 c46
  have p48 := pre12 _ d2
  rw [c46] at p48
  obtain ⟨v49, c50⟩ : ∃ v, I0 a1 5 = v := ⟨_, rfl⟩
  have b51 := iv14_5 hW0 ta1 c50
  have p52 := pre13 _ d2
  rw [c50] at p52
  obtain ⟨v53, c54⟩ : ∃ v, I0 a1 6 = v := ⟨_, rfl⟩
  have b55 := iv14_6 hW0 ta1 c54
  have p56 := pre14 _ d2
  rw [c54] at p56
  obtain ⟨v57, c58⟩ : ∃ v, I0 a1 9 = v := ⟨_, rfl⟩
  have b59 := iv14_9 hS0.1 ta1 c58
  have p60 := pre15 _ d2
  rw [c58] at p60
  have p61 := pre16
  have p62 := pre17
  have p63 := pre18
  obtain ⟨v64, c65⟩ : ∃ v, I0 a0 13 = v := ⟨_, rfl⟩
  have hM0 := hN _ d2
  have hO0 : FrO 14 a1 T I0 I0 := FrO.rf
  obtain ⟨a66, d67, ta66⟩ := rf14_16 hW0 ta1
  have hF := lnF_ch gB gQ gs
  have hP := lnP_ch gB gQ gs
  replace hF := hF.neg (by omega)
  replace hP := hP.neg (by omega)
  refine tr_aload_n dX12_readAlmanac_0 rfl ?_
  refine tr_getR dX12_readAlmanac_1 fl12_188 (kR15 hS0.1 ta0) d2 ?_
  refine q_getZ dX12_readAlmanac_4 fl12_302 (kR14 hS0.1 ta1) c58 ?_
  refine q_if_eq 15 dX12_readAlmanac_7 (by decide) (fun h68 => ?_) (fun h68 => ?_)
  · skip
    replace hF := hF.neg (by omega)
    replace hP := hP.neg (by omega)
    refine tr_aload_n dX12_readAlmanac_15 rfl ?_
    refine q_iconst dX12_readAlmanac_16 (by decide) ?_
    intro v69 h70
    refine q_iconst dX12_readAlmanac_17 (by decide) ?_
    intro v71 h72
    refine q_callVv hE (M' := mX12_begins) (as := [_, _]) dX12_readAlmanac_18 lk12_268 inX12_begins seX12_begins myX12_begins (by decide) ⟨by decide, by decide⟩ rfl (kR15 hS0.1 ta0) (Nat.le_of_ble_eq_true rfl) rfl rfl (by decide) (by decide) (fk_X12_begins hS0.1 (gB) (gs) (gQ) ta0 (TxA.kp hT hS0 ta0 rfl rfl rfl (by decide +kernel) (by decide +kernel)) (by (try rw [c4]); first | done | with_reducible assumption | omega) (by (try rw [c4]); first | done | with_reducible assumption | omega) (by (try rw [c9]); first | done | with_reducible assumption | omega) (by (try rw [c13]); first | done | with_reducible assumption | omega) (by (try rw [c16]); first | done | assumption) (by (try rw [c19]); first | done | assumption) (by (try rw [c22]); first | done | assumption) (by (try rw [c26]); first | done | with_reducible assumption | omega) (fun q0 z0 => by obtain rfl := Option.some.inj ((d2).symm.trans z0); (try rw [c30]); first | done | with_reducible assumption | omega) (by first | done | with_reducible assumption | omega) ⟨_, d2⟩) ?_
    rintro cn' K' N' I73 R74 L75 ⟨rfl, rfl, rfl, rfl, g76, dj79, -⟩
    have hM80 : NmM I73 R0 L0 a1 gQ := NmM.kpS hM0 g76 hS0.1 ta1 (by decide +kernel) (by decide +kernel)
    have hS81 := hS0.tr g76 (by decide +kernel) (by decide +kernel)
    have c82 : I73 a1 9 = v57 := (g76.cell ta1 (by decide +kernel)).trans c58
    have hO83 : FrO 14 a1 T I0 I73 := hO0.st g76 (by decide +kernel)
    rcases dj79 with ⟨p84, p85, p86, p87, p88, p89, p90, p91, p92, p93, gl94, -⟩ | ⟨p95, p96, p97, p98, -⟩ | ⟨p99, p100, p101, p102, p103, -⟩
    · skip
      have hL104 := hL0.tr gl94 (by decide +kernel)
      have hM105 : NmM I73 R0 L75 a1 gQ := NmM.kpL hM80 gl94 hS81.1 ta1 (by decide +kernel)
      obtain ⟨v106, c107⟩ : ∃ v, I73 a0 13 = v := ⟨_, rfl⟩
      rw [c107] at p86
      rw [c65] at p86
      obtain ⟨v108, c109⟩ : ∃ v, I73 a0 9 = v := ⟨_, rfl⟩
      have b110 := iv15_9 hS81.1 ta0 c109
      rw [c109] at p87
      rw [c109] at p88
      obtain ⟨v111, c112⟩ : ∃ v, I73 a0 10 = v := ⟨_, rfl⟩
      have b113 := iv15_10 hS81.1 ta0 c112
      rw [c112] at p89
      obtain ⟨v114, c115⟩ : ∃ v, I73 a0 11 = v := ⟨_, rfl⟩
      rw [c115] at p90
      obtain ⟨y116, c117⟩ : ∃ v, L75 a0 15 = v := ⟨_, rfl⟩
      rw [c117] at p91
      obtain ⟨v118, c119⟩ : ∃ v, I73 a0 12 = v := ⟨_, rfl⟩
      rw [c119] at p92
      obtain ⟨v120, c121⟩ : ∃ v, I73 a0 8 = v := ⟨_, rfl⟩
      have b122 := iv15_8 hS81.1 ta0 c121
      rw [c121] at p93
      have p123 := p61
      unfold Q7M at p123
      replace hF := hF.neg (by omega)
      replace hP := hP.neg (by omega)
      replace hF := hF.neg (by omega)
      replace hP := hP.neg (by omega)
      clear p123
      obtain ⟨w124, w125, w126, w127, w128, w129, w130, w131, w132, w133, w134, w135⟩ := lnl_6 (B := gB) (Q := gQ) (s := gs) (by omega)
      replace hF := hF.to w124 (show ChE (riF gB gQ 8 0 (tkN gB gs)) (riF gB gQ 8 0 (tkN gB gs)) from rfl)
      replace hP := hP.to w125 (show ChE (riP gB gQ 8 0 (tkN gB gs)) (riP gB gQ 8 0 (tkN gB gs)) from rfl)
      refine tr_aload_n dX12_readAlmanac_21 rfl ?_
      refine tr_aload_n dX12_readAlmanac_22 rfl ?_
      refine tr_getR dX12_readAlmanac_23 fl12_188 (kR15 hS81.1 ta0) d2 ?_
      refine tr_getR dX12_readAlmanac_26 fl12_306 (kR14 hS81.1 ta1) d67 ?_
      refine q_iconst dX12_readAlmanac_29 (by decide) ?_
      intro v136 h137
      refine q_bipush dX12_readAlmanac_30 (by decide +kernel) ?_
      intro v138 h139
      refine q_callVi hE (M' := mX12_readRising) (as := [_, _, _]) dX12_readAlmanac_32 lk12_308 inX12_readRising seX12_readRising myX12_readRising (by decide) ⟨by decide, by decide⟩ rfl (kR15 hS81.1 ta0) (Nat.le_of_ble_eq_true rfl) rfl rfl (by decide) (by decide) (fk_X12_readRising hS81.1 (gB) ((tkN gB gs)) (gQ) ta0 ta66 (by omega) (by omega) (TxA.kp hT hS81 ta0 rfl rfl rfl (by decide +kernel) (by decide +kernel)) (by (try rw [c109]); first | done | with_reducible assumption | omega) (by (try rw [c109]); first | done | with_reducible assumption | omega) (by (try rw [c112]); first | done | with_reducible assumption | omega) (by (try rw [c115]); first | done | with_reducible assumption | omega) (by (try rw [c117]); first | done | assumption) (by (try rw [c119]); first | done | assumption) (by (try rw [c121]); first | done | assumption) (by (try rw [((hS81.cell ta0 (by decide +kernel)).trans c26)]); first | done | with_reducible assumption | omega) (fun q0 z0 => by obtain rfl := Option.some.inj ((d2).symm.trans z0); (try rw [((hS81.cell ta1 (by decide +kernel)).trans c30)]); first | done | with_reducible assumption | omega) (by first | done | with_reducible assumption | omega) ⟨_, d2⟩) ?_
      rintro v145 cn' K' N' I140 R141 L142 ⟨rfl, rfl, rfl, rfl, g143, h146, rp147, rp148, dj149, -⟩
      have hM150 : NmM I140 R0 L75 a1 gQ := NmM.kpS hM105 g143 hS81.1 ta1 (by decide +kernel) (by decide +kernel)
      have hS151 := hS81.tr g143 (by decide +kernel) (by decide +kernel)
      have c152 : I140 a1 9 = v57 := (g143.cell ta1 (by decide +kernel)).trans c82
      have hO153 : FrO 14 a1 T I0 I140 := hO83.st g143 (by decide +kernel)
      rcases dj149 with ⟨p154, p155, p156, p157, p158, p159, p160, p161, p162, p163, gl164, rp165, -⟩ | ⟨p166, p167, p168, p169, -⟩
      · skip
        have hL170 := hL104.tr gl164 (by decide +kernel)
        have hM171 : NmM I140 R0 L142 a1 gQ := NmM.kpL hM150 gl164 hS151.1 ta1 (by decide +kernel)
        obtain ⟨v172, c173⟩ : ∃ v, I140 a0 13 = v := ⟨_, rfl⟩
        rw [c173] at p155
        rw [c107] at p155
        obtain ⟨v174, c175⟩ : ∃ v, I140 a0 9 = v := ⟨_, rfl⟩
        have b176 := iv15_9 hS151.1 ta0 c175
        rw [c175] at p156
        rw [c175] at p157
        obtain ⟨v177, c178⟩ : ∃ v, I140 a0 10 = v := ⟨_, rfl⟩
        have b179 := iv15_10 hS151.1 ta0 c178
        rw [c178] at p158
        obtain ⟨v180, c181⟩ : ∃ v, I140 a0 11 = v := ⟨_, rfl⟩
        rw [c181] at p159
        obtain ⟨y182, c183⟩ : ∃ v, L142 a0 15 = v := ⟨_, rfl⟩
        rw [c183] at p160
        obtain ⟨v184, c185⟩ : ∃ v, I140 a0 12 = v := ⟨_, rfl⟩
        rw [c185] at p161
        obtain ⟨v186, c187⟩ : ∃ v, I140 a0 8 = v := ⟨_, rfl⟩
        have b188 := iv15_8 hS151.1 ta0 c187
        rw [c187] at p162
        refine tr_istore_n dX12_readAlmanac_35 (by decide) (by decide) ?_
        refine tr_aload_n dX12_readAlmanac_36 rfl ?_
        refine q_getI dX12_readAlmanac_37 fl12_99 (kR15 hS151.1 ta0) c175 ?_
        refine q_iconst dX12_readAlmanac_40 (by decide) ?_
        intro v189 h190
        refine q_icmp_ne 45 dX12_readAlmanac_41 (by decide) (fun h191 => ?_) (fun h191 => ?_)
        · skip
          refine tr_aload_n dX12_readAlmanac_45 rfl ?_
          refine tr_getR dX12_readAlmanac_46 fl12_188 (kR15 hS151.1 ta0) d2 ?_
          refine tr_iload_n dX12_readAlmanac_49 rfl ?_
          refine q_putI dX12_readAlmanac_50 fl12_312 (kR14 hS151.1 ta1) (Or.inl rfl) hS151 ta1 (by show (0 : Int) ≤ v145.toInt ∧ v145.toInt ≤ (8 : Int); omega) rfl (by decide +kernel) ?_
          intro I192 hS193 e194 f195
          have c196 : I192 a1 9 = v57 := (f195 _ _ (fun q => absurd q.2 (by decide))).trans c152
          have c197 : I192 a0 13 = v172 := (f195 _ _ (fun q => absurd q.2 (by decide))).trans c173
          have c198 : I192 a0 9 = v174 := (f195 _ _ (fun q => absurd q.2 (by decide))).trans c175
          have c199 : I192 a0 10 = v177 := (f195 _ _ (fun q => absurd q.2 (by decide))).trans c178
          have c200 : I192 a0 11 = v180 := (f195 _ _ (fun q => absurd q.2 (by decide))).trans c181
          have c201 : I192 a0 12 = v184 := (f195 _ _ (fun q => absurd q.2 (by decide))).trans c185
          have c202 : I192 a0 8 = v186 := (f195 _ _ (fun q => by have z := ta0; rw [q.1, ta1] at z; exact absurd z (by decide))).trans c187
          have hO203 : FrO 14 a1 T I0 I192 := hO153.put f195 ta1 (Or.inr rfl)
          have hM204 : NmM I192 R0 L142 a1 gQ := NmM.kp1 hM171 f195 ta1 rfl rfl hS151.1 ta1
          refine tr_aload_n dX12_readAlmanac_53 rfl ?_
          refine tr_getR dX12_readAlmanac_54 fl12_188 (kR15 hS193.1 ta0) d2 ?_
          refine q_iconst dX12_readAlmanac_57 (by decide) ?_
          intro v205 h206
          refine q_putZ dX12_readAlmanac_58 fl12_302 (kR14 hS193.1 ta1) (Or.inl rfl) hS193 ta1 (by omega) (by show (0 : Int) ≤ v205.toInt ∧ v205.toInt ≤ (1 : Int); omega) rfl (by decide +kernel) ?_
          intro I207 hS208 e209 f210
          have c211 : I207 a0 13 = v172 := (f210 _ _ (fun q => absurd q.2 (by decide))).trans c197
          have c212 : I207 a0 9 = v174 := (f210 _ _ (fun q => by have z := ta0; rw [q.1, ta1] at z; exact absurd z (by decide))).trans c198
          have c213 : I207 a0 10 = v177 := (f210 _ _ (fun q => absurd q.2 (by decide))).trans c199
          have c214 : I207 a0 11 = v180 := (f210 _ _ (fun q => absurd q.2 (by decide))).trans c200
          have c215 : I207 a0 12 = v184 := (f210 _ _ (fun q => absurd q.2 (by decide))).trans c201
          have c216 : I207 a0 8 = v186 := (f210 _ _ (fun q => absurd q.2 (by decide))).trans c202
          have c217 : I207 a1 8 = v145 := (f210 _ _ (fun q => absurd q.2 (by decide))).trans e194
          have hO218 : FrO 14 a1 T I0 I207 := hO203.put f210 ta1 (Or.inr rfl)
          have hM219 : NmM I207 R0 L142 a1 gQ := NmM.kp1 hM204 f210 ta1 rfl rfl hS193.1 ta1
          have eF := hF.eq
          have eP := hP.eq
          obtain ⟨v220, c221⟩ : ∃ v, I207 a0 14 = v := ⟨_, rfl⟩
          exact tr_vret hZ dX12_readAlmanac_61 rfl (by decide) (by decide) ⟨rfl, rfl, rfl, rfl, rfl, hS208, (fun b hb => (Option.some.inj (d2.symm.trans hb)) ▸ (((((FrM.rf (R := R0) (b := a1) (T := T)).st g76 (by decide +kernel)).fro rp148 g143 (by decide) (by decide) d67 (by decide +kernel)).put f195 ta1 (by decide)).put f210 ta1 (by decide))), (fun dr hd => (Option.some.inj (d2.symm.trans hd)) ▸ hO218), (Or.inl ⟨(by (try rw [w126]); first | done | with_reducible assumption | omega), (fun q0 z0 => by obtain rfl := Option.some.inj ((d2).symm.trans z0); (try rw [w126]); (try rw [((hS208.cell ta1 (by decide +kernel)).trans c30)]); first | done | with_reducible assumption | omega), (fun q0 z0 => by obtain rfl := Option.some.inj ((d2).symm.trans z0); (try rw [w126]); (try rw [((hS208.cell ta1 (by decide +kernel)).trans c34)]); first | done | with_reducible assumption | omega), (fun q0 z0 => by obtain rfl := Option.some.inj ((d2).symm.trans z0); (try rw [w126]); (try rw [((hS208.cell ta1 (by decide +kernel)).trans c38)]); first | done | with_reducible assumption | omega), (fun q0 z0 => by obtain rfl := Option.some.inj ((d2).symm.trans z0); (try rw [w126]); (try rw [((hS208.cell ta1 (by decide +kernel)).trans c42)]); first | done | with_reducible assumption | omega), (fun q0 z0 => by obtain rfl := Option.some.inj ((d2).symm.trans z0); (try rw [w126]); (try rw [((hS208.cell ta1 (by decide +kernel)).trans c46)]); first | done | with_reducible assumption | omega), (fun q0 z0 => by obtain rfl := Option.some.inj ((d2).symm.trans z0); (try rw [w126]); (try rw [((hS208.cell ta1 (by decide +kernel)).trans c50)]); first | done | with_reducible assumption | omega), (fun q0 z0 => by obtain rfl := Option.some.inj ((d2).symm.trans z0); (try rw [w126]); (try rw [((hS208.cell ta1 (by decide +kernel)).trans c54)]); first | done | with_reducible assumption | omega), (fun q0 z0 => by obtain rfl := Option.some.inj ((d2).symm.trans z0); (try rw [w126]); (try rw [e209]); first | done | with_reducible assumption | omega), (by (try rw [w126]); (try rw [c211]); (try rw [c65]); first | done | with_reducible assumption | omega), (by (try rw [w126]); (try rw [c212]); first | done | with_reducible assumption | omega), (by (try rw [w126]); (try rw [c212]); first | done | with_reducible assumption | omega), (by (try rw [w126]); (try rw [c213]); first | done | with_reducible assumption | omega), (by (try rw [w126]); (try rw [c214]); first | done | with_reducible assumption | omega), (by (try rw [w126]); (try rw [c183]); first | done | assumption), (by (try rw [w126]); (try rw [c215]); first | done | assumption), (by (try rw [w126]); (try rw [c216]); first | done | assumption), hL170, (fun b hb => (Option.some.inj (d2.symm.trans hb)) ▸ NmM.ln (NmM.bd (k := srt gB gs) hM219 (by omega) (by omega)) rfl), (fun E b hb hE => by obtain rfl := Option.some.inj (d2.symm.trans hb); exact AlM.am hE hW0 ta1 (by omega) (by rw [c217]; omega) (RoF.st (ex := xr 59 59) hS208 (by decide +kernel)) (fun a ha k hk => by obtain rfl := Option.some.inj (d67.symm.trans ha); have z := rp165 k hk; rw [show v136.toInt.toNat + k = k by omega] at z; exact (congrArg Int32.toInt ((f210 _ _ (fun q => by have z := ta66; rw [q.1, ta1] at z; exact absurd z (by decide))).trans (f195 _ _ (fun q => by have z := ta66; rw [q.1, ta1] at z; exact absurd z (by decide))))).trans z)), trivial⟩), trivial⟩
        · skip
          exfalso; omega
      · skip
        obtain ⟨v222, c223⟩ : ∃ v, I140 a0 9 = v := ⟨_, rfl⟩
        have b224 := iv15_9 hS151.1 ta0 c223
        rw [c223] at p167
        obtain ⟨v225, c226⟩ : ∃ v, I140 a0 13 = v := ⟨_, rfl⟩
        rw [c226] at p168
        obtain ⟨v227, c228⟩ : ∃ v, I140 a0 14 = v := ⟨_, rfl⟩
        rw [c228] at p169
        refine tr_istore_n dX12_readAlmanac_35 (by decide) (by decide) ?_
        refine tr_aload_n dX12_readAlmanac_36 rfl ?_
        refine q_getI dX12_readAlmanac_37 fl12_99 (kR15 hS151.1 ta0) c223 ?_
        refine q_iconst dX12_readAlmanac_40 (by decide) ?_
        intro v229 h230
        refine q_icmp_ne 45 dX12_readAlmanac_41 (by decide) (fun h231 => ?_) (fun h231 => ?_)
        · skip
          exfalso; omega
        · skip
          have eF := hF.eq
          have eP := hP.eq
          obtain ⟨v232, c233⟩ : ∃ v, I140 a0 10 = v := ⟨_, rfl⟩
          have b234 := iv15_10 hS151.1 ta0 c233
          obtain ⟨v235, c236⟩ : ∃ v, I140 a0 11 = v := ⟨_, rfl⟩
          obtain ⟨y237, c238⟩ : ∃ v, L142 a0 15 = v := ⟨_, rfl⟩
          obtain ⟨v239, c240⟩ : ∃ v, I140 a0 12 = v := ⟨_, rfl⟩
          obtain ⟨v241, c242⟩ : ∃ v, I140 a0 8 = v := ⟨_, rfl⟩
          have b243 := iv15_8 hS151.1 ta0 c242
          exact tr_vret hZ dX12_readAlmanac_44 rfl (by decide) (by decide) ⟨rfl, rfl, rfl, rfl, rfl, hS151, (fun b hb => (Option.some.inj (d2.symm.trans hb)) ▸ (((FrM.rf (R := R0) (b := a1) (T := T)).st g76 (by decide +kernel)).fro rp148 g143 (by decide) (by decide) d67 (by decide +kernel))), (fun dr hd => (Option.some.inj (d2.symm.trans hd)) ▸ hO153), (Or.inr (⟨(by (try rw [w126]); first | done | with_reducible assumption | omega), (by (try rw [w126]); (try rw [c223]); first | done | with_reducible assumption | omega), (by (try rw [w126]); (try rw [c226]); first | done | with_reducible assumption | omega), (by (try rw [w126]); (try rw [c228]); first | done | with_reducible assumption | omega), trivial⟩)), trivial⟩
    · skip
      obtain ⟨v244, c245⟩ : ∃ v, I73 a0 9 = v := ⟨_, rfl⟩
      have b246 := iv15_9 hS81.1 ta0 c245
      rw [c245] at p96
      obtain ⟨v247, c248⟩ : ∃ v, I73 a0 13 = v := ⟨_, rfl⟩
      rw [c248] at p97
      obtain ⟨v249, c250⟩ : ∃ v, I73 a0 14 = v := ⟨_, rfl⟩
      rw [c250] at p98
      exfalso; omega
    · skip
      obtain ⟨v251, c252⟩ : ∃ v, I73 a0 9 = v := ⟨_, rfl⟩
      have b253 := iv15_9 hS81.1 ta0 c252
      rw [c252] at p101
      obtain ⟨v254, c255⟩ : ∃ v, I73 a0 13 = v := ⟨_, rfl⟩
      rw [c255] at p102
      obtain ⟨v256, c257⟩ : ∃ v, I73 a0 14 = v := ⟨_, rfl⟩
      rw [c257] at p103
      have p258 := p61
      unfold Q7M at p258
      replace hF := hF.neg (by omega)
      replace hP := hP.neg (by omega)
      replace hF := hF.pos (by omega)
      replace hP := hP.pos (by omega)
      clear p258
      refine tr_aload_n dX12_readAlmanac_21 rfl ?_
      refine tr_aload_n dX12_readAlmanac_22 rfl ?_
      refine tr_getR dX12_readAlmanac_23 fl12_188 (kR15 hS81.1 ta0) d2 ?_
      refine tr_getR dX12_readAlmanac_26 fl12_306 (kR14 hS81.1 ta1) d67 ?_
      refine q_iconst dX12_readAlmanac_29 (by decide) ?_
      intro v259 h260
      refine q_bipush dX12_readAlmanac_30 (by decide +kernel) ?_
      intro v261 h262
      refine q_callVi hE (M' := mX12_readRising) (as := [_, _, _]) dX12_readAlmanac_32 lk12_308 inX12_readRising seX12_readRising myX12_readRising (by decide) ⟨by decide, by decide⟩ rfl (kR15 hS81.1 ta0) (Nat.le_of_ble_eq_true rfl) rfl rfl (by decide) (by decide) (fo_X12_readRising hS81.1  ta0 ta66 (by omega) (by omega) (by (try rw [c252]); first | done | with_reducible assumption | omega)) ?_
      rintro v268 cn' K' N' I263 R264 L265 ⟨rfl, rfl, rfl, rfl, rfl, rfl, p269, -⟩
      refine tr_istore_n dX12_readAlmanac_35 (by decide) (by decide) ?_
      refine tr_aload_n dX12_readAlmanac_36 rfl ?_
      refine q_getI dX12_readAlmanac_37 fl12_99 (kR15 hS81.1 ta0) c252 ?_
      refine q_iconst dX12_readAlmanac_40 (by decide) ?_
      intro v270 h271
      refine q_icmp_ne 45 dX12_readAlmanac_41 (by decide) (fun h272 => ?_) (fun h272 => ?_)
      · skip
        exfalso; omega
      · skip
        have eF := hF.eq
        have eP := hP.eq
        obtain ⟨v273, c274⟩ : ∃ v, I73 a0 10 = v := ⟨_, rfl⟩
        have b275 := iv15_10 hS81.1 ta0 c274
        obtain ⟨v276, c277⟩ : ∃ v, I73 a0 11 = v := ⟨_, rfl⟩
        obtain ⟨y278, c279⟩ : ∃ v, L75 a0 15 = v := ⟨_, rfl⟩
        obtain ⟨v280, c281⟩ : ∃ v, I73 a0 12 = v := ⟨_, rfl⟩
        obtain ⟨v282, c283⟩ : ∃ v, I73 a0 8 = v := ⟨_, rfl⟩
        have b284 := iv15_8 hS81.1 ta0 c283
        exact tr_vret hZ dX12_readAlmanac_44 rfl (by decide) (by decide) ⟨rfl, rfl, rfl, rfl, rfl, hS81, (fun b hb => (Option.some.inj (d2.symm.trans hb)) ▸ ((FrM.rf (R := R0) (b := a1) (T := T)).st g76 (by decide +kernel))), (fun dr hd => (Option.some.inj (d2.symm.trans hd)) ▸ hO83), (Or.inr (⟨(by first | done | with_reducible assumption | omega), (by (try rw [c252]); first | done | with_reducible assumption | omega), (by (try rw [c255]); first | done | with_reducible assumption | omega), (by (try rw [c257]); first | done | with_reducible assumption | omega), trivial⟩)), trivial⟩
  · skip
    replace hF := hF.pos (by omega)
    replace hP := hP.pos (by omega)
    refine tr_aload_n dX12_readAlmanac_10 rfl ?_
    refine q_iconst dX12_readAlmanac_11 (by decide) ?_
    intro v285 h286
    refine q_callVv hE (M' := mX12_flaw) (as := [_]) dX12_readAlmanac_12 lk12_145 inX12_flaw seX12_flaw myX12_flaw (by decide) ⟨by decide, by decide⟩ rfl (kR15 hS0.1 ta0) (Nat.le_of_ble_eq_true rfl) rfl rfl (by decide) (by decide) (fk_X12_flaw hS0.1  ta0 (by omega) (by (try rw [c4]); first | done | with_reducible assumption | omega)) ?_
    rintro cn' K' N' I287 R288 L289 ⟨rfl, rfl, rfl, rfl, rfl, g290, p293, p294, p295, -⟩
    have hM296 : NmM I287 R0 L0 a1 gQ := NmM.kpS hM0 g290 hS0.1 ta1 (by decide +kernel) (by decide +kernel)
    have hS297 := hS0.tr g290 (by decide +kernel) (by decide +kernel)
    have c298 : I287 a0 10 = v8 := (g290.cell ta0 (by decide +kernel)).trans c9
    have c299 : I287 a0 11 = v12 := (g290.cell ta0 (by decide +kernel)).trans c13
    have c300 : I287 a0 12 = v18 := (g290.cell ta0 (by decide +kernel)).trans c19
    have c301 : I287 a0 8 = v21 := (g290.cell ta0 (by decide +kernel)).trans c22
    have c302 : I287 a1 9 = v57 := (g290.cell ta1 (by decide +kernel)).trans c58
    have hO303 : FrO 14 a1 T I0 I287 := hO0.st g290 (by decide +kernel)
    obtain ⟨v304, c305⟩ : ∃ v, I287 a0 9 = v := ⟨_, rfl⟩
    have b306 := iv15_9 hS297.1 ta0 c305
    rw [c305] at p293
    obtain ⟨v307, c308⟩ : ∃ v, I287 a0 13 = v := ⟨_, rfl⟩
    rw [c308] at p294
    obtain ⟨v309, c310⟩ : ∃ v, I287 a0 14 = v := ⟨_, rfl⟩
    rw [c310] at p295
    rw [c9] at p295
    refine tr_aload_n dX12_readAlmanac_15 rfl ?_
    refine q_iconst dX12_readAlmanac_16 (by decide) ?_
    intro v311 h312
    refine q_iconst dX12_readAlmanac_17 (by decide) ?_
    intro v313 h314
    refine q_callVv hE (M' := mX12_begins) (as := [_, _]) dX12_readAlmanac_18 lk12_268 inX12_begins seX12_begins myX12_begins (by decide) ⟨by decide, by decide⟩ rfl (kR15 hS297.1 ta0) (Nat.le_of_ble_eq_true rfl) rfl rfl (by decide) (by decide) (k_X12_begins hS297.1 ta0 ⟨_, d2⟩) ?_
    rintro cn' K' N' I315 R316 L317 ⟨rfl, rfl, rfl, rfl, g318, p320, w321, -⟩
    have hS322 := hS297.tr g318 (by decide +kernel) (by decide +kernel)
    have c323 : I315 a1 9 = v57 := (g318.cell ta1 (by decide +kernel)).trans c302
    obtain ⟨v324, c325⟩ : ∃ v, I315 a0 9 = v := ⟨_, rfl⟩
    have b326 := iv15_9 hS322.1 ta0 c325
    have gd327 : Gd (I315 a0 9) (v311.toInt ≠ v313.toInt) := p320
    clear p320
    have hO328 : FrO 14 a1 T I0 I315 := hO303.st g318 (by decide +kernel)
    have ov329 := w321.over (by rw [c305]; omega)
    obtain ⟨v330, c331⟩ : ∃ v, I315 a0 9 = v := ⟨_, rfl⟩
    have b332 := iv15_9 hS322.1 ta0 c331
    obtain ⟨v333, c334⟩ : ∃ v, I315 a0 13 = v := ⟨_, rfl⟩
    obtain ⟨v335, c336⟩ : ∃ v, I315 a0 14 = v := ⟨_, rfl⟩
    (try rw [c331] at ov329)
    (try rw [c334] at ov329)
    (try rw [c336] at ov329)
    (try rw [c305] at ov329)
    (try rw [c308] at ov329)
    (try rw [c310] at ov329)
    refine tr_aload_n dX12_readAlmanac_21 rfl ?_
    refine tr_aload_n dX12_readAlmanac_22 rfl ?_
    refine tr_getR dX12_readAlmanac_23 fl12_188 (kR15 hS322.1 ta0) d2 ?_
    refine tr_getR dX12_readAlmanac_26 fl12_306 (kR14 hS322.1 ta1) d67 ?_
    refine q_iconst dX12_readAlmanac_29 (by decide) ?_
    intro v337 h338
    refine q_bipush dX12_readAlmanac_30 (by decide +kernel) ?_
    intro v339 h340
    refine q_callVi hE (M' := mX12_readRising) (as := [_, _, _]) dX12_readAlmanac_32 lk12_308 inX12_readRising seX12_readRising myX12_readRising (by decide) ⟨by decide, by decide⟩ rfl (kR15 hS322.1 ta0) (Nat.le_of_ble_eq_true rfl) rfl rfl (by decide) (by decide) (fo_X12_readRising hS322.1  ta0 ta66 (by omega) (by omega) (by (try rw [c331]); first | done | with_reducible assumption | omega)) ?_
    rintro v346 cn' K' N' I341 R342 L343 ⟨rfl, rfl, rfl, rfl, rfl, rfl, p347, -⟩
    refine tr_istore_n dX12_readAlmanac_35 (by decide) (by decide) ?_
    refine tr_aload_n dX12_readAlmanac_36 rfl ?_
    refine q_getI dX12_readAlmanac_37 fl12_99 (kR15 hS322.1 ta0) c331 ?_
    refine q_iconst dX12_readAlmanac_40 (by decide) ?_
    intro v348 h349
    refine q_icmp_ne 45 dX12_readAlmanac_41 (by decide) (fun h350 => ?_) (fun h350 => ?_)
    · skip
      exfalso; omega
    · skip
      have eF := hF.eq
      have eP := hP.eq
      obtain ⟨v351, c352⟩ : ∃ v, I315 a0 10 = v := ⟨_, rfl⟩
      have b353 := iv15_10 hS322.1 ta0 c352
      obtain ⟨v354, c355⟩ : ∃ v, I315 a0 11 = v := ⟨_, rfl⟩
      obtain ⟨y356, c357⟩ : ∃ v, L317 a0 15 = v := ⟨_, rfl⟩
      obtain ⟨v358, c359⟩ : ∃ v, I315 a0 12 = v := ⟨_, rfl⟩
      obtain ⟨v360, c361⟩ : ∃ v, I315 a0 8 = v := ⟨_, rfl⟩
      have b362 := iv15_8 hS322.1 ta0 c361
      exact tr_vret hZ dX12_readAlmanac_44 rfl (by decide) (by decide) ⟨rfl, rfl, rfl, rfl, rfl, hS322, (fun b hb => (Option.some.inj (d2.symm.trans hb)) ▸ (((FrM.rf (R := R0) (b := a1) (T := T)).st g290 (by decide +kernel)).st g318 (by decide +kernel))), (fun dr hd => (Option.some.inj (d2.symm.trans hd)) ▸ hO328), (Or.inr (⟨(by first | done | with_reducible assumption | omega), (by (try rw [c331]); first | done | with_reducible assumption | omega), (by (try rw [c334]); first | done | with_reducible assumption | omega), (by (try rw [c336]); first | done | with_reducible assumption | omega), trivial⟩)), trivial⟩
def wik_X12_readRising_1 : List Nat := [968, 969, 970, 971, 972, 973, 974, 3967]
def wrk_X12_readRising_1 : List Nat := []
def wlk_X12_readRising_1 : List Nat := [975]
set_option maxHeartbeats 4000000 in
theorem fk_X12_readRising_1 {l : Launch} {T : Nat → Nat} {cn : Nat} {K N : Nat → Nat} {I0 : cz_I} {R0 : cz_R} {L0 : cz_L} (hW0 : Wf T cn K N I0 R0 0) (gB : cz_B) (gs : Int) (gQ : Nat → Int) {a0 : Nat} (ta0 : T a0 = 15) {a1 : Nat} (ta1 : T a1 = 61) {x2 : Int32} (hx2 : 0 ≤ x2.toInt ∧ x2.toInt ≤ 32) {x3 : Int32} (hx3 : 8 ≤ x3.toInt ∧ x3.toInt ≤ 8) (hT : ∀ t, R0 a0 5 = some t → Tx I0 t gB) (pre0 : (I0 a0 9).toInt = (tkM gB gs)) (pre1 : (I0 a0 9).toInt ≤ 4) (pre2 : (I0 a0 10).toInt = (tkS gB gs)) (pre3 : (I0 a0 11).toInt = (tkG gB gs)) (pre4 : (AtW ((tkK gB gs)) ((L0 a0 15).toInt) ((tkW gB gs)))) (pre5 : (AtV ((tkK gB gs)) ((I0 a0 12).toInt) ((tkV gB gs)))) (pre6 : (AtN ((tkK gB gs)) ((I0 a0 8).toInt) ((tkN gB gs)))) (pre7 : (I0 a0 7).toInt = (gB.2)) (pre8 : ∀ b1, R0 a0 4 = some b1 → (I0 b1 0).toInt = (gQ 0)) (pre9 : (gQ 0) ≥ 1) (pre10 : x2.toInt ≤ 24) (nn4 : ∃ b, R0 a0 4 = some b) : ConE l mX12_readRising [.ref a0, .ref a1, .int x2, .int x3] cn K N I0 R0 L0 (ca_i (fun v cn' K' N' I' R' L' => cn = cn' ∧ K = K' ∧ N = N' ∧ R0 = R' ∧ St T cn K N 0 wik_X12_readRising_1 wrk_X12_readRising_1 I0 R0 I' R0 ∧ (0 ≤ v.toInt ∧ v.toInt ≤ 8) ∧ (∀ j : Nat, ((j : Int) < x2.toInt ∨ x2.toInt + 8 ≤ (j : Int)) → I' a1 j = I0 a1 j) ∧ (FrO 61 a1 T I0 I') ∧ ((((riF gB gQ 8 0 gs) = 0) ∧ ((I' a0 13).toInt = (I0 a0 13).toInt) ∧ ((I' a0 9).toInt = (tkM gB (riS gB gQ 8 0 gs))) ∧ ((I' a0 9).toInt ≤ 4) ∧ ((I' a0 10).toInt = (tkS gB (riS gB gQ 8 0 gs))) ∧ ((I' a0 11).toInt = (tkG gB (riS gB gQ 8 0 gs))) ∧ ((AtW ((tkK gB (riS gB gQ 8 0 gs))) ((L' a0 15).toInt) ((tkW gB (riS gB gQ 8 0 gs))))) ∧ ((AtV ((tkK gB (riS gB gQ 8 0 gs))) ((I' a0 12).toInt) ((tkV gB (riS gB gQ 8 0 gs))))) ∧ ((AtN ((tkK gB (riS gB gQ 8 0 gs))) ((I' a0 8).toInt) ((tkN gB (riS gB gQ 8 0 gs))))) ∧ (v.toInt = (riC gB 8 gs)) ∧ LgS T wlk_X12_readRising_1 L0 L' ∧ (∀ k : Nat, (k : Int) < riC gB 8 gs → (I' a1 (x2.toInt.toNat + k)).toInt = tkV gB (it2 gB k gs)) ∧ True) ∨ (((riF gB gQ 8 0 gs) ≠ 0) ∧ ((I' a0 9).toInt = 5) ∧ ((I' a0 13).toInt = (riF gB gQ 8 0 gs)) ∧ ((I' a0 14).toInt = (riP gB gQ 8 0 gs)) ∧ True)) ∧ True)) := by
  refine ConE.of (by decide +kernel) rfl (Nat.le_of_ble_eq_true rfl) rfl (fun X hX hZ hE => ?_)
  subst hX
  have hS0 : St T cn K N 0 wik_X12_readRising_1 wrk_X12_readRising_1 I0 R0 I0 R0 := St.rf0 hW0
  have hL0 : LgS T wlk_X12_readRising_1 L0 L0 := LgS.rf0
  obtain ⟨a11, d12⟩ := nn4
  have ta11 : T a11 = 14 := hW0.rsN ta0 rfl d12
  obtain ⟨v13, c14⟩ : ∃ v, I0 a0 9 = v := ⟨_, rfl⟩
  have b15 := iv15_9 hS0.1 ta0 c14
  have p16 := pre0
  rw [c14] at p16
  have p17 := pre1
  rw [c14] at p17
  obtain ⟨v18, c19⟩ : ∃ v, I0 a0 10 = v := ⟨_, rfl⟩
  have b20 := iv15_10 hS0.1 ta0 c19
  have p21 := pre2
  rw [c19] at p21
  obtain ⟨v22, c23⟩ : ∃ v, I0 a0 11 = v := ⟨_, rfl⟩
  have p24 := pre3
  rw [c23] at p24
  obtain ⟨y25, c26⟩ : ∃ v, L0 a0 15 = v := ⟨_, rfl⟩
  have p27 := pre4
  rw [c26] at p27
  obtain ⟨v28, c29⟩ : ∃ v, I0 a0 12 = v := ⟨_, rfl⟩
  have p30 := pre5
  rw [c29] at p30
  obtain ⟨v31, c32⟩ : ∃ v, I0 a0 8 = v := ⟨_, rfl⟩
  have b33 := iv15_8 hS0.1 ta0 c32
  have p34 := pre6
  rw [c32] at p34
  obtain ⟨v35, c36⟩ : ∃ v, I0 a0 7 = v := ⟨_, rfl⟩
  have b37 := iv15_7 hW0 ta0 c36
  have p38 := pre7
  rw [c36] at p38
  obtain ⟨v39, c40⟩ : ∃ v, I0 a11 0 = v := ⟨_, rfl⟩
  have b41 := iv14_0 hW0 ta11 c40
  have p42 := pre8 _ d12
  rw [c40] at p42
  have p43 := pre9
  have p44 := pre10
  obtain ⟨v45, c46⟩ : ∃ v, I0 a0 13 = v := ⟨_, rfl⟩
  have hO0 : FrO 61 a1 T I0 I0 := FrO.rf
  refine q_iconst dX12_readRising_0 (by decide) ?_
  intro v47 h48
  refine tr_istore dX12_readRising_1 (by decide) (by decide) ?_
  refine q_iconst dX12_readRising_3 (by decide) ?_
  intro v49 h50
  refine tr_istore dX12_readRising_4 (by decide) (by decide) ?_
  refine q_iconst dX12_readRising_6 (by decide) ?_
  intro v51 h52
  refine tr_istore dX12_readRising_7 (by decide) (by decide) ?_
  have lp104 : ∀ (fu : Nat) (ls : Nat → Option Value) (v53 : Int32) (v54 : Int32) (v55 : Int32) (I63 : cz_I) (L64 : cz_L) (gs65 : Int) (gr66 : Nat) (v70 : Int32) (v72 : Int32) (v74 : Int32) (v76 : Int32) (y78 : Int64) (v80 : Int32) (v82 : Int32), ls 0 = some (.ref a0) → ls 1 = some (.ref a1) → ls 2 = some (.int x2) → ls 3 = some (.int x3) → ls 4 = some (.int v53) → ls 5 = some (.int v54) → ls 6 = some (.int v55) → St T cn K N 0 wik_X12_readRising_1 wrk_X12_readRising_1 I0 R0 I63 R0 → LgS T wlk_X12_readRising_1 L0 L64 → FrO 61 a1 T I0 I63 → I63 a0 13 = v70 → I63 a0 9 = v72 → I63 a0 10 = v74 → I63 a0 11 = v76 → L64 a0 15 = y78 → I63 a0 12 = v80 → I63 a0 8 = v82 → (riF gB gQ gr66 v54.toInt gs65) = (riF gB gQ 8 0 gs) → (riP gB gQ gr66 v54.toInt gs65) = (riP gB gQ 8 0 gs) → (riS gB gQ gr66 v54.toInt gs65) = (riS gB gQ 8 0 gs) → (riC gB gr66 gs65) + v53.toInt = (riC gB 8 gs) → v55.toInt = 1 → 0 ≤ v54.toInt → v54.toInt ≤ 240 → 0 ≤ v53.toInt → v53.toInt ≤ 8 → ((gr66 : Int)) = -v53.toInt + 8 → v70.toInt = v45.toInt → v72.toInt = (tkM gB gs65) → v72.toInt ≤ 4 → v74.toInt = (tkS gB gs65) → v76.toInt = (tkG gB gs65) → (AtW ((tkK gB gs65)) (y78.toInt) ((tkW gB gs65))) → (AtV ((tkK gB gs65)) (v80.toInt) ((tkV gB gs65))) → (AtN ((tkK gB gs65)) (v82.toInt) ((tkN gB gs65))) → (it2 gB v53.toInt.toNat gs = gs65 ∧ ∀ k : Nat, (k : Int) < v53.toInt → (I63 a1 (x2.toInt.toNat + k)).toInt = tkV gB (it2 gB k gs)) → (∀ j : Nat, ((j : Int) < x2.toInt ∨ x2.toInt + 8 ≤ (j : Int)) → I63 a1 j = I0 a1 j) → (-v53.toInt + 9).toNat < fu → Tr X mX12_readRising 9 ls [] cn K N I63 R0 L64 0 0 := by
    intro fu
    induction fu with
    | zero => intros; rename_i hz; exact absurd hz (Nat.not_lt_zero _)
    | succ fu ih104 =>
      intro ls v53 v54 v55 I63 L64 gs65 gr66 v70 v72 v74 v76 y78 v80 v82 hl56 hl57 hl58 hl59 hl60 hl61 hl62 hS67 hL68 hO69 c71 c73 c75 c77 c79 c81 c83 g84 g85 g86 g87 g88 g89 g90 g91 g92 g93 g94 g95 g96 g97 g98 g99 g100 g101 rw102 rw103 hm104
      have b106 := iv15_9 hS67.1 ta0 c73
      have b107 := iv15_10 hS67.1 ta0 c75
      have b108 := iv15_8 hS67.1 ta0 c83
      rcases Nat.eq_zero_or_pos gr66 with hz109 | hz109
      · skip
        subst hz109
        refine tr_iload dX12_readRising_9 hl62 ?_
        refine q_if_eq 92 dX12_readRising_11 (by decide) (fun h111 => ?_) (fun h111 => ?_)
        · skip
          exfalso; omega
        · skip
          refine tr_aload_n dX12_readRising_14 hl56 ?_
          refine q_getI dX12_readRising_15 fl12_99 (kR15 hS67.1 ta0) c73 ?_
          refine q_iconst dX12_readRising_18 (by decide) ?_
          intro v112 h113
          refine q_icmp_eq 92 dX12_readRising_19 (by decide) (fun h114 => ?_) (fun h114 => ?_)
          · skip
            exfalso; omega
          · skip
            refine tr_aload_n dX12_readRising_22 hl56 ?_
            refine tr_iload dX12_readRising_23 hl61 ?_
            refine tr_aload_n dX12_readRising_25 hl56 ?_
            refine tr_getR dX12_readRising_26 fl12_188 (kR15 hS67.1 ta0) d12 ?_
            refine q_getI dX12_readRising_29 fl12_192 (kR14 hS67.1 ta11) ((hS67.cell ta11 (by decide +kernel)).trans c40) ?_
            refine q_iconst dX12_readRising_32 (by decide) ?_
            intro v115 h116
            refine q_isubE dX12_readRising_33 (by intros; omega) ?_
            intro v117 h118
            refine q_callVi hE (M' := mX12_bounded) (as := [_, _]) dX12_readRising_34 lk12_153 inX12_bounded seX12_bounded myX12_bounded (by decide) ⟨by decide, by decide⟩ rfl (kR15 hS67.1 ta0) (Nat.le_of_ble_eq_true rfl) rfl rfl (by decide) (by decide) (fk_X12_bounded hS67.1 (gB) (gs65) ta0 (by (try rw [c73]); first | done | with_reducible assumption | omega) (by (try rw [c73]); first | done | with_reducible assumption | omega) (by (try rw [c75]); first | done | with_reducible assumption | omega) (by (try rw [c77]); first | done | with_reducible assumption | omega) (by (try rw [c79]); first | done | assumption) (by (try rw [c81]); first | done | assumption) (by (try rw [c83]); first | done | assumption)) ?_
            rintro v124 cn' K' N' I119 R120 L121 ⟨rfl, rfl, rfl, rfl, rfl, g122, dj125, -⟩
            have hS126 := hS67.tr g122 (by decide +kernel) (by decide +kernel)
            have c127 : I119 a0 10 = v74 := (g122.cell ta0 (by decide +kernel)).trans c75
            have c128 : I119 a0 11 = v76 := (g122.cell ta0 (by decide +kernel)).trans c77
            have c129 : I119 a0 12 = v80 := (g122.cell ta0 (by decide +kernel)).trans c81
            have c130 : I119 a0 8 = v82 := (g122.cell ta0 (by decide +kernel)).trans c83
            have hO131 : FrO 61 a1 T I0 I119 := hO69.st g122 (by decide +kernel)
            rcases dj125 with ⟨p132, p133, p134, p135, p136, p137, p138, p139, p140, p141, p142, p143, -⟩ | ⟨p144, p145, p146, p147, p148, -⟩ | ⟨p149, p150, p151, p152, p153, p154, -⟩
            · skip
              obtain ⟨v155, c156⟩ : ∃ v, I119 a0 13 = v := ⟨_, rfl⟩
              rw [c156] at p136
              rw [c71] at p136
              obtain ⟨v157, c158⟩ : ∃ v, I119 a0 9 = v := ⟨_, rfl⟩
              have b159 := iv15_9 hS126.1 ta0 c158
              rw [c158] at p137
              rw [c158] at p138
              rw [c127] at p139
              rw [c128] at p140
              rw [c79] at p141
              rw [c129] at p142
              rw [c130] at p143
              refine tr_istore dX12_readRising_37 (by decide) (by decide) ?_
              refine tr_iload dX12_readRising_39 hl60 ?_
              refine tr_iload_n dX12_readRising_41 hl59 ?_
              refine q_icmp_ne 50 dX12_readRising_42 (by decide) (fun h160 => ?_) (fun h160 => ?_)
              · skip
                exfalso; omega
              · skip
                refine tr_aload_n dX12_readRising_45 hl56 ?_
                refine q_iconst dX12_readRising_46 (by decide) ?_
                intro v161 h162
                refine q_callVv hE (M' := mX12_flaw) (as := [_]) dX12_readRising_47 lk12_145 inX12_flaw seX12_flaw myX12_flaw (by decide) ⟨by decide, by decide⟩ rfl (kR15 hS126.1 ta0) (Nat.le_of_ble_eq_true rfl) rfl rfl (by decide) (by decide) (fk_X12_flaw hS126.1  ta0 (by omega) (by (try rw [c158]); first | done | with_reducible assumption | omega)) ?_
                rintro cn' K' N' I163 R164 L165 ⟨rfl, rfl, rfl, rfl, rfl, g166, p169, p170, p171, -⟩
                have hS172 := hS126.tr g166 (by decide +kernel) (by decide +kernel)
                have c173 : I163 a0 10 = v74 := (g166.cell ta0 (by decide +kernel)).trans c127
                have c174 : I163 a0 11 = v76 := (g166.cell ta0 (by decide +kernel)).trans c128
                have c175 : I163 a0 12 = v80 := (g166.cell ta0 (by decide +kernel)).trans c129
                have c176 : I163 a0 8 = v82 := (g166.cell ta0 (by decide +kernel)).trans c130
                have hO177 : FrO 61 a1 T I0 I163 := hO131.st g166 (by decide +kernel)
                obtain ⟨v178, c179⟩ : ∃ v, I163 a0 9 = v := ⟨_, rfl⟩
                have b180 := iv15_9 hS172.1 ta0 c179
                rw [c179] at p169
                obtain ⟨v181, c182⟩ : ∃ v, I163 a0 13 = v := ⟨_, rfl⟩
                rw [c182] at p170
                obtain ⟨v183, c184⟩ : ∃ v, I163 a0 14 = v := ⟨_, rfl⟩
                rw [c184] at p171
                rw [c127] at p171
                refine tr_aload_n dX12_readRising_50 hl56 ?_
                refine q_callVv hE (M' := mX12_goesOn) (as := []) dX12_readRising_51 lk12_142 inX12_goesOn seX12_goesOn myX12_goesOn (by decide) ⟨by decide, by decide⟩ rfl (kR15 hS172.1 ta0) (Nat.le_of_ble_eq_true rfl) rfl rfl (by decide) (by decide) (k_X12_goesOn hS172.1 ta0) ?_
                rintro cn' K' N' I185 R186 L187 ⟨rfl, rfl, rfl, rfl, g188, p190, p191, p192, w193, -⟩
                have hS194 := hS172.tr g188 (by decide +kernel) (by decide +kernel)
                have c195 : I185 a0 13 = v181 := (g188.cell ta0 (by decide +kernel)).trans c182
                have c196 : I185 a0 14 = v183 := (g188.cell ta0 (by decide +kernel)).trans c184
                obtain ⟨v197, c198⟩ : ∃ v, I185 a0 9 = v := ⟨_, rfl⟩
                have b199 := iv15_9 hS194.1 ta0 c198
                rw [c179] at p190
                rw [c198] at p190
                rw [c179] at p191
                rw [c198] at p191
                obtain ⟨v200, c201⟩ : ∃ v, I185 a0 8 = v := ⟨_, rfl⟩
                have b202 := iv15_8 hS194.1 ta0 c201
                rw [c201] at p192
                rw [c176] at p192
                rw [c195] at p192
                rw [c182] at p192
                have hO203 : FrO 61 a1 T I0 I185 := hO177.st g188 (by decide +kernel)
                have ov204 := w193.over (by rw [c179]; omega)
                obtain ⟨v205, c206⟩ : ∃ v, I185 a0 9 = v := ⟨_, rfl⟩
                have b207 := iv15_9 hS194.1 ta0 c206
                obtain ⟨v208, c209⟩ : ∃ v, I185 a0 13 = v := ⟨_, rfl⟩
                obtain ⟨v210, c211⟩ : ∃ v, I185 a0 14 = v := ⟨_, rfl⟩
                (try rw [c206] at ov204)
                (try rw [c209] at ov204)
                (try rw [c211] at ov204)
                (try rw [c179] at ov204)
                (try rw [c182] at ov204)
                (try rw [c184] at ov204)
                refine tr_aload_n dX12_readRising_54 hl56 ?_
                refine q_getI dX12_readRising_55 fl12_99 (kR15 hS194.1 ta0) c206 ?_
                refine q_iconst dX12_readRising_58 (by decide) ?_
                intro v212 h213
                refine q_icmp_ne 64 dX12_readRising_59 (by decide) (fun h214 => ?_) (fun h214 => ?_)
                · skip
                  exfalso; omega
                · skip
                  refine q_iconst dX12_readRising_62 (by decide) ?_
                  intro v215 h216
                  obtain ⟨v217, c218⟩ : ∃ v, I185 a0 10 = v := ⟨_, rfl⟩
                  have b219 := iv15_10 hS194.1 ta0 c218
                  obtain ⟨v220, c221⟩ : ∃ v, I185 a0 11 = v := ⟨_, rfl⟩
                  obtain ⟨y222, c223⟩ : ∃ v, L187 a0 15 = v := ⟨_, rfl⟩
                  obtain ⟨v224, c225⟩ : ∃ v, I185 a0 12 = v := ⟨_, rfl⟩
                  exact tr_iret hZ dX12_readRising_63 rfl (by decide) (by decide) ⟨v215, rfl, rfl, rfl, rfl, rfl, hS194, (by omega), (fun j hj => (Eq.trans ((g188.cell ta1 (wm_no (by decide +kernel))).trans ((g166.cell ta1 (wm_no (by decide +kernel))).trans (g122.cell ta1 (wm_no (by decide +kernel))))) (rw103 j hj))), hO203, (Or.inr (⟨(by rw [← g84]; simp only [riF, ↓reduceIte]; repeat' (first | split | omega)), (by (try rw [c206]); first | done | with_reducible assumption | omega), (by (try rw [c209]); rw [← g84]; simp only [riF, ↓reduceIte]; repeat' (first | split | omega)), (by (try rw [c211]); rw [← g85]; simp only [riP, ↓reduceIte]; repeat' (first | split | omega)), trivial⟩)), trivial⟩
            · skip
              obtain ⟨v226, c227⟩ : ∃ v, I119 a0 9 = v := ⟨_, rfl⟩
              have b228 := iv15_9 hS126.1 ta0 c227
              rw [c227] at p146
              obtain ⟨v229, c230⟩ : ∃ v, I119 a0 13 = v := ⟨_, rfl⟩
              rw [c230] at p147
              obtain ⟨v231, c232⟩ : ∃ v, I119 a0 14 = v := ⟨_, rfl⟩
              rw [c232] at p148
              refine tr_istore dX12_readRising_37 (by decide) (by decide) ?_
              refine tr_iload dX12_readRising_39 hl60 ?_
              refine tr_iload_n dX12_readRising_41 hl59 ?_
              refine q_icmp_ne 50 dX12_readRising_42 (by decide) (fun h233 => ?_) (fun h233 => ?_)
              · skip
                exfalso; omega
              · skip
                refine tr_aload_n dX12_readRising_45 hl56 ?_
                refine q_iconst dX12_readRising_46 (by decide) ?_
                intro v234 h235
                refine q_callVv hE (M' := mX12_flaw) (as := [_]) dX12_readRising_47 lk12_145 inX12_flaw seX12_flaw myX12_flaw (by decide) ⟨by decide, by decide⟩ rfl (kR15 hS126.1 ta0) (Nat.le_of_ble_eq_true rfl) rfl rfl (by decide) (by decide) (k_X12_flaw hS126.1 ta0 (by omega)) ?_
                rintro cn' K' N' I236 R237 L238 ⟨rfl, rfl, rfl, rfl, rfl, g239, p241, p242, w243, -⟩
                have hS244 := hS126.tr g239 (by decide +kernel) (by decide +kernel)
                have c245 : I236 a0 10 = v74 := (g239.cell ta0 (by decide +kernel)).trans c127
                have c246 : I236 a0 11 = v76 := (g239.cell ta0 (by decide +kernel)).trans c128
                have c247 : I236 a0 12 = v80 := (g239.cell ta0 (by decide +kernel)).trans c129
                have c248 : I236 a0 8 = v82 := (g239.cell ta0 (by decide +kernel)).trans c130
                obtain ⟨v249, c250⟩ : ∃ v, I236 a0 9 = v := ⟨_, rfl⟩
                have b251 := iv15_9 hS244.1 ta0 c250
                rw [c250] at p241
                rw [c248] at p242
                rw [c130] at p242
                have hO252 : FrO 61 a1 T I0 I236 := hO131.st g239 (by decide +kernel)
                have ov253 := w243.over (by rw [c227]; omega)
                obtain ⟨v254, c255⟩ : ∃ v, I236 a0 9 = v := ⟨_, rfl⟩
                have b256 := iv15_9 hS244.1 ta0 c255
                obtain ⟨v257, c258⟩ : ∃ v, I236 a0 13 = v := ⟨_, rfl⟩
                obtain ⟨v259, c260⟩ : ∃ v, I236 a0 14 = v := ⟨_, rfl⟩
                (try rw [c255] at ov253)
                (try rw [c258] at ov253)
                (try rw [c260] at ov253)
                (try rw [c227] at ov253)
                (try rw [c230] at ov253)
                (try rw [c232] at ov253)
                refine tr_aload_n dX12_readRising_50 hl56 ?_
                refine q_callVv hE (M' := mX12_goesOn) (as := []) dX12_readRising_51 lk12_142 inX12_goesOn seX12_goesOn myX12_goesOn (by decide) ⟨by decide, by decide⟩ rfl (kR15 hS244.1 ta0) (Nat.le_of_ble_eq_true rfl) rfl rfl (by decide) (by decide) (k_X12_goesOn hS244.1 ta0) ?_
                rintro cn' K' N' I261 R262 L263 ⟨rfl, rfl, rfl, rfl, g264, p266, p267, p268, w269, -⟩
                have hS270 := hS244.tr g264 (by decide +kernel) (by decide +kernel)
                have c271 : I261 a0 13 = v257 := (g264.cell ta0 (by decide +kernel)).trans c258
                have c272 : I261 a0 14 = v259 := (g264.cell ta0 (by decide +kernel)).trans c260
                obtain ⟨v273, c274⟩ : ∃ v, I261 a0 9 = v := ⟨_, rfl⟩
                have b275 := iv15_9 hS270.1 ta0 c274
                rw [c255] at p266
                rw [c274] at p266
                rw [c255] at p267
                rw [c274] at p267
                obtain ⟨v276, c277⟩ : ∃ v, I261 a0 8 = v := ⟨_, rfl⟩
                have b278 := iv15_8 hS270.1 ta0 c277
                rw [c277] at p268
                rw [c248] at p268
                rw [c271] at p268
                rw [c258] at p268
                have hO279 : FrO 61 a1 T I0 I261 := hO252.st g264 (by decide +kernel)
                have ov280 := w269.over (by rw [c255]; omega)
                obtain ⟨v281, c282⟩ : ∃ v, I261 a0 9 = v := ⟨_, rfl⟩
                have b283 := iv15_9 hS270.1 ta0 c282
                obtain ⟨v284, c285⟩ : ∃ v, I261 a0 13 = v := ⟨_, rfl⟩
                obtain ⟨v286, c287⟩ : ∃ v, I261 a0 14 = v := ⟨_, rfl⟩
                (try rw [c282] at ov280)
                (try rw [c285] at ov280)
                (try rw [c287] at ov280)
                (try rw [c255] at ov280)
                (try rw [c258] at ov280)
                (try rw [c260] at ov280)
                refine tr_aload_n dX12_readRising_54 hl56 ?_
                refine q_getI dX12_readRising_55 fl12_99 (kR15 hS270.1 ta0) c282 ?_
                refine q_iconst dX12_readRising_58 (by decide) ?_
                intro v288 h289
                refine q_icmp_ne 64 dX12_readRising_59 (by decide) (fun h290 => ?_) (fun h290 => ?_)
                · skip
                  exfalso; omega
                · skip
                  refine q_iconst dX12_readRising_62 (by decide) ?_
                  intro v291 h292
                  obtain ⟨v293, c294⟩ : ∃ v, I261 a0 10 = v := ⟨_, rfl⟩
                  have b295 := iv15_10 hS270.1 ta0 c294
                  obtain ⟨v296, c297⟩ : ∃ v, I261 a0 11 = v := ⟨_, rfl⟩
                  obtain ⟨y298, c299⟩ : ∃ v, L263 a0 15 = v := ⟨_, rfl⟩
                  obtain ⟨v300, c301⟩ : ∃ v, I261 a0 12 = v := ⟨_, rfl⟩
                  exact tr_iret hZ dX12_readRising_63 rfl (by decide) (by decide) ⟨v291, rfl, rfl, rfl, rfl, rfl, hS270, (by omega), (fun j hj => (Eq.trans ((g264.cell ta1 (wm_no (by decide +kernel))).trans ((g239.cell ta1 (wm_no (by decide +kernel))).trans (g122.cell ta1 (wm_no (by decide +kernel))))) (rw103 j hj))), hO279, (Or.inr (⟨(by rw [← g84]; simp only [riF, ↓reduceIte]; repeat' (first | split | omega)), (by (try rw [c282]); first | done | with_reducible assumption | omega), (by (try rw [c285]); rw [← g84]; simp only [riF, ↓reduceIte]; repeat' (first | split | omega)), (by (try rw [c287]); rw [← g85]; simp only [riP, ↓reduceIte]; repeat' (first | split | omega)), trivial⟩)), trivial⟩
            · skip
              obtain ⟨v302, c303⟩ : ∃ v, I119 a0 9 = v := ⟨_, rfl⟩
              have b304 := iv15_9 hS126.1 ta0 c303
              rw [c303] at p152
              obtain ⟨v305, c306⟩ : ∃ v, I119 a0 13 = v := ⟨_, rfl⟩
              rw [c306] at p153
              obtain ⟨v307, c308⟩ : ∃ v, I119 a0 14 = v := ⟨_, rfl⟩
              rw [c308] at p154
              refine tr_istore dX12_readRising_37 (by decide) (by decide) ?_
              refine tr_iload dX12_readRising_39 hl60 ?_
              refine tr_iload_n dX12_readRising_41 hl59 ?_
              refine q_icmp_ne 50 dX12_readRising_42 (by decide) (fun h309 => ?_) (fun h309 => ?_)
              · skip
                exfalso; omega
              · skip
                refine tr_aload_n dX12_readRising_45 hl56 ?_
                refine q_iconst dX12_readRising_46 (by decide) ?_
                intro v310 h311
                refine q_callVv hE (M' := mX12_flaw) (as := [_]) dX12_readRising_47 lk12_145 inX12_flaw seX12_flaw myX12_flaw (by decide) ⟨by decide, by decide⟩ rfl (kR15 hS126.1 ta0) (Nat.le_of_ble_eq_true rfl) rfl rfl (by decide) (by decide) (k_X12_flaw hS126.1 ta0 (by omega)) ?_
                rintro cn' K' N' I312 R313 L314 ⟨rfl, rfl, rfl, rfl, rfl, g315, p317, p318, w319, -⟩
                have hS320 := hS126.tr g315 (by decide +kernel) (by decide +kernel)
                have c321 : I312 a0 10 = v74 := (g315.cell ta0 (by decide +kernel)).trans c127
                have c322 : I312 a0 11 = v76 := (g315.cell ta0 (by decide +kernel)).trans c128
                have c323 : I312 a0 12 = v80 := (g315.cell ta0 (by decide +kernel)).trans c129
                have c324 : I312 a0 8 = v82 := (g315.cell ta0 (by decide +kernel)).trans c130
                obtain ⟨v325, c326⟩ : ∃ v, I312 a0 9 = v := ⟨_, rfl⟩
                have b327 := iv15_9 hS320.1 ta0 c326
                rw [c326] at p317
                rw [c324] at p318
                rw [c130] at p318
                have hO328 : FrO 61 a1 T I0 I312 := hO131.st g315 (by decide +kernel)
                have ov329 := w319.over (by rw [c303]; omega)
                obtain ⟨v330, c331⟩ : ∃ v, I312 a0 9 = v := ⟨_, rfl⟩
                have b332 := iv15_9 hS320.1 ta0 c331
                obtain ⟨v333, c334⟩ : ∃ v, I312 a0 13 = v := ⟨_, rfl⟩
                obtain ⟨v335, c336⟩ : ∃ v, I312 a0 14 = v := ⟨_, rfl⟩
                (try rw [c331] at ov329)
                (try rw [c334] at ov329)
                (try rw [c336] at ov329)
                (try rw [c303] at ov329)
                (try rw [c306] at ov329)
                (try rw [c308] at ov329)
                refine tr_aload_n dX12_readRising_50 hl56 ?_
                refine q_callVv hE (M' := mX12_goesOn) (as := []) dX12_readRising_51 lk12_142 inX12_goesOn seX12_goesOn myX12_goesOn (by decide) ⟨by decide, by decide⟩ rfl (kR15 hS320.1 ta0) (Nat.le_of_ble_eq_true rfl) rfl rfl (by decide) (by decide) (k_X12_goesOn hS320.1 ta0) ?_
                rintro cn' K' N' I337 R338 L339 ⟨rfl, rfl, rfl, rfl, g340, p342, p343, p344, w345, -⟩
                have hS346 := hS320.tr g340 (by decide +kernel) (by decide +kernel)
                have c347 : I337 a0 13 = v333 := (g340.cell ta0 (by decide +kernel)).trans c334
                have c348 : I337 a0 14 = v335 := (g340.cell ta0 (by decide +kernel)).trans c336
                obtain ⟨v349, c350⟩ : ∃ v, I337 a0 9 = v := ⟨_, rfl⟩
                have b351 := iv15_9 hS346.1 ta0 c350
                rw [c331] at p342
                rw [c350] at p342
                rw [c331] at p343
                rw [c350] at p343
                obtain ⟨v352, c353⟩ : ∃ v, I337 a0 8 = v := ⟨_, rfl⟩
                have b354 := iv15_8 hS346.1 ta0 c353
                rw [c353] at p344
                rw [c324] at p344
                rw [c347] at p344
                rw [c334] at p344
                have hO355 : FrO 61 a1 T I0 I337 := hO328.st g340 (by decide +kernel)
                have ov356 := w345.over (by rw [c331]; omega)
                obtain ⟨v357, c358⟩ : ∃ v, I337 a0 9 = v := ⟨_, rfl⟩
                have b359 := iv15_9 hS346.1 ta0 c358
                obtain ⟨v360, c361⟩ : ∃ v, I337 a0 13 = v := ⟨_, rfl⟩
                obtain ⟨v362, c363⟩ : ∃ v, I337 a0 14 = v := ⟨_, rfl⟩
                (try rw [c358] at ov356)
                (try rw [c361] at ov356)
                (try rw [c363] at ov356)
                (try rw [c331] at ov356)
                (try rw [c334] at ov356)
                (try rw [c336] at ov356)
                refine tr_aload_n dX12_readRising_54 hl56 ?_
                refine q_getI dX12_readRising_55 fl12_99 (kR15 hS346.1 ta0) c358 ?_
                refine q_iconst dX12_readRising_58 (by decide) ?_
                intro v364 h365
                refine q_icmp_ne 64 dX12_readRising_59 (by decide) (fun h366 => ?_) (fun h366 => ?_)
                · skip
                  exfalso; omega
                · skip
                  refine q_iconst dX12_readRising_62 (by decide) ?_
                  intro v367 h368
                  obtain ⟨v369, c370⟩ : ∃ v, I337 a0 10 = v := ⟨_, rfl⟩
                  have b371 := iv15_10 hS346.1 ta0 c370
                  obtain ⟨v372, c373⟩ : ∃ v, I337 a0 11 = v := ⟨_, rfl⟩
                  obtain ⟨y374, c375⟩ : ∃ v, L339 a0 15 = v := ⟨_, rfl⟩
                  obtain ⟨v376, c377⟩ : ∃ v, I337 a0 12 = v := ⟨_, rfl⟩
                  exact tr_iret hZ dX12_readRising_63 rfl (by decide) (by decide) ⟨v367, rfl, rfl, rfl, rfl, rfl, hS346, (by omega), (fun j hj => (Eq.trans ((g340.cell ta1 (wm_no (by decide +kernel))).trans ((g315.cell ta1 (wm_no (by decide +kernel))).trans (g122.cell ta1 (wm_no (by decide +kernel))))) (rw103 j hj))), hO355, (Or.inr (⟨(by rw [← g84]; simp only [riF, ↓reduceIte]; repeat' (first | split | omega)), (by (try rw [c358]); first | done | with_reducible assumption | omega), (by (try rw [c361]); rw [← g84]; simp only [riF, ↓reduceIte]; repeat' (first | split | omega)), (by (try rw [c363]); rw [← g85]; simp only [riP, ↓reduceIte]; repeat' (first | split | omega)), trivial⟩)), trivial⟩
      · skip
        obtain ⟨gk110, rfl⟩ : ∃ k, gr66 = k + 1 := ⟨gr66 - 1, by omega⟩
        refine tr_iload dX12_readRising_9 hl62 ?_
        refine q_if_eq 92 dX12_readRising_11 (by decide) (fun h378 => ?_) (fun h378 => ?_)
        · skip
          exfalso; omega
        · skip
          refine tr_aload_n dX12_readRising_14 hl56 ?_
          refine q_getI dX12_readRising_15 fl12_99 (kR15 hS67.1 ta0) c73 ?_
          refine q_iconst dX12_readRising_18 (by decide) ?_
          intro v379 h380
          refine q_icmp_eq 92 dX12_readRising_19 (by decide) (fun h381 => ?_) (fun h381 => ?_)
          · skip
            exfalso; omega
          · skip
            refine tr_aload_n dX12_readRising_22 hl56 ?_
            refine tr_iload dX12_readRising_23 hl61 ?_
            refine tr_aload_n dX12_readRising_25 hl56 ?_
            refine tr_getR dX12_readRising_26 fl12_188 (kR15 hS67.1 ta0) d12 ?_
            refine q_getI dX12_readRising_29 fl12_192 (kR14 hS67.1 ta11) ((hS67.cell ta11 (by decide +kernel)).trans c40) ?_
            refine q_iconst dX12_readRising_32 (by decide) ?_
            intro v382 h383
            refine q_isubE dX12_readRising_33 (by intros; omega) ?_
            intro v384 h385
            refine q_callVi hE (M' := mX12_bounded) (as := [_, _]) dX12_readRising_34 lk12_153 inX12_bounded seX12_bounded myX12_bounded (by decide) ⟨by decide, by decide⟩ rfl (kR15 hS67.1 ta0) (Nat.le_of_ble_eq_true rfl) rfl rfl (by decide) (by decide) (fk_X12_bounded hS67.1 (gB) (gs65) ta0 (by (try rw [c73]); first | done | with_reducible assumption | omega) (by (try rw [c73]); first | done | with_reducible assumption | omega) (by (try rw [c75]); first | done | with_reducible assumption | omega) (by (try rw [c77]); first | done | with_reducible assumption | omega) (by (try rw [c79]); first | done | assumption) (by (try rw [c81]); first | done | assumption) (by (try rw [c83]); first | done | assumption)) ?_
            rintro v391 cn' K' N' I386 R387 L388 ⟨rfl, rfl, rfl, rfl, rfl, g389, dj392, -⟩
            have hS393 := hS67.tr g389 (by decide +kernel) (by decide +kernel)
            have c394 : I386 a0 10 = v74 := (g389.cell ta0 (by decide +kernel)).trans c75
            have c395 : I386 a0 11 = v76 := (g389.cell ta0 (by decide +kernel)).trans c77
            have c396 : I386 a0 12 = v80 := (g389.cell ta0 (by decide +kernel)).trans c81
            have c397 : I386 a0 8 = v82 := (g389.cell ta0 (by decide +kernel)).trans c83
            have hO398 : FrO 61 a1 T I0 I386 := hO69.st g389 (by decide +kernel)
            rcases dj392 with ⟨p399, p400, p401, p402, p403, p404, p405, p406, p407, p408, p409, p410, -⟩ | ⟨p411, p412, p413, p414, p415, -⟩ | ⟨p416, p417, p418, p419, p420, p421, -⟩
            · skip
              obtain ⟨v422, c423⟩ : ∃ v, I386 a0 13 = v := ⟨_, rfl⟩
              rw [c423] at p403
              rw [c71] at p403
              obtain ⟨v424, c425⟩ : ∃ v, I386 a0 9 = v := ⟨_, rfl⟩
              have b426 := iv15_9 hS393.1 ta0 c425
              rw [c425] at p404
              rw [c425] at p405
              rw [c394] at p406
              rw [c395] at p407
              rw [c79] at p408
              rw [c396] at p409
              rw [c397] at p410
              refine tr_istore dX12_readRising_37 (by decide) (by decide) ?_
              refine tr_iload dX12_readRising_39 hl60 ?_
              refine tr_iload_n dX12_readRising_41 hl59 ?_
              refine q_icmp_ne 50 dX12_readRising_42 (by decide) (fun h427 => ?_) (fun h427 => ?_)
              · skip
                refine tr_aload_n dX12_readRising_50 hl56 ?_
                have p428 := p410 (by omega)
                refine q_callVv hE (M' := mX12_goesOn) (as := []) dX12_readRising_51 lk12_142 inX12_goesOn seX12_goesOn myX12_goesOn (by decide) ⟨by decide, by decide⟩ rfl (kR15 hS393.1 ta0) (Nat.le_of_ble_eq_true rfl) rfl rfl (by decide) (by decide) (fk_X12_goesOn hS393.1 (gB) ((tkN gB gs65)) ta0 (TxA.kp hT hS393 ta0 rfl rfl rfl (by decide +kernel) (by decide +kernel)) (by (try rw [c397]); first | done | with_reducible assumption | omega) (by (try rw [((hS393.cell ta0 (by decide +kernel)).trans c36)]); first | done | with_reducible assumption | omega) (by (try rw [c425]); first | done | with_reducible assumption | omega)) ?_
                rintro cn' K' N' I429 R430 L431 ⟨rfl, rfl, rfl, rfl, g432, gl433, p435, p436, p437, p438, p439, p440, p441, -⟩
                have hS442 := hS393.tr g432 (by decide +kernel) (by decide +kernel)
                have c443 : I429 a0 13 = v422 := (g432.cell ta0 (by decide +kernel)).trans c423
                have hO444 : FrO 61 a1 T I0 I429 := hO398.st g432 (by decide +kernel)
                have hL445 := hL68.tr gl433 (by decide +kernel)
                obtain ⟨v446, c447⟩ : ∃ v, I429 a0 9 = v := ⟨_, rfl⟩
                have b448 := iv15_9 hS442.1 ta0 c447
                rw [c447] at p435
                rw [c447] at p436
                obtain ⟨v449, c450⟩ : ∃ v, I429 a0 10 = v := ⟨_, rfl⟩
                have b451 := iv15_10 hS442.1 ta0 c450
                rw [c450] at p437
                obtain ⟨v452, c453⟩ : ∃ v, I429 a0 11 = v := ⟨_, rfl⟩
                rw [c453] at p438
                obtain ⟨y454, c455⟩ : ∃ v, L431 a0 15 = v := ⟨_, rfl⟩
                rw [c455] at p439
                obtain ⟨v456, c457⟩ : ∃ v, I429 a0 12 = v := ⟨_, rfl⟩
                rw [c457] at p440
                obtain ⟨v458, c459⟩ : ∃ v, I429 a0 8 = v := ⟨_, rfl⟩
                have b460 := iv15_8 hS442.1 ta0 c459
                rw [c459] at p441
                refine tr_aload_n dX12_readRising_54 hl56 ?_
                refine q_getI dX12_readRising_55 fl12_99 (kR15 hS442.1 ta0) c447 ?_
                refine q_iconst dX12_readRising_58 (by decide) ?_
                intro v461 h462
                refine q_icmp_ne 64 dX12_readRising_59 (by decide) (fun h463 => ?_) (fun h463 => ?_)
                · skip
                  refine tr_aload_n dX12_readRising_64 hl57 ?_
                  refine tr_iload_n dX12_readRising_65 hl58 ?_
                  refine tr_iload dX12_readRising_66 hl60 ?_
                  refine q_iaddE dX12_readRising_68 (by intros; omega) ?_
                  intro v464 h465
                  refine tr_iload dX12_readRising_69 rfl ?_
                  refine q_iast dX12_readRising_71 (kR61 hS442.1 ta1) (ti_in (nR61 hS442.1 ta1) (by omega) (by omega)) hS442 ta1 (by show (0 : Int) ≤ v391.toInt ∧ v391.toInt ≤ (239 : Int); omega) rfl (by rfl) ?_
                  intro I466 hS467 e469 f468
                  have c470 : I466 a0 13 = v422 := (f468 _ _ (fun q => by have z := ta0; rw [q.1, ta1] at z; exact absurd z (by decide))).trans c443
                  have c471 : I466 a0 9 = v446 := (f468 _ _ (fun q => by have z := ta0; rw [q.1, ta1] at z; exact absurd z (by decide))).trans c447
                  have c472 : I466 a0 10 = v449 := (f468 _ _ (fun q => by have z := ta0; rw [q.1, ta1] at z; exact absurd z (by decide))).trans c450
                  have c473 : I466 a0 11 = v452 := (f468 _ _ (fun q => by have z := ta0; rw [q.1, ta1] at z; exact absurd z (by decide))).trans c453
                  have c474 : I466 a0 12 = v456 := (f468 _ _ (fun q => by have z := ta0; rw [q.1, ta1] at z; exact absurd z (by decide))).trans c457
                  have c475 : I466 a0 8 = v458 := (f468 _ _ (fun q => by have z := ta0; rw [q.1, ta1] at z; exact absurd z (by decide))).trans c459
                  have hO476 : FrO 61 a1 T I0 I466 := hO444.put f468 ta1 (Or.inr rfl)
                  refine q_iincE dX12_readRising_72 hl60 (by decide) (by decide) (by intros; omega) ?_
                  intro v477 h478
                  refine tr_iload dX12_readRising_75 rfl ?_
                  refine q_iconst dX12_readRising_77 (by decide) ?_
                  intro v479 h480
                  refine q_iaddE dX12_readRising_78 (by intros; omega) ?_
                  intro v481 h482
                  refine tr_istore dX12_readRising_79 (by decide) (by decide) ?_
                  refine tr_aload_n dX12_readRising_81 hl56 ?_
                  refine q_bipush dX12_readRising_82 (by decide +kernel) ?_
                  intro v483 h484
                  refine q_callVi hE (M' := mX12_eatsSign) (as := [_]) dX12_readRising_84 lk12_221 inX12_eatsSign seX12_eatsSign myX12_eatsSign (by decide) ⟨by decide, by decide⟩ rfl (kR15 hS467.1 ta0) (Nat.le_of_ble_eq_true rfl) rfl rfl (by decide) (by decide) (fk_X12_eatsSign hS467.1 (gB) ((tkN gB gs65)) ta0 (TxA.kp hT hS467 ta0 rfl rfl rfl (by decide +kernel) (by decide +kernel)) (by (try rw [c471]); first | done | with_reducible assumption | omega) (by (try rw [c471]); first | done | with_reducible assumption | omega) (by (try rw [c472]); first | done | with_reducible assumption | omega) (by (try rw [c473]); first | done | with_reducible assumption | omega) (by (try rw [c455]); first | done | assumption) (by (try rw [c474]); first | done | assumption) (by (try rw [c475]); first | done | assumption) (by (try rw [((hS467.cell ta0 (by decide +kernel)).trans c36)]); first | done | with_reducible assumption | omega) (by first | done | with_reducible assumption | omega)) ?_
                  rintro v490 cn' K' N' I485 R486 L487 ⟨rfl, rfl, rfl, rfl, g488, gl489, h491, dj492, -⟩
                  have hS493 := hS467.tr g488 (by decide +kernel) (by decide +kernel)
                  have c494 : I485 a0 13 = v422 := (g488.cell ta0 (by decide +kernel)).trans c470
                  have hO495 : FrO 61 a1 T I0 I485 := hO476.st g488 (by decide +kernel)
                  have hL496 := hL445.tr gl489 (by decide +kernel)
                  rcases dj492 with ⟨p497, p498, p499, p500, p501, p502, p503, p504, p505, p506, -⟩ | ⟨p507, p508, p509, p510, p511, p512, p513, p514, p515, p516, -⟩
                  · skip
                    rw [c494] at p499
                    rw [c470] at p499
                    obtain ⟨v517, c518⟩ : ∃ v, I485 a0 9 = v := ⟨_, rfl⟩
                    have b519 := iv15_9 hS493.1 ta0 c518
                    rw [c518] at p500
                    rw [c518] at p501
                    obtain ⟨v520, c521⟩ : ∃ v, I485 a0 10 = v := ⟨_, rfl⟩
                    have b522 := iv15_10 hS493.1 ta0 c521
                    rw [c521] at p502
                    obtain ⟨v523, c524⟩ : ∃ v, I485 a0 11 = v := ⟨_, rfl⟩
                    rw [c524] at p503
                    obtain ⟨y525, c526⟩ : ∃ v, L487 a0 15 = v := ⟨_, rfl⟩
                    rw [c526] at p504
                    obtain ⟨v527, c528⟩ : ∃ v, I485 a0 12 = v := ⟨_, rfl⟩
                    rw [c528] at p505
                    obtain ⟨v529, c530⟩ : ∃ v, I485 a0 8 = v := ⟨_, rfl⟩
                    have b531 := iv15_8 hS493.1 ta0 c530
                    rw [c530] at p506
                    refine tr_istore dX12_readRising_87 (by decide) (by decide) ?_
                    refine tr_goto 9 dX12_readRising_89 (by decide) ?_
                    exact ih104 _ v477 v481 v490 I485 L487 ((tkN gB (tkN gB gs65))) (gk110) v422 v517 v520 v523 y525 v527 v529 hl56 hl57 hl58 hl59 rfl rfl rfl hS493 hL496 hO495 c494 c518 c521 c524 c526 c528 c530 (by rw [← g84]; simp only [riF, ↓reduceIte]; rw [show v481.toInt = tkV gB gs65 + 1 by omega]; repeat' (first | split | omega)) (by rw [← g85]; simp only [riP, ↓reduceIte]; rw [show v481.toInt = tkV gB gs65 + 1 by omega]; repeat' (first | split | omega)) (by rw [← g86]; simp only [riS, ↓reduceIte]; rw [show v481.toInt = tkV gB gs65 + 1 by omega]; repeat' (first | split | omega)) (by rw [← g87]; simp only [riC, ↓reduceIte]; repeat' (first | split | omega)) (by omega) (by omega) (by omega) (by omega) (by omega) (by omega) (by omega) (by omega) (by omega) (by omega) (by omega) (by assumption) (by assumption) (by assumption) ⟨by rw [show v477.toInt.toNat = v53.toInt.toNat + 1 by omega, it2_on, rw102.1], fun k hk => by by_cases z : (k : Int) < v53.toInt; exact (congrArg Int32.toInt ((g488.cell ta1 (wm_no (by decide +kernel))).trans ((f468 _ _ (fun q => by have z1 := q.2; have z3 := ti_nat (i := v464) (by omega); omega)).trans ((g432.cell ta1 (wm_no (by decide +kernel))).trans (g389.cell ta1 (wm_no (by decide +kernel))))))).trans (rw102.2 k z); have y := ti_nat (i := v464) (by omega); have hk2 : (k : Int) = v53.toInt := (by omega); rw [show x2.toInt.toNat + k = v464.toNatClampNeg by omega, show I485 a1 v464.toNatClampNeg = _ from (Eq.trans (g488.cell ta1 (wm_no (by decide +kernel))) e469), show k = v53.toInt.toNat by omega, rw102.1]; omega⟩ (fun j hj => (Eq.trans ((g488.cell ta1 (wm_no (by decide +kernel))).trans ((f468 _ _ (fun q => by have z1 := q.2; have z3 := ti_nat (i := v464) (by omega); omega)).trans ((g432.cell ta1 (wm_no (by decide +kernel))).trans (g389.cell ta1 (wm_no (by decide +kernel)))))) (rw103 j hj))) (by omega)
                  · skip
                    rw [c494] at p509
                    rw [c470] at p509
                    obtain ⟨v532, c533⟩ : ∃ v, I485 a0 9 = v := ⟨_, rfl⟩
                    have b534 := iv15_9 hS493.1 ta0 c533
                    rw [c533] at p510
                    rw [c533] at p511
                    obtain ⟨v535, c536⟩ : ∃ v, I485 a0 10 = v := ⟨_, rfl⟩
                    have b537 := iv15_10 hS493.1 ta0 c536
                    rw [c536] at p512
                    obtain ⟨v538, c539⟩ : ∃ v, I485 a0 11 = v := ⟨_, rfl⟩
                    rw [c539] at p513
                    obtain ⟨y540, c541⟩ : ∃ v, L487 a0 15 = v := ⟨_, rfl⟩
                    rw [c541] at p514
                    obtain ⟨v542, c543⟩ : ∃ v, I485 a0 12 = v := ⟨_, rfl⟩
                    rw [c543] at p515
                    obtain ⟨v544, c545⟩ : ∃ v, I485 a0 8 = v := ⟨_, rfl⟩
                    have b546 := iv15_8 hS493.1 ta0 c545
                    rw [c545] at p516
                    refine tr_istore dX12_readRising_87 (by decide) (by decide) ?_
                    refine tr_goto 9 dX12_readRising_89 (by decide) ?_
                    refine tr_iload dX12_readRising_9 rfl ?_
                    refine q_if_eq 92 dX12_readRising_11 (by decide) (fun h547 => ?_) (fun h547 => ?_)
                    · skip
                      refine tr_iload dX12_readRising_92 rfl ?_
                      have es548 : riS gB gQ 8 0 gs = (tkN gB gs65) := by rw [← g86]; simp only [riS, ↓reduceIte]; repeat' (first | split | omega)
                      obtain ⟨v549, c550⟩ : ∃ v, I485 a0 14 = v := ⟨_, rfl⟩
                      exact tr_iret hZ dX12_readRising_94 rfl (by decide) (by decide) ⟨v477, rfl, rfl, rfl, rfl, rfl, hS493, (by omega), (fun j hj => (Eq.trans ((g488.cell ta1 (wm_no (by decide +kernel))).trans ((f468 _ _ (fun q => by have z1 := q.2; have z3 := ti_nat (i := v464) (by omega); omega)).trans ((g432.cell ta1 (wm_no (by decide +kernel))).trans (g389.cell ta1 (wm_no (by decide +kernel)))))) (rw103 j hj))), hO495, (Or.inl ⟨(by rw [← g84]; simp only [riF, ↓reduceIte]; repeat' (first | split | omega)), (by (try rw [es548]); (try rw [c494]); (try rw [c46]); first | done | with_reducible assumption | omega), (by (try rw [es548]); (try rw [c533]); first | done | with_reducible assumption | omega), (by (try rw [es548]); (try rw [c533]); first | done | with_reducible assumption | omega), (by (try rw [es548]); (try rw [c536]); first | done | with_reducible assumption | omega), (by (try rw [es548]); (try rw [c539]); first | done | with_reducible assumption | omega), (by (try rw [es548]); (try rw [c541]); first | done | assumption), (by (try rw [es548]); (try rw [c543]); first | done | assumption), (by (try rw [es548]); (try rw [c545]); first | done | assumption), (by rw [← g87]; simp only [riC, ↓reduceIte]; repeat' (first | split | omega)), hL496, (fun k hk => by have hc : riC gB 8 gs = v53.toInt + 1 := (by rw [← g87]; simp only [riC, ↓reduceIte]; repeat' (first | split | omega)); by_cases z : (k : Int) < v53.toInt; exact (congrArg Int32.toInt ((g488.cell ta1 (wm_no (by decide +kernel))).trans ((f468 _ _ (fun q => by have z1 := q.2; have z3 := ti_nat (i := v464) (by omega); omega)).trans ((g432.cell ta1 (wm_no (by decide +kernel))).trans (g389.cell ta1 (wm_no (by decide +kernel))))))).trans (rw102.2 k z); have y := ti_nat (i := v464) (by omega); have hk2 : (k : Int) = v53.toInt := (by omega); rw [show x2.toInt.toNat + k = v464.toNatClampNeg by omega, show I485 a1 v464.toNatClampNeg = _ from (Eq.trans (g488.cell ta1 (wm_no (by decide +kernel))) e469), show k = v53.toInt.toNat by omega, rw102.1]; omega), trivial⟩), trivial⟩
                    · skip
                      exfalso; omega
                · skip
                  exfalso; omega
              · skip
                exfalso; omega
            · skip
              obtain ⟨v551, c552⟩ : ∃ v, I386 a0 9 = v := ⟨_, rfl⟩
              have b553 := iv15_9 hS393.1 ta0 c552
              rw [c552] at p413
              obtain ⟨v554, c555⟩ : ∃ v, I386 a0 13 = v := ⟨_, rfl⟩
              rw [c555] at p414
              obtain ⟨v556, c557⟩ : ∃ v, I386 a0 14 = v := ⟨_, rfl⟩
              rw [c557] at p415
              refine tr_istore dX12_readRising_37 (by decide) (by decide) ?_
              refine tr_iload dX12_readRising_39 hl60 ?_
              refine tr_iload_n dX12_readRising_41 hl59 ?_
              refine q_icmp_ne 50 dX12_readRising_42 (by decide) (fun h558 => ?_) (fun h558 => ?_)
              · skip
                refine tr_aload_n dX12_readRising_50 hl56 ?_
                refine q_callVv hE (M' := mX12_goesOn) (as := []) dX12_readRising_51 lk12_142 inX12_goesOn seX12_goesOn myX12_goesOn (by decide) ⟨by decide, by decide⟩ rfl (kR15 hS393.1 ta0) (Nat.le_of_ble_eq_true rfl) rfl rfl (by decide) (by decide) (k_X12_goesOn hS393.1 ta0) ?_
                rintro cn' K' N' I559 R560 L561 ⟨rfl, rfl, rfl, rfl, g562, p564, p565, p566, w567, -⟩
                have hS568 := hS393.tr g562 (by decide +kernel) (by decide +kernel)
                have c569 : I559 a0 13 = v554 := (g562.cell ta0 (by decide +kernel)).trans c555
                have c570 : I559 a0 14 = v556 := (g562.cell ta0 (by decide +kernel)).trans c557
                obtain ⟨v571, c572⟩ : ∃ v, I559 a0 9 = v := ⟨_, rfl⟩
                have b573 := iv15_9 hS568.1 ta0 c572
                rw [c552] at p564
                rw [c572] at p564
                rw [c552] at p565
                rw [c572] at p565
                obtain ⟨v574, c575⟩ : ∃ v, I559 a0 8 = v := ⟨_, rfl⟩
                have b576 := iv15_8 hS568.1 ta0 c575
                rw [c575] at p566
                rw [c397] at p566
                rw [c569] at p566
                rw [c555] at p566
                have hO577 : FrO 61 a1 T I0 I559 := hO398.st g562 (by decide +kernel)
                have ov578 := w567.over (by rw [c552]; omega)
                obtain ⟨v579, c580⟩ : ∃ v, I559 a0 9 = v := ⟨_, rfl⟩
                have b581 := iv15_9 hS568.1 ta0 c580
                obtain ⟨v582, c583⟩ : ∃ v, I559 a0 13 = v := ⟨_, rfl⟩
                obtain ⟨v584, c585⟩ : ∃ v, I559 a0 14 = v := ⟨_, rfl⟩
                (try rw [c580] at ov578)
                (try rw [c583] at ov578)
                (try rw [c585] at ov578)
                (try rw [c552] at ov578)
                (try rw [c555] at ov578)
                (try rw [c557] at ov578)
                refine tr_aload_n dX12_readRising_54 hl56 ?_
                refine q_getI dX12_readRising_55 fl12_99 (kR15 hS568.1 ta0) c580 ?_
                refine q_iconst dX12_readRising_58 (by decide) ?_
                intro v586 h587
                refine q_icmp_ne 64 dX12_readRising_59 (by decide) (fun h588 => ?_) (fun h588 => ?_)
                · skip
                  exfalso; omega
                · skip
                  refine q_iconst dX12_readRising_62 (by decide) ?_
                  intro v589 h590
                  obtain ⟨v591, c592⟩ : ∃ v, I559 a0 10 = v := ⟨_, rfl⟩
                  have b593 := iv15_10 hS568.1 ta0 c592
                  obtain ⟨v594, c595⟩ : ∃ v, I559 a0 11 = v := ⟨_, rfl⟩
                  obtain ⟨y596, c597⟩ : ∃ v, L561 a0 15 = v := ⟨_, rfl⟩
                  obtain ⟨v598, c599⟩ : ∃ v, I559 a0 12 = v := ⟨_, rfl⟩
                  exact tr_iret hZ dX12_readRising_63 rfl (by decide) (by decide) ⟨v589, rfl, rfl, rfl, rfl, rfl, hS568, (by omega), (fun j hj => (Eq.trans ((g562.cell ta1 (wm_no (by decide +kernel))).trans (g389.cell ta1 (wm_no (by decide +kernel)))) (rw103 j hj))), hO577, (Or.inr (⟨(by rw [← g84]; simp only [riF, ↓reduceIte]; repeat' (first | split | omega)), (by (try rw [c580]); first | done | with_reducible assumption | omega), (by (try rw [c583]); rw [← g84]; simp only [riF, ↓reduceIte]; repeat' (first | split | omega)), (by (try rw [c585]); rw [← g85]; simp only [riP, ↓reduceIte]; repeat' (first | split | omega)), trivial⟩)), trivial⟩
              · skip
                exfalso; omega
            · skip
              obtain ⟨v600, c601⟩ : ∃ v, I386 a0 9 = v := ⟨_, rfl⟩
              have b602 := iv15_9 hS393.1 ta0 c601
              rw [c601] at p419
              obtain ⟨v603, c604⟩ : ∃ v, I386 a0 13 = v := ⟨_, rfl⟩
              rw [c604] at p420
              obtain ⟨v605, c606⟩ : ∃ v, I386 a0 14 = v := ⟨_, rfl⟩
              rw [c606] at p421
              refine tr_istore dX12_readRising_37 (by decide) (by decide) ?_
              refine tr_iload dX12_readRising_39 hl60 ?_
              refine tr_iload_n dX12_readRising_41 hl59 ?_
              refine q_icmp_ne 50 dX12_readRising_42 (by decide) (fun h607 => ?_) (fun h607 => ?_)
              · skip
                refine tr_aload_n dX12_readRising_50 hl56 ?_
                refine q_callVv hE (M' := mX12_goesOn) (as := []) dX12_readRising_51 lk12_142 inX12_goesOn seX12_goesOn myX12_goesOn (by decide) ⟨by decide, by decide⟩ rfl (kR15 hS393.1 ta0) (Nat.le_of_ble_eq_true rfl) rfl rfl (by decide) (by decide) (k_X12_goesOn hS393.1 ta0) ?_
                rintro cn' K' N' I608 R609 L610 ⟨rfl, rfl, rfl, rfl, g611, p613, p614, p615, w616, -⟩
                have hS617 := hS393.tr g611 (by decide +kernel) (by decide +kernel)
                have c618 : I608 a0 13 = v603 := (g611.cell ta0 (by decide +kernel)).trans c604
                have c619 : I608 a0 14 = v605 := (g611.cell ta0 (by decide +kernel)).trans c606
                obtain ⟨v620, c621⟩ : ∃ v, I608 a0 9 = v := ⟨_, rfl⟩
                have b622 := iv15_9 hS617.1 ta0 c621
                rw [c601] at p613
                rw [c621] at p613
                rw [c601] at p614
                rw [c621] at p614
                obtain ⟨v623, c624⟩ : ∃ v, I608 a0 8 = v := ⟨_, rfl⟩
                have b625 := iv15_8 hS617.1 ta0 c624
                rw [c624] at p615
                rw [c397] at p615
                rw [c618] at p615
                rw [c604] at p615
                have hO626 : FrO 61 a1 T I0 I608 := hO398.st g611 (by decide +kernel)
                have ov627 := w616.over (by rw [c601]; omega)
                obtain ⟨v628, c629⟩ : ∃ v, I608 a0 9 = v := ⟨_, rfl⟩
                have b630 := iv15_9 hS617.1 ta0 c629
                obtain ⟨v631, c632⟩ : ∃ v, I608 a0 13 = v := ⟨_, rfl⟩
                obtain ⟨v633, c634⟩ : ∃ v, I608 a0 14 = v := ⟨_, rfl⟩
                (try rw [c629] at ov627)
                (try rw [c632] at ov627)
                (try rw [c634] at ov627)
                (try rw [c601] at ov627)
                (try rw [c604] at ov627)
                (try rw [c606] at ov627)
                refine tr_aload_n dX12_readRising_54 hl56 ?_
                refine q_getI dX12_readRising_55 fl12_99 (kR15 hS617.1 ta0) c629 ?_
                refine q_iconst dX12_readRising_58 (by decide) ?_
                intro v635 h636
                refine q_icmp_ne 64 dX12_readRising_59 (by decide) (fun h637 => ?_) (fun h637 => ?_)
                · skip
                  exfalso; omega
                · skip
                  refine q_iconst dX12_readRising_62 (by decide) ?_
                  intro v638 h639
                  obtain ⟨v640, c641⟩ : ∃ v, I608 a0 10 = v := ⟨_, rfl⟩
                  have b642 := iv15_10 hS617.1 ta0 c641
                  obtain ⟨v643, c644⟩ : ∃ v, I608 a0 11 = v := ⟨_, rfl⟩
                  obtain ⟨y645, c646⟩ : ∃ v, L610 a0 15 = v := ⟨_, rfl⟩
                  obtain ⟨v647, c648⟩ : ∃ v, I608 a0 12 = v := ⟨_, rfl⟩
                  exact tr_iret hZ dX12_readRising_63 rfl (by decide) (by decide) ⟨v638, rfl, rfl, rfl, rfl, rfl, hS617, (by omega), (fun j hj => (Eq.trans ((g611.cell ta1 (wm_no (by decide +kernel))).trans (g389.cell ta1 (wm_no (by decide +kernel)))) (rw103 j hj))), hO626, (Or.inr (⟨(by rw [← g84]; simp only [riF, ↓reduceIte]; repeat' (first | split | omega)), (by (try rw [c629]); first | done | with_reducible assumption | omega), (by (try rw [c632]); rw [← g84]; simp only [riF, ↓reduceIte]; repeat' (first | split | omega)), (by (try rw [c634]); rw [← g85]; simp only [riP, ↓reduceIte]; repeat' (first | split | omega)), trivial⟩)), trivial⟩
              · skip
                exfalso; omega
  exact lp104 _ _ v47 v49 v51 I0 L0 (gs) (8) v45 v13 v18 v22 y25 v28 v31 rfl rfl rfl rfl rfl rfl rfl hS0 hL0 hO0 c46 c14 c19 c23 c26 c29 c32 (by first | rfl | (congr 1; omega) | (congr 2 <;> omega)) (by first | rfl | (congr 1; omega) | (congr 2 <;> omega)) (by first | rfl | (congr 1; omega) | (congr 2 <;> omega)) (by omega) (by omega) (by omega) (by omega) (by omega) (by omega) (by omega) (by omega) (by omega) (by omega) (by omega) (by omega) (by assumption) (by assumption) (by assumption) ⟨by rw [show v47.toInt.toNat = 0 by omega]; rfl, fun k hk => by omega⟩ (fun j hj => rfl) (Nat.lt_succ_self _)
set_option maxHeartbeats 4000000 in
theorem fo_X12_readRising_1 {l : Launch} {T : Nat → Nat} {cn : Nat} {K N : Nat → Nat} {I0 : cz_I} {R0 : cz_R} {L0 : cz_L} {d : Int} (hW0 : Wf T cn K N I0 R0 d)  {a0 : Nat} (ta0 : T a0 = 15) {a1 : Nat} (ta1 : T a1 = 61) {x2 : Int32} (hx2 : 0 ≤ x2.toInt ∧ x2.toInt ≤ 32) {x3 : Int32} (hx3 : 8 ≤ x3.toInt ∧ x3.toInt ≤ 8) (pre0 : (I0 a0 9).toInt = 5) : ConE l mX12_readRising [.ref a0, .ref a1, .int x2, .int x3] cn K N I0 R0 L0 (ca_i (fun v cn' K' N' I' R' L' => cn = cn' ∧ K = K' ∧ N = N' ∧ I0 = I' ∧ R0 = R' ∧ L0 = L' ∧ (v.toInt = 0) ∧ True)) := by
  refine ConE.of (by decide +kernel) rfl (Nat.le_of_ble_eq_true rfl) rfl (fun X hX hZ hE => ?_)
  subst hX
  obtain ⟨v11, c12⟩ : ∃ v, I0 a0 9 = v := ⟨_, rfl⟩
  have b13 := iv15_9 hW0 ta0 c12
  have p14 := pre0
  rw [c12] at p14
  obtain ⟨v15, c16⟩ : ∃ v, I0 a0 13 = v := ⟨_, rfl⟩
  refine q_iconst dX12_readRising_0 (by decide) ?_
  intro v17 h18
  refine tr_istore dX12_readRising_1 (by decide) (by decide) ?_
  refine q_iconst dX12_readRising_3 (by decide) ?_
  intro v19 h20
  refine tr_istore dX12_readRising_4 (by decide) (by decide) ?_
  refine q_iconst dX12_readRising_6 (by decide) ?_
  intro v21 h22
  refine tr_istore dX12_readRising_7 (by decide) (by decide) ?_
  refine tr_iload dX12_readRising_9 rfl ?_
  refine q_if_eq 92 dX12_readRising_11 (by decide) (fun h23 => ?_) (fun h23 => ?_)
  · skip
    exfalso; omega
  · skip
    refine tr_aload_n dX12_readRising_14 rfl ?_
    refine q_getI dX12_readRising_15 fl12_99 (kR15 hW0 ta0) c12 ?_
    refine q_iconst dX12_readRising_18 (by decide) ?_
    intro v24 h25
    refine q_icmp_eq 92 dX12_readRising_19 (by decide) (fun h26 => ?_) (fun h26 => ?_)
    · skip
      refine tr_iload dX12_readRising_92 rfl ?_
      exact tr_iret hZ dX12_readRising_94 rfl (by decide) (by decide) ⟨v17, rfl, rfl, rfl, rfl, rfl, rfl, rfl, (by first | done | with_reducible assumption | omega), trivial⟩
    · skip
      exfalso; omega
def wik_X12_readSlice : List Nat := [902, 968, 969, 970, 971, 972, 973, 974, 3903, 3967]
def wrk_X12_readSlice : List Nat := []
def wlk_X12_readSlice : List Nat := [975]
set_option maxHeartbeats 4000000 in
theorem fk_X12_readSlice {l : Launch} {T : Nat → Nat} {cn : Nat} {K N : Nat → Nat} {I0 : cz_I} {R0 : cz_R} {L0 : cz_L} (hW0 : Wf T cn K N I0 R0 0) (gB : cz_B) (gs : Int) (gQ : Nat → Int) {a0 : Nat} (ta0 : T a0 = 15) (hT : ∀ t, R0 a0 5 = some t → Tx I0 t gB) (hN : ∀ b, R0 a0 4 = some b → NmM I0 R0 L0 b gQ) (pre0 : (I0 a0 9).toInt = (tkM gB gs)) (pre1 : (I0 a0 9).toInt ≤ 4) (pre2 : (I0 a0 10).toInt = (tkS gB gs)) (pre3 : (I0 a0 11).toInt = (tkG gB gs)) (pre4 : (AtW ((tkK gB gs)) ((L0 a0 15).toInt) ((tkW gB gs)))) (pre5 : (AtV ((tkK gB gs)) ((I0 a0 12).toInt) ((tkV gB gs)))) (pre6 : (AtN ((tkK gB gs)) ((I0 a0 8).toInt) ((tkN gB gs)))) (pre7 : (I0 a0 7).toInt = (gB.2)) (pre8 : ∀ b1, R0 a0 4 = some b1 → (I0 b1 0).toInt = (gQ 0)) (pre9 : ∀ b1, R0 a0 4 = some b1 → (I0 b1 1).toInt = (gQ 1)) (pre10 : ∀ b1, R0 a0 4 = some b1 → (I0 b1 2).toInt = (gQ 2)) (pre11 : ∀ b1, R0 a0 4 = some b1 → (I0 b1 3).toInt = (gQ 3)) (pre12 : ∀ b1, R0 a0 4 = some b1 → (I0 b1 4).toInt = (gQ 4)) (pre13 : ∀ b1, R0 a0 4 = some b1 → (I0 b1 5).toInt = (gQ 5)) (pre14 : ∀ b1, R0 a0 4 = some b1 → (I0 b1 6).toInt = (gQ 6)) (pre15 : ∀ b1, R0 a0 4 = some b1 → (I0 b1 9).toInt = (gQ 8)) (pre16 : (Q7M ((gQ 0)) ((gQ 7)))) (pre17 : (tkK gB gs) = 1) (pre18 : (srt gB gs) = 9) (nn4 : ∃ b, R0 a0 4 = some b) : ConE l mX12_readSlice [.ref a0] cn K N I0 R0 L0 (ca_v (fun cn' K' N' I' R' L' => cn = cn' ∧ K = K' ∧ N = N' ∧ R0 = R' ∧ St T cn K N 0 wik_X12_readSlice wrk_X12_readSlice I0 R0 I' R0 ∧ (∀ b, R0 a0 4 = some b → FrM R0 b T I0 I') ∧ (∀ dr, R0 a0 4 = some dr → FrO 14 dr T I0 I') ∧ ((((lnF gB gQ gs) = 0) ∧ (∀ b1, R0 a0 4 = some b1 → (I' b1 0).toInt = (lnQ gB gQ gs 0)) ∧ (∀ b1, R0 a0 4 = some b1 → (I' b1 1).toInt = (lnQ gB gQ gs 1)) ∧ (∀ b1, R0 a0 4 = some b1 → (I' b1 2).toInt = (lnQ gB gQ gs 2)) ∧ (∀ b1, R0 a0 4 = some b1 → (I' b1 3).toInt = (lnQ gB gQ gs 3)) ∧ (∀ b1, R0 a0 4 = some b1 → (I' b1 4).toInt = (lnQ gB gQ gs 4)) ∧ (∀ b1, R0 a0 4 = some b1 → (I' b1 5).toInt = (lnQ gB gQ gs 5)) ∧ (∀ b1, R0 a0 4 = some b1 → (I' b1 6).toInt = (lnQ gB gQ gs 6)) ∧ (∀ b1, R0 a0 4 = some b1 → (I' b1 9).toInt = (lnQ gB gQ gs 8)) ∧ ((I' a0 13).toInt = (I0 a0 13).toInt) ∧ ((I' a0 9).toInt = (tkM gB (lnS gB gQ gs))) ∧ ((I' a0 9).toInt ≤ 4) ∧ ((I' a0 10).toInt = (tkS gB (lnS gB gQ gs))) ∧ ((I' a0 11).toInt = (tkG gB (lnS gB gQ gs))) ∧ ((AtW ((tkK gB (lnS gB gQ gs))) ((L' a0 15).toInt) ((tkW gB (lnS gB gQ gs))))) ∧ ((AtV ((tkK gB (lnS gB gQ gs))) ((I' a0 12).toInt) ((tkV gB (lnS gB gQ gs))))) ∧ ((AtN ((tkK gB (lnS gB gQ gs))) ((I' a0 8).toInt) ((tkN gB (lnS gB gQ gs))))) ∧ LgS T wlk_X12_readSlice L0 L' ∧ (∀ b, R0 a0 4 = some b → NmM I' R0 L' b (lnQ gB gQ gs)) ∧ (∀ E b, R0 a0 4 = some b → AlM I0 R0 b gQ E → AlM I' R0 b (lnQ gB gQ gs) (lnE gB gQ gs E)) ∧ True) ∨ (((lnF gB gQ gs) ≠ 0) ∧ ((I' a0 9).toInt = 5) ∧ ((I' a0 13).toInt = (lnF gB gQ gs)) ∧ ((I' a0 14).toInt = (lnP gB gQ gs)) ∧ True)) ∧ True)) := by
  refine ConE.of (by decide +kernel) rfl (Nat.le_of_ble_eq_true rfl) rfl (fun X hX hZ hE => ?_)
  subst hX
  have hS0 : St T cn K N 0 wik_X12_readSlice wrk_X12_readSlice I0 R0 I0 R0 := St.rf0 hW0
  have hL0 : LgS T wlk_X12_readSlice L0 L0 := LgS.rf0
  obtain ⟨a1, d2⟩ := nn4
  have ta1 : T a1 = 14 := hW0.rsN ta0 rfl d2
  obtain ⟨v3, c4⟩ : ∃ v, I0 a0 9 = v := ⟨_, rfl⟩
  have b5 := iv15_9 hS0.1 ta0 c4
  have p6 := pre0
  rw [c4] at p6
  have p7 := pre1
  rw [c4] at p7
  obtain ⟨v8, c9⟩ : ∃ v, I0 a0 10 = v := ⟨_, rfl⟩
  have b10 := iv15_10 hS0.1 ta0 c9
  have p11 := pre2
  rw [c9] at p11
  obtain ⟨v12, c13⟩ : ∃ v, I0 a0 11 = v := ⟨_, rfl⟩
  have p14 := pre3
  rw [c13] at p14
  obtain ⟨y15, c16⟩ : ∃ v, L0 a0 15 = v := ⟨_, rfl⟩
  have p17 := pre4
  rw [c16] at p17
  obtain ⟨v18, c19⟩ : ∃ v, I0 a0 12 = v := ⟨_, rfl⟩
  have p20 := pre5
  rw [c19] at p20
  obtain ⟨v21, c22⟩ : ∃ v, I0 a0 8 = v := ⟨_, rfl⟩
  have b23 := iv15_8 hS0.1 ta0 c22
  have p24 := pre6
  rw [c22] at p24
  obtain ⟨v25, c26⟩ : ∃ v, I0 a0 7 = v := ⟨_, rfl⟩
  have b27 := iv15_7 hW0 ta0 c26
  have p28 := pre7
  rw [c26] at p28
  obtain ⟨v29, c30⟩ : ∃ v, I0 a1 0 = v := ⟨_, rfl⟩
  have b31 := iv14_0 hW0 ta1 c30
  have p32 := pre8 _ d2
  rw [c30] at p32
  obtain ⟨v33, c34⟩ : ∃ v, I0 a1 1 = v := ⟨_, rfl⟩
  have b35 := iv14_1 hW0 ta1 c34
  have p36 := pre9 _ d2
  rw [c34] at p36
  obtain ⟨v37, c38⟩ : ∃ v, I0 a1 2 = v := ⟨_, rfl⟩
  have b39 := iv14_2 hW0 ta1 c38
  have p40 := pre10 _ d2
  rw [c38] at p40
  obtain ⟨v41, c42⟩ : ∃ v, I0 a1 3 = v := ⟨_, rfl⟩
  have b43 := iv14_3 hW0 ta1 c42
  have p44 := pre11 _ d2
  rw [c42] at p44
  obtain ⟨v45, c46⟩ : ∃ v, I0 a1 4 = v := ⟨_, rfl⟩
  have b47 := iv14_4 hW0 ta1 c46
  have p48 := pre12 _ d2
  rw [c46] at p48
  obtain ⟨v49, c50⟩ : ∃ v, I0 a1 5 = v := ⟨_, rfl⟩
  have b51 := iv14_5 hW0 ta1 c50
  have p52 := pre13 _ d2
  rw [c50] at p52
  obtain ⟨v53, c54⟩ : ∃ v, I0 a1 6 = v := ⟨_, rfl⟩
  have b55 := iv14_6 hS0.1 ta1 c54
  have p56 := pre14 _ d2
  rw [c54] at p56
  obtain ⟨v57, c58⟩ : ∃ v, I0 a1 9 = v := ⟨_, rfl⟩
  have b59 := iv14_9 hW0 ta1 c58
  have p60 := pre15 _ d2
  rw [c58] at p60
  have p61 := pre16
  have p62 := pre17
  have p63 := pre18
  obtain ⟨v64, c65⟩ : ∃ v, I0 a0 13 = v := ⟨_, rfl⟩
  have hM0 := hN _ d2
  have hO0 : FrO 14 a1 T I0 I0 := FrO.rf
  obtain ⟨a66, d67, ta66⟩ := rf14_17 hW0 ta1
  obtain ⟨a68, d69, ta68⟩ := rf14_18 hW0 ta1
  have hF := lnF_ch gB gQ gs
  have hP := lnP_ch gB gQ gs
  replace hF := hF.neg (by omega)
  replace hP := hP.neg (by omega)
  replace hF := hF.neg (by omega)
  replace hP := hP.neg (by omega)
  refine tr_aload_n dX12_readSlice_0 rfl ?_
  refine tr_aload_n dX12_readSlice_1 rfl ?_
  refine tr_getR dX12_readSlice_2 fl12_188 (kR15 hS0.1 ta0) d2 ?_
  refine q_getI dX12_readSlice_5 fl12_370 (kR14 hS0.1 ta1) c54 ?_
  refine q_iconst dX12_readSlice_8 (by decide) ?_
  intro v70 h71
  refine q_callVv hE (M' := mX12_begins) (as := [_, _]) dX12_readSlice_9 lk12_268 inX12_begins seX12_begins myX12_begins (by decide) ⟨by decide, by decide⟩ rfl (kR15 hS0.1 ta0) (Nat.le_of_ble_eq_true rfl) rfl rfl (by decide) (by decide) (fk_X12_begins hS0.1 (gB) (gs) (gQ) ta0 (TxA.kp hT hS0 ta0 rfl rfl rfl (by decide +kernel) (by decide +kernel)) (by (try rw [c4]); first | done | with_reducible assumption | omega) (by (try rw [c4]); first | done | with_reducible assumption | omega) (by (try rw [c9]); first | done | with_reducible assumption | omega) (by (try rw [c13]); first | done | with_reducible assumption | omega) (by (try rw [c16]); first | done | assumption) (by (try rw [c19]); first | done | assumption) (by (try rw [c22]); first | done | assumption) (by (try rw [c26]); first | done | with_reducible assumption | omega) (fun q0 z0 => by obtain rfl := Option.some.inj ((d2).symm.trans z0); (try rw [c30]); first | done | with_reducible assumption | omega) (by first | done | with_reducible assumption | omega) ⟨_, d2⟩) ?_
  rintro cn' K' N' I72 R73 L74 ⟨rfl, rfl, rfl, rfl, g75, dj78, -⟩
  have hM79 : NmM I72 R0 L0 a1 gQ := NmM.kpS hM0 g75 hS0.1 ta1 (by decide +kernel) (by decide +kernel)
  have hS80 := hS0.tr g75 (by decide +kernel) (by decide +kernel)
  have c81 : I72 a1 6 = v53 := (g75.cell ta1 (by decide +kernel)).trans c54
  have hO82 : FrO 14 a1 T I0 I72 := hO0.st g75 (by decide +kernel)
  rcases dj78 with ⟨p83, p84, p85, p86, p87, p88, p89, p90, p91, p92, gl93, -⟩ | ⟨p94, p95, p96, p97, -⟩ | ⟨p98, p99, p100, p101, p102, -⟩
  · skip
    have hL103 := hL0.tr gl93 (by decide +kernel)
    have hM104 : NmM I72 R0 L74 a1 gQ := NmM.kpL hM79 gl93 hS80.1 ta1 (by decide +kernel)
    obtain ⟨v105, c106⟩ : ∃ v, I72 a0 13 = v := ⟨_, rfl⟩
    rw [c106] at p85
    rw [c65] at p85
    obtain ⟨v107, c108⟩ : ∃ v, I72 a0 9 = v := ⟨_, rfl⟩
    have b109 := iv15_9 hS80.1 ta0 c108
    rw [c108] at p86
    rw [c108] at p87
    obtain ⟨v110, c111⟩ : ∃ v, I72 a0 10 = v := ⟨_, rfl⟩
    have b112 := iv15_10 hS80.1 ta0 c111
    rw [c111] at p88
    obtain ⟨v113, c114⟩ : ∃ v, I72 a0 11 = v := ⟨_, rfl⟩
    rw [c114] at p89
    obtain ⟨y115, c116⟩ : ∃ v, L74 a0 15 = v := ⟨_, rfl⟩
    rw [c116] at p90
    obtain ⟨v117, c118⟩ : ∃ v, I72 a0 12 = v := ⟨_, rfl⟩
    rw [c118] at p91
    obtain ⟨v119, c120⟩ : ∃ v, I72 a0 8 = v := ⟨_, rfl⟩
    have b121 := iv15_8 hS80.1 ta0 c120
    rw [c120] at p92
    have p122 := p61
    unfold Q7M at p122
    replace hF := hF.neg (by omega)
    replace hP := hP.neg (by omega)
    replace hF := hF.neg (by omega)
    replace hP := hP.neg (by omega)
    clear p122
    obtain ⟨w123, w124, w125, w126, w127, w128, w129, w130, w131, w132, w133, w134⟩ := lnl_9 (B := gB) (Q := gQ) (s := gs) (by omega)
    replace hF := hF.to w123 (show ChE (riF gB gQ 8 0 (tkN gB gs)) (riF gB gQ 8 0 (tkN gB gs)) from rfl)
    replace hP := hP.to w124 (show ChE (riP gB gQ 8 0 (tkN gB gs)) (riP gB gQ 8 0 (tkN gB gs)) from rfl)
    refine tr_aload_n dX12_readSlice_12 rfl ?_
    refine tr_aload_n dX12_readSlice_13 rfl ?_
    refine tr_getR dX12_readSlice_14 fl12_188 (kR15 hS80.1 ta0) d2 ?_
    refine tr_getR dX12_readSlice_17 fl12_373 (kR14 hS80.1 ta1) d69 ?_
    refine q_bipush dX12_readSlice_20 (by decide +kernel) ?_
    intro v135 h136
    refine tr_aload_n dX12_readSlice_22 rfl ?_
    refine tr_getR dX12_readSlice_23 fl12_188 (kR15 hS80.1 ta0) d2 ?_
    refine q_getI dX12_readSlice_26 fl12_370 (kR14 hS80.1 ta1) c81 ?_
    refine q_imulE (c := 8) dX12_readSlice_29 (by omega) (by omega) ?_
    intro v137 h138
    refine q_bipush dX12_readSlice_30 (by decide +kernel) ?_
    intro v139 h140
    refine q_callVi hE (M' := mX12_readRising) (as := [_, _, _]) dX12_readSlice_32 lk12_308 inX12_readRising seX12_readRising myX12_readRising (by decide) ⟨by decide, by decide⟩ rfl (kR15 hS80.1 ta0) (Nat.le_of_ble_eq_true rfl) rfl rfl (by decide) (by decide) (fk_X12_readRising_1 hS80.1 (gB) ((tkN gB gs)) (gQ) ta0 ta68 (by omega) (by omega) (TxA.kp hT hS80 ta0 rfl rfl rfl (by decide +kernel) (by decide +kernel)) (by (try rw [c108]); first | done | with_reducible assumption | omega) (by (try rw [c108]); first | done | with_reducible assumption | omega) (by (try rw [c111]); first | done | with_reducible assumption | omega) (by (try rw [c114]); first | done | with_reducible assumption | omega) (by (try rw [c116]); first | done | assumption) (by (try rw [c118]); first | done | assumption) (by (try rw [c120]); first | done | assumption) (by (try rw [((hS80.cell ta0 (by decide +kernel)).trans c26)]); first | done | with_reducible assumption | omega) (fun q0 z0 => by obtain rfl := Option.some.inj ((d2).symm.trans z0); (try rw [((hS80.cell ta1 (by decide +kernel)).trans c30)]); first | done | with_reducible assumption | omega) (by first | done | with_reducible assumption | omega) (by first | done | with_reducible assumption | omega) ⟨_, d2⟩) ?_
    rintro v146 cn' K' N' I141 R142 L143 ⟨rfl, rfl, rfl, rfl, g144, h147, rp148, rp149, dj150, -⟩
    have hM151 : NmM I141 R0 L74 a1 gQ := NmM.kpS hM104 g144 hS80.1 ta1 (by decide +kernel) (by decide +kernel)
    have hS152 := hS80.tr g144 (by decide +kernel) (by decide +kernel)
    have c153 : I141 a1 6 = v53 := (g144.cell ta1 (by decide +kernel)).trans c81
    have hO154 : FrO 14 a1 T I0 I141 := hO82.st g144 (by decide +kernel)
    rcases dj150 with ⟨p155, p156, p157, p158, p159, p160, p161, p162, p163, p164, gl165, rp166, -⟩ | ⟨p167, p168, p169, p170, -⟩
    · skip
      have hL171 := hL103.tr gl165 (by decide +kernel)
      have hM172 : NmM I141 R0 L143 a1 gQ := NmM.kpL hM151 gl165 hS152.1 ta1 (by decide +kernel)
      obtain ⟨v173, c174⟩ : ∃ v, I141 a0 13 = v := ⟨_, rfl⟩
      rw [c174] at p156
      rw [c106] at p156
      obtain ⟨v175, c176⟩ : ∃ v, I141 a0 9 = v := ⟨_, rfl⟩
      have b177 := iv15_9 hS152.1 ta0 c176
      rw [c176] at p157
      rw [c176] at p158
      obtain ⟨v178, c179⟩ : ∃ v, I141 a0 10 = v := ⟨_, rfl⟩
      have b180 := iv15_10 hS152.1 ta0 c179
      rw [c179] at p159
      obtain ⟨v181, c182⟩ : ∃ v, I141 a0 11 = v := ⟨_, rfl⟩
      rw [c182] at p160
      obtain ⟨y183, c184⟩ : ∃ v, L143 a0 15 = v := ⟨_, rfl⟩
      rw [c184] at p161
      obtain ⟨v185, c186⟩ : ∃ v, I141 a0 12 = v := ⟨_, rfl⟩
      rw [c186] at p162
      obtain ⟨v187, c188⟩ : ∃ v, I141 a0 8 = v := ⟨_, rfl⟩
      have b189 := iv15_8 hS152.1 ta0 c188
      rw [c188] at p163
      refine tr_istore_n dX12_readSlice_35 (by decide) (by decide) ?_
      refine tr_aload_n dX12_readSlice_36 rfl ?_
      refine q_getI dX12_readSlice_37 fl12_99 (kR15 hS152.1 ta0) c176 ?_
      refine q_iconst dX12_readSlice_40 (by decide) ?_
      intro v190 h191
      refine q_icmp_ne 45 dX12_readSlice_41 (by decide) (fun h192 => ?_) (fun h192 => ?_)
      · skip
        refine tr_aload_n dX12_readSlice_45 rfl ?_
        refine tr_getR dX12_readSlice_46 fl12_188 (kR15 hS152.1 ta0) d2 ?_
        refine tr_getR dX12_readSlice_49 fl12_375 (kR14 hS152.1 ta1) d67 ?_
        refine tr_aload_n dX12_readSlice_52 rfl ?_
        refine tr_getR dX12_readSlice_53 fl12_188 (kR15 hS152.1 ta0) d2 ?_
        refine q_getI dX12_readSlice_56 fl12_370 (kR14 hS152.1 ta1) c153 ?_
        refine tr_iload_n dX12_readSlice_59 rfl ?_
        refine q_iast dX12_readSlice_60 (kR60 hS152.1 ta66) (ti_in (nR60 hS152.1 ta66) (by omega) (by omega)) hS152 ta66 (by show (0 : Int) ≤ v146.toInt ∧ v146.toInt ≤ (8 : Int); omega) rfl (by rfl) ?_
        intro I193 hS194 e196 f195
        have c197 : I193 a1 6 = v53 := (f195 _ _ (fun q => by have z := ta1; rw [q.1, ta66] at z; exact absurd z (by decide))).trans c153
        have c198 : I193 a0 13 = v173 := (f195 _ _ (fun q => by have z := ta0; rw [q.1, ta66] at z; exact absurd z (by decide))).trans c174
        have c199 : I193 a0 9 = v175 := (f195 _ _ (fun q => by have z := ta0; rw [q.1, ta66] at z; exact absurd z (by decide))).trans c176
        have c200 : I193 a0 10 = v178 := (f195 _ _ (fun q => by have z := ta0; rw [q.1, ta66] at z; exact absurd z (by decide))).trans c179
        have c201 : I193 a0 11 = v181 := (f195 _ _ (fun q => by have z := ta0; rw [q.1, ta66] at z; exact absurd z (by decide))).trans c182
        have c202 : I193 a0 12 = v185 := (f195 _ _ (fun q => by have z := ta0; rw [q.1, ta66] at z; exact absurd z (by decide))).trans c186
        have c203 : I193 a0 8 = v187 := (f195 _ _ (fun q => by have z := ta0; rw [q.1, ta66] at z; exact absurd z (by decide))).trans c188
        have hO204 : FrO 14 a1 T I0 I193 := hO154.put f195 ta66 (Or.inl (by decide))
        have hM205 : NmM I193 R0 L143 a1 gQ := NmM.kp1 hM172 f195 ta66 rfl rfl hS152.1 ta1
        refine tr_aload_n dX12_readSlice_61 rfl ?_
        refine tr_getR dX12_readSlice_62 fl12_188 (kR15 hS194.1 ta0) d2 ?_
        refine tr_dup dX12_readSlice_65 rfl ?_
        refine q_getI dX12_readSlice_66 fl12_370 (kR14 hS194.1 ta1) c197 ?_
        refine q_iconst dX12_readSlice_69 (by decide) ?_
        intro v206 h207
        refine q_iaddE dX12_readSlice_70 (by intros; omega) ?_
        intro v208 h209
        refine q_putI dX12_readSlice_71 fl12_370 (kR14 hS194.1 ta1) (Or.inl rfl) hS194 ta1 (by show (0 : Int) ≤ v208.toInt ∧ v208.toInt ≤ (4 : Int); omega) rfl (by decide +kernel) ?_
        intro I210 hS211 e212 f213
        have c214 : I210 a0 13 = v173 := (f213 _ _ (fun q => absurd q.2 (by decide))).trans c198
        have c215 : I210 a0 9 = v175 := (f213 _ _ (fun q => absurd q.2 (by decide))).trans c199
        have c216 : I210 a0 10 = v178 := (f213 _ _ (fun q => absurd q.2 (by decide))).trans c200
        have c217 : I210 a0 11 = v181 := (f213 _ _ (fun q => absurd q.2 (by decide))).trans c201
        have c218 : I210 a0 12 = v185 := (f213 _ _ (fun q => absurd q.2 (by decide))).trans c202
        have c219 : I210 a0 8 = v187 := (f213 _ _ (fun q => absurd q.2 (by decide))).trans c203
        have hO220 : FrO 14 a1 T I0 I210 := hO204.put f213 ta1 (Or.inr rfl)
        have hM221 : NmM I210 R0 L143 a1 gQ := NmM.kp1 hM205 f213 ta1 rfl rfl hS194.1 ta1
        have eF := hF.eq
        have eP := hP.eq
        obtain ⟨v222, c223⟩ : ∃ v, I210 a0 14 = v := ⟨_, rfl⟩
        exact tr_vret hZ dX12_readSlice_74 rfl (by decide) (by decide) ⟨rfl, rfl, rfl, rfl, rfl, hS211, (fun b hb => (Option.some.inj (d2.symm.trans hb)) ▸ (((((FrM.rf (R := R0) (b := a1) (T := T)).st g75 (by decide +kernel)).fro rp149 g144 (by decide) (by decide) d69 (by decide +kernel)).pu f195 (by decide) (by decide) d67).put f213 ta1 (by decide))), (fun dr hd => (Option.some.inj (d2.symm.trans hd)) ▸ hO220), (Or.inl ⟨(by (try rw [w125]); first | done | with_reducible assumption | omega), (fun q0 z0 => by obtain rfl := Option.some.inj ((d2).symm.trans z0); (try rw [w125]); (try rw [((hS211.cell ta1 (by decide +kernel)).trans c30)]); first | done | with_reducible assumption | omega), (fun q0 z0 => by obtain rfl := Option.some.inj ((d2).symm.trans z0); (try rw [w125]); (try rw [((hS211.cell ta1 (by decide +kernel)).trans c34)]); first | done | with_reducible assumption | omega), (fun q0 z0 => by obtain rfl := Option.some.inj ((d2).symm.trans z0); (try rw [w125]); (try rw [((hS211.cell ta1 (by decide +kernel)).trans c38)]); first | done | with_reducible assumption | omega), (fun q0 z0 => by obtain rfl := Option.some.inj ((d2).symm.trans z0); (try rw [w125]); (try rw [((hS211.cell ta1 (by decide +kernel)).trans c42)]); first | done | with_reducible assumption | omega), (fun q0 z0 => by obtain rfl := Option.some.inj ((d2).symm.trans z0); (try rw [w125]); (try rw [((hS211.cell ta1 (by decide +kernel)).trans c46)]); first | done | with_reducible assumption | omega), (fun q0 z0 => by obtain rfl := Option.some.inj ((d2).symm.trans z0); (try rw [w125]); (try rw [((hS211.cell ta1 (by decide +kernel)).trans c50)]); first | done | with_reducible assumption | omega), (fun q0 z0 => by obtain rfl := Option.some.inj ((d2).symm.trans z0); (try rw [w125]); (try rw [e212]); first | done | with_reducible assumption | omega), (fun q0 z0 => by obtain rfl := Option.some.inj ((d2).symm.trans z0); (try rw [w125]); (try rw [((hS211.cell ta1 (by decide +kernel)).trans c58)]); first | done | with_reducible assumption | omega), (by (try rw [w125]); (try rw [c214]); (try rw [c65]); first | done | with_reducible assumption | omega), (by (try rw [w125]); (try rw [c215]); first | done | with_reducible assumption | omega), (by (try rw [w125]); (try rw [c215]); first | done | with_reducible assumption | omega), (by (try rw [w125]); (try rw [c216]); first | done | with_reducible assumption | omega), (by (try rw [w125]); (try rw [c217]); first | done | with_reducible assumption | omega), (by (try rw [w125]); (try rw [c184]); first | done | assumption), (by (try rw [w125]); (try rw [c218]); first | done | assumption), (by (try rw [w125]); (try rw [c219]); first | done | assumption), hL171, (fun b hb => (Option.some.inj (d2.symm.trans hb)) ▸ NmM.ln (NmM.bd (k := srt gB gs) hM221 (by omega) (by omega)) rfl), (fun E b hb hE => by obtain rfl := Option.some.inj (d2.symm.trans hb); exact AlM.sl hE hW0 ta1 (by omega) (by omega) (by omega) (hS211.cell ta1 (by decide +kernel)) (RoF.st (ex := xr 60 61) hS211 (by decide +kernel)) (fun a ha => by obtain rfl := Option.some.inj (d67.symm.trans ha); have zi : v53.toNatClampNeg = (gQ 6).toNat := congrArg Int.toNat (by omega); have ze := (Eq.trans (f213 _ _ (fun q => by have z := ta66; rw [q.1, ta1] at z; exact absurd z (by decide))) e196); rw [zi] at ze; exact ⟨by rw [ze]; omega, fun j hj => ((f213 _ _ (fun q => by have z := ta66; rw [q.1, ta1] at z; exact absurd z (by decide))).trans ((f195 _ _ (fun q => hj (q.2.trans zi))).trans ((g144.cell ta66 (wm_no (by decide +kernel))).trans (g75.cell ta66 (wm_no (by decide +kernel))))))⟩) (fun a ha => by obtain rfl := Option.some.inj (d69.symm.trans ha); exact ⟨fun k hk => by have z := rp166 k hk; rw [show v137.toInt.toNat + k = 8 * (gQ 6).toNat + k by omega] at z; exact (congrArg Int32.toInt ((f213 _ _ (fun q => by have z := ta68; rw [q.1, ta1] at z; exact absurd z (by decide))).trans (f195 _ _ (fun q => by have z := ta68; rw [q.1, ta66] at z; exact absurd z (by decide))))).trans z, fun j hj => (Eq.trans ((f213 _ _ (fun q => by have z := ta68; rw [q.1, ta1] at z; exact absurd z (by decide))).trans (f195 _ _ (fun q => by have z := ta68; rw [q.1, ta66] at z; exact absurd z (by decide)))) (Eq.trans (rp148 j (Or.inl (by omega))) (g75.cell ta68 (wm_no (by decide +kernel)))))⟩)), trivial⟩), trivial⟩
      · skip
        exfalso; omega
    · skip
      obtain ⟨v224, c225⟩ : ∃ v, I141 a0 9 = v := ⟨_, rfl⟩
      have b226 := iv15_9 hS152.1 ta0 c225
      rw [c225] at p168
      obtain ⟨v227, c228⟩ : ∃ v, I141 a0 13 = v := ⟨_, rfl⟩
      rw [c228] at p169
      obtain ⟨v229, c230⟩ : ∃ v, I141 a0 14 = v := ⟨_, rfl⟩
      rw [c230] at p170
      refine tr_istore_n dX12_readSlice_35 (by decide) (by decide) ?_
      refine tr_aload_n dX12_readSlice_36 rfl ?_
      refine q_getI dX12_readSlice_37 fl12_99 (kR15 hS152.1 ta0) c225 ?_
      refine q_iconst dX12_readSlice_40 (by decide) ?_
      intro v231 h232
      refine q_icmp_ne 45 dX12_readSlice_41 (by decide) (fun h233 => ?_) (fun h233 => ?_)
      · skip
        exfalso; omega
      · skip
        have eF := hF.eq
        have eP := hP.eq
        obtain ⟨v234, c235⟩ : ∃ v, I141 a0 10 = v := ⟨_, rfl⟩
        have b236 := iv15_10 hS152.1 ta0 c235
        obtain ⟨v237, c238⟩ : ∃ v, I141 a0 11 = v := ⟨_, rfl⟩
        obtain ⟨y239, c240⟩ : ∃ v, L143 a0 15 = v := ⟨_, rfl⟩
        obtain ⟨v241, c242⟩ : ∃ v, I141 a0 12 = v := ⟨_, rfl⟩
        obtain ⟨v243, c244⟩ : ∃ v, I141 a0 8 = v := ⟨_, rfl⟩
        have b245 := iv15_8 hS152.1 ta0 c244
        exact tr_vret hZ dX12_readSlice_44 rfl (by decide) (by decide) ⟨rfl, rfl, rfl, rfl, rfl, hS152, (fun b hb => (Option.some.inj (d2.symm.trans hb)) ▸ (((FrM.rf (R := R0) (b := a1) (T := T)).st g75 (by decide +kernel)).fro rp149 g144 (by decide) (by decide) d69 (by decide +kernel))), (fun dr hd => (Option.some.inj (d2.symm.trans hd)) ▸ hO154), (Or.inr (⟨(by (try rw [w125]); first | done | with_reducible assumption | omega), (by (try rw [w125]); (try rw [c225]); first | done | with_reducible assumption | omega), (by (try rw [w125]); (try rw [c228]); first | done | with_reducible assumption | omega), (by (try rw [w125]); (try rw [c230]); first | done | with_reducible assumption | omega), trivial⟩)), trivial⟩
  · skip
    obtain ⟨v246, c247⟩ : ∃ v, I72 a0 9 = v := ⟨_, rfl⟩
    have b248 := iv15_9 hS80.1 ta0 c247
    rw [c247] at p95
    obtain ⟨v249, c250⟩ : ∃ v, I72 a0 13 = v := ⟨_, rfl⟩
    rw [c250] at p96
    obtain ⟨v251, c252⟩ : ∃ v, I72 a0 14 = v := ⟨_, rfl⟩
    rw [c252] at p97
    have p253 := p61
    unfold Q7M at p253
    replace hF := hF.pos (by omega)
    replace hP := hP.pos (by omega)
    clear p253
    refine tr_aload_n dX12_readSlice_12 rfl ?_
    refine tr_aload_n dX12_readSlice_13 rfl ?_
    refine tr_getR dX12_readSlice_14 fl12_188 (kR15 hS80.1 ta0) d2 ?_
    refine tr_getR dX12_readSlice_17 fl12_373 (kR14 hS80.1 ta1) d69 ?_
    refine q_bipush dX12_readSlice_20 (by decide +kernel) ?_
    intro v254 h255
    refine tr_aload_n dX12_readSlice_22 rfl ?_
    refine tr_getR dX12_readSlice_23 fl12_188 (kR15 hS80.1 ta0) d2 ?_
    refine q_getI dX12_readSlice_26 fl12_370 (kR14 hS80.1 ta1) c81 ?_
    refine q_imulE (c := 8) dX12_readSlice_29 (by omega) (by omega) ?_
    intro v256 h257
    refine q_bipush dX12_readSlice_30 (by decide +kernel) ?_
    intro v258 h259
    refine q_callVi hE (M' := mX12_readRising) (as := [_, _, _]) dX12_readSlice_32 lk12_308 inX12_readRising seX12_readRising myX12_readRising (by decide) ⟨by decide, by decide⟩ rfl (kR15 hS80.1 ta0) (Nat.le_of_ble_eq_true rfl) rfl rfl (by decide) (by decide) (fo_X12_readRising_1 hS80.1  ta0 ta68 (by omega) (by omega) (by (try rw [c247]); first | done | with_reducible assumption | omega)) ?_
    rintro v265 cn' K' N' I260 R261 L262 ⟨rfl, rfl, rfl, rfl, rfl, rfl, p266, -⟩
    refine tr_istore_n dX12_readSlice_35 (by decide) (by decide) ?_
    refine tr_aload_n dX12_readSlice_36 rfl ?_
    refine q_getI dX12_readSlice_37 fl12_99 (kR15 hS80.1 ta0) c247 ?_
    refine q_iconst dX12_readSlice_40 (by decide) ?_
    intro v267 h268
    refine q_icmp_ne 45 dX12_readSlice_41 (by decide) (fun h269 => ?_) (fun h269 => ?_)
    · skip
      exfalso; omega
    · skip
      have eF := hF.eq
      have eP := hP.eq
      obtain ⟨v270, c271⟩ : ∃ v, I72 a0 10 = v := ⟨_, rfl⟩
      have b272 := iv15_10 hS80.1 ta0 c271
      obtain ⟨v273, c274⟩ : ∃ v, I72 a0 11 = v := ⟨_, rfl⟩
      obtain ⟨y275, c276⟩ : ∃ v, L74 a0 15 = v := ⟨_, rfl⟩
      obtain ⟨v277, c278⟩ : ∃ v, I72 a0 12 = v := ⟨_, rfl⟩
      obtain ⟨v279, c280⟩ : ∃ v, I72 a0 8 = v := ⟨_, rfl⟩
      have b281 := iv15_8 hS80.1 ta0 c280
      exact tr_vret hZ dX12_readSlice_44 rfl (by decide) (by decide) ⟨rfl, rfl, rfl, rfl, rfl, hS80, (fun b hb => (Option.some.inj (d2.symm.trans hb)) ▸ ((FrM.rf (R := R0) (b := a1) (T := T)).st g75 (by decide +kernel))), (fun dr hd => (Option.some.inj (d2.symm.trans hd)) ▸ hO82), (Or.inr (⟨(by first | done | with_reducible assumption | omega), (by (try rw [c247]); first | done | with_reducible assumption | omega), (by (try rw [c250]); first | done | with_reducible assumption | omega), (by (try rw [c252]); first | done | with_reducible assumption | omega), trivial⟩)), trivial⟩
  · skip
    obtain ⟨v282, c283⟩ : ∃ v, I72 a0 9 = v := ⟨_, rfl⟩
    have b284 := iv15_9 hS80.1 ta0 c283
    rw [c283] at p100
    obtain ⟨v285, c286⟩ : ∃ v, I72 a0 13 = v := ⟨_, rfl⟩
    rw [c286] at p101
    obtain ⟨v287, c288⟩ : ∃ v, I72 a0 14 = v := ⟨_, rfl⟩
    rw [c288] at p102
    have p289 := p61
    unfold Q7M at p289
    replace hF := hF.neg (by omega)
    replace hP := hP.neg (by omega)
    replace hF := hF.pos (by omega)
    replace hP := hP.pos (by omega)
    clear p289
    refine tr_aload_n dX12_readSlice_12 rfl ?_
    refine tr_aload_n dX12_readSlice_13 rfl ?_
    refine tr_getR dX12_readSlice_14 fl12_188 (kR15 hS80.1 ta0) d2 ?_
    refine tr_getR dX12_readSlice_17 fl12_373 (kR14 hS80.1 ta1) d69 ?_
    refine q_bipush dX12_readSlice_20 (by decide +kernel) ?_
    intro v290 h291
    refine tr_aload_n dX12_readSlice_22 rfl ?_
    refine tr_getR dX12_readSlice_23 fl12_188 (kR15 hS80.1 ta0) d2 ?_
    refine q_getI dX12_readSlice_26 fl12_370 (kR14 hS80.1 ta1) c81 ?_
    refine q_imulE (c := 8) dX12_readSlice_29 (by omega) (by omega) ?_
    intro v292 h293
    refine q_bipush dX12_readSlice_30 (by decide +kernel) ?_
    intro v294 h295
    refine q_callVi hE (M' := mX12_readRising) (as := [_, _, _]) dX12_readSlice_32 lk12_308 inX12_readRising seX12_readRising myX12_readRising (by decide) ⟨by decide, by decide⟩ rfl (kR15 hS80.1 ta0) (Nat.le_of_ble_eq_true rfl) rfl rfl (by decide) (by decide) (fo_X12_readRising_1 hS80.1  ta0 ta68 (by omega) (by omega) (by (try rw [c283]); first | done | with_reducible assumption | omega)) ?_
    rintro v301 cn' K' N' I296 R297 L298 ⟨rfl, rfl, rfl, rfl, rfl, rfl, p302, -⟩
    refine tr_istore_n dX12_readSlice_35 (by decide) (by decide) ?_
    refine tr_aload_n dX12_readSlice_36 rfl ?_
    refine q_getI dX12_readSlice_37 fl12_99 (kR15 hS80.1 ta0) c283 ?_
    refine q_iconst dX12_readSlice_40 (by decide) ?_
    intro v303 h304
    refine q_icmp_ne 45 dX12_readSlice_41 (by decide) (fun h305 => ?_) (fun h305 => ?_)
    · skip
      exfalso; omega
    · skip
      have eF := hF.eq
      have eP := hP.eq
      obtain ⟨v306, c307⟩ : ∃ v, I72 a0 10 = v := ⟨_, rfl⟩
      have b308 := iv15_10 hS80.1 ta0 c307
      obtain ⟨v309, c310⟩ : ∃ v, I72 a0 11 = v := ⟨_, rfl⟩
      obtain ⟨y311, c312⟩ : ∃ v, L74 a0 15 = v := ⟨_, rfl⟩
      obtain ⟨v313, c314⟩ : ∃ v, I72 a0 12 = v := ⟨_, rfl⟩
      obtain ⟨v315, c316⟩ : ∃ v, I72 a0 8 = v := ⟨_, rfl⟩
      have b317 := iv15_8 hS80.1 ta0 c316
      exact tr_vret hZ dX12_readSlice_44 rfl (by decide) (by decide) ⟨rfl, rfl, rfl, rfl, rfl, hS80, (fun b hb => (Option.some.inj (d2.symm.trans hb)) ▸ ((FrM.rf (R := R0) (b := a1) (T := T)).st g75 (by decide +kernel))), (fun dr hd => (Option.some.inj (d2.symm.trans hd)) ▸ hO82), (Or.inr (⟨(by first | done | with_reducible assumption | omega), (by (try rw [c283]); first | done | with_reducible assumption | omega), (by (try rw [c286]); first | done | with_reducible assumption | omega), (by (try rw [c288]); first | done | with_reducible assumption | omega), trivial⟩)), trivial⟩
def wik_X12_readCall : List Nat := [901, 968, 969, 970, 971, 972, 973, 974, 4479, 4543, 4607, 4671]
def wrk_X12_readCall : List Nat := []
def wlk_X12_readCall : List Nat := [975]
set_option maxHeartbeats 4000000 in
theorem fk_X12_readCall {l : Launch} {T : Nat → Nat} {cn : Nat} {K N : Nat → Nat} {I0 : cz_I} {R0 : cz_R} {L0 : cz_L} (hW0 : Wf T cn K N I0 R0 0) (gB : cz_B) (gs : Int) (gQ : Nat → Int) {a0 : Nat} (ta0 : T a0 = 15) (hT : ∀ t, R0 a0 5 = some t → Tx I0 t gB) (hN : ∀ b, R0 a0 4 = some b → NmM I0 R0 L0 b gQ) (pre0 : (I0 a0 9).toInt = (tkM gB gs)) (pre1 : (I0 a0 9).toInt ≤ 4) (pre2 : (I0 a0 10).toInt = (tkS gB gs)) (pre3 : (I0 a0 11).toInt = (tkG gB gs)) (pre4 : (AtW ((tkK gB gs)) ((L0 a0 15).toInt) ((tkW gB gs)))) (pre5 : (AtV ((tkK gB gs)) ((I0 a0 12).toInt) ((tkV gB gs)))) (pre6 : (AtN ((tkK gB gs)) ((I0 a0 8).toInt) ((tkN gB gs)))) (pre7 : (I0 a0 7).toInt = (gB.2)) (pre8 : ∀ b1, R0 a0 4 = some b1 → (I0 b1 0).toInt = (gQ 0)) (pre9 : ∀ b1, R0 a0 4 = some b1 → (I0 b1 1).toInt = (gQ 1)) (pre10 : ∀ b1, R0 a0 4 = some b1 → (I0 b1 2).toInt = (gQ 2)) (pre11 : ∀ b1, R0 a0 4 = some b1 → (I0 b1 3).toInt = (gQ 3)) (pre12 : ∀ b1, R0 a0 4 = some b1 → (I0 b1 4).toInt = (gQ 4)) (pre13 : ∀ b1, R0 a0 4 = some b1 → (I0 b1 5).toInt = (gQ 5)) (pre14 : ∀ b1, R0 a0 4 = some b1 → (I0 b1 6).toInt = (gQ 6)) (pre15 : ∀ b1, R0 a0 4 = some b1 → (I0 b1 9).toInt = (gQ 8)) (pre16 : (Q7M ((gQ 0)) ((gQ 7)))) (pre17 : (tkK gB gs) = 1) (pre18 : (srt gB gs) = 8) (nn4 : ∃ b, R0 a0 4 = some b) : ConE l mX12_readCall [.ref a0] cn K N I0 R0 L0 (ca_v (fun cn' K' N' I' R' L' => cn = cn' ∧ K = K' ∧ N = N' ∧ R0 = R' ∧ St T cn K N 0 wik_X12_readCall wrk_X12_readCall I0 R0 I' R0 ∧ (∀ b, R0 a0 4 = some b → FrM R0 b T I0 I') ∧ (∀ dr, R0 a0 4 = some dr → FrO 14 dr T I0 I') ∧ ((((lnF gB gQ gs) = 0) ∧ (∀ b1, R0 a0 4 = some b1 → (I' b1 0).toInt = (lnQ gB gQ gs 0)) ∧ (∀ b1, R0 a0 4 = some b1 → (I' b1 1).toInt = (lnQ gB gQ gs 1)) ∧ (∀ b1, R0 a0 4 = some b1 → (I' b1 2).toInt = (lnQ gB gQ gs 2)) ∧ (∀ b1, R0 a0 4 = some b1 → (I' b1 3).toInt = (lnQ gB gQ gs 3)) ∧ (∀ b1, R0 a0 4 = some b1 → (I' b1 4).toInt = (lnQ gB gQ gs 4)) ∧ (∀ b1, R0 a0 4 = some b1 → (I' b1 5).toInt = (lnQ gB gQ gs 5)) ∧ (∀ b1, R0 a0 4 = some b1 → (I' b1 6).toInt = (lnQ gB gQ gs 6)) ∧ (∀ b1, R0 a0 4 = some b1 → (I' b1 9).toInt = (lnQ gB gQ gs 8)) ∧ ((I' a0 13).toInt = (I0 a0 13).toInt) ∧ ((I' a0 9).toInt = (tkM gB (lnS gB gQ gs))) ∧ ((I' a0 9).toInt ≤ 4) ∧ ((I' a0 10).toInt = (tkS gB (lnS gB gQ gs))) ∧ ((I' a0 11).toInt = (tkG gB (lnS gB gQ gs))) ∧ ((AtW ((tkK gB (lnS gB gQ gs))) ((L' a0 15).toInt) ((tkW gB (lnS gB gQ gs))))) ∧ ((AtV ((tkK gB (lnS gB gQ gs))) ((I' a0 12).toInt) ((tkV gB (lnS gB gQ gs))))) ∧ ((AtN ((tkK gB (lnS gB gQ gs))) ((I' a0 8).toInt) ((tkN gB (lnS gB gQ gs))))) ∧ LgS T wlk_X12_readCall L0 L' ∧ (∀ b, R0 a0 4 = some b → NmM I' R0 L' b (lnQ gB gQ gs)) ∧ (∀ E b, R0 a0 4 = some b → AlM I0 R0 b gQ E → AlM I' R0 b (lnQ gB gQ gs) (lnE gB gQ gs E)) ∧ True) ∨ (((lnF gB gQ gs) ≠ 0) ∧ ((I' a0 9).toInt = 5) ∧ ((I' a0 13).toInt = (lnF gB gQ gs)) ∧ ((I' a0 14).toInt = (lnP gB gQ gs)) ∧ True)) ∧ True)) := by
  refine ConE.of (by decide +kernel) rfl (Nat.le_of_ble_eq_true rfl) rfl (fun X hX hZ hE => ?_)
  subst hX
  have hS0 : St T cn K N 0 wik_X12_readCall wrk_X12_readCall I0 R0 I0 R0 := St.rf0 hW0
  have hL0 : LgS T wlk_X12_readCall L0 L0 := LgS.rf0
  obtain ⟨a1, d2⟩ := nn4
  have ta1 : T a1 = 14 := hW0.rsN ta0 rfl d2
  obtain ⟨v3, c4⟩ : ∃ v, I0 a0 9 = v := ⟨_, rfl⟩
  have b5 := iv15_9 hS0.1 ta0 c4
  have p6 := pre0
  rw [c4] at p6
  have p7 := pre1
  rw [c4] at p7
  obtain ⟨v8, c9⟩ : ∃ v, I0 a0 10 = v := ⟨_, rfl⟩
  have b10 := iv15_10 hS0.1 ta0 c9
  have p11 := pre2
  rw [c9] at p11
  obtain ⟨v12, c13⟩ : ∃ v, I0 a0 11 = v := ⟨_, rfl⟩
  have p14 := pre3
  rw [c13] at p14
  obtain ⟨y15, c16⟩ : ∃ v, L0 a0 15 = v := ⟨_, rfl⟩
  have p17 := pre4
  rw [c16] at p17
  obtain ⟨v18, c19⟩ : ∃ v, I0 a0 12 = v := ⟨_, rfl⟩
  have p20 := pre5
  rw [c19] at p20
  obtain ⟨v21, c22⟩ : ∃ v, I0 a0 8 = v := ⟨_, rfl⟩
  have b23 := iv15_8 hS0.1 ta0 c22
  have p24 := pre6
  rw [c22] at p24
  obtain ⟨v25, c26⟩ : ∃ v, I0 a0 7 = v := ⟨_, rfl⟩
  have b27 := iv15_7 hW0 ta0 c26
  have p28 := pre7
  rw [c26] at p28
  obtain ⟨v29, c30⟩ : ∃ v, I0 a1 0 = v := ⟨_, rfl⟩
  have b31 := iv14_0 hW0 ta1 c30
  have p32 := pre8 _ d2
  rw [c30] at p32
  obtain ⟨v33, c34⟩ : ∃ v, I0 a1 1 = v := ⟨_, rfl⟩
  have b35 := iv14_1 hW0 ta1 c34
  have p36 := pre9 _ d2
  rw [c34] at p36
  obtain ⟨v37, c38⟩ : ∃ v, I0 a1 2 = v := ⟨_, rfl⟩
  have b39 := iv14_2 hW0 ta1 c38
  have p40 := pre10 _ d2
  rw [c38] at p40
  obtain ⟨v41, c42⟩ : ∃ v, I0 a1 3 = v := ⟨_, rfl⟩
  have b43 := iv14_3 hW0 ta1 c42
  have p44 := pre11 _ d2
  rw [c42] at p44
  obtain ⟨v45, c46⟩ : ∃ v, I0 a1 4 = v := ⟨_, rfl⟩
  have b47 := iv14_4 hW0 ta1 c46
  have p48 := pre12 _ d2
  rw [c46] at p48
  obtain ⟨v49, c50⟩ : ∃ v, I0 a1 5 = v := ⟨_, rfl⟩
  have b51 := iv14_5 hS0.1 ta1 c50
  have p52 := pre13 _ d2
  rw [c50] at p52
  obtain ⟨v53, c54⟩ : ∃ v, I0 a1 6 = v := ⟨_, rfl⟩
  have b55 := iv14_6 hW0 ta1 c54
  have p56 := pre14 _ d2
  rw [c54] at p56
  obtain ⟨v57, c58⟩ : ∃ v, I0 a1 9 = v := ⟨_, rfl⟩
  have b59 := iv14_9 hW0 ta1 c58
  have p60 := pre15 _ d2
  rw [c58] at p60
  have p61 := pre16
  have p62 := pre17
  have p63 := pre18
  obtain ⟨v64, c65⟩ : ∃ v, I0 a0 13 = v := ⟨_, rfl⟩
  have hM0 := hN _ d2
  have hO0 : FrO 14 a1 T I0 I0 := FrO.rf
  obtain ⟨a66, d67, ta66⟩ := rf14_26 hW0 ta1
  obtain ⟨a68, d69, ta68⟩ := rf14_27 hW0 ta1
  obtain ⟨a70, d71, ta70⟩ := rf14_28 hW0 ta1
  obtain ⟨a72, d73, ta72⟩ := rf14_29 hW0 ta1
  have hF := lnF_ch gB gQ gs
  have hP := lnP_ch gB gQ gs
  replace hF := hF.neg (by omega)
  replace hP := hP.neg (by omega)
  replace hF := hF.neg (by omega)
  replace hP := hP.neg (by omega)
  refine tr_aload_n dX12_readCall_0 rfl ?_
  refine tr_aload_n dX12_readCall_1 rfl ?_
  refine tr_getR dX12_readCall_2 fl12_188 (kR15 hS0.1 ta0) d2 ?_
  refine q_getI dX12_readCall_5 fl12_349 (kR14 hS0.1 ta1) c50 ?_
  refine q_bipush dX12_readCall_8 (by decide +kernel) ?_
  intro v74 h75
  refine q_callVv hE (M' := mX12_begins) (as := [_, _]) dX12_readCall_10 lk12_268 inX12_begins seX12_begins myX12_begins (by decide) ⟨by decide, by decide⟩ rfl (kR15 hS0.1 ta0) (Nat.le_of_ble_eq_true rfl) rfl rfl (by decide) (by decide) (fk_X12_begins hS0.1 (gB) (gs) (gQ) ta0 (TxA.kp hT hS0 ta0 rfl rfl rfl (by decide +kernel) (by decide +kernel)) (by (try rw [c4]); first | done | with_reducible assumption | omega) (by (try rw [c4]); first | done | with_reducible assumption | omega) (by (try rw [c9]); first | done | with_reducible assumption | omega) (by (try rw [c13]); first | done | with_reducible assumption | omega) (by (try rw [c16]); first | done | assumption) (by (try rw [c19]); first | done | assumption) (by (try rw [c22]); first | done | assumption) (by (try rw [c26]); first | done | with_reducible assumption | omega) (fun q0 z0 => by obtain rfl := Option.some.inj ((d2).symm.trans z0); (try rw [c30]); first | done | with_reducible assumption | omega) (by first | done | with_reducible assumption | omega) ⟨_, d2⟩) ?_
  rintro cn' K' N' I76 R77 L78 ⟨rfl, rfl, rfl, rfl, g79, dj82, -⟩
  have hM83 : NmM I76 R0 L0 a1 gQ := NmM.kpS hM0 g79 hS0.1 ta1 (by decide +kernel) (by decide +kernel)
  have hS84 := hS0.tr g79 (by decide +kernel) (by decide +kernel)
  have c85 : I76 a1 5 = v49 := (g79.cell ta1 (by decide +kernel)).trans c50
  have hO86 : FrO 14 a1 T I0 I76 := hO0.st g79 (by decide +kernel)
  rcases dj82 with ⟨p87, p88, p89, p90, p91, p92, p93, p94, p95, p96, gl97, -⟩ | ⟨p98, p99, p100, p101, -⟩ | ⟨p102, p103, p104, p105, p106, -⟩
  · skip
    have hL107 := hL0.tr gl97 (by decide +kernel)
    have hM108 : NmM I76 R0 L78 a1 gQ := NmM.kpL hM83 gl97 hS84.1 ta1 (by decide +kernel)
    obtain ⟨v109, c110⟩ : ∃ v, I76 a0 13 = v := ⟨_, rfl⟩
    rw [c110] at p89
    rw [c65] at p89
    obtain ⟨v111, c112⟩ : ∃ v, I76 a0 9 = v := ⟨_, rfl⟩
    have b113 := iv15_9 hS84.1 ta0 c112
    rw [c112] at p90
    rw [c112] at p91
    obtain ⟨v114, c115⟩ : ∃ v, I76 a0 10 = v := ⟨_, rfl⟩
    have b116 := iv15_10 hS84.1 ta0 c115
    rw [c115] at p92
    obtain ⟨v117, c118⟩ : ∃ v, I76 a0 11 = v := ⟨_, rfl⟩
    rw [c118] at p93
    obtain ⟨y119, c120⟩ : ∃ v, L78 a0 15 = v := ⟨_, rfl⟩
    rw [c120] at p94
    obtain ⟨v121, c122⟩ : ∃ v, I76 a0 12 = v := ⟨_, rfl⟩
    rw [c122] at p95
    obtain ⟨v123, c124⟩ : ∃ v, I76 a0 8 = v := ⟨_, rfl⟩
    have b125 := iv15_8 hS84.1 ta0 c124
    rw [c124] at p96
    have p126 := p61
    unfold Q7M at p126
    replace hF := hF.neg (by omega)
    replace hP := hP.neg (by omega)
    replace hF := hF.neg (by omega)
    replace hP := hP.neg (by omega)
    clear p126
    obtain ⟨w127, w128, w129, w130, w131, w132, w133, w134, w135, w136, w137, w138⟩ := lnl_8 (B := gB) (Q := gQ) (s := gs) (by omega)
    replace hF := hF.to w127 (caF_ch gB gQ (tkN gB gs))
    replace hP := hP.to w128 (caP_ch gB gQ (tkN gB gs))
    refine tr_aload_n dX12_readCall_13 rfl ?_
    refine q_callVi hE (M' := mX12_isName) (as := []) dX12_readCall_14 lk12_197 inX12_isName seX12_isName myX12_isName (by decide) ⟨by decide, by decide⟩ rfl (kR15 hS84.1 ta0) (Nat.le_of_ble_eq_true rfl) rfl rfl (by decide) (by decide) (fk_X12_isName hS84.1 (gB) ((tkN gB gs)) ta0 (by (try rw [c112]); first | done | with_reducible assumption | omega) (by (try rw [c120]); first | done | assumption)) ?_
    rintro v144 cn' K' N' I139 R140 L141 ⟨rfl, rfl, rfl, rfl, rfl, rfl, h145, dj146, -⟩
    rcases dj146 with ⟨p147, p148, p149, -⟩ | ⟨p150, p151, -⟩
    · skip
      replace hF := hF.neg (by omega)
      replace hP := hP.neg (by omega)
      refine q_if_ne 25 dX12_readCall_17 (by decide) (fun h152 => ?_) (fun h152 => ?_)
      · skip
        refine tr_aload_n dX12_readCall_25 rfl ?_
        refine tr_getR dX12_readCall_26 fl12_188 (kR15 hS84.1 ta0) d2 ?_
        refine tr_aload_n dX12_readCall_29 rfl ?_
        have p153 := p94 (by omega)
        refine q_getLE dX12_readCall_30 fl12_118 (kR15 hS84.1 ta0) c120 ?_
        refine q_callVi hE (M' := mX11_find) (as := [_]) dX12_readCall_33 lk12_201 inX11_find seX11_find myX11_find (by decide) ⟨by decide, by decide⟩ rfl (kR14 hS84.1 ta1) (Nat.le_of_ble_eq_true rfl) rfl rfl (by decide) (by decide) (fk_X11_find hS84.1 ((tkW gB (tkN gB gs))) ta1 (by first | done | with_reducible assumption | omega)) ?_
        rintro v159 cn' K' N' I154 R155 L156 ⟨rfl, rfl, rfl, rfl, rfl, rfl, h160, rp161, -⟩
        obtain ⟨v164, c165⟩ : ∃ v, I0 a1 7 = v := ⟨_, rfl⟩
        have b166 := iv14_7 hW0 ta1 c165
        have p163 := hS84.1.2.2.2.2.1 a0 ta0 _ d2
        rw [((hS84.cell ta1 (by decide +kernel)).trans c165), ((hS84.cell ta1 (by decide +kernel)).trans c42), ((hS84.cell ta1 (by decide +kernel)).trans c46)] at p163
        have fd162 := fd_told hM108 hS84.1 ta1 rp161 (by rw [((hS84.cell ta1 (by decide +kernel)).trans c165)]; omega)
        rw [((hS84.cell ta1 (by decide +kernel)).trans c165)] at fd162
        refine tr_istore_n dX12_readCall_36 (by decide) (by decide) ?_
        refine tr_iload_n dX12_readCall_37 rfl ?_
        refine q_iconst dX12_readCall_38 (by decide) ?_
        intro v167 h168
        refine q_icmp_eq 55 dX12_readCall_39 (by decide) (fun h169 => ?_) (fun h169 => ?_)
        · skip
          replace hF := hF.pos (by omega)
          replace hP := hP.pos (by omega)
          refine tr_aload_n dX12_readCall_55 rfl ?_
          refine q_iconst dX12_readCall_56 (by decide) ?_
          intro v170 h171
          refine q_callVv hE (M' := mX12_flaw) (as := [_]) dX12_readCall_57 lk12_145 inX12_flaw seX12_flaw myX12_flaw (by decide) ⟨by decide, by decide⟩ rfl (kR15 hS84.1 ta0) (Nat.le_of_ble_eq_true rfl) rfl rfl (by decide) (by decide) (fk_X12_flaw hS84.1  ta0 (by omega) (by (try rw [c112]); first | done | with_reducible assumption | omega)) ?_
          rintro cn' K' N' I172 R173 L174 ⟨rfl, rfl, rfl, rfl, rfl, g175, p178, p179, p180, -⟩
          have hM181 : NmM I172 R0 L78 a1 gQ := NmM.kpS hM108 g175 hS84.1 ta1 (by decide +kernel) (by decide +kernel)
          have hS182 := hS84.tr g175 (by decide +kernel) (by decide +kernel)
          have c183 : I172 a1 5 = v49 := (g175.cell ta1 (by decide +kernel)).trans c85
          have c184 : I172 a0 10 = v114 := (g175.cell ta0 (by decide +kernel)).trans c115
          have c185 : I172 a0 11 = v117 := (g175.cell ta0 (by decide +kernel)).trans c118
          have c186 : I172 a0 12 = v121 := (g175.cell ta0 (by decide +kernel)).trans c122
          have c187 : I172 a0 8 = v123 := (g175.cell ta0 (by decide +kernel)).trans c124
          have hO188 : FrO 14 a1 T I0 I172 := hO86.st g175 (by decide +kernel)
          obtain ⟨v189, c190⟩ : ∃ v, I172 a0 9 = v := ⟨_, rfl⟩
          have b191 := iv15_9 hS182.1 ta0 c190
          rw [c190] at p178
          obtain ⟨v192, c193⟩ : ∃ v, I172 a0 13 = v := ⟨_, rfl⟩
          rw [c193] at p179
          obtain ⟨v194, c195⟩ : ∃ v, I172 a0 14 = v := ⟨_, rfl⟩
          rw [c195] at p180
          rw [c115] at p180
          refine tr_aload_n dX12_readCall_60 rfl ?_
          refine q_getI dX12_readCall_61 fl12_99 (kR15 hS182.1 ta0) c190 ?_
          refine q_iconst dX12_readCall_64 (by decide) ?_
          intro v196 h197
          refine q_icmp_ne 72 dX12_readCall_65 (by decide) (fun h198 => ?_) (fun h198 => ?_)
          · skip
            exfalso; omega
          · skip
            refine q_iconst dX12_readCall_68 (by decide) ?_
            intro v199 h200
            refine tr_goto 81 dX12_readCall_69 (by decide) ?_
            refine tr_istore_n dX12_readCall_81 (by decide) (by decide) ?_
            refine tr_aload_n dX12_readCall_82 rfl ?_
            refine q_callVv hE (M' := mX12_goesOn) (as := []) dX12_readCall_83 lk12_142 inX12_goesOn seX12_goesOn myX12_goesOn (by decide) ⟨by decide, by decide⟩ rfl (kR15 hS182.1 ta0) (Nat.le_of_ble_eq_true rfl) rfl rfl (by decide) (by decide) (k_X12_goesOn hS182.1 ta0) ?_
            rintro cn' K' N' I201 R202 L203 ⟨rfl, rfl, rfl, rfl, g204, p206, p207, p208, w209, -⟩
            have hS210 := hS182.tr g204 (by decide +kernel) (by decide +kernel)
            have c211 : I201 a1 5 = v49 := (g204.cell ta1 (by decide +kernel)).trans c183
            have c212 : I201 a0 13 = v192 := (g204.cell ta0 (by decide +kernel)).trans c193
            have c213 : I201 a0 14 = v194 := (g204.cell ta0 (by decide +kernel)).trans c195
            obtain ⟨v214, c215⟩ : ∃ v, I201 a0 9 = v := ⟨_, rfl⟩
            have b216 := iv15_9 hS210.1 ta0 c215
            rw [c190] at p206
            rw [c215] at p206
            rw [c190] at p207
            rw [c215] at p207
            obtain ⟨v217, c218⟩ : ∃ v, I201 a0 8 = v := ⟨_, rfl⟩
            have b219 := iv15_8 hS210.1 ta0 c218
            rw [c218] at p208
            rw [c187] at p208
            rw [c212] at p208
            rw [c193] at p208
            have hO220 : FrO 14 a1 T I0 I201 := hO188.st g204 (by decide +kernel)
            have ov221 := w209.over (by rw [c190]; omega)
            obtain ⟨v222, c223⟩ : ∃ v, I201 a0 9 = v := ⟨_, rfl⟩
            have b224 := iv15_9 hS210.1 ta0 c223
            obtain ⟨v225, c226⟩ : ∃ v, I201 a0 13 = v := ⟨_, rfl⟩
            obtain ⟨v227, c228⟩ : ∃ v, I201 a0 14 = v := ⟨_, rfl⟩
            (try rw [c223] at ov221)
            (try rw [c226] at ov221)
            (try rw [c228] at ov221)
            (try rw [c190] at ov221)
            (try rw [c193] at ov221)
            (try rw [c195] at ov221)
            refine tr_aload_n dX12_readCall_86 rfl ?_
            refine tr_ldcwS dX12_readCall_87 ld12_352 ?_
            refine q_iconst dX12_readCall_90 (by decide) ?_
            intro v229 h230
            refine tr_aload_n dX12_readCall_91 rfl ?_
            refine tr_getR dX12_readCall_92 fl12_188 (kR15 hS210.1 ta0) d2 ?_
            refine q_getI dX12_readCall_95 fl12_192 (kR14 hS210.1 ta1) ((hS210.cell ta1 (by decide +kernel)).trans c30) ?_
            refine q_iconst dX12_readCall_98 (by decide) ?_
            intro v231 h232
            refine q_isubE dX12_readCall_99 (by intros; omega) ?_
            intro v233 h234
            refine q_callVi hE (M' := mX12_readPart) (as := [_, _, _]) dX12_readCall_100 lk12_249 inX12_readPart seX12_readPart myX12_readPart (by decide) ⟨by decide, by decide⟩ rfl (kR15 hS210.1 ta0) (Nat.le_of_ble_eq_true rfl) rfl rfl (by decide) (by decide) (k_X12_readPart hS210.1 ta0 (by decide)) ?_
            rintro v239 cn' K' N' I235 R236 L237 ⟨rfl, rfl, rfl, rfl, g238, p240, w241, -⟩
            have hS242 := hS210.tr g238 (by decide +kernel) (by decide +kernel)
            have c243 : I235 a1 5 = v49 := (g238.cell ta1 (by decide +kernel)).trans c211
            have b244 : 0 ≤ v239.toInt ∧ v239.toInt ≤ 239 := by omega
            clear p240
            have hO245 : FrO 14 a1 T I0 I235 := hO220.st g238 (by decide +kernel)
            have ov246 := w241.over (by rw [c223]; omega)
            obtain ⟨v247, c248⟩ : ∃ v, I235 a0 9 = v := ⟨_, rfl⟩
            have b249 := iv15_9 hS242.1 ta0 c248
            obtain ⟨v250, c251⟩ : ∃ v, I235 a0 13 = v := ⟨_, rfl⟩
            obtain ⟨v252, c253⟩ : ∃ v, I235 a0 14 = v := ⟨_, rfl⟩
            (try rw [c248] at ov246)
            (try rw [c251] at ov246)
            (try rw [c253] at ov246)
            (try rw [c223] at ov246)
            (try rw [c226] at ov246)
            (try rw [c228] at ov246)
            refine tr_istore_n dX12_readCall_103 (by decide) (by decide) ?_
            refine tr_aload_n dX12_readCall_104 rfl ?_
            refine tr_ldcwS dX12_readCall_105 ld12_354 ?_
            refine q_iconst dX12_readCall_108 (by decide) ?_
            intro v254 h255
            refine q_bipush dX12_readCall_109 (by decide +kernel) ?_
            intro v256 h257
            refine q_callVi hE (M' := mX12_readPart) (as := [_, _, _]) dX12_readCall_111 lk12_249 inX12_readPart seX12_readPart myX12_readPart (by decide) ⟨by decide, by decide⟩ rfl (kR15 hS242.1 ta0) (Nat.le_of_ble_eq_true rfl) rfl rfl (by decide) (by decide) (k_X12_readPart hS242.1 ta0 (by decide)) ?_
            rintro v262 cn' K' N' I258 R259 L260 ⟨rfl, rfl, rfl, rfl, g261, p263, w264, -⟩
            have hS265 := hS242.tr g261 (by decide +kernel) (by decide +kernel)
            have c266 : I258 a1 5 = v49 := (g261.cell ta1 (by decide +kernel)).trans c243
            have b267 : 1 ≤ v262.toInt ∧ v262.toInt ≤ 60 := by omega
            clear p263
            have hO268 : FrO 14 a1 T I0 I258 := hO245.st g261 (by decide +kernel)
            have ov269 := w264.over (by rw [c248]; omega)
            obtain ⟨v270, c271⟩ : ∃ v, I258 a0 9 = v := ⟨_, rfl⟩
            have b272 := iv15_9 hS265.1 ta0 c271
            obtain ⟨v273, c274⟩ : ∃ v, I258 a0 13 = v := ⟨_, rfl⟩
            obtain ⟨v275, c276⟩ : ∃ v, I258 a0 14 = v := ⟨_, rfl⟩
            (try rw [c271] at ov269)
            (try rw [c274] at ov269)
            (try rw [c276] at ov269)
            (try rw [c248] at ov269)
            (try rw [c251] at ov269)
            (try rw [c253] at ov269)
            refine tr_istore dX12_readCall_114 (by decide) (by decide) ?_
            refine tr_aload_n dX12_readCall_116 rfl ?_
            refine tr_ldcwS dX12_readCall_117 ld12_356 ?_
            refine q_iconst dX12_readCall_120 (by decide) ?_
            intro v277 h278
            refine q_bipush dX12_readCall_121 (by decide +kernel) ?_
            intro v279 h280
            refine q_callVi hE (M' := mX12_readPart) (as := [_, _, _]) dX12_readCall_123 lk12_249 inX12_readPart seX12_readPart myX12_readPart (by decide) ⟨by decide, by decide⟩ rfl (kR15 hS265.1 ta0) (Nat.le_of_ble_eq_true rfl) rfl rfl (by decide) (by decide) (k_X12_readPart hS265.1 ta0 (by decide)) ?_
            rintro v285 cn' K' N' I281 R282 L283 ⟨rfl, rfl, rfl, rfl, g284, p286, w287, -⟩
            have hS288 := hS265.tr g284 (by decide +kernel) (by decide +kernel)
            have c289 : I281 a1 5 = v49 := (g284.cell ta1 (by decide +kernel)).trans c266
            have b290 : 0 ≤ v285.toInt ∧ v285.toInt ≤ 99 := by omega
            clear p286
            have hO291 : FrO 14 a1 T I0 I281 := hO268.st g284 (by decide +kernel)
            have ov292 := w287.over (by rw [c271]; omega)
            obtain ⟨v293, c294⟩ : ∃ v, I281 a0 9 = v := ⟨_, rfl⟩
            have b295 := iv15_9 hS288.1 ta0 c294
            obtain ⟨v296, c297⟩ : ∃ v, I281 a0 13 = v := ⟨_, rfl⟩
            obtain ⟨v298, c299⟩ : ∃ v, I281 a0 14 = v := ⟨_, rfl⟩
            (try rw [c294] at ov292)
            (try rw [c297] at ov292)
            (try rw [c299] at ov292)
            (try rw [c271] at ov292)
            (try rw [c274] at ov292)
            (try rw [c276] at ov292)
            refine tr_istore dX12_readCall_126 (by decide) (by decide) ?_
            refine tr_aload_n dX12_readCall_128 rfl ?_
            refine q_getI dX12_readCall_129 fl12_99 (kR15 hS288.1 ta0) c294 ?_
            refine q_iconst dX12_readCall_132 (by decide) ?_
            intro v300 h301
            refine q_icmp_ne 137 dX12_readCall_133 (by decide) (fun h302 => ?_) (fun h302 => ?_)
            · skip
              exfalso; omega
            · skip
              have eF := hF.eq
              have eP := hP.eq
              obtain ⟨v303, c304⟩ : ∃ v, I281 a0 10 = v := ⟨_, rfl⟩
              have b305 := iv15_10 hS288.1 ta0 c304
              obtain ⟨v306, c307⟩ : ∃ v, I281 a0 11 = v := ⟨_, rfl⟩
              obtain ⟨y308, c309⟩ : ∃ v, L283 a0 15 = v := ⟨_, rfl⟩
              obtain ⟨v310, c311⟩ : ∃ v, I281 a0 12 = v := ⟨_, rfl⟩
              obtain ⟨v312, c313⟩ : ∃ v, I281 a0 8 = v := ⟨_, rfl⟩
              have b314 := iv15_8 hS288.1 ta0 c313
              exact tr_vret hZ dX12_readCall_136 rfl (by decide) (by decide) ⟨rfl, rfl, rfl, rfl, rfl, hS288, (fun b hb => (Option.some.inj (d2.symm.trans hb)) ▸ (((((((FrM.rf (R := R0) (b := a1) (T := T)).st g79 (by decide +kernel)).st g175 (by decide +kernel)).st g204 (by decide +kernel)).st g238 (by decide +kernel)).st g261 (by decide +kernel)).st g284 (by decide +kernel))), (fun dr hd => (Option.some.inj (d2.symm.trans hd)) ▸ hO291), (Or.inr (⟨(by (try rw [w129]); first | done | with_reducible assumption | omega), (by (try rw [w129]); (try rw [c294]); first | done | with_reducible assumption | omega), (by (try rw [w129]); (try rw [c297]); first | done | with_reducible assumption | omega), (by (try rw [w129]); (try rw [c299]); first | done | with_reducible assumption | omega), trivial⟩)), trivial⟩
        · skip
          refine tr_aload_n dX12_readCall_42 rfl ?_
          refine tr_getR dX12_readCall_43 fl12_188 (kR15 hS84.1 ta0) d2 ?_
          obtain ⟨a315, d316, ta315⟩ := rf14_31 hW0 ta1
          refine tr_getR dX12_readCall_46 fl12_212 (kR14 hS84.1 ta1) d316 ?_
          refine tr_iload_n dX12_readCall_49 rfl ?_
          refine q_iald dX12_readCall_50 (kR74 hS84.1 ta315) (ti_in (nR74 hS84.1 ta315) (by omega) (by omega)) ?_
          intro v317 c318
          have fs319 := fd_sort hM108 hS84.1 ta1 rp161 (by rw [((hS84.cell ta1 (by decide +kernel)).trans c165)]; omega) (by omega) d316 c318
          refine q_iconst dX12_readCall_51 (by decide) ?_
          intro v320 h321
          refine q_icmp_eq 60 dX12_readCall_52 (by decide) (fun h322 => ?_) (fun h322 => ?_)
          · skip
            replace hF := hF.neg (by omega)
            replace hP := hP.neg (by omega)
            refine tr_aload_n dX12_readCall_60 rfl ?_
            refine q_getI dX12_readCall_61 fl12_99 (kR15 hS84.1 ta0) c112 ?_
            refine q_iconst dX12_readCall_64 (by decide) ?_
            intro v323 h324
            refine q_icmp_ne 72 dX12_readCall_65 (by decide) (fun h325 => ?_) (fun h325 => ?_)
            · skip
              refine tr_aload_n dX12_readCall_72 rfl ?_
              refine tr_getR dX12_readCall_73 fl12_188 (kR15 hS84.1 ta0) d2 ?_
              obtain ⟨a326, d327, ta326⟩ := rf14_32 hW0 ta1
              refine tr_getR dX12_readCall_76 fl12_215 (kR14 hS84.1 ta1) d327 ?_
              refine tr_iload_n dX12_readCall_79 rfl ?_
              refine q_iald dX12_readCall_80 (kR75 hS84.1 ta326) (ti_in (nR75 hS84.1 ta326) (by omega) (by omega)) ?_
              intro v328 c329
              have fn330 := fd_num hM108 hS84.1 ta1 rp161 (by rw [((hS84.cell ta1 (by decide +kernel)).trans c165)]; omega) (by omega) (by omega) d327 c329
              refine tr_istore_n dX12_readCall_81 (by decide) (by decide) ?_
              refine tr_aload_n dX12_readCall_82 rfl ?_
              have p331 := p96 (by omega)
              refine q_callVv hE (M' := mX12_goesOn) (as := []) dX12_readCall_83 lk12_142 inX12_goesOn seX12_goesOn myX12_goesOn (by decide) ⟨by decide, by decide⟩ rfl (kR15 hS84.1 ta0) (Nat.le_of_ble_eq_true rfl) rfl rfl (by decide) (by decide) (fk_X12_goesOn hS84.1 (gB) ((tkN gB (tkN gB gs))) ta0 (TxA.kp hT hS84 ta0 rfl rfl rfl (by decide +kernel) (by decide +kernel)) (by (try rw [c124]); first | done | with_reducible assumption | omega) (by (try rw [((hS84.cell ta0 (by decide +kernel)).trans c26)]); first | done | with_reducible assumption | omega) (by (try rw [c112]); first | done | with_reducible assumption | omega)) ?_
              rintro cn' K' N' I332 R333 L334 ⟨rfl, rfl, rfl, rfl, g335, gl336, p338, p339, p340, p341, p342, p343, p344, -⟩
              have hM345 : NmM I332 R0 L78 a1 gQ := NmM.kpS hM108 g335 hS84.1 ta1 (by decide +kernel) (by decide +kernel)
              have hS346 := hS84.tr g335 (by decide +kernel) (by decide +kernel)
              have c347 : I332 a1 5 = v49 := (g335.cell ta1 (by decide +kernel)).trans c85
              have c348 : I332 a0 13 = v109 := (g335.cell ta0 (by decide +kernel)).trans c110
              have hO349 : FrO 14 a1 T I0 I332 := hO86.st g335 (by decide +kernel)
              have hL350 := hL107.tr gl336 (by decide +kernel)
              have hM351 : NmM I332 R0 L334 a1 gQ := NmM.kpL hM345 gl336 hS346.1 ta1 (by decide +kernel)
              obtain ⟨v352, c353⟩ : ∃ v, I332 a0 9 = v := ⟨_, rfl⟩
              have b354 := iv15_9 hS346.1 ta0 c353
              rw [c353] at p338
              rw [c353] at p339
              obtain ⟨v355, c356⟩ : ∃ v, I332 a0 10 = v := ⟨_, rfl⟩
              have b357 := iv15_10 hS346.1 ta0 c356
              rw [c356] at p340
              obtain ⟨v358, c359⟩ : ∃ v, I332 a0 11 = v := ⟨_, rfl⟩
              rw [c359] at p341
              obtain ⟨y360, c361⟩ : ∃ v, L334 a0 15 = v := ⟨_, rfl⟩
              rw [c361] at p342
              obtain ⟨v362, c363⟩ : ∃ v, I332 a0 12 = v := ⟨_, rfl⟩
              rw [c363] at p343
              obtain ⟨v364, c365⟩ : ∃ v, I332 a0 8 = v := ⟨_, rfl⟩
              have b366 := iv15_8 hS346.1 ta0 c365
              rw [c365] at p344
              refine tr_aload_n dX12_readCall_86 rfl ?_
              refine tr_ldcwS dX12_readCall_87 ld12_352 ?_
              refine q_iconst dX12_readCall_90 (by decide) ?_
              intro v367 h368
              refine tr_aload_n dX12_readCall_91 rfl ?_
              refine tr_getR dX12_readCall_92 fl12_188 (kR15 hS346.1 ta0) d2 ?_
              refine q_getI dX12_readCall_95 fl12_192 (kR14 hS346.1 ta1) ((hS346.cell ta1 (by decide +kernel)).trans c30) ?_
              refine q_iconst dX12_readCall_98 (by decide) ?_
              intro v369 h370
              refine q_isubE dX12_readCall_99 (by intros; omega) ?_
              intro v371 h372
              refine q_callVi hE (M' := mX12_readPart) (as := [_, _, _]) dX12_readCall_100 lk12_249 inX12_readPart seX12_readPart myX12_readPart (by decide) ⟨by decide, by decide⟩ rfl (kR15 hS346.1 ta0) (Nat.le_of_ble_eq_true rfl) rfl rfl (by decide) (by decide) (fk_X12_readPart hS346.1 (gB) ((tkN gB (tkN gB gs))) ta0 (by decide) (TxA.kp hT hS346 ta0 rfl rfl rfl (by decide +kernel) (by decide +kernel)) (by (try rw [c353]); first | done | with_reducible assumption | omega) (by (try rw [c353]); first | done | with_reducible assumption | omega) (by (try rw [c356]); first | done | with_reducible assumption | omega) (by (try rw [c359]); first | done | with_reducible assumption | omega) (by (try rw [c361]); first | done | assumption) (by (try rw [c363]); first | done | assumption) (by (try rw [c365]); first | done | assumption) (by (try rw [((hS346.cell ta0 (by decide +kernel)).trans c26)]); first | done | with_reducible assumption | omega)) ?_
              rintro v378 cn' K' N' I373 R374 L375 ⟨rfl, rfl, rfl, rfl, g376, dj379, -⟩
              (try rw [pk_2] at dj379)
              have hM380 : NmM I373 R0 L334 a1 gQ := NmM.kpS hM351 g376 hS346.1 ta1 (by decide +kernel) (by decide +kernel)
              have hS381 := hS346.tr g376 (by decide +kernel) (by decide +kernel)
              have c382 : I373 a1 5 = v49 := (g376.cell ta1 (by decide +kernel)).trans c347
              have hO383 : FrO 14 a1 T I0 I373 := hO349.st g376 (by decide +kernel)
              rcases dj379 with ⟨p384, p385, p386, p387, p388, p389, p390, p391, p392, p393, p394, p395, p396, p397, gl398, -⟩ | ⟨p399, p400, p401, p402, p403, -⟩ | ⟨p404, p405, p406, p407, p408, p409, p410, -⟩ | ⟨p411, p412, p413, p414, p415, p416, p417, p418, -⟩
              · skip
                have hL419 := hL350.tr gl398 (by decide +kernel)
                have hM420 : NmM I373 R0 L375 a1 gQ := NmM.kpL hM380 gl398 hS381.1 ta1 (by decide +kernel)
                obtain ⟨v421, c422⟩ : ∃ v, I373 a0 13 = v := ⟨_, rfl⟩
                rw [c422] at p390
                rw [c348] at p390
                obtain ⟨v423, c424⟩ : ∃ v, I373 a0 9 = v := ⟨_, rfl⟩
                have b425 := iv15_9 hS381.1 ta0 c424
                rw [c424] at p391
                rw [c424] at p392
                obtain ⟨v426, c427⟩ : ∃ v, I373 a0 10 = v := ⟨_, rfl⟩
                have b428 := iv15_10 hS381.1 ta0 c427
                rw [c427] at p393
                obtain ⟨v429, c430⟩ : ∃ v, I373 a0 11 = v := ⟨_, rfl⟩
                rw [c430] at p394
                obtain ⟨y431, c432⟩ : ∃ v, L375 a0 15 = v := ⟨_, rfl⟩
                rw [c432] at p395
                obtain ⟨v433, c434⟩ : ∃ v, I373 a0 12 = v := ⟨_, rfl⟩
                rw [c434] at p396
                obtain ⟨v435, c436⟩ : ∃ v, I373 a0 8 = v := ⟨_, rfl⟩
                have b437 := iv15_8 hS381.1 ta0 c436
                rw [c436] at p397
                replace hF := hF.neg (by omega)
                replace hP := hP.neg (by omega)
                replace hF := hF.neg (by omega)
                replace hP := hP.neg (by omega)
                replace hF := hF.neg (by omega)
                replace hP := hP.neg (by omega)
                refine tr_istore_n dX12_readCall_103 (by decide) (by decide) ?_
                refine tr_aload_n dX12_readCall_104 rfl ?_
                refine tr_ldcwS dX12_readCall_105 ld12_354 ?_
                refine q_iconst dX12_readCall_108 (by decide) ?_
                intro v438 h439
                refine q_bipush dX12_readCall_109 (by decide +kernel) ?_
                intro v440 h441
                refine q_callVi hE (M' := mX12_readPart) (as := [_, _, _]) dX12_readCall_111 lk12_249 inX12_readPart seX12_readPart myX12_readPart (by decide) ⟨by decide, by decide⟩ rfl (kR15 hS381.1 ta0) (Nat.le_of_ble_eq_true rfl) rfl rfl (by decide) (by decide) (fk_X12_readPart hS381.1 (gB) ((tkN gB (tkN gB (tkN gB (tkN gB gs))))) ta0 (by decide) (TxA.kp hT hS381 ta0 rfl rfl rfl (by decide +kernel) (by decide +kernel)) (by (try rw [c424]); first | done | with_reducible assumption | omega) (by (try rw [c424]); first | done | with_reducible assumption | omega) (by (try rw [c427]); first | done | with_reducible assumption | omega) (by (try rw [c430]); first | done | with_reducible assumption | omega) (by (try rw [c432]); first | done | assumption) (by (try rw [c434]); first | done | assumption) (by (try rw [c436]); first | done | assumption) (by (try rw [((hS381.cell ta0 (by decide +kernel)).trans c26)]); first | done | with_reducible assumption | omega)) ?_
                rintro v447 cn' K' N' I442 R443 L444 ⟨rfl, rfl, rfl, rfl, g445, dj448, -⟩
                (try rw [pk_12] at dj448)
                have hM449 : NmM I442 R0 L375 a1 gQ := NmM.kpS hM420 g445 hS381.1 ta1 (by decide +kernel) (by decide +kernel)
                have hS450 := hS381.tr g445 (by decide +kernel) (by decide +kernel)
                have c451 : I442 a1 5 = v49 := (g445.cell ta1 (by decide +kernel)).trans c382
                have hO452 : FrO 14 a1 T I0 I442 := hO383.st g445 (by decide +kernel)
                rcases dj448 with ⟨p453, p454, p455, p456, p457, p458, p459, p460, p461, p462, p463, p464, p465, p466, gl467, -⟩ | ⟨p468, p469, p470, p471, p472, -⟩ | ⟨p473, p474, p475, p476, p477, p478, p479, -⟩ | ⟨p480, p481, p482, p483, p484, p485, p486, p487, -⟩
                · skip
                  have hL488 := hL419.tr gl467 (by decide +kernel)
                  have hM489 : NmM I442 R0 L444 a1 gQ := NmM.kpL hM449 gl467 hS450.1 ta1 (by decide +kernel)
                  obtain ⟨v490, c491⟩ : ∃ v, I442 a0 13 = v := ⟨_, rfl⟩
                  rw [c491] at p459
                  rw [c422] at p459
                  obtain ⟨v492, c493⟩ : ∃ v, I442 a0 9 = v := ⟨_, rfl⟩
                  have b494 := iv15_9 hS450.1 ta0 c493
                  rw [c493] at p460
                  rw [c493] at p461
                  obtain ⟨v495, c496⟩ : ∃ v, I442 a0 10 = v := ⟨_, rfl⟩
                  have b497 := iv15_10 hS450.1 ta0 c496
                  rw [c496] at p462
                  obtain ⟨v498, c499⟩ : ∃ v, I442 a0 11 = v := ⟨_, rfl⟩
                  rw [c499] at p463
                  obtain ⟨y500, c501⟩ : ∃ v, L444 a0 15 = v := ⟨_, rfl⟩
                  rw [c501] at p464
                  obtain ⟨v502, c503⟩ : ∃ v, I442 a0 12 = v := ⟨_, rfl⟩
                  rw [c503] at p465
                  obtain ⟨v504, c505⟩ : ∃ v, I442 a0 8 = v := ⟨_, rfl⟩
                  have b506 := iv15_8 hS450.1 ta0 c505
                  rw [c505] at p466
                  replace hF := hF.neg (by omega)
                  replace hP := hP.neg (by omega)
                  replace hF := hF.neg (by omega)
                  replace hP := hP.neg (by omega)
                  replace hF := hF.neg (by omega)
                  replace hP := hP.neg (by omega)
                  refine tr_istore dX12_readCall_114 (by decide) (by decide) ?_
                  refine tr_aload_n dX12_readCall_116 rfl ?_
                  refine tr_ldcwS dX12_readCall_117 ld12_356 ?_
                  refine q_iconst dX12_readCall_120 (by decide) ?_
                  intro v507 h508
                  refine q_bipush dX12_readCall_121 (by decide +kernel) ?_
                  intro v509 h510
                  refine q_callVi hE (M' := mX12_readPart) (as := [_, _, _]) dX12_readCall_123 lk12_249 inX12_readPart seX12_readPart myX12_readPart (by decide) ⟨by decide, by decide⟩ rfl (kR15 hS450.1 ta0) (Nat.le_of_ble_eq_true rfl) rfl rfl (by decide) (by decide) (fk_X12_readPart hS450.1 (gB) ((tkN gB (tkN gB (tkN gB (tkN gB (tkN gB (tkN gB gs))))))) ta0 (by decide) (TxA.kp hT hS450 ta0 rfl rfl rfl (by decide +kernel) (by decide +kernel)) (by (try rw [c493]); first | done | with_reducible assumption | omega) (by (try rw [c493]); first | done | with_reducible assumption | omega) (by (try rw [c496]); first | done | with_reducible assumption | omega) (by (try rw [c499]); first | done | with_reducible assumption | omega) (by (try rw [c501]); first | done | assumption) (by (try rw [c503]); first | done | assumption) (by (try rw [c505]); first | done | assumption) (by (try rw [((hS450.cell ta0 (by decide +kernel)).trans c26)]); first | done | with_reducible assumption | omega)) ?_
                  rintro v516 cn' K' N' I511 R512 L513 ⟨rfl, rfl, rfl, rfl, g514, dj517, -⟩
                  (try rw [pk_8] at dj517)
                  have hM518 : NmM I511 R0 L444 a1 gQ := NmM.kpS hM489 g514 hS450.1 ta1 (by decide +kernel) (by decide +kernel)
                  have hS519 := hS450.tr g514 (by decide +kernel) (by decide +kernel)
                  have c520 : I511 a1 5 = v49 := (g514.cell ta1 (by decide +kernel)).trans c451
                  have hO521 : FrO 14 a1 T I0 I511 := hO452.st g514 (by decide +kernel)
                  rcases dj517 with ⟨p522, p523, p524, p525, p526, p527, p528, p529, p530, p531, p532, p533, p534, p535, gl536, -⟩ | ⟨p537, p538, p539, p540, p541, -⟩ | ⟨p542, p543, p544, p545, p546, p547, p548, -⟩ | ⟨p549, p550, p551, p552, p553, p554, p555, p556, -⟩
                  · skip
                    have hL557 := hL488.tr gl536 (by decide +kernel)
                    have hM558 : NmM I511 R0 L513 a1 gQ := NmM.kpL hM518 gl536 hS519.1 ta1 (by decide +kernel)
                    obtain ⟨v559, c560⟩ : ∃ v, I511 a0 13 = v := ⟨_, rfl⟩
                    rw [c560] at p528
                    rw [c491] at p528
                    obtain ⟨v561, c562⟩ : ∃ v, I511 a0 9 = v := ⟨_, rfl⟩
                    have b563 := iv15_9 hS519.1 ta0 c562
                    rw [c562] at p529
                    rw [c562] at p530
                    obtain ⟨v564, c565⟩ : ∃ v, I511 a0 10 = v := ⟨_, rfl⟩
                    have b566 := iv15_10 hS519.1 ta0 c565
                    rw [c565] at p531
                    obtain ⟨v567, c568⟩ : ∃ v, I511 a0 11 = v := ⟨_, rfl⟩
                    rw [c568] at p532
                    obtain ⟨y569, c570⟩ : ∃ v, L513 a0 15 = v := ⟨_, rfl⟩
                    rw [c570] at p533
                    obtain ⟨v571, c572⟩ : ∃ v, I511 a0 12 = v := ⟨_, rfl⟩
                    rw [c572] at p534
                    obtain ⟨v573, c574⟩ : ∃ v, I511 a0 8 = v := ⟨_, rfl⟩
                    have b575 := iv15_8 hS519.1 ta0 c574
                    rw [c574] at p535
                    replace hF := hF.neg (by omega)
                    replace hP := hP.neg (by omega)
                    replace hF := hF.neg (by omega)
                    replace hP := hP.neg (by omega)
                    replace hF := hF.neg (by omega)
                    replace hP := hP.neg (by omega)
                    refine tr_istore dX12_readCall_126 (by decide) (by decide) ?_
                    refine tr_aload_n dX12_readCall_128 rfl ?_
                    refine q_getI dX12_readCall_129 fl12_99 (kR15 hS519.1 ta0) c562 ?_
                    refine q_iconst dX12_readCall_132 (by decide) ?_
                    intro v576 h577
                    refine q_icmp_ne 137 dX12_readCall_133 (by decide) (fun h578 => ?_) (fun h578 => ?_)
                    · skip
                      refine tr_aload_n dX12_readCall_137 rfl ?_
                      refine tr_getR dX12_readCall_138 fl12_188 (kR15 hS519.1 ta0) d2 ?_
                      refine tr_getR dX12_readCall_141 fl12_358 (kR14 hS519.1 ta1) d67 ?_
                      refine tr_aload_n dX12_readCall_144 rfl ?_
                      refine tr_getR dX12_readCall_145 fl12_188 (kR15 hS519.1 ta0) d2 ?_
                      refine q_getI dX12_readCall_148 fl12_349 (kR14 hS519.1 ta1) c520 ?_
                      refine tr_iload_n dX12_readCall_151 rfl ?_
                      refine q_iast dX12_readCall_152 (kR69 hS519.1 ta66) (ti_in (nR69 hS519.1 ta66) (by omega) (by omega)) hS519 ta66 (iokF rfl) rfl (by rfl) ?_
                      intro I579 hS580 e582 f581
                      have c583 : I579 a1 5 = v49 := (f581 _ _ (fun q => by have z := ta1; rw [q.1, ta66] at z; exact absurd z (by decide))).trans c520
                      have c584 : I579 a0 13 = v559 := (f581 _ _ (fun q => by have z := ta0; rw [q.1, ta66] at z; exact absurd z (by decide))).trans c560
                      have c585 : I579 a0 9 = v561 := (f581 _ _ (fun q => by have z := ta0; rw [q.1, ta66] at z; exact absurd z (by decide))).trans c562
                      have c586 : I579 a0 10 = v564 := (f581 _ _ (fun q => by have z := ta0; rw [q.1, ta66] at z; exact absurd z (by decide))).trans c565
                      have c587 : I579 a0 11 = v567 := (f581 _ _ (fun q => by have z := ta0; rw [q.1, ta66] at z; exact absurd z (by decide))).trans c568
                      have c588 : I579 a0 12 = v571 := (f581 _ _ (fun q => by have z := ta0; rw [q.1, ta66] at z; exact absurd z (by decide))).trans c572
                      have c589 : I579 a0 8 = v573 := (f581 _ _ (fun q => by have z := ta0; rw [q.1, ta66] at z; exact absurd z (by decide))).trans c574
                      have hO590 : FrO 14 a1 T I0 I579 := hO521.put f581 ta66 (Or.inl (by decide))
                      have hM591 : NmM I579 R0 L513 a1 gQ := NmM.kp1 hM558 f581 ta66 rfl rfl hS519.1 ta1
                      refine tr_aload_n dX12_readCall_153 rfl ?_
                      refine tr_getR dX12_readCall_154 fl12_188 (kR15 hS580.1 ta0) d2 ?_
                      refine tr_getR dX12_readCall_157 fl12_361 (kR14 hS580.1 ta1) d69 ?_
                      refine tr_aload_n dX12_readCall_160 rfl ?_
                      refine tr_getR dX12_readCall_161 fl12_188 (kR15 hS580.1 ta0) d2 ?_
                      refine q_getI dX12_readCall_164 fl12_349 (kR14 hS580.1 ta1) c583 ?_
                      refine tr_iload_n dX12_readCall_167 rfl ?_
                      refine q_iast dX12_readCall_168 (kR70 hS580.1 ta68) (ti_in (nR70 hS580.1 ta68) (by omega) (by omega)) hS580 ta68 (iokF rfl) rfl (by rfl) ?_
                      intro I592 hS593 e595 f594
                      have c596 : I592 a1 5 = v49 := (f594 _ _ (fun q => by have z := ta1; rw [q.1, ta68] at z; exact absurd z (by decide))).trans c583
                      have c597 : I592 a0 13 = v559 := (f594 _ _ (fun q => by have z := ta0; rw [q.1, ta68] at z; exact absurd z (by decide))).trans c584
                      have c598 : I592 a0 9 = v561 := (f594 _ _ (fun q => by have z := ta0; rw [q.1, ta68] at z; exact absurd z (by decide))).trans c585
                      have c599 : I592 a0 10 = v564 := (f594 _ _ (fun q => by have z := ta0; rw [q.1, ta68] at z; exact absurd z (by decide))).trans c586
                      have c600 : I592 a0 11 = v567 := (f594 _ _ (fun q => by have z := ta0; rw [q.1, ta68] at z; exact absurd z (by decide))).trans c587
                      have c601 : I592 a0 12 = v571 := (f594 _ _ (fun q => by have z := ta0; rw [q.1, ta68] at z; exact absurd z (by decide))).trans c588
                      have c602 : I592 a0 8 = v573 := (f594 _ _ (fun q => by have z := ta0; rw [q.1, ta68] at z; exact absurd z (by decide))).trans c589
                      have hO603 : FrO 14 a1 T I0 I592 := hO590.put f594 ta68 (Or.inl (by decide))
                      have hM604 : NmM I592 R0 L513 a1 gQ := NmM.kp1 hM591 f594 ta68 rfl rfl hS580.1 ta1
                      refine tr_aload_n dX12_readCall_169 rfl ?_
                      refine tr_getR dX12_readCall_170 fl12_188 (kR15 hS593.1 ta0) d2 ?_
                      refine tr_getR dX12_readCall_173 fl12_364 (kR14 hS593.1 ta1) d71 ?_
                      refine tr_aload_n dX12_readCall_176 rfl ?_
                      refine tr_getR dX12_readCall_177 fl12_188 (kR15 hS593.1 ta0) d2 ?_
                      refine q_getI dX12_readCall_180 fl12_349 (kR14 hS593.1 ta1) c596 ?_
                      refine tr_iload dX12_readCall_183 rfl ?_
                      refine q_iast dX12_readCall_185 (kR71 hS593.1 ta70) (ti_in (nR71 hS593.1 ta70) (by omega) (by omega)) hS593 ta70 (iokF rfl) rfl (by rfl) ?_
                      intro I605 hS606 e608 f607
                      have c609 : I605 a1 5 = v49 := (f607 _ _ (fun q => by have z := ta1; rw [q.1, ta70] at z; exact absurd z (by decide))).trans c596
                      have c610 : I605 a0 13 = v559 := (f607 _ _ (fun q => by have z := ta0; rw [q.1, ta70] at z; exact absurd z (by decide))).trans c597
                      have c611 : I605 a0 9 = v561 := (f607 _ _ (fun q => by have z := ta0; rw [q.1, ta70] at z; exact absurd z (by decide))).trans c598
                      have c612 : I605 a0 10 = v564 := (f607 _ _ (fun q => by have z := ta0; rw [q.1, ta70] at z; exact absurd z (by decide))).trans c599
                      have c613 : I605 a0 11 = v567 := (f607 _ _ (fun q => by have z := ta0; rw [q.1, ta70] at z; exact absurd z (by decide))).trans c600
                      have c614 : I605 a0 12 = v571 := (f607 _ _ (fun q => by have z := ta0; rw [q.1, ta70] at z; exact absurd z (by decide))).trans c601
                      have c615 : I605 a0 8 = v573 := (f607 _ _ (fun q => by have z := ta0; rw [q.1, ta70] at z; exact absurd z (by decide))).trans c602
                      have hO616 : FrO 14 a1 T I0 I605 := hO603.put f607 ta70 (Or.inl (by decide))
                      have hM617 : NmM I605 R0 L513 a1 gQ := NmM.kp1 hM604 f607 ta70 rfl rfl hS593.1 ta1
                      refine tr_aload_n dX12_readCall_186 rfl ?_
                      refine tr_getR dX12_readCall_187 fl12_188 (kR15 hS606.1 ta0) d2 ?_
                      refine tr_getR dX12_readCall_190 fl12_367 (kR14 hS606.1 ta1) d73 ?_
                      refine tr_aload_n dX12_readCall_193 rfl ?_
                      refine tr_getR dX12_readCall_194 fl12_188 (kR15 hS606.1 ta0) d2 ?_
                      refine q_getI dX12_readCall_197 fl12_349 (kR14 hS606.1 ta1) c609 ?_
                      refine tr_iload dX12_readCall_200 rfl ?_
                      refine q_iast dX12_readCall_202 (kR72 hS606.1 ta72) (ti_in (nR72 hS606.1 ta72) (by omega) (by omega)) hS606 ta72 (iokF rfl) rfl (by rfl) ?_
                      intro I618 hS619 e621 f620
                      have c622 : I618 a1 5 = v49 := (f620 _ _ (fun q => by have z := ta1; rw [q.1, ta72] at z; exact absurd z (by decide))).trans c609
                      have c623 : I618 a0 13 = v559 := (f620 _ _ (fun q => by have z := ta0; rw [q.1, ta72] at z; exact absurd z (by decide))).trans c610
                      have c624 : I618 a0 9 = v561 := (f620 _ _ (fun q => by have z := ta0; rw [q.1, ta72] at z; exact absurd z (by decide))).trans c611
                      have c625 : I618 a0 10 = v564 := (f620 _ _ (fun q => by have z := ta0; rw [q.1, ta72] at z; exact absurd z (by decide))).trans c612
                      have c626 : I618 a0 11 = v567 := (f620 _ _ (fun q => by have z := ta0; rw [q.1, ta72] at z; exact absurd z (by decide))).trans c613
                      have c627 : I618 a0 12 = v571 := (f620 _ _ (fun q => by have z := ta0; rw [q.1, ta72] at z; exact absurd z (by decide))).trans c614
                      have c628 : I618 a0 8 = v573 := (f620 _ _ (fun q => by have z := ta0; rw [q.1, ta72] at z; exact absurd z (by decide))).trans c615
                      have hO629 : FrO 14 a1 T I0 I618 := hO616.put f620 ta72 (Or.inl (by decide))
                      have hM630 : NmM I618 R0 L513 a1 gQ := NmM.kp1 hM617 f620 ta72 rfl rfl hS606.1 ta1
                      refine tr_aload_n dX12_readCall_203 rfl ?_
                      refine tr_getR dX12_readCall_204 fl12_188 (kR15 hS619.1 ta0) d2 ?_
                      refine tr_dup dX12_readCall_207 rfl ?_
                      refine q_getI dX12_readCall_208 fl12_349 (kR14 hS619.1 ta1) c622 ?_
                      refine q_iconst dX12_readCall_211 (by decide) ?_
                      intro v631 h632
                      refine q_iaddE dX12_readCall_212 (by intros; omega) ?_
                      intro v633 h634
                      refine q_putI dX12_readCall_213 fl12_349 (kR14 hS619.1 ta1) (Or.inl rfl) hS619 ta1 (by show (0 : Int) ≤ v633.toInt ∧ v633.toInt ≤ (6 : Int); omega) rfl (by decide +kernel) ?_
                      intro I635 hS636 e637 f638
                      have c639 : I635 a0 13 = v559 := (f638 _ _ (fun q => absurd q.2 (by decide))).trans c623
                      have c640 : I635 a0 9 = v561 := (f638 _ _ (fun q => absurd q.2 (by decide))).trans c624
                      have c641 : I635 a0 10 = v564 := (f638 _ _ (fun q => absurd q.2 (by decide))).trans c625
                      have c642 : I635 a0 11 = v567 := (f638 _ _ (fun q => absurd q.2 (by decide))).trans c626
                      have c643 : I635 a0 12 = v571 := (f638 _ _ (fun q => absurd q.2 (by decide))).trans c627
                      have c644 : I635 a0 8 = v573 := (f638 _ _ (fun q => absurd q.2 (by decide))).trans c628
                      have hO645 : FrO 14 a1 T I0 I635 := hO629.put f638 ta1 (Or.inr rfl)
                      have hM646 : NmM I635 R0 L513 a1 gQ := NmM.kp1 hM630 f638 ta1 rfl rfl hS619.1 ta1
                      have eF := hF.eq
                      have eP := hP.eq
                      obtain ⟨v647, c648⟩ : ∃ v, I635 a0 14 = v := ⟨_, rfl⟩
                      exact tr_vret hZ dX12_readCall_216 rfl (by decide) (by decide) ⟨rfl, rfl, rfl, rfl, rfl, hS636, (fun b hb => (Option.some.inj (d2.symm.trans hb)) ▸ (((((((((((FrM.rf (R := R0) (b := a1) (T := T)).st g79 (by decide +kernel)).st g335 (by decide +kernel)).st g376 (by decide +kernel)).st g445 (by decide +kernel)).st g514 (by decide +kernel)).pu f581 (by decide) (by decide) d67).pu f594 (by decide) (by decide) d69).pu f607 (by decide) (by decide) d71).pu f620 (by decide) (by decide) d73).put f638 ta1 (by decide))), (fun dr hd => (Option.some.inj (d2.symm.trans hd)) ▸ hO645), (Or.inl ⟨(by (try rw [w129]); first | done | with_reducible assumption | omega), (fun q0 z0 => by obtain rfl := Option.some.inj ((d2).symm.trans z0); (try rw [w129]); (try rw [((hS636.cell ta1 (by decide +kernel)).trans c30)]); first | done | with_reducible assumption | omega), (fun q0 z0 => by obtain rfl := Option.some.inj ((d2).symm.trans z0); (try rw [w129]); (try rw [((hS636.cell ta1 (by decide +kernel)).trans c34)]); first | done | with_reducible assumption | omega), (fun q0 z0 => by obtain rfl := Option.some.inj ((d2).symm.trans z0); (try rw [w129]); (try rw [((hS636.cell ta1 (by decide +kernel)).trans c38)]); first | done | with_reducible assumption | omega), (fun q0 z0 => by obtain rfl := Option.some.inj ((d2).symm.trans z0); (try rw [w129]); (try rw [((hS636.cell ta1 (by decide +kernel)).trans c42)]); first | done | with_reducible assumption | omega), (fun q0 z0 => by obtain rfl := Option.some.inj ((d2).symm.trans z0); (try rw [w129]); (try rw [((hS636.cell ta1 (by decide +kernel)).trans c46)]); first | done | with_reducible assumption | omega), (fun q0 z0 => by obtain rfl := Option.some.inj ((d2).symm.trans z0); (try rw [w129]); (try rw [e637]); first | done | with_reducible assumption | omega), (fun q0 z0 => by obtain rfl := Option.some.inj ((d2).symm.trans z0); (try rw [w129]); (try rw [((hS636.cell ta1 (by decide +kernel)).trans c54)]); first | done | with_reducible assumption | omega), (fun q0 z0 => by obtain rfl := Option.some.inj ((d2).symm.trans z0); (try rw [w129]); (try rw [((hS636.cell ta1 (by decide +kernel)).trans c58)]); first | done | with_reducible assumption | omega), (by (try rw [w129]); (try rw [c639]); (try rw [c65]); first | done | with_reducible assumption | omega), (by (try rw [w129]); (try rw [c640]); first | done | with_reducible assumption | omega), (by (try rw [w129]); (try rw [c640]); first | done | with_reducible assumption | omega), (by (try rw [w129]); (try rw [c641]); first | done | with_reducible assumption | omega), (by (try rw [w129]); (try rw [c642]); first | done | with_reducible assumption | omega), (by (try rw [w129]); (try rw [c570]); first | done | assumption), (by (try rw [w129]); (try rw [c643]); first | done | assumption), (by (try rw [w129]); (try rw [c644]); first | done | assumption), hL557, (fun b hb => (Option.some.inj (d2.symm.trans hb)) ▸ NmM.ln (NmM.bd (k := srt gB gs) hM646 (by omega) (by omega)) rfl), (fun E b hb hE => by obtain rfl := Option.some.inj (d2.symm.trans hb); exact AlM.ca hE hW0 ta1 (by omega) (by omega) (by omega) (hS636.cell ta1 (by decide +kernel)) (RoF.st (ex := xr 69 72) hS636 (by decide +kernel)) (fun f hf => match f, hf with | 0, _ => (fun a ha => by obtain rfl := Option.some.inj (d67.symm.trans ha); have zi : v49.toNatClampNeg = (gQ 5).toNat := congrArg Int.toNat (by omega); have ze := (Eq.trans ((f638 _ _ (fun q => by have z := ta66; rw [q.1, ta1] at z; exact absurd z (by decide))).trans ((f620 _ _ (fun q => by have z := ta66; rw [q.1, ta72] at z; exact absurd z (by decide))).trans ((f607 _ _ (fun q => by have z := ta66; rw [q.1, ta70] at z; exact absurd z (by decide))).trans (f594 _ _ (fun q => by have z := ta66; rw [q.1, ta68] at z; exact absurd z (by decide)))))) e582); rw [zi] at ze; exact ⟨by rw [ze]; simp only [caD, ↓reduceIte]; repeat' (first | split | omega), fun j hj => ((f638 _ _ (fun q => by have z := ta66; rw [q.1, ta1] at z; exact absurd z (by decide))).trans ((f620 _ _ (fun q => by have z := ta66; rw [q.1, ta72] at z; exact absurd z (by decide))).trans ((f607 _ _ (fun q => by have z := ta66; rw [q.1, ta70] at z; exact absurd z (by decide))).trans ((f594 _ _ (fun q => by have z := ta66; rw [q.1, ta68] at z; exact absurd z (by decide))).trans ((f581 _ _ (fun q => hj (q.2.trans zi))).trans ((g514.cell ta66 (wm_no (by decide +kernel))).trans ((g445.cell ta66 (wm_no (by decide +kernel))).trans ((g376.cell ta66 (wm_no (by decide +kernel))).trans ((g335.cell ta66 (wm_no (by decide +kernel))).trans (g79.cell ta66 (wm_no (by decide +kernel))))))))))))⟩) | 1, _ => (fun a ha => by obtain rfl := Option.some.inj (d69.symm.trans ha); have zi : v49.toNatClampNeg = (gQ 5).toNat := congrArg Int.toNat (by omega); have ze := (Eq.trans ((f638 _ _ (fun q => by have z := ta68; rw [q.1, ta1] at z; exact absurd z (by decide))).trans ((f620 _ _ (fun q => by have z := ta68; rw [q.1, ta72] at z; exact absurd z (by decide))).trans (f607 _ _ (fun q => by have z := ta68; rw [q.1, ta70] at z; exact absurd z (by decide))))) e595); rw [zi] at ze; exact ⟨by rw [ze]; simp only [caD, ↓reduceIte]; repeat' (first | split | omega), fun j hj => ((f638 _ _ (fun q => by have z := ta68; rw [q.1, ta1] at z; exact absurd z (by decide))).trans ((f620 _ _ (fun q => by have z := ta68; rw [q.1, ta72] at z; exact absurd z (by decide))).trans ((f607 _ _ (fun q => by have z := ta68; rw [q.1, ta70] at z; exact absurd z (by decide))).trans ((f594 _ _ (fun q => hj (q.2.trans zi))).trans ((f581 _ _ (fun q => by have z := ta68; rw [q.1, ta66] at z; exact absurd z (by decide))).trans ((g514.cell ta68 (wm_no (by decide +kernel))).trans ((g445.cell ta68 (wm_no (by decide +kernel))).trans ((g376.cell ta68 (wm_no (by decide +kernel))).trans ((g335.cell ta68 (wm_no (by decide +kernel))).trans (g79.cell ta68 (wm_no (by decide +kernel))))))))))))⟩) | 2, _ => (fun a ha => by obtain rfl := Option.some.inj (d71.symm.trans ha); have zi : v49.toNatClampNeg = (gQ 5).toNat := congrArg Int.toNat (by omega); have ze := (Eq.trans ((f638 _ _ (fun q => by have z := ta70; rw [q.1, ta1] at z; exact absurd z (by decide))).trans (f620 _ _ (fun q => by have z := ta70; rw [q.1, ta72] at z; exact absurd z (by decide)))) e608); rw [zi] at ze; exact ⟨by rw [ze]; simp only [caD, ↓reduceIte]; repeat' (first | split | omega), fun j hj => ((f638 _ _ (fun q => by have z := ta70; rw [q.1, ta1] at z; exact absurd z (by decide))).trans ((f620 _ _ (fun q => by have z := ta70; rw [q.1, ta72] at z; exact absurd z (by decide))).trans ((f607 _ _ (fun q => hj (q.2.trans zi))).trans ((f594 _ _ (fun q => by have z := ta70; rw [q.1, ta68] at z; exact absurd z (by decide))).trans ((f581 _ _ (fun q => by have z := ta70; rw [q.1, ta66] at z; exact absurd z (by decide))).trans ((g514.cell ta70 (wm_no (by decide +kernel))).trans ((g445.cell ta70 (wm_no (by decide +kernel))).trans ((g376.cell ta70 (wm_no (by decide +kernel))).trans ((g335.cell ta70 (wm_no (by decide +kernel))).trans (g79.cell ta70 (wm_no (by decide +kernel))))))))))))⟩) | 3, _ => (fun a ha => by obtain rfl := Option.some.inj (d73.symm.trans ha); have zi : v49.toNatClampNeg = (gQ 5).toNat := congrArg Int.toNat (by omega); have ze := (Eq.trans (f638 _ _ (fun q => by have z := ta72; rw [q.1, ta1] at z; exact absurd z (by decide))) e621); rw [zi] at ze; exact ⟨by rw [ze]; simp only [caD, ↓reduceIte]; repeat' (first | split | omega), fun j hj => ((f638 _ _ (fun q => by have z := ta72; rw [q.1, ta1] at z; exact absurd z (by decide))).trans ((f620 _ _ (fun q => hj (q.2.trans zi))).trans ((f607 _ _ (fun q => by have z := ta72; rw [q.1, ta70] at z; exact absurd z (by decide))).trans ((f594 _ _ (fun q => by have z := ta72; rw [q.1, ta68] at z; exact absurd z (by decide))).trans ((f581 _ _ (fun q => by have z := ta72; rw [q.1, ta66] at z; exact absurd z (by decide))).trans ((g514.cell ta72 (wm_no (by decide +kernel))).trans ((g445.cell ta72 (wm_no (by decide +kernel))).trans ((g376.cell ta72 (wm_no (by decide +kernel))).trans ((g335.cell ta72 (wm_no (by decide +kernel))).trans (g79.cell ta72 (wm_no (by decide +kernel))))))))))))⟩) | f + 4, h => absurd h (by omega))), trivial⟩), trivial⟩
                    · skip
                      exfalso; omega
                  · skip
                    obtain ⟨v649, c650⟩ : ∃ v, I511 a0 9 = v := ⟨_, rfl⟩
                    have b651 := iv15_9 hS519.1 ta0 c650
                    rw [c650] at p539
                    obtain ⟨v652, c653⟩ : ∃ v, I511 a0 13 = v := ⟨_, rfl⟩
                    rw [c653] at p540
                    obtain ⟨v654, c655⟩ : ∃ v, I511 a0 14 = v := ⟨_, rfl⟩
                    rw [c655] at p541
                    replace hF := hF.pos (by omega)
                    replace hP := hP.pos (by omega)
                    refine tr_istore dX12_readCall_126 (by decide) (by decide) ?_
                    refine tr_aload_n dX12_readCall_128 rfl ?_
                    refine q_getI dX12_readCall_129 fl12_99 (kR15 hS519.1 ta0) c650 ?_
                    refine q_iconst dX12_readCall_132 (by decide) ?_
                    intro v656 h657
                    refine q_icmp_ne 137 dX12_readCall_133 (by decide) (fun h658 => ?_) (fun h658 => ?_)
                    · skip
                      exfalso; omega
                    · skip
                      have eF := hF.eq
                      have eP := hP.eq
                      obtain ⟨v659, c660⟩ : ∃ v, I511 a0 10 = v := ⟨_, rfl⟩
                      have b661 := iv15_10 hS519.1 ta0 c660
                      obtain ⟨v662, c663⟩ : ∃ v, I511 a0 11 = v := ⟨_, rfl⟩
                      obtain ⟨y664, c665⟩ : ∃ v, L513 a0 15 = v := ⟨_, rfl⟩
                      obtain ⟨v666, c667⟩ : ∃ v, I511 a0 12 = v := ⟨_, rfl⟩
                      obtain ⟨v668, c669⟩ : ∃ v, I511 a0 8 = v := ⟨_, rfl⟩
                      have b670 := iv15_8 hS519.1 ta0 c669
                      exact tr_vret hZ dX12_readCall_136 rfl (by decide) (by decide) ⟨rfl, rfl, rfl, rfl, rfl, hS519, (fun b hb => (Option.some.inj (d2.symm.trans hb)) ▸ ((((((FrM.rf (R := R0) (b := a1) (T := T)).st g79 (by decide +kernel)).st g335 (by decide +kernel)).st g376 (by decide +kernel)).st g445 (by decide +kernel)).st g514 (by decide +kernel))), (fun dr hd => (Option.some.inj (d2.symm.trans hd)) ▸ hO521), (Or.inr (⟨(by (try rw [w129]); first | done | with_reducible assumption | omega), (by (try rw [w129]); (try rw [c650]); first | done | with_reducible assumption | omega), (by (try rw [w129]); (try rw [c653]); first | done | with_reducible assumption | omega), (by (try rw [w129]); (try rw [c655]); first | done | with_reducible assumption | omega), trivial⟩)), trivial⟩
                  · skip
                    obtain ⟨v671, c672⟩ : ∃ v, I511 a0 9 = v := ⟨_, rfl⟩
                    have b673 := iv15_9 hS519.1 ta0 c672
                    rw [c672] at p546
                    obtain ⟨v674, c675⟩ : ∃ v, I511 a0 13 = v := ⟨_, rfl⟩
                    rw [c675] at p547
                    obtain ⟨v676, c677⟩ : ∃ v, I511 a0 14 = v := ⟨_, rfl⟩
                    rw [c677] at p548
                    replace hF := hF.neg (by omega)
                    replace hP := hP.neg (by omega)
                    replace hF := hF.pos (by omega)
                    replace hP := hP.pos (by omega)
                    refine tr_istore dX12_readCall_126 (by decide) (by decide) ?_
                    refine tr_aload_n dX12_readCall_128 rfl ?_
                    refine q_getI dX12_readCall_129 fl12_99 (kR15 hS519.1 ta0) c672 ?_
                    refine q_iconst dX12_readCall_132 (by decide) ?_
                    intro v678 h679
                    refine q_icmp_ne 137 dX12_readCall_133 (by decide) (fun h680 => ?_) (fun h680 => ?_)
                    · skip
                      exfalso; omega
                    · skip
                      have eF := hF.eq
                      have eP := hP.eq
                      obtain ⟨v681, c682⟩ : ∃ v, I511 a0 10 = v := ⟨_, rfl⟩
                      have b683 := iv15_10 hS519.1 ta0 c682
                      obtain ⟨v684, c685⟩ : ∃ v, I511 a0 11 = v := ⟨_, rfl⟩
                      obtain ⟨y686, c687⟩ : ∃ v, L513 a0 15 = v := ⟨_, rfl⟩
                      obtain ⟨v688, c689⟩ : ∃ v, I511 a0 12 = v := ⟨_, rfl⟩
                      obtain ⟨v690, c691⟩ : ∃ v, I511 a0 8 = v := ⟨_, rfl⟩
                      have b692 := iv15_8 hS519.1 ta0 c691
                      exact tr_vret hZ dX12_readCall_136 rfl (by decide) (by decide) ⟨rfl, rfl, rfl, rfl, rfl, hS519, (fun b hb => (Option.some.inj (d2.symm.trans hb)) ▸ ((((((FrM.rf (R := R0) (b := a1) (T := T)).st g79 (by decide +kernel)).st g335 (by decide +kernel)).st g376 (by decide +kernel)).st g445 (by decide +kernel)).st g514 (by decide +kernel))), (fun dr hd => (Option.some.inj (d2.symm.trans hd)) ▸ hO521), (Or.inr (⟨(by (try rw [w129]); first | done | with_reducible assumption | omega), (by (try rw [w129]); (try rw [c672]); first | done | with_reducible assumption | omega), (by (try rw [w129]); (try rw [c675]); first | done | with_reducible assumption | omega), (by (try rw [w129]); (try rw [c677]); first | done | with_reducible assumption | omega), trivial⟩)), trivial⟩
                  · skip
                    obtain ⟨v693, c694⟩ : ∃ v, I511 a0 9 = v := ⟨_, rfl⟩
                    have b695 := iv15_9 hS519.1 ta0 c694
                    rw [c694] at p554
                    obtain ⟨v696, c697⟩ : ∃ v, I511 a0 13 = v := ⟨_, rfl⟩
                    rw [c697] at p555
                    obtain ⟨v698, c699⟩ : ∃ v, I511 a0 14 = v := ⟨_, rfl⟩
                    rw [c699] at p556
                    replace hF := hF.neg (by omega)
                    replace hP := hP.neg (by omega)
                    replace hF := hF.neg (by omega)
                    replace hP := hP.neg (by omega)
                    replace hF := hF.pos (by omega)
                    replace hP := hP.pos (by omega)
                    refine tr_istore dX12_readCall_126 (by decide) (by decide) ?_
                    refine tr_aload_n dX12_readCall_128 rfl ?_
                    refine q_getI dX12_readCall_129 fl12_99 (kR15 hS519.1 ta0) c694 ?_
                    refine q_iconst dX12_readCall_132 (by decide) ?_
                    intro v700 h701
                    refine q_icmp_ne 137 dX12_readCall_133 (by decide) (fun h702 => ?_) (fun h702 => ?_)
                    · skip
                      exfalso; omega
                    · skip
                      have eF := hF.eq
                      have eP := hP.eq
                      obtain ⟨v703, c704⟩ : ∃ v, I511 a0 10 = v := ⟨_, rfl⟩
                      have b705 := iv15_10 hS519.1 ta0 c704
                      obtain ⟨v706, c707⟩ : ∃ v, I511 a0 11 = v := ⟨_, rfl⟩
                      obtain ⟨y708, c709⟩ : ∃ v, L513 a0 15 = v := ⟨_, rfl⟩
                      obtain ⟨v710, c711⟩ : ∃ v, I511 a0 12 = v := ⟨_, rfl⟩
                      obtain ⟨v712, c713⟩ : ∃ v, I511 a0 8 = v := ⟨_, rfl⟩
                      have b714 := iv15_8 hS519.1 ta0 c713
                      exact tr_vret hZ dX12_readCall_136 rfl (by decide) (by decide) ⟨rfl, rfl, rfl, rfl, rfl, hS519, (fun b hb => (Option.some.inj (d2.symm.trans hb)) ▸ ((((((FrM.rf (R := R0) (b := a1) (T := T)).st g79 (by decide +kernel)).st g335 (by decide +kernel)).st g376 (by decide +kernel)).st g445 (by decide +kernel)).st g514 (by decide +kernel))), (fun dr hd => (Option.some.inj (d2.symm.trans hd)) ▸ hO521), (Or.inr (⟨(by (try rw [w129]); first | done | with_reducible assumption | omega), (by (try rw [w129]); (try rw [c694]); first | done | with_reducible assumption | omega), (by (try rw [w129]); (try rw [c697]); first | done | with_reducible assumption | omega), (by (try rw [w129]); (try rw [c699]); first | done | with_reducible assumption | omega), trivial⟩)), trivial⟩
                · skip
                  obtain ⟨v715, c716⟩ : ∃ v, I442 a0 9 = v := ⟨_, rfl⟩
                  have b717 := iv15_9 hS450.1 ta0 c716
                  rw [c716] at p470
                  obtain ⟨v718, c719⟩ : ∃ v, I442 a0 13 = v := ⟨_, rfl⟩
                  rw [c719] at p471
                  obtain ⟨v720, c721⟩ : ∃ v, I442 a0 14 = v := ⟨_, rfl⟩
                  rw [c721] at p472
                  replace hF := hF.pos (by omega)
                  replace hP := hP.pos (by omega)
                  refine tr_istore dX12_readCall_114 (by decide) (by decide) ?_
                  refine tr_aload_n dX12_readCall_116 rfl ?_
                  refine tr_ldcwS dX12_readCall_117 ld12_356 ?_
                  refine q_iconst dX12_readCall_120 (by decide) ?_
                  intro v722 h723
                  refine q_bipush dX12_readCall_121 (by decide +kernel) ?_
                  intro v724 h725
                  refine q_callVi hE (M' := mX12_readPart) (as := [_, _, _]) dX12_readCall_123 lk12_249 inX12_readPart seX12_readPart myX12_readPart (by decide) ⟨by decide, by decide⟩ rfl (kR15 hS450.1 ta0) (Nat.le_of_ble_eq_true rfl) rfl rfl (by decide) (by decide) (k_X12_readPart hS450.1 ta0 (by decide)) ?_
                  rintro v730 cn' K' N' I726 R727 L728 ⟨rfl, rfl, rfl, rfl, g729, p731, w732, -⟩
                  have hS733 := hS450.tr g729 (by decide +kernel) (by decide +kernel)
                  have c734 : I726 a1 5 = v49 := (g729.cell ta1 (by decide +kernel)).trans c451
                  have b735 : 0 ≤ v730.toInt ∧ v730.toInt ≤ 99 := by omega
                  clear p731
                  have hO736 : FrO 14 a1 T I0 I726 := hO452.st g729 (by decide +kernel)
                  have ov737 := w732.over (by rw [c716]; omega)
                  obtain ⟨v738, c739⟩ : ∃ v, I726 a0 9 = v := ⟨_, rfl⟩
                  have b740 := iv15_9 hS733.1 ta0 c739
                  obtain ⟨v741, c742⟩ : ∃ v, I726 a0 13 = v := ⟨_, rfl⟩
                  obtain ⟨v743, c744⟩ : ∃ v, I726 a0 14 = v := ⟨_, rfl⟩
                  (try rw [c739] at ov737)
                  (try rw [c742] at ov737)
                  (try rw [c744] at ov737)
                  (try rw [c716] at ov737)
                  (try rw [c719] at ov737)
                  (try rw [c721] at ov737)
                  refine tr_istore dX12_readCall_126 (by decide) (by decide) ?_
                  refine tr_aload_n dX12_readCall_128 rfl ?_
                  refine q_getI dX12_readCall_129 fl12_99 (kR15 hS733.1 ta0) c739 ?_
                  refine q_iconst dX12_readCall_132 (by decide) ?_
                  intro v745 h746
                  refine q_icmp_ne 137 dX12_readCall_133 (by decide) (fun h747 => ?_) (fun h747 => ?_)
                  · skip
                    exfalso; omega
                  · skip
                    have eF := hF.eq
                    have eP := hP.eq
                    obtain ⟨v748, c749⟩ : ∃ v, I726 a0 10 = v := ⟨_, rfl⟩
                    have b750 := iv15_10 hS733.1 ta0 c749
                    obtain ⟨v751, c752⟩ : ∃ v, I726 a0 11 = v := ⟨_, rfl⟩
                    obtain ⟨y753, c754⟩ : ∃ v, L728 a0 15 = v := ⟨_, rfl⟩
                    obtain ⟨v755, c756⟩ : ∃ v, I726 a0 12 = v := ⟨_, rfl⟩
                    obtain ⟨v757, c758⟩ : ∃ v, I726 a0 8 = v := ⟨_, rfl⟩
                    have b759 := iv15_8 hS733.1 ta0 c758
                    exact tr_vret hZ dX12_readCall_136 rfl (by decide) (by decide) ⟨rfl, rfl, rfl, rfl, rfl, hS733, (fun b hb => (Option.some.inj (d2.symm.trans hb)) ▸ ((((((FrM.rf (R := R0) (b := a1) (T := T)).st g79 (by decide +kernel)).st g335 (by decide +kernel)).st g376 (by decide +kernel)).st g445 (by decide +kernel)).st g729 (by decide +kernel))), (fun dr hd => (Option.some.inj (d2.symm.trans hd)) ▸ hO736), (Or.inr (⟨(by (try rw [w129]); first | done | with_reducible assumption | omega), (by (try rw [w129]); (try rw [c739]); first | done | with_reducible assumption | omega), (by (try rw [w129]); (try rw [c742]); first | done | with_reducible assumption | omega), (by (try rw [w129]); (try rw [c744]); first | done | with_reducible assumption | omega), trivial⟩)), trivial⟩
                · skip
                  obtain ⟨v760, c761⟩ : ∃ v, I442 a0 9 = v := ⟨_, rfl⟩
                  have b762 := iv15_9 hS450.1 ta0 c761
                  rw [c761] at p477
                  obtain ⟨v763, c764⟩ : ∃ v, I442 a0 13 = v := ⟨_, rfl⟩
                  rw [c764] at p478
                  obtain ⟨v765, c766⟩ : ∃ v, I442 a0 14 = v := ⟨_, rfl⟩
                  rw [c766] at p479
                  replace hF := hF.neg (by omega)
                  replace hP := hP.neg (by omega)
                  replace hF := hF.pos (by omega)
                  replace hP := hP.pos (by omega)
                  refine tr_istore dX12_readCall_114 (by decide) (by decide) ?_
                  refine tr_aload_n dX12_readCall_116 rfl ?_
                  refine tr_ldcwS dX12_readCall_117 ld12_356 ?_
                  refine q_iconst dX12_readCall_120 (by decide) ?_
                  intro v767 h768
                  refine q_bipush dX12_readCall_121 (by decide +kernel) ?_
                  intro v769 h770
                  refine q_callVi hE (M' := mX12_readPart) (as := [_, _, _]) dX12_readCall_123 lk12_249 inX12_readPart seX12_readPart myX12_readPart (by decide) ⟨by decide, by decide⟩ rfl (kR15 hS450.1 ta0) (Nat.le_of_ble_eq_true rfl) rfl rfl (by decide) (by decide) (k_X12_readPart hS450.1 ta0 (by decide)) ?_
                  rintro v775 cn' K' N' I771 R772 L773 ⟨rfl, rfl, rfl, rfl, g774, p776, w777, -⟩
                  have hS778 := hS450.tr g774 (by decide +kernel) (by decide +kernel)
                  have c779 : I771 a1 5 = v49 := (g774.cell ta1 (by decide +kernel)).trans c451
                  have b780 : 0 ≤ v775.toInt ∧ v775.toInt ≤ 99 := by omega
                  clear p776
                  have hO781 : FrO 14 a1 T I0 I771 := hO452.st g774 (by decide +kernel)
                  have ov782 := w777.over (by rw [c761]; omega)
                  obtain ⟨v783, c784⟩ : ∃ v, I771 a0 9 = v := ⟨_, rfl⟩
                  have b785 := iv15_9 hS778.1 ta0 c784
                  obtain ⟨v786, c787⟩ : ∃ v, I771 a0 13 = v := ⟨_, rfl⟩
                  obtain ⟨v788, c789⟩ : ∃ v, I771 a0 14 = v := ⟨_, rfl⟩
                  (try rw [c784] at ov782)
                  (try rw [c787] at ov782)
                  (try rw [c789] at ov782)
                  (try rw [c761] at ov782)
                  (try rw [c764] at ov782)
                  (try rw [c766] at ov782)
                  refine tr_istore dX12_readCall_126 (by decide) (by decide) ?_
                  refine tr_aload_n dX12_readCall_128 rfl ?_
                  refine q_getI dX12_readCall_129 fl12_99 (kR15 hS778.1 ta0) c784 ?_
                  refine q_iconst dX12_readCall_132 (by decide) ?_
                  intro v790 h791
                  refine q_icmp_ne 137 dX12_readCall_133 (by decide) (fun h792 => ?_) (fun h792 => ?_)
                  · skip
                    exfalso; omega
                  · skip
                    have eF := hF.eq
                    have eP := hP.eq
                    obtain ⟨v793, c794⟩ : ∃ v, I771 a0 10 = v := ⟨_, rfl⟩
                    have b795 := iv15_10 hS778.1 ta0 c794
                    obtain ⟨v796, c797⟩ : ∃ v, I771 a0 11 = v := ⟨_, rfl⟩
                    obtain ⟨y798, c799⟩ : ∃ v, L773 a0 15 = v := ⟨_, rfl⟩
                    obtain ⟨v800, c801⟩ : ∃ v, I771 a0 12 = v := ⟨_, rfl⟩
                    obtain ⟨v802, c803⟩ : ∃ v, I771 a0 8 = v := ⟨_, rfl⟩
                    have b804 := iv15_8 hS778.1 ta0 c803
                    exact tr_vret hZ dX12_readCall_136 rfl (by decide) (by decide) ⟨rfl, rfl, rfl, rfl, rfl, hS778, (fun b hb => (Option.some.inj (d2.symm.trans hb)) ▸ ((((((FrM.rf (R := R0) (b := a1) (T := T)).st g79 (by decide +kernel)).st g335 (by decide +kernel)).st g376 (by decide +kernel)).st g445 (by decide +kernel)).st g774 (by decide +kernel))), (fun dr hd => (Option.some.inj (d2.symm.trans hd)) ▸ hO781), (Or.inr (⟨(by (try rw [w129]); first | done | with_reducible assumption | omega), (by (try rw [w129]); (try rw [c784]); first | done | with_reducible assumption | omega), (by (try rw [w129]); (try rw [c787]); first | done | with_reducible assumption | omega), (by (try rw [w129]); (try rw [c789]); first | done | with_reducible assumption | omega), trivial⟩)), trivial⟩
                · skip
                  obtain ⟨v805, c806⟩ : ∃ v, I442 a0 9 = v := ⟨_, rfl⟩
                  have b807 := iv15_9 hS450.1 ta0 c806
                  rw [c806] at p485
                  obtain ⟨v808, c809⟩ : ∃ v, I442 a0 13 = v := ⟨_, rfl⟩
                  rw [c809] at p486
                  obtain ⟨v810, c811⟩ : ∃ v, I442 a0 14 = v := ⟨_, rfl⟩
                  rw [c811] at p487
                  replace hF := hF.neg (by omega)
                  replace hP := hP.neg (by omega)
                  replace hF := hF.neg (by omega)
                  replace hP := hP.neg (by omega)
                  replace hF := hF.pos (by omega)
                  replace hP := hP.pos (by omega)
                  refine tr_istore dX12_readCall_114 (by decide) (by decide) ?_
                  refine tr_aload_n dX12_readCall_116 rfl ?_
                  refine tr_ldcwS dX12_readCall_117 ld12_356 ?_
                  refine q_iconst dX12_readCall_120 (by decide) ?_
                  intro v812 h813
                  refine q_bipush dX12_readCall_121 (by decide +kernel) ?_
                  intro v814 h815
                  refine q_callVi hE (M' := mX12_readPart) (as := [_, _, _]) dX12_readCall_123 lk12_249 inX12_readPart seX12_readPart myX12_readPart (by decide) ⟨by decide, by decide⟩ rfl (kR15 hS450.1 ta0) (Nat.le_of_ble_eq_true rfl) rfl rfl (by decide) (by decide) (k_X12_readPart hS450.1 ta0 (by decide)) ?_
                  rintro v820 cn' K' N' I816 R817 L818 ⟨rfl, rfl, rfl, rfl, g819, p821, w822, -⟩
                  have hS823 := hS450.tr g819 (by decide +kernel) (by decide +kernel)
                  have c824 : I816 a1 5 = v49 := (g819.cell ta1 (by decide +kernel)).trans c451
                  have b825 : 0 ≤ v820.toInt ∧ v820.toInt ≤ 99 := by omega
                  clear p821
                  have hO826 : FrO 14 a1 T I0 I816 := hO452.st g819 (by decide +kernel)
                  have ov827 := w822.over (by rw [c806]; omega)
                  obtain ⟨v828, c829⟩ : ∃ v, I816 a0 9 = v := ⟨_, rfl⟩
                  have b830 := iv15_9 hS823.1 ta0 c829
                  obtain ⟨v831, c832⟩ : ∃ v, I816 a0 13 = v := ⟨_, rfl⟩
                  obtain ⟨v833, c834⟩ : ∃ v, I816 a0 14 = v := ⟨_, rfl⟩
                  (try rw [c829] at ov827)
                  (try rw [c832] at ov827)
                  (try rw [c834] at ov827)
                  (try rw [c806] at ov827)
                  (try rw [c809] at ov827)
                  (try rw [c811] at ov827)
                  refine tr_istore dX12_readCall_126 (by decide) (by decide) ?_
                  refine tr_aload_n dX12_readCall_128 rfl ?_
                  refine q_getI dX12_readCall_129 fl12_99 (kR15 hS823.1 ta0) c829 ?_
                  refine q_iconst dX12_readCall_132 (by decide) ?_
                  intro v835 h836
                  refine q_icmp_ne 137 dX12_readCall_133 (by decide) (fun h837 => ?_) (fun h837 => ?_)
                  · skip
                    exfalso; omega
                  · skip
                    have eF := hF.eq
                    have eP := hP.eq
                    obtain ⟨v838, c839⟩ : ∃ v, I816 a0 10 = v := ⟨_, rfl⟩
                    have b840 := iv15_10 hS823.1 ta0 c839
                    obtain ⟨v841, c842⟩ : ∃ v, I816 a0 11 = v := ⟨_, rfl⟩
                    obtain ⟨y843, c844⟩ : ∃ v, L818 a0 15 = v := ⟨_, rfl⟩
                    obtain ⟨v845, c846⟩ : ∃ v, I816 a0 12 = v := ⟨_, rfl⟩
                    obtain ⟨v847, c848⟩ : ∃ v, I816 a0 8 = v := ⟨_, rfl⟩
                    have b849 := iv15_8 hS823.1 ta0 c848
                    exact tr_vret hZ dX12_readCall_136 rfl (by decide) (by decide) ⟨rfl, rfl, rfl, rfl, rfl, hS823, (fun b hb => (Option.some.inj (d2.symm.trans hb)) ▸ ((((((FrM.rf (R := R0) (b := a1) (T := T)).st g79 (by decide +kernel)).st g335 (by decide +kernel)).st g376 (by decide +kernel)).st g445 (by decide +kernel)).st g819 (by decide +kernel))), (fun dr hd => (Option.some.inj (d2.symm.trans hd)) ▸ hO826), (Or.inr (⟨(by (try rw [w129]); first | done | with_reducible assumption | omega), (by (try rw [w129]); (try rw [c829]); first | done | with_reducible assumption | omega), (by (try rw [w129]); (try rw [c832]); first | done | with_reducible assumption | omega), (by (try rw [w129]); (try rw [c834]); first | done | with_reducible assumption | omega), trivial⟩)), trivial⟩
              · skip
                obtain ⟨v850, c851⟩ : ∃ v, I373 a0 9 = v := ⟨_, rfl⟩
                have b852 := iv15_9 hS381.1 ta0 c851
                rw [c851] at p401
                obtain ⟨v853, c854⟩ : ∃ v, I373 a0 13 = v := ⟨_, rfl⟩
                rw [c854] at p402
                obtain ⟨v855, c856⟩ : ∃ v, I373 a0 14 = v := ⟨_, rfl⟩
                rw [c856] at p403
                replace hF := hF.pos (by omega)
                replace hP := hP.pos (by omega)
                refine tr_istore_n dX12_readCall_103 (by decide) (by decide) ?_
                refine tr_aload_n dX12_readCall_104 rfl ?_
                refine tr_ldcwS dX12_readCall_105 ld12_354 ?_
                refine q_iconst dX12_readCall_108 (by decide) ?_
                intro v857 h858
                refine q_bipush dX12_readCall_109 (by decide +kernel) ?_
                intro v859 h860
                refine q_callVi hE (M' := mX12_readPart) (as := [_, _, _]) dX12_readCall_111 lk12_249 inX12_readPart seX12_readPart myX12_readPart (by decide) ⟨by decide, by decide⟩ rfl (kR15 hS381.1 ta0) (Nat.le_of_ble_eq_true rfl) rfl rfl (by decide) (by decide) (k_X12_readPart hS381.1 ta0 (by decide)) ?_
                rintro v865 cn' K' N' I861 R862 L863 ⟨rfl, rfl, rfl, rfl, g864, p866, w867, -⟩
                have hS868 := hS381.tr g864 (by decide +kernel) (by decide +kernel)
                have c869 : I861 a1 5 = v49 := (g864.cell ta1 (by decide +kernel)).trans c382
                have b870 : 1 ≤ v865.toInt ∧ v865.toInt ≤ 60 := by omega
                clear p866
                have hO871 : FrO 14 a1 T I0 I861 := hO383.st g864 (by decide +kernel)
                have ov872 := w867.over (by rw [c851]; omega)
                obtain ⟨v873, c874⟩ : ∃ v, I861 a0 9 = v := ⟨_, rfl⟩
                have b875 := iv15_9 hS868.1 ta0 c874
                obtain ⟨v876, c877⟩ : ∃ v, I861 a0 13 = v := ⟨_, rfl⟩
                obtain ⟨v878, c879⟩ : ∃ v, I861 a0 14 = v := ⟨_, rfl⟩
                (try rw [c874] at ov872)
                (try rw [c877] at ov872)
                (try rw [c879] at ov872)
                (try rw [c851] at ov872)
                (try rw [c854] at ov872)
                (try rw [c856] at ov872)
                refine tr_istore dX12_readCall_114 (by decide) (by decide) ?_
                refine tr_aload_n dX12_readCall_116 rfl ?_
                refine tr_ldcwS dX12_readCall_117 ld12_356 ?_
                refine q_iconst dX12_readCall_120 (by decide) ?_
                intro v880 h881
                refine q_bipush dX12_readCall_121 (by decide +kernel) ?_
                intro v882 h883
                refine q_callVi hE (M' := mX12_readPart) (as := [_, _, _]) dX12_readCall_123 lk12_249 inX12_readPart seX12_readPart myX12_readPart (by decide) ⟨by decide, by decide⟩ rfl (kR15 hS868.1 ta0) (Nat.le_of_ble_eq_true rfl) rfl rfl (by decide) (by decide) (k_X12_readPart hS868.1 ta0 (by decide)) ?_
                rintro v888 cn' K' N' I884 R885 L886 ⟨rfl, rfl, rfl, rfl, g887, p889, w890, -⟩
                have hS891 := hS868.tr g887 (by decide +kernel) (by decide +kernel)
                have c892 : I884 a1 5 = v49 := (g887.cell ta1 (by decide +kernel)).trans c869
                have b893 : 0 ≤ v888.toInt ∧ v888.toInt ≤ 99 := by omega
                clear p889
                have hO894 : FrO 14 a1 T I0 I884 := hO871.st g887 (by decide +kernel)
                have ov895 := w890.over (by rw [c874]; omega)
                obtain ⟨v896, c897⟩ : ∃ v, I884 a0 9 = v := ⟨_, rfl⟩
                have b898 := iv15_9 hS891.1 ta0 c897
                obtain ⟨v899, c900⟩ : ∃ v, I884 a0 13 = v := ⟨_, rfl⟩
                obtain ⟨v901, c902⟩ : ∃ v, I884 a0 14 = v := ⟨_, rfl⟩
                (try rw [c897] at ov895)
                (try rw [c900] at ov895)
                (try rw [c902] at ov895)
                (try rw [c874] at ov895)
                (try rw [c877] at ov895)
                (try rw [c879] at ov895)
                refine tr_istore dX12_readCall_126 (by decide) (by decide) ?_
                refine tr_aload_n dX12_readCall_128 rfl ?_
                refine q_getI dX12_readCall_129 fl12_99 (kR15 hS891.1 ta0) c897 ?_
                refine q_iconst dX12_readCall_132 (by decide) ?_
                intro v903 h904
                refine q_icmp_ne 137 dX12_readCall_133 (by decide) (fun h905 => ?_) (fun h905 => ?_)
                · skip
                  exfalso; omega
                · skip
                  have eF := hF.eq
                  have eP := hP.eq
                  obtain ⟨v906, c907⟩ : ∃ v, I884 a0 10 = v := ⟨_, rfl⟩
                  have b908 := iv15_10 hS891.1 ta0 c907
                  obtain ⟨v909, c910⟩ : ∃ v, I884 a0 11 = v := ⟨_, rfl⟩
                  obtain ⟨y911, c912⟩ : ∃ v, L886 a0 15 = v := ⟨_, rfl⟩
                  obtain ⟨v913, c914⟩ : ∃ v, I884 a0 12 = v := ⟨_, rfl⟩
                  obtain ⟨v915, c916⟩ : ∃ v, I884 a0 8 = v := ⟨_, rfl⟩
                  have b917 := iv15_8 hS891.1 ta0 c916
                  exact tr_vret hZ dX12_readCall_136 rfl (by decide) (by decide) ⟨rfl, rfl, rfl, rfl, rfl, hS891, (fun b hb => (Option.some.inj (d2.symm.trans hb)) ▸ ((((((FrM.rf (R := R0) (b := a1) (T := T)).st g79 (by decide +kernel)).st g335 (by decide +kernel)).st g376 (by decide +kernel)).st g864 (by decide +kernel)).st g887 (by decide +kernel))), (fun dr hd => (Option.some.inj (d2.symm.trans hd)) ▸ hO894), (Or.inr (⟨(by (try rw [w129]); first | done | with_reducible assumption | omega), (by (try rw [w129]); (try rw [c897]); first | done | with_reducible assumption | omega), (by (try rw [w129]); (try rw [c900]); first | done | with_reducible assumption | omega), (by (try rw [w129]); (try rw [c902]); first | done | with_reducible assumption | omega), trivial⟩)), trivial⟩
              · skip
                obtain ⟨v918, c919⟩ : ∃ v, I373 a0 9 = v := ⟨_, rfl⟩
                have b920 := iv15_9 hS381.1 ta0 c919
                rw [c919] at p408
                obtain ⟨v921, c922⟩ : ∃ v, I373 a0 13 = v := ⟨_, rfl⟩
                rw [c922] at p409
                obtain ⟨v923, c924⟩ : ∃ v, I373 a0 14 = v := ⟨_, rfl⟩
                rw [c924] at p410
                replace hF := hF.neg (by omega)
                replace hP := hP.neg (by omega)
                replace hF := hF.pos (by omega)
                replace hP := hP.pos (by omega)
                refine tr_istore_n dX12_readCall_103 (by decide) (by decide) ?_
                refine tr_aload_n dX12_readCall_104 rfl ?_
                refine tr_ldcwS dX12_readCall_105 ld12_354 ?_
                refine q_iconst dX12_readCall_108 (by decide) ?_
                intro v925 h926
                refine q_bipush dX12_readCall_109 (by decide +kernel) ?_
                intro v927 h928
                refine q_callVi hE (M' := mX12_readPart) (as := [_, _, _]) dX12_readCall_111 lk12_249 inX12_readPart seX12_readPart myX12_readPart (by decide) ⟨by decide, by decide⟩ rfl (kR15 hS381.1 ta0) (Nat.le_of_ble_eq_true rfl) rfl rfl (by decide) (by decide) (k_X12_readPart hS381.1 ta0 (by decide)) ?_
                rintro v933 cn' K' N' I929 R930 L931 ⟨rfl, rfl, rfl, rfl, g932, p934, w935, -⟩
                have hS936 := hS381.tr g932 (by decide +kernel) (by decide +kernel)
                have c937 : I929 a1 5 = v49 := (g932.cell ta1 (by decide +kernel)).trans c382
                have b938 : 1 ≤ v933.toInt ∧ v933.toInt ≤ 60 := by omega
                clear p934
                have hO939 : FrO 14 a1 T I0 I929 := hO383.st g932 (by decide +kernel)
                have ov940 := w935.over (by rw [c919]; omega)
                obtain ⟨v941, c942⟩ : ∃ v, I929 a0 9 = v := ⟨_, rfl⟩
                have b943 := iv15_9 hS936.1 ta0 c942
                obtain ⟨v944, c945⟩ : ∃ v, I929 a0 13 = v := ⟨_, rfl⟩
                obtain ⟨v946, c947⟩ : ∃ v, I929 a0 14 = v := ⟨_, rfl⟩
                (try rw [c942] at ov940)
                (try rw [c945] at ov940)
                (try rw [c947] at ov940)
                (try rw [c919] at ov940)
                (try rw [c922] at ov940)
                (try rw [c924] at ov940)
                refine tr_istore dX12_readCall_114 (by decide) (by decide) ?_
                refine tr_aload_n dX12_readCall_116 rfl ?_
                refine tr_ldcwS dX12_readCall_117 ld12_356 ?_
                refine q_iconst dX12_readCall_120 (by decide) ?_
                intro v948 h949
                refine q_bipush dX12_readCall_121 (by decide +kernel) ?_
                intro v950 h951
                refine q_callVi hE (M' := mX12_readPart) (as := [_, _, _]) dX12_readCall_123 lk12_249 inX12_readPart seX12_readPart myX12_readPart (by decide) ⟨by decide, by decide⟩ rfl (kR15 hS936.1 ta0) (Nat.le_of_ble_eq_true rfl) rfl rfl (by decide) (by decide) (k_X12_readPart hS936.1 ta0 (by decide)) ?_
                rintro v956 cn' K' N' I952 R953 L954 ⟨rfl, rfl, rfl, rfl, g955, p957, w958, -⟩
                have hS959 := hS936.tr g955 (by decide +kernel) (by decide +kernel)
                have c960 : I952 a1 5 = v49 := (g955.cell ta1 (by decide +kernel)).trans c937
                have b961 : 0 ≤ v956.toInt ∧ v956.toInt ≤ 99 := by omega
                clear p957
                have hO962 : FrO 14 a1 T I0 I952 := hO939.st g955 (by decide +kernel)
                have ov963 := w958.over (by rw [c942]; omega)
                obtain ⟨v964, c965⟩ : ∃ v, I952 a0 9 = v := ⟨_, rfl⟩
                have b966 := iv15_9 hS959.1 ta0 c965
                obtain ⟨v967, c968⟩ : ∃ v, I952 a0 13 = v := ⟨_, rfl⟩
                obtain ⟨v969, c970⟩ : ∃ v, I952 a0 14 = v := ⟨_, rfl⟩
                (try rw [c965] at ov963)
                (try rw [c968] at ov963)
                (try rw [c970] at ov963)
                (try rw [c942] at ov963)
                (try rw [c945] at ov963)
                (try rw [c947] at ov963)
                refine tr_istore dX12_readCall_126 (by decide) (by decide) ?_
                refine tr_aload_n dX12_readCall_128 rfl ?_
                refine q_getI dX12_readCall_129 fl12_99 (kR15 hS959.1 ta0) c965 ?_
                refine q_iconst dX12_readCall_132 (by decide) ?_
                intro v971 h972
                refine q_icmp_ne 137 dX12_readCall_133 (by decide) (fun h973 => ?_) (fun h973 => ?_)
                · skip
                  exfalso; omega
                · skip
                  have eF := hF.eq
                  have eP := hP.eq
                  obtain ⟨v974, c975⟩ : ∃ v, I952 a0 10 = v := ⟨_, rfl⟩
                  have b976 := iv15_10 hS959.1 ta0 c975
                  obtain ⟨v977, c978⟩ : ∃ v, I952 a0 11 = v := ⟨_, rfl⟩
                  obtain ⟨y979, c980⟩ : ∃ v, L954 a0 15 = v := ⟨_, rfl⟩
                  obtain ⟨v981, c982⟩ : ∃ v, I952 a0 12 = v := ⟨_, rfl⟩
                  obtain ⟨v983, c984⟩ : ∃ v, I952 a0 8 = v := ⟨_, rfl⟩
                  have b985 := iv15_8 hS959.1 ta0 c984
                  exact tr_vret hZ dX12_readCall_136 rfl (by decide) (by decide) ⟨rfl, rfl, rfl, rfl, rfl, hS959, (fun b hb => (Option.some.inj (d2.symm.trans hb)) ▸ ((((((FrM.rf (R := R0) (b := a1) (T := T)).st g79 (by decide +kernel)).st g335 (by decide +kernel)).st g376 (by decide +kernel)).st g932 (by decide +kernel)).st g955 (by decide +kernel))), (fun dr hd => (Option.some.inj (d2.symm.trans hd)) ▸ hO962), (Or.inr (⟨(by (try rw [w129]); first | done | with_reducible assumption | omega), (by (try rw [w129]); (try rw [c965]); first | done | with_reducible assumption | omega), (by (try rw [w129]); (try rw [c968]); first | done | with_reducible assumption | omega), (by (try rw [w129]); (try rw [c970]); first | done | with_reducible assumption | omega), trivial⟩)), trivial⟩
              · skip
                obtain ⟨v986, c987⟩ : ∃ v, I373 a0 9 = v := ⟨_, rfl⟩
                have b988 := iv15_9 hS381.1 ta0 c987
                rw [c987] at p416
                obtain ⟨v989, c990⟩ : ∃ v, I373 a0 13 = v := ⟨_, rfl⟩
                rw [c990] at p417
                obtain ⟨v991, c992⟩ : ∃ v, I373 a0 14 = v := ⟨_, rfl⟩
                rw [c992] at p418
                replace hF := hF.neg (by omega)
                replace hP := hP.neg (by omega)
                replace hF := hF.neg (by omega)
                replace hP := hP.neg (by omega)
                replace hF := hF.pos (by omega)
                replace hP := hP.pos (by omega)
                refine tr_istore_n dX12_readCall_103 (by decide) (by decide) ?_
                refine tr_aload_n dX12_readCall_104 rfl ?_
                refine tr_ldcwS dX12_readCall_105 ld12_354 ?_
                refine q_iconst dX12_readCall_108 (by decide) ?_
                intro v993 h994
                refine q_bipush dX12_readCall_109 (by decide +kernel) ?_
                intro v995 h996
                refine q_callVi hE (M' := mX12_readPart) (as := [_, _, _]) dX12_readCall_111 lk12_249 inX12_readPart seX12_readPart myX12_readPart (by decide) ⟨by decide, by decide⟩ rfl (kR15 hS381.1 ta0) (Nat.le_of_ble_eq_true rfl) rfl rfl (by decide) (by decide) (k_X12_readPart hS381.1 ta0 (by decide)) ?_
                rintro v1001 cn' K' N' I997 R998 L999 ⟨rfl, rfl, rfl, rfl, g1000, p1002, w1003, -⟩
                have hS1004 := hS381.tr g1000 (by decide +kernel) (by decide +kernel)
                have c1005 : I997 a1 5 = v49 := (g1000.cell ta1 (by decide +kernel)).trans c382
                have b1006 : 1 ≤ v1001.toInt ∧ v1001.toInt ≤ 60 := by omega
                clear p1002
                have hO1007 : FrO 14 a1 T I0 I997 := hO383.st g1000 (by decide +kernel)
                have ov1008 := w1003.over (by rw [c987]; omega)
                obtain ⟨v1009, c1010⟩ : ∃ v, I997 a0 9 = v := ⟨_, rfl⟩
                have b1011 := iv15_9 hS1004.1 ta0 c1010
                obtain ⟨v1012, c1013⟩ : ∃ v, I997 a0 13 = v := ⟨_, rfl⟩
                obtain ⟨v1014, c1015⟩ : ∃ v, I997 a0 14 = v := ⟨_, rfl⟩
                (try rw [c1010] at ov1008)
                (try rw [c1013] at ov1008)
                (try rw [c1015] at ov1008)
                (try rw [c987] at ov1008)
                (try rw [c990] at ov1008)
                (try rw [c992] at ov1008)
                refine tr_istore dX12_readCall_114 (by decide) (by decide) ?_
                refine tr_aload_n dX12_readCall_116 rfl ?_
                refine tr_ldcwS dX12_readCall_117 ld12_356 ?_
                refine q_iconst dX12_readCall_120 (by decide) ?_
                intro v1016 h1017
                refine q_bipush dX12_readCall_121 (by decide +kernel) ?_
                intro v1018 h1019
                refine q_callVi hE (M' := mX12_readPart) (as := [_, _, _]) dX12_readCall_123 lk12_249 inX12_readPart seX12_readPart myX12_readPart (by decide) ⟨by decide, by decide⟩ rfl (kR15 hS1004.1 ta0) (Nat.le_of_ble_eq_true rfl) rfl rfl (by decide) (by decide) (k_X12_readPart hS1004.1 ta0 (by decide)) ?_
                rintro v1024 cn' K' N' I1020 R1021 L1022 ⟨rfl, rfl, rfl, rfl, g1023, p1025, w1026, -⟩
                have hS1027 := hS1004.tr g1023 (by decide +kernel) (by decide +kernel)
                have c1028 : I1020 a1 5 = v49 := (g1023.cell ta1 (by decide +kernel)).trans c1005
                have b1029 : 0 ≤ v1024.toInt ∧ v1024.toInt ≤ 99 := by omega
                clear p1025
                have hO1030 : FrO 14 a1 T I0 I1020 := hO1007.st g1023 (by decide +kernel)
                have ov1031 := w1026.over (by rw [c1010]; omega)
                obtain ⟨v1032, c1033⟩ : ∃ v, I1020 a0 9 = v := ⟨_, rfl⟩
                have b1034 := iv15_9 hS1027.1 ta0 c1033
                obtain ⟨v1035, c1036⟩ : ∃ v, I1020 a0 13 = v := ⟨_, rfl⟩
                obtain ⟨v1037, c1038⟩ : ∃ v, I1020 a0 14 = v := ⟨_, rfl⟩
                (try rw [c1033] at ov1031)
                (try rw [c1036] at ov1031)
                (try rw [c1038] at ov1031)
                (try rw [c1010] at ov1031)
                (try rw [c1013] at ov1031)
                (try rw [c1015] at ov1031)
                refine tr_istore dX12_readCall_126 (by decide) (by decide) ?_
                refine tr_aload_n dX12_readCall_128 rfl ?_
                refine q_getI dX12_readCall_129 fl12_99 (kR15 hS1027.1 ta0) c1033 ?_
                refine q_iconst dX12_readCall_132 (by decide) ?_
                intro v1039 h1040
                refine q_icmp_ne 137 dX12_readCall_133 (by decide) (fun h1041 => ?_) (fun h1041 => ?_)
                · skip
                  exfalso; omega
                · skip
                  have eF := hF.eq
                  have eP := hP.eq
                  obtain ⟨v1042, c1043⟩ : ∃ v, I1020 a0 10 = v := ⟨_, rfl⟩
                  have b1044 := iv15_10 hS1027.1 ta0 c1043
                  obtain ⟨v1045, c1046⟩ : ∃ v, I1020 a0 11 = v := ⟨_, rfl⟩
                  obtain ⟨y1047, c1048⟩ : ∃ v, L1022 a0 15 = v := ⟨_, rfl⟩
                  obtain ⟨v1049, c1050⟩ : ∃ v, I1020 a0 12 = v := ⟨_, rfl⟩
                  obtain ⟨v1051, c1052⟩ : ∃ v, I1020 a0 8 = v := ⟨_, rfl⟩
                  have b1053 := iv15_8 hS1027.1 ta0 c1052
                  exact tr_vret hZ dX12_readCall_136 rfl (by decide) (by decide) ⟨rfl, rfl, rfl, rfl, rfl, hS1027, (fun b hb => (Option.some.inj (d2.symm.trans hb)) ▸ ((((((FrM.rf (R := R0) (b := a1) (T := T)).st g79 (by decide +kernel)).st g335 (by decide +kernel)).st g376 (by decide +kernel)).st g1000 (by decide +kernel)).st g1023 (by decide +kernel))), (fun dr hd => (Option.some.inj (d2.symm.trans hd)) ▸ hO1030), (Or.inr (⟨(by (try rw [w129]); first | done | with_reducible assumption | omega), (by (try rw [w129]); (try rw [c1033]); first | done | with_reducible assumption | omega), (by (try rw [w129]); (try rw [c1036]); first | done | with_reducible assumption | omega), (by (try rw [w129]); (try rw [c1038]); first | done | with_reducible assumption | omega), trivial⟩)), trivial⟩
            · skip
              exfalso; omega
          · skip
            replace hF := hF.pos (by omega)
            replace hP := hP.pos (by omega)
            refine tr_aload_n dX12_readCall_55 rfl ?_
            refine q_iconst dX12_readCall_56 (by decide) ?_
            intro v1054 h1055
            refine q_callVv hE (M' := mX12_flaw) (as := [_]) dX12_readCall_57 lk12_145 inX12_flaw seX12_flaw myX12_flaw (by decide) ⟨by decide, by decide⟩ rfl (kR15 hS84.1 ta0) (Nat.le_of_ble_eq_true rfl) rfl rfl (by decide) (by decide) (fk_X12_flaw hS84.1  ta0 (by omega) (by (try rw [c112]); first | done | with_reducible assumption | omega)) ?_
            rintro cn' K' N' I1056 R1057 L1058 ⟨rfl, rfl, rfl, rfl, rfl, g1059, p1062, p1063, p1064, -⟩
            have hM1065 : NmM I1056 R0 L78 a1 gQ := NmM.kpS hM108 g1059 hS84.1 ta1 (by decide +kernel) (by decide +kernel)
            have hS1066 := hS84.tr g1059 (by decide +kernel) (by decide +kernel)
            have c1067 : I1056 a1 5 = v49 := (g1059.cell ta1 (by decide +kernel)).trans c85
            have c1068 : I1056 a0 10 = v114 := (g1059.cell ta0 (by decide +kernel)).trans c115
            have c1069 : I1056 a0 11 = v117 := (g1059.cell ta0 (by decide +kernel)).trans c118
            have c1070 : I1056 a0 12 = v121 := (g1059.cell ta0 (by decide +kernel)).trans c122
            have c1071 : I1056 a0 8 = v123 := (g1059.cell ta0 (by decide +kernel)).trans c124
            have hO1072 : FrO 14 a1 T I0 I1056 := hO86.st g1059 (by decide +kernel)
            obtain ⟨v1073, c1074⟩ : ∃ v, I1056 a0 9 = v := ⟨_, rfl⟩
            have b1075 := iv15_9 hS1066.1 ta0 c1074
            rw [c1074] at p1062
            obtain ⟨v1076, c1077⟩ : ∃ v, I1056 a0 13 = v := ⟨_, rfl⟩
            rw [c1077] at p1063
            obtain ⟨v1078, c1079⟩ : ∃ v, I1056 a0 14 = v := ⟨_, rfl⟩
            rw [c1079] at p1064
            rw [c115] at p1064
            refine tr_aload_n dX12_readCall_60 rfl ?_
            refine q_getI dX12_readCall_61 fl12_99 (kR15 hS1066.1 ta0) c1074 ?_
            refine q_iconst dX12_readCall_64 (by decide) ?_
            intro v1080 h1081
            refine q_icmp_ne 72 dX12_readCall_65 (by decide) (fun h1082 => ?_) (fun h1082 => ?_)
            · skip
              exfalso; omega
            · skip
              refine q_iconst dX12_readCall_68 (by decide) ?_
              intro v1083 h1084
              refine tr_goto 81 dX12_readCall_69 (by decide) ?_
              refine tr_istore_n dX12_readCall_81 (by decide) (by decide) ?_
              refine tr_aload_n dX12_readCall_82 rfl ?_
              refine q_callVv hE (M' := mX12_goesOn) (as := []) dX12_readCall_83 lk12_142 inX12_goesOn seX12_goesOn myX12_goesOn (by decide) ⟨by decide, by decide⟩ rfl (kR15 hS1066.1 ta0) (Nat.le_of_ble_eq_true rfl) rfl rfl (by decide) (by decide) (k_X12_goesOn hS1066.1 ta0) ?_
              rintro cn' K' N' I1085 R1086 L1087 ⟨rfl, rfl, rfl, rfl, g1088, p1090, p1091, p1092, w1093, -⟩
              have hS1094 := hS1066.tr g1088 (by decide +kernel) (by decide +kernel)
              have c1095 : I1085 a1 5 = v49 := (g1088.cell ta1 (by decide +kernel)).trans c1067
              have c1096 : I1085 a0 13 = v1076 := (g1088.cell ta0 (by decide +kernel)).trans c1077
              have c1097 : I1085 a0 14 = v1078 := (g1088.cell ta0 (by decide +kernel)).trans c1079
              obtain ⟨v1098, c1099⟩ : ∃ v, I1085 a0 9 = v := ⟨_, rfl⟩
              have b1100 := iv15_9 hS1094.1 ta0 c1099
              rw [c1074] at p1090
              rw [c1099] at p1090
              rw [c1074] at p1091
              rw [c1099] at p1091
              obtain ⟨v1101, c1102⟩ : ∃ v, I1085 a0 8 = v := ⟨_, rfl⟩
              have b1103 := iv15_8 hS1094.1 ta0 c1102
              rw [c1102] at p1092
              rw [c1071] at p1092
              rw [c1096] at p1092
              rw [c1077] at p1092
              have hO1104 : FrO 14 a1 T I0 I1085 := hO1072.st g1088 (by decide +kernel)
              have ov1105 := w1093.over (by rw [c1074]; omega)
              obtain ⟨v1106, c1107⟩ : ∃ v, I1085 a0 9 = v := ⟨_, rfl⟩
              have b1108 := iv15_9 hS1094.1 ta0 c1107
              obtain ⟨v1109, c1110⟩ : ∃ v, I1085 a0 13 = v := ⟨_, rfl⟩
              obtain ⟨v1111, c1112⟩ : ∃ v, I1085 a0 14 = v := ⟨_, rfl⟩
              (try rw [c1107] at ov1105)
              (try rw [c1110] at ov1105)
              (try rw [c1112] at ov1105)
              (try rw [c1074] at ov1105)
              (try rw [c1077] at ov1105)
              (try rw [c1079] at ov1105)
              refine tr_aload_n dX12_readCall_86 rfl ?_
              refine tr_ldcwS dX12_readCall_87 ld12_352 ?_
              refine q_iconst dX12_readCall_90 (by decide) ?_
              intro v1113 h1114
              refine tr_aload_n dX12_readCall_91 rfl ?_
              refine tr_getR dX12_readCall_92 fl12_188 (kR15 hS1094.1 ta0) d2 ?_
              refine q_getI dX12_readCall_95 fl12_192 (kR14 hS1094.1 ta1) ((hS1094.cell ta1 (by decide +kernel)).trans c30) ?_
              refine q_iconst dX12_readCall_98 (by decide) ?_
              intro v1115 h1116
              refine q_isubE dX12_readCall_99 (by intros; omega) ?_
              intro v1117 h1118
              refine q_callVi hE (M' := mX12_readPart) (as := [_, _, _]) dX12_readCall_100 lk12_249 inX12_readPart seX12_readPart myX12_readPart (by decide) ⟨by decide, by decide⟩ rfl (kR15 hS1094.1 ta0) (Nat.le_of_ble_eq_true rfl) rfl rfl (by decide) (by decide) (k_X12_readPart hS1094.1 ta0 (by decide)) ?_
              rintro v1123 cn' K' N' I1119 R1120 L1121 ⟨rfl, rfl, rfl, rfl, g1122, p1124, w1125, -⟩
              have hS1126 := hS1094.tr g1122 (by decide +kernel) (by decide +kernel)
              have c1127 : I1119 a1 5 = v49 := (g1122.cell ta1 (by decide +kernel)).trans c1095
              have b1128 : 0 ≤ v1123.toInt ∧ v1123.toInt ≤ 239 := by omega
              clear p1124
              have hO1129 : FrO 14 a1 T I0 I1119 := hO1104.st g1122 (by decide +kernel)
              have ov1130 := w1125.over (by rw [c1107]; omega)
              obtain ⟨v1131, c1132⟩ : ∃ v, I1119 a0 9 = v := ⟨_, rfl⟩
              have b1133 := iv15_9 hS1126.1 ta0 c1132
              obtain ⟨v1134, c1135⟩ : ∃ v, I1119 a0 13 = v := ⟨_, rfl⟩
              obtain ⟨v1136, c1137⟩ : ∃ v, I1119 a0 14 = v := ⟨_, rfl⟩
              (try rw [c1132] at ov1130)
              (try rw [c1135] at ov1130)
              (try rw [c1137] at ov1130)
              (try rw [c1107] at ov1130)
              (try rw [c1110] at ov1130)
              (try rw [c1112] at ov1130)
              refine tr_istore_n dX12_readCall_103 (by decide) (by decide) ?_
              refine tr_aload_n dX12_readCall_104 rfl ?_
              refine tr_ldcwS dX12_readCall_105 ld12_354 ?_
              refine q_iconst dX12_readCall_108 (by decide) ?_
              intro v1138 h1139
              refine q_bipush dX12_readCall_109 (by decide +kernel) ?_
              intro v1140 h1141
              refine q_callVi hE (M' := mX12_readPart) (as := [_, _, _]) dX12_readCall_111 lk12_249 inX12_readPart seX12_readPart myX12_readPart (by decide) ⟨by decide, by decide⟩ rfl (kR15 hS1126.1 ta0) (Nat.le_of_ble_eq_true rfl) rfl rfl (by decide) (by decide) (k_X12_readPart hS1126.1 ta0 (by decide)) ?_
              rintro v1146 cn' K' N' I1142 R1143 L1144 ⟨rfl, rfl, rfl, rfl, g1145, p1147, w1148, -⟩
              have hS1149 := hS1126.tr g1145 (by decide +kernel) (by decide +kernel)
              have c1150 : I1142 a1 5 = v49 := (g1145.cell ta1 (by decide +kernel)).trans c1127
              have b1151 : 1 ≤ v1146.toInt ∧ v1146.toInt ≤ 60 := by omega
              clear p1147
              have hO1152 : FrO 14 a1 T I0 I1142 := hO1129.st g1145 (by decide +kernel)
              have ov1153 := w1148.over (by rw [c1132]; omega)
              obtain ⟨v1154, c1155⟩ : ∃ v, I1142 a0 9 = v := ⟨_, rfl⟩
              have b1156 := iv15_9 hS1149.1 ta0 c1155
              obtain ⟨v1157, c1158⟩ : ∃ v, I1142 a0 13 = v := ⟨_, rfl⟩
              obtain ⟨v1159, c1160⟩ : ∃ v, I1142 a0 14 = v := ⟨_, rfl⟩
              (try rw [c1155] at ov1153)
              (try rw [c1158] at ov1153)
              (try rw [c1160] at ov1153)
              (try rw [c1132] at ov1153)
              (try rw [c1135] at ov1153)
              (try rw [c1137] at ov1153)
              refine tr_istore dX12_readCall_114 (by decide) (by decide) ?_
              refine tr_aload_n dX12_readCall_116 rfl ?_
              refine tr_ldcwS dX12_readCall_117 ld12_356 ?_
              refine q_iconst dX12_readCall_120 (by decide) ?_
              intro v1161 h1162
              refine q_bipush dX12_readCall_121 (by decide +kernel) ?_
              intro v1163 h1164
              refine q_callVi hE (M' := mX12_readPart) (as := [_, _, _]) dX12_readCall_123 lk12_249 inX12_readPart seX12_readPart myX12_readPart (by decide) ⟨by decide, by decide⟩ rfl (kR15 hS1149.1 ta0) (Nat.le_of_ble_eq_true rfl) rfl rfl (by decide) (by decide) (k_X12_readPart hS1149.1 ta0 (by decide)) ?_
              rintro v1169 cn' K' N' I1165 R1166 L1167 ⟨rfl, rfl, rfl, rfl, g1168, p1170, w1171, -⟩
              have hS1172 := hS1149.tr g1168 (by decide +kernel) (by decide +kernel)
              have c1173 : I1165 a1 5 = v49 := (g1168.cell ta1 (by decide +kernel)).trans c1150
              have b1174 : 0 ≤ v1169.toInt ∧ v1169.toInt ≤ 99 := by omega
              clear p1170
              have hO1175 : FrO 14 a1 T I0 I1165 := hO1152.st g1168 (by decide +kernel)
              have ov1176 := w1171.over (by rw [c1155]; omega)
              obtain ⟨v1177, c1178⟩ : ∃ v, I1165 a0 9 = v := ⟨_, rfl⟩
              have b1179 := iv15_9 hS1172.1 ta0 c1178
              obtain ⟨v1180, c1181⟩ : ∃ v, I1165 a0 13 = v := ⟨_, rfl⟩
              obtain ⟨v1182, c1183⟩ : ∃ v, I1165 a0 14 = v := ⟨_, rfl⟩
              (try rw [c1178] at ov1176)
              (try rw [c1181] at ov1176)
              (try rw [c1183] at ov1176)
              (try rw [c1155] at ov1176)
              (try rw [c1158] at ov1176)
              (try rw [c1160] at ov1176)
              refine tr_istore dX12_readCall_126 (by decide) (by decide) ?_
              refine tr_aload_n dX12_readCall_128 rfl ?_
              refine q_getI dX12_readCall_129 fl12_99 (kR15 hS1172.1 ta0) c1178 ?_
              refine q_iconst dX12_readCall_132 (by decide) ?_
              intro v1184 h1185
              refine q_icmp_ne 137 dX12_readCall_133 (by decide) (fun h1186 => ?_) (fun h1186 => ?_)
              · skip
                exfalso; omega
              · skip
                have eF := hF.eq
                have eP := hP.eq
                obtain ⟨v1187, c1188⟩ : ∃ v, I1165 a0 10 = v := ⟨_, rfl⟩
                have b1189 := iv15_10 hS1172.1 ta0 c1188
                obtain ⟨v1190, c1191⟩ : ∃ v, I1165 a0 11 = v := ⟨_, rfl⟩
                obtain ⟨y1192, c1193⟩ : ∃ v, L1167 a0 15 = v := ⟨_, rfl⟩
                obtain ⟨v1194, c1195⟩ : ∃ v, I1165 a0 12 = v := ⟨_, rfl⟩
                obtain ⟨v1196, c1197⟩ : ∃ v, I1165 a0 8 = v := ⟨_, rfl⟩
                have b1198 := iv15_8 hS1172.1 ta0 c1197
                exact tr_vret hZ dX12_readCall_136 rfl (by decide) (by decide) ⟨rfl, rfl, rfl, rfl, rfl, hS1172, (fun b hb => (Option.some.inj (d2.symm.trans hb)) ▸ (((((((FrM.rf (R := R0) (b := a1) (T := T)).st g79 (by decide +kernel)).st g1059 (by decide +kernel)).st g1088 (by decide +kernel)).st g1122 (by decide +kernel)).st g1145 (by decide +kernel)).st g1168 (by decide +kernel))), (fun dr hd => (Option.some.inj (d2.symm.trans hd)) ▸ hO1175), (Or.inr (⟨(by (try rw [w129]); first | done | with_reducible assumption | omega), (by (try rw [w129]); (try rw [c1178]); first | done | with_reducible assumption | omega), (by (try rw [w129]); (try rw [c1181]); first | done | with_reducible assumption | omega), (by (try rw [w129]); (try rw [c1183]); first | done | with_reducible assumption | omega), trivial⟩)), trivial⟩
      · skip
        exfalso; omega
    · skip
      replace hF := hF.pos (by omega)
      replace hP := hP.pos (by omega)
      refine q_if_ne 25 dX12_readCall_17 (by decide) (fun h1199 => ?_) (fun h1199 => ?_)
      · skip
        exfalso; omega
      · skip
        refine tr_aload_n dX12_readCall_20 rfl ?_
        refine q_iconst dX12_readCall_21 (by decide) ?_
        intro v1200 h1201
        refine q_callVv hE (M' := mX12_flaw) (as := [_]) dX12_readCall_22 lk12_145 inX12_flaw seX12_flaw myX12_flaw (by decide) ⟨by decide, by decide⟩ rfl (kR15 hS84.1 ta0) (Nat.le_of_ble_eq_true rfl) rfl rfl (by decide) (by decide) (fk_X12_flaw hS84.1  ta0 (by omega) (by (try rw [c112]); first | done | with_reducible assumption | omega)) ?_
        rintro cn' K' N' I1202 R1203 L1204 ⟨rfl, rfl, rfl, rfl, rfl, g1205, p1208, p1209, p1210, -⟩
        have hM1211 : NmM I1202 R0 L78 a1 gQ := NmM.kpS hM108 g1205 hS84.1 ta1 (by decide +kernel) (by decide +kernel)
        have hS1212 := hS84.tr g1205 (by decide +kernel) (by decide +kernel)
        have c1213 : I1202 a1 5 = v49 := (g1205.cell ta1 (by decide +kernel)).trans c85
        have c1214 : I1202 a0 10 = v114 := (g1205.cell ta0 (by decide +kernel)).trans c115
        have c1215 : I1202 a0 11 = v117 := (g1205.cell ta0 (by decide +kernel)).trans c118
        have c1216 : I1202 a0 12 = v121 := (g1205.cell ta0 (by decide +kernel)).trans c122
        have c1217 : I1202 a0 8 = v123 := (g1205.cell ta0 (by decide +kernel)).trans c124
        have hO1218 : FrO 14 a1 T I0 I1202 := hO86.st g1205 (by decide +kernel)
        obtain ⟨v1219, c1220⟩ : ∃ v, I1202 a0 9 = v := ⟨_, rfl⟩
        have b1221 := iv15_9 hS1212.1 ta0 c1220
        rw [c1220] at p1208
        obtain ⟨v1222, c1223⟩ : ∃ v, I1202 a0 13 = v := ⟨_, rfl⟩
        rw [c1223] at p1209
        obtain ⟨v1224, c1225⟩ : ∃ v, I1202 a0 14 = v := ⟨_, rfl⟩
        rw [c1225] at p1210
        rw [c115] at p1210
        refine tr_aload_n dX12_readCall_25 rfl ?_
        refine tr_getR dX12_readCall_26 fl12_188 (kR15 hS1212.1 ta0) d2 ?_
        refine tr_aload_n dX12_readCall_29 rfl ?_
        refine q_getLE dX12_readCall_30 fl12_118 (kR15 hS1212.1 ta0) c120 ?_
        refine q_callVi hE (M' := mX11_find) (as := [_]) dX12_readCall_33 lk12_201 inX11_find seX11_find myX11_find (by decide) ⟨by decide, by decide⟩ rfl (kR14 hS1212.1 ta1) (Nat.le_of_ble_eq_true rfl) rfl rfl (by decide) (by decide) (k_X11_find hS1212.1 ta1) ?_
        rintro v1230 cn' K' N' I1226 R1227 L1228 ⟨rfl, rfl, rfl, rfl, rfl, rfl, h1231, -⟩
        refine tr_istore_n dX12_readCall_36 (by decide) (by decide) ?_
        refine tr_iload_n dX12_readCall_37 rfl ?_
        refine q_iconst dX12_readCall_38 (by decide) ?_
        intro v1232 h1233
        refine q_icmp_eq 55 dX12_readCall_39 (by decide) (fun h1234 => ?_) (fun h1234 => ?_)
        · skip
          refine tr_aload_n dX12_readCall_55 rfl ?_
          refine q_iconst dX12_readCall_56 (by decide) ?_
          intro v1235 h1236
          refine q_callVv hE (M' := mX12_flaw) (as := [_]) dX12_readCall_57 lk12_145 inX12_flaw seX12_flaw myX12_flaw (by decide) ⟨by decide, by decide⟩ rfl (kR15 hS1212.1 ta0) (Nat.le_of_ble_eq_true rfl) rfl rfl (by decide) (by decide) (k_X12_flaw hS1212.1 ta0 (by omega)) ?_
          rintro cn' K' N' I1237 R1238 L1239 ⟨rfl, rfl, rfl, rfl, rfl, g1240, p1242, p1243, w1244, -⟩
          have hS1245 := hS1212.tr g1240 (by decide +kernel) (by decide +kernel)
          have c1246 : I1237 a1 5 = v49 := (g1240.cell ta1 (by decide +kernel)).trans c1213
          have c1247 : I1237 a0 10 = v114 := (g1240.cell ta0 (by decide +kernel)).trans c1214
          have c1248 : I1237 a0 11 = v117 := (g1240.cell ta0 (by decide +kernel)).trans c1215
          have c1249 : I1237 a0 12 = v121 := (g1240.cell ta0 (by decide +kernel)).trans c1216
          have c1250 : I1237 a0 8 = v123 := (g1240.cell ta0 (by decide +kernel)).trans c1217
          obtain ⟨v1251, c1252⟩ : ∃ v, I1237 a0 9 = v := ⟨_, rfl⟩
          have b1253 := iv15_9 hS1245.1 ta0 c1252
          rw [c1252] at p1242
          rw [c1250] at p1243
          rw [c1217] at p1243
          have hO1254 : FrO 14 a1 T I0 I1237 := hO1218.st g1240 (by decide +kernel)
          have ov1255 := w1244.over (by rw [c1220]; omega)
          obtain ⟨v1256, c1257⟩ : ∃ v, I1237 a0 9 = v := ⟨_, rfl⟩
          have b1258 := iv15_9 hS1245.1 ta0 c1257
          obtain ⟨v1259, c1260⟩ : ∃ v, I1237 a0 13 = v := ⟨_, rfl⟩
          obtain ⟨v1261, c1262⟩ : ∃ v, I1237 a0 14 = v := ⟨_, rfl⟩
          (try rw [c1257] at ov1255)
          (try rw [c1260] at ov1255)
          (try rw [c1262] at ov1255)
          (try rw [c1220] at ov1255)
          (try rw [c1223] at ov1255)
          (try rw [c1225] at ov1255)
          refine tr_aload_n dX12_readCall_60 rfl ?_
          refine q_getI dX12_readCall_61 fl12_99 (kR15 hS1245.1 ta0) c1257 ?_
          refine q_iconst dX12_readCall_64 (by decide) ?_
          intro v1263 h1264
          refine q_icmp_ne 72 dX12_readCall_65 (by decide) (fun h1265 => ?_) (fun h1265 => ?_)
          · skip
            exfalso; omega
          · skip
            refine q_iconst dX12_readCall_68 (by decide) ?_
            intro v1266 h1267
            refine tr_goto 81 dX12_readCall_69 (by decide) ?_
            refine tr_istore_n dX12_readCall_81 (by decide) (by decide) ?_
            refine tr_aload_n dX12_readCall_82 rfl ?_
            refine q_callVv hE (M' := mX12_goesOn) (as := []) dX12_readCall_83 lk12_142 inX12_goesOn seX12_goesOn myX12_goesOn (by decide) ⟨by decide, by decide⟩ rfl (kR15 hS1245.1 ta0) (Nat.le_of_ble_eq_true rfl) rfl rfl (by decide) (by decide) (k_X12_goesOn hS1245.1 ta0) ?_
            rintro cn' K' N' I1268 R1269 L1270 ⟨rfl, rfl, rfl, rfl, g1271, p1273, p1274, p1275, w1276, -⟩
            have hS1277 := hS1245.tr g1271 (by decide +kernel) (by decide +kernel)
            have c1278 : I1268 a1 5 = v49 := (g1271.cell ta1 (by decide +kernel)).trans c1246
            have c1279 : I1268 a0 13 = v1259 := (g1271.cell ta0 (by decide +kernel)).trans c1260
            have c1280 : I1268 a0 14 = v1261 := (g1271.cell ta0 (by decide +kernel)).trans c1262
            obtain ⟨v1281, c1282⟩ : ∃ v, I1268 a0 9 = v := ⟨_, rfl⟩
            have b1283 := iv15_9 hS1277.1 ta0 c1282
            rw [c1257] at p1273
            rw [c1282] at p1273
            rw [c1257] at p1274
            rw [c1282] at p1274
            obtain ⟨v1284, c1285⟩ : ∃ v, I1268 a0 8 = v := ⟨_, rfl⟩
            have b1286 := iv15_8 hS1277.1 ta0 c1285
            rw [c1285] at p1275
            rw [c1250] at p1275
            rw [c1279] at p1275
            rw [c1260] at p1275
            have hO1287 : FrO 14 a1 T I0 I1268 := hO1254.st g1271 (by decide +kernel)
            have ov1288 := w1276.over (by rw [c1257]; omega)
            obtain ⟨v1289, c1290⟩ : ∃ v, I1268 a0 9 = v := ⟨_, rfl⟩
            have b1291 := iv15_9 hS1277.1 ta0 c1290
            obtain ⟨v1292, c1293⟩ : ∃ v, I1268 a0 13 = v := ⟨_, rfl⟩
            obtain ⟨v1294, c1295⟩ : ∃ v, I1268 a0 14 = v := ⟨_, rfl⟩
            (try rw [c1290] at ov1288)
            (try rw [c1293] at ov1288)
            (try rw [c1295] at ov1288)
            (try rw [c1257] at ov1288)
            (try rw [c1260] at ov1288)
            (try rw [c1262] at ov1288)
            refine tr_aload_n dX12_readCall_86 rfl ?_
            refine tr_ldcwS dX12_readCall_87 ld12_352 ?_
            refine q_iconst dX12_readCall_90 (by decide) ?_
            intro v1296 h1297
            refine tr_aload_n dX12_readCall_91 rfl ?_
            refine tr_getR dX12_readCall_92 fl12_188 (kR15 hS1277.1 ta0) d2 ?_
            refine q_getI dX12_readCall_95 fl12_192 (kR14 hS1277.1 ta1) ((hS1277.cell ta1 (by decide +kernel)).trans c30) ?_
            refine q_iconst dX12_readCall_98 (by decide) ?_
            intro v1298 h1299
            refine q_isubE dX12_readCall_99 (by intros; omega) ?_
            intro v1300 h1301
            refine q_callVi hE (M' := mX12_readPart) (as := [_, _, _]) dX12_readCall_100 lk12_249 inX12_readPart seX12_readPart myX12_readPart (by decide) ⟨by decide, by decide⟩ rfl (kR15 hS1277.1 ta0) (Nat.le_of_ble_eq_true rfl) rfl rfl (by decide) (by decide) (k_X12_readPart hS1277.1 ta0 (by decide)) ?_
            rintro v1306 cn' K' N' I1302 R1303 L1304 ⟨rfl, rfl, rfl, rfl, g1305, p1307, w1308, -⟩
            have hS1309 := hS1277.tr g1305 (by decide +kernel) (by decide +kernel)
            have c1310 : I1302 a1 5 = v49 := (g1305.cell ta1 (by decide +kernel)).trans c1278
            have b1311 : 0 ≤ v1306.toInt ∧ v1306.toInt ≤ 239 := by omega
            clear p1307
            have hO1312 : FrO 14 a1 T I0 I1302 := hO1287.st g1305 (by decide +kernel)
            have ov1313 := w1308.over (by rw [c1290]; omega)
            obtain ⟨v1314, c1315⟩ : ∃ v, I1302 a0 9 = v := ⟨_, rfl⟩
            have b1316 := iv15_9 hS1309.1 ta0 c1315
            obtain ⟨v1317, c1318⟩ : ∃ v, I1302 a0 13 = v := ⟨_, rfl⟩
            obtain ⟨v1319, c1320⟩ : ∃ v, I1302 a0 14 = v := ⟨_, rfl⟩
            (try rw [c1315] at ov1313)
            (try rw [c1318] at ov1313)
            (try rw [c1320] at ov1313)
            (try rw [c1290] at ov1313)
            (try rw [c1293] at ov1313)
            (try rw [c1295] at ov1313)
            refine tr_istore_n dX12_readCall_103 (by decide) (by decide) ?_
            refine tr_aload_n dX12_readCall_104 rfl ?_
            refine tr_ldcwS dX12_readCall_105 ld12_354 ?_
            refine q_iconst dX12_readCall_108 (by decide) ?_
            intro v1321 h1322
            refine q_bipush dX12_readCall_109 (by decide +kernel) ?_
            intro v1323 h1324
            refine q_callVi hE (M' := mX12_readPart) (as := [_, _, _]) dX12_readCall_111 lk12_249 inX12_readPart seX12_readPart myX12_readPart (by decide) ⟨by decide, by decide⟩ rfl (kR15 hS1309.1 ta0) (Nat.le_of_ble_eq_true rfl) rfl rfl (by decide) (by decide) (k_X12_readPart hS1309.1 ta0 (by decide)) ?_
            rintro v1329 cn' K' N' I1325 R1326 L1327 ⟨rfl, rfl, rfl, rfl, g1328, p1330, w1331, -⟩
            have hS1332 := hS1309.tr g1328 (by decide +kernel) (by decide +kernel)
            have c1333 : I1325 a1 5 = v49 := (g1328.cell ta1 (by decide +kernel)).trans c1310
            have b1334 : 1 ≤ v1329.toInt ∧ v1329.toInt ≤ 60 := by omega
            clear p1330
            have hO1335 : FrO 14 a1 T I0 I1325 := hO1312.st g1328 (by decide +kernel)
            have ov1336 := w1331.over (by rw [c1315]; omega)
            obtain ⟨v1337, c1338⟩ : ∃ v, I1325 a0 9 = v := ⟨_, rfl⟩
            have b1339 := iv15_9 hS1332.1 ta0 c1338
            obtain ⟨v1340, c1341⟩ : ∃ v, I1325 a0 13 = v := ⟨_, rfl⟩
            obtain ⟨v1342, c1343⟩ : ∃ v, I1325 a0 14 = v := ⟨_, rfl⟩
            (try rw [c1338] at ov1336)
            (try rw [c1341] at ov1336)
            (try rw [c1343] at ov1336)
            (try rw [c1315] at ov1336)
            (try rw [c1318] at ov1336)
            (try rw [c1320] at ov1336)
            refine tr_istore dX12_readCall_114 (by decide) (by decide) ?_
            refine tr_aload_n dX12_readCall_116 rfl ?_
            refine tr_ldcwS dX12_readCall_117 ld12_356 ?_
            refine q_iconst dX12_readCall_120 (by decide) ?_
            intro v1344 h1345
            refine q_bipush dX12_readCall_121 (by decide +kernel) ?_
            intro v1346 h1347
            refine q_callVi hE (M' := mX12_readPart) (as := [_, _, _]) dX12_readCall_123 lk12_249 inX12_readPart seX12_readPart myX12_readPart (by decide) ⟨by decide, by decide⟩ rfl (kR15 hS1332.1 ta0) (Nat.le_of_ble_eq_true rfl) rfl rfl (by decide) (by decide) (k_X12_readPart hS1332.1 ta0 (by decide)) ?_
            rintro v1352 cn' K' N' I1348 R1349 L1350 ⟨rfl, rfl, rfl, rfl, g1351, p1353, w1354, -⟩
            have hS1355 := hS1332.tr g1351 (by decide +kernel) (by decide +kernel)
            have c1356 : I1348 a1 5 = v49 := (g1351.cell ta1 (by decide +kernel)).trans c1333
            have b1357 : 0 ≤ v1352.toInt ∧ v1352.toInt ≤ 99 := by omega
            clear p1353
            have hO1358 : FrO 14 a1 T I0 I1348 := hO1335.st g1351 (by decide +kernel)
            have ov1359 := w1354.over (by rw [c1338]; omega)
            obtain ⟨v1360, c1361⟩ : ∃ v, I1348 a0 9 = v := ⟨_, rfl⟩
            have b1362 := iv15_9 hS1355.1 ta0 c1361
            obtain ⟨v1363, c1364⟩ : ∃ v, I1348 a0 13 = v := ⟨_, rfl⟩
            obtain ⟨v1365, c1366⟩ : ∃ v, I1348 a0 14 = v := ⟨_, rfl⟩
            (try rw [c1361] at ov1359)
            (try rw [c1364] at ov1359)
            (try rw [c1366] at ov1359)
            (try rw [c1338] at ov1359)
            (try rw [c1341] at ov1359)
            (try rw [c1343] at ov1359)
            refine tr_istore dX12_readCall_126 (by decide) (by decide) ?_
            refine tr_aload_n dX12_readCall_128 rfl ?_
            refine q_getI dX12_readCall_129 fl12_99 (kR15 hS1355.1 ta0) c1361 ?_
            refine q_iconst dX12_readCall_132 (by decide) ?_
            intro v1367 h1368
            refine q_icmp_ne 137 dX12_readCall_133 (by decide) (fun h1369 => ?_) (fun h1369 => ?_)
            · skip
              exfalso; omega
            · skip
              have eF := hF.eq
              have eP := hP.eq
              obtain ⟨v1370, c1371⟩ : ∃ v, I1348 a0 10 = v := ⟨_, rfl⟩
              have b1372 := iv15_10 hS1355.1 ta0 c1371
              obtain ⟨v1373, c1374⟩ : ∃ v, I1348 a0 11 = v := ⟨_, rfl⟩
              obtain ⟨y1375, c1376⟩ : ∃ v, L1350 a0 15 = v := ⟨_, rfl⟩
              obtain ⟨v1377, c1378⟩ : ∃ v, I1348 a0 12 = v := ⟨_, rfl⟩
              obtain ⟨v1379, c1380⟩ : ∃ v, I1348 a0 8 = v := ⟨_, rfl⟩
              have b1381 := iv15_8 hS1355.1 ta0 c1380
              exact tr_vret hZ dX12_readCall_136 rfl (by decide) (by decide) ⟨rfl, rfl, rfl, rfl, rfl, hS1355, (fun b hb => (Option.some.inj (d2.symm.trans hb)) ▸ ((((((((FrM.rf (R := R0) (b := a1) (T := T)).st g79 (by decide +kernel)).st g1205 (by decide +kernel)).st g1240 (by decide +kernel)).st g1271 (by decide +kernel)).st g1305 (by decide +kernel)).st g1328 (by decide +kernel)).st g1351 (by decide +kernel))), (fun dr hd => (Option.some.inj (d2.symm.trans hd)) ▸ hO1358), (Or.inr (⟨(by (try rw [w129]); first | done | with_reducible assumption | omega), (by (try rw [w129]); (try rw [c1361]); first | done | with_reducible assumption | omega), (by (try rw [w129]); (try rw [c1364]); first | done | with_reducible assumption | omega), (by (try rw [w129]); (try rw [c1366]); first | done | with_reducible assumption | omega), trivial⟩)), trivial⟩
        · skip
          refine tr_aload_n dX12_readCall_42 rfl ?_
          refine tr_getR dX12_readCall_43 fl12_188 (kR15 hS1212.1 ta0) d2 ?_
          obtain ⟨a1382, d1383, ta1382⟩ := rf14_31 hW0 ta1
          refine tr_getR dX12_readCall_46 fl12_212 (kR14 hS1212.1 ta1) d1383 ?_
          refine tr_iload_n dX12_readCall_49 rfl ?_
          refine q_iald dX12_readCall_50 (kR74 hS1212.1 ta1382) (ti_in (nR74 hS1212.1 ta1382) (by omega) (by omega)) ?_
          intro v1384 c1385
          refine q_iconst dX12_readCall_51 (by decide) ?_
          intro v1386 h1387
          refine q_icmp_eq 60 dX12_readCall_52 (by decide) (fun h1388 => ?_) (fun h1388 => ?_)
          · skip
            refine tr_aload_n dX12_readCall_60 rfl ?_
            refine q_getI dX12_readCall_61 fl12_99 (kR15 hS1212.1 ta0) c1220 ?_
            refine q_iconst dX12_readCall_64 (by decide) ?_
            intro v1389 h1390
            refine q_icmp_ne 72 dX12_readCall_65 (by decide) (fun h1391 => ?_) (fun h1391 => ?_)
            · skip
              exfalso; omega
            · skip
              refine q_iconst dX12_readCall_68 (by decide) ?_
              intro v1392 h1393
              refine tr_goto 81 dX12_readCall_69 (by decide) ?_
              refine tr_istore_n dX12_readCall_81 (by decide) (by decide) ?_
              refine tr_aload_n dX12_readCall_82 rfl ?_
              refine q_callVv hE (M' := mX12_goesOn) (as := []) dX12_readCall_83 lk12_142 inX12_goesOn seX12_goesOn myX12_goesOn (by decide) ⟨by decide, by decide⟩ rfl (kR15 hS1212.1 ta0) (Nat.le_of_ble_eq_true rfl) rfl rfl (by decide) (by decide) (k_X12_goesOn hS1212.1 ta0) ?_
              rintro cn' K' N' I1394 R1395 L1396 ⟨rfl, rfl, rfl, rfl, g1397, p1399, p1400, p1401, w1402, -⟩
              have hS1403 := hS1212.tr g1397 (by decide +kernel) (by decide +kernel)
              have c1404 : I1394 a1 5 = v49 := (g1397.cell ta1 (by decide +kernel)).trans c1213
              have c1405 : I1394 a0 13 = v1222 := (g1397.cell ta0 (by decide +kernel)).trans c1223
              have c1406 : I1394 a0 14 = v1224 := (g1397.cell ta0 (by decide +kernel)).trans c1225
              obtain ⟨v1407, c1408⟩ : ∃ v, I1394 a0 9 = v := ⟨_, rfl⟩
              have b1409 := iv15_9 hS1403.1 ta0 c1408
              rw [c1220] at p1399
              rw [c1408] at p1399
              rw [c1220] at p1400
              rw [c1408] at p1400
              obtain ⟨v1410, c1411⟩ : ∃ v, I1394 a0 8 = v := ⟨_, rfl⟩
              have b1412 := iv15_8 hS1403.1 ta0 c1411
              rw [c1411] at p1401
              rw [c1217] at p1401
              rw [c1405] at p1401
              rw [c1223] at p1401
              have hO1413 : FrO 14 a1 T I0 I1394 := hO1218.st g1397 (by decide +kernel)
              have ov1414 := w1402.over (by rw [c1220]; omega)
              obtain ⟨v1415, c1416⟩ : ∃ v, I1394 a0 9 = v := ⟨_, rfl⟩
              have b1417 := iv15_9 hS1403.1 ta0 c1416
              obtain ⟨v1418, c1419⟩ : ∃ v, I1394 a0 13 = v := ⟨_, rfl⟩
              obtain ⟨v1420, c1421⟩ : ∃ v, I1394 a0 14 = v := ⟨_, rfl⟩
              (try rw [c1416] at ov1414)
              (try rw [c1419] at ov1414)
              (try rw [c1421] at ov1414)
              (try rw [c1220] at ov1414)
              (try rw [c1223] at ov1414)
              (try rw [c1225] at ov1414)
              refine tr_aload_n dX12_readCall_86 rfl ?_
              refine tr_ldcwS dX12_readCall_87 ld12_352 ?_
              refine q_iconst dX12_readCall_90 (by decide) ?_
              intro v1422 h1423
              refine tr_aload_n dX12_readCall_91 rfl ?_
              refine tr_getR dX12_readCall_92 fl12_188 (kR15 hS1403.1 ta0) d2 ?_
              refine q_getI dX12_readCall_95 fl12_192 (kR14 hS1403.1 ta1) ((hS1403.cell ta1 (by decide +kernel)).trans c30) ?_
              refine q_iconst dX12_readCall_98 (by decide) ?_
              intro v1424 h1425
              refine q_isubE dX12_readCall_99 (by intros; omega) ?_
              intro v1426 h1427
              refine q_callVi hE (M' := mX12_readPart) (as := [_, _, _]) dX12_readCall_100 lk12_249 inX12_readPart seX12_readPart myX12_readPart (by decide) ⟨by decide, by decide⟩ rfl (kR15 hS1403.1 ta0) (Nat.le_of_ble_eq_true rfl) rfl rfl (by decide) (by decide) (k_X12_readPart hS1403.1 ta0 (by decide)) ?_
              rintro v1432 cn' K' N' I1428 R1429 L1430 ⟨rfl, rfl, rfl, rfl, g1431, p1433, w1434, -⟩
              have hS1435 := hS1403.tr g1431 (by decide +kernel) (by decide +kernel)
              have c1436 : I1428 a1 5 = v49 := (g1431.cell ta1 (by decide +kernel)).trans c1404
              have b1437 : 0 ≤ v1432.toInt ∧ v1432.toInt ≤ 239 := by omega
              clear p1433
              have hO1438 : FrO 14 a1 T I0 I1428 := hO1413.st g1431 (by decide +kernel)
              have ov1439 := w1434.over (by rw [c1416]; omega)
              obtain ⟨v1440, c1441⟩ : ∃ v, I1428 a0 9 = v := ⟨_, rfl⟩
              have b1442 := iv15_9 hS1435.1 ta0 c1441
              obtain ⟨v1443, c1444⟩ : ∃ v, I1428 a0 13 = v := ⟨_, rfl⟩
              obtain ⟨v1445, c1446⟩ : ∃ v, I1428 a0 14 = v := ⟨_, rfl⟩
              (try rw [c1441] at ov1439)
              (try rw [c1444] at ov1439)
              (try rw [c1446] at ov1439)
              (try rw [c1416] at ov1439)
              (try rw [c1419] at ov1439)
              (try rw [c1421] at ov1439)
              refine tr_istore_n dX12_readCall_103 (by decide) (by decide) ?_
              refine tr_aload_n dX12_readCall_104 rfl ?_
              refine tr_ldcwS dX12_readCall_105 ld12_354 ?_
              refine q_iconst dX12_readCall_108 (by decide) ?_
              intro v1447 h1448
              refine q_bipush dX12_readCall_109 (by decide +kernel) ?_
              intro v1449 h1450
              refine q_callVi hE (M' := mX12_readPart) (as := [_, _, _]) dX12_readCall_111 lk12_249 inX12_readPart seX12_readPart myX12_readPart (by decide) ⟨by decide, by decide⟩ rfl (kR15 hS1435.1 ta0) (Nat.le_of_ble_eq_true rfl) rfl rfl (by decide) (by decide) (k_X12_readPart hS1435.1 ta0 (by decide)) ?_
              rintro v1455 cn' K' N' I1451 R1452 L1453 ⟨rfl, rfl, rfl, rfl, g1454, p1456, w1457, -⟩
              have hS1458 := hS1435.tr g1454 (by decide +kernel) (by decide +kernel)
              have c1459 : I1451 a1 5 = v49 := (g1454.cell ta1 (by decide +kernel)).trans c1436
              have b1460 : 1 ≤ v1455.toInt ∧ v1455.toInt ≤ 60 := by omega
              clear p1456
              have hO1461 : FrO 14 a1 T I0 I1451 := hO1438.st g1454 (by decide +kernel)
              have ov1462 := w1457.over (by rw [c1441]; omega)
              obtain ⟨v1463, c1464⟩ : ∃ v, I1451 a0 9 = v := ⟨_, rfl⟩
              have b1465 := iv15_9 hS1458.1 ta0 c1464
              obtain ⟨v1466, c1467⟩ : ∃ v, I1451 a0 13 = v := ⟨_, rfl⟩
              obtain ⟨v1468, c1469⟩ : ∃ v, I1451 a0 14 = v := ⟨_, rfl⟩
              (try rw [c1464] at ov1462)
              (try rw [c1467] at ov1462)
              (try rw [c1469] at ov1462)
              (try rw [c1441] at ov1462)
              (try rw [c1444] at ov1462)
              (try rw [c1446] at ov1462)
              refine tr_istore dX12_readCall_114 (by decide) (by decide) ?_
              refine tr_aload_n dX12_readCall_116 rfl ?_
              refine tr_ldcwS dX12_readCall_117 ld12_356 ?_
              refine q_iconst dX12_readCall_120 (by decide) ?_
              intro v1470 h1471
              refine q_bipush dX12_readCall_121 (by decide +kernel) ?_
              intro v1472 h1473
              refine q_callVi hE (M' := mX12_readPart) (as := [_, _, _]) dX12_readCall_123 lk12_249 inX12_readPart seX12_readPart myX12_readPart (by decide) ⟨by decide, by decide⟩ rfl (kR15 hS1458.1 ta0) (Nat.le_of_ble_eq_true rfl) rfl rfl (by decide) (by decide) (k_X12_readPart hS1458.1 ta0 (by decide)) ?_
              rintro v1478 cn' K' N' I1474 R1475 L1476 ⟨rfl, rfl, rfl, rfl, g1477, p1479, w1480, -⟩
              have hS1481 := hS1458.tr g1477 (by decide +kernel) (by decide +kernel)
              have c1482 : I1474 a1 5 = v49 := (g1477.cell ta1 (by decide +kernel)).trans c1459
              have b1483 : 0 ≤ v1478.toInt ∧ v1478.toInt ≤ 99 := by omega
              clear p1479
              have hO1484 : FrO 14 a1 T I0 I1474 := hO1461.st g1477 (by decide +kernel)
              have ov1485 := w1480.over (by rw [c1464]; omega)
              obtain ⟨v1486, c1487⟩ : ∃ v, I1474 a0 9 = v := ⟨_, rfl⟩
              have b1488 := iv15_9 hS1481.1 ta0 c1487
              obtain ⟨v1489, c1490⟩ : ∃ v, I1474 a0 13 = v := ⟨_, rfl⟩
              obtain ⟨v1491, c1492⟩ : ∃ v, I1474 a0 14 = v := ⟨_, rfl⟩
              (try rw [c1487] at ov1485)
              (try rw [c1490] at ov1485)
              (try rw [c1492] at ov1485)
              (try rw [c1464] at ov1485)
              (try rw [c1467] at ov1485)
              (try rw [c1469] at ov1485)
              refine tr_istore dX12_readCall_126 (by decide) (by decide) ?_
              refine tr_aload_n dX12_readCall_128 rfl ?_
              refine q_getI dX12_readCall_129 fl12_99 (kR15 hS1481.1 ta0) c1487 ?_
              refine q_iconst dX12_readCall_132 (by decide) ?_
              intro v1493 h1494
              refine q_icmp_ne 137 dX12_readCall_133 (by decide) (fun h1495 => ?_) (fun h1495 => ?_)
              · skip
                exfalso; omega
              · skip
                have eF := hF.eq
                have eP := hP.eq
                obtain ⟨v1496, c1497⟩ : ∃ v, I1474 a0 10 = v := ⟨_, rfl⟩
                have b1498 := iv15_10 hS1481.1 ta0 c1497
                obtain ⟨v1499, c1500⟩ : ∃ v, I1474 a0 11 = v := ⟨_, rfl⟩
                obtain ⟨y1501, c1502⟩ : ∃ v, L1476 a0 15 = v := ⟨_, rfl⟩
                obtain ⟨v1503, c1504⟩ : ∃ v, I1474 a0 12 = v := ⟨_, rfl⟩
                obtain ⟨v1505, c1506⟩ : ∃ v, I1474 a0 8 = v := ⟨_, rfl⟩
                have b1507 := iv15_8 hS1481.1 ta0 c1506
                exact tr_vret hZ dX12_readCall_136 rfl (by decide) (by decide) ⟨rfl, rfl, rfl, rfl, rfl, hS1481, (fun b hb => (Option.some.inj (d2.symm.trans hb)) ▸ (((((((FrM.rf (R := R0) (b := a1) (T := T)).st g79 (by decide +kernel)).st g1205 (by decide +kernel)).st g1397 (by decide +kernel)).st g1431 (by decide +kernel)).st g1454 (by decide +kernel)).st g1477 (by decide +kernel))), (fun dr hd => (Option.some.inj (d2.symm.trans hd)) ▸ hO1484), (Or.inr (⟨(by (try rw [w129]); first | done | with_reducible assumption | omega), (by (try rw [w129]); (try rw [c1487]); first | done | with_reducible assumption | omega), (by (try rw [w129]); (try rw [c1490]); first | done | with_reducible assumption | omega), (by (try rw [w129]); (try rw [c1492]); first | done | with_reducible assumption | omega), trivial⟩)), trivial⟩
          · skip
            refine tr_aload_n dX12_readCall_55 rfl ?_
            refine q_iconst dX12_readCall_56 (by decide) ?_
            intro v1508 h1509
            refine q_callVv hE (M' := mX12_flaw) (as := [_]) dX12_readCall_57 lk12_145 inX12_flaw seX12_flaw myX12_flaw (by decide) ⟨by decide, by decide⟩ rfl (kR15 hS1212.1 ta0) (Nat.le_of_ble_eq_true rfl) rfl rfl (by decide) (by decide) (k_X12_flaw hS1212.1 ta0 (by omega)) ?_
            rintro cn' K' N' I1510 R1511 L1512 ⟨rfl, rfl, rfl, rfl, rfl, g1513, p1515, p1516, w1517, -⟩
            have hS1518 := hS1212.tr g1513 (by decide +kernel) (by decide +kernel)
            have c1519 : I1510 a1 5 = v49 := (g1513.cell ta1 (by decide +kernel)).trans c1213
            have c1520 : I1510 a0 10 = v114 := (g1513.cell ta0 (by decide +kernel)).trans c1214
            have c1521 : I1510 a0 11 = v117 := (g1513.cell ta0 (by decide +kernel)).trans c1215
            have c1522 : I1510 a0 12 = v121 := (g1513.cell ta0 (by decide +kernel)).trans c1216
            have c1523 : I1510 a0 8 = v123 := (g1513.cell ta0 (by decide +kernel)).trans c1217
            obtain ⟨v1524, c1525⟩ : ∃ v, I1510 a0 9 = v := ⟨_, rfl⟩
            have b1526 := iv15_9 hS1518.1 ta0 c1525
            rw [c1525] at p1515
            rw [c1523] at p1516
            rw [c1217] at p1516
            have hO1527 : FrO 14 a1 T I0 I1510 := hO1218.st g1513 (by decide +kernel)
            have ov1528 := w1517.over (by rw [c1220]; omega)
            obtain ⟨v1529, c1530⟩ : ∃ v, I1510 a0 9 = v := ⟨_, rfl⟩
            have b1531 := iv15_9 hS1518.1 ta0 c1530
            obtain ⟨v1532, c1533⟩ : ∃ v, I1510 a0 13 = v := ⟨_, rfl⟩
            obtain ⟨v1534, c1535⟩ : ∃ v, I1510 a0 14 = v := ⟨_, rfl⟩
            (try rw [c1530] at ov1528)
            (try rw [c1533] at ov1528)
            (try rw [c1535] at ov1528)
            (try rw [c1220] at ov1528)
            (try rw [c1223] at ov1528)
            (try rw [c1225] at ov1528)
            refine tr_aload_n dX12_readCall_60 rfl ?_
            refine q_getI dX12_readCall_61 fl12_99 (kR15 hS1518.1 ta0) c1530 ?_
            refine q_iconst dX12_readCall_64 (by decide) ?_
            intro v1536 h1537
            refine q_icmp_ne 72 dX12_readCall_65 (by decide) (fun h1538 => ?_) (fun h1538 => ?_)
            · skip
              exfalso; omega
            · skip
              refine q_iconst dX12_readCall_68 (by decide) ?_
              intro v1539 h1540
              refine tr_goto 81 dX12_readCall_69 (by decide) ?_
              refine tr_istore_n dX12_readCall_81 (by decide) (by decide) ?_
              refine tr_aload_n dX12_readCall_82 rfl ?_
              refine q_callVv hE (M' := mX12_goesOn) (as := []) dX12_readCall_83 lk12_142 inX12_goesOn seX12_goesOn myX12_goesOn (by decide) ⟨by decide, by decide⟩ rfl (kR15 hS1518.1 ta0) (Nat.le_of_ble_eq_true rfl) rfl rfl (by decide) (by decide) (k_X12_goesOn hS1518.1 ta0) ?_
              rintro cn' K' N' I1541 R1542 L1543 ⟨rfl, rfl, rfl, rfl, g1544, p1546, p1547, p1548, w1549, -⟩
              have hS1550 := hS1518.tr g1544 (by decide +kernel) (by decide +kernel)
              have c1551 : I1541 a1 5 = v49 := (g1544.cell ta1 (by decide +kernel)).trans c1519
              have c1552 : I1541 a0 13 = v1532 := (g1544.cell ta0 (by decide +kernel)).trans c1533
              have c1553 : I1541 a0 14 = v1534 := (g1544.cell ta0 (by decide +kernel)).trans c1535
              obtain ⟨v1554, c1555⟩ : ∃ v, I1541 a0 9 = v := ⟨_, rfl⟩
              have b1556 := iv15_9 hS1550.1 ta0 c1555
              rw [c1530] at p1546
              rw [c1555] at p1546
              rw [c1530] at p1547
              rw [c1555] at p1547
              obtain ⟨v1557, c1558⟩ : ∃ v, I1541 a0 8 = v := ⟨_, rfl⟩
              have b1559 := iv15_8 hS1550.1 ta0 c1558
              rw [c1558] at p1548
              rw [c1523] at p1548
              rw [c1552] at p1548
              rw [c1533] at p1548
              have hO1560 : FrO 14 a1 T I0 I1541 := hO1527.st g1544 (by decide +kernel)
              have ov1561 := w1549.over (by rw [c1530]; omega)
              obtain ⟨v1562, c1563⟩ : ∃ v, I1541 a0 9 = v := ⟨_, rfl⟩
              have b1564 := iv15_9 hS1550.1 ta0 c1563
              obtain ⟨v1565, c1566⟩ : ∃ v, I1541 a0 13 = v := ⟨_, rfl⟩
              obtain ⟨v1567, c1568⟩ : ∃ v, I1541 a0 14 = v := ⟨_, rfl⟩
              (try rw [c1563] at ov1561)
              (try rw [c1566] at ov1561)
              (try rw [c1568] at ov1561)
              (try rw [c1530] at ov1561)
              (try rw [c1533] at ov1561)
              (try rw [c1535] at ov1561)
              refine tr_aload_n dX12_readCall_86 rfl ?_
              refine tr_ldcwS dX12_readCall_87 ld12_352 ?_
              refine q_iconst dX12_readCall_90 (by decide) ?_
              intro v1569 h1570
              refine tr_aload_n dX12_readCall_91 rfl ?_
              refine tr_getR dX12_readCall_92 fl12_188 (kR15 hS1550.1 ta0) d2 ?_
              refine q_getI dX12_readCall_95 fl12_192 (kR14 hS1550.1 ta1) ((hS1550.cell ta1 (by decide +kernel)).trans c30) ?_
              refine q_iconst dX12_readCall_98 (by decide) ?_
              intro v1571 h1572
              refine q_isubE dX12_readCall_99 (by intros; omega) ?_
              intro v1573 h1574
              refine q_callVi hE (M' := mX12_readPart) (as := [_, _, _]) dX12_readCall_100 lk12_249 inX12_readPart seX12_readPart myX12_readPart (by decide) ⟨by decide, by decide⟩ rfl (kR15 hS1550.1 ta0) (Nat.le_of_ble_eq_true rfl) rfl rfl (by decide) (by decide) (k_X12_readPart hS1550.1 ta0 (by decide)) ?_
              rintro v1579 cn' K' N' I1575 R1576 L1577 ⟨rfl, rfl, rfl, rfl, g1578, p1580, w1581, -⟩
              have hS1582 := hS1550.tr g1578 (by decide +kernel) (by decide +kernel)
              have c1583 : I1575 a1 5 = v49 := (g1578.cell ta1 (by decide +kernel)).trans c1551
              have b1584 : 0 ≤ v1579.toInt ∧ v1579.toInt ≤ 239 := by omega
              clear p1580
              have hO1585 : FrO 14 a1 T I0 I1575 := hO1560.st g1578 (by decide +kernel)
              have ov1586 := w1581.over (by rw [c1563]; omega)
              obtain ⟨v1587, c1588⟩ : ∃ v, I1575 a0 9 = v := ⟨_, rfl⟩
              have b1589 := iv15_9 hS1582.1 ta0 c1588
              obtain ⟨v1590, c1591⟩ : ∃ v, I1575 a0 13 = v := ⟨_, rfl⟩
              obtain ⟨v1592, c1593⟩ : ∃ v, I1575 a0 14 = v := ⟨_, rfl⟩
              (try rw [c1588] at ov1586)
              (try rw [c1591] at ov1586)
              (try rw [c1593] at ov1586)
              (try rw [c1563] at ov1586)
              (try rw [c1566] at ov1586)
              (try rw [c1568] at ov1586)
              refine tr_istore_n dX12_readCall_103 (by decide) (by decide) ?_
              refine tr_aload_n dX12_readCall_104 rfl ?_
              refine tr_ldcwS dX12_readCall_105 ld12_354 ?_
              refine q_iconst dX12_readCall_108 (by decide) ?_
              intro v1594 h1595
              refine q_bipush dX12_readCall_109 (by decide +kernel) ?_
              intro v1596 h1597
              refine q_callVi hE (M' := mX12_readPart) (as := [_, _, _]) dX12_readCall_111 lk12_249 inX12_readPart seX12_readPart myX12_readPart (by decide) ⟨by decide, by decide⟩ rfl (kR15 hS1582.1 ta0) (Nat.le_of_ble_eq_true rfl) rfl rfl (by decide) (by decide) (k_X12_readPart hS1582.1 ta0 (by decide)) ?_
              rintro v1602 cn' K' N' I1598 R1599 L1600 ⟨rfl, rfl, rfl, rfl, g1601, p1603, w1604, -⟩
              have hS1605 := hS1582.tr g1601 (by decide +kernel) (by decide +kernel)
              have c1606 : I1598 a1 5 = v49 := (g1601.cell ta1 (by decide +kernel)).trans c1583
              have b1607 : 1 ≤ v1602.toInt ∧ v1602.toInt ≤ 60 := by omega
              clear p1603
              have hO1608 : FrO 14 a1 T I0 I1598 := hO1585.st g1601 (by decide +kernel)
              have ov1609 := w1604.over (by rw [c1588]; omega)
              obtain ⟨v1610, c1611⟩ : ∃ v, I1598 a0 9 = v := ⟨_, rfl⟩
              have b1612 := iv15_9 hS1605.1 ta0 c1611
              obtain ⟨v1613, c1614⟩ : ∃ v, I1598 a0 13 = v := ⟨_, rfl⟩
              obtain ⟨v1615, c1616⟩ : ∃ v, I1598 a0 14 = v := ⟨_, rfl⟩
              (try rw [c1611] at ov1609)
              (try rw [c1614] at ov1609)
              (try rw [c1616] at ov1609)
              (try rw [c1588] at ov1609)
              (try rw [c1591] at ov1609)
              (try rw [c1593] at ov1609)
              refine tr_istore dX12_readCall_114 (by decide) (by decide) ?_
              refine tr_aload_n dX12_readCall_116 rfl ?_
              refine tr_ldcwS dX12_readCall_117 ld12_356 ?_
              refine q_iconst dX12_readCall_120 (by decide) ?_
              intro v1617 h1618
              refine q_bipush dX12_readCall_121 (by decide +kernel) ?_
              intro v1619 h1620
              refine q_callVi hE (M' := mX12_readPart) (as := [_, _, _]) dX12_readCall_123 lk12_249 inX12_readPart seX12_readPart myX12_readPart (by decide) ⟨by decide, by decide⟩ rfl (kR15 hS1605.1 ta0) (Nat.le_of_ble_eq_true rfl) rfl rfl (by decide) (by decide) (k_X12_readPart hS1605.1 ta0 (by decide)) ?_
              rintro v1625 cn' K' N' I1621 R1622 L1623 ⟨rfl, rfl, rfl, rfl, g1624, p1626, w1627, -⟩
              have hS1628 := hS1605.tr g1624 (by decide +kernel) (by decide +kernel)
              have c1629 : I1621 a1 5 = v49 := (g1624.cell ta1 (by decide +kernel)).trans c1606
              have b1630 : 0 ≤ v1625.toInt ∧ v1625.toInt ≤ 99 := by omega
              clear p1626
              have hO1631 : FrO 14 a1 T I0 I1621 := hO1608.st g1624 (by decide +kernel)
              have ov1632 := w1627.over (by rw [c1611]; omega)
              obtain ⟨v1633, c1634⟩ : ∃ v, I1621 a0 9 = v := ⟨_, rfl⟩
              have b1635 := iv15_9 hS1628.1 ta0 c1634
              obtain ⟨v1636, c1637⟩ : ∃ v, I1621 a0 13 = v := ⟨_, rfl⟩
              obtain ⟨v1638, c1639⟩ : ∃ v, I1621 a0 14 = v := ⟨_, rfl⟩
              (try rw [c1634] at ov1632)
              (try rw [c1637] at ov1632)
              (try rw [c1639] at ov1632)
              (try rw [c1611] at ov1632)
              (try rw [c1614] at ov1632)
              (try rw [c1616] at ov1632)
              refine tr_istore dX12_readCall_126 (by decide) (by decide) ?_
              refine tr_aload_n dX12_readCall_128 rfl ?_
              refine q_getI dX12_readCall_129 fl12_99 (kR15 hS1628.1 ta0) c1634 ?_
              refine q_iconst dX12_readCall_132 (by decide) ?_
              intro v1640 h1641
              refine q_icmp_ne 137 dX12_readCall_133 (by decide) (fun h1642 => ?_) (fun h1642 => ?_)
              · skip
                exfalso; omega
              · skip
                have eF := hF.eq
                have eP := hP.eq
                obtain ⟨v1643, c1644⟩ : ∃ v, I1621 a0 10 = v := ⟨_, rfl⟩
                have b1645 := iv15_10 hS1628.1 ta0 c1644
                obtain ⟨v1646, c1647⟩ : ∃ v, I1621 a0 11 = v := ⟨_, rfl⟩
                obtain ⟨y1648, c1649⟩ : ∃ v, L1623 a0 15 = v := ⟨_, rfl⟩
                obtain ⟨v1650, c1651⟩ : ∃ v, I1621 a0 12 = v := ⟨_, rfl⟩
                obtain ⟨v1652, c1653⟩ : ∃ v, I1621 a0 8 = v := ⟨_, rfl⟩
                have b1654 := iv15_8 hS1628.1 ta0 c1653
                exact tr_vret hZ dX12_readCall_136 rfl (by decide) (by decide) ⟨rfl, rfl, rfl, rfl, rfl, hS1628, (fun b hb => (Option.some.inj (d2.symm.trans hb)) ▸ ((((((((FrM.rf (R := R0) (b := a1) (T := T)).st g79 (by decide +kernel)).st g1205 (by decide +kernel)).st g1513 (by decide +kernel)).st g1544 (by decide +kernel)).st g1578 (by decide +kernel)).st g1601 (by decide +kernel)).st g1624 (by decide +kernel))), (fun dr hd => (Option.some.inj (d2.symm.trans hd)) ▸ hO1631), (Or.inr (⟨(by (try rw [w129]); first | done | with_reducible assumption | omega), (by (try rw [w129]); (try rw [c1634]); first | done | with_reducible assumption | omega), (by (try rw [w129]); (try rw [c1637]); first | done | with_reducible assumption | omega), (by (try rw [w129]); (try rw [c1639]); first | done | with_reducible assumption | omega), trivial⟩)), trivial⟩
  · skip
    obtain ⟨v1655, c1656⟩ : ∃ v, I76 a0 9 = v := ⟨_, rfl⟩
    have b1657 := iv15_9 hS84.1 ta0 c1656
    rw [c1656] at p99
    obtain ⟨v1658, c1659⟩ : ∃ v, I76 a0 13 = v := ⟨_, rfl⟩
    rw [c1659] at p100
    obtain ⟨v1660, c1661⟩ : ∃ v, I76 a0 14 = v := ⟨_, rfl⟩
    rw [c1661] at p101
    have p1662 := p61
    unfold Q7M at p1662
    replace hF := hF.pos (by omega)
    replace hP := hP.pos (by omega)
    clear p1662
    refine tr_aload_n dX12_readCall_13 rfl ?_
    refine q_callVi hE (M' := mX12_isName) (as := []) dX12_readCall_14 lk12_197 inX12_isName seX12_isName myX12_isName (by decide) ⟨by decide, by decide⟩ rfl (kR15 hS84.1 ta0) (Nat.le_of_ble_eq_true rfl) rfl rfl (by decide) (by decide) (k_X12_isName hS84.1 ta0) ?_
    rintro v1667 cn' K' N' I1663 R1664 L1665 ⟨rfl, rfl, rfl, rfl, rfl, rfl, h1668, -⟩
    refine q_if_ne 25 dX12_readCall_17 (by decide) (fun h1669 => ?_) (fun h1669 => ?_)
    · skip
      refine tr_aload_n dX12_readCall_25 rfl ?_
      refine tr_getR dX12_readCall_26 fl12_188 (kR15 hS84.1 ta0) d2 ?_
      refine tr_aload_n dX12_readCall_29 rfl ?_
      have p1670 := p17 (by omega)
      obtain ⟨y1671, c1672⟩ : ∃ v, L78 a0 15 = v := ⟨_, rfl⟩
      refine q_getLE dX12_readCall_30 fl12_118 (kR15 hS84.1 ta0) c1672 ?_
      refine q_callVi hE (M' := mX11_find) (as := [_]) dX12_readCall_33 lk12_201 inX11_find seX11_find myX11_find (by decide) ⟨by decide, by decide⟩ rfl (kR14 hS84.1 ta1) (Nat.le_of_ble_eq_true rfl) rfl rfl (by decide) (by decide) (k_X11_find hS84.1 ta1) ?_
      rintro v1677 cn' K' N' I1673 R1674 L1675 ⟨rfl, rfl, rfl, rfl, rfl, rfl, h1678, -⟩
      refine tr_istore_n dX12_readCall_36 (by decide) (by decide) ?_
      refine tr_iload_n dX12_readCall_37 rfl ?_
      refine q_iconst dX12_readCall_38 (by decide) ?_
      intro v1679 h1680
      refine q_icmp_eq 55 dX12_readCall_39 (by decide) (fun h1681 => ?_) (fun h1681 => ?_)
      · skip
        refine tr_aload_n dX12_readCall_55 rfl ?_
        refine q_iconst dX12_readCall_56 (by decide) ?_
        intro v1682 h1683
        obtain ⟨v1684, c1685⟩ : ∃ v, I76 a0 8 = v := ⟨_, rfl⟩
        have b1686 := iv15_8 hS84.1 ta0 c1685
        refine q_callVv hE (M' := mX12_flaw) (as := [_]) dX12_readCall_57 lk12_145 inX12_flaw seX12_flaw myX12_flaw (by decide) ⟨by decide, by decide⟩ rfl (kR15 hS84.1 ta0) (Nat.le_of_ble_eq_true rfl) rfl rfl (by decide) (by decide) (k_X12_flaw hS84.1 ta0 (by omega)) ?_
        rintro cn' K' N' I1687 R1688 L1689 ⟨rfl, rfl, rfl, rfl, rfl, g1690, p1692, p1693, w1694, -⟩
        have hS1695 := hS84.tr g1690 (by decide +kernel) (by decide +kernel)
        have c1696 : I1687 a1 5 = v49 := (g1690.cell ta1 (by decide +kernel)).trans c85
        have c1697 : I1687 a0 8 = v1684 := (g1690.cell ta0 (by decide +kernel)).trans c1685
        obtain ⟨v1698, c1699⟩ : ∃ v, I1687 a0 9 = v := ⟨_, rfl⟩
        have b1700 := iv15_9 hS1695.1 ta0 c1699
        rw [c1699] at p1692
        rw [c1697] at p1693
        rw [c1685] at p1693
        have hO1701 : FrO 14 a1 T I0 I1687 := hO86.st g1690 (by decide +kernel)
        have ov1702 := w1694.over (by rw [c1656]; omega)
        obtain ⟨v1703, c1704⟩ : ∃ v, I1687 a0 9 = v := ⟨_, rfl⟩
        have b1705 := iv15_9 hS1695.1 ta0 c1704
        obtain ⟨v1706, c1707⟩ : ∃ v, I1687 a0 13 = v := ⟨_, rfl⟩
        obtain ⟨v1708, c1709⟩ : ∃ v, I1687 a0 14 = v := ⟨_, rfl⟩
        (try rw [c1704] at ov1702)
        (try rw [c1707] at ov1702)
        (try rw [c1709] at ov1702)
        (try rw [c1656] at ov1702)
        (try rw [c1659] at ov1702)
        (try rw [c1661] at ov1702)
        refine tr_aload_n dX12_readCall_60 rfl ?_
        refine q_getI dX12_readCall_61 fl12_99 (kR15 hS1695.1 ta0) c1704 ?_
        refine q_iconst dX12_readCall_64 (by decide) ?_
        intro v1710 h1711
        refine q_icmp_ne 72 dX12_readCall_65 (by decide) (fun h1712 => ?_) (fun h1712 => ?_)
        · skip
          exfalso; omega
        · skip
          refine q_iconst dX12_readCall_68 (by decide) ?_
          intro v1713 h1714
          refine tr_goto 81 dX12_readCall_69 (by decide) ?_
          refine tr_istore_n dX12_readCall_81 (by decide) (by decide) ?_
          refine tr_aload_n dX12_readCall_82 rfl ?_
          refine q_callVv hE (M' := mX12_goesOn) (as := []) dX12_readCall_83 lk12_142 inX12_goesOn seX12_goesOn myX12_goesOn (by decide) ⟨by decide, by decide⟩ rfl (kR15 hS1695.1 ta0) (Nat.le_of_ble_eq_true rfl) rfl rfl (by decide) (by decide) (k_X12_goesOn hS1695.1 ta0) ?_
          rintro cn' K' N' I1715 R1716 L1717 ⟨rfl, rfl, rfl, rfl, g1718, p1720, p1721, p1722, w1723, -⟩
          have hS1724 := hS1695.tr g1718 (by decide +kernel) (by decide +kernel)
          have c1725 : I1715 a1 5 = v49 := (g1718.cell ta1 (by decide +kernel)).trans c1696
          have c1726 : I1715 a0 13 = v1706 := (g1718.cell ta0 (by decide +kernel)).trans c1707
          have c1727 : I1715 a0 14 = v1708 := (g1718.cell ta0 (by decide +kernel)).trans c1709
          obtain ⟨v1728, c1729⟩ : ∃ v, I1715 a0 9 = v := ⟨_, rfl⟩
          have b1730 := iv15_9 hS1724.1 ta0 c1729
          rw [c1704] at p1720
          rw [c1729] at p1720
          rw [c1704] at p1721
          rw [c1729] at p1721
          obtain ⟨v1731, c1732⟩ : ∃ v, I1715 a0 8 = v := ⟨_, rfl⟩
          have b1733 := iv15_8 hS1724.1 ta0 c1732
          rw [c1732] at p1722
          rw [c1697] at p1722
          rw [c1726] at p1722
          rw [c1707] at p1722
          have hO1734 : FrO 14 a1 T I0 I1715 := hO1701.st g1718 (by decide +kernel)
          have ov1735 := w1723.over (by rw [c1704]; omega)
          obtain ⟨v1736, c1737⟩ : ∃ v, I1715 a0 9 = v := ⟨_, rfl⟩
          have b1738 := iv15_9 hS1724.1 ta0 c1737
          obtain ⟨v1739, c1740⟩ : ∃ v, I1715 a0 13 = v := ⟨_, rfl⟩
          obtain ⟨v1741, c1742⟩ : ∃ v, I1715 a0 14 = v := ⟨_, rfl⟩
          (try rw [c1737] at ov1735)
          (try rw [c1740] at ov1735)
          (try rw [c1742] at ov1735)
          (try rw [c1704] at ov1735)
          (try rw [c1707] at ov1735)
          (try rw [c1709] at ov1735)
          refine tr_aload_n dX12_readCall_86 rfl ?_
          refine tr_ldcwS dX12_readCall_87 ld12_352 ?_
          refine q_iconst dX12_readCall_90 (by decide) ?_
          intro v1743 h1744
          refine tr_aload_n dX12_readCall_91 rfl ?_
          refine tr_getR dX12_readCall_92 fl12_188 (kR15 hS1724.1 ta0) d2 ?_
          refine q_getI dX12_readCall_95 fl12_192 (kR14 hS1724.1 ta1) ((hS1724.cell ta1 (by decide +kernel)).trans c30) ?_
          refine q_iconst dX12_readCall_98 (by decide) ?_
          intro v1745 h1746
          refine q_isubE dX12_readCall_99 (by intros; omega) ?_
          intro v1747 h1748
          refine q_callVi hE (M' := mX12_readPart) (as := [_, _, _]) dX12_readCall_100 lk12_249 inX12_readPart seX12_readPart myX12_readPart (by decide) ⟨by decide, by decide⟩ rfl (kR15 hS1724.1 ta0) (Nat.le_of_ble_eq_true rfl) rfl rfl (by decide) (by decide) (k_X12_readPart hS1724.1 ta0 (by decide)) ?_
          rintro v1753 cn' K' N' I1749 R1750 L1751 ⟨rfl, rfl, rfl, rfl, g1752, p1754, w1755, -⟩
          have hS1756 := hS1724.tr g1752 (by decide +kernel) (by decide +kernel)
          have c1757 : I1749 a1 5 = v49 := (g1752.cell ta1 (by decide +kernel)).trans c1725
          have b1758 : 0 ≤ v1753.toInt ∧ v1753.toInt ≤ 239 := by omega
          clear p1754
          have hO1759 : FrO 14 a1 T I0 I1749 := hO1734.st g1752 (by decide +kernel)
          have ov1760 := w1755.over (by rw [c1737]; omega)
          obtain ⟨v1761, c1762⟩ : ∃ v, I1749 a0 9 = v := ⟨_, rfl⟩
          have b1763 := iv15_9 hS1756.1 ta0 c1762
          obtain ⟨v1764, c1765⟩ : ∃ v, I1749 a0 13 = v := ⟨_, rfl⟩
          obtain ⟨v1766, c1767⟩ : ∃ v, I1749 a0 14 = v := ⟨_, rfl⟩
          (try rw [c1762] at ov1760)
          (try rw [c1765] at ov1760)
          (try rw [c1767] at ov1760)
          (try rw [c1737] at ov1760)
          (try rw [c1740] at ov1760)
          (try rw [c1742] at ov1760)
          refine tr_istore_n dX12_readCall_103 (by decide) (by decide) ?_
          refine tr_aload_n dX12_readCall_104 rfl ?_
          refine tr_ldcwS dX12_readCall_105 ld12_354 ?_
          refine q_iconst dX12_readCall_108 (by decide) ?_
          intro v1768 h1769
          refine q_bipush dX12_readCall_109 (by decide +kernel) ?_
          intro v1770 h1771
          refine q_callVi hE (M' := mX12_readPart) (as := [_, _, _]) dX12_readCall_111 lk12_249 inX12_readPart seX12_readPart myX12_readPart (by decide) ⟨by decide, by decide⟩ rfl (kR15 hS1756.1 ta0) (Nat.le_of_ble_eq_true rfl) rfl rfl (by decide) (by decide) (k_X12_readPart hS1756.1 ta0 (by decide)) ?_
          rintro v1776 cn' K' N' I1772 R1773 L1774 ⟨rfl, rfl, rfl, rfl, g1775, p1777, w1778, -⟩
          have hS1779 := hS1756.tr g1775 (by decide +kernel) (by decide +kernel)
          have c1780 : I1772 a1 5 = v49 := (g1775.cell ta1 (by decide +kernel)).trans c1757
          have b1781 : 1 ≤ v1776.toInt ∧ v1776.toInt ≤ 60 := by omega
          clear p1777
          have hO1782 : FrO 14 a1 T I0 I1772 := hO1759.st g1775 (by decide +kernel)
          have ov1783 := w1778.over (by rw [c1762]; omega)
          obtain ⟨v1784, c1785⟩ : ∃ v, I1772 a0 9 = v := ⟨_, rfl⟩
          have b1786 := iv15_9 hS1779.1 ta0 c1785
          obtain ⟨v1787, c1788⟩ : ∃ v, I1772 a0 13 = v := ⟨_, rfl⟩
          obtain ⟨v1789, c1790⟩ : ∃ v, I1772 a0 14 = v := ⟨_, rfl⟩
          (try rw [c1785] at ov1783)
          (try rw [c1788] at ov1783)
          (try rw [c1790] at ov1783)
          (try rw [c1762] at ov1783)
          (try rw [c1765] at ov1783)
          (try rw [c1767] at ov1783)
          refine tr_istore dX12_readCall_114 (by decide) (by decide) ?_
          refine tr_aload_n dX12_readCall_116 rfl ?_
          refine tr_ldcwS dX12_readCall_117 ld12_356 ?_
          refine q_iconst dX12_readCall_120 (by decide) ?_
          intro v1791 h1792
          refine q_bipush dX12_readCall_121 (by decide +kernel) ?_
          intro v1793 h1794
          refine q_callVi hE (M' := mX12_readPart) (as := [_, _, _]) dX12_readCall_123 lk12_249 inX12_readPart seX12_readPart myX12_readPart (by decide) ⟨by decide, by decide⟩ rfl (kR15 hS1779.1 ta0) (Nat.le_of_ble_eq_true rfl) rfl rfl (by decide) (by decide) (k_X12_readPart hS1779.1 ta0 (by decide)) ?_
          rintro v1799 cn' K' N' I1795 R1796 L1797 ⟨rfl, rfl, rfl, rfl, g1798, p1800, w1801, -⟩
          have hS1802 := hS1779.tr g1798 (by decide +kernel) (by decide +kernel)
          have c1803 : I1795 a1 5 = v49 := (g1798.cell ta1 (by decide +kernel)).trans c1780
          have b1804 : 0 ≤ v1799.toInt ∧ v1799.toInt ≤ 99 := by omega
          clear p1800
          have hO1805 : FrO 14 a1 T I0 I1795 := hO1782.st g1798 (by decide +kernel)
          have ov1806 := w1801.over (by rw [c1785]; omega)
          obtain ⟨v1807, c1808⟩ : ∃ v, I1795 a0 9 = v := ⟨_, rfl⟩
          have b1809 := iv15_9 hS1802.1 ta0 c1808
          obtain ⟨v1810, c1811⟩ : ∃ v, I1795 a0 13 = v := ⟨_, rfl⟩
          obtain ⟨v1812, c1813⟩ : ∃ v, I1795 a0 14 = v := ⟨_, rfl⟩
          (try rw [c1808] at ov1806)
          (try rw [c1811] at ov1806)
          (try rw [c1813] at ov1806)
          (try rw [c1785] at ov1806)
          (try rw [c1788] at ov1806)
          (try rw [c1790] at ov1806)
          refine tr_istore dX12_readCall_126 (by decide) (by decide) ?_
          refine tr_aload_n dX12_readCall_128 rfl ?_
          refine q_getI dX12_readCall_129 fl12_99 (kR15 hS1802.1 ta0) c1808 ?_
          refine q_iconst dX12_readCall_132 (by decide) ?_
          intro v1814 h1815
          refine q_icmp_ne 137 dX12_readCall_133 (by decide) (fun h1816 => ?_) (fun h1816 => ?_)
          · skip
            exfalso; omega
          · skip
            have eF := hF.eq
            have eP := hP.eq
            obtain ⟨v1817, c1818⟩ : ∃ v, I1795 a0 10 = v := ⟨_, rfl⟩
            have b1819 := iv15_10 hS1802.1 ta0 c1818
            obtain ⟨v1820, c1821⟩ : ∃ v, I1795 a0 11 = v := ⟨_, rfl⟩
            obtain ⟨y1822, c1823⟩ : ∃ v, L1797 a0 15 = v := ⟨_, rfl⟩
            obtain ⟨v1824, c1825⟩ : ∃ v, I1795 a0 12 = v := ⟨_, rfl⟩
            obtain ⟨v1826, c1827⟩ : ∃ v, I1795 a0 8 = v := ⟨_, rfl⟩
            have b1828 := iv15_8 hS1802.1 ta0 c1827
            exact tr_vret hZ dX12_readCall_136 rfl (by decide) (by decide) ⟨rfl, rfl, rfl, rfl, rfl, hS1802, (fun b hb => (Option.some.inj (d2.symm.trans hb)) ▸ (((((((FrM.rf (R := R0) (b := a1) (T := T)).st g79 (by decide +kernel)).st g1690 (by decide +kernel)).st g1718 (by decide +kernel)).st g1752 (by decide +kernel)).st g1775 (by decide +kernel)).st g1798 (by decide +kernel))), (fun dr hd => (Option.some.inj (d2.symm.trans hd)) ▸ hO1805), (Or.inr (⟨(by first | done | with_reducible assumption | omega), (by (try rw [c1808]); first | done | with_reducible assumption | omega), (by (try rw [c1811]); first | done | with_reducible assumption | omega), (by (try rw [c1813]); first | done | with_reducible assumption | omega), trivial⟩)), trivial⟩
      · skip
        refine tr_aload_n dX12_readCall_42 rfl ?_
        refine tr_getR dX12_readCall_43 fl12_188 (kR15 hS84.1 ta0) d2 ?_
        obtain ⟨a1829, d1830, ta1829⟩ := rf14_31 hW0 ta1
        refine tr_getR dX12_readCall_46 fl12_212 (kR14 hS84.1 ta1) d1830 ?_
        refine tr_iload_n dX12_readCall_49 rfl ?_
        refine q_iald dX12_readCall_50 (kR74 hS84.1 ta1829) (ti_in (nR74 hS84.1 ta1829) (by omega) (by omega)) ?_
        intro v1831 c1832
        refine q_iconst dX12_readCall_51 (by decide) ?_
        intro v1833 h1834
        refine q_icmp_eq 60 dX12_readCall_52 (by decide) (fun h1835 => ?_) (fun h1835 => ?_)
        · skip
          refine tr_aload_n dX12_readCall_60 rfl ?_
          refine q_getI dX12_readCall_61 fl12_99 (kR15 hS84.1 ta0) c1656 ?_
          refine q_iconst dX12_readCall_64 (by decide) ?_
          intro v1836 h1837
          refine q_icmp_ne 72 dX12_readCall_65 (by decide) (fun h1838 => ?_) (fun h1838 => ?_)
          · skip
            exfalso; omega
          · skip
            refine q_iconst dX12_readCall_68 (by decide) ?_
            intro v1839 h1840
            refine tr_goto 81 dX12_readCall_69 (by decide) ?_
            refine tr_istore_n dX12_readCall_81 (by decide) (by decide) ?_
            refine tr_aload_n dX12_readCall_82 rfl ?_
            obtain ⟨v1841, c1842⟩ : ∃ v, I76 a0 8 = v := ⟨_, rfl⟩
            have b1843 := iv15_8 hS84.1 ta0 c1842
            refine q_callVv hE (M' := mX12_goesOn) (as := []) dX12_readCall_83 lk12_142 inX12_goesOn seX12_goesOn myX12_goesOn (by decide) ⟨by decide, by decide⟩ rfl (kR15 hS84.1 ta0) (Nat.le_of_ble_eq_true rfl) rfl rfl (by decide) (by decide) (k_X12_goesOn hS84.1 ta0) ?_
            rintro cn' K' N' I1844 R1845 L1846 ⟨rfl, rfl, rfl, rfl, g1847, p1849, p1850, p1851, w1852, -⟩
            have hS1853 := hS84.tr g1847 (by decide +kernel) (by decide +kernel)
            have c1854 : I1844 a1 5 = v49 := (g1847.cell ta1 (by decide +kernel)).trans c85
            have c1855 : I1844 a0 13 = v1658 := (g1847.cell ta0 (by decide +kernel)).trans c1659
            have c1856 : I1844 a0 14 = v1660 := (g1847.cell ta0 (by decide +kernel)).trans c1661
            obtain ⟨v1857, c1858⟩ : ∃ v, I1844 a0 9 = v := ⟨_, rfl⟩
            have b1859 := iv15_9 hS1853.1 ta0 c1858
            rw [c1656] at p1849
            rw [c1858] at p1849
            rw [c1656] at p1850
            rw [c1858] at p1850
            obtain ⟨v1860, c1861⟩ : ∃ v, I1844 a0 8 = v := ⟨_, rfl⟩
            have b1862 := iv15_8 hS1853.1 ta0 c1861
            rw [c1861] at p1851
            rw [c1842] at p1851
            rw [c1855] at p1851
            rw [c1659] at p1851
            have hO1863 : FrO 14 a1 T I0 I1844 := hO86.st g1847 (by decide +kernel)
            have ov1864 := w1852.over (by rw [c1656]; omega)
            obtain ⟨v1865, c1866⟩ : ∃ v, I1844 a0 9 = v := ⟨_, rfl⟩
            have b1867 := iv15_9 hS1853.1 ta0 c1866
            obtain ⟨v1868, c1869⟩ : ∃ v, I1844 a0 13 = v := ⟨_, rfl⟩
            obtain ⟨v1870, c1871⟩ : ∃ v, I1844 a0 14 = v := ⟨_, rfl⟩
            (try rw [c1866] at ov1864)
            (try rw [c1869] at ov1864)
            (try rw [c1871] at ov1864)
            (try rw [c1656] at ov1864)
            (try rw [c1659] at ov1864)
            (try rw [c1661] at ov1864)
            refine tr_aload_n dX12_readCall_86 rfl ?_
            refine tr_ldcwS dX12_readCall_87 ld12_352 ?_
            refine q_iconst dX12_readCall_90 (by decide) ?_
            intro v1872 h1873
            refine tr_aload_n dX12_readCall_91 rfl ?_
            refine tr_getR dX12_readCall_92 fl12_188 (kR15 hS1853.1 ta0) d2 ?_
            refine q_getI dX12_readCall_95 fl12_192 (kR14 hS1853.1 ta1) ((hS1853.cell ta1 (by decide +kernel)).trans c30) ?_
            refine q_iconst dX12_readCall_98 (by decide) ?_
            intro v1874 h1875
            refine q_isubE dX12_readCall_99 (by intros; omega) ?_
            intro v1876 h1877
            refine q_callVi hE (M' := mX12_readPart) (as := [_, _, _]) dX12_readCall_100 lk12_249 inX12_readPart seX12_readPart myX12_readPart (by decide) ⟨by decide, by decide⟩ rfl (kR15 hS1853.1 ta0) (Nat.le_of_ble_eq_true rfl) rfl rfl (by decide) (by decide) (k_X12_readPart hS1853.1 ta0 (by decide)) ?_
            rintro v1882 cn' K' N' I1878 R1879 L1880 ⟨rfl, rfl, rfl, rfl, g1881, p1883, w1884, -⟩
            have hS1885 := hS1853.tr g1881 (by decide +kernel) (by decide +kernel)
            have c1886 : I1878 a1 5 = v49 := (g1881.cell ta1 (by decide +kernel)).trans c1854
            have b1887 : 0 ≤ v1882.toInt ∧ v1882.toInt ≤ 239 := by omega
            clear p1883
            have hO1888 : FrO 14 a1 T I0 I1878 := hO1863.st g1881 (by decide +kernel)
            have ov1889 := w1884.over (by rw [c1866]; omega)
            obtain ⟨v1890, c1891⟩ : ∃ v, I1878 a0 9 = v := ⟨_, rfl⟩
            have b1892 := iv15_9 hS1885.1 ta0 c1891
            obtain ⟨v1893, c1894⟩ : ∃ v, I1878 a0 13 = v := ⟨_, rfl⟩
            obtain ⟨v1895, c1896⟩ : ∃ v, I1878 a0 14 = v := ⟨_, rfl⟩
            (try rw [c1891] at ov1889)
            (try rw [c1894] at ov1889)
            (try rw [c1896] at ov1889)
            (try rw [c1866] at ov1889)
            (try rw [c1869] at ov1889)
            (try rw [c1871] at ov1889)
            refine tr_istore_n dX12_readCall_103 (by decide) (by decide) ?_
            refine tr_aload_n dX12_readCall_104 rfl ?_
            refine tr_ldcwS dX12_readCall_105 ld12_354 ?_
            refine q_iconst dX12_readCall_108 (by decide) ?_
            intro v1897 h1898
            refine q_bipush dX12_readCall_109 (by decide +kernel) ?_
            intro v1899 h1900
            refine q_callVi hE (M' := mX12_readPart) (as := [_, _, _]) dX12_readCall_111 lk12_249 inX12_readPart seX12_readPart myX12_readPart (by decide) ⟨by decide, by decide⟩ rfl (kR15 hS1885.1 ta0) (Nat.le_of_ble_eq_true rfl) rfl rfl (by decide) (by decide) (k_X12_readPart hS1885.1 ta0 (by decide)) ?_
            rintro v1905 cn' K' N' I1901 R1902 L1903 ⟨rfl, rfl, rfl, rfl, g1904, p1906, w1907, -⟩
            have hS1908 := hS1885.tr g1904 (by decide +kernel) (by decide +kernel)
            have c1909 : I1901 a1 5 = v49 := (g1904.cell ta1 (by decide +kernel)).trans c1886
            have b1910 : 1 ≤ v1905.toInt ∧ v1905.toInt ≤ 60 := by omega
            clear p1906
            have hO1911 : FrO 14 a1 T I0 I1901 := hO1888.st g1904 (by decide +kernel)
            have ov1912 := w1907.over (by rw [c1891]; omega)
            obtain ⟨v1913, c1914⟩ : ∃ v, I1901 a0 9 = v := ⟨_, rfl⟩
            have b1915 := iv15_9 hS1908.1 ta0 c1914
            obtain ⟨v1916, c1917⟩ : ∃ v, I1901 a0 13 = v := ⟨_, rfl⟩
            obtain ⟨v1918, c1919⟩ : ∃ v, I1901 a0 14 = v := ⟨_, rfl⟩
            (try rw [c1914] at ov1912)
            (try rw [c1917] at ov1912)
            (try rw [c1919] at ov1912)
            (try rw [c1891] at ov1912)
            (try rw [c1894] at ov1912)
            (try rw [c1896] at ov1912)
            refine tr_istore dX12_readCall_114 (by decide) (by decide) ?_
            refine tr_aload_n dX12_readCall_116 rfl ?_
            refine tr_ldcwS dX12_readCall_117 ld12_356 ?_
            refine q_iconst dX12_readCall_120 (by decide) ?_
            intro v1920 h1921
            refine q_bipush dX12_readCall_121 (by decide +kernel) ?_
            intro v1922 h1923
            refine q_callVi hE (M' := mX12_readPart) (as := [_, _, _]) dX12_readCall_123 lk12_249 inX12_readPart seX12_readPart myX12_readPart (by decide) ⟨by decide, by decide⟩ rfl (kR15 hS1908.1 ta0) (Nat.le_of_ble_eq_true rfl) rfl rfl (by decide) (by decide) (k_X12_readPart hS1908.1 ta0 (by decide)) ?_
            rintro v1928 cn' K' N' I1924 R1925 L1926 ⟨rfl, rfl, rfl, rfl, g1927, p1929, w1930, -⟩
            have hS1931 := hS1908.tr g1927 (by decide +kernel) (by decide +kernel)
            have c1932 : I1924 a1 5 = v49 := (g1927.cell ta1 (by decide +kernel)).trans c1909
            have b1933 : 0 ≤ v1928.toInt ∧ v1928.toInt ≤ 99 := by omega
            clear p1929
            have hO1934 : FrO 14 a1 T I0 I1924 := hO1911.st g1927 (by decide +kernel)
            have ov1935 := w1930.over (by rw [c1914]; omega)
            obtain ⟨v1936, c1937⟩ : ∃ v, I1924 a0 9 = v := ⟨_, rfl⟩
            have b1938 := iv15_9 hS1931.1 ta0 c1937
            obtain ⟨v1939, c1940⟩ : ∃ v, I1924 a0 13 = v := ⟨_, rfl⟩
            obtain ⟨v1941, c1942⟩ : ∃ v, I1924 a0 14 = v := ⟨_, rfl⟩
            (try rw [c1937] at ov1935)
            (try rw [c1940] at ov1935)
            (try rw [c1942] at ov1935)
            (try rw [c1914] at ov1935)
            (try rw [c1917] at ov1935)
            (try rw [c1919] at ov1935)
            refine tr_istore dX12_readCall_126 (by decide) (by decide) ?_
            refine tr_aload_n dX12_readCall_128 rfl ?_
            refine q_getI dX12_readCall_129 fl12_99 (kR15 hS1931.1 ta0) c1937 ?_
            refine q_iconst dX12_readCall_132 (by decide) ?_
            intro v1943 h1944
            refine q_icmp_ne 137 dX12_readCall_133 (by decide) (fun h1945 => ?_) (fun h1945 => ?_)
            · skip
              exfalso; omega
            · skip
              have eF := hF.eq
              have eP := hP.eq
              obtain ⟨v1946, c1947⟩ : ∃ v, I1924 a0 10 = v := ⟨_, rfl⟩
              have b1948 := iv15_10 hS1931.1 ta0 c1947
              obtain ⟨v1949, c1950⟩ : ∃ v, I1924 a0 11 = v := ⟨_, rfl⟩
              obtain ⟨y1951, c1952⟩ : ∃ v, L1926 a0 15 = v := ⟨_, rfl⟩
              obtain ⟨v1953, c1954⟩ : ∃ v, I1924 a0 12 = v := ⟨_, rfl⟩
              obtain ⟨v1955, c1956⟩ : ∃ v, I1924 a0 8 = v := ⟨_, rfl⟩
              have b1957 := iv15_8 hS1931.1 ta0 c1956
              exact tr_vret hZ dX12_readCall_136 rfl (by decide) (by decide) ⟨rfl, rfl, rfl, rfl, rfl, hS1931, (fun b hb => (Option.some.inj (d2.symm.trans hb)) ▸ ((((((FrM.rf (R := R0) (b := a1) (T := T)).st g79 (by decide +kernel)).st g1847 (by decide +kernel)).st g1881 (by decide +kernel)).st g1904 (by decide +kernel)).st g1927 (by decide +kernel))), (fun dr hd => (Option.some.inj (d2.symm.trans hd)) ▸ hO1934), (Or.inr (⟨(by first | done | with_reducible assumption | omega), (by (try rw [c1937]); first | done | with_reducible assumption | omega), (by (try rw [c1940]); first | done | with_reducible assumption | omega), (by (try rw [c1942]); first | done | with_reducible assumption | omega), trivial⟩)), trivial⟩
        · skip
          refine tr_aload_n dX12_readCall_55 rfl ?_
          refine q_iconst dX12_readCall_56 (by decide) ?_
          intro v1958 h1959
          obtain ⟨v1960, c1961⟩ : ∃ v, I76 a0 8 = v := ⟨_, rfl⟩
          have b1962 := iv15_8 hS84.1 ta0 c1961
          refine q_callVv hE (M' := mX12_flaw) (as := [_]) dX12_readCall_57 lk12_145 inX12_flaw seX12_flaw myX12_flaw (by decide) ⟨by decide, by decide⟩ rfl (kR15 hS84.1 ta0) (Nat.le_of_ble_eq_true rfl) rfl rfl (by decide) (by decide) (k_X12_flaw hS84.1 ta0 (by omega)) ?_
          rintro cn' K' N' I1963 R1964 L1965 ⟨rfl, rfl, rfl, rfl, rfl, g1966, p1968, p1969, w1970, -⟩
          have hS1971 := hS84.tr g1966 (by decide +kernel) (by decide +kernel)
          have c1972 : I1963 a1 5 = v49 := (g1966.cell ta1 (by decide +kernel)).trans c85
          have c1973 : I1963 a0 8 = v1960 := (g1966.cell ta0 (by decide +kernel)).trans c1961
          obtain ⟨v1974, c1975⟩ : ∃ v, I1963 a0 9 = v := ⟨_, rfl⟩
          have b1976 := iv15_9 hS1971.1 ta0 c1975
          rw [c1975] at p1968
          rw [c1973] at p1969
          rw [c1961] at p1969
          have hO1977 : FrO 14 a1 T I0 I1963 := hO86.st g1966 (by decide +kernel)
          have ov1978 := w1970.over (by rw [c1656]; omega)
          obtain ⟨v1979, c1980⟩ : ∃ v, I1963 a0 9 = v := ⟨_, rfl⟩
          have b1981 := iv15_9 hS1971.1 ta0 c1980
          obtain ⟨v1982, c1983⟩ : ∃ v, I1963 a0 13 = v := ⟨_, rfl⟩
          obtain ⟨v1984, c1985⟩ : ∃ v, I1963 a0 14 = v := ⟨_, rfl⟩
          (try rw [c1980] at ov1978)
          (try rw [c1983] at ov1978)
          (try rw [c1985] at ov1978)
          (try rw [c1656] at ov1978)
          (try rw [c1659] at ov1978)
          (try rw [c1661] at ov1978)
          refine tr_aload_n dX12_readCall_60 rfl ?_
          refine q_getI dX12_readCall_61 fl12_99 (kR15 hS1971.1 ta0) c1980 ?_
          refine q_iconst dX12_readCall_64 (by decide) ?_
          intro v1986 h1987
          refine q_icmp_ne 72 dX12_readCall_65 (by decide) (fun h1988 => ?_) (fun h1988 => ?_)
          · skip
            exfalso; omega
          · skip
            refine q_iconst dX12_readCall_68 (by decide) ?_
            intro v1989 h1990
            refine tr_goto 81 dX12_readCall_69 (by decide) ?_
            refine tr_istore_n dX12_readCall_81 (by decide) (by decide) ?_
            refine tr_aload_n dX12_readCall_82 rfl ?_
            refine q_callVv hE (M' := mX12_goesOn) (as := []) dX12_readCall_83 lk12_142 inX12_goesOn seX12_goesOn myX12_goesOn (by decide) ⟨by decide, by decide⟩ rfl (kR15 hS1971.1 ta0) (Nat.le_of_ble_eq_true rfl) rfl rfl (by decide) (by decide) (k_X12_goesOn hS1971.1 ta0) ?_
            rintro cn' K' N' I1991 R1992 L1993 ⟨rfl, rfl, rfl, rfl, g1994, p1996, p1997, p1998, w1999, -⟩
            have hS2000 := hS1971.tr g1994 (by decide +kernel) (by decide +kernel)
            have c2001 : I1991 a1 5 = v49 := (g1994.cell ta1 (by decide +kernel)).trans c1972
            have c2002 : I1991 a0 13 = v1982 := (g1994.cell ta0 (by decide +kernel)).trans c1983
            have c2003 : I1991 a0 14 = v1984 := (g1994.cell ta0 (by decide +kernel)).trans c1985
            obtain ⟨v2004, c2005⟩ : ∃ v, I1991 a0 9 = v := ⟨_, rfl⟩
            have b2006 := iv15_9 hS2000.1 ta0 c2005
            rw [c1980] at p1996
            rw [c2005] at p1996
            rw [c1980] at p1997
            rw [c2005] at p1997
            obtain ⟨v2007, c2008⟩ : ∃ v, I1991 a0 8 = v := ⟨_, rfl⟩
            have b2009 := iv15_8 hS2000.1 ta0 c2008
            rw [c2008] at p1998
            rw [c1973] at p1998
            rw [c2002] at p1998
            rw [c1983] at p1998
            have hO2010 : FrO 14 a1 T I0 I1991 := hO1977.st g1994 (by decide +kernel)
            have ov2011 := w1999.over (by rw [c1980]; omega)
            obtain ⟨v2012, c2013⟩ : ∃ v, I1991 a0 9 = v := ⟨_, rfl⟩
            have b2014 := iv15_9 hS2000.1 ta0 c2013
            obtain ⟨v2015, c2016⟩ : ∃ v, I1991 a0 13 = v := ⟨_, rfl⟩
            obtain ⟨v2017, c2018⟩ : ∃ v, I1991 a0 14 = v := ⟨_, rfl⟩
            (try rw [c2013] at ov2011)
            (try rw [c2016] at ov2011)
            (try rw [c2018] at ov2011)
            (try rw [c1980] at ov2011)
            (try rw [c1983] at ov2011)
            (try rw [c1985] at ov2011)
            refine tr_aload_n dX12_readCall_86 rfl ?_
            refine tr_ldcwS dX12_readCall_87 ld12_352 ?_
            refine q_iconst dX12_readCall_90 (by decide) ?_
            intro v2019 h2020
            refine tr_aload_n dX12_readCall_91 rfl ?_
            refine tr_getR dX12_readCall_92 fl12_188 (kR15 hS2000.1 ta0) d2 ?_
            refine q_getI dX12_readCall_95 fl12_192 (kR14 hS2000.1 ta1) ((hS2000.cell ta1 (by decide +kernel)).trans c30) ?_
            refine q_iconst dX12_readCall_98 (by decide) ?_
            intro v2021 h2022
            refine q_isubE dX12_readCall_99 (by intros; omega) ?_
            intro v2023 h2024
            refine q_callVi hE (M' := mX12_readPart) (as := [_, _, _]) dX12_readCall_100 lk12_249 inX12_readPart seX12_readPart myX12_readPart (by decide) ⟨by decide, by decide⟩ rfl (kR15 hS2000.1 ta0) (Nat.le_of_ble_eq_true rfl) rfl rfl (by decide) (by decide) (k_X12_readPart hS2000.1 ta0 (by decide)) ?_
            rintro v2029 cn' K' N' I2025 R2026 L2027 ⟨rfl, rfl, rfl, rfl, g2028, p2030, w2031, -⟩
            have hS2032 := hS2000.tr g2028 (by decide +kernel) (by decide +kernel)
            have c2033 : I2025 a1 5 = v49 := (g2028.cell ta1 (by decide +kernel)).trans c2001
            have b2034 : 0 ≤ v2029.toInt ∧ v2029.toInt ≤ 239 := by omega
            clear p2030
            have hO2035 : FrO 14 a1 T I0 I2025 := hO2010.st g2028 (by decide +kernel)
            have ov2036 := w2031.over (by rw [c2013]; omega)
            obtain ⟨v2037, c2038⟩ : ∃ v, I2025 a0 9 = v := ⟨_, rfl⟩
            have b2039 := iv15_9 hS2032.1 ta0 c2038
            obtain ⟨v2040, c2041⟩ : ∃ v, I2025 a0 13 = v := ⟨_, rfl⟩
            obtain ⟨v2042, c2043⟩ : ∃ v, I2025 a0 14 = v := ⟨_, rfl⟩
            (try rw [c2038] at ov2036)
            (try rw [c2041] at ov2036)
            (try rw [c2043] at ov2036)
            (try rw [c2013] at ov2036)
            (try rw [c2016] at ov2036)
            (try rw [c2018] at ov2036)
            refine tr_istore_n dX12_readCall_103 (by decide) (by decide) ?_
            refine tr_aload_n dX12_readCall_104 rfl ?_
            refine tr_ldcwS dX12_readCall_105 ld12_354 ?_
            refine q_iconst dX12_readCall_108 (by decide) ?_
            intro v2044 h2045
            refine q_bipush dX12_readCall_109 (by decide +kernel) ?_
            intro v2046 h2047
            refine q_callVi hE (M' := mX12_readPart) (as := [_, _, _]) dX12_readCall_111 lk12_249 inX12_readPart seX12_readPart myX12_readPart (by decide) ⟨by decide, by decide⟩ rfl (kR15 hS2032.1 ta0) (Nat.le_of_ble_eq_true rfl) rfl rfl (by decide) (by decide) (k_X12_readPart hS2032.1 ta0 (by decide)) ?_
            rintro v2052 cn' K' N' I2048 R2049 L2050 ⟨rfl, rfl, rfl, rfl, g2051, p2053, w2054, -⟩
            have hS2055 := hS2032.tr g2051 (by decide +kernel) (by decide +kernel)
            have c2056 : I2048 a1 5 = v49 := (g2051.cell ta1 (by decide +kernel)).trans c2033
            have b2057 : 1 ≤ v2052.toInt ∧ v2052.toInt ≤ 60 := by omega
            clear p2053
            have hO2058 : FrO 14 a1 T I0 I2048 := hO2035.st g2051 (by decide +kernel)
            have ov2059 := w2054.over (by rw [c2038]; omega)
            obtain ⟨v2060, c2061⟩ : ∃ v, I2048 a0 9 = v := ⟨_, rfl⟩
            have b2062 := iv15_9 hS2055.1 ta0 c2061
            obtain ⟨v2063, c2064⟩ : ∃ v, I2048 a0 13 = v := ⟨_, rfl⟩
            obtain ⟨v2065, c2066⟩ : ∃ v, I2048 a0 14 = v := ⟨_, rfl⟩
            (try rw [c2061] at ov2059)
            (try rw [c2064] at ov2059)
            (try rw [c2066] at ov2059)
            (try rw [c2038] at ov2059)
            (try rw [c2041] at ov2059)
            (try rw [c2043] at ov2059)
            refine tr_istore dX12_readCall_114 (by decide) (by decide) ?_
            refine tr_aload_n dX12_readCall_116 rfl ?_
            refine tr_ldcwS dX12_readCall_117 ld12_356 ?_
            refine q_iconst dX12_readCall_120 (by decide) ?_
            intro v2067 h2068
            refine q_bipush dX12_readCall_121 (by decide +kernel) ?_
            intro v2069 h2070
            refine q_callVi hE (M' := mX12_readPart) (as := [_, _, _]) dX12_readCall_123 lk12_249 inX12_readPart seX12_readPart myX12_readPart (by decide) ⟨by decide, by decide⟩ rfl (kR15 hS2055.1 ta0) (Nat.le_of_ble_eq_true rfl) rfl rfl (by decide) (by decide) (k_X12_readPart hS2055.1 ta0 (by decide)) ?_
            rintro v2075 cn' K' N' I2071 R2072 L2073 ⟨rfl, rfl, rfl, rfl, g2074, p2076, w2077, -⟩
            have hS2078 := hS2055.tr g2074 (by decide +kernel) (by decide +kernel)
            have c2079 : I2071 a1 5 = v49 := (g2074.cell ta1 (by decide +kernel)).trans c2056
            have b2080 : 0 ≤ v2075.toInt ∧ v2075.toInt ≤ 99 := by omega
            clear p2076
            have hO2081 : FrO 14 a1 T I0 I2071 := hO2058.st g2074 (by decide +kernel)
            have ov2082 := w2077.over (by rw [c2061]; omega)
            obtain ⟨v2083, c2084⟩ : ∃ v, I2071 a0 9 = v := ⟨_, rfl⟩
            have b2085 := iv15_9 hS2078.1 ta0 c2084
            obtain ⟨v2086, c2087⟩ : ∃ v, I2071 a0 13 = v := ⟨_, rfl⟩
            obtain ⟨v2088, c2089⟩ : ∃ v, I2071 a0 14 = v := ⟨_, rfl⟩
            (try rw [c2084] at ov2082)
            (try rw [c2087] at ov2082)
            (try rw [c2089] at ov2082)
            (try rw [c2061] at ov2082)
            (try rw [c2064] at ov2082)
            (try rw [c2066] at ov2082)
            refine tr_istore dX12_readCall_126 (by decide) (by decide) ?_
            refine tr_aload_n dX12_readCall_128 rfl ?_
            refine q_getI dX12_readCall_129 fl12_99 (kR15 hS2078.1 ta0) c2084 ?_
            refine q_iconst dX12_readCall_132 (by decide) ?_
            intro v2090 h2091
            refine q_icmp_ne 137 dX12_readCall_133 (by decide) (fun h2092 => ?_) (fun h2092 => ?_)
            · skip
              exfalso; omega
            · skip
              have eF := hF.eq
              have eP := hP.eq
              obtain ⟨v2093, c2094⟩ : ∃ v, I2071 a0 10 = v := ⟨_, rfl⟩
              have b2095 := iv15_10 hS2078.1 ta0 c2094
              obtain ⟨v2096, c2097⟩ : ∃ v, I2071 a0 11 = v := ⟨_, rfl⟩
              obtain ⟨y2098, c2099⟩ : ∃ v, L2073 a0 15 = v := ⟨_, rfl⟩
              obtain ⟨v2100, c2101⟩ : ∃ v, I2071 a0 12 = v := ⟨_, rfl⟩
              obtain ⟨v2102, c2103⟩ : ∃ v, I2071 a0 8 = v := ⟨_, rfl⟩
              have b2104 := iv15_8 hS2078.1 ta0 c2103
              exact tr_vret hZ dX12_readCall_136 rfl (by decide) (by decide) ⟨rfl, rfl, rfl, rfl, rfl, hS2078, (fun b hb => (Option.some.inj (d2.symm.trans hb)) ▸ (((((((FrM.rf (R := R0) (b := a1) (T := T)).st g79 (by decide +kernel)).st g1966 (by decide +kernel)).st g1994 (by decide +kernel)).st g2028 (by decide +kernel)).st g2051 (by decide +kernel)).st g2074 (by decide +kernel))), (fun dr hd => (Option.some.inj (d2.symm.trans hd)) ▸ hO2081), (Or.inr (⟨(by first | done | with_reducible assumption | omega), (by (try rw [c2084]); first | done | with_reducible assumption | omega), (by (try rw [c2087]); first | done | with_reducible assumption | omega), (by (try rw [c2089]); first | done | with_reducible assumption | omega), trivial⟩)), trivial⟩
    · skip
      refine tr_aload_n dX12_readCall_20 rfl ?_
      refine q_iconst dX12_readCall_21 (by decide) ?_
      intro v2105 h2106
      obtain ⟨v2107, c2108⟩ : ∃ v, I76 a0 8 = v := ⟨_, rfl⟩
      have b2109 := iv15_8 hS84.1 ta0 c2108
      refine q_callVv hE (M' := mX12_flaw) (as := [_]) dX12_readCall_22 lk12_145 inX12_flaw seX12_flaw myX12_flaw (by decide) ⟨by decide, by decide⟩ rfl (kR15 hS84.1 ta0) (Nat.le_of_ble_eq_true rfl) rfl rfl (by decide) (by decide) (k_X12_flaw hS84.1 ta0 (by omega)) ?_
      rintro cn' K' N' I2110 R2111 L2112 ⟨rfl, rfl, rfl, rfl, rfl, g2113, p2115, p2116, w2117, -⟩
      have hS2118 := hS84.tr g2113 (by decide +kernel) (by decide +kernel)
      have c2119 : I2110 a1 5 = v49 := (g2113.cell ta1 (by decide +kernel)).trans c85
      have c2120 : I2110 a0 8 = v2107 := (g2113.cell ta0 (by decide +kernel)).trans c2108
      obtain ⟨v2121, c2122⟩ : ∃ v, I2110 a0 9 = v := ⟨_, rfl⟩
      have b2123 := iv15_9 hS2118.1 ta0 c2122
      rw [c2122] at p2115
      rw [c2120] at p2116
      rw [c2108] at p2116
      have hO2124 : FrO 14 a1 T I0 I2110 := hO86.st g2113 (by decide +kernel)
      have ov2125 := w2117.over (by rw [c1656]; omega)
      obtain ⟨v2126, c2127⟩ : ∃ v, I2110 a0 9 = v := ⟨_, rfl⟩
      have b2128 := iv15_9 hS2118.1 ta0 c2127
      obtain ⟨v2129, c2130⟩ : ∃ v, I2110 a0 13 = v := ⟨_, rfl⟩
      obtain ⟨v2131, c2132⟩ : ∃ v, I2110 a0 14 = v := ⟨_, rfl⟩
      (try rw [c2127] at ov2125)
      (try rw [c2130] at ov2125)
      (try rw [c2132] at ov2125)
      (try rw [c1656] at ov2125)
      (try rw [c1659] at ov2125)
      (try rw [c1661] at ov2125)
      refine tr_aload_n dX12_readCall_25 rfl ?_
      refine tr_getR dX12_readCall_26 fl12_188 (kR15 hS2118.1 ta0) d2 ?_
      refine tr_aload_n dX12_readCall_29 rfl ?_
      have p2133 := p17 (by omega)
      obtain ⟨y2134, c2135⟩ : ∃ v, L78 a0 15 = v := ⟨_, rfl⟩
      refine q_getLE dX12_readCall_30 fl12_118 (kR15 hS2118.1 ta0) c2135 ?_
      refine q_callVi hE (M' := mX11_find) (as := [_]) dX12_readCall_33 lk12_201 inX11_find seX11_find myX11_find (by decide) ⟨by decide, by decide⟩ rfl (kR14 hS2118.1 ta1) (Nat.le_of_ble_eq_true rfl) rfl rfl (by decide) (by decide) (k_X11_find hS2118.1 ta1) ?_
      rintro v2140 cn' K' N' I2136 R2137 L2138 ⟨rfl, rfl, rfl, rfl, rfl, rfl, h2141, -⟩
      refine tr_istore_n dX12_readCall_36 (by decide) (by decide) ?_
      refine tr_iload_n dX12_readCall_37 rfl ?_
      refine q_iconst dX12_readCall_38 (by decide) ?_
      intro v2142 h2143
      refine q_icmp_eq 55 dX12_readCall_39 (by decide) (fun h2144 => ?_) (fun h2144 => ?_)
      · skip
        refine tr_aload_n dX12_readCall_55 rfl ?_
        refine q_iconst dX12_readCall_56 (by decide) ?_
        intro v2145 h2146
        refine q_callVv hE (M' := mX12_flaw) (as := [_]) dX12_readCall_57 lk12_145 inX12_flaw seX12_flaw myX12_flaw (by decide) ⟨by decide, by decide⟩ rfl (kR15 hS2118.1 ta0) (Nat.le_of_ble_eq_true rfl) rfl rfl (by decide) (by decide) (k_X12_flaw hS2118.1 ta0 (by omega)) ?_
        rintro cn' K' N' I2147 R2148 L2149 ⟨rfl, rfl, rfl, rfl, rfl, g2150, p2152, p2153, w2154, -⟩
        have hS2155 := hS2118.tr g2150 (by decide +kernel) (by decide +kernel)
        have c2156 : I2147 a1 5 = v49 := (g2150.cell ta1 (by decide +kernel)).trans c2119
        have c2157 : I2147 a0 8 = v2107 := (g2150.cell ta0 (by decide +kernel)).trans c2120
        obtain ⟨v2158, c2159⟩ : ∃ v, I2147 a0 9 = v := ⟨_, rfl⟩
        have b2160 := iv15_9 hS2155.1 ta0 c2159
        rw [c2159] at p2152
        rw [c2157] at p2153
        rw [c2120] at p2153
        have hO2161 : FrO 14 a1 T I0 I2147 := hO2124.st g2150 (by decide +kernel)
        have ov2162 := w2154.over (by rw [c2127]; omega)
        obtain ⟨v2163, c2164⟩ : ∃ v, I2147 a0 9 = v := ⟨_, rfl⟩
        have b2165 := iv15_9 hS2155.1 ta0 c2164
        obtain ⟨v2166, c2167⟩ : ∃ v, I2147 a0 13 = v := ⟨_, rfl⟩
        obtain ⟨v2168, c2169⟩ : ∃ v, I2147 a0 14 = v := ⟨_, rfl⟩
        (try rw [c2164] at ov2162)
        (try rw [c2167] at ov2162)
        (try rw [c2169] at ov2162)
        (try rw [c2127] at ov2162)
        (try rw [c2130] at ov2162)
        (try rw [c2132] at ov2162)
        refine tr_aload_n dX12_readCall_60 rfl ?_
        refine q_getI dX12_readCall_61 fl12_99 (kR15 hS2155.1 ta0) c2164 ?_
        refine q_iconst dX12_readCall_64 (by decide) ?_
        intro v2170 h2171
        refine q_icmp_ne 72 dX12_readCall_65 (by decide) (fun h2172 => ?_) (fun h2172 => ?_)
        · skip
          exfalso; omega
        · skip
          refine q_iconst dX12_readCall_68 (by decide) ?_
          intro v2173 h2174
          refine tr_goto 81 dX12_readCall_69 (by decide) ?_
          refine tr_istore_n dX12_readCall_81 (by decide) (by decide) ?_
          refine tr_aload_n dX12_readCall_82 rfl ?_
          refine q_callVv hE (M' := mX12_goesOn) (as := []) dX12_readCall_83 lk12_142 inX12_goesOn seX12_goesOn myX12_goesOn (by decide) ⟨by decide, by decide⟩ rfl (kR15 hS2155.1 ta0) (Nat.le_of_ble_eq_true rfl) rfl rfl (by decide) (by decide) (k_X12_goesOn hS2155.1 ta0) ?_
          rintro cn' K' N' I2175 R2176 L2177 ⟨rfl, rfl, rfl, rfl, g2178, p2180, p2181, p2182, w2183, -⟩
          have hS2184 := hS2155.tr g2178 (by decide +kernel) (by decide +kernel)
          have c2185 : I2175 a1 5 = v49 := (g2178.cell ta1 (by decide +kernel)).trans c2156
          have c2186 : I2175 a0 13 = v2166 := (g2178.cell ta0 (by decide +kernel)).trans c2167
          have c2187 : I2175 a0 14 = v2168 := (g2178.cell ta0 (by decide +kernel)).trans c2169
          obtain ⟨v2188, c2189⟩ : ∃ v, I2175 a0 9 = v := ⟨_, rfl⟩
          have b2190 := iv15_9 hS2184.1 ta0 c2189
          rw [c2164] at p2180
          rw [c2189] at p2180
          rw [c2164] at p2181
          rw [c2189] at p2181
          obtain ⟨v2191, c2192⟩ : ∃ v, I2175 a0 8 = v := ⟨_, rfl⟩
          have b2193 := iv15_8 hS2184.1 ta0 c2192
          rw [c2192] at p2182
          rw [c2157] at p2182
          rw [c2186] at p2182
          rw [c2167] at p2182
          have hO2194 : FrO 14 a1 T I0 I2175 := hO2161.st g2178 (by decide +kernel)
          have ov2195 := w2183.over (by rw [c2164]; omega)
          obtain ⟨v2196, c2197⟩ : ∃ v, I2175 a0 9 = v := ⟨_, rfl⟩
          have b2198 := iv15_9 hS2184.1 ta0 c2197
          obtain ⟨v2199, c2200⟩ : ∃ v, I2175 a0 13 = v := ⟨_, rfl⟩
          obtain ⟨v2201, c2202⟩ : ∃ v, I2175 a0 14 = v := ⟨_, rfl⟩
          (try rw [c2197] at ov2195)
          (try rw [c2200] at ov2195)
          (try rw [c2202] at ov2195)
          (try rw [c2164] at ov2195)
          (try rw [c2167] at ov2195)
          (try rw [c2169] at ov2195)
          refine tr_aload_n dX12_readCall_86 rfl ?_
          refine tr_ldcwS dX12_readCall_87 ld12_352 ?_
          refine q_iconst dX12_readCall_90 (by decide) ?_
          intro v2203 h2204
          refine tr_aload_n dX12_readCall_91 rfl ?_
          refine tr_getR dX12_readCall_92 fl12_188 (kR15 hS2184.1 ta0) d2 ?_
          refine q_getI dX12_readCall_95 fl12_192 (kR14 hS2184.1 ta1) ((hS2184.cell ta1 (by decide +kernel)).trans c30) ?_
          refine q_iconst dX12_readCall_98 (by decide) ?_
          intro v2205 h2206
          refine q_isubE dX12_readCall_99 (by intros; omega) ?_
          intro v2207 h2208
          refine q_callVi hE (M' := mX12_readPart) (as := [_, _, _]) dX12_readCall_100 lk12_249 inX12_readPart seX12_readPart myX12_readPart (by decide) ⟨by decide, by decide⟩ rfl (kR15 hS2184.1 ta0) (Nat.le_of_ble_eq_true rfl) rfl rfl (by decide) (by decide) (k_X12_readPart hS2184.1 ta0 (by decide)) ?_
          rintro v2213 cn' K' N' I2209 R2210 L2211 ⟨rfl, rfl, rfl, rfl, g2212, p2214, w2215, -⟩
          have hS2216 := hS2184.tr g2212 (by decide +kernel) (by decide +kernel)
          have c2217 : I2209 a1 5 = v49 := (g2212.cell ta1 (by decide +kernel)).trans c2185
          have b2218 : 0 ≤ v2213.toInt ∧ v2213.toInt ≤ 239 := by omega
          clear p2214
          have hO2219 : FrO 14 a1 T I0 I2209 := hO2194.st g2212 (by decide +kernel)
          have ov2220 := w2215.over (by rw [c2197]; omega)
          obtain ⟨v2221, c2222⟩ : ∃ v, I2209 a0 9 = v := ⟨_, rfl⟩
          have b2223 := iv15_9 hS2216.1 ta0 c2222
          obtain ⟨v2224, c2225⟩ : ∃ v, I2209 a0 13 = v := ⟨_, rfl⟩
          obtain ⟨v2226, c2227⟩ : ∃ v, I2209 a0 14 = v := ⟨_, rfl⟩
          (try rw [c2222] at ov2220)
          (try rw [c2225] at ov2220)
          (try rw [c2227] at ov2220)
          (try rw [c2197] at ov2220)
          (try rw [c2200] at ov2220)
          (try rw [c2202] at ov2220)
          refine tr_istore_n dX12_readCall_103 (by decide) (by decide) ?_
          refine tr_aload_n dX12_readCall_104 rfl ?_
          refine tr_ldcwS dX12_readCall_105 ld12_354 ?_
          refine q_iconst dX12_readCall_108 (by decide) ?_
          intro v2228 h2229
          refine q_bipush dX12_readCall_109 (by decide +kernel) ?_
          intro v2230 h2231
          refine q_callVi hE (M' := mX12_readPart) (as := [_, _, _]) dX12_readCall_111 lk12_249 inX12_readPart seX12_readPart myX12_readPart (by decide) ⟨by decide, by decide⟩ rfl (kR15 hS2216.1 ta0) (Nat.le_of_ble_eq_true rfl) rfl rfl (by decide) (by decide) (k_X12_readPart hS2216.1 ta0 (by decide)) ?_
          rintro v2236 cn' K' N' I2232 R2233 L2234 ⟨rfl, rfl, rfl, rfl, g2235, p2237, w2238, -⟩
          have hS2239 := hS2216.tr g2235 (by decide +kernel) (by decide +kernel)
          have c2240 : I2232 a1 5 = v49 := (g2235.cell ta1 (by decide +kernel)).trans c2217
          have b2241 : 1 ≤ v2236.toInt ∧ v2236.toInt ≤ 60 := by omega
          clear p2237
          have hO2242 : FrO 14 a1 T I0 I2232 := hO2219.st g2235 (by decide +kernel)
          have ov2243 := w2238.over (by rw [c2222]; omega)
          obtain ⟨v2244, c2245⟩ : ∃ v, I2232 a0 9 = v := ⟨_, rfl⟩
          have b2246 := iv15_9 hS2239.1 ta0 c2245
          obtain ⟨v2247, c2248⟩ : ∃ v, I2232 a0 13 = v := ⟨_, rfl⟩
          obtain ⟨v2249, c2250⟩ : ∃ v, I2232 a0 14 = v := ⟨_, rfl⟩
          (try rw [c2245] at ov2243)
          (try rw [c2248] at ov2243)
          (try rw [c2250] at ov2243)
          (try rw [c2222] at ov2243)
          (try rw [c2225] at ov2243)
          (try rw [c2227] at ov2243)
          refine tr_istore dX12_readCall_114 (by decide) (by decide) ?_
          refine tr_aload_n dX12_readCall_116 rfl ?_
          refine tr_ldcwS dX12_readCall_117 ld12_356 ?_
          refine q_iconst dX12_readCall_120 (by decide) ?_
          intro v2251 h2252
          refine q_bipush dX12_readCall_121 (by decide +kernel) ?_
          intro v2253 h2254
          refine q_callVi hE (M' := mX12_readPart) (as := [_, _, _]) dX12_readCall_123 lk12_249 inX12_readPart seX12_readPart myX12_readPart (by decide) ⟨by decide, by decide⟩ rfl (kR15 hS2239.1 ta0) (Nat.le_of_ble_eq_true rfl) rfl rfl (by decide) (by decide) (k_X12_readPart hS2239.1 ta0 (by decide)) ?_
          rintro v2259 cn' K' N' I2255 R2256 L2257 ⟨rfl, rfl, rfl, rfl, g2258, p2260, w2261, -⟩
          have hS2262 := hS2239.tr g2258 (by decide +kernel) (by decide +kernel)
          have c2263 : I2255 a1 5 = v49 := (g2258.cell ta1 (by decide +kernel)).trans c2240
          have b2264 : 0 ≤ v2259.toInt ∧ v2259.toInt ≤ 99 := by omega
          clear p2260
          have hO2265 : FrO 14 a1 T I0 I2255 := hO2242.st g2258 (by decide +kernel)
          have ov2266 := w2261.over (by rw [c2245]; omega)
          obtain ⟨v2267, c2268⟩ : ∃ v, I2255 a0 9 = v := ⟨_, rfl⟩
          have b2269 := iv15_9 hS2262.1 ta0 c2268
          obtain ⟨v2270, c2271⟩ : ∃ v, I2255 a0 13 = v := ⟨_, rfl⟩
          obtain ⟨v2272, c2273⟩ : ∃ v, I2255 a0 14 = v := ⟨_, rfl⟩
          (try rw [c2268] at ov2266)
          (try rw [c2271] at ov2266)
          (try rw [c2273] at ov2266)
          (try rw [c2245] at ov2266)
          (try rw [c2248] at ov2266)
          (try rw [c2250] at ov2266)
          refine tr_istore dX12_readCall_126 (by decide) (by decide) ?_
          refine tr_aload_n dX12_readCall_128 rfl ?_
          refine q_getI dX12_readCall_129 fl12_99 (kR15 hS2262.1 ta0) c2268 ?_
          refine q_iconst dX12_readCall_132 (by decide) ?_
          intro v2274 h2275
          refine q_icmp_ne 137 dX12_readCall_133 (by decide) (fun h2276 => ?_) (fun h2276 => ?_)
          · skip
            exfalso; omega
          · skip
            have eF := hF.eq
            have eP := hP.eq
            obtain ⟨v2277, c2278⟩ : ∃ v, I2255 a0 10 = v := ⟨_, rfl⟩
            have b2279 := iv15_10 hS2262.1 ta0 c2278
            obtain ⟨v2280, c2281⟩ : ∃ v, I2255 a0 11 = v := ⟨_, rfl⟩
            obtain ⟨y2282, c2283⟩ : ∃ v, L2257 a0 15 = v := ⟨_, rfl⟩
            obtain ⟨v2284, c2285⟩ : ∃ v, I2255 a0 12 = v := ⟨_, rfl⟩
            obtain ⟨v2286, c2287⟩ : ∃ v, I2255 a0 8 = v := ⟨_, rfl⟩
            have b2288 := iv15_8 hS2262.1 ta0 c2287
            exact tr_vret hZ dX12_readCall_136 rfl (by decide) (by decide) ⟨rfl, rfl, rfl, rfl, rfl, hS2262, (fun b hb => (Option.some.inj (d2.symm.trans hb)) ▸ ((((((((FrM.rf (R := R0) (b := a1) (T := T)).st g79 (by decide +kernel)).st g2113 (by decide +kernel)).st g2150 (by decide +kernel)).st g2178 (by decide +kernel)).st g2212 (by decide +kernel)).st g2235 (by decide +kernel)).st g2258 (by decide +kernel))), (fun dr hd => (Option.some.inj (d2.symm.trans hd)) ▸ hO2265), (Or.inr (⟨(by first | done | with_reducible assumption | omega), (by (try rw [c2268]); first | done | with_reducible assumption | omega), (by (try rw [c2271]); first | done | with_reducible assumption | omega), (by (try rw [c2273]); first | done | with_reducible assumption | omega), trivial⟩)), trivial⟩
      · skip
        refine tr_aload_n dX12_readCall_42 rfl ?_
        refine tr_getR dX12_readCall_43 fl12_188 (kR15 hS2118.1 ta0) d2 ?_
        obtain ⟨a2289, d2290, ta2289⟩ := rf14_31 hW0 ta1
        refine tr_getR dX12_readCall_46 fl12_212 (kR14 hS2118.1 ta1) d2290 ?_
        refine tr_iload_n dX12_readCall_49 rfl ?_
        refine q_iald dX12_readCall_50 (kR74 hS2118.1 ta2289) (ti_in (nR74 hS2118.1 ta2289) (by omega) (by omega)) ?_
        intro v2291 c2292
        refine q_iconst dX12_readCall_51 (by decide) ?_
        intro v2293 h2294
        refine q_icmp_eq 60 dX12_readCall_52 (by decide) (fun h2295 => ?_) (fun h2295 => ?_)
        · skip
          refine tr_aload_n dX12_readCall_60 rfl ?_
          refine q_getI dX12_readCall_61 fl12_99 (kR15 hS2118.1 ta0) c2127 ?_
          refine q_iconst dX12_readCall_64 (by decide) ?_
          intro v2296 h2297
          refine q_icmp_ne 72 dX12_readCall_65 (by decide) (fun h2298 => ?_) (fun h2298 => ?_)
          · skip
            exfalso; omega
          · skip
            refine q_iconst dX12_readCall_68 (by decide) ?_
            intro v2299 h2300
            refine tr_goto 81 dX12_readCall_69 (by decide) ?_
            refine tr_istore_n dX12_readCall_81 (by decide) (by decide) ?_
            refine tr_aload_n dX12_readCall_82 rfl ?_
            refine q_callVv hE (M' := mX12_goesOn) (as := []) dX12_readCall_83 lk12_142 inX12_goesOn seX12_goesOn myX12_goesOn (by decide) ⟨by decide, by decide⟩ rfl (kR15 hS2118.1 ta0) (Nat.le_of_ble_eq_true rfl) rfl rfl (by decide) (by decide) (k_X12_goesOn hS2118.1 ta0) ?_
            rintro cn' K' N' I2301 R2302 L2303 ⟨rfl, rfl, rfl, rfl, g2304, p2306, p2307, p2308, w2309, -⟩
            have hS2310 := hS2118.tr g2304 (by decide +kernel) (by decide +kernel)
            have c2311 : I2301 a1 5 = v49 := (g2304.cell ta1 (by decide +kernel)).trans c2119
            have c2312 : I2301 a0 13 = v2129 := (g2304.cell ta0 (by decide +kernel)).trans c2130
            have c2313 : I2301 a0 14 = v2131 := (g2304.cell ta0 (by decide +kernel)).trans c2132
            obtain ⟨v2314, c2315⟩ : ∃ v, I2301 a0 9 = v := ⟨_, rfl⟩
            have b2316 := iv15_9 hS2310.1 ta0 c2315
            rw [c2127] at p2306
            rw [c2315] at p2306
            rw [c2127] at p2307
            rw [c2315] at p2307
            obtain ⟨v2317, c2318⟩ : ∃ v, I2301 a0 8 = v := ⟨_, rfl⟩
            have b2319 := iv15_8 hS2310.1 ta0 c2318
            rw [c2318] at p2308
            rw [c2120] at p2308
            rw [c2312] at p2308
            rw [c2130] at p2308
            have hO2320 : FrO 14 a1 T I0 I2301 := hO2124.st g2304 (by decide +kernel)
            have ov2321 := w2309.over (by rw [c2127]; omega)
            obtain ⟨v2322, c2323⟩ : ∃ v, I2301 a0 9 = v := ⟨_, rfl⟩
            have b2324 := iv15_9 hS2310.1 ta0 c2323
            obtain ⟨v2325, c2326⟩ : ∃ v, I2301 a0 13 = v := ⟨_, rfl⟩
            obtain ⟨v2327, c2328⟩ : ∃ v, I2301 a0 14 = v := ⟨_, rfl⟩
            (try rw [c2323] at ov2321)
            (try rw [c2326] at ov2321)
            (try rw [c2328] at ov2321)
            (try rw [c2127] at ov2321)
            (try rw [c2130] at ov2321)
            (try rw [c2132] at ov2321)
            refine tr_aload_n dX12_readCall_86 rfl ?_
            refine tr_ldcwS dX12_readCall_87 ld12_352 ?_
            refine q_iconst dX12_readCall_90 (by decide) ?_
            intro v2329 h2330
            refine tr_aload_n dX12_readCall_91 rfl ?_
            refine tr_getR dX12_readCall_92 fl12_188 (kR15 hS2310.1 ta0) d2 ?_
            refine q_getI dX12_readCall_95 fl12_192 (kR14 hS2310.1 ta1) ((hS2310.cell ta1 (by decide +kernel)).trans c30) ?_
            refine q_iconst dX12_readCall_98 (by decide) ?_
            intro v2331 h2332
            refine q_isubE dX12_readCall_99 (by intros; omega) ?_
            intro v2333 h2334
            refine q_callVi hE (M' := mX12_readPart) (as := [_, _, _]) dX12_readCall_100 lk12_249 inX12_readPart seX12_readPart myX12_readPart (by decide) ⟨by decide, by decide⟩ rfl (kR15 hS2310.1 ta0) (Nat.le_of_ble_eq_true rfl) rfl rfl (by decide) (by decide) (k_X12_readPart hS2310.1 ta0 (by decide)) ?_
            rintro v2339 cn' K' N' I2335 R2336 L2337 ⟨rfl, rfl, rfl, rfl, g2338, p2340, w2341, -⟩
            have hS2342 := hS2310.tr g2338 (by decide +kernel) (by decide +kernel)
            have c2343 : I2335 a1 5 = v49 := (g2338.cell ta1 (by decide +kernel)).trans c2311
            have b2344 : 0 ≤ v2339.toInt ∧ v2339.toInt ≤ 239 := by omega
            clear p2340
            have hO2345 : FrO 14 a1 T I0 I2335 := hO2320.st g2338 (by decide +kernel)
            have ov2346 := w2341.over (by rw [c2323]; omega)
            obtain ⟨v2347, c2348⟩ : ∃ v, I2335 a0 9 = v := ⟨_, rfl⟩
            have b2349 := iv15_9 hS2342.1 ta0 c2348
            obtain ⟨v2350, c2351⟩ : ∃ v, I2335 a0 13 = v := ⟨_, rfl⟩
            obtain ⟨v2352, c2353⟩ : ∃ v, I2335 a0 14 = v := ⟨_, rfl⟩
            (try rw [c2348] at ov2346)
            (try rw [c2351] at ov2346)
            (try rw [c2353] at ov2346)
            (try rw [c2323] at ov2346)
            (try rw [c2326] at ov2346)
            (try rw [c2328] at ov2346)
            refine tr_istore_n dX12_readCall_103 (by decide) (by decide) ?_
            refine tr_aload_n dX12_readCall_104 rfl ?_
            refine tr_ldcwS dX12_readCall_105 ld12_354 ?_
            refine q_iconst dX12_readCall_108 (by decide) ?_
            intro v2354 h2355
            refine q_bipush dX12_readCall_109 (by decide +kernel) ?_
            intro v2356 h2357
            refine q_callVi hE (M' := mX12_readPart) (as := [_, _, _]) dX12_readCall_111 lk12_249 inX12_readPart seX12_readPart myX12_readPart (by decide) ⟨by decide, by decide⟩ rfl (kR15 hS2342.1 ta0) (Nat.le_of_ble_eq_true rfl) rfl rfl (by decide) (by decide) (k_X12_readPart hS2342.1 ta0 (by decide)) ?_
            rintro v2362 cn' K' N' I2358 R2359 L2360 ⟨rfl, rfl, rfl, rfl, g2361, p2363, w2364, -⟩
            have hS2365 := hS2342.tr g2361 (by decide +kernel) (by decide +kernel)
            have c2366 : I2358 a1 5 = v49 := (g2361.cell ta1 (by decide +kernel)).trans c2343
            have b2367 : 1 ≤ v2362.toInt ∧ v2362.toInt ≤ 60 := by omega
            clear p2363
            have hO2368 : FrO 14 a1 T I0 I2358 := hO2345.st g2361 (by decide +kernel)
            have ov2369 := w2364.over (by rw [c2348]; omega)
            obtain ⟨v2370, c2371⟩ : ∃ v, I2358 a0 9 = v := ⟨_, rfl⟩
            have b2372 := iv15_9 hS2365.1 ta0 c2371
            obtain ⟨v2373, c2374⟩ : ∃ v, I2358 a0 13 = v := ⟨_, rfl⟩
            obtain ⟨v2375, c2376⟩ : ∃ v, I2358 a0 14 = v := ⟨_, rfl⟩
            (try rw [c2371] at ov2369)
            (try rw [c2374] at ov2369)
            (try rw [c2376] at ov2369)
            (try rw [c2348] at ov2369)
            (try rw [c2351] at ov2369)
            (try rw [c2353] at ov2369)
            refine tr_istore dX12_readCall_114 (by decide) (by decide) ?_
            refine tr_aload_n dX12_readCall_116 rfl ?_
            refine tr_ldcwS dX12_readCall_117 ld12_356 ?_
            refine q_iconst dX12_readCall_120 (by decide) ?_
            intro v2377 h2378
            refine q_bipush dX12_readCall_121 (by decide +kernel) ?_
            intro v2379 h2380
            refine q_callVi hE (M' := mX12_readPart) (as := [_, _, _]) dX12_readCall_123 lk12_249 inX12_readPart seX12_readPart myX12_readPart (by decide) ⟨by decide, by decide⟩ rfl (kR15 hS2365.1 ta0) (Nat.le_of_ble_eq_true rfl) rfl rfl (by decide) (by decide) (k_X12_readPart hS2365.1 ta0 (by decide)) ?_
            rintro v2385 cn' K' N' I2381 R2382 L2383 ⟨rfl, rfl, rfl, rfl, g2384, p2386, w2387, -⟩
            have hS2388 := hS2365.tr g2384 (by decide +kernel) (by decide +kernel)
            have c2389 : I2381 a1 5 = v49 := (g2384.cell ta1 (by decide +kernel)).trans c2366
            have b2390 : 0 ≤ v2385.toInt ∧ v2385.toInt ≤ 99 := by omega
            clear p2386
            have hO2391 : FrO 14 a1 T I0 I2381 := hO2368.st g2384 (by decide +kernel)
            have ov2392 := w2387.over (by rw [c2371]; omega)
            obtain ⟨v2393, c2394⟩ : ∃ v, I2381 a0 9 = v := ⟨_, rfl⟩
            have b2395 := iv15_9 hS2388.1 ta0 c2394
            obtain ⟨v2396, c2397⟩ : ∃ v, I2381 a0 13 = v := ⟨_, rfl⟩
            obtain ⟨v2398, c2399⟩ : ∃ v, I2381 a0 14 = v := ⟨_, rfl⟩
            (try rw [c2394] at ov2392)
            (try rw [c2397] at ov2392)
            (try rw [c2399] at ov2392)
            (try rw [c2371] at ov2392)
            (try rw [c2374] at ov2392)
            (try rw [c2376] at ov2392)
            refine tr_istore dX12_readCall_126 (by decide) (by decide) ?_
            refine tr_aload_n dX12_readCall_128 rfl ?_
            refine q_getI dX12_readCall_129 fl12_99 (kR15 hS2388.1 ta0) c2394 ?_
            refine q_iconst dX12_readCall_132 (by decide) ?_
            intro v2400 h2401
            refine q_icmp_ne 137 dX12_readCall_133 (by decide) (fun h2402 => ?_) (fun h2402 => ?_)
            · skip
              exfalso; omega
            · skip
              have eF := hF.eq
              have eP := hP.eq
              obtain ⟨v2403, c2404⟩ : ∃ v, I2381 a0 10 = v := ⟨_, rfl⟩
              have b2405 := iv15_10 hS2388.1 ta0 c2404
              obtain ⟨v2406, c2407⟩ : ∃ v, I2381 a0 11 = v := ⟨_, rfl⟩
              obtain ⟨y2408, c2409⟩ : ∃ v, L2383 a0 15 = v := ⟨_, rfl⟩
              obtain ⟨v2410, c2411⟩ : ∃ v, I2381 a0 12 = v := ⟨_, rfl⟩
              obtain ⟨v2412, c2413⟩ : ∃ v, I2381 a0 8 = v := ⟨_, rfl⟩
              have b2414 := iv15_8 hS2388.1 ta0 c2413
              exact tr_vret hZ dX12_readCall_136 rfl (by decide) (by decide) ⟨rfl, rfl, rfl, rfl, rfl, hS2388, (fun b hb => (Option.some.inj (d2.symm.trans hb)) ▸ (((((((FrM.rf (R := R0) (b := a1) (T := T)).st g79 (by decide +kernel)).st g2113 (by decide +kernel)).st g2304 (by decide +kernel)).st g2338 (by decide +kernel)).st g2361 (by decide +kernel)).st g2384 (by decide +kernel))), (fun dr hd => (Option.some.inj (d2.symm.trans hd)) ▸ hO2391), (Or.inr (⟨(by first | done | with_reducible assumption | omega), (by (try rw [c2394]); first | done | with_reducible assumption | omega), (by (try rw [c2397]); first | done | with_reducible assumption | omega), (by (try rw [c2399]); first | done | with_reducible assumption | omega), trivial⟩)), trivial⟩
        · skip
          refine tr_aload_n dX12_readCall_55 rfl ?_
          refine q_iconst dX12_readCall_56 (by decide) ?_
          intro v2415 h2416
          refine q_callVv hE (M' := mX12_flaw) (as := [_]) dX12_readCall_57 lk12_145 inX12_flaw seX12_flaw myX12_flaw (by decide) ⟨by decide, by decide⟩ rfl (kR15 hS2118.1 ta0) (Nat.le_of_ble_eq_true rfl) rfl rfl (by decide) (by decide) (k_X12_flaw hS2118.1 ta0 (by omega)) ?_
          rintro cn' K' N' I2417 R2418 L2419 ⟨rfl, rfl, rfl, rfl, rfl, g2420, p2422, p2423, w2424, -⟩
          have hS2425 := hS2118.tr g2420 (by decide +kernel) (by decide +kernel)
          have c2426 : I2417 a1 5 = v49 := (g2420.cell ta1 (by decide +kernel)).trans c2119
          have c2427 : I2417 a0 8 = v2107 := (g2420.cell ta0 (by decide +kernel)).trans c2120
          obtain ⟨v2428, c2429⟩ : ∃ v, I2417 a0 9 = v := ⟨_, rfl⟩
          have b2430 := iv15_9 hS2425.1 ta0 c2429
          rw [c2429] at p2422
          rw [c2427] at p2423
          rw [c2120] at p2423
          have hO2431 : FrO 14 a1 T I0 I2417 := hO2124.st g2420 (by decide +kernel)
          have ov2432 := w2424.over (by rw [c2127]; omega)
          obtain ⟨v2433, c2434⟩ : ∃ v, I2417 a0 9 = v := ⟨_, rfl⟩
          have b2435 := iv15_9 hS2425.1 ta0 c2434
          obtain ⟨v2436, c2437⟩ : ∃ v, I2417 a0 13 = v := ⟨_, rfl⟩
          obtain ⟨v2438, c2439⟩ : ∃ v, I2417 a0 14 = v := ⟨_, rfl⟩
          (try rw [c2434] at ov2432)
          (try rw [c2437] at ov2432)
          (try rw [c2439] at ov2432)
          (try rw [c2127] at ov2432)
          (try rw [c2130] at ov2432)
          (try rw [c2132] at ov2432)
          refine tr_aload_n dX12_readCall_60 rfl ?_
          refine q_getI dX12_readCall_61 fl12_99 (kR15 hS2425.1 ta0) c2434 ?_
          refine q_iconst dX12_readCall_64 (by decide) ?_
          intro v2440 h2441
          refine q_icmp_ne 72 dX12_readCall_65 (by decide) (fun h2442 => ?_) (fun h2442 => ?_)
          · skip
            exfalso; omega
          · skip
            refine q_iconst dX12_readCall_68 (by decide) ?_
            intro v2443 h2444
            refine tr_goto 81 dX12_readCall_69 (by decide) ?_
            refine tr_istore_n dX12_readCall_81 (by decide) (by decide) ?_
            refine tr_aload_n dX12_readCall_82 rfl ?_
            refine q_callVv hE (M' := mX12_goesOn) (as := []) dX12_readCall_83 lk12_142 inX12_goesOn seX12_goesOn myX12_goesOn (by decide) ⟨by decide, by decide⟩ rfl (kR15 hS2425.1 ta0) (Nat.le_of_ble_eq_true rfl) rfl rfl (by decide) (by decide) (k_X12_goesOn hS2425.1 ta0) ?_
            rintro cn' K' N' I2445 R2446 L2447 ⟨rfl, rfl, rfl, rfl, g2448, p2450, p2451, p2452, w2453, -⟩
            have hS2454 := hS2425.tr g2448 (by decide +kernel) (by decide +kernel)
            have c2455 : I2445 a1 5 = v49 := (g2448.cell ta1 (by decide +kernel)).trans c2426
            have c2456 : I2445 a0 13 = v2436 := (g2448.cell ta0 (by decide +kernel)).trans c2437
            have c2457 : I2445 a0 14 = v2438 := (g2448.cell ta0 (by decide +kernel)).trans c2439
            obtain ⟨v2458, c2459⟩ : ∃ v, I2445 a0 9 = v := ⟨_, rfl⟩
            have b2460 := iv15_9 hS2454.1 ta0 c2459
            rw [c2434] at p2450
            rw [c2459] at p2450
            rw [c2434] at p2451
            rw [c2459] at p2451
            obtain ⟨v2461, c2462⟩ : ∃ v, I2445 a0 8 = v := ⟨_, rfl⟩
            have b2463 := iv15_8 hS2454.1 ta0 c2462
            rw [c2462] at p2452
            rw [c2427] at p2452
            rw [c2456] at p2452
            rw [c2437] at p2452
            have hO2464 : FrO 14 a1 T I0 I2445 := hO2431.st g2448 (by decide +kernel)
            have ov2465 := w2453.over (by rw [c2434]; omega)
            obtain ⟨v2466, c2467⟩ : ∃ v, I2445 a0 9 = v := ⟨_, rfl⟩
            have b2468 := iv15_9 hS2454.1 ta0 c2467
            obtain ⟨v2469, c2470⟩ : ∃ v, I2445 a0 13 = v := ⟨_, rfl⟩
            obtain ⟨v2471, c2472⟩ : ∃ v, I2445 a0 14 = v := ⟨_, rfl⟩
            (try rw [c2467] at ov2465)
            (try rw [c2470] at ov2465)
            (try rw [c2472] at ov2465)
            (try rw [c2434] at ov2465)
            (try rw [c2437] at ov2465)
            (try rw [c2439] at ov2465)
            refine tr_aload_n dX12_readCall_86 rfl ?_
            refine tr_ldcwS dX12_readCall_87 ld12_352 ?_
            refine q_iconst dX12_readCall_90 (by decide) ?_
            intro v2473 h2474
            refine tr_aload_n dX12_readCall_91 rfl ?_
            refine tr_getR dX12_readCall_92 fl12_188 (kR15 hS2454.1 ta0) d2 ?_
            refine q_getI dX12_readCall_95 fl12_192 (kR14 hS2454.1 ta1) ((hS2454.cell ta1 (by decide +kernel)).trans c30) ?_
            refine q_iconst dX12_readCall_98 (by decide) ?_
            intro v2475 h2476
            refine q_isubE dX12_readCall_99 (by intros; omega) ?_
            intro v2477 h2478
            refine q_callVi hE (M' := mX12_readPart) (as := [_, _, _]) dX12_readCall_100 lk12_249 inX12_readPart seX12_readPart myX12_readPart (by decide) ⟨by decide, by decide⟩ rfl (kR15 hS2454.1 ta0) (Nat.le_of_ble_eq_true rfl) rfl rfl (by decide) (by decide) (k_X12_readPart hS2454.1 ta0 (by decide)) ?_
            rintro v2483 cn' K' N' I2479 R2480 L2481 ⟨rfl, rfl, rfl, rfl, g2482, p2484, w2485, -⟩
            have hS2486 := hS2454.tr g2482 (by decide +kernel) (by decide +kernel)
            have c2487 : I2479 a1 5 = v49 := (g2482.cell ta1 (by decide +kernel)).trans c2455
            have b2488 : 0 ≤ v2483.toInt ∧ v2483.toInt ≤ 239 := by omega
            clear p2484
            have hO2489 : FrO 14 a1 T I0 I2479 := hO2464.st g2482 (by decide +kernel)
            have ov2490 := w2485.over (by rw [c2467]; omega)
            obtain ⟨v2491, c2492⟩ : ∃ v, I2479 a0 9 = v := ⟨_, rfl⟩
            have b2493 := iv15_9 hS2486.1 ta0 c2492
            obtain ⟨v2494, c2495⟩ : ∃ v, I2479 a0 13 = v := ⟨_, rfl⟩
            obtain ⟨v2496, c2497⟩ : ∃ v, I2479 a0 14 = v := ⟨_, rfl⟩
            (try rw [c2492] at ov2490)
            (try rw [c2495] at ov2490)
            (try rw [c2497] at ov2490)
            (try rw [c2467] at ov2490)
            (try rw [c2470] at ov2490)
            (try rw [c2472] at ov2490)
            refine tr_istore_n dX12_readCall_103 (by decide) (by decide) ?_
            refine tr_aload_n dX12_readCall_104 rfl ?_
            refine tr_ldcwS dX12_readCall_105 ld12_354 ?_
            refine q_iconst dX12_readCall_108 (by decide) ?_
            intro v2498 h2499
            refine q_bipush dX12_readCall_109 (by decide +kernel) ?_
            intro v2500 h2501
            refine q_callVi hE (M' := mX12_readPart) (as := [_, _, _]) dX12_readCall_111 lk12_249 inX12_readPart seX12_readPart myX12_readPart (by decide) ⟨by decide, by decide⟩ rfl (kR15 hS2486.1 ta0) (Nat.le_of_ble_eq_true rfl) rfl rfl (by decide) (by decide) (k_X12_readPart hS2486.1 ta0 (by decide)) ?_
            rintro v2506 cn' K' N' I2502 R2503 L2504 ⟨rfl, rfl, rfl, rfl, g2505, p2507, w2508, -⟩
            have hS2509 := hS2486.tr g2505 (by decide +kernel) (by decide +kernel)
            have c2510 : I2502 a1 5 = v49 := (g2505.cell ta1 (by decide +kernel)).trans c2487
            have b2511 : 1 ≤ v2506.toInt ∧ v2506.toInt ≤ 60 := by omega
            clear p2507
            have hO2512 : FrO 14 a1 T I0 I2502 := hO2489.st g2505 (by decide +kernel)
            have ov2513 := w2508.over (by rw [c2492]; omega)
            obtain ⟨v2514, c2515⟩ : ∃ v, I2502 a0 9 = v := ⟨_, rfl⟩
            have b2516 := iv15_9 hS2509.1 ta0 c2515
            obtain ⟨v2517, c2518⟩ : ∃ v, I2502 a0 13 = v := ⟨_, rfl⟩
            obtain ⟨v2519, c2520⟩ : ∃ v, I2502 a0 14 = v := ⟨_, rfl⟩
            (try rw [c2515] at ov2513)
            (try rw [c2518] at ov2513)
            (try rw [c2520] at ov2513)
            (try rw [c2492] at ov2513)
            (try rw [c2495] at ov2513)
            (try rw [c2497] at ov2513)
            refine tr_istore dX12_readCall_114 (by decide) (by decide) ?_
            refine tr_aload_n dX12_readCall_116 rfl ?_
            refine tr_ldcwS dX12_readCall_117 ld12_356 ?_
            refine q_iconst dX12_readCall_120 (by decide) ?_
            intro v2521 h2522
            refine q_bipush dX12_readCall_121 (by decide +kernel) ?_
            intro v2523 h2524
            refine q_callVi hE (M' := mX12_readPart) (as := [_, _, _]) dX12_readCall_123 lk12_249 inX12_readPart seX12_readPart myX12_readPart (by decide) ⟨by decide, by decide⟩ rfl (kR15 hS2509.1 ta0) (Nat.le_of_ble_eq_true rfl) rfl rfl (by decide) (by decide) (k_X12_readPart hS2509.1 ta0 (by decide)) ?_
            rintro v2529 cn' K' N' I2525 R2526 L2527 ⟨rfl, rfl, rfl, rfl, g2528, p2530, w2531, -⟩
            have hS2532 := hS2509.tr g2528 (by decide +kernel) (by decide +kernel)
            have c2533 : I2525 a1 5 = v49 := (g2528.cell ta1 (by decide +kernel)).trans c2510
            have b2534 : 0 ≤ v2529.toInt ∧ v2529.toInt ≤ 99 := by omega
            clear p2530
            have hO2535 : FrO 14 a1 T I0 I2525 := hO2512.st g2528 (by decide +kernel)
            have ov2536 := w2531.over (by rw [c2515]; omega)
            obtain ⟨v2537, c2538⟩ : ∃ v, I2525 a0 9 = v := ⟨_, rfl⟩
            have b2539 := iv15_9 hS2532.1 ta0 c2538
            obtain ⟨v2540, c2541⟩ : ∃ v, I2525 a0 13 = v := ⟨_, rfl⟩
            obtain ⟨v2542, c2543⟩ : ∃ v, I2525 a0 14 = v := ⟨_, rfl⟩
            (try rw [c2538] at ov2536)
            (try rw [c2541] at ov2536)
            (try rw [c2543] at ov2536)
            (try rw [c2515] at ov2536)
            (try rw [c2518] at ov2536)
            (try rw [c2520] at ov2536)
            refine tr_istore dX12_readCall_126 (by decide) (by decide) ?_
            refine tr_aload_n dX12_readCall_128 rfl ?_
            refine q_getI dX12_readCall_129 fl12_99 (kR15 hS2532.1 ta0) c2538 ?_
            refine q_iconst dX12_readCall_132 (by decide) ?_
            intro v2544 h2545
            refine q_icmp_ne 137 dX12_readCall_133 (by decide) (fun h2546 => ?_) (fun h2546 => ?_)
            · skip
              exfalso; omega
            · skip
              have eF := hF.eq
              have eP := hP.eq
              obtain ⟨v2547, c2548⟩ : ∃ v, I2525 a0 10 = v := ⟨_, rfl⟩
              have b2549 := iv15_10 hS2532.1 ta0 c2548
              obtain ⟨v2550, c2551⟩ : ∃ v, I2525 a0 11 = v := ⟨_, rfl⟩
              obtain ⟨y2552, c2553⟩ : ∃ v, L2527 a0 15 = v := ⟨_, rfl⟩
              obtain ⟨v2554, c2555⟩ : ∃ v, I2525 a0 12 = v := ⟨_, rfl⟩
              obtain ⟨v2556, c2557⟩ : ∃ v, I2525 a0 8 = v := ⟨_, rfl⟩
              have b2558 := iv15_8 hS2532.1 ta0 c2557
              exact tr_vret hZ dX12_readCall_136 rfl (by decide) (by decide) ⟨rfl, rfl, rfl, rfl, rfl, hS2532, (fun b hb => (Option.some.inj (d2.symm.trans hb)) ▸ ((((((((FrM.rf (R := R0) (b := a1) (T := T)).st g79 (by decide +kernel)).st g2113 (by decide +kernel)).st g2420 (by decide +kernel)).st g2448 (by decide +kernel)).st g2482 (by decide +kernel)).st g2505 (by decide +kernel)).st g2528 (by decide +kernel))), (fun dr hd => (Option.some.inj (d2.symm.trans hd)) ▸ hO2535), (Or.inr (⟨(by first | done | with_reducible assumption | omega), (by (try rw [c2538]); first | done | with_reducible assumption | omega), (by (try rw [c2541]); first | done | with_reducible assumption | omega), (by (try rw [c2543]); first | done | with_reducible assumption | omega), trivial⟩)), trivial⟩
  · skip
    obtain ⟨v2559, c2560⟩ : ∃ v, I76 a0 9 = v := ⟨_, rfl⟩
    have b2561 := iv15_9 hS84.1 ta0 c2560
    rw [c2560] at p104
    obtain ⟨v2562, c2563⟩ : ∃ v, I76 a0 13 = v := ⟨_, rfl⟩
    rw [c2563] at p105
    obtain ⟨v2564, c2565⟩ : ∃ v, I76 a0 14 = v := ⟨_, rfl⟩
    rw [c2565] at p106
    have p2566 := p61
    unfold Q7M at p2566
    replace hF := hF.neg (by omega)
    replace hP := hP.neg (by omega)
    replace hF := hF.pos (by omega)
    replace hP := hP.pos (by omega)
    clear p2566
    refine tr_aload_n dX12_readCall_13 rfl ?_
    refine q_callVi hE (M' := mX12_isName) (as := []) dX12_readCall_14 lk12_197 inX12_isName seX12_isName myX12_isName (by decide) ⟨by decide, by decide⟩ rfl (kR15 hS84.1 ta0) (Nat.le_of_ble_eq_true rfl) rfl rfl (by decide) (by decide) (k_X12_isName hS84.1 ta0) ?_
    rintro v2571 cn' K' N' I2567 R2568 L2569 ⟨rfl, rfl, rfl, rfl, rfl, rfl, h2572, -⟩
    refine q_if_ne 25 dX12_readCall_17 (by decide) (fun h2573 => ?_) (fun h2573 => ?_)
    · skip
      refine tr_aload_n dX12_readCall_25 rfl ?_
      refine tr_getR dX12_readCall_26 fl12_188 (kR15 hS84.1 ta0) d2 ?_
      refine tr_aload_n dX12_readCall_29 rfl ?_
      have p2574 := p17 (by omega)
      obtain ⟨y2575, c2576⟩ : ∃ v, L78 a0 15 = v := ⟨_, rfl⟩
      refine q_getLE dX12_readCall_30 fl12_118 (kR15 hS84.1 ta0) c2576 ?_
      refine q_callVi hE (M' := mX11_find) (as := [_]) dX12_readCall_33 lk12_201 inX11_find seX11_find myX11_find (by decide) ⟨by decide, by decide⟩ rfl (kR14 hS84.1 ta1) (Nat.le_of_ble_eq_true rfl) rfl rfl (by decide) (by decide) (k_X11_find hS84.1 ta1) ?_
      rintro v2581 cn' K' N' I2577 R2578 L2579 ⟨rfl, rfl, rfl, rfl, rfl, rfl, h2582, -⟩
      refine tr_istore_n dX12_readCall_36 (by decide) (by decide) ?_
      refine tr_iload_n dX12_readCall_37 rfl ?_
      refine q_iconst dX12_readCall_38 (by decide) ?_
      intro v2583 h2584
      refine q_icmp_eq 55 dX12_readCall_39 (by decide) (fun h2585 => ?_) (fun h2585 => ?_)
      · skip
        refine tr_aload_n dX12_readCall_55 rfl ?_
        refine q_iconst dX12_readCall_56 (by decide) ?_
        intro v2586 h2587
        obtain ⟨v2588, c2589⟩ : ∃ v, I76 a0 8 = v := ⟨_, rfl⟩
        have b2590 := iv15_8 hS84.1 ta0 c2589
        refine q_callVv hE (M' := mX12_flaw) (as := [_]) dX12_readCall_57 lk12_145 inX12_flaw seX12_flaw myX12_flaw (by decide) ⟨by decide, by decide⟩ rfl (kR15 hS84.1 ta0) (Nat.le_of_ble_eq_true rfl) rfl rfl (by decide) (by decide) (k_X12_flaw hS84.1 ta0 (by omega)) ?_
        rintro cn' K' N' I2591 R2592 L2593 ⟨rfl, rfl, rfl, rfl, rfl, g2594, p2596, p2597, w2598, -⟩
        have hS2599 := hS84.tr g2594 (by decide +kernel) (by decide +kernel)
        have c2600 : I2591 a1 5 = v49 := (g2594.cell ta1 (by decide +kernel)).trans c85
        have c2601 : I2591 a0 8 = v2588 := (g2594.cell ta0 (by decide +kernel)).trans c2589
        obtain ⟨v2602, c2603⟩ : ∃ v, I2591 a0 9 = v := ⟨_, rfl⟩
        have b2604 := iv15_9 hS2599.1 ta0 c2603
        rw [c2603] at p2596
        rw [c2601] at p2597
        rw [c2589] at p2597
        have hO2605 : FrO 14 a1 T I0 I2591 := hO86.st g2594 (by decide +kernel)
        have ov2606 := w2598.over (by rw [c2560]; omega)
        obtain ⟨v2607, c2608⟩ : ∃ v, I2591 a0 9 = v := ⟨_, rfl⟩
        have b2609 := iv15_9 hS2599.1 ta0 c2608
        obtain ⟨v2610, c2611⟩ : ∃ v, I2591 a0 13 = v := ⟨_, rfl⟩
        obtain ⟨v2612, c2613⟩ : ∃ v, I2591 a0 14 = v := ⟨_, rfl⟩
        (try rw [c2608] at ov2606)
        (try rw [c2611] at ov2606)
        (try rw [c2613] at ov2606)
        (try rw [c2560] at ov2606)
        (try rw [c2563] at ov2606)
        (try rw [c2565] at ov2606)
        refine tr_aload_n dX12_readCall_60 rfl ?_
        refine q_getI dX12_readCall_61 fl12_99 (kR15 hS2599.1 ta0) c2608 ?_
        refine q_iconst dX12_readCall_64 (by decide) ?_
        intro v2614 h2615
        refine q_icmp_ne 72 dX12_readCall_65 (by decide) (fun h2616 => ?_) (fun h2616 => ?_)
        · skip
          exfalso; omega
        · skip
          refine q_iconst dX12_readCall_68 (by decide) ?_
          intro v2617 h2618
          refine tr_goto 81 dX12_readCall_69 (by decide) ?_
          refine tr_istore_n dX12_readCall_81 (by decide) (by decide) ?_
          refine tr_aload_n dX12_readCall_82 rfl ?_
          refine q_callVv hE (M' := mX12_goesOn) (as := []) dX12_readCall_83 lk12_142 inX12_goesOn seX12_goesOn myX12_goesOn (by decide) ⟨by decide, by decide⟩ rfl (kR15 hS2599.1 ta0) (Nat.le_of_ble_eq_true rfl) rfl rfl (by decide) (by decide) (k_X12_goesOn hS2599.1 ta0) ?_
          rintro cn' K' N' I2619 R2620 L2621 ⟨rfl, rfl, rfl, rfl, g2622, p2624, p2625, p2626, w2627, -⟩
          have hS2628 := hS2599.tr g2622 (by decide +kernel) (by decide +kernel)
          have c2629 : I2619 a1 5 = v49 := (g2622.cell ta1 (by decide +kernel)).trans c2600
          have c2630 : I2619 a0 13 = v2610 := (g2622.cell ta0 (by decide +kernel)).trans c2611
          have c2631 : I2619 a0 14 = v2612 := (g2622.cell ta0 (by decide +kernel)).trans c2613
          obtain ⟨v2632, c2633⟩ : ∃ v, I2619 a0 9 = v := ⟨_, rfl⟩
          have b2634 := iv15_9 hS2628.1 ta0 c2633
          rw [c2608] at p2624
          rw [c2633] at p2624
          rw [c2608] at p2625
          rw [c2633] at p2625
          obtain ⟨v2635, c2636⟩ : ∃ v, I2619 a0 8 = v := ⟨_, rfl⟩
          have b2637 := iv15_8 hS2628.1 ta0 c2636
          rw [c2636] at p2626
          rw [c2601] at p2626
          rw [c2630] at p2626
          rw [c2611] at p2626
          have hO2638 : FrO 14 a1 T I0 I2619 := hO2605.st g2622 (by decide +kernel)
          have ov2639 := w2627.over (by rw [c2608]; omega)
          obtain ⟨v2640, c2641⟩ : ∃ v, I2619 a0 9 = v := ⟨_, rfl⟩
          have b2642 := iv15_9 hS2628.1 ta0 c2641
          obtain ⟨v2643, c2644⟩ : ∃ v, I2619 a0 13 = v := ⟨_, rfl⟩
          obtain ⟨v2645, c2646⟩ : ∃ v, I2619 a0 14 = v := ⟨_, rfl⟩
          (try rw [c2641] at ov2639)
          (try rw [c2644] at ov2639)
          (try rw [c2646] at ov2639)
          (try rw [c2608] at ov2639)
          (try rw [c2611] at ov2639)
          (try rw [c2613] at ov2639)
          refine tr_aload_n dX12_readCall_86 rfl ?_
          refine tr_ldcwS dX12_readCall_87 ld12_352 ?_
          refine q_iconst dX12_readCall_90 (by decide) ?_
          intro v2647 h2648
          refine tr_aload_n dX12_readCall_91 rfl ?_
          refine tr_getR dX12_readCall_92 fl12_188 (kR15 hS2628.1 ta0) d2 ?_
          refine q_getI dX12_readCall_95 fl12_192 (kR14 hS2628.1 ta1) ((hS2628.cell ta1 (by decide +kernel)).trans c30) ?_
          refine q_iconst dX12_readCall_98 (by decide) ?_
          intro v2649 h2650
          refine q_isubE dX12_readCall_99 (by intros; omega) ?_
          intro v2651 h2652
          refine q_callVi hE (M' := mX12_readPart) (as := [_, _, _]) dX12_readCall_100 lk12_249 inX12_readPart seX12_readPart myX12_readPart (by decide) ⟨by decide, by decide⟩ rfl (kR15 hS2628.1 ta0) (Nat.le_of_ble_eq_true rfl) rfl rfl (by decide) (by decide) (k_X12_readPart hS2628.1 ta0 (by decide)) ?_
          rintro v2657 cn' K' N' I2653 R2654 L2655 ⟨rfl, rfl, rfl, rfl, g2656, p2658, w2659, -⟩
          have hS2660 := hS2628.tr g2656 (by decide +kernel) (by decide +kernel)
          have c2661 : I2653 a1 5 = v49 := (g2656.cell ta1 (by decide +kernel)).trans c2629
          have b2662 : 0 ≤ v2657.toInt ∧ v2657.toInt ≤ 0 := by omega
          clear p2658
          have hO2663 : FrO 14 a1 T I0 I2653 := hO2638.st g2656 (by decide +kernel)
          have ov2664 := w2659.over (by rw [c2641]; omega)
          obtain ⟨v2665, c2666⟩ : ∃ v, I2653 a0 9 = v := ⟨_, rfl⟩
          have b2667 := iv15_9 hS2660.1 ta0 c2666
          obtain ⟨v2668, c2669⟩ : ∃ v, I2653 a0 13 = v := ⟨_, rfl⟩
          obtain ⟨v2670, c2671⟩ : ∃ v, I2653 a0 14 = v := ⟨_, rfl⟩
          (try rw [c2666] at ov2664)
          (try rw [c2669] at ov2664)
          (try rw [c2671] at ov2664)
          (try rw [c2641] at ov2664)
          (try rw [c2644] at ov2664)
          (try rw [c2646] at ov2664)
          refine tr_istore_n dX12_readCall_103 (by decide) (by decide) ?_
          refine tr_aload_n dX12_readCall_104 rfl ?_
          refine tr_ldcwS dX12_readCall_105 ld12_354 ?_
          refine q_iconst dX12_readCall_108 (by decide) ?_
          intro v2672 h2673
          refine q_bipush dX12_readCall_109 (by decide +kernel) ?_
          intro v2674 h2675
          refine q_callVi hE (M' := mX12_readPart) (as := [_, _, _]) dX12_readCall_111 lk12_249 inX12_readPart seX12_readPart myX12_readPart (by decide) ⟨by decide, by decide⟩ rfl (kR15 hS2660.1 ta0) (Nat.le_of_ble_eq_true rfl) rfl rfl (by decide) (by decide) (k_X12_readPart hS2660.1 ta0 (by decide)) ?_
          rintro v2680 cn' K' N' I2676 R2677 L2678 ⟨rfl, rfl, rfl, rfl, g2679, p2681, w2682, -⟩
          have hS2683 := hS2660.tr g2679 (by decide +kernel) (by decide +kernel)
          have c2684 : I2676 a1 5 = v49 := (g2679.cell ta1 (by decide +kernel)).trans c2661
          have b2685 : 1 ≤ v2680.toInt ∧ v2680.toInt ≤ 60 := by omega
          clear p2681
          have hO2686 : FrO 14 a1 T I0 I2676 := hO2663.st g2679 (by decide +kernel)
          have ov2687 := w2682.over (by rw [c2666]; omega)
          obtain ⟨v2688, c2689⟩ : ∃ v, I2676 a0 9 = v := ⟨_, rfl⟩
          have b2690 := iv15_9 hS2683.1 ta0 c2689
          obtain ⟨v2691, c2692⟩ : ∃ v, I2676 a0 13 = v := ⟨_, rfl⟩
          obtain ⟨v2693, c2694⟩ : ∃ v, I2676 a0 14 = v := ⟨_, rfl⟩
          (try rw [c2689] at ov2687)
          (try rw [c2692] at ov2687)
          (try rw [c2694] at ov2687)
          (try rw [c2666] at ov2687)
          (try rw [c2669] at ov2687)
          (try rw [c2671] at ov2687)
          refine tr_istore dX12_readCall_114 (by decide) (by decide) ?_
          refine tr_aload_n dX12_readCall_116 rfl ?_
          refine tr_ldcwS dX12_readCall_117 ld12_356 ?_
          refine q_iconst dX12_readCall_120 (by decide) ?_
          intro v2695 h2696
          refine q_bipush dX12_readCall_121 (by decide +kernel) ?_
          intro v2697 h2698
          refine q_callVi hE (M' := mX12_readPart) (as := [_, _, _]) dX12_readCall_123 lk12_249 inX12_readPart seX12_readPart myX12_readPart (by decide) ⟨by decide, by decide⟩ rfl (kR15 hS2683.1 ta0) (Nat.le_of_ble_eq_true rfl) rfl rfl (by decide) (by decide) (k_X12_readPart hS2683.1 ta0 (by decide)) ?_
          rintro v2703 cn' K' N' I2699 R2700 L2701 ⟨rfl, rfl, rfl, rfl, g2702, p2704, w2705, -⟩
          have hS2706 := hS2683.tr g2702 (by decide +kernel) (by decide +kernel)
          have c2707 : I2699 a1 5 = v49 := (g2702.cell ta1 (by decide +kernel)).trans c2684
          have b2708 : 0 ≤ v2703.toInt ∧ v2703.toInt ≤ 99 := by omega
          clear p2704
          have hO2709 : FrO 14 a1 T I0 I2699 := hO2686.st g2702 (by decide +kernel)
          have ov2710 := w2705.over (by rw [c2689]; omega)
          obtain ⟨v2711, c2712⟩ : ∃ v, I2699 a0 9 = v := ⟨_, rfl⟩
          have b2713 := iv15_9 hS2706.1 ta0 c2712
          obtain ⟨v2714, c2715⟩ : ∃ v, I2699 a0 13 = v := ⟨_, rfl⟩
          obtain ⟨v2716, c2717⟩ : ∃ v, I2699 a0 14 = v := ⟨_, rfl⟩
          (try rw [c2712] at ov2710)
          (try rw [c2715] at ov2710)
          (try rw [c2717] at ov2710)
          (try rw [c2689] at ov2710)
          (try rw [c2692] at ov2710)
          (try rw [c2694] at ov2710)
          refine tr_istore dX12_readCall_126 (by decide) (by decide) ?_
          refine tr_aload_n dX12_readCall_128 rfl ?_
          refine q_getI dX12_readCall_129 fl12_99 (kR15 hS2706.1 ta0) c2712 ?_
          refine q_iconst dX12_readCall_132 (by decide) ?_
          intro v2718 h2719
          refine q_icmp_ne 137 dX12_readCall_133 (by decide) (fun h2720 => ?_) (fun h2720 => ?_)
          · skip
            exfalso; omega
          · skip
            have eF := hF.eq
            have eP := hP.eq
            obtain ⟨v2721, c2722⟩ : ∃ v, I2699 a0 10 = v := ⟨_, rfl⟩
            have b2723 := iv15_10 hS2706.1 ta0 c2722
            obtain ⟨v2724, c2725⟩ : ∃ v, I2699 a0 11 = v := ⟨_, rfl⟩
            obtain ⟨y2726, c2727⟩ : ∃ v, L2701 a0 15 = v := ⟨_, rfl⟩
            obtain ⟨v2728, c2729⟩ : ∃ v, I2699 a0 12 = v := ⟨_, rfl⟩
            obtain ⟨v2730, c2731⟩ : ∃ v, I2699 a0 8 = v := ⟨_, rfl⟩
            have b2732 := iv15_8 hS2706.1 ta0 c2731
            exact tr_vret hZ dX12_readCall_136 rfl (by decide) (by decide) ⟨rfl, rfl, rfl, rfl, rfl, hS2706, (fun b hb => (Option.some.inj (d2.symm.trans hb)) ▸ (((((((FrM.rf (R := R0) (b := a1) (T := T)).st g79 (by decide +kernel)).st g2594 (by decide +kernel)).st g2622 (by decide +kernel)).st g2656 (by decide +kernel)).st g2679 (by decide +kernel)).st g2702 (by decide +kernel))), (fun dr hd => (Option.some.inj (d2.symm.trans hd)) ▸ hO2709), (Or.inr (⟨(by first | done | with_reducible assumption | omega), (by (try rw [c2712]); first | done | with_reducible assumption | omega), (by (try rw [c2715]); first | done | with_reducible assumption | omega), (by (try rw [c2717]); first | done | with_reducible assumption | omega), trivial⟩)), trivial⟩
      · skip
        refine tr_aload_n dX12_readCall_42 rfl ?_
        refine tr_getR dX12_readCall_43 fl12_188 (kR15 hS84.1 ta0) d2 ?_
        obtain ⟨a2733, d2734, ta2733⟩ := rf14_31 hW0 ta1
        refine tr_getR dX12_readCall_46 fl12_212 (kR14 hS84.1 ta1) d2734 ?_
        refine tr_iload_n dX12_readCall_49 rfl ?_
        refine q_iald dX12_readCall_50 (kR74 hS84.1 ta2733) (ti_in (nR74 hS84.1 ta2733) (by omega) (by omega)) ?_
        intro v2735 c2736
        refine q_iconst dX12_readCall_51 (by decide) ?_
        intro v2737 h2738
        refine q_icmp_eq 60 dX12_readCall_52 (by decide) (fun h2739 => ?_) (fun h2739 => ?_)
        · skip
          refine tr_aload_n dX12_readCall_60 rfl ?_
          refine q_getI dX12_readCall_61 fl12_99 (kR15 hS84.1 ta0) c2560 ?_
          refine q_iconst dX12_readCall_64 (by decide) ?_
          intro v2740 h2741
          refine q_icmp_ne 72 dX12_readCall_65 (by decide) (fun h2742 => ?_) (fun h2742 => ?_)
          · skip
            exfalso; omega
          · skip
            refine q_iconst dX12_readCall_68 (by decide) ?_
            intro v2743 h2744
            refine tr_goto 81 dX12_readCall_69 (by decide) ?_
            refine tr_istore_n dX12_readCall_81 (by decide) (by decide) ?_
            refine tr_aload_n dX12_readCall_82 rfl ?_
            obtain ⟨v2745, c2746⟩ : ∃ v, I76 a0 8 = v := ⟨_, rfl⟩
            have b2747 := iv15_8 hS84.1 ta0 c2746
            refine q_callVv hE (M' := mX12_goesOn) (as := []) dX12_readCall_83 lk12_142 inX12_goesOn seX12_goesOn myX12_goesOn (by decide) ⟨by decide, by decide⟩ rfl (kR15 hS84.1 ta0) (Nat.le_of_ble_eq_true rfl) rfl rfl (by decide) (by decide) (k_X12_goesOn hS84.1 ta0) ?_
            rintro cn' K' N' I2748 R2749 L2750 ⟨rfl, rfl, rfl, rfl, g2751, p2753, p2754, p2755, w2756, -⟩
            have hS2757 := hS84.tr g2751 (by decide +kernel) (by decide +kernel)
            have c2758 : I2748 a1 5 = v49 := (g2751.cell ta1 (by decide +kernel)).trans c85
            have c2759 : I2748 a0 13 = v2562 := (g2751.cell ta0 (by decide +kernel)).trans c2563
            have c2760 : I2748 a0 14 = v2564 := (g2751.cell ta0 (by decide +kernel)).trans c2565
            obtain ⟨v2761, c2762⟩ : ∃ v, I2748 a0 9 = v := ⟨_, rfl⟩
            have b2763 := iv15_9 hS2757.1 ta0 c2762
            rw [c2560] at p2753
            rw [c2762] at p2753
            rw [c2560] at p2754
            rw [c2762] at p2754
            obtain ⟨v2764, c2765⟩ : ∃ v, I2748 a0 8 = v := ⟨_, rfl⟩
            have b2766 := iv15_8 hS2757.1 ta0 c2765
            rw [c2765] at p2755
            rw [c2746] at p2755
            rw [c2759] at p2755
            rw [c2563] at p2755
            have hO2767 : FrO 14 a1 T I0 I2748 := hO86.st g2751 (by decide +kernel)
            have ov2768 := w2756.over (by rw [c2560]; omega)
            obtain ⟨v2769, c2770⟩ : ∃ v, I2748 a0 9 = v := ⟨_, rfl⟩
            have b2771 := iv15_9 hS2757.1 ta0 c2770
            obtain ⟨v2772, c2773⟩ : ∃ v, I2748 a0 13 = v := ⟨_, rfl⟩
            obtain ⟨v2774, c2775⟩ : ∃ v, I2748 a0 14 = v := ⟨_, rfl⟩
            (try rw [c2770] at ov2768)
            (try rw [c2773] at ov2768)
            (try rw [c2775] at ov2768)
            (try rw [c2560] at ov2768)
            (try rw [c2563] at ov2768)
            (try rw [c2565] at ov2768)
            refine tr_aload_n dX12_readCall_86 rfl ?_
            refine tr_ldcwS dX12_readCall_87 ld12_352 ?_
            refine q_iconst dX12_readCall_90 (by decide) ?_
            intro v2776 h2777
            refine tr_aload_n dX12_readCall_91 rfl ?_
            refine tr_getR dX12_readCall_92 fl12_188 (kR15 hS2757.1 ta0) d2 ?_
            refine q_getI dX12_readCall_95 fl12_192 (kR14 hS2757.1 ta1) ((hS2757.cell ta1 (by decide +kernel)).trans c30) ?_
            refine q_iconst dX12_readCall_98 (by decide) ?_
            intro v2778 h2779
            refine q_isubE dX12_readCall_99 (by intros; omega) ?_
            intro v2780 h2781
            refine q_callVi hE (M' := mX12_readPart) (as := [_, _, _]) dX12_readCall_100 lk12_249 inX12_readPart seX12_readPart myX12_readPart (by decide) ⟨by decide, by decide⟩ rfl (kR15 hS2757.1 ta0) (Nat.le_of_ble_eq_true rfl) rfl rfl (by decide) (by decide) (k_X12_readPart hS2757.1 ta0 (by decide)) ?_
            rintro v2786 cn' K' N' I2782 R2783 L2784 ⟨rfl, rfl, rfl, rfl, g2785, p2787, w2788, -⟩
            have hS2789 := hS2757.tr g2785 (by decide +kernel) (by decide +kernel)
            have c2790 : I2782 a1 5 = v49 := (g2785.cell ta1 (by decide +kernel)).trans c2758
            have b2791 : 0 ≤ v2786.toInt ∧ v2786.toInt ≤ 0 := by omega
            clear p2787
            have hO2792 : FrO 14 a1 T I0 I2782 := hO2767.st g2785 (by decide +kernel)
            have ov2793 := w2788.over (by rw [c2770]; omega)
            obtain ⟨v2794, c2795⟩ : ∃ v, I2782 a0 9 = v := ⟨_, rfl⟩
            have b2796 := iv15_9 hS2789.1 ta0 c2795
            obtain ⟨v2797, c2798⟩ : ∃ v, I2782 a0 13 = v := ⟨_, rfl⟩
            obtain ⟨v2799, c2800⟩ : ∃ v, I2782 a0 14 = v := ⟨_, rfl⟩
            (try rw [c2795] at ov2793)
            (try rw [c2798] at ov2793)
            (try rw [c2800] at ov2793)
            (try rw [c2770] at ov2793)
            (try rw [c2773] at ov2793)
            (try rw [c2775] at ov2793)
            refine tr_istore_n dX12_readCall_103 (by decide) (by decide) ?_
            refine tr_aload_n dX12_readCall_104 rfl ?_
            refine tr_ldcwS dX12_readCall_105 ld12_354 ?_
            refine q_iconst dX12_readCall_108 (by decide) ?_
            intro v2801 h2802
            refine q_bipush dX12_readCall_109 (by decide +kernel) ?_
            intro v2803 h2804
            refine q_callVi hE (M' := mX12_readPart) (as := [_, _, _]) dX12_readCall_111 lk12_249 inX12_readPart seX12_readPart myX12_readPart (by decide) ⟨by decide, by decide⟩ rfl (kR15 hS2789.1 ta0) (Nat.le_of_ble_eq_true rfl) rfl rfl (by decide) (by decide) (k_X12_readPart hS2789.1 ta0 (by decide)) ?_
            rintro v2809 cn' K' N' I2805 R2806 L2807 ⟨rfl, rfl, rfl, rfl, g2808, p2810, w2811, -⟩
            have hS2812 := hS2789.tr g2808 (by decide +kernel) (by decide +kernel)
            have c2813 : I2805 a1 5 = v49 := (g2808.cell ta1 (by decide +kernel)).trans c2790
            have b2814 : 1 ≤ v2809.toInt ∧ v2809.toInt ≤ 60 := by omega
            clear p2810
            have hO2815 : FrO 14 a1 T I0 I2805 := hO2792.st g2808 (by decide +kernel)
            have ov2816 := w2811.over (by rw [c2795]; omega)
            obtain ⟨v2817, c2818⟩ : ∃ v, I2805 a0 9 = v := ⟨_, rfl⟩
            have b2819 := iv15_9 hS2812.1 ta0 c2818
            obtain ⟨v2820, c2821⟩ : ∃ v, I2805 a0 13 = v := ⟨_, rfl⟩
            obtain ⟨v2822, c2823⟩ : ∃ v, I2805 a0 14 = v := ⟨_, rfl⟩
            (try rw [c2818] at ov2816)
            (try rw [c2821] at ov2816)
            (try rw [c2823] at ov2816)
            (try rw [c2795] at ov2816)
            (try rw [c2798] at ov2816)
            (try rw [c2800] at ov2816)
            refine tr_istore dX12_readCall_114 (by decide) (by decide) ?_
            refine tr_aload_n dX12_readCall_116 rfl ?_
            refine tr_ldcwS dX12_readCall_117 ld12_356 ?_
            refine q_iconst dX12_readCall_120 (by decide) ?_
            intro v2824 h2825
            refine q_bipush dX12_readCall_121 (by decide +kernel) ?_
            intro v2826 h2827
            refine q_callVi hE (M' := mX12_readPart) (as := [_, _, _]) dX12_readCall_123 lk12_249 inX12_readPart seX12_readPart myX12_readPart (by decide) ⟨by decide, by decide⟩ rfl (kR15 hS2812.1 ta0) (Nat.le_of_ble_eq_true rfl) rfl rfl (by decide) (by decide) (k_X12_readPart hS2812.1 ta0 (by decide)) ?_
            rintro v2832 cn' K' N' I2828 R2829 L2830 ⟨rfl, rfl, rfl, rfl, g2831, p2833, w2834, -⟩
            have hS2835 := hS2812.tr g2831 (by decide +kernel) (by decide +kernel)
            have c2836 : I2828 a1 5 = v49 := (g2831.cell ta1 (by decide +kernel)).trans c2813
            have b2837 : 0 ≤ v2832.toInt ∧ v2832.toInt ≤ 99 := by omega
            clear p2833
            have hO2838 : FrO 14 a1 T I0 I2828 := hO2815.st g2831 (by decide +kernel)
            have ov2839 := w2834.over (by rw [c2818]; omega)
            obtain ⟨v2840, c2841⟩ : ∃ v, I2828 a0 9 = v := ⟨_, rfl⟩
            have b2842 := iv15_9 hS2835.1 ta0 c2841
            obtain ⟨v2843, c2844⟩ : ∃ v, I2828 a0 13 = v := ⟨_, rfl⟩
            obtain ⟨v2845, c2846⟩ : ∃ v, I2828 a0 14 = v := ⟨_, rfl⟩
            (try rw [c2841] at ov2839)
            (try rw [c2844] at ov2839)
            (try rw [c2846] at ov2839)
            (try rw [c2818] at ov2839)
            (try rw [c2821] at ov2839)
            (try rw [c2823] at ov2839)
            refine tr_istore dX12_readCall_126 (by decide) (by decide) ?_
            refine tr_aload_n dX12_readCall_128 rfl ?_
            refine q_getI dX12_readCall_129 fl12_99 (kR15 hS2835.1 ta0) c2841 ?_
            refine q_iconst dX12_readCall_132 (by decide) ?_
            intro v2847 h2848
            refine q_icmp_ne 137 dX12_readCall_133 (by decide) (fun h2849 => ?_) (fun h2849 => ?_)
            · skip
              exfalso; omega
            · skip
              have eF := hF.eq
              have eP := hP.eq
              obtain ⟨v2850, c2851⟩ : ∃ v, I2828 a0 10 = v := ⟨_, rfl⟩
              have b2852 := iv15_10 hS2835.1 ta0 c2851
              obtain ⟨v2853, c2854⟩ : ∃ v, I2828 a0 11 = v := ⟨_, rfl⟩
              obtain ⟨y2855, c2856⟩ : ∃ v, L2830 a0 15 = v := ⟨_, rfl⟩
              obtain ⟨v2857, c2858⟩ : ∃ v, I2828 a0 12 = v := ⟨_, rfl⟩
              obtain ⟨v2859, c2860⟩ : ∃ v, I2828 a0 8 = v := ⟨_, rfl⟩
              have b2861 := iv15_8 hS2835.1 ta0 c2860
              exact tr_vret hZ dX12_readCall_136 rfl (by decide) (by decide) ⟨rfl, rfl, rfl, rfl, rfl, hS2835, (fun b hb => (Option.some.inj (d2.symm.trans hb)) ▸ ((((((FrM.rf (R := R0) (b := a1) (T := T)).st g79 (by decide +kernel)).st g2751 (by decide +kernel)).st g2785 (by decide +kernel)).st g2808 (by decide +kernel)).st g2831 (by decide +kernel))), (fun dr hd => (Option.some.inj (d2.symm.trans hd)) ▸ hO2838), (Or.inr (⟨(by first | done | with_reducible assumption | omega), (by (try rw [c2841]); first | done | with_reducible assumption | omega), (by (try rw [c2844]); first | done | with_reducible assumption | omega), (by (try rw [c2846]); first | done | with_reducible assumption | omega), trivial⟩)), trivial⟩
        · skip
          refine tr_aload_n dX12_readCall_55 rfl ?_
          refine q_iconst dX12_readCall_56 (by decide) ?_
          intro v2862 h2863
          obtain ⟨v2864, c2865⟩ : ∃ v, I76 a0 8 = v := ⟨_, rfl⟩
          have b2866 := iv15_8 hS84.1 ta0 c2865
          refine q_callVv hE (M' := mX12_flaw) (as := [_]) dX12_readCall_57 lk12_145 inX12_flaw seX12_flaw myX12_flaw (by decide) ⟨by decide, by decide⟩ rfl (kR15 hS84.1 ta0) (Nat.le_of_ble_eq_true rfl) rfl rfl (by decide) (by decide) (k_X12_flaw hS84.1 ta0 (by omega)) ?_
          rintro cn' K' N' I2867 R2868 L2869 ⟨rfl, rfl, rfl, rfl, rfl, g2870, p2872, p2873, w2874, -⟩
          have hS2875 := hS84.tr g2870 (by decide +kernel) (by decide +kernel)
          have c2876 : I2867 a1 5 = v49 := (g2870.cell ta1 (by decide +kernel)).trans c85
          have c2877 : I2867 a0 8 = v2864 := (g2870.cell ta0 (by decide +kernel)).trans c2865
          obtain ⟨v2878, c2879⟩ : ∃ v, I2867 a0 9 = v := ⟨_, rfl⟩
          have b2880 := iv15_9 hS2875.1 ta0 c2879
          rw [c2879] at p2872
          rw [c2877] at p2873
          rw [c2865] at p2873
          have hO2881 : FrO 14 a1 T I0 I2867 := hO86.st g2870 (by decide +kernel)
          have ov2882 := w2874.over (by rw [c2560]; omega)
          obtain ⟨v2883, c2884⟩ : ∃ v, I2867 a0 9 = v := ⟨_, rfl⟩
          have b2885 := iv15_9 hS2875.1 ta0 c2884
          obtain ⟨v2886, c2887⟩ : ∃ v, I2867 a0 13 = v := ⟨_, rfl⟩
          obtain ⟨v2888, c2889⟩ : ∃ v, I2867 a0 14 = v := ⟨_, rfl⟩
          (try rw [c2884] at ov2882)
          (try rw [c2887] at ov2882)
          (try rw [c2889] at ov2882)
          (try rw [c2560] at ov2882)
          (try rw [c2563] at ov2882)
          (try rw [c2565] at ov2882)
          refine tr_aload_n dX12_readCall_60 rfl ?_
          refine q_getI dX12_readCall_61 fl12_99 (kR15 hS2875.1 ta0) c2884 ?_
          refine q_iconst dX12_readCall_64 (by decide) ?_
          intro v2890 h2891
          refine q_icmp_ne 72 dX12_readCall_65 (by decide) (fun h2892 => ?_) (fun h2892 => ?_)
          · skip
            exfalso; omega
          · skip
            refine q_iconst dX12_readCall_68 (by decide) ?_
            intro v2893 h2894
            refine tr_goto 81 dX12_readCall_69 (by decide) ?_
            refine tr_istore_n dX12_readCall_81 (by decide) (by decide) ?_
            refine tr_aload_n dX12_readCall_82 rfl ?_
            refine q_callVv hE (M' := mX12_goesOn) (as := []) dX12_readCall_83 lk12_142 inX12_goesOn seX12_goesOn myX12_goesOn (by decide) ⟨by decide, by decide⟩ rfl (kR15 hS2875.1 ta0) (Nat.le_of_ble_eq_true rfl) rfl rfl (by decide) (by decide) (k_X12_goesOn hS2875.1 ta0) ?_
            rintro cn' K' N' I2895 R2896 L2897 ⟨rfl, rfl, rfl, rfl, g2898, p2900, p2901, p2902, w2903, -⟩
            have hS2904 := hS2875.tr g2898 (by decide +kernel) (by decide +kernel)
            have c2905 : I2895 a1 5 = v49 := (g2898.cell ta1 (by decide +kernel)).trans c2876
            have c2906 : I2895 a0 13 = v2886 := (g2898.cell ta0 (by decide +kernel)).trans c2887
            have c2907 : I2895 a0 14 = v2888 := (g2898.cell ta0 (by decide +kernel)).trans c2889
            obtain ⟨v2908, c2909⟩ : ∃ v, I2895 a0 9 = v := ⟨_, rfl⟩
            have b2910 := iv15_9 hS2904.1 ta0 c2909
            rw [c2884] at p2900
            rw [c2909] at p2900
            rw [c2884] at p2901
            rw [c2909] at p2901
            obtain ⟨v2911, c2912⟩ : ∃ v, I2895 a0 8 = v := ⟨_, rfl⟩
            have b2913 := iv15_8 hS2904.1 ta0 c2912
            rw [c2912] at p2902
            rw [c2877] at p2902
            rw [c2906] at p2902
            rw [c2887] at p2902
            have hO2914 : FrO 14 a1 T I0 I2895 := hO2881.st g2898 (by decide +kernel)
            have ov2915 := w2903.over (by rw [c2884]; omega)
            obtain ⟨v2916, c2917⟩ : ∃ v, I2895 a0 9 = v := ⟨_, rfl⟩
            have b2918 := iv15_9 hS2904.1 ta0 c2917
            obtain ⟨v2919, c2920⟩ : ∃ v, I2895 a0 13 = v := ⟨_, rfl⟩
            obtain ⟨v2921, c2922⟩ : ∃ v, I2895 a0 14 = v := ⟨_, rfl⟩
            (try rw [c2917] at ov2915)
            (try rw [c2920] at ov2915)
            (try rw [c2922] at ov2915)
            (try rw [c2884] at ov2915)
            (try rw [c2887] at ov2915)
            (try rw [c2889] at ov2915)
            refine tr_aload_n dX12_readCall_86 rfl ?_
            refine tr_ldcwS dX12_readCall_87 ld12_352 ?_
            refine q_iconst dX12_readCall_90 (by decide) ?_
            intro v2923 h2924
            refine tr_aload_n dX12_readCall_91 rfl ?_
            refine tr_getR dX12_readCall_92 fl12_188 (kR15 hS2904.1 ta0) d2 ?_
            refine q_getI dX12_readCall_95 fl12_192 (kR14 hS2904.1 ta1) ((hS2904.cell ta1 (by decide +kernel)).trans c30) ?_
            refine q_iconst dX12_readCall_98 (by decide) ?_
            intro v2925 h2926
            refine q_isubE dX12_readCall_99 (by intros; omega) ?_
            intro v2927 h2928
            refine q_callVi hE (M' := mX12_readPart) (as := [_, _, _]) dX12_readCall_100 lk12_249 inX12_readPart seX12_readPart myX12_readPart (by decide) ⟨by decide, by decide⟩ rfl (kR15 hS2904.1 ta0) (Nat.le_of_ble_eq_true rfl) rfl rfl (by decide) (by decide) (k_X12_readPart hS2904.1 ta0 (by decide)) ?_
            rintro v2933 cn' K' N' I2929 R2930 L2931 ⟨rfl, rfl, rfl, rfl, g2932, p2934, w2935, -⟩
            have hS2936 := hS2904.tr g2932 (by decide +kernel) (by decide +kernel)
            have c2937 : I2929 a1 5 = v49 := (g2932.cell ta1 (by decide +kernel)).trans c2905
            have b2938 : 0 ≤ v2933.toInt ∧ v2933.toInt ≤ 0 := by omega
            clear p2934
            have hO2939 : FrO 14 a1 T I0 I2929 := hO2914.st g2932 (by decide +kernel)
            have ov2940 := w2935.over (by rw [c2917]; omega)
            obtain ⟨v2941, c2942⟩ : ∃ v, I2929 a0 9 = v := ⟨_, rfl⟩
            have b2943 := iv15_9 hS2936.1 ta0 c2942
            obtain ⟨v2944, c2945⟩ : ∃ v, I2929 a0 13 = v := ⟨_, rfl⟩
            obtain ⟨v2946, c2947⟩ : ∃ v, I2929 a0 14 = v := ⟨_, rfl⟩
            (try rw [c2942] at ov2940)
            (try rw [c2945] at ov2940)
            (try rw [c2947] at ov2940)
            (try rw [c2917] at ov2940)
            (try rw [c2920] at ov2940)
            (try rw [c2922] at ov2940)
            refine tr_istore_n dX12_readCall_103 (by decide) (by decide) ?_
            refine tr_aload_n dX12_readCall_104 rfl ?_
            refine tr_ldcwS dX12_readCall_105 ld12_354 ?_
            refine q_iconst dX12_readCall_108 (by decide) ?_
            intro v2948 h2949
            refine q_bipush dX12_readCall_109 (by decide +kernel) ?_
            intro v2950 h2951
            refine q_callVi hE (M' := mX12_readPart) (as := [_, _, _]) dX12_readCall_111 lk12_249 inX12_readPart seX12_readPart myX12_readPart (by decide) ⟨by decide, by decide⟩ rfl (kR15 hS2936.1 ta0) (Nat.le_of_ble_eq_true rfl) rfl rfl (by decide) (by decide) (k_X12_readPart hS2936.1 ta0 (by decide)) ?_
            rintro v2956 cn' K' N' I2952 R2953 L2954 ⟨rfl, rfl, rfl, rfl, g2955, p2957, w2958, -⟩
            have hS2959 := hS2936.tr g2955 (by decide +kernel) (by decide +kernel)
            have c2960 : I2952 a1 5 = v49 := (g2955.cell ta1 (by decide +kernel)).trans c2937
            have b2961 : 1 ≤ v2956.toInt ∧ v2956.toInt ≤ 60 := by omega
            clear p2957
            have hO2962 : FrO 14 a1 T I0 I2952 := hO2939.st g2955 (by decide +kernel)
            have ov2963 := w2958.over (by rw [c2942]; omega)
            obtain ⟨v2964, c2965⟩ : ∃ v, I2952 a0 9 = v := ⟨_, rfl⟩
            have b2966 := iv15_9 hS2959.1 ta0 c2965
            obtain ⟨v2967, c2968⟩ : ∃ v, I2952 a0 13 = v := ⟨_, rfl⟩
            obtain ⟨v2969, c2970⟩ : ∃ v, I2952 a0 14 = v := ⟨_, rfl⟩
            (try rw [c2965] at ov2963)
            (try rw [c2968] at ov2963)
            (try rw [c2970] at ov2963)
            (try rw [c2942] at ov2963)
            (try rw [c2945] at ov2963)
            (try rw [c2947] at ov2963)
            refine tr_istore dX12_readCall_114 (by decide) (by decide) ?_
            refine tr_aload_n dX12_readCall_116 rfl ?_
            refine tr_ldcwS dX12_readCall_117 ld12_356 ?_
            refine q_iconst dX12_readCall_120 (by decide) ?_
            intro v2971 h2972
            refine q_bipush dX12_readCall_121 (by decide +kernel) ?_
            intro v2973 h2974
            refine q_callVi hE (M' := mX12_readPart) (as := [_, _, _]) dX12_readCall_123 lk12_249 inX12_readPart seX12_readPart myX12_readPart (by decide) ⟨by decide, by decide⟩ rfl (kR15 hS2959.1 ta0) (Nat.le_of_ble_eq_true rfl) rfl rfl (by decide) (by decide) (k_X12_readPart hS2959.1 ta0 (by decide)) ?_
            rintro v2979 cn' K' N' I2975 R2976 L2977 ⟨rfl, rfl, rfl, rfl, g2978, p2980, w2981, -⟩
            have hS2982 := hS2959.tr g2978 (by decide +kernel) (by decide +kernel)
            have c2983 : I2975 a1 5 = v49 := (g2978.cell ta1 (by decide +kernel)).trans c2960
            have b2984 : 0 ≤ v2979.toInt ∧ v2979.toInt ≤ 99 := by omega
            clear p2980
            have hO2985 : FrO 14 a1 T I0 I2975 := hO2962.st g2978 (by decide +kernel)
            have ov2986 := w2981.over (by rw [c2965]; omega)
            obtain ⟨v2987, c2988⟩ : ∃ v, I2975 a0 9 = v := ⟨_, rfl⟩
            have b2989 := iv15_9 hS2982.1 ta0 c2988
            obtain ⟨v2990, c2991⟩ : ∃ v, I2975 a0 13 = v := ⟨_, rfl⟩
            obtain ⟨v2992, c2993⟩ : ∃ v, I2975 a0 14 = v := ⟨_, rfl⟩
            (try rw [c2988] at ov2986)
            (try rw [c2991] at ov2986)
            (try rw [c2993] at ov2986)
            (try rw [c2965] at ov2986)
            (try rw [c2968] at ov2986)
            (try rw [c2970] at ov2986)
            refine tr_istore dX12_readCall_126 (by decide) (by decide) ?_
            refine tr_aload_n dX12_readCall_128 rfl ?_
            refine q_getI dX12_readCall_129 fl12_99 (kR15 hS2982.1 ta0) c2988 ?_
            refine q_iconst dX12_readCall_132 (by decide) ?_
            intro v2994 h2995
            refine q_icmp_ne 137 dX12_readCall_133 (by decide) (fun h2996 => ?_) (fun h2996 => ?_)
            · skip
              exfalso; omega
            · skip
              have eF := hF.eq
              have eP := hP.eq
              obtain ⟨v2997, c2998⟩ : ∃ v, I2975 a0 10 = v := ⟨_, rfl⟩
              have b2999 := iv15_10 hS2982.1 ta0 c2998
              obtain ⟨v3000, c3001⟩ : ∃ v, I2975 a0 11 = v := ⟨_, rfl⟩
              obtain ⟨y3002, c3003⟩ : ∃ v, L2977 a0 15 = v := ⟨_, rfl⟩
              obtain ⟨v3004, c3005⟩ : ∃ v, I2975 a0 12 = v := ⟨_, rfl⟩
              obtain ⟨v3006, c3007⟩ : ∃ v, I2975 a0 8 = v := ⟨_, rfl⟩
              have b3008 := iv15_8 hS2982.1 ta0 c3007
              exact tr_vret hZ dX12_readCall_136 rfl (by decide) (by decide) ⟨rfl, rfl, rfl, rfl, rfl, hS2982, (fun b hb => (Option.some.inj (d2.symm.trans hb)) ▸ (((((((FrM.rf (R := R0) (b := a1) (T := T)).st g79 (by decide +kernel)).st g2870 (by decide +kernel)).st g2898 (by decide +kernel)).st g2932 (by decide +kernel)).st g2955 (by decide +kernel)).st g2978 (by decide +kernel))), (fun dr hd => (Option.some.inj (d2.symm.trans hd)) ▸ hO2985), (Or.inr (⟨(by first | done | with_reducible assumption | omega), (by (try rw [c2988]); first | done | with_reducible assumption | omega), (by (try rw [c2991]); first | done | with_reducible assumption | omega), (by (try rw [c2993]); first | done | with_reducible assumption | omega), trivial⟩)), trivial⟩
    · skip
      refine tr_aload_n dX12_readCall_20 rfl ?_
      refine q_iconst dX12_readCall_21 (by decide) ?_
      intro v3009 h3010
      obtain ⟨v3011, c3012⟩ : ∃ v, I76 a0 8 = v := ⟨_, rfl⟩
      have b3013 := iv15_8 hS84.1 ta0 c3012
      refine q_callVv hE (M' := mX12_flaw) (as := [_]) dX12_readCall_22 lk12_145 inX12_flaw seX12_flaw myX12_flaw (by decide) ⟨by decide, by decide⟩ rfl (kR15 hS84.1 ta0) (Nat.le_of_ble_eq_true rfl) rfl rfl (by decide) (by decide) (k_X12_flaw hS84.1 ta0 (by omega)) ?_
      rintro cn' K' N' I3014 R3015 L3016 ⟨rfl, rfl, rfl, rfl, rfl, g3017, p3019, p3020, w3021, -⟩
      have hS3022 := hS84.tr g3017 (by decide +kernel) (by decide +kernel)
      have c3023 : I3014 a1 5 = v49 := (g3017.cell ta1 (by decide +kernel)).trans c85
      have c3024 : I3014 a0 8 = v3011 := (g3017.cell ta0 (by decide +kernel)).trans c3012
      obtain ⟨v3025, c3026⟩ : ∃ v, I3014 a0 9 = v := ⟨_, rfl⟩
      have b3027 := iv15_9 hS3022.1 ta0 c3026
      rw [c3026] at p3019
      rw [c3024] at p3020
      rw [c3012] at p3020
      have hO3028 : FrO 14 a1 T I0 I3014 := hO86.st g3017 (by decide +kernel)
      have ov3029 := w3021.over (by rw [c2560]; omega)
      obtain ⟨v3030, c3031⟩ : ∃ v, I3014 a0 9 = v := ⟨_, rfl⟩
      have b3032 := iv15_9 hS3022.1 ta0 c3031
      obtain ⟨v3033, c3034⟩ : ∃ v, I3014 a0 13 = v := ⟨_, rfl⟩
      obtain ⟨v3035, c3036⟩ : ∃ v, I3014 a0 14 = v := ⟨_, rfl⟩
      (try rw [c3031] at ov3029)
      (try rw [c3034] at ov3029)
      (try rw [c3036] at ov3029)
      (try rw [c2560] at ov3029)
      (try rw [c2563] at ov3029)
      (try rw [c2565] at ov3029)
      refine tr_aload_n dX12_readCall_25 rfl ?_
      refine tr_getR dX12_readCall_26 fl12_188 (kR15 hS3022.1 ta0) d2 ?_
      refine tr_aload_n dX12_readCall_29 rfl ?_
      have p3037 := p17 (by omega)
      obtain ⟨y3038, c3039⟩ : ∃ v, L78 a0 15 = v := ⟨_, rfl⟩
      refine q_getLE dX12_readCall_30 fl12_118 (kR15 hS3022.1 ta0) c3039 ?_
      refine q_callVi hE (M' := mX11_find) (as := [_]) dX12_readCall_33 lk12_201 inX11_find seX11_find myX11_find (by decide) ⟨by decide, by decide⟩ rfl (kR14 hS3022.1 ta1) (Nat.le_of_ble_eq_true rfl) rfl rfl (by decide) (by decide) (k_X11_find hS3022.1 ta1) ?_
      rintro v3044 cn' K' N' I3040 R3041 L3042 ⟨rfl, rfl, rfl, rfl, rfl, rfl, h3045, -⟩
      refine tr_istore_n dX12_readCall_36 (by decide) (by decide) ?_
      refine tr_iload_n dX12_readCall_37 rfl ?_
      refine q_iconst dX12_readCall_38 (by decide) ?_
      intro v3046 h3047
      refine q_icmp_eq 55 dX12_readCall_39 (by decide) (fun h3048 => ?_) (fun h3048 => ?_)
      · skip
        refine tr_aload_n dX12_readCall_55 rfl ?_
        refine q_iconst dX12_readCall_56 (by decide) ?_
        intro v3049 h3050
        refine q_callVv hE (M' := mX12_flaw) (as := [_]) dX12_readCall_57 lk12_145 inX12_flaw seX12_flaw myX12_flaw (by decide) ⟨by decide, by decide⟩ rfl (kR15 hS3022.1 ta0) (Nat.le_of_ble_eq_true rfl) rfl rfl (by decide) (by decide) (k_X12_flaw hS3022.1 ta0 (by omega)) ?_
        rintro cn' K' N' I3051 R3052 L3053 ⟨rfl, rfl, rfl, rfl, rfl, g3054, p3056, p3057, w3058, -⟩
        have hS3059 := hS3022.tr g3054 (by decide +kernel) (by decide +kernel)
        have c3060 : I3051 a1 5 = v49 := (g3054.cell ta1 (by decide +kernel)).trans c3023
        have c3061 : I3051 a0 8 = v3011 := (g3054.cell ta0 (by decide +kernel)).trans c3024
        obtain ⟨v3062, c3063⟩ : ∃ v, I3051 a0 9 = v := ⟨_, rfl⟩
        have b3064 := iv15_9 hS3059.1 ta0 c3063
        rw [c3063] at p3056
        rw [c3061] at p3057
        rw [c3024] at p3057
        have hO3065 : FrO 14 a1 T I0 I3051 := hO3028.st g3054 (by decide +kernel)
        have ov3066 := w3058.over (by rw [c3031]; omega)
        obtain ⟨v3067, c3068⟩ : ∃ v, I3051 a0 9 = v := ⟨_, rfl⟩
        have b3069 := iv15_9 hS3059.1 ta0 c3068
        obtain ⟨v3070, c3071⟩ : ∃ v, I3051 a0 13 = v := ⟨_, rfl⟩
        obtain ⟨v3072, c3073⟩ : ∃ v, I3051 a0 14 = v := ⟨_, rfl⟩
        (try rw [c3068] at ov3066)
        (try rw [c3071] at ov3066)
        (try rw [c3073] at ov3066)
        (try rw [c3031] at ov3066)
        (try rw [c3034] at ov3066)
        (try rw [c3036] at ov3066)
        refine tr_aload_n dX12_readCall_60 rfl ?_
        refine q_getI dX12_readCall_61 fl12_99 (kR15 hS3059.1 ta0) c3068 ?_
        refine q_iconst dX12_readCall_64 (by decide) ?_
        intro v3074 h3075
        refine q_icmp_ne 72 dX12_readCall_65 (by decide) (fun h3076 => ?_) (fun h3076 => ?_)
        · skip
          exfalso; omega
        · skip
          refine q_iconst dX12_readCall_68 (by decide) ?_
          intro v3077 h3078
          refine tr_goto 81 dX12_readCall_69 (by decide) ?_
          refine tr_istore_n dX12_readCall_81 (by decide) (by decide) ?_
          refine tr_aload_n dX12_readCall_82 rfl ?_
          refine q_callVv hE (M' := mX12_goesOn) (as := []) dX12_readCall_83 lk12_142 inX12_goesOn seX12_goesOn myX12_goesOn (by decide) ⟨by decide, by decide⟩ rfl (kR15 hS3059.1 ta0) (Nat.le_of_ble_eq_true rfl) rfl rfl (by decide) (by decide) (k_X12_goesOn hS3059.1 ta0) ?_
          rintro cn' K' N' I3079 R3080 L3081 ⟨rfl, rfl, rfl, rfl, g3082, p3084, p3085, p3086, w3087, -⟩
          have hS3088 := hS3059.tr g3082 (by decide +kernel) (by decide +kernel)
          have c3089 : I3079 a1 5 = v49 := (g3082.cell ta1 (by decide +kernel)).trans c3060
          have c3090 : I3079 a0 13 = v3070 := (g3082.cell ta0 (by decide +kernel)).trans c3071
          have c3091 : I3079 a0 14 = v3072 := (g3082.cell ta0 (by decide +kernel)).trans c3073
          obtain ⟨v3092, c3093⟩ : ∃ v, I3079 a0 9 = v := ⟨_, rfl⟩
          have b3094 := iv15_9 hS3088.1 ta0 c3093
          rw [c3068] at p3084
          rw [c3093] at p3084
          rw [c3068] at p3085
          rw [c3093] at p3085
          obtain ⟨v3095, c3096⟩ : ∃ v, I3079 a0 8 = v := ⟨_, rfl⟩
          have b3097 := iv15_8 hS3088.1 ta0 c3096
          rw [c3096] at p3086
          rw [c3061] at p3086
          rw [c3090] at p3086
          rw [c3071] at p3086
          have hO3098 : FrO 14 a1 T I0 I3079 := hO3065.st g3082 (by decide +kernel)
          have ov3099 := w3087.over (by rw [c3068]; omega)
          obtain ⟨v3100, c3101⟩ : ∃ v, I3079 a0 9 = v := ⟨_, rfl⟩
          have b3102 := iv15_9 hS3088.1 ta0 c3101
          obtain ⟨v3103, c3104⟩ : ∃ v, I3079 a0 13 = v := ⟨_, rfl⟩
          obtain ⟨v3105, c3106⟩ : ∃ v, I3079 a0 14 = v := ⟨_, rfl⟩
          (try rw [c3101] at ov3099)
          (try rw [c3104] at ov3099)
          (try rw [c3106] at ov3099)
          (try rw [c3068] at ov3099)
          (try rw [c3071] at ov3099)
          (try rw [c3073] at ov3099)
          refine tr_aload_n dX12_readCall_86 rfl ?_
          refine tr_ldcwS dX12_readCall_87 ld12_352 ?_
          refine q_iconst dX12_readCall_90 (by decide) ?_
          intro v3107 h3108
          refine tr_aload_n dX12_readCall_91 rfl ?_
          refine tr_getR dX12_readCall_92 fl12_188 (kR15 hS3088.1 ta0) d2 ?_
          refine q_getI dX12_readCall_95 fl12_192 (kR14 hS3088.1 ta1) ((hS3088.cell ta1 (by decide +kernel)).trans c30) ?_
          refine q_iconst dX12_readCall_98 (by decide) ?_
          intro v3109 h3110
          refine q_isubE dX12_readCall_99 (by intros; omega) ?_
          intro v3111 h3112
          refine q_callVi hE (M' := mX12_readPart) (as := [_, _, _]) dX12_readCall_100 lk12_249 inX12_readPart seX12_readPart myX12_readPart (by decide) ⟨by decide, by decide⟩ rfl (kR15 hS3088.1 ta0) (Nat.le_of_ble_eq_true rfl) rfl rfl (by decide) (by decide) (k_X12_readPart hS3088.1 ta0 (by decide)) ?_
          rintro v3117 cn' K' N' I3113 R3114 L3115 ⟨rfl, rfl, rfl, rfl, g3116, p3118, w3119, -⟩
          have hS3120 := hS3088.tr g3116 (by decide +kernel) (by decide +kernel)
          have c3121 : I3113 a1 5 = v49 := (g3116.cell ta1 (by decide +kernel)).trans c3089
          have b3122 : 0 ≤ v3117.toInt ∧ v3117.toInt ≤ 0 := by omega
          clear p3118
          have hO3123 : FrO 14 a1 T I0 I3113 := hO3098.st g3116 (by decide +kernel)
          have ov3124 := w3119.over (by rw [c3101]; omega)
          obtain ⟨v3125, c3126⟩ : ∃ v, I3113 a0 9 = v := ⟨_, rfl⟩
          have b3127 := iv15_9 hS3120.1 ta0 c3126
          obtain ⟨v3128, c3129⟩ : ∃ v, I3113 a0 13 = v := ⟨_, rfl⟩
          obtain ⟨v3130, c3131⟩ : ∃ v, I3113 a0 14 = v := ⟨_, rfl⟩
          (try rw [c3126] at ov3124)
          (try rw [c3129] at ov3124)
          (try rw [c3131] at ov3124)
          (try rw [c3101] at ov3124)
          (try rw [c3104] at ov3124)
          (try rw [c3106] at ov3124)
          refine tr_istore_n dX12_readCall_103 (by decide) (by decide) ?_
          refine tr_aload_n dX12_readCall_104 rfl ?_
          refine tr_ldcwS dX12_readCall_105 ld12_354 ?_
          refine q_iconst dX12_readCall_108 (by decide) ?_
          intro v3132 h3133
          refine q_bipush dX12_readCall_109 (by decide +kernel) ?_
          intro v3134 h3135
          refine q_callVi hE (M' := mX12_readPart) (as := [_, _, _]) dX12_readCall_111 lk12_249 inX12_readPart seX12_readPart myX12_readPart (by decide) ⟨by decide, by decide⟩ rfl (kR15 hS3120.1 ta0) (Nat.le_of_ble_eq_true rfl) rfl rfl (by decide) (by decide) (k_X12_readPart hS3120.1 ta0 (by decide)) ?_
          rintro v3140 cn' K' N' I3136 R3137 L3138 ⟨rfl, rfl, rfl, rfl, g3139, p3141, w3142, -⟩
          have hS3143 := hS3120.tr g3139 (by decide +kernel) (by decide +kernel)
          have c3144 : I3136 a1 5 = v49 := (g3139.cell ta1 (by decide +kernel)).trans c3121
          have b3145 : 1 ≤ v3140.toInt ∧ v3140.toInt ≤ 60 := by omega
          clear p3141
          have hO3146 : FrO 14 a1 T I0 I3136 := hO3123.st g3139 (by decide +kernel)
          have ov3147 := w3142.over (by rw [c3126]; omega)
          obtain ⟨v3148, c3149⟩ : ∃ v, I3136 a0 9 = v := ⟨_, rfl⟩
          have b3150 := iv15_9 hS3143.1 ta0 c3149
          obtain ⟨v3151, c3152⟩ : ∃ v, I3136 a0 13 = v := ⟨_, rfl⟩
          obtain ⟨v3153, c3154⟩ : ∃ v, I3136 a0 14 = v := ⟨_, rfl⟩
          (try rw [c3149] at ov3147)
          (try rw [c3152] at ov3147)
          (try rw [c3154] at ov3147)
          (try rw [c3126] at ov3147)
          (try rw [c3129] at ov3147)
          (try rw [c3131] at ov3147)
          refine tr_istore dX12_readCall_114 (by decide) (by decide) ?_
          refine tr_aload_n dX12_readCall_116 rfl ?_
          refine tr_ldcwS dX12_readCall_117 ld12_356 ?_
          refine q_iconst dX12_readCall_120 (by decide) ?_
          intro v3155 h3156
          refine q_bipush dX12_readCall_121 (by decide +kernel) ?_
          intro v3157 h3158
          refine q_callVi hE (M' := mX12_readPart) (as := [_, _, _]) dX12_readCall_123 lk12_249 inX12_readPart seX12_readPart myX12_readPart (by decide) ⟨by decide, by decide⟩ rfl (kR15 hS3143.1 ta0) (Nat.le_of_ble_eq_true rfl) rfl rfl (by decide) (by decide) (k_X12_readPart hS3143.1 ta0 (by decide)) ?_
          rintro v3163 cn' K' N' I3159 R3160 L3161 ⟨rfl, rfl, rfl, rfl, g3162, p3164, w3165, -⟩
          have hS3166 := hS3143.tr g3162 (by decide +kernel) (by decide +kernel)
          have c3167 : I3159 a1 5 = v49 := (g3162.cell ta1 (by decide +kernel)).trans c3144
          have b3168 : 0 ≤ v3163.toInt ∧ v3163.toInt ≤ 99 := by omega
          clear p3164
          have hO3169 : FrO 14 a1 T I0 I3159 := hO3146.st g3162 (by decide +kernel)
          have ov3170 := w3165.over (by rw [c3149]; omega)
          obtain ⟨v3171, c3172⟩ : ∃ v, I3159 a0 9 = v := ⟨_, rfl⟩
          have b3173 := iv15_9 hS3166.1 ta0 c3172
          obtain ⟨v3174, c3175⟩ : ∃ v, I3159 a0 13 = v := ⟨_, rfl⟩
          obtain ⟨v3176, c3177⟩ : ∃ v, I3159 a0 14 = v := ⟨_, rfl⟩
          (try rw [c3172] at ov3170)
          (try rw [c3175] at ov3170)
          (try rw [c3177] at ov3170)
          (try rw [c3149] at ov3170)
          (try rw [c3152] at ov3170)
          (try rw [c3154] at ov3170)
          refine tr_istore dX12_readCall_126 (by decide) (by decide) ?_
          refine tr_aload_n dX12_readCall_128 rfl ?_
          refine q_getI dX12_readCall_129 fl12_99 (kR15 hS3166.1 ta0) c3172 ?_
          refine q_iconst dX12_readCall_132 (by decide) ?_
          intro v3178 h3179
          refine q_icmp_ne 137 dX12_readCall_133 (by decide) (fun h3180 => ?_) (fun h3180 => ?_)
          · skip
            exfalso; omega
          · skip
            have eF := hF.eq
            have eP := hP.eq
            obtain ⟨v3181, c3182⟩ : ∃ v, I3159 a0 10 = v := ⟨_, rfl⟩
            have b3183 := iv15_10 hS3166.1 ta0 c3182
            obtain ⟨v3184, c3185⟩ : ∃ v, I3159 a0 11 = v := ⟨_, rfl⟩
            obtain ⟨y3186, c3187⟩ : ∃ v, L3161 a0 15 = v := ⟨_, rfl⟩
            obtain ⟨v3188, c3189⟩ : ∃ v, I3159 a0 12 = v := ⟨_, rfl⟩
            obtain ⟨v3190, c3191⟩ : ∃ v, I3159 a0 8 = v := ⟨_, rfl⟩
            have b3192 := iv15_8 hS3166.1 ta0 c3191
            exact tr_vret hZ dX12_readCall_136 rfl (by decide) (by decide) ⟨rfl, rfl, rfl, rfl, rfl, hS3166, (fun b hb => (Option.some.inj (d2.symm.trans hb)) ▸ ((((((((FrM.rf (R := R0) (b := a1) (T := T)).st g79 (by decide +kernel)).st g3017 (by decide +kernel)).st g3054 (by decide +kernel)).st g3082 (by decide +kernel)).st g3116 (by decide +kernel)).st g3139 (by decide +kernel)).st g3162 (by decide +kernel))), (fun dr hd => (Option.some.inj (d2.symm.trans hd)) ▸ hO3169), (Or.inr (⟨(by first | done | with_reducible assumption | omega), (by (try rw [c3172]); first | done | with_reducible assumption | omega), (by (try rw [c3175]); first | done | with_reducible assumption | omega), (by (try rw [c3177]); first | done | with_reducible assumption | omega), trivial⟩)), trivial⟩
      · skip
        refine tr_aload_n dX12_readCall_42 rfl ?_
        refine tr_getR dX12_readCall_43 fl12_188 (kR15 hS3022.1 ta0) d2 ?_
        obtain ⟨a3193, d3194, ta3193⟩ := rf14_31 hW0 ta1
        refine tr_getR dX12_readCall_46 fl12_212 (kR14 hS3022.1 ta1) d3194 ?_
        refine tr_iload_n dX12_readCall_49 rfl ?_
        refine q_iald dX12_readCall_50 (kR74 hS3022.1 ta3193) (ti_in (nR74 hS3022.1 ta3193) (by omega) (by omega)) ?_
        intro v3195 c3196
        refine q_iconst dX12_readCall_51 (by decide) ?_
        intro v3197 h3198
        refine q_icmp_eq 60 dX12_readCall_52 (by decide) (fun h3199 => ?_) (fun h3199 => ?_)
        · skip
          refine tr_aload_n dX12_readCall_60 rfl ?_
          refine q_getI dX12_readCall_61 fl12_99 (kR15 hS3022.1 ta0) c3031 ?_
          refine q_iconst dX12_readCall_64 (by decide) ?_
          intro v3200 h3201
          refine q_icmp_ne 72 dX12_readCall_65 (by decide) (fun h3202 => ?_) (fun h3202 => ?_)
          · skip
            exfalso; omega
          · skip
            refine q_iconst dX12_readCall_68 (by decide) ?_
            intro v3203 h3204
            refine tr_goto 81 dX12_readCall_69 (by decide) ?_
            refine tr_istore_n dX12_readCall_81 (by decide) (by decide) ?_
            refine tr_aload_n dX12_readCall_82 rfl ?_
            refine q_callVv hE (M' := mX12_goesOn) (as := []) dX12_readCall_83 lk12_142 inX12_goesOn seX12_goesOn myX12_goesOn (by decide) ⟨by decide, by decide⟩ rfl (kR15 hS3022.1 ta0) (Nat.le_of_ble_eq_true rfl) rfl rfl (by decide) (by decide) (k_X12_goesOn hS3022.1 ta0) ?_
            rintro cn' K' N' I3205 R3206 L3207 ⟨rfl, rfl, rfl, rfl, g3208, p3210, p3211, p3212, w3213, -⟩
            have hS3214 := hS3022.tr g3208 (by decide +kernel) (by decide +kernel)
            have c3215 : I3205 a1 5 = v49 := (g3208.cell ta1 (by decide +kernel)).trans c3023
            have c3216 : I3205 a0 13 = v3033 := (g3208.cell ta0 (by decide +kernel)).trans c3034
            have c3217 : I3205 a0 14 = v3035 := (g3208.cell ta0 (by decide +kernel)).trans c3036
            obtain ⟨v3218, c3219⟩ : ∃ v, I3205 a0 9 = v := ⟨_, rfl⟩
            have b3220 := iv15_9 hS3214.1 ta0 c3219
            rw [c3031] at p3210
            rw [c3219] at p3210
            rw [c3031] at p3211
            rw [c3219] at p3211
            obtain ⟨v3221, c3222⟩ : ∃ v, I3205 a0 8 = v := ⟨_, rfl⟩
            have b3223 := iv15_8 hS3214.1 ta0 c3222
            rw [c3222] at p3212
            rw [c3024] at p3212
            rw [c3216] at p3212
            rw [c3034] at p3212
            have hO3224 : FrO 14 a1 T I0 I3205 := hO3028.st g3208 (by decide +kernel)
            have ov3225 := w3213.over (by rw [c3031]; omega)
            obtain ⟨v3226, c3227⟩ : ∃ v, I3205 a0 9 = v := ⟨_, rfl⟩
            have b3228 := iv15_9 hS3214.1 ta0 c3227
            obtain ⟨v3229, c3230⟩ : ∃ v, I3205 a0 13 = v := ⟨_, rfl⟩
            obtain ⟨v3231, c3232⟩ : ∃ v, I3205 a0 14 = v := ⟨_, rfl⟩
            (try rw [c3227] at ov3225)
            (try rw [c3230] at ov3225)
            (try rw [c3232] at ov3225)
            (try rw [c3031] at ov3225)
            (try rw [c3034] at ov3225)
            (try rw [c3036] at ov3225)
            refine tr_aload_n dX12_readCall_86 rfl ?_
            refine tr_ldcwS dX12_readCall_87 ld12_352 ?_
            refine q_iconst dX12_readCall_90 (by decide) ?_
            intro v3233 h3234
            refine tr_aload_n dX12_readCall_91 rfl ?_
            refine tr_getR dX12_readCall_92 fl12_188 (kR15 hS3214.1 ta0) d2 ?_
            refine q_getI dX12_readCall_95 fl12_192 (kR14 hS3214.1 ta1) ((hS3214.cell ta1 (by decide +kernel)).trans c30) ?_
            refine q_iconst dX12_readCall_98 (by decide) ?_
            intro v3235 h3236
            refine q_isubE dX12_readCall_99 (by intros; omega) ?_
            intro v3237 h3238
            refine q_callVi hE (M' := mX12_readPart) (as := [_, _, _]) dX12_readCall_100 lk12_249 inX12_readPart seX12_readPart myX12_readPart (by decide) ⟨by decide, by decide⟩ rfl (kR15 hS3214.1 ta0) (Nat.le_of_ble_eq_true rfl) rfl rfl (by decide) (by decide) (k_X12_readPart hS3214.1 ta0 (by decide)) ?_
            rintro v3243 cn' K' N' I3239 R3240 L3241 ⟨rfl, rfl, rfl, rfl, g3242, p3244, w3245, -⟩
            have hS3246 := hS3214.tr g3242 (by decide +kernel) (by decide +kernel)
            have c3247 : I3239 a1 5 = v49 := (g3242.cell ta1 (by decide +kernel)).trans c3215
            have b3248 : 0 ≤ v3243.toInt ∧ v3243.toInt ≤ 0 := by omega
            clear p3244
            have hO3249 : FrO 14 a1 T I0 I3239 := hO3224.st g3242 (by decide +kernel)
            have ov3250 := w3245.over (by rw [c3227]; omega)
            obtain ⟨v3251, c3252⟩ : ∃ v, I3239 a0 9 = v := ⟨_, rfl⟩
            have b3253 := iv15_9 hS3246.1 ta0 c3252
            obtain ⟨v3254, c3255⟩ : ∃ v, I3239 a0 13 = v := ⟨_, rfl⟩
            obtain ⟨v3256, c3257⟩ : ∃ v, I3239 a0 14 = v := ⟨_, rfl⟩
            (try rw [c3252] at ov3250)
            (try rw [c3255] at ov3250)
            (try rw [c3257] at ov3250)
            (try rw [c3227] at ov3250)
            (try rw [c3230] at ov3250)
            (try rw [c3232] at ov3250)
            refine tr_istore_n dX12_readCall_103 (by decide) (by decide) ?_
            refine tr_aload_n dX12_readCall_104 rfl ?_
            refine tr_ldcwS dX12_readCall_105 ld12_354 ?_
            refine q_iconst dX12_readCall_108 (by decide) ?_
            intro v3258 h3259
            refine q_bipush dX12_readCall_109 (by decide +kernel) ?_
            intro v3260 h3261
            refine q_callVi hE (M' := mX12_readPart) (as := [_, _, _]) dX12_readCall_111 lk12_249 inX12_readPart seX12_readPart myX12_readPart (by decide) ⟨by decide, by decide⟩ rfl (kR15 hS3246.1 ta0) (Nat.le_of_ble_eq_true rfl) rfl rfl (by decide) (by decide) (k_X12_readPart hS3246.1 ta0 (by decide)) ?_
            rintro v3266 cn' K' N' I3262 R3263 L3264 ⟨rfl, rfl, rfl, rfl, g3265, p3267, w3268, -⟩
            have hS3269 := hS3246.tr g3265 (by decide +kernel) (by decide +kernel)
            have c3270 : I3262 a1 5 = v49 := (g3265.cell ta1 (by decide +kernel)).trans c3247
            have b3271 : 1 ≤ v3266.toInt ∧ v3266.toInt ≤ 60 := by omega
            clear p3267
            have hO3272 : FrO 14 a1 T I0 I3262 := hO3249.st g3265 (by decide +kernel)
            have ov3273 := w3268.over (by rw [c3252]; omega)
            obtain ⟨v3274, c3275⟩ : ∃ v, I3262 a0 9 = v := ⟨_, rfl⟩
            have b3276 := iv15_9 hS3269.1 ta0 c3275
            obtain ⟨v3277, c3278⟩ : ∃ v, I3262 a0 13 = v := ⟨_, rfl⟩
            obtain ⟨v3279, c3280⟩ : ∃ v, I3262 a0 14 = v := ⟨_, rfl⟩
            (try rw [c3275] at ov3273)
            (try rw [c3278] at ov3273)
            (try rw [c3280] at ov3273)
            (try rw [c3252] at ov3273)
            (try rw [c3255] at ov3273)
            (try rw [c3257] at ov3273)
            refine tr_istore dX12_readCall_114 (by decide) (by decide) ?_
            refine tr_aload_n dX12_readCall_116 rfl ?_
            refine tr_ldcwS dX12_readCall_117 ld12_356 ?_
            refine q_iconst dX12_readCall_120 (by decide) ?_
            intro v3281 h3282
            refine q_bipush dX12_readCall_121 (by decide +kernel) ?_
            intro v3283 h3284
            refine q_callVi hE (M' := mX12_readPart) (as := [_, _, _]) dX12_readCall_123 lk12_249 inX12_readPart seX12_readPart myX12_readPart (by decide) ⟨by decide, by decide⟩ rfl (kR15 hS3269.1 ta0) (Nat.le_of_ble_eq_true rfl) rfl rfl (by decide) (by decide) (k_X12_readPart hS3269.1 ta0 (by decide)) ?_
            rintro v3289 cn' K' N' I3285 R3286 L3287 ⟨rfl, rfl, rfl, rfl, g3288, p3290, w3291, -⟩
            have hS3292 := hS3269.tr g3288 (by decide +kernel) (by decide +kernel)
            have c3293 : I3285 a1 5 = v49 := (g3288.cell ta1 (by decide +kernel)).trans c3270
            have b3294 : 0 ≤ v3289.toInt ∧ v3289.toInt ≤ 99 := by omega
            clear p3290
            have hO3295 : FrO 14 a1 T I0 I3285 := hO3272.st g3288 (by decide +kernel)
            have ov3296 := w3291.over (by rw [c3275]; omega)
            obtain ⟨v3297, c3298⟩ : ∃ v, I3285 a0 9 = v := ⟨_, rfl⟩
            have b3299 := iv15_9 hS3292.1 ta0 c3298
            obtain ⟨v3300, c3301⟩ : ∃ v, I3285 a0 13 = v := ⟨_, rfl⟩
            obtain ⟨v3302, c3303⟩ : ∃ v, I3285 a0 14 = v := ⟨_, rfl⟩
            (try rw [c3298] at ov3296)
            (try rw [c3301] at ov3296)
            (try rw [c3303] at ov3296)
            (try rw [c3275] at ov3296)
            (try rw [c3278] at ov3296)
            (try rw [c3280] at ov3296)
            refine tr_istore dX12_readCall_126 (by decide) (by decide) ?_
            refine tr_aload_n dX12_readCall_128 rfl ?_
            refine q_getI dX12_readCall_129 fl12_99 (kR15 hS3292.1 ta0) c3298 ?_
            refine q_iconst dX12_readCall_132 (by decide) ?_
            intro v3304 h3305
            refine q_icmp_ne 137 dX12_readCall_133 (by decide) (fun h3306 => ?_) (fun h3306 => ?_)
            · skip
              exfalso; omega
            · skip
              have eF := hF.eq
              have eP := hP.eq
              obtain ⟨v3307, c3308⟩ : ∃ v, I3285 a0 10 = v := ⟨_, rfl⟩
              have b3309 := iv15_10 hS3292.1 ta0 c3308
              obtain ⟨v3310, c3311⟩ : ∃ v, I3285 a0 11 = v := ⟨_, rfl⟩
              obtain ⟨y3312, c3313⟩ : ∃ v, L3287 a0 15 = v := ⟨_, rfl⟩
              obtain ⟨v3314, c3315⟩ : ∃ v, I3285 a0 12 = v := ⟨_, rfl⟩
              obtain ⟨v3316, c3317⟩ : ∃ v, I3285 a0 8 = v := ⟨_, rfl⟩
              have b3318 := iv15_8 hS3292.1 ta0 c3317
              exact tr_vret hZ dX12_readCall_136 rfl (by decide) (by decide) ⟨rfl, rfl, rfl, rfl, rfl, hS3292, (fun b hb => (Option.some.inj (d2.symm.trans hb)) ▸ (((((((FrM.rf (R := R0) (b := a1) (T := T)).st g79 (by decide +kernel)).st g3017 (by decide +kernel)).st g3208 (by decide +kernel)).st g3242 (by decide +kernel)).st g3265 (by decide +kernel)).st g3288 (by decide +kernel))), (fun dr hd => (Option.some.inj (d2.symm.trans hd)) ▸ hO3295), (Or.inr (⟨(by first | done | with_reducible assumption | omega), (by (try rw [c3298]); first | done | with_reducible assumption | omega), (by (try rw [c3301]); first | done | with_reducible assumption | omega), (by (try rw [c3303]); first | done | with_reducible assumption | omega), trivial⟩)), trivial⟩
        · skip
          refine tr_aload_n dX12_readCall_55 rfl ?_
          refine q_iconst dX12_readCall_56 (by decide) ?_
          intro v3319 h3320
          refine q_callVv hE (M' := mX12_flaw) (as := [_]) dX12_readCall_57 lk12_145 inX12_flaw seX12_flaw myX12_flaw (by decide) ⟨by decide, by decide⟩ rfl (kR15 hS3022.1 ta0) (Nat.le_of_ble_eq_true rfl) rfl rfl (by decide) (by decide) (k_X12_flaw hS3022.1 ta0 (by omega)) ?_
          rintro cn' K' N' I3321 R3322 L3323 ⟨rfl, rfl, rfl, rfl, rfl, g3324, p3326, p3327, w3328, -⟩
          have hS3329 := hS3022.tr g3324 (by decide +kernel) (by decide +kernel)
          have c3330 : I3321 a1 5 = v49 := (g3324.cell ta1 (by decide +kernel)).trans c3023
          have c3331 : I3321 a0 8 = v3011 := (g3324.cell ta0 (by decide +kernel)).trans c3024
          obtain ⟨v3332, c3333⟩ : ∃ v, I3321 a0 9 = v := ⟨_, rfl⟩
          have b3334 := iv15_9 hS3329.1 ta0 c3333
          rw [c3333] at p3326
          rw [c3331] at p3327
          rw [c3024] at p3327
          have hO3335 : FrO 14 a1 T I0 I3321 := hO3028.st g3324 (by decide +kernel)
          have ov3336 := w3328.over (by rw [c3031]; omega)
          obtain ⟨v3337, c3338⟩ : ∃ v, I3321 a0 9 = v := ⟨_, rfl⟩
          have b3339 := iv15_9 hS3329.1 ta0 c3338
          obtain ⟨v3340, c3341⟩ : ∃ v, I3321 a0 13 = v := ⟨_, rfl⟩
          obtain ⟨v3342, c3343⟩ : ∃ v, I3321 a0 14 = v := ⟨_, rfl⟩
          (try rw [c3338] at ov3336)
          (try rw [c3341] at ov3336)
          (try rw [c3343] at ov3336)
          (try rw [c3031] at ov3336)
          (try rw [c3034] at ov3336)
          (try rw [c3036] at ov3336)
          refine tr_aload_n dX12_readCall_60 rfl ?_
          refine q_getI dX12_readCall_61 fl12_99 (kR15 hS3329.1 ta0) c3338 ?_
          refine q_iconst dX12_readCall_64 (by decide) ?_
          intro v3344 h3345
          refine q_icmp_ne 72 dX12_readCall_65 (by decide) (fun h3346 => ?_) (fun h3346 => ?_)
          · skip
            exfalso; omega
          · skip
            refine q_iconst dX12_readCall_68 (by decide) ?_
            intro v3347 h3348
            refine tr_goto 81 dX12_readCall_69 (by decide) ?_
            refine tr_istore_n dX12_readCall_81 (by decide) (by decide) ?_
            refine tr_aload_n dX12_readCall_82 rfl ?_
            refine q_callVv hE (M' := mX12_goesOn) (as := []) dX12_readCall_83 lk12_142 inX12_goesOn seX12_goesOn myX12_goesOn (by decide) ⟨by decide, by decide⟩ rfl (kR15 hS3329.1 ta0) (Nat.le_of_ble_eq_true rfl) rfl rfl (by decide) (by decide) (k_X12_goesOn hS3329.1 ta0) ?_
            rintro cn' K' N' I3349 R3350 L3351 ⟨rfl, rfl, rfl, rfl, g3352, p3354, p3355, p3356, w3357, -⟩
            have hS3358 := hS3329.tr g3352 (by decide +kernel) (by decide +kernel)
            have c3359 : I3349 a1 5 = v49 := (g3352.cell ta1 (by decide +kernel)).trans c3330
            have c3360 : I3349 a0 13 = v3340 := (g3352.cell ta0 (by decide +kernel)).trans c3341
            have c3361 : I3349 a0 14 = v3342 := (g3352.cell ta0 (by decide +kernel)).trans c3343
            obtain ⟨v3362, c3363⟩ : ∃ v, I3349 a0 9 = v := ⟨_, rfl⟩
            have b3364 := iv15_9 hS3358.1 ta0 c3363
            rw [c3338] at p3354
            rw [c3363] at p3354
            rw [c3338] at p3355
            rw [c3363] at p3355
            obtain ⟨v3365, c3366⟩ : ∃ v, I3349 a0 8 = v := ⟨_, rfl⟩
            have b3367 := iv15_8 hS3358.1 ta0 c3366
            rw [c3366] at p3356
            rw [c3331] at p3356
            rw [c3360] at p3356
            rw [c3341] at p3356
            have hO3368 : FrO 14 a1 T I0 I3349 := hO3335.st g3352 (by decide +kernel)
            have ov3369 := w3357.over (by rw [c3338]; omega)
            obtain ⟨v3370, c3371⟩ : ∃ v, I3349 a0 9 = v := ⟨_, rfl⟩
            have b3372 := iv15_9 hS3358.1 ta0 c3371
            obtain ⟨v3373, c3374⟩ : ∃ v, I3349 a0 13 = v := ⟨_, rfl⟩
            obtain ⟨v3375, c3376⟩ : ∃ v, I3349 a0 14 = v := ⟨_, rfl⟩
            (try rw [c3371] at ov3369)
            (try rw [c3374] at ov3369)
            (try rw [c3376] at ov3369)
            (try rw [c3338] at ov3369)
            (try rw [c3341] at ov3369)
            (try rw [c3343] at ov3369)
            refine tr_aload_n dX12_readCall_86 rfl ?_
            refine tr_ldcwS dX12_readCall_87 ld12_352 ?_
            refine q_iconst dX12_readCall_90 (by decide) ?_
            intro v3377 h3378
            refine tr_aload_n dX12_readCall_91 rfl ?_
            refine tr_getR dX12_readCall_92 fl12_188 (kR15 hS3358.1 ta0) d2 ?_
            refine q_getI dX12_readCall_95 fl12_192 (kR14 hS3358.1 ta1) ((hS3358.cell ta1 (by decide +kernel)).trans c30) ?_
            refine q_iconst dX12_readCall_98 (by decide) ?_
            intro v3379 h3380
            refine q_isubE dX12_readCall_99 (by intros; omega) ?_
            intro v3381 h3382
            refine q_callVi hE (M' := mX12_readPart) (as := [_, _, _]) dX12_readCall_100 lk12_249 inX12_readPart seX12_readPart myX12_readPart (by decide) ⟨by decide, by decide⟩ rfl (kR15 hS3358.1 ta0) (Nat.le_of_ble_eq_true rfl) rfl rfl (by decide) (by decide) (k_X12_readPart hS3358.1 ta0 (by decide)) ?_
            rintro v3387 cn' K' N' I3383 R3384 L3385 ⟨rfl, rfl, rfl, rfl, g3386, p3388, w3389, -⟩
            have hS3390 := hS3358.tr g3386 (by decide +kernel) (by decide +kernel)
            have c3391 : I3383 a1 5 = v49 := (g3386.cell ta1 (by decide +kernel)).trans c3359
            have b3392 : 0 ≤ v3387.toInt ∧ v3387.toInt ≤ 0 := by omega
            clear p3388
            have hO3393 : FrO 14 a1 T I0 I3383 := hO3368.st g3386 (by decide +kernel)
            have ov3394 := w3389.over (by rw [c3371]; omega)
            obtain ⟨v3395, c3396⟩ : ∃ v, I3383 a0 9 = v := ⟨_, rfl⟩
            have b3397 := iv15_9 hS3390.1 ta0 c3396
            obtain ⟨v3398, c3399⟩ : ∃ v, I3383 a0 13 = v := ⟨_, rfl⟩
            obtain ⟨v3400, c3401⟩ : ∃ v, I3383 a0 14 = v := ⟨_, rfl⟩
            (try rw [c3396] at ov3394)
            (try rw [c3399] at ov3394)
            (try rw [c3401] at ov3394)
            (try rw [c3371] at ov3394)
            (try rw [c3374] at ov3394)
            (try rw [c3376] at ov3394)
            refine tr_istore_n dX12_readCall_103 (by decide) (by decide) ?_
            refine tr_aload_n dX12_readCall_104 rfl ?_
            refine tr_ldcwS dX12_readCall_105 ld12_354 ?_
            refine q_iconst dX12_readCall_108 (by decide) ?_
            intro v3402 h3403
            refine q_bipush dX12_readCall_109 (by decide +kernel) ?_
            intro v3404 h3405
            refine q_callVi hE (M' := mX12_readPart) (as := [_, _, _]) dX12_readCall_111 lk12_249 inX12_readPart seX12_readPart myX12_readPart (by decide) ⟨by decide, by decide⟩ rfl (kR15 hS3390.1 ta0) (Nat.le_of_ble_eq_true rfl) rfl rfl (by decide) (by decide) (k_X12_readPart hS3390.1 ta0 (by decide)) ?_
            rintro v3410 cn' K' N' I3406 R3407 L3408 ⟨rfl, rfl, rfl, rfl, g3409, p3411, w3412, -⟩
            have hS3413 := hS3390.tr g3409 (by decide +kernel) (by decide +kernel)
            have c3414 : I3406 a1 5 = v49 := (g3409.cell ta1 (by decide +kernel)).trans c3391
            have b3415 : 1 ≤ v3410.toInt ∧ v3410.toInt ≤ 60 := by omega
            clear p3411
            have hO3416 : FrO 14 a1 T I0 I3406 := hO3393.st g3409 (by decide +kernel)
            have ov3417 := w3412.over (by rw [c3396]; omega)
            obtain ⟨v3418, c3419⟩ : ∃ v, I3406 a0 9 = v := ⟨_, rfl⟩
            have b3420 := iv15_9 hS3413.1 ta0 c3419
            obtain ⟨v3421, c3422⟩ : ∃ v, I3406 a0 13 = v := ⟨_, rfl⟩
            obtain ⟨v3423, c3424⟩ : ∃ v, I3406 a0 14 = v := ⟨_, rfl⟩
            (try rw [c3419] at ov3417)
            (try rw [c3422] at ov3417)
            (try rw [c3424] at ov3417)
            (try rw [c3396] at ov3417)
            (try rw [c3399] at ov3417)
            (try rw [c3401] at ov3417)
            refine tr_istore dX12_readCall_114 (by decide) (by decide) ?_
            refine tr_aload_n dX12_readCall_116 rfl ?_
            refine tr_ldcwS dX12_readCall_117 ld12_356 ?_
            refine q_iconst dX12_readCall_120 (by decide) ?_
            intro v3425 h3426
            refine q_bipush dX12_readCall_121 (by decide +kernel) ?_
            intro v3427 h3428
            refine q_callVi hE (M' := mX12_readPart) (as := [_, _, _]) dX12_readCall_123 lk12_249 inX12_readPart seX12_readPart myX12_readPart (by decide) ⟨by decide, by decide⟩ rfl (kR15 hS3413.1 ta0) (Nat.le_of_ble_eq_true rfl) rfl rfl (by decide) (by decide) (k_X12_readPart hS3413.1 ta0 (by decide)) ?_
            rintro v3433 cn' K' N' I3429 R3430 L3431 ⟨rfl, rfl, rfl, rfl, g3432, p3434, w3435, -⟩
            have hS3436 := hS3413.tr g3432 (by decide +kernel) (by decide +kernel)
            have c3437 : I3429 a1 5 = v49 := (g3432.cell ta1 (by decide +kernel)).trans c3414
            have b3438 : 0 ≤ v3433.toInt ∧ v3433.toInt ≤ 99 := by omega
            clear p3434
            have hO3439 : FrO 14 a1 T I0 I3429 := hO3416.st g3432 (by decide +kernel)
            have ov3440 := w3435.over (by rw [c3419]; omega)
            obtain ⟨v3441, c3442⟩ : ∃ v, I3429 a0 9 = v := ⟨_, rfl⟩
            have b3443 := iv15_9 hS3436.1 ta0 c3442
            obtain ⟨v3444, c3445⟩ : ∃ v, I3429 a0 13 = v := ⟨_, rfl⟩
            obtain ⟨v3446, c3447⟩ : ∃ v, I3429 a0 14 = v := ⟨_, rfl⟩
            (try rw [c3442] at ov3440)
            (try rw [c3445] at ov3440)
            (try rw [c3447] at ov3440)
            (try rw [c3419] at ov3440)
            (try rw [c3422] at ov3440)
            (try rw [c3424] at ov3440)
            refine tr_istore dX12_readCall_126 (by decide) (by decide) ?_
            refine tr_aload_n dX12_readCall_128 rfl ?_
            refine q_getI dX12_readCall_129 fl12_99 (kR15 hS3436.1 ta0) c3442 ?_
            refine q_iconst dX12_readCall_132 (by decide) ?_
            intro v3448 h3449
            refine q_icmp_ne 137 dX12_readCall_133 (by decide) (fun h3450 => ?_) (fun h3450 => ?_)
            · skip
              exfalso; omega
            · skip
              have eF := hF.eq
              have eP := hP.eq
              obtain ⟨v3451, c3452⟩ : ∃ v, I3429 a0 10 = v := ⟨_, rfl⟩
              have b3453 := iv15_10 hS3436.1 ta0 c3452
              obtain ⟨v3454, c3455⟩ : ∃ v, I3429 a0 11 = v := ⟨_, rfl⟩
              obtain ⟨y3456, c3457⟩ : ∃ v, L3431 a0 15 = v := ⟨_, rfl⟩
              obtain ⟨v3458, c3459⟩ : ∃ v, I3429 a0 12 = v := ⟨_, rfl⟩
              obtain ⟨v3460, c3461⟩ : ∃ v, I3429 a0 8 = v := ⟨_, rfl⟩
              have b3462 := iv15_8 hS3436.1 ta0 c3461
              exact tr_vret hZ dX12_readCall_136 rfl (by decide) (by decide) ⟨rfl, rfl, rfl, rfl, rfl, hS3436, (fun b hb => (Option.some.inj (d2.symm.trans hb)) ▸ ((((((((FrM.rf (R := R0) (b := a1) (T := T)).st g79 (by decide +kernel)).st g3017 (by decide +kernel)).st g3324 (by decide +kernel)).st g3352 (by decide +kernel)).st g3386 (by decide +kernel)).st g3409 (by decide +kernel)).st g3432 (by decide +kernel))), (fun dr hd => (Option.some.inj (d2.symm.trans hd)) ▸ hO3439), (Or.inr (⟨(by first | done | with_reducible assumption | omega), (by (try rw [c3442]); first | done | with_reducible assumption | omega), (by (try rw [c3445]); first | done | with_reducible assumption | omega), (by (try rw [c3447]); first | done | with_reducible assumption | omega), trivial⟩)), trivial⟩
