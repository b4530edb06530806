def wik_X10_change : List Nat := [73, 81, 768, 769, 778, 2303, 2367, 2431, 2495, 2559, 2623, 2687, 2751, 2815]
def wrk_X10_change : List Nat := []
def Cs_X10_change (T : Nat → Nat) (I0 : cz_I) (R0 : cz_R) (a0 : Nat) (gX : Nat → Nat → Int) (gE : Nat → Nat → Int) (gc : Nat → Int) (x1 : Int32) (x2 : Int32) (v : Int32) (I' : cz_I) (R' : cz_R) : Prop :=
  ((∀ b1, R0 a0 2 = some b1 → (x1.toInt < 0 ∨ x1.toInt ≥ (I0 b1 1).toInt)) ∧ (v.toInt = -1) ∧ True) ∨
  ((0 ≤ x1.toInt) ∧ (∀ b1, R0 a0 2 = some b1 → x1.toInt < (I0 b1 1).toInt) ∧ (∀ al nw, R0 a0 2 = some al → R0 a0 6 = some nw → Chg (fun k => skC gX (-1) ((I0 al 3).toInt.toNat + (I0 nw 2).toInt.toNat) (I0 al 1).toInt x1.toInt (k : Int)) (I0 al 0).toInt x2.toInt v.toInt) ∧ True)
set_option maxHeartbeats 4000000 in
theorem fk_X10_change {l : Launch} {T : Nat → Nat} {cn : Nat} {K N : Nat → Nat} {I0 : cz_I} {R0 : cz_R} {L0 : cz_L} {d : Int} (hW0 : Wf T cn K N I0 R0 d) (gX : Nat → Nat → Int) (gE : Nat → Nat → Int) (gc : Nat → Int) {a0 : Nat} (ta0 : T a0 = 1) {x1 : Int32} {x2 : Int32} (hX : EvQ I0 R0 a0 gX) (hK : SkQ I0 R0 a0 gX) (hD : DjS R0 a0) (hEa : ∀ al, R0 a0 2 = some al → CVa I0 R0 al gc gE) (hGd : GdE gc gE) (hMs : ∀ nw, R0 a0 6 = some nw → 0 ≤ (I0 nw 0).toInt ∧ (I0 nw 0).toInt ≤ 63) (hNg : NgQ I0 R0 a0 gX gE gc) (hDn : DjN R0 a0) (h1 : 1 ≤ gc 0 ∨ ∀ i, gc i = 0) : ConE l mX10_change [.ref a0, .int x1, .int x2] cn K N I0 R0 L0 (ca_i (fun v cn' K' N' I' R' L' => cn = cn' ∧ K = K' ∧ N = N' ∧ R0 = R' ∧ L0 = L' ∧ St T cn K N d wik_X10_change wrk_X10_change I0 R0 I' R0 ∧ (SkQ I' R0 a0 gX) ∧ (NgQ I' R0 a0 gX gE gc) ∧ Cs_X10_change T I0 R0 a0 gX gE gc x1 x2 v I' R0 ∧ True)) := by
  refine ConE.of (by decide +kernel) rfl (Nat.le_of_ble_eq_true rfl) rfl (fun X hX hZ hE => ?_)
  subst hX
  have hS0 : St T cn K N d wik_X10_change wrk_X10_change I0 R0 I0 R0 := St.rf0 hW0
  obtain ⟨a1, d2, ta1⟩ := rf1_2 hW0 ta0
  obtain ⟨v3, c4⟩ : ∃ v, I0 a1 1 = v := ⟨_, rfl⟩
  have b5 := iv2_1 hW0 ta1 c4
  obtain ⟨v6, c7⟩ : ∃ v, I0 a1 0 = v := ⟨_, rfl⟩
  have b8 := iv2_0 hW0 ta1 c7
  obtain ⟨a9, d10, ta9⟩ := rf1_6 hW0 ta0
  obtain ⟨a11, d12, ta11⟩ := rf1_8 hW0 ta0
  obtain ⟨a13, d14, ta13⟩ := rf1_10 hW0 ta0
  obtain ⟨a15, d16, ta15⟩ := rf1_13 hW0 ta0
  obtain ⟨a17, d18, ta17⟩ := rf1_14 hW0 ta0
  obtain ⟨v19, c20⟩ : ∃ v, I0 a1 3 = v := ⟨_, rfl⟩
  have b21 := iv2_3 hW0 ta1 c20
  refine tr_aload_n dX10_change_0 rfl ?_
  refine tr_iload_n dX10_change_1 rfl ?_
  refine q_callVi hE (M' := mX10_isHut) (as := [_]) dX10_change_2 lk10_126 inX10_isHut seX10_isHut myX10_isHut (by decide) ⟨by decide, by decide⟩ rfl (kR1 hS0.1 ta0) (Nat.le_of_ble_eq_true rfl) rfl rfl (by decide) (by decide) (fk_X10_isHut hS0.1  ta0) ?_
  rintro v27 cn' K' N' I22 R23 L24 ⟨rfl, rfl, rfl, rfl, rfl, rfl, h28, p29, p30, -⟩
  have p31 := p29 _ d2
  clear p29
  rw [c4] at p31
  have p32 := p30 _ d2
  clear p30
  rw [c4] at p32
  refine q_if_ne 14 dX10_change_5 (by decide) (fun h33 => ?_) (fun h33 => ?_)
  · skip
    refine tr_aload_n dX10_change_14 rfl ?_
    refine q_callVr hE (M' := mX10_presentSky) (as := []) dX10_change_15 lk10_119 inX10_presentSky seX10_presentSky myX10_presentSky (by decide) ⟨by decide, by decide⟩ rfl (kR1 hS0.1 ta0) (Nat.le_of_ble_eq_true rfl) rfl rfl (by decide) (by decide) (fk_X10_presentSky hS0.1 (gX) (gE) (gc) ta0 hX hK hD (fun al ha => hEa al ha) hGd hMs hNg hDn h1) ?_
    rintro a39 cn' K' N' I34 R35 L36 ⟨rfl, rfl, rfl, rfl, rfl, g37, ta39, p40, rp41, rp42, rp43, rp44, rp45, -⟩
    have hS46 := hS0.tr g37 (by decide +kernel) (by decide +kernel)
    obtain ⟨v47, c48⟩ : ∃ v, I34 a0 9 = v := ⟨_, rfl⟩
    have b49 := iv1_9 hS46.1 ta0 c48
    rw [c48] at p40
    have hz50 := rp43 _ _ _ rp41 d2 d10
    refine tr_astore_n dX10_change_18 (by decide) (by decide) ?_
    refine q_iconst dX10_change_19 (by decide) ?_
    intro v51 h52
    refine tr_istore dX10_change_20 (by decide) (by decide) ?_
    refine q_iconst dX10_change_22 (by decide) ?_
    intro v53 h54
    refine tr_istore dX10_change_23 (by decide) (by decide) ?_
    have lp74 : ∀ (fu : Nat) (ls : Nat → Option Value) (v55 : Int32) (v56 : Int32) (I63 : cz_I), ls 0 = some (.ref a0) → ls 1 = some (.int x1) → ls 2 = some (.int x2) → ls 3 = some (.ref a39) → ls 4 = some (.int v55) → ls 5 = some (.int v56) → St T cn K N d wik_X10_change wrk_X10_change I0 R0 I63 R0 → v56.toInt ≤ v6.toInt → 0 ≤ v56.toInt → 0 ≤ v55.toInt → v55.toInt ≤ v56.toInt → v55.toInt ≤ 240 → (v55.toInt = cnM (fun k => skC gX (-1) ((I0 a1 3).toInt.toNat + (I0 a9 2).toInt.toNat) (I0 a1 1).toInt x1.toInt (k : Int)) v56.toInt.toNat ∧ ∀ k : Nat, (k : Int) < v56.toInt → (fun k => skC gX (-1) ((I0 a1 3).toInt.toNat + (I0 a9 2).toInt.toNat) (I0 a1 1).toInt x1.toInt (k : Int)) k = 1 → ¬ cnM (fun k => skC gX (-1) ((I0 a1 3).toInt.toNat + (I0 a9 2).toInt.toNat) (I0 a1 1).toInt x1.toInt (k : Int)) k = x2.toInt) → (SkF I63 R0 a39 (I0 a1 0).toInt (I0 a1 1).toInt (-1) gX ((I0 a1 3).toInt.toNat + (I0 a9 2).toInt.toNat) (I0 a1 0).toInt) → (SkQ I63 R0 a0 gX) → (NgQ I63 R0 a0 gX gE gc) → (-v56.toInt + 2147483647).toNat < fu → Tr X mX10_change 25 ls [] cn K N I63 R0 L0 0 0 := by
      intro fu
      induction fu with
      | zero => intros; rename_i hz; exact absurd hz (Nat.not_lt_zero _)
      | succ fu ih74 =>
        intro ls v55 v56 I63 hl57 hl58 hl59 hl60 hl61 hl62 hS64 g65 g66 g67 g68 g69 rw70 rw71 rw72 rw73 hm74
        refine tr_iload dX10_change_25 hl62 ?_
        refine tr_aload_n dX10_change_27 hl57 ?_
        refine tr_getR dX10_change_28 fl10_16 (kR1 hS64.1 ta0) d2 ?_
        refine q_getI dX10_change_31 fl10_146 (kR2 hS64.1 ta1) ((hS64.cell ta1 (by decide +kernel)).trans c7) ?_
        refine q_icmp_ge 74 dX10_change_34 (by decide) (fun h76 => ?_) (fun h76 => ?_)
        · skip
          refine tr_aload_n dX10_change_74 hl57 ?_
          refine q_iconst dX10_change_75 (by decide) ?_
          intro v77 h78
          refine q_callVi hE (M' := mX10_refused) (as := [_]) dX10_change_76 lk10_79 inX10_refused seX10_refused myX10_refused (by decide) ⟨by decide, by decide⟩ rfl (kR1 hS64.1 ta0) (Nat.le_of_ble_eq_true rfl) rfl rfl (by decide) (by decide) (fk_X10_refused hS64.1  ta0) ?_
          rintro v84 cn' K' N' I79 R80 L81 ⟨rfl, rfl, rfl, rfl, rfl, g82, p85, p86, -⟩
          have hS87 := hS64.tr g82 (by decide +kernel) (by decide +kernel)
          obtain ⟨v88, c89⟩ : ∃ v, I79 a0 17 = v := ⟨_, rfl⟩
          rw [c89] at p86
          exact tr_iret hZ dX10_change_79 rfl (by decide) (by decide) ⟨v84, rfl, rfl, rfl, rfl, rfl, rfl, hS87, (SkQ.st rw72 hW0 ta0 g82 (by decide +kernel) (by decide +kernel)), (NgQ.st rw73 hS64.1 ta0 g82 (by decide +kernel) (by decide +kernel) (by decide +kernel)), (by first | exact Or.inl ⟨(fun q0 z0 => by obtain rfl := Option.some.inj ((d2).symm.trans z0); (try rw [c4]); first | done | with_reducible assumption | omega), (by first | done | with_reducible assumption | omega), trivial⟩ | exact Or.inr (⟨(by first | done | with_reducible assumption | omega), (fun q0 z0 => by obtain rfl := Option.some.inj ((d2).symm.trans z0); (try rw [c4]); first | done | with_reducible assumption | omega), (fun al nw h2 h6 => by obtain rfl := Option.some.inj (d2.symm.trans h2); obtain rfl := Option.some.inj (d10.symm.trans h6); exact Or.inr ⟨by omega, fun k hk => rw70.2 k (by rw [c7] at hk; omega)⟩), trivial⟩)), trivial⟩
        · skip
          refine tr_aload_n dX10_change_37 hl60 ?_
          obtain ⟨a90, d91, ta90⟩ := rf12_8 hW0 ta39
          refine tr_getR dX10_change_38 fl10_143 (kR12 hS64.1 ta39) d91 ?_
          refine tr_iload dX10_change_41 hl62 ?_
          refine q_iald dX10_change_43 (kR41 hS64.1 ta90) (ti_in (nR41 hS64.1 ta90) (by omega) (by omega)) ?_
          intro v92 c93
          refine tr_iload_n dX10_change_44 hl58 ?_
          have hb94 := rw71.2.2.2.2.2.2.1 _ d91 v56.toInt.toNat (by rw [c7]; omega)
          rw [show I63 a90 v56.toInt.toNat = v92 from c93] at hb94
          have hb94r := And.intro hb94.1 hb94.2.1
          refine q_callSi hE (M' := mX10_bit) (as := [_, _]) dX10_change_45 lk10_136 inX10_bit myX10_bit ⟨by decide, by decide⟩ rfl (Nat.le_of_ble_eq_true rfl) rfl rfl (by decide) (by decide) (f_X10_bitX   (by omega) (by omega)) ?_
          rintro v100 cn' K' N' I95 R96 L97 ⟨rfl, rfl, rfl, rfl, rfl, rfl, p101, -⟩
          have btv100 := bt_01 v92.toInt x1.toInt
          refine q_iconst dX10_change_48 (by decide) ?_
          intro v102 h103
          refine q_icmp_ne 68 dX10_change_49 (by decide) (fun h104 => ?_) (fun h104 => ?_)
          · skip
            refine q_iincE dX10_change_68 hl62 (by decide) (by decide) (by intros; omega) ?_
            intro v105 h106
            refine tr_goto 25 dX10_change_71 (by decide) ?_
            exact ih74 _ v55 v105 I63 hl57 hl58 hl59 hl60 hl61 rfl hS64 (by omega) (by omega) (by omega) (by omega) (by omega) (by have e : bt _ _ = skC _ _ _ _ _ _ := hb94.2.2 x1.toInt.toNat (by omega); rw [show ((x1.toInt.toNat : Nat) : Int) = x1.toInt by omega] at e; have w := rw70; refine ⟨by rw [show v105.toInt.toNat = v56.toInt.toNat + 1 by omega, cnM]; have w1 := w.1; omega, fun k hk hf => ?_⟩; by_cases z : (k : Int) < v56.toInt; exact w.2 k z hf; obtain rfl : k = v56.toInt.toNat := (by omega); have hf : skC gX (-1) ((I0 a1 3).toInt.toNat + (I0 a9 2).toInt.toNat) (I0 a1 1).toInt x1.toInt ((v56.toInt.toNat : Nat) : Int) = 1 := hf; have w1 := w.1; intro hq; omega) rw71 rw72 rw73 (by omega)
          · skip
            refine tr_iload dX10_change_52 hl61 ?_
            refine tr_iload_n dX10_change_54 hl59 ?_
            refine q_icmp_ne 65 dX10_change_55 (by decide) (fun h107 => ?_) (fun h107 => ?_)
            · skip
              refine q_iincE dX10_change_65 hl61 (by decide) (by decide) (by have z0 := x2.toInt_lt; have y0 := x2.le_toInt; intros; omega) ?_
              intro v108 h109
              refine q_iincE dX10_change_68 hl62 (by decide) (by decide) (by intros; omega) ?_
              intro v110 h111
              refine tr_goto 25 dX10_change_71 (by decide) ?_
              exact ih74 _ v108 v110 I63 hl57 hl58 hl59 hl60 rfl rfl hS64 (by omega) (by omega) (by omega) (by omega) (by omega) (by have e : bt _ _ = skC _ _ _ _ _ _ := hb94.2.2 x1.toInt.toNat (by omega); rw [show ((x1.toInt.toNat : Nat) : Int) = x1.toInt by omega] at e; have w := rw70; refine ⟨by rw [show v110.toInt.toNat = v56.toInt.toNat + 1 by omega, cnM]; have w1 := w.1; omega, fun k hk hf => ?_⟩; by_cases z : (k : Int) < v56.toInt; exact w.2 k z hf; obtain rfl : k = v56.toInt.toNat := (by omega); have hf : skC gX (-1) ((I0 a1 3).toInt.toNat + (I0 a9 2).toInt.toNat) (I0 a1 1).toInt x1.toInt ((v56.toInt.toNat : Nat) : Int) = 1 := hf; have w1 := w.1; intro hq; omega) rw71 rw72 rw73 (by omega)
            · skip
              refine tr_aload_n dX10_change_58 hl57 ?_
              refine tr_iload dX10_change_59 hl62 ?_
              refine q_callVi hE (M' := mX10_answered) (as := [_]) dX10_change_61 lk10_109 inX10_answered seX10_answered myX10_answered (by decide) ⟨by decide, by decide⟩ rfl (kR1 hS64.1 ta0) (Nat.le_of_ble_eq_true rfl) rfl rfl (by decide) (by decide) (fk_X10_answered hS64.1  ta0) ?_
              rintro v117 cn' K' N' I112 R113 L114 ⟨rfl, rfl, rfl, rfl, rfl, g115, p118, p119, -⟩
              have hS120 := hS64.tr g115 (by decide +kernel) (by decide +kernel)
              obtain ⟨v121, c122⟩ : ∃ v, I112 a0 17 = v := ⟨_, rfl⟩
              rw [c122] at p119
              exact tr_iret hZ dX10_change_64 rfl (by decide) (by decide) ⟨v117, rfl, rfl, rfl, rfl, rfl, rfl, hS120, (SkQ.st rw72 hW0 ta0 g115 (by decide +kernel) (by decide +kernel)), (NgQ.st rw73 hS64.1 ta0 g115 (by decide +kernel) (by decide +kernel) (by decide +kernel)), (Or.inr (⟨(by first | done | with_reducible assumption | omega), (fun q0 z0 => by obtain rfl := Option.some.inj ((d2).symm.trans z0); (try rw [c4]); first | done | with_reducible assumption | omega), (fun al nw h2 h6 => by obtain rfl := Option.some.inj (d2.symm.trans h2); obtain rfl := Option.some.inj (d10.symm.trans h6); have e : bt _ _ = skC _ _ _ _ _ _ := hb94.2.2 x1.toInt.toNat (by omega); rw [show ((x1.toInt.toNat : Nat) : Int) = x1.toInt by omega] at e; have w := rw70.1; exact Or.inl ⟨v56.toInt.toNat, by rw [c7]; omega, by omega, (by show skC _ _ _ _ _ _ = _; omega), by omega⟩), trivial⟩)), trivial⟩
    exact lp74 _ _ v51 v53 I34 rfl rfl rfl rfl rfl rfl hS46 (by omega) (by omega) (by omega) (by omega) (by omega) ⟨by rw [show v53.toInt.toNat = 0 by omega]; show _ = (0 : Int); omega, fun k hk => by exfalso; omega⟩ hz50 (SkQ.of rp42) rp45 (Nat.lt_succ_self _)
  · skip
    refine tr_aload_n dX10_change_8 rfl ?_
    refine q_iconst dX10_change_9 (by decide) ?_
    intro v123 h124
    refine q_callVi hE (M' := mX10_refused) (as := [_]) dX10_change_10 lk10_79 inX10_refused seX10_refused myX10_refused (by decide) ⟨by decide, by decide⟩ rfl (kR1 hS0.1 ta0) (Nat.le_of_ble_eq_true rfl) rfl rfl (by decide) (by decide) (fk_X10_refused hS0.1  ta0) ?_
    rintro v130 cn' K' N' I125 R126 L127 ⟨rfl, rfl, rfl, rfl, rfl, g128, p131, p132, -⟩
    have hS133 := hS0.tr g128 (by decide +kernel) (by decide +kernel)
    obtain ⟨v134, c135⟩ : ∃ v, I125 a0 17 = v := ⟨_, rfl⟩
    rw [c135] at p132
    exact tr_iret hZ dX10_change_13 rfl (by decide) (by decide) ⟨v130, rfl, rfl, rfl, rfl, rfl, rfl, hS133, (SkQ.st hK hW0 ta0 g128 (by decide +kernel) (by decide +kernel)), (NgQ.st hNg hW0 ta0 g128 (by decide +kernel) (by decide +kernel) (by decide +kernel)), (by first | exact Or.inl ⟨(fun q0 z0 => by obtain rfl := Option.some.inj ((d2).symm.trans z0); (try rw [c4]); first | done | with_reducible assumption | omega), (by first | done | with_reducible assumption | omega), trivial⟩ | exact Or.inr (⟨(by first | done | with_reducible assumption | omega), (fun q0 z0 => by obtain rfl := Option.some.inj ((d2).symm.trans z0); (try rw [c4]); first | done | with_reducible assumption | omega), (by exfalso; omega), trivial⟩)), trivial⟩
set_option maxHeartbeats 4000000 in
theorem fk_X0_cheesesIn {l : Launch} {T : Nat → Nat} {cn : Nat} {K N : Nat → Nat} {I0 : cz_I} {R0 : cz_R} {L0 : cz_L} {d : Int} (hW0 : Wf T cn K N I0 R0 d) (gH : Nat → Int) {a0 : Nat} (ta0 : T a0 = 2) {x1 : Int32} (hx1 : 0 ≤ x1.toInt ∧ x1.toInt ≤ 15) (hH : ∀ r, R0 a0 6 = some r → ∀ c : Nat, (c : Int) < (I0 a0 5).toInt → (I0 r c).toInt = gH c ∧ 0 ≤ gH c ∧ gH c ≤ 3) : ConE l mX0_cheesesIn [.ref a0, .int x1] cn K N I0 R0 L0 (ca_i (fun v cn' K' N' I' R' L' => cn = cn' ∧ K = K' ∧ N = N' ∧ I0 = I' ∧ R0 = R' ∧ L0 = L' ∧ (0 ≤ v.toInt ∧ v.toInt ≤ 8) ∧ (∀ r, R0 a0 6 = some r → v.toInt = cnM (fun c => bt x1.toInt (I0 r c).toInt) (I0 a0 5).toInt.toNat) ∧ True)) := by
  refine ConE.of (by decide +kernel) rfl (Nat.le_of_ble_eq_true rfl) rfl (fun X hX hZ hE => ?_)
  subst hX
  obtain ⟨v1, c2⟩ : ∃ v, I0 a0 5 = v := ⟨_, rfl⟩
  have b3 := iv2_5 hW0 ta0 c2
  obtain ⟨a4, d5, ta4⟩ := rf2_6 hW0 ta0
  refine q_iconst dX0_cheesesIn_0 (by decide) ?_
  intro v6 h7
  refine tr_istore_n dX0_cheesesIn_1 (by decide) (by decide) ?_
  refine q_iconst dX0_cheesesIn_2 (by decide) ?_
  intro v8 h9
  refine tr_istore_n dX0_cheesesIn_3 (by decide) (by decide) ?_
  have lp20 : ∀ (fu : Nat) (ls : Nat → Option Value) (v10 : Int32) (v11 : Int32), ls 0 = some (.ref a0) → ls 1 = some (.int x1) → ls 2 = some (.int v10) → ls 3 = some (.int v11) → v11.toInt ≤ v1.toInt → 0 ≤ v10.toInt → v10.toInt ≤ v11.toInt → (v10.toInt = cnM (fun c => bt x1.toInt (I0 a4 c).toInt) v11.toInt.toNat) → (-v11.toInt + 2147483647).toNat < fu → Tr X mX0_cheesesIn 4 ls [] cn K N I0 R0 L0 0 0 := by
    intro fu
    induction fu with
    | zero => intros; rename_i hz; exact absurd hz (Nat.not_lt_zero _)
    | succ fu ih20 =>
      intro ls v10 v11 hl12 hl13 hl14 hl15 g16 g17 g18 rw19 hm20
      refine tr_iload_n dX0_cheesesIn_4 hl15 ?_
      refine tr_aload_n dX0_cheesesIn_5 hl12 ?_
      refine q_getI dX0_cheesesIn_6 fl0_60 (kR2 hW0 ta0) c2 ?_
      refine q_icmp_ge 31 dX0_cheesesIn_9 (by decide) (fun h22 => ?_) (fun h22 => ?_)
      · skip
        refine tr_iload_n dX0_cheesesIn_31 hl14 ?_
        exact tr_iret hZ dX0_cheesesIn_32 rfl (by decide) (by decide) ⟨v10, rfl, rfl, rfl, rfl, rfl, rfl, rfl, (by omega), (fun r hr => by obtain rfl := Option.some.inj (d5.symm.trans hr); have w := rw19; rw [show v11.toInt.toNat = (I0 a0 5).toInt.toNat from congrArg Int.toNat (by rw [c2]; omega)] at w; omega), trivial⟩
      · skip
        refine tr_iload_n dX0_cheesesIn_12 hl14 ?_
        refine tr_iload_n dX0_cheesesIn_13 hl13 ?_
        refine tr_aload_n dX0_cheesesIn_14 hl12 ?_
        refine tr_getR dX0_cheesesIn_15 fl0_21 (kR2 hW0 ta0) d5 ?_
        refine tr_iload_n dX0_cheesesIn_18 hl15 ?_
        refine q_iald dX0_cheesesIn_19 (kR20 hW0 ta4) (ti_in (nR20 hW0 ta4) (by omega) (by omega)) ?_
        intro v23 c24
        have hc25 := hH _ d5 v11.toInt.toNat (by rw [c2]; omega)
        rw [show I0 a4 v11.toInt.toNat = v23 from c24] at hc25
        refine q_callSNi hE (M' := mX10_bit) (as := [_, _]) dX0_cheesesIn_20 lk0_78 inX10_bit myX10_bit ⟨by decide, by decide⟩ rfl (Nat.le_of_ble_eq_true rfl) rfl rfl (by decide) (by decide) (f_X10_bitX   (by omega) (by omega)) ?_
        rintro v31 cn' K' N' I26 R27 L28 ⟨rfl, rfl, rfl, rfl, rfl, rfl, p32, -⟩
        have btv31 := bt_01 x1.toInt v23.toInt
        refine q_iaddE dX0_cheesesIn_23 (by intros; omega) ?_
        intro v33 h34
        refine tr_istore_n dX0_cheesesIn_24 (by decide) (by decide) ?_
        refine q_iincE dX0_cheesesIn_25 hl15 (by decide) (by decide) (by intros; omega) ?_
        intro v35 h36
        refine tr_goto 4 dX0_cheesesIn_28 (by decide) ?_
        exact ih20 _ v33 v35 hl12 hl13 rfl rfl (by omega) (by omega) (by omega) (by rw [show v35.toInt.toNat = v11.toInt.toNat + 1 by omega, cnM]; have w := rw19; rw [show I0 a4 v11.toInt.toNat = v23 from c24]; omega) (by omega)
  exact lp20 _ _ v6 v8 rfl rfl rfl rfl (by omega) (by omega) (by omega) (by rw [show v8.toInt.toNat = 0 by omega]; show _ = (0 : Int); omega) (Nat.lt_succ_self _)
def wik_X10_peak : List Nat := [73, 81, 768, 769, 778, 2303, 2367, 2431, 2495, 2559, 2623, 2687, 2751, 2815]
def wrk_X10_peak : List Nat := []
def Cs_X10_peak (T : Nat → Nat) (I0 : cz_I) (R0 : cz_R) (a0 : Nat) (gX : Nat → Nat → Int) (gH : Nat → Int) (gE : Nat → Nat → Int) (gc : Nat → Int) (v : Int32) (I' : cz_I) (R' : cz_R) : Prop :=
  (((I0 a0 5).toInt = 0) ∧ (v.toInt = -1) ∧ True) ∨
  (((I0 a0 5).toInt = 1) ∧ (∀ al nw, R0 a0 2 = some al → R0 a0 6 = some nw → ∃ most, PkI (fun k => skD gX (-1) ((I0 al 3).toInt.toNat + (I0 nw 2).toInt.toNat) (I0 al 1).toInt gH (I0 al 5).toInt.toNat (k : Int)) (I0 al 0).toInt most v.toInt) ∧ True)
set_option maxHeartbeats 4000000 in
theorem fk_X10_peak {l : Launch} {T : Nat → Nat} {cn : Nat} {K N : Nat → Nat} {I0 : cz_I} {R0 : cz_R} {L0 : cz_L} {d : Int} (hW0 : Wf T cn K N I0 R0 d) (gX : Nat → Nat → Int) (gH : Nat → Int) (gE : Nat → Nat → Int) (gc : Nat → Int) {a0 : Nat} (ta0 : T a0 = 1) (hX : EvQ I0 R0 a0 gX) (hK : SkQ I0 R0 a0 gX) (hD : DjS R0 a0) (hH : ∀ al r, R0 a0 2 = some al → R0 al 6 = some r → ∀ c : Nat, (c : Int) < (I0 al 5).toInt → (I0 r c).toInt = gH c ∧ 0 ≤ gH c ∧ gH c ≤ 3) (hEa : ∀ al, R0 a0 2 = some al → CVa I0 R0 al gc gE) (hGd : GdE gc gE) (hMs : ∀ nw, R0 a0 6 = some nw → 0 ≤ (I0 nw 0).toInt ∧ (I0 nw 0).toInt ≤ 63) (hNg : NgQ I0 R0 a0 gX gE gc) (hDn : DjN R0 a0) (h1 : 1 ≤ gc 0 ∨ ∀ i, gc i = 0) : ConE l mX10_peak [.ref a0] cn K N I0 R0 L0 (ca_i (fun v cn' K' N' I' R' L' => cn = cn' ∧ K = K' ∧ N = N' ∧ R0 = R' ∧ L0 = L' ∧ St T cn K N d wik_X10_peak wrk_X10_peak I0 R0 I' R0 ∧ (SkQ I' R0 a0 gX) ∧ (NgQ I' R0 a0 gX gE gc) ∧ Cs_X10_peak T I0 R0 a0 gX gH gE gc v I' R0 ∧ True)) := by
  refine ConE.of (by decide +kernel) rfl (Nat.le_of_ble_eq_true rfl) rfl (fun X hX hZ hE => ?_)
  subst hX
  have hS0 : St T cn K N d wik_X10_peak wrk_X10_peak I0 R0 I0 R0 := St.rf0 hW0
  obtain ⟨v1, c2⟩ : ∃ v, I0 a0 5 = v := ⟨_, rfl⟩
  have b3 := iv1_5 hW0 ta0 c2
  obtain ⟨a4, d5, ta4⟩ := rf1_2 hW0 ta0
  obtain ⟨v6, c7⟩ : ∃ v, I0 a4 0 = v := ⟨_, rfl⟩
  have b8 := iv2_0 hW0 ta4 c7
  obtain ⟨a9, d10, ta9⟩ := rf1_6 hW0 ta0
  obtain ⟨a11, d12, ta11⟩ := rf1_8 hW0 ta0
  obtain ⟨a13, d14, ta13⟩ := rf1_10 hW0 ta0
  obtain ⟨a15, d16, ta15⟩ := rf1_13 hW0 ta0
  obtain ⟨a17, d18, ta17⟩ := rf1_14 hW0 ta0
  obtain ⟨v19, c20⟩ : ∃ v, I0 a4 1 = v := ⟨_, rfl⟩
  have b21 := iv2_1 hW0 ta4 c20
  obtain ⟨v22, c23⟩ : ∃ v, I0 a4 3 = v := ⟨_, rfl⟩
  have b24 := iv2_3 hW0 ta4 c23
  obtain ⟨a25, d26, ta25⟩ := rf2_6 hW0 ta4
  obtain ⟨v27, c28⟩ : ∃ v, I0 a4 5 = v := ⟨_, rfl⟩
  have b29 := iv2_5 hW0 ta4 c28
  refine tr_aload_n dX10_peak_0 rfl ?_
  refine q_getZ dX10_peak_1 fl10_95 (kR1 hS0.1 ta0) c2 ?_
  refine q_if_ne 13 dX10_peak_4 (by decide) (fun h30 => ?_) (fun h30 => ?_)
  · skip
    refine tr_aload_n dX10_peak_13 rfl ?_
    refine q_callVr hE (M' := mX10_presentSky) (as := []) dX10_peak_14 lk10_119 inX10_presentSky seX10_presentSky myX10_presentSky (by decide) ⟨by decide, by decide⟩ rfl (kR1 hS0.1 ta0) (Nat.le_of_ble_eq_true rfl) rfl rfl (by decide) (by decide) (fk_X10_presentSky hS0.1 (gX) (gE) (gc) ta0 hX hK hD (fun al ha => hEa al ha) hGd hMs hNg hDn h1) ?_
    rintro a36 cn' K' N' I31 R32 L33 ⟨rfl, rfl, rfl, rfl, rfl, g34, ta36, p37, rp38, rp39, rp40, rp41, rp42, -⟩
    have hS43 := hS0.tr g34 (by decide +kernel) (by decide +kernel)
    obtain ⟨v44, c45⟩ : ∃ v, I31 a0 9 = v := ⟨_, rfl⟩
    have b46 := iv1_9 hS43.1 ta0 c45
    rw [c45] at p37
    have hz47 := rp40 _ _ _ rp38 d5 d10
    refine tr_astore_n dX10_peak_17 (by decide) (by decide) ?_
    refine q_iconst dX10_peak_18 (by decide) ?_
    intro v48 h49
    refine tr_istore_n dX10_peak_19 (by decide) (by decide) ?_
    refine q_bipush dX10_peak_20 (by decide +kernel) ?_
    intro v50 h51
    refine tr_istore_n dX10_peak_22 (by decide) (by decide) ?_
    refine q_iconst dX10_peak_23 (by decide) ?_
    intro v52 h53
    refine tr_istore dX10_peak_24 (by decide) (by decide) ?_
    have lp70 : ∀ (fu : Nat) (ls : Nat → Option Value) (v54 : Int32) (v55 : Int32) (v56 : Int32) (I62 : cz_I), ls 0 = some (.ref a0) → ls 1 = some (.ref a36) → ls 2 = some (.int v54) → ls 3 = some (.int v55) → ls 4 = some (.int v56) → St T cn K N d wik_X10_peak wrk_X10_peak I0 R0 I62 R0 → v56.toInt ≤ v6.toInt → 0 ≤ v56.toInt → (PkI (fun k => skD gX (-1) ((I0 a4 3).toInt.toNat + (I0 a9 2).toInt.toNat) (I0 a4 1).toInt gH (I0 a4 5).toInt.toNat (k : Int)) v56.toInt v54.toInt v55.toInt) → (SkF I62 R0 a36 (I0 a4 0).toInt (I0 a4 1).toInt (-1) gX ((I0 a4 3).toInt.toNat + (I0 a9 2).toInt.toNat) (I0 a4 0).toInt) → (SkQ I62 R0 a0 gX) → (NgQ I62 R0 a0 gX gE gc) → (-v56.toInt + 2147483647).toNat < fu → Tr X mX10_peak 26 ls [] cn K N I62 R0 L0 0 0 := by
      intro fu
      induction fu with
      | zero => intros; rename_i hz; exact absurd hz (Nat.not_lt_zero _)
      | succ fu ih70 =>
        intro ls v54 v55 v56 I62 hl57 hl58 hl59 hl60 hl61 hS63 g64 g65 rw66 rw67 rw68 rw69 hm70
        refine tr_iload dX10_peak_26 hl61 ?_
        refine tr_aload_n dX10_peak_28 hl57 ?_
        refine tr_getR dX10_peak_29 fl10_16 (kR1 hS63.1 ta0) d5 ?_
        refine q_getI dX10_peak_32 fl10_146 (kR2 hS63.1 ta4) ((hS63.cell ta4 (by decide +kernel)).trans c7) ?_
        refine q_icmp_ge 72 dX10_peak_35 (by decide) (fun h72 => ?_) (fun h72 => ?_)
        · skip
          refine tr_aload_n dX10_peak_72 hl57 ?_
          refine tr_iload_n dX10_peak_73 hl60 ?_
          refine q_callVi hE (M' := mX10_answered) (as := [_]) dX10_peak_74 lk10_109 inX10_answered seX10_answered myX10_answered (by decide) ⟨by decide, by decide⟩ rfl (kR1 hS63.1 ta0) (Nat.le_of_ble_eq_true rfl) rfl rfl (by decide) (by decide) (fk_X10_answered hS63.1  ta0) ?_
          rintro v78 cn' K' N' I73 R74 L75 ⟨rfl, rfl, rfl, rfl, rfl, g76, p79, p80, -⟩
          have hS81 := hS63.tr g76 (by decide +kernel) (by decide +kernel)
          obtain ⟨v82, c83⟩ : ∃ v, I73 a0 17 = v := ⟨_, rfl⟩
          rw [c83] at p80
          exact tr_iret hZ dX10_peak_77 rfl (by decide) (by decide) ⟨v78, rfl, rfl, rfl, rfl, rfl, rfl, hS81, (SkQ.st rw68 hW0 ta0 g76 (by decide +kernel) (by decide +kernel)), (NgQ.st rw69 hS63.1 ta0 g76 (by decide +kernel) (by decide +kernel) (by decide +kernel)), (Or.inr (⟨(by (try rw [c2]); first | done | with_reducible assumption | omega), (fun al nw h2 h6 => by obtain rfl := Option.some.inj (d5.symm.trans h2); obtain rfl := Option.some.inj (d10.symm.trans h6); exact ⟨v54.toInt, by rw [show v78.toInt = v55.toInt by omega, show (I0 a4 0).toInt = v56.toInt by rw [c7]; omega]; exact rw66⟩), trivial⟩)), trivial⟩
        · skip
          refine tr_aload_n dX10_peak_38 hl57 ?_
          refine tr_getR dX10_peak_39 fl10_16 (kR1 hS63.1 ta0) d5 ?_
          refine tr_aload_n dX10_peak_42 hl58 ?_
          obtain ⟨a84, d85, ta84⟩ := rf12_8 hW0 ta36
          refine tr_getR dX10_peak_43 fl10_143 (kR12 hS63.1 ta36) d85 ?_
          refine tr_iload dX10_peak_46 hl61 ?_
          refine q_iald dX10_peak_48 (kR41 hS63.1 ta84) (ti_in (nR41 hS63.1 ta84) (by omega) (by omega)) ?_
          intro v86 c87
          have hb88 := rw67.2.2.2.2.2.2.1 _ d85 v56.toInt.toNat (by rw [c7]; omega)
          rw [show I62 a84 v56.toInt.toNat = v86 from c87] at hb88
          have hb88r := And.intro hb88.1 hb88.2.1
          refine q_callVi hE (M' := mX0_cheesesIn) (as := [_]) dX10_peak_49 lk10_149 inX0_cheesesIn seX0_cheesesIn myX0_cheesesIn (by decide) ⟨by decide, by decide⟩ rfl (kR2 hS63.1 ta4) (Nat.le_of_ble_eq_true rfl) rfl rfl (by decide) (by decide) (fk_X0_cheesesIn hS63.1 (gH) ta4 (by omega) (fun r hr c hc => by rw [hS63.cell ta4 (by decide +kernel)] at hc; obtain rfl := Option.some.inj (d26.symm.trans hr); rw [hS63.cell ta25 (wm_no (by decide +kernel))]; exact hH _ _ d5 d26 c hc)) ?_
          rintro v94 cn' K' N' I89 R90 L91 ⟨rfl, rfl, rfl, rfl, rfl, rfl, h95, rp96, -⟩
          have hd97 := rp96 _ d26
          rw [show cnM (fun c => bt v86.toInt (I62 a25 c).toInt) (I62 a4 5).toInt.toNat = skD gX (-1) ((I0 a4 3).toInt.toNat + (I0 a9 2).toInt.toNat) (I0 a4 1).toInt gH (I0 a4 5).toInt.toNat ((v56.toInt.toNat : Nat) : Int) by rw [hS63.cell ta4 (by decide +kernel)]; exact skD.of hb88 (fun c hc => by rw [hS63.cell ta25 (wm_no (by decide +kernel))]; exact hH _ _ d5 d26 c (by omega))] at hd97
          refine tr_istore dX10_peak_52 (by decide) (by decide) ?_
          refine tr_iload dX10_peak_54 rfl ?_
          refine tr_iload_n dX10_peak_56 hl59 ?_
          refine q_icmp_le 66 dX10_peak_57 (by decide) (fun h98 => ?_) (fun h98 => ?_)
          · skip
            refine q_iincE dX10_peak_66 hl61 (by decide) (by decide) (by intros; omega) ?_
            intro v99 h100
            refine tr_goto 26 dX10_peak_69 (by decide) ?_
            exact ih70 _ v54 v55 v99 I62 hl57 hl58 hl59 hl60 rfl hS63 (by omega) (by omega) (PkI.no rw66 v56.toInt.toNat (by omega) (by omega) (by show skD _ _ _ _ _ _ _ ≤ _; omega)) rw67 rw68 rw69 (by omega)
          · skip
            refine tr_iload dX10_peak_60 rfl ?_
            refine tr_istore_n dX10_peak_62 (by decide) (by decide) ?_
            refine tr_iload dX10_peak_63 hl61 ?_
            refine tr_istore_n dX10_peak_65 (by decide) (by decide) ?_
            refine q_iincE dX10_peak_66 hl61 (by decide) (by decide) (by intros; omega) ?_
            intro v101 h102
            refine tr_goto 26 dX10_peak_69 (by decide) ?_
            exact ih70 _ v94 v56 v101 I62 hl57 hl58 rfl rfl rfl hS63 (by omega) (by omega) (PkI.up rw66 v56.toInt.toNat (by omega) (by omega) (by show skD _ _ _ _ _ _ _ = _; omega) (by omega) (by omega)) rw67 rw68 rw69 (by omega)
    exact lp70 _ _ v48 v50 v52 I31 rfl rfl rfl rfl rfl hS43 (by omega) (by omega) (PkI.z (by omega) (by omega) (by omega)) hz47 (SkQ.of rp39) rp42 (Nat.lt_succ_self _)
  · skip
    refine tr_aload_n dX10_peak_7 rfl ?_
    refine q_iconst dX10_peak_8 (by decide) ?_
    intro v103 h104
    refine q_callVi hE (M' := mX10_refused) (as := [_]) dX10_peak_9 lk10_79 inX10_refused seX10_refused myX10_refused (by decide) ⟨by decide, by decide⟩ rfl (kR1 hS0.1 ta0) (Nat.le_of_ble_eq_true rfl) rfl rfl (by decide) (by decide) (fk_X10_refused hS0.1  ta0) ?_
    rintro v110 cn' K' N' I105 R106 L107 ⟨rfl, rfl, rfl, rfl, rfl, g108, p111, p112, -⟩
    have hS113 := hS0.tr g108 (by decide +kernel) (by decide +kernel)
    obtain ⟨v114, c115⟩ : ∃ v, I105 a0 17 = v := ⟨_, rfl⟩
    rw [c115] at p112
    exact tr_iret hZ dX10_peak_12 rfl (by decide) (by decide) ⟨v110, rfl, rfl, rfl, rfl, rfl, rfl, hS113, (SkQ.st hK hW0 ta0 g108 (by decide +kernel) (by decide +kernel)), (NgQ.st hNg hW0 ta0 g108 (by decide +kernel) (by decide +kernel) (by decide +kernel)), (Or.inl ⟨(by (try rw [c2]); first | done | with_reducible assumption | omega), (by first | done | with_reducible assumption | omega), trivial⟩), trivial⟩
def wik_X10_due : List Nat := [73, 81, 768, 769, 778, 2303, 2367, 2431, 2495, 2559, 2623, 2687, 2751, 2815]
def wrk_X10_due : List Nat := []
def Cs_X10_due (T : Nat → Nat) (I0 : cz_I) (R0 : cz_R) (a0 : Nat) (gX : Nat → Nat → Int) (gH : Nat → Int) (gE : Nat → Nat → Int) (gc : Nat → Int) (x1 : Int32) (v : Int32) (I' : cz_I) (R' : cz_R) : Prop :=
  (((I0 a0 5).toInt = 0) ∧ (v.toInt = -1) ∧ True) ∨
  (((I0 a0 5).toInt = 1) ∧ (∀ b1, R0 a0 2 = some b1 → (x1.toInt < 0 ∨ x1.toInt ≥ (I0 b1 0).toInt)) ∧ (v.toInt = -1) ∧ True) ∨
  (((I0 a0 5).toInt = 1) ∧ (0 ≤ x1.toInt) ∧ (∀ b1, R0 a0 2 = some b1 → x1.toInt < (I0 b1 0).toInt) ∧ (∀ al nw, R0 a0 2 = some al → R0 a0 6 = some nw → v.toInt = skD gX (-1) ((I0 al 3).toInt.toNat + (I0 nw 2).toInt.toNat) (I0 al 1).toInt gH (I0 al 5).toInt.toNat x1.toInt) ∧ True)
set_option maxHeartbeats 4000000 in
theorem fk_X10_due {l : Launch} {T : Nat → Nat} {cn : Nat} {K N : Nat → Nat} {I0 : cz_I} {R0 : cz_R} {L0 : cz_L} {d : Int} (hW0 : Wf T cn K N I0 R0 d) (gX : Nat → Nat → Int) (gH : Nat → Int) (gE : Nat → Nat → Int) (gc : Nat → Int) {a0 : Nat} (ta0 : T a0 = 1) {x1 : Int32} (hX : EvQ I0 R0 a0 gX) (hK : SkQ I0 R0 a0 gX) (hD : DjS R0 a0) (hH : ∀ al r, R0 a0 2 = some al → R0 al 6 = some r → ∀ c : Nat, (c : Int) < (I0 al 5).toInt → (I0 r c).toInt = gH c ∧ 0 ≤ gH c ∧ gH c ≤ 3) (hEa : ∀ al, R0 a0 2 = some al → CVa I0 R0 al gc gE) (hGd : GdE gc gE) (hMs : ∀ nw, R0 a0 6 = some nw → 0 ≤ (I0 nw 0).toInt ∧ (I0 nw 0).toInt ≤ 63) (hNg : NgQ I0 R0 a0 gX gE gc) (hDn : DjN R0 a0) (h1 : 1 ≤ gc 0 ∨ ∀ i, gc i = 0) : ConE l mX10_due [.ref a0, .int x1] cn K N I0 R0 L0 (ca_i (fun v cn' K' N' I' R' L' => cn = cn' ∧ K = K' ∧ N = N' ∧ R0 = R' ∧ L0 = L' ∧ St T cn K N d wik_X10_due wrk_X10_due I0 R0 I' R0 ∧ (SkQ I' R0 a0 gX) ∧ (NgQ I' R0 a0 gX gE gc) ∧ Cs_X10_due T I0 R0 a0 gX gH gE gc x1 v I' R0 ∧ True)) := by
  refine ConE.of (by decide +kernel) rfl (Nat.le_of_ble_eq_true rfl) rfl (fun X hX hZ hE => ?_)
  subst hX
  have hS0 : St T cn K N d wik_X10_due wrk_X10_due I0 R0 I0 R0 := St.rf0 hW0
  obtain ⟨v1, c2⟩ : ∃ v, I0 a0 5 = v := ⟨_, rfl⟩
  have b3 := iv1_5 hW0 ta0 c2
  obtain ⟨a4, d5, ta4⟩ := rf1_2 hW0 ta0
  obtain ⟨v6, c7⟩ : ∃ v, I0 a4 0 = v := ⟨_, rfl⟩
  have b8 := iv2_0 hW0 ta4 c7
  obtain ⟨a9, d10, ta9⟩ := rf1_6 hW0 ta0
  obtain ⟨a11, d12, ta11⟩ := rf1_8 hW0 ta0
  obtain ⟨a13, d14, ta13⟩ := rf1_10 hW0 ta0
  obtain ⟨a15, d16, ta15⟩ := rf1_13 hW0 ta0
  obtain ⟨a17, d18, ta17⟩ := rf1_14 hW0 ta0
  obtain ⟨v19, c20⟩ : ∃ v, I0 a4 1 = v := ⟨_, rfl⟩
  have b21 := iv2_1 hW0 ta4 c20
  obtain ⟨v22, c23⟩ : ∃ v, I0 a4 3 = v := ⟨_, rfl⟩
  have b24 := iv2_3 hW0 ta4 c23
  obtain ⟨a25, d26, ta25⟩ := rf2_6 hW0 ta4
  obtain ⟨v27, c28⟩ : ∃ v, I0 a4 5 = v := ⟨_, rfl⟩
  have b29 := iv2_5 hW0 ta4 c28
  refine tr_aload_n dX10_due_0 rfl ?_
  refine q_getZ dX10_due_1 fl10_95 (kR1 hS0.1 ta0) c2 ?_
  refine q_if_ne 13 dX10_due_4 (by decide) (fun h30 => ?_) (fun h30 => ?_)
  · skip
    refine tr_aload_n dX10_due_13 rfl ?_
    refine tr_iload_n dX10_due_14 rfl ?_
    refine q_callVi hE (M' := mX10_isMinute) (as := [_]) dX10_due_15 lk10_115 inX10_isMinute seX10_isMinute myX10_isMinute (by decide) ⟨by decide, by decide⟩ rfl (kR1 hS0.1 ta0) (Nat.le_of_ble_eq_true rfl) rfl rfl (by decide) (by decide) (fk_X10_isMinute hS0.1  ta0) ?_
    rintro v36 cn' K' N' I31 R32 L33 ⟨rfl, rfl, rfl, rfl, rfl, rfl, h37, p38, p39, -⟩
    have p40 := p38 _ d5
    clear p38
    rw [c7] at p40
    have p41 := p39 _ d5
    clear p39
    rw [c7] at p41
    refine q_if_ne 27 dX10_due_18 (by decide) (fun h42 => ?_) (fun h42 => ?_)
    · skip
      refine tr_aload_n dX10_due_27 rfl ?_
      refine tr_aload_n dX10_due_28 rfl ?_
      refine tr_getR dX10_due_29 fl10_16 (kR1 hS0.1 ta0) d5 ?_
      refine tr_aload_n dX10_due_32 rfl ?_
      refine q_callVr hE (M' := mX10_presentSky) (as := []) dX10_due_33 lk10_119 inX10_presentSky seX10_presentSky myX10_presentSky (by decide) ⟨by decide, by decide⟩ rfl (kR1 hS0.1 ta0) (Nat.le_of_ble_eq_true rfl) rfl rfl (by decide) (by decide) (fk_X10_presentSky hS0.1 (gX) (gE) (gc) ta0 hX hK hD (fun al ha => hEa al ha) hGd hMs hNg hDn h1) ?_
      rintro a48 cn' K' N' I43 R44 L45 ⟨rfl, rfl, rfl, rfl, rfl, g46, ta48, p49, rp50, rp51, rp52, rp53, rp54, -⟩
      have hS55 := hS0.tr g46 (by decide +kernel) (by decide +kernel)
      obtain ⟨v56, c57⟩ : ∃ v, I43 a0 9 = v := ⟨_, rfl⟩
      have b58 := iv1_9 hS55.1 ta0 c57
      rw [c57] at p49
      have hz59 := rp52 _ _ _ rp50 d5 d10
      obtain ⟨a60, d61, ta60⟩ := rf12_8 hW0 ta48
      refine tr_getR dX10_due_36 fl10_143 (kR12 hS55.1 ta48) d61 ?_
      refine tr_iload_n dX10_due_39 rfl ?_
      refine q_iald dX10_due_40 (kR41 hS55.1 ta60) (ti_in (nR41 hS55.1 ta60) (by omega) (by omega)) ?_
      intro v62 c63
      have hb64 := hz59.2.2.2.2.2.2.1 _ d61 x1.toInt.toNat (by rw [c7]; omega)
      rw [show I43 a60 x1.toInt.toNat = v62 from c63] at hb64
      have hb64r := And.intro hb64.1 hb64.2.1
      refine q_callVi hE (M' := mX0_cheesesIn) (as := [_]) dX10_due_41 lk10_149 inX0_cheesesIn seX0_cheesesIn myX0_cheesesIn (by decide) ⟨by decide, by decide⟩ rfl (kR2 hS55.1 ta4) (Nat.le_of_ble_eq_true rfl) rfl rfl (by decide) (by decide) (fk_X0_cheesesIn hS55.1 (gH) ta4 (by omega) (fun r hr c hc => by rw [hS55.cell ta4 (by decide +kernel)] at hc; obtain rfl := Option.some.inj (d26.symm.trans hr); rw [hS55.cell ta25 (wm_no (by decide +kernel))]; exact hH _ _ d5 d26 c hc)) ?_
      rintro v70 cn' K' N' I65 R66 L67 ⟨rfl, rfl, rfl, rfl, rfl, rfl, h71, rp72, -⟩
      have hd73 := rp72 _ d26
      rw [show cnM (fun c => bt v62.toInt (I43 a25 c).toInt) (I43 a4 5).toInt.toNat = skD gX (-1) ((I0 a4 3).toInt.toNat + (I0 a9 2).toInt.toNat) (I0 a4 1).toInt gH (I0 a4 5).toInt.toNat ((x1.toInt.toNat : Nat) : Int) by rw [hS55.cell ta4 (by decide +kernel)]; exact skD.of hb64 (fun c hc => by rw [hS55.cell ta25 (wm_no (by decide +kernel))]; exact hH _ _ d5 d26 c (by omega))] at hd73
      refine q_callVi hE (M' := mX10_answered) (as := [_]) dX10_due_44 lk10_109 inX10_answered seX10_answered myX10_answered (by decide) ⟨by decide, by decide⟩ rfl (kR1 hS55.1 ta0) (Nat.le_of_ble_eq_true rfl) rfl rfl (by decide) (by decide) (fk_X10_answered hS55.1  ta0) ?_
      rintro v79 cn' K' N' I74 R75 L76 ⟨rfl, rfl, rfl, rfl, rfl, g77, p80, p81, -⟩
      have hS82 := hS55.tr g77 (by decide +kernel) (by decide +kernel)
      have c83 : I74 a0 9 = v56 := (g77.cell ta0 (by decide +kernel)).trans c57
      obtain ⟨v84, c85⟩ : ∃ v, I74 a0 17 = v := ⟨_, rfl⟩
      rw [c85] at p81
      exact tr_iret hZ dX10_due_47 rfl (by decide) (by decide) ⟨v79, rfl, rfl, rfl, rfl, rfl, rfl, hS82, (SkQ.st (SkQ.of rp51) hW0 ta0 g77 (by decide +kernel) (by decide +kernel)), (NgQ.st rp54 hW0 ta0 g77 (by decide +kernel) (by decide +kernel) (by decide +kernel)), (Or.inr (Or.inr (⟨(by (try rw [c2]); first | done | with_reducible assumption | omega), (by first | done | with_reducible assumption | omega), (fun q0 z0 => by obtain rfl := Option.some.inj ((d5).symm.trans z0); (try rw [c7]); first | done | with_reducible assumption | omega), (fun al nw h2 h6 => by obtain rfl := Option.some.inj (d5.symm.trans h2); obtain rfl := Option.some.inj (d10.symm.trans h6); have e := hd73; rw [show ((x1.toInt.toNat : Nat) : Int) = x1.toInt by omega] at e; omega), trivial⟩))), trivial⟩
    · skip
      refine tr_aload_n dX10_due_21 rfl ?_
      refine q_iconst dX10_due_22 (by decide) ?_
      intro v86 h87
      refine q_callVi hE (M' := mX10_refused) (as := [_]) dX10_due_23 lk10_79 inX10_refused seX10_refused myX10_refused (by decide) ⟨by decide, by decide⟩ rfl (kR1 hS0.1 ta0) (Nat.le_of_ble_eq_true rfl) rfl rfl (by decide) (by decide) (fk_X10_refused hS0.1  ta0) ?_
      rintro v93 cn' K' N' I88 R89 L90 ⟨rfl, rfl, rfl, rfl, rfl, g91, p94, p95, -⟩
      have hS96 := hS0.tr g91 (by decide +kernel) (by decide +kernel)
      obtain ⟨v97, c98⟩ : ∃ v, I88 a0 17 = v := ⟨_, rfl⟩
      rw [c98] at p95
      exact tr_iret hZ dX10_due_26 rfl (by decide) (by decide) ⟨v93, rfl, rfl, rfl, rfl, rfl, rfl, hS96, (SkQ.st hK hW0 ta0 g91 (by decide +kernel) (by decide +kernel)), (NgQ.st hNg hW0 ta0 g91 (by decide +kernel) (by decide +kernel) (by decide +kernel)), (by first | exact Or.inr (Or.inl ⟨(by (try rw [c2]); first | done | with_reducible assumption | omega), (fun q0 z0 => by obtain rfl := Option.some.inj ((d5).symm.trans z0); (try rw [c7]); first | done | with_reducible assumption | omega), (by first | done | with_reducible assumption | omega), trivial⟩) | exact Or.inr (Or.inr (⟨(by (try rw [c2]); first | done | with_reducible assumption | omega), (by first | done | with_reducible assumption | omega), (fun q0 z0 => by obtain rfl := Option.some.inj ((d5).symm.trans z0); (try rw [c7]); first | done | with_reducible assumption | omega), (by exfalso; omega), trivial⟩))), trivial⟩
  · skip
    refine tr_aload_n dX10_due_7 rfl ?_
    refine q_iconst dX10_due_8 (by decide) ?_
    intro v99 h100
    refine q_callVi hE (M' := mX10_refused) (as := [_]) dX10_due_9 lk10_79 inX10_refused seX10_refused myX10_refused (by decide) ⟨by decide, by decide⟩ rfl (kR1 hS0.1 ta0) (Nat.le_of_ble_eq_true rfl) rfl rfl (by decide) (by decide) (fk_X10_refused hS0.1  ta0) ?_
    rintro v106 cn' K' N' I101 R102 L103 ⟨rfl, rfl, rfl, rfl, rfl, g104, p107, p108, -⟩
    have hS109 := hS0.tr g104 (by decide +kernel) (by decide +kernel)
    obtain ⟨v110, c111⟩ : ∃ v, I101 a0 17 = v := ⟨_, rfl⟩
    rw [c111] at p108
    exact tr_iret hZ dX10_due_12 rfl (by decide) (by decide) ⟨v106, rfl, rfl, rfl, rfl, rfl, rfl, hS109, (SkQ.st hK hW0 ta0 g104 (by decide +kernel) (by decide +kernel)), (NgQ.st hNg hW0 ta0 g104 (by decide +kernel) (by decide +kernel) (by decide +kernel)), (Or.inl ⟨(by (try rw [c2]); first | done | with_reducible assumption | omega), (by first | done | with_reducible assumption | omega), trivial⟩), trivial⟩
set_option maxHeartbeats 4000000 in
theorem fk_X10_isTurner {l : Launch} {T : Nat → Nat} {cn : Nat} {K N : Nat → Nat} {I0 : cz_I} {R0 : cz_R} {L0 : cz_L} {d : Int} (hW0 : Wf T cn K N I0 R0 d)  {a0 : Nat} (ta0 : T a0 = 1) {x1 : Int32} : ConE l mX10_isTurner [.ref a0, .int x1] cn K N I0 R0 L0 (ca_i (fun v cn' K' N' I' R' L' => cn = cn' ∧ K = K' ∧ N = N' ∧ I0 = I' ∧ R0 = R' ∧ L0 = L' ∧ (0 ≤ v.toInt ∧ v.toInt ≤ 1) ∧ (∀ b1, R0 a0 2 = some b1 → (v.toInt = 1 → (0 ≤ x1.toInt ∧ x1.toInt < (I0 b1 9).toInt))) ∧ (∀ b1, R0 a0 2 = some b1 → (v.toInt = 0 → (x1.toInt < 0 ∨ x1.toInt ≥ (I0 b1 9).toInt))) ∧ True)) := by
  refine ConE.of (by decide +kernel) rfl (Nat.le_of_ble_eq_true rfl) rfl (fun X hX hZ hE => ?_)
  subst hX
  obtain ⟨a1, d2, ta1⟩ := rf1_2 hW0 ta0
  obtain ⟨v3, c4⟩ : ∃ v, I0 a1 9 = v := ⟨_, rfl⟩
  have b5 := iv2_9 hW0 ta1 c4
  refine tr_iload_n dX10_isTurner_0 rfl ?_
  refine q_if_lt 19 dX10_isTurner_1 (by decide) (fun h6 => ?_) (fun h6 => ?_)
  · skip
    refine q_iconst dX10_isTurner_19 (by decide) ?_
    intro v7 h8
    exact tr_zret hZ dX10_isTurner_20 rfl (ti_b01 (by omega) (by omega)) (by decide) (by decide) ⟨v7, rfl, rfl, rfl, rfl, rfl, rfl, rfl, (by omega), (fun q0 z0 => by obtain rfl := Option.some.inj ((d2).symm.trans z0); (try rw [c4]); first | done | with_reducible assumption | omega), (fun q0 z0 => by obtain rfl := Option.some.inj ((d2).symm.trans z0); (try rw [c4]); first | done | with_reducible assumption | omega), trivial⟩
  · skip
    refine tr_iload_n dX10_isTurner_4 rfl ?_
    refine tr_aload_n dX10_isTurner_5 rfl ?_
    refine tr_getR dX10_isTurner_6 fl10_16 (kR1 hW0 ta0) d2 ?_
    refine q_getI dX10_isTurner_9 fl10_335 (kR2 hW0 ta1) c4 ?_
    refine q_icmp_ge 19 dX10_isTurner_12 (by decide) (fun h9 => ?_) (fun h9 => ?_)
    · skip
      refine q_iconst dX10_isTurner_19 (by decide) ?_
      intro v10 h11
      exact tr_zret hZ dX10_isTurner_20 rfl (ti_b01 (by omega) (by omega)) (by decide) (by decide) ⟨v10, rfl, rfl, rfl, rfl, rfl, rfl, rfl, (by omega), (fun q0 z0 => by obtain rfl := Option.some.inj ((d2).symm.trans z0); (try rw [c4]); first | done | with_reducible assumption | omega), (fun q0 z0 => by obtain rfl := Option.some.inj ((d2).symm.trans z0); (try rw [c4]); first | done | with_reducible assumption | omega), trivial⟩
    · skip
      refine q_iconst dX10_isTurner_15 (by decide) ?_
      intro v12 h13
      refine tr_goto 20 dX10_isTurner_16 (by decide) ?_
      exact tr_zret hZ dX10_isTurner_20 rfl (ti_b01 (by omega) (by omega)) (by decide) (by decide) ⟨v12, rfl, rfl, rfl, rfl, rfl, rfl, rfl, (by omega), (fun q0 z0 => by obtain rfl := Option.some.inj ((d2).symm.trans z0); (try rw [c4]); first | done | with_reducible assumption | omega), (fun q0 z0 => by obtain rfl := Option.some.inj ((d2).symm.trans z0); (try rw [c4]); first | done | with_reducible assumption | omega), trivial⟩
def wik_X10_awake : List Nat := [73, 75, 81, 768, 769, 778, 834, 2303, 2367, 2431, 2495, 2559, 2623, 2687, 2751, 2815, 2879, 2943, 3007, 3071, 3135, 3199, 3263, 3327, 3391]
def wrk_X10_awake : List Nat := [832, 833]
def Cs_X10_awake (T : Nat → Nat) (I0 : cz_I) (R0 : cz_R) (a0 : Nat) (gX : Nat → Nat → Int) (gE : Nat → Nat → Int) (gc : Nat → Int) (x1 : Int32) (x2 : Int32) (v : Int32) (I' : cz_I) (R' : cz_R) : Prop :=
  ((∀ b1, R0 a0 2 = some b1 → (x1.toInt < 0 ∨ x1.toInt ≥ (I0 b1 9).toInt)) ∧ (v.toInt = -1) ∧ True) ∨
  ((0 ≤ x1.toInt) ∧ (∀ b1, R0 a0 2 = some b1 → x1.toInt < (I0 b1 9).toInt) ∧ (∀ b1, R0 a0 2 = some b1 → (x2.toInt < 0 ∨ x2.toInt ≥ (I0 b1 0).toInt)) ∧ (v.toInt = -1) ∧ True) ∨
  ((0 ≤ x1.toInt) ∧ (∀ b1, R0 a0 2 = some b1 → x1.toInt < (I0 b1 9).toInt) ∧ (0 ≤ x2.toInt) ∧ (∀ b1, R0 a0 2 = some b1 → x2.toInt < (I0 b1 0).toInt) ∧ (∀ al nw, R0 a0 2 = some al → R0 a0 6 = some nw → v.toInt = awZ (NgZ I0 al nw gX gE gc) x1.toInt.toNat x2.toInt) ∧ True)
set_option maxHeartbeats 4000000 in
theorem fk_X10_awake {l : Launch} {T : Nat → Nat} {cn : Nat} {K N : Nat → Nat} {I0 : cz_I} {R0 : cz_R} {L0 : cz_L} {d : Int} (hW0 : Wf T cn K N I0 R0 d) (gX : Nat → Nat → Int) (gE : Nat → Nat → Int) (gc : Nat → Int) {a0 : Nat} (ta0 : T a0 = 1) {x1 : Int32} {x2 : Int32} (hX : EvQ I0 R0 a0 gX) (hK : SkQ I0 R0 a0 gX) (hD : DjS R0 a0) (hEa : ∀ al, R0 a0 2 = some al → CVa I0 R0 al gc gE) (hGd : GdE gc gE) (hMs : ∀ nw, R0 a0 6 = some nw → 0 ≤ (I0 nw 0).toInt ∧ (I0 nw 0).toInt ≤ 63) (hNg : NgQ I0 R0 a0 gX gE gc) (hDn : DjN R0 a0) (h1 : 1 ≤ gc 0 ∨ ∀ i, gc i = 0) : ConE l mX10_awake [.ref a0, .int x1, .int x2] cn K N I0 R0 L0 (ca_i (fun v cn' K' N' I' R' L' => cn = cn' ∧ K = K' ∧ N = N' ∧ L0 = L' ∧ St T cn K N d wik_X10_awake wrk_X10_awake I0 R0 I' R' ∧ (SkQ I' R0 a0 gX) ∧ (NgQ I' R' a0 gX gE gc) ∧ Cs_X10_awake T I0 R0 a0 gX gE gc x1 x2 v I' R' ∧ True)) := by
  refine ConE.of (by decide +kernel) rfl (Nat.le_of_ble_eq_true rfl) rfl (fun X hX hZ hE => ?_)
  subst hX
  have hS0 : St T cn K N d wik_X10_awake wrk_X10_awake I0 R0 I0 R0 := St.rf0 hW0
  obtain ⟨a1, d2, ta1⟩ := rf1_2 hW0 ta0
  obtain ⟨v3, c4⟩ : ∃ v, I0 a1 9 = v := ⟨_, rfl⟩
  have b5 := iv2_9 hW0 ta1 c4
  obtain ⟨v6, c7⟩ : ∃ v, I0 a1 0 = v := ⟨_, rfl⟩
  have b8 := iv2_0 hW0 ta1 c7
  obtain ⟨a9, d10, ta9⟩ := rf1_6 hW0 ta0
  obtain ⟨a11, d12, ta11⟩ := rf1_8 hW0 ta0
  obtain ⟨a13, d14, ta13⟩ := rf1_10 hW0 ta0
  obtain ⟨a15, d16, ta15⟩ := rf1_13 hW0 ta0
  obtain ⟨a17, d18, ta17⟩ := rf1_14 hW0 ta0
  obtain ⟨v19, c20⟩ : ∃ v, I0 a1 1 = v := ⟨_, rfl⟩
  have b21 := iv2_1 hW0 ta1 c20
  obtain ⟨v22, c23⟩ : ∃ v, I0 a1 3 = v := ⟨_, rfl⟩
  have b24 := iv2_3 hW0 ta1 c23
  obtain ⟨v25, c26⟩ : ∃ v, I0 a1 5 = v := ⟨_, rfl⟩
  have b27 := iv2_5 hW0 ta1 c26
  obtain ⟨v28, c29⟩ : ∃ v, I0 a1 11 = v := ⟨_, rfl⟩
  have b30 := iv2_11 hW0 ta1 c29
  obtain ⟨v31, c32⟩ : ∃ v, I0 a9 0 = v := ⟨_, rfl⟩
  obtain ⟨v33, c34⟩ : ∃ v, I0 a9 2 = v := ⟨_, rfl⟩
  have b35 := iv8_2 hW0 ta9 c34
  have hc36 := (hEa _ d2).ct
  rw [c7, c20, c26, c4, c29] at hc36
  have hc36m := hMs _ d10
  have hc36g := hGd.own hc36m gX (-1) ((I0 a1 3).toInt.toNat + (I0 a9 2).toInt.toNat)
  rw [c32] at hc36m
  have hc36z0 : nzc ((NgZ I0 a1 a9 gX gE gc)) 0 = gc 0 := rfl
  have hc36z1 : nzc ((NgZ I0 a1 a9 gX gE gc)) 1 = gc 1 := rfl
  have hc36z3 : nzc ((NgZ I0 a1 a9 gX gE gc)) 3 = gc 3 := rfl
  have hc36z4 : nzc ((NgZ I0 a1 a9 gX gE gc)) 4 = gc 4 := rfl
  have hc36z5 : nzc ((NgZ I0 a1 a9 gX gE gc)) 5 = gc 5 := rfl
  refine tr_aload_n dX10_awake_0 rfl ?_
  refine tr_iload_n dX10_awake_1 rfl ?_
  refine q_callVi hE (M' := mX10_isTurner) (as := [_]) dX10_awake_2 lk10_152 inX10_isTurner seX10_isTurner myX10_isTurner (by decide) ⟨by decide, by decide⟩ rfl (kR1 hS0.1 ta0) (Nat.le_of_ble_eq_true rfl) rfl rfl (by decide) (by decide) (fk_X10_isTurner hS0.1  ta0) ?_
  rintro v42 cn' K' N' I37 R38 L39 ⟨rfl, rfl, rfl, rfl, rfl, rfl, h43, p44, p45, -⟩
  have p46 := p44 _ d2
  clear p44
  rw [c4] at p46
  have p47 := p45 _ d2
  clear p45
  rw [c4] at p47
  refine q_if_ne 14 dX10_awake_5 (by decide) (fun h48 => ?_) (fun h48 => ?_)
  · skip
    refine tr_aload_n dX10_awake_14 rfl ?_
    refine tr_iload_n dX10_awake_15 rfl ?_
    refine q_callVi hE (M' := mX10_isMinute) (as := [_]) dX10_awake_16 lk10_115 inX10_isMinute seX10_isMinute myX10_isMinute (by decide) ⟨by decide, by decide⟩ rfl (kR1 hS0.1 ta0) (Nat.le_of_ble_eq_true rfl) rfl rfl (by decide) (by decide) (fk_X10_isMinute hS0.1  ta0) ?_
    rintro v54 cn' K' N' I49 R50 L51 ⟨rfl, rfl, rfl, rfl, rfl, rfl, h55, p56, p57, -⟩
    have p58 := p56 _ d2
    clear p56
    rw [c7] at p58
    have p59 := p57 _ d2
    clear p57
    rw [c7] at p59
    refine q_if_ne 28 dX10_awake_19 (by decide) (fun h60 => ?_) (fun h60 => ?_)
    · skip
      refine tr_aload_n dX10_awake_28 rfl ?_
      refine tr_aload_n dX10_awake_29 rfl ?_
      refine q_callVr hE (M' := mX10_presentNight) (as := []) dX10_awake_30 lk10_155 inX10_presentNight seX10_presentNight myX10_presentNight (by decide) ⟨by decide, by decide⟩ rfl (kR1 hS0.1 ta0) (Nat.le_of_ble_eq_true rfl) rfl rfl (by decide) (by decide) (fk_X10_presentNight hS0.1 (gX) (gE) (gc) ta0 hX hK hD (fun al ha => hEa al ha) hGd hMs hNg hDn h1) ?_
      rintro a66 cn' K' N' I61 R62 L63 ⟨rfl, rfl, rfl, rfl, g64, ta66, p67, rp68, rp69, rp70, rp71, rp72, -⟩
      have hS73 := hS0.tr g64 (by decide +kernel) (by decide +kernel)
      obtain ⟨v74, c75⟩ : ∃ v, I61 a0 11 = v := ⟨_, rfl⟩
      have b76 := iv1_11 hS73.1 ta0 c75
      rw [c75] at p67
      have hq77 := NgP.own (n := a66) rp69 (SkQ.rc rp68 hW0 ta0 (R13 hS73 (by decide +kernel))) (by rw [c75]; omega) ((g64.rcell ta0 (by decide +kernel)).trans rp70) ((hS73.rcell ta0 (by decide +kernel)).trans d12) ((hS73.rcell ta0 (by decide +kernel)).trans d2) ((hS73.rcell ta0 (by decide +kernel)).trans d10) ((hEa _ d2).gs hW0 ta1 hS73 (by decide +kernel) (by decide +kernel)) hGd
      have hq77z : NgZ I61 a1 a9 gX gE gc = (NgZ I0 a1 a9 gX gE gc) := by unfold NgZ; rw [hS73.cell ta1 (by decide +kernel), hS73.cell ta9 (by decide +kernel), hS73.cell ta9 (by decide +kernel)]
      rw [hq77z] at hq77
      refine tr_iload_n dX10_awake_33 rfl ?_
      refine tr_iload_n dX10_awake_34 rfl ?_
      refine q_callVi hE (M' := mX5_isAwake) (as := [_, _]) dX10_awake_35 lk10_159 inX5_isAwake seX5_isAwake myX5_isAwake (by decide) ⟨by decide, by decide⟩ rfl (kR13 hS73.1 ta66) (Nat.le_of_ble_eq_true rfl) rfl rfl (by decide) (by decide) (fk_X5_isAwake hS73.1 ((NgZ I0 a1 a9 gX gE gc)) ta66 (by omega) (by omega) hq77.1 hc36g (by first | done | with_reducible assumption | omega) (by first | done | with_reducible assumption | omega)) ?_
      rintro v83 cn' K' N' I78 R79 L80 ⟨rfl, rfl, rfl, rfl, rfl, rfl, h84, rp85, -⟩
      refine q_if_eq 45 dX10_awake_38 (by decide) (fun h86 => ?_) (fun h86 => ?_)
      · skip
        refine q_iconst dX10_awake_45 (by decide) ?_
        intro v87 h88
        refine q_callVi hE (M' := mX10_answered) (as := [_]) dX10_awake_46 lk10_109 inX10_answered seX10_answered myX10_answered (by decide) ⟨by decide, by decide⟩ rfl (kR1 hS73.1 ta0) (Nat.le_of_ble_eq_true rfl) rfl rfl (by decide) (by decide) (fk_X10_answered hS73.1  ta0) ?_
        rintro v94 cn' K' N' I89 R90 L91 ⟨rfl, rfl, rfl, rfl, rfl, g92, p95, p96, -⟩
        have hS97 := hS73.tr g92 (by decide +kernel) (by decide +kernel)
        have c98 : I89 a0 11 = v74 := (g92.cell ta0 (by decide +kernel)).trans c75
        obtain ⟨v99, c100⟩ : ∃ v, I89 a0 17 = v := ⟨_, rfl⟩
        rw [c100] at p96
        exact tr_iret hZ dX10_awake_49 rfl (by decide) (by decide) ⟨v94, rfl, rfl, rfl, rfl, rfl, hS97, (SkQ.st rp68 hW0 ta0 g92 (by decide +kernel) (by decide +kernel)), (NgQ.st rp69 hS97.1 ta0 g92 (by decide +kernel) (by decide +kernel) (by decide +kernel)), (Or.inr (Or.inr (⟨(by first | done | with_reducible assumption | omega), (fun q0 z0 => by obtain rfl := Option.some.inj ((d2).symm.trans z0); (try rw [c4]); first | done | with_reducible assumption | omega), (by first | done | with_reducible assumption | omega), (fun q0 z0 => by obtain rfl := Option.some.inj ((d2).symm.trans z0); (try rw [c7]); first | done | with_reducible assumption | omega), (fun al nw h2 h6 => by obtain rfl := Option.some.inj (d2.symm.trans h2); obtain rfl := Option.some.inj (d10.symm.trans h6); have e := rp85; omega), trivial⟩))), trivial⟩
      · skip
        refine q_iconst dX10_awake_41 (by decide) ?_
        intro v101 h102
        refine tr_goto 46 dX10_awake_42 (by decide) ?_
        refine q_callVi hE (M' := mX10_answered) (as := [_]) dX10_awake_46 lk10_109 inX10_answered seX10_answered myX10_answered (by decide) ⟨by decide, by decide⟩ rfl (kR1 hS73.1 ta0) (Nat.le_of_ble_eq_true rfl) rfl rfl (by decide) (by decide) (fk_X10_answered hS73.1  ta0) ?_
        rintro v108 cn' K' N' I103 R104 L105 ⟨rfl, rfl, rfl, rfl, rfl, g106, p109, p110, -⟩
        have hS111 := hS73.tr g106 (by decide +kernel) (by decide +kernel)
        have c112 : I103 a0 11 = v74 := (g106.cell ta0 (by decide +kernel)).trans c75
        obtain ⟨v113, c114⟩ : ∃ v, I103 a0 17 = v := ⟨_, rfl⟩
        rw [c114] at p110
        exact tr_iret hZ dX10_awake_49 rfl (by decide) (by decide) ⟨v108, rfl, rfl, rfl, rfl, rfl, hS111, (SkQ.st rp68 hW0 ta0 g106 (by decide +kernel) (by decide +kernel)), (NgQ.st rp69 hS111.1 ta0 g106 (by decide +kernel) (by decide +kernel) (by decide +kernel)), (Or.inr (Or.inr (⟨(by first | done | with_reducible assumption | omega), (fun q0 z0 => by obtain rfl := Option.some.inj ((d2).symm.trans z0); (try rw [c4]); first | done | with_reducible assumption | omega), (by first | done | with_reducible assumption | omega), (fun q0 z0 => by obtain rfl := Option.some.inj ((d2).symm.trans z0); (try rw [c7]); first | done | with_reducible assumption | omega), (fun al nw h2 h6 => by obtain rfl := Option.some.inj (d2.symm.trans h2); obtain rfl := Option.some.inj (d10.symm.trans h6); have e := rp85; omega), trivial⟩))), trivial⟩
    · skip
      refine tr_aload_n dX10_awake_22 rfl ?_
      refine q_iconst dX10_awake_23 (by decide) ?_
      intro v115 h116
      refine q_callVi hE (M' := mX10_refused) (as := [_]) dX10_awake_24 lk10_79 inX10_refused seX10_refused myX10_refused (by decide) ⟨by decide, by decide⟩ rfl (kR1 hS0.1 ta0) (Nat.le_of_ble_eq_true rfl) rfl rfl (by decide) (by decide) (fk_X10_refused hS0.1  ta0) ?_
      rintro v122 cn' K' N' I117 R118 L119 ⟨rfl, rfl, rfl, rfl, rfl, g120, p123, p124, -⟩
      have hS125 := hS0.tr g120 (by decide +kernel) (by decide +kernel)
      obtain ⟨v126, c127⟩ : ∃ v, I117 a0 17 = v := ⟨_, rfl⟩
      rw [c127] at p124
      exact tr_iret hZ dX10_awake_27 rfl (by decide) (by decide) ⟨v122, rfl, rfl, rfl, rfl, rfl, hS125, (SkQ.st hK hW0 ta0 g120 (by decide +kernel) (by decide +kernel)), (NgQ.st hNg hW0 ta0 g120 (by decide +kernel) (by decide +kernel) (by decide +kernel)), (by first | exact Or.inl ⟨(fun q0 z0 => by obtain rfl := Option.some.inj ((d2).symm.trans z0); (try rw [c4]); first | done | with_reducible assumption | omega), (by first | done | with_reducible assumption | omega), trivial⟩ | exact Or.inr (Or.inl ⟨(by first | done | with_reducible assumption | omega), (fun q0 z0 => by obtain rfl := Option.some.inj ((d2).symm.trans z0); (try rw [c4]); first | done | with_reducible assumption | omega), (fun q0 z0 => by obtain rfl := Option.some.inj ((d2).symm.trans z0); (try rw [c7]); first | done | with_reducible assumption | omega), (by first | done | with_reducible assumption | omega), trivial⟩) | exact Or.inr (Or.inr (⟨(by first | done | with_reducible assumption | omega), (fun q0 z0 => by obtain rfl := Option.some.inj ((d2).symm.trans z0); (try rw [c4]); first | done | with_reducible assumption | omega), (by first | done | with_reducible assumption | omega), (fun q0 z0 => by obtain rfl := Option.some.inj ((d2).symm.trans z0); (try rw [c7]); first | done | with_reducible assumption | omega), (by exfalso; omega), trivial⟩))), trivial⟩
  · skip
    refine tr_aload_n dX10_awake_8 rfl ?_
    refine q_iconst dX10_awake_9 (by decide) ?_
    intro v128 h129
    refine q_callVi hE (M' := mX10_refused) (as := [_]) dX10_awake_10 lk10_79 inX10_refused seX10_refused myX10_refused (by decide) ⟨by decide, by decide⟩ rfl (kR1 hS0.1 ta0) (Nat.le_of_ble_eq_true rfl) rfl rfl (by decide) (by decide) (fk_X10_refused hS0.1  ta0) ?_
    rintro v135 cn' K' N' I130 R131 L132 ⟨rfl, rfl, rfl, rfl, rfl, g133, p136, p137, -⟩
    have hS138 := hS0.tr g133 (by decide +kernel) (by decide +kernel)
    obtain ⟨v139, c140⟩ : ∃ v, I130 a0 17 = v := ⟨_, rfl⟩
    rw [c140] at p137
    exact tr_iret hZ dX10_awake_13 rfl (by decide) (by decide) ⟨v135, rfl, rfl, rfl, rfl, rfl, hS138, (SkQ.st hK hW0 ta0 g133 (by decide +kernel) (by decide +kernel)), (NgQ.st hNg hW0 ta0 g133 (by decide +kernel) (by decide +kernel) (by decide +kernel)), (by first | exact Or.inl ⟨(fun q0 z0 => by obtain rfl := Option.some.inj ((d2).symm.trans z0); (try rw [c4]); first | done | with_reducible assumption | omega), (by first | done | with_reducible assumption | omega), trivial⟩ | exact Or.inr (Or.inl ⟨(by first | done | with_reducible assumption | omega), (fun q0 z0 => by obtain rfl := Option.some.inj ((d2).symm.trans z0); (try rw [c4]); first | done | with_reducible assumption | omega), (fun q0 z0 => by obtain rfl := Option.some.inj ((d2).symm.trans z0); (try rw [c7]); first | done | with_reducible assumption | omega), (by first | done | with_reducible assumption | omega), trivial⟩) | exact Or.inr (Or.inr (⟨(by first | done | with_reducible assumption | omega), (fun q0 z0 => by obtain rfl := Option.some.inj ((d2).symm.trans z0); (try rw [c4]); first | done | with_reducible assumption | omega), (by first | done | with_reducible assumption | omega), (fun q0 z0 => by obtain rfl := Option.some.inj ((d2).symm.trans z0); (try rw [c7]); first | done | with_reducible assumption | omega), (by exfalso; omega), trivial⟩))), trivial⟩
def wik_X10_notices : List Nat := [73, 75, 81, 768, 769, 778, 834, 2303, 2367, 2431, 2495, 2559, 2623, 2687, 2751, 2815, 2879, 2943, 3007, 3071, 3135, 3199, 3263, 3327, 3391]
def wrk_X10_notices : List Nat := [832, 833]
def Cs_X10_notices (T : Nat → Nat) (I0 : cz_I) (R0 : cz_R) (a0 : Nat) (gX : Nat → Nat → Int) (gE : Nat → Nat → Int) (gc : Nat → Int) (x1 : Int32) (x2 : Int32) (x3 : Int32) (v : Int32) (I' : cz_I) (R' : cz_R) : Prop :=
  ((∀ b1, R0 a0 2 = some b1 → (((x1.toInt < 0 ∨ x1.toInt ≥ (I0 b1 9).toInt) ∨ x2.toInt < 0) ∨ x2.toInt ≥ (I0 b1 1).toInt)) ∧ (v.toInt = -1) ∧ True) ∨
  ((0 ≤ x1.toInt) ∧ (∀ b1, R0 a0 2 = some b1 → x1.toInt < (I0 b1 9).toInt) ∧ (0 ≤ x2.toInt) ∧ (∀ b1, R0 a0 2 = some b1 → x2.toInt < (I0 b1 1).toInt) ∧ (∀ b1, R0 a0 2 = some b1 → (x3.toInt < 0 ∨ x3.toInt ≥ (I0 b1 0).toInt)) ∧ (v.toInt = -1) ∧ True) ∨
  ((0 ≤ x1.toInt) ∧ (∀ b1, R0 a0 2 = some b1 → x1.toInt < (I0 b1 9).toInt) ∧ (0 ≤ x2.toInt) ∧ (∀ b1, R0 a0 2 = some b1 → x2.toInt < (I0 b1 1).toInt) ∧ (0 ≤ x3.toInt) ∧ (∀ b1, R0 a0 2 = some b1 → x3.toInt < (I0 b1 0).toInt) ∧ (∀ al nw, R0 a0 2 = some al → R0 a0 6 = some nw → v.toInt = noZ (NgZ I0 al nw gX gE gc) x1.toInt.toNat x2.toInt x3.toInt) ∧ True)
set_option maxHeartbeats 4000000 in
theorem fk_X10_notices {l : Launch} {T : Nat → Nat} {cn : Nat} {K N : Nat → Nat} {I0 : cz_I} {R0 : cz_R} {L0 : cz_L} {d : Int} (hW0 : Wf T cn K N I0 R0 d) (gX : Nat → Nat → Int) (gE : Nat → Nat → Int) (gc : Nat → Int) {a0 : Nat} (ta0 : T a0 = 1) {x1 : Int32} {x2 : Int32} {x3 : Int32} (hX : EvQ I0 R0 a0 gX) (hK : SkQ I0 R0 a0 gX) (hD : DjS R0 a0) (hEa : ∀ al, R0 a0 2 = some al → CVa I0 R0 al gc gE) (hGd : GdE gc gE) (hMs : ∀ nw, R0 a0 6 = some nw → 0 ≤ (I0 nw 0).toInt ∧ (I0 nw 0).toInt ≤ 63) (hNg : NgQ I0 R0 a0 gX gE gc) (hDn : DjN R0 a0) (h1 : 1 ≤ gc 0 ∨ ∀ i, gc i = 0) : ConE l mX10_notices [.ref a0, .int x1, .int x2, .int x3] cn K N I0 R0 L0 (ca_i (fun v cn' K' N' I' R' L' => cn = cn' ∧ K = K' ∧ N = N' ∧ L0 = L' ∧ St T cn K N d wik_X10_notices wrk_X10_notices I0 R0 I' R' ∧ (SkQ I' R0 a0 gX) ∧ (NgQ I' R' a0 gX gE gc) ∧ Cs_X10_notices T I0 R0 a0 gX gE gc x1 x2 x3 v I' R' ∧ True)) := by
  refine ConE.of (by decide +kernel) rfl (Nat.le_of_ble_eq_true rfl) rfl (fun X hX hZ hE => ?_)
  subst hX
  have hS0 : St T cn K N d wik_X10_notices wrk_X10_notices I0 R0 I0 R0 := St.rf0 hW0
  obtain ⟨a1, d2, ta1⟩ := rf1_2 hW0 ta0
  obtain ⟨v3, c4⟩ : ∃ v, I0 a1 9 = v := ⟨_, rfl⟩
  have b5 := iv2_9 hW0 ta1 c4
  obtain ⟨v6, c7⟩ : ∃ v, I0 a1 1 = v := ⟨_, rfl⟩
  have b8 := iv2_1 hW0 ta1 c7
  obtain ⟨v9, c10⟩ : ∃ v, I0 a1 0 = v := ⟨_, rfl⟩
  have b11 := iv2_0 hW0 ta1 c10
  obtain ⟨a12, d13, ta12⟩ := rf1_6 hW0 ta0
  obtain ⟨a14, d15, ta14⟩ := rf1_8 hW0 ta0
  obtain ⟨a16, d17, ta16⟩ := rf1_10 hW0 ta0
  obtain ⟨a18, d19, ta18⟩ := rf1_13 hW0 ta0
  obtain ⟨a20, d21, ta20⟩ := rf1_14 hW0 ta0
  obtain ⟨v22, c23⟩ : ∃ v, I0 a1 3 = v := ⟨_, rfl⟩
  have b24 := iv2_3 hW0 ta1 c23
  obtain ⟨v25, c26⟩ : ∃ v, I0 a1 5 = v := ⟨_, rfl⟩
  have b27 := iv2_5 hW0 ta1 c26
  obtain ⟨v28, c29⟩ : ∃ v, I0 a1 11 = v := ⟨_, rfl⟩
  have b30 := iv2_11 hW0 ta1 c29
  obtain ⟨v31, c32⟩ : ∃ v, I0 a12 0 = v := ⟨_, rfl⟩
  obtain ⟨v33, c34⟩ : ∃ v, I0 a12 2 = v := ⟨_, rfl⟩
  have b35 := iv8_2 hW0 ta12 c34
  have hc36 := (hEa _ d2).ct
  rw [c10, c7, c26, c4, c29] at hc36
  have hc36m := hMs _ d13
  have hc36g := hGd.own hc36m gX (-1) ((I0 a1 3).toInt.toNat + (I0 a12 2).toInt.toNat)
  rw [c32] at hc36m
  have hc36z0 : nzc ((NgZ I0 a1 a12 gX gE gc)) 0 = gc 0 := rfl
  have hc36z1 : nzc ((NgZ I0 a1 a12 gX gE gc)) 1 = gc 1 := rfl
  have hc36z3 : nzc ((NgZ I0 a1 a12 gX gE gc)) 3 = gc 3 := rfl
  have hc36z4 : nzc ((NgZ I0 a1 a12 gX gE gc)) 4 = gc 4 := rfl
  have hc36z5 : nzc ((NgZ I0 a1 a12 gX gE gc)) 5 = gc 5 := rfl
  refine tr_aload_n dX10_notices_0 rfl ?_
  refine tr_iload_n dX10_notices_1 rfl ?_
  refine q_callVi hE (M' := mX10_isTurner) (as := [_]) dX10_notices_2 lk10_152 inX10_isTurner seX10_isTurner myX10_isTurner (by decide) ⟨by decide, by decide⟩ rfl (kR1 hS0.1 ta0) (Nat.le_of_ble_eq_true rfl) rfl rfl (by decide) (by decide) (fk_X10_isTurner hS0.1  ta0) ?_
  rintro v42 cn' K' N' I37 R38 L39 ⟨rfl, rfl, rfl, rfl, rfl, rfl, h43, p44, p45, -⟩
  have p46 := p44 _ d2
  clear p44
  rw [c4] at p46
  have p47 := p45 _ d2
  clear p45
  rw [c4] at p47
  refine q_if_eq 16 dX10_notices_5 (by decide) (fun h48 => ?_) (fun h48 => ?_)
  · skip
    refine tr_aload_n dX10_notices_16 rfl ?_
    refine q_iconst dX10_notices_17 (by decide) ?_
    intro v49 h50
    refine q_callVi hE (M' := mX10_refused) (as := [_]) dX10_notices_18 lk10_79 inX10_refused seX10_refused myX10_refused (by decide) ⟨by decide, by decide⟩ rfl (kR1 hS0.1 ta0) (Nat.le_of_ble_eq_true rfl) rfl rfl (by decide) (by decide) (fk_X10_refused hS0.1  ta0) ?_
    rintro v56 cn' K' N' I51 R52 L53 ⟨rfl, rfl, rfl, rfl, rfl, g54, p57, p58, -⟩
    have hS59 := hS0.tr g54 (by decide +kernel) (by decide +kernel)
    obtain ⟨v60, c61⟩ : ∃ v, I51 a0 17 = v := ⟨_, rfl⟩
    rw [c61] at p58
    exact tr_iret hZ dX10_notices_21 rfl (by decide) (by decide) ⟨v56, rfl, rfl, rfl, rfl, rfl, hS59, (SkQ.st hK hW0 ta0 g54 (by decide +kernel) (by decide +kernel)), (NgQ.st hNg hW0 ta0 g54 (by decide +kernel) (by decide +kernel) (by decide +kernel)), (by first | exact Or.inl ⟨(fun q0 z0 => by obtain rfl := Option.some.inj ((d2).symm.trans z0); (try rw [c4]); (try rw [c7]); first | done | with_reducible assumption | omega), (by first | done | with_reducible assumption | omega), trivial⟩ | exact Or.inr (Or.inl ⟨(by first | done | with_reducible assumption | omega), (fun q0 z0 => by obtain rfl := Option.some.inj ((d2).symm.trans z0); (try rw [c4]); first | done | with_reducible assumption | omega), (by first | done | with_reducible assumption | omega), (fun q0 z0 => by obtain rfl := Option.some.inj ((d2).symm.trans z0); (try rw [c7]); first | done | with_reducible assumption | omega), (fun q0 z0 => by obtain rfl := Option.some.inj ((d2).symm.trans z0); (try rw [c10]); first | done | with_reducible assumption | omega), (by first | done | with_reducible assumption | omega), trivial⟩) | exact Or.inr (Or.inr (⟨(by first | done | with_reducible assumption | omega), (fun q0 z0 => by obtain rfl := Option.some.inj ((d2).symm.trans z0); (try rw [c4]); first | done | with_reducible assumption | omega), (by first | done | with_reducible assumption | omega), (fun q0 z0 => by obtain rfl := Option.some.inj ((d2).symm.trans z0); (try rw [c7]); first | done | with_reducible assumption | omega), (by first | done | with_reducible assumption | omega), (fun q0 z0 => by obtain rfl := Option.some.inj ((d2).symm.trans z0); (try rw [c10]); first | done | with_reducible assumption | omega), (by exfalso; omega), trivial⟩))), trivial⟩
  · skip
    refine tr_aload_n dX10_notices_8 rfl ?_
    refine tr_iload_n dX10_notices_9 rfl ?_
    refine q_callVi hE (M' := mX10_isHut) (as := [_]) dX10_notices_10 lk10_126 inX10_isHut seX10_isHut myX10_isHut (by decide) ⟨by decide, by decide⟩ rfl (kR1 hS0.1 ta0) (Nat.le_of_ble_eq_true rfl) rfl rfl (by decide) (by decide) (fk_X10_isHut hS0.1  ta0) ?_
    rintro v67 cn' K' N' I62 R63 L64 ⟨rfl, rfl, rfl, rfl, rfl, rfl, h68, p69, p70, -⟩
    have p71 := p69 _ d2
    clear p69
    rw [c7] at p71
    have p72 := p70 _ d2
    clear p70
    rw [c7] at p72
    refine q_if_ne 22 dX10_notices_13 (by decide) (fun h73 => ?_) (fun h73 => ?_)
    · skip
      refine tr_aload_n dX10_notices_22 rfl ?_
      refine tr_iload_n dX10_notices_23 rfl ?_
      refine q_callVi hE (M' := mX10_isMinute) (as := [_]) dX10_notices_24 lk10_115 inX10_isMinute seX10_isMinute myX10_isMinute (by decide) ⟨by decide, by decide⟩ rfl (kR1 hS0.1 ta0) (Nat.le_of_ble_eq_true rfl) rfl rfl (by decide) (by decide) (fk_X10_isMinute hS0.1  ta0) ?_
      rintro v79 cn' K' N' I74 R75 L76 ⟨rfl, rfl, rfl, rfl, rfl, rfl, h80, p81, p82, -⟩
      have p83 := p81 _ d2
      clear p81
      rw [c10] at p83
      have p84 := p82 _ d2
      clear p82
      rw [c10] at p84
      refine q_if_ne 36 dX10_notices_27 (by decide) (fun h85 => ?_) (fun h85 => ?_)
      · skip
        refine tr_aload_n dX10_notices_36 rfl ?_
        refine tr_aload_n dX10_notices_37 rfl ?_
        refine q_callVr hE (M' := mX10_presentNight) (as := []) dX10_notices_38 lk10_155 inX10_presentNight seX10_presentNight myX10_presentNight (by decide) ⟨by decide, by decide⟩ rfl (kR1 hS0.1 ta0) (Nat.le_of_ble_eq_true rfl) rfl rfl (by decide) (by decide) (fk_X10_presentNight hS0.1 (gX) (gE) (gc) ta0 hX hK hD (fun al ha => hEa al ha) hGd hMs hNg hDn h1) ?_
        rintro a91 cn' K' N' I86 R87 L88 ⟨rfl, rfl, rfl, rfl, g89, ta91, p92, rp93, rp94, rp95, rp96, rp97, -⟩
        have hS98 := hS0.tr g89 (by decide +kernel) (by decide +kernel)
        obtain ⟨v99, c100⟩ : ∃ v, I86 a0 11 = v := ⟨_, rfl⟩
        have b101 := iv1_11 hS98.1 ta0 c100
        rw [c100] at p92
        have hq102 := NgP.own (n := a91) rp94 (SkQ.rc rp93 hW0 ta0 (R13 hS98 (by decide +kernel))) (by rw [c100]; omega) ((g89.rcell ta0 (by decide +kernel)).trans rp95) ((hS98.rcell ta0 (by decide +kernel)).trans d15) ((hS98.rcell ta0 (by decide +kernel)).trans d2) ((hS98.rcell ta0 (by decide +kernel)).trans d13) ((hEa _ d2).gs hW0 ta1 hS98 (by decide +kernel) (by decide +kernel)) hGd
        have hq102z : NgZ I86 a1 a12 gX gE gc = (NgZ I0 a1 a12 gX gE gc) := by unfold NgZ; rw [hS98.cell ta1 (by decide +kernel), hS98.cell ta12 (by decide +kernel), hS98.cell ta12 (by decide +kernel)]
        rw [hq102z] at hq102
        refine tr_iload_n dX10_notices_41 rfl ?_
        refine tr_iload_n dX10_notices_42 rfl ?_
        refine q_callVi hE (M' := mX5_noticedHuts) (as := [_, _]) dX10_notices_43 lk10_163 inX5_noticedHuts seX5_noticedHuts myX5_noticedHuts (by decide) ⟨by decide, by decide⟩ rfl (kR13 hS98.1 ta91) (Nat.le_of_ble_eq_true rfl) rfl rfl (by decide) (by decide) (fk_X5_noticedHuts hS98.1 ((NgZ I0 a1 a12 gX gE gc)) ta91 (by omega) (by omega) hq102.1 hc36g (by first | done | with_reducible assumption | omega) (by first | done | with_reducible assumption | omega)) ?_
        rintro v108 cn' K' N' I103 R104 L105 ⟨rfl, rfl, rfl, rfl, rfl, rfl, rp109, -⟩
        have hn110 := And.intro rp109.1 rp109.2.1
        refine tr_iload_n dX10_notices_46 rfl ?_
        refine q_callSi hE (M' := mX10_bit) (as := [_, _]) dX10_notices_47 lk10_136 inX10_bit myX10_bit ⟨by decide, by decide⟩ rfl (Nat.le_of_ble_eq_true rfl) rfl rfl (by decide) (by decide) (f_X10_bitX   (by omega) (by omega)) ?_
        rintro v116 cn' K' N' I111 R112 L113 ⟨rfl, rfl, rfl, rfl, rfl, rfl, p117, -⟩
        have btv116 := bt_01 v108.toInt x2.toInt
        refine q_callVi hE (M' := mX10_answered) (as := [_]) dX10_notices_50 lk10_109 inX10_answered seX10_answered myX10_answered (by decide) ⟨by decide, by decide⟩ rfl (kR1 hS98.1 ta0) (Nat.le_of_ble_eq_true rfl) rfl rfl (by decide) (by decide) (fk_X10_answered hS98.1  ta0) ?_
        rintro v123 cn' K' N' I118 R119 L120 ⟨rfl, rfl, rfl, rfl, rfl, g121, p124, p125, -⟩
        have hS126 := hS98.tr g121 (by decide +kernel) (by decide +kernel)
        have c127 : I118 a0 11 = v99 := (g121.cell ta0 (by decide +kernel)).trans c100
        obtain ⟨v128, c129⟩ : ∃ v, I118 a0 17 = v := ⟨_, rfl⟩
        rw [c129] at p125
        exact tr_iret hZ dX10_notices_53 rfl (by decide) (by decide) ⟨v123, rfl, rfl, rfl, rfl, rfl, hS126, (SkQ.st rp93 hW0 ta0 g121 (by decide +kernel) (by decide +kernel)), (NgQ.st rp94 hS126.1 ta0 g121 (by decide +kernel) (by decide +kernel) (by decide +kernel)), (Or.inr (Or.inr (⟨(by first | done | with_reducible assumption | omega), (fun q0 z0 => by obtain rfl := Option.some.inj ((d2).symm.trans z0); (try rw [c4]); first | done | with_reducible assumption | omega), (by first | done | with_reducible assumption | omega), (fun q0 z0 => by obtain rfl := Option.some.inj ((d2).symm.trans z0); (try rw [c7]); first | done | with_reducible assumption | omega), (by first | done | with_reducible assumption | omega), (fun q0 z0 => by obtain rfl := Option.some.inj ((d2).symm.trans z0); (try rw [c10]); first | done | with_reducible assumption | omega), (fun al nw h2 h6 => by obtain rfl := Option.some.inj (d2.symm.trans h2); obtain rfl := Option.some.inj (d13.symm.trans h6); have e := rp109.2.2 x2.toInt.toNat (by omega); rw [show ((x2.toInt.toNat : Nat) : Int) = x2.toInt by omega] at e; omega), trivial⟩))), trivial⟩
      · skip
        refine tr_aload_n dX10_notices_30 rfl ?_
        refine q_iconst dX10_notices_31 (by decide) ?_
        intro v130 h131
        refine q_callVi hE (M' := mX10_refused) (as := [_]) dX10_notices_32 lk10_79 inX10_refused seX10_refused myX10_refused (by decide) ⟨by decide, by decide⟩ rfl (kR1 hS0.1 ta0) (Nat.le_of_ble_eq_true rfl) rfl rfl (by decide) (by decide) (fk_X10_refused hS0.1  ta0) ?_
        rintro v137 cn' K' N' I132 R133 L134 ⟨rfl, rfl, rfl, rfl, rfl, g135, p138, p139, -⟩
        have hS140 := hS0.tr g135 (by decide +kernel) (by decide +kernel)
        obtain ⟨v141, c142⟩ : ∃ v, I132 a0 17 = v := ⟨_, rfl⟩
        rw [c142] at p139
        exact tr_iret hZ dX10_notices_35 rfl (by decide) (by decide) ⟨v137, rfl, rfl, rfl, rfl, rfl, hS140, (SkQ.st hK hW0 ta0 g135 (by decide +kernel) (by decide +kernel)), (NgQ.st hNg hW0 ta0 g135 (by decide +kernel) (by decide +kernel) (by decide +kernel)), (by first | exact Or.inl ⟨(fun q0 z0 => by obtain rfl := Option.some.inj ((d2).symm.trans z0); (try rw [c4]); (try rw [c7]); first | done | with_reducible assumption | omega), (by first | done | with_reducible assumption | omega), trivial⟩ | exact Or.inr (Or.inl ⟨(by first | done | with_reducible assumption | omega), (fun q0 z0 => by obtain rfl := Option.some.inj ((d2).symm.trans z0); (try rw [c4]); first | done | with_reducible assumption | omega), (by first | done | with_reducible assumption | omega), (fun q0 z0 => by obtain rfl := Option.some.inj ((d2).symm.trans z0); (try rw [c7]); first | done | with_reducible assumption | omega), (fun q0 z0 => by obtain rfl := Option.some.inj ((d2).symm.trans z0); (try rw [c10]); first | done | with_reducible assumption | omega), (by first | done | with_reducible assumption | omega), trivial⟩) | exact Or.inr (Or.inr (⟨(by first | done | with_reducible assumption | omega), (fun q0 z0 => by obtain rfl := Option.some.inj ((d2).symm.trans z0); (try rw [c4]); first | done | with_reducible assumption | omega), (by first | done | with_reducible assumption | omega), (fun q0 z0 => by obtain rfl := Option.some.inj ((d2).symm.trans z0); (try rw [c7]); first | done | with_reducible assumption | omega), (by first | done | with_reducible assumption | omega), (fun q0 z0 => by obtain rfl := Option.some.inj ((d2).symm.trans z0); (try rw [c10]); first | done | with_reducible assumption | omega), (by exfalso; omega), trivial⟩))), trivial⟩
    · skip
      refine tr_aload_n dX10_notices_16 rfl ?_
      refine q_iconst dX10_notices_17 (by decide) ?_
      intro v143 h144
      refine q_callVi hE (M' := mX10_refused) (as := [_]) dX10_notices_18 lk10_79 inX10_refused seX10_refused myX10_refused (by decide) ⟨by decide, by decide⟩ rfl (kR1 hS0.1 ta0) (Nat.le_of_ble_eq_true rfl) rfl rfl (by decide) (by decide) (fk_X10_refused hS0.1  ta0) ?_
      rintro v150 cn' K' N' I145 R146 L147 ⟨rfl, rfl, rfl, rfl, rfl, g148, p151, p152, -⟩
      have hS153 := hS0.tr g148 (by decide +kernel) (by decide +kernel)
      obtain ⟨v154, c155⟩ : ∃ v, I145 a0 17 = v := ⟨_, rfl⟩
      rw [c155] at p152
      exact tr_iret hZ dX10_notices_21 rfl (by decide) (by decide) ⟨v150, rfl, rfl, rfl, rfl, rfl, hS153, (SkQ.st hK hW0 ta0 g148 (by decide +kernel) (by decide +kernel)), (NgQ.st hNg hW0 ta0 g148 (by decide +kernel) (by decide +kernel) (by decide +kernel)), (by first | exact Or.inl ⟨(fun q0 z0 => by obtain rfl := Option.some.inj ((d2).symm.trans z0); (try rw [c4]); (try rw [c7]); first | done | with_reducible assumption | omega), (by first | done | with_reducible assumption | omega), trivial⟩ | exact Or.inr (Or.inl ⟨(by first | done | with_reducible assumption | omega), (fun q0 z0 => by obtain rfl := Option.some.inj ((d2).symm.trans z0); (try rw [c4]); first | done | with_reducible assumption | omega), (by first | done | with_reducible assumption | omega), (fun q0 z0 => by obtain rfl := Option.some.inj ((d2).symm.trans z0); (try rw [c7]); first | done | with_reducible assumption | omega), (fun q0 z0 => by obtain rfl := Option.some.inj ((d2).symm.trans z0); (try rw [c10]); first | done | with_reducible assumption | omega), (by first | done | with_reducible assumption | omega), trivial⟩) | exact Or.inr (Or.inr (⟨(by first | done | with_reducible assumption | omega), (fun q0 z0 => by obtain rfl := Option.some.inj ((d2).symm.trans z0); (try rw [c4]); first | done | with_reducible assumption | omega), (by first | done | with_reducible assumption | omega), (fun q0 z0 => by obtain rfl := Option.some.inj ((d2).symm.trans z0); (try rw [c7]); first | done | with_reducible assumption | omega), (by first | done | with_reducible assumption | omega), (fun q0 z0 => by obtain rfl := Option.some.inj ((d2).symm.trans z0); (try rw [c10]); first | done | with_reducible assumption | omega), (by exfalso; omega), trivial⟩))), trivial⟩
set_option maxHeartbeats 4000000 in
theorem fk_X5_minutesAwake {l : Launch} {T : Nat → Nat} {cn : Nat} {K N : Nat → Nat} {I0 : cz_I} {R0 : cz_R} {L0 : cz_L} {d : Int} (hW0 : Wf T cn K N I0 R0 d) (gZ : cz_N) {a0 : Nat} (ta0 : T a0 = 13) {x1 : Int32} (hx1 : 0 ≤ x1.toInt ∧ x1.toInt ≤ 4) (hP : NgP I0 R0 a0 gZ) (hG : GdN gZ) (pre0 : x1.toInt < (nzc gZ 4)) : ConE l mX5_minutesAwake [.ref a0, .int x1] cn K N I0 R0 L0 (ca_i (fun v cn' K' N' I' R' L' => cn = cn' ∧ K = K' ∧ N = N' ∧ I0 = I' ∧ R0 = R' ∧ L0 = L' ∧ (0 ≤ v.toInt ∧ v.toInt ≤ 240) ∧ (v.toInt = cnM (fun m => awZ gZ x1.toInt.toNat (m : Int)) (nzc gZ 0).toNat) ∧ True)) := by
  refine ConE.of (by decide +kernel) rfl (Nat.le_of_ble_eq_true rfl) rfl (fun X hX hZ hE => ?_)
  subst hX
  have p1 := pre0
  obtain ⟨a2, d3, ta2⟩ := rf13_0 hW0 ta0
  obtain ⟨v4, c5⟩ : ∃ v, I0 a2 0 = v := ⟨_, rfl⟩
  have b6 := iv2_0 hW0 ta2 c5
  obtain ⟨a7, d8, ta7⟩ := rf13_1 hW0 ta0
  obtain ⟨a9, d10, ta9⟩ := rf2_2 hW0 ta2
  obtain ⟨a11, d12, ta11⟩ := rf2_6 hW0 ta2
  obtain ⟨a13, d14, ta13⟩ := rf2_8 hW0 ta2
  obtain ⟨a15, d16, ta15⟩ := rf2_10 hW0 ta2
  obtain ⟨a17, d18, ta17⟩ := rf2_12 hW0 ta2
  obtain ⟨a19, d20, ta19⟩ := rf12_2 hW0 ta7
  obtain ⟨a21, d22, ta21⟩ := rf12_3 hW0 ta7
  obtain ⟨a23, d24, ta23⟩ := rf12_5 hW0 ta7
  obtain ⟨a25, d26, ta25⟩ := rf12_8 hW0 ta7
  obtain ⟨a27, d28, ta27⟩ := rf12_9 hW0 ta7
  obtain ⟨a29, d30, ta29⟩ := rf12_11 hW0 ta7
  obtain ⟨a31, d32, ta31⟩ := rf13_3 hW0 ta0
  obtain ⟨a33, d34, ta33⟩ := rf13_4 hW0 ta0
  obtain ⟨a35, d36, ta35⟩ := rf13_5 hW0 ta0
  obtain ⟨a37, d38, ta37⟩ := rf13_6 hW0 ta0
  obtain ⟨a39, d40, ta39⟩ := rf13_7 hW0 ta0
  obtain ⟨a41, d42, ta41⟩ := rf13_8 hW0 ta0
  obtain ⟨a43, d44, ta43⟩ := rf13_9 hW0 ta0
  obtain ⟨a45, d46, ta45⟩ := rf13_10 hW0 ta0
  obtain ⟨a47, d48, ta47⟩ := rf13_11 hW0 ta0
  obtain ⟨v49, c50⟩ : ∃ v, I0 a2 1 = v := ⟨_, rfl⟩
  have b51 := iv2_1 hW0 ta2 c50
  obtain ⟨v52, c53⟩ : ∃ v, I0 a2 5 = v := ⟨_, rfl⟩
  have b54 := iv2_5 hW0 ta2 c53
  obtain ⟨v55, c56⟩ : ∃ v, I0 a2 7 = v := ⟨_, rfl⟩
  obtain ⟨v57, c58⟩ : ∃ v, I0 a2 9 = v := ⟨_, rfl⟩
  have b59 := iv2_9 hW0 ta2 c58
  obtain ⟨v60, c61⟩ : ∃ v, I0 a2 11 = v := ⟨_, rfl⟩
  have b62 := iv2_11 hW0 ta2 c61
  obtain ⟨v63, c64⟩ : ∃ v, I0 a0 2 = v := ⟨_, rfl⟩
  have hA65 := hP _ _ d3 d8
  have hc66 := hA65.1.ct
  rw [c5, c50, c53, c58, c61, c56] at hc66
  have hc66g := hG.cs
  have hc66m := hA65.2.2
  rw [c64] at hc66m
  have hc66n := hG.ms
  refine q_iconst dX5_minutesAwake_0 (by decide) ?_
  intro v67 h68
  refine tr_istore_n dX5_minutesAwake_1 (by decide) (by decide) ?_
  refine q_iconst dX5_minutesAwake_2 (by decide) ?_
  intro v69 h70
  refine tr_istore_n dX5_minutesAwake_3 (by decide) (by decide) ?_
  have lp83 : ∀ (fu : Nat) (ls : Nat → Option Value) (v71 : Int32) (v72 : Int32), ls 0 = some (.ref a0) → ls 1 = some (.int x1) → ls 2 = some (.int v71) → ls 3 = some (.int v72) → 0 ≤ v72.toInt → v72.toInt ≤ 240 → v72.toInt ≤ v4.toInt → 0 ≤ v71.toInt → v71.toInt ≤ v72.toInt → (v71.toInt = cnM (fun m => awZ gZ x1.toInt.toNat (m : Int)) v72.toInt.toNat) → (-v72.toInt + 2147483647).toNat < fu → Tr X mX5_minutesAwake 4 ls [] cn K N I0 R0 L0 0 0 := by
    intro fu
    induction fu with
    | zero => intros; rename_i hz; exact absurd hz (Nat.not_lt_zero _)
    | succ fu ih83 =>
      intro ls v71 v72 hl73 hl74 hl75 hl76 g77 g78 g79 g80 g81 rw82 hm83
      refine tr_iload_n dX5_minutesAwake_4 hl76 ?_
      refine tr_aload_n dX5_minutesAwake_5 hl73 ?_
      refine tr_getR dX5_minutesAwake_6 fl5_39 (kR13 hW0 ta0) d3 ?_
      refine q_getI dX5_minutesAwake_9 fl5_174 (kR2 hW0 ta2) c5 ?_
      refine q_icmp_ge 33 dX5_minutesAwake_12 (by decide) (fun h85 => ?_) (fun h85 => ?_)
      · skip
        refine tr_iload_n dX5_minutesAwake_33 hl75 ?_
        exact tr_iret hZ dX5_minutesAwake_34 rfl (by decide) (by decide) ⟨v71, rfl, rfl, rfl, rfl, rfl, rfl, rfl, (by omega), (by rw [show (nzc gZ 0).toNat = v72.toInt.toNat from congrArg Int.toNat (by omega)]; have z := rw82; omega), trivial⟩
      · skip
        refine tr_aload_n dX5_minutesAwake_15 hl73 ?_
        refine tr_iload_n dX5_minutesAwake_16 hl74 ?_
        refine tr_iload_n dX5_minutesAwake_17 hl76 ?_
        refine q_callVi hE (M' := mX5_isAwake) (as := [_, _]) dX5_minutesAwake_18 lk5_99 inX5_isAwake seX5_isAwake myX5_isAwake (by decide) ⟨by decide, by decide⟩ rfl (kR13 hW0 ta0) (Nat.le_of_ble_eq_true rfl) rfl rfl (by decide) (by decide) (fk_X5_isAwake hW0 (gZ) ta0 (by omega) (by omega) hP hG (by first | done | with_reducible assumption | omega) (by first | done | with_reducible assumption | omega)) ?_
        rintro v91 cn' K' N' I86 R87 L88 ⟨rfl, rfl, rfl, rfl, rfl, rfl, h92, rp93, -⟩
        refine q_if_eq 27 dX5_minutesAwake_21 (by decide) (fun h94 => ?_) (fun h94 => ?_)
        · skip
          refine q_iincE dX5_minutesAwake_27 hl76 (by decide) (by decide) (by intros; omega) ?_
          intro v95 h96
          refine tr_goto 4 dX5_minutesAwake_30 (by decide) ?_
          exact ih83 _ v71 v95 hl73 hl74 hl75 rfl (by omega) (by omega) (by omega) (by omega) (by omega) (by have w := rw82; have e := rp93; rw [cnM_s (l := v72.toInt) (by omega) (by omega)]; show _ = _ + awZ gZ x1.toInt.toNat ((v72.toInt.toNat : Nat) : Int); rw [show ((v72.toInt.toNat : Nat) : Int) = v72.toInt by omega]; omega) (by omega)
        · skip
          refine q_iincE dX5_minutesAwake_24 hl75 (by decide) (by decide) (by intros; omega) ?_
          intro v97 h98
          refine q_iincE dX5_minutesAwake_27 hl76 (by decide) (by decide) (by intros; omega) ?_
          intro v99 h100
          refine tr_goto 4 dX5_minutesAwake_30 (by decide) ?_
          exact ih83 _ v97 v99 hl73 hl74 rfl rfl (by omega) (by omega) (by omega) (by omega) (by omega) (by have w := rw82; have e := rp93; rw [cnM_s (l := v72.toInt) (by omega) (by omega)]; show _ = _ + awZ gZ x1.toInt.toNat ((v72.toInt.toNat : Nat) : Int); rw [show ((v72.toInt.toNat : Nat) : Int) = v72.toInt by omega]; omega) (by omega)
  exact lp83 _ _ v67 v69 rfl rfl rfl rfl (by omega) (by omega) (by omega) (by omega) (by omega) (by rw [show v69.toInt.toNat = 0 by omega]; show _ = (0 : Int); omega) (Nat.lt_succ_self _)
