def wik_X8_findStirs : List Nat := [778, 2815]
def wrk_X8_findStirs : List Nat := []
set_option maxHeartbeats 4000000 in
theorem fk_X8_findStirs {l : Launch} {T : Nat → Nat} {cn : Nat} {K N : Nat → Nat} {I0 : cz_I} {R0 : cz_R} {L0 : cz_L} {d : Int} (hW0 : Wf T cn K N I0 R0 d)  {a0 : Nat} (ta0 : T a0 = 12) {a1 : Nat} (ta1 : T a1 = 6) : ConE l mX8_findStirs [.ref a0, .ref a1] cn K N I0 R0 L0 (ca_v (fun cn' K' N' I' R' L' => cn = cn' ∧ K = K' ∧ N = N' ∧ R0 = R' ∧ L0 = L' ∧ St T cn K N d wik_X8_findStirs wrk_X8_findStirs I0 R0 I' R0 ∧ (FrS R0 a0 T I0 I') ∧ True)) := by
  refine ConE.of (by decide +kernel) rfl (Nat.le_of_ble_eq_true rfl) rfl (fun X hX hZ hE => ?_)
  subst hX
  have hS0 : St T cn K N d wik_X8_findStirs wrk_X8_findStirs I0 R0 I0 R0 := St.rf0 hW0
  obtain ⟨a11, d12, ta11⟩ := rf12_2 hW0 ta0
  obtain ⟨a13, d14, ta13⟩ := rf12_3 hW0 ta0
  obtain ⟨a15, d16, ta15⟩ := rf12_4 hW0 ta0
  obtain ⟨a17, d18, ta17⟩ := rf12_5 hW0 ta0
  obtain ⟨a19, d20, ta19⟩ := rf12_6 hW0 ta0
  obtain ⟨a21, d22, ta21⟩ := rf12_7 hW0 ta0
  obtain ⟨a23, d24, ta23⟩ := rf12_8 hW0 ta0
  obtain ⟨a25, d26, ta25⟩ := rf12_9 hW0 ta0
  obtain ⟨a27, d28, ta27⟩ := rf12_11 hW0 ta0
  obtain ⟨v29, c30⟩ : ∃ v, I0 a0 0 = v := ⟨_, rfl⟩
  have b31 := iv12_0 hW0 ta0 c30
  refine tr_aload_n dX8_findStirs_0 rfl ?_
  refine q_iconst dX8_findStirs_1 (by decide) ?_
  intro v32 h33
  refine q_putI dX8_findStirs_2 fl8_109 (kR12 hS0.1 ta0) (Or.inl rfl) hS0 ta0 (by show (0 : Int) ≤ v32.toInt ∧ v32.toInt ≤ (240 : Int); omega) rfl (by decide +kernel) ?_
  intro I34 hS35 e36 f37
  refine q_iconst dX8_findStirs_5 (by decide) ?_
  intro v38 h39
  refine tr_istore_n dX8_findStirs_6 (by decide) (by decide) ?_
  have lp52 : ∀ (fu : Nat) (ls : Nat → Option Value) (v40 : Int32) (I44 : cz_I) (v46 : Int32), ls 0 = some (.ref a0) → ls 1 = some (.ref a1) → ls 2 = some (.int v40) → St T cn K N d wik_X8_findStirs wrk_X8_findStirs I0 R0 I44 R0 → I44 a0 10 = v46 → 0 ≤ v40.toInt → 0 ≤ v46.toInt → v46.toInt ≤ v40.toInt → (FrS R0 a0 T I0 I44) → (-v40.toInt + 2147483647).toNat < fu → Tr X mX8_findStirs 7 ls [] cn K N I44 R0 L0 0 0 := by
    intro fu
    induction fu with
    | zero => intros; rename_i hz; exact absurd hz (Nat.not_lt_zero _)
    | succ fu ih52 =>
      intro ls v40 I44 v46 hl41 hl42 hl43 hS45 c47 g48 g49 g50 rw51 hm52
      have b54 := iv12_10 hS45.1 ta0 c47
      refine tr_iload_n dX8_findStirs_7 hl43 ?_
      refine tr_aload_n dX8_findStirs_8 hl41 ?_
      refine q_getI dX8_findStirs_9 fl8_46 (kR12 hS45.1 ta0) ((hS45.cell ta0 (by decide +kernel)).trans c30) ?_
      refine q_icmp_ge 76 dX8_findStirs_12 (by decide) (fun h55 => ?_) (fun h55 => ?_)
      · skip
        exact tr_vret hZ dX8_findStirs_76 rfl (by decide) (by decide) ⟨rfl, rfl, rfl, rfl, rfl, rfl, hS45, rw51, trivial⟩
      · skip
        refine tr_aload_n dX8_findStirs_15 hl41 ?_
        refine tr_getR dX8_findStirs_16 fl8_31 (kR12 hS45.1 ta0) d24 ?_
        refine tr_iload_n dX8_findStirs_19 hl43 ?_
        refine q_iald dX8_findStirs_20 (kR41 hS45.1 ta23) (ti_in (nR41 hS45.1 ta23) (by omega) (by omega)) ?_
        intro v56 c57
        refine q_if_ne 50 dX8_findStirs_21 (by decide) (fun h58 => ?_) (fun h58 => ?_)
        · skip
          refine tr_aload_n dX8_findStirs_50 hl41 ?_
          refine tr_getR dX8_findStirs_51 fl8_37 (kR12 hS45.1 ta0) d28 ?_
          refine tr_aload_n dX8_findStirs_54 hl41 ?_
          refine q_getI dX8_findStirs_55 fl8_109 (kR12 hS45.1 ta0) c47 ?_
          refine tr_iload_n dX8_findStirs_58 hl43 ?_
          refine q_iast dX8_findStirs_59 (kR43 hS45.1 ta27) (ti_in (nR43 hS45.1 ta27) (by omega) (by omega)) hS45 ta27 (by show (0 : Int) ≤ v40.toInt ∧ v40.toInt ≤ (239 : Int); omega) rfl (by rfl) ?_
          intro I59 hS60 e62 f61
          have c63 : I59 a0 10 = v46 := (f61 _ _ (fun q => by have z := ta0; rw [q.1, ta27] at z; exact absurd z (by decide))).trans c47
          refine tr_aload_n dX8_findStirs_60 hl41 ?_
          refine tr_dup dX8_findStirs_61 rfl ?_
          refine q_getI dX8_findStirs_62 fl8_109 (kR12 hS60.1 ta0) c63 ?_
          refine q_iconst dX8_findStirs_65 (by decide) ?_
          intro v64 h65
          refine q_iaddE dX8_findStirs_66 (by intros; omega) ?_
          intro v66 h67
          refine q_putI dX8_findStirs_67 fl8_109 (kR12 hS60.1 ta0) (Or.inl rfl) hS60 ta0 (by show (0 : Int) ≤ v66.toInt ∧ v66.toInt ≤ (240 : Int); omega) rfl (by decide +kernel) ?_
          intro I68 hS69 e70 f71
          refine q_iincE dX8_findStirs_70 hl43 (by decide) (by decide) (by intros; omega) ?_
          intro v72 h73
          refine tr_goto 7 dX8_findStirs_73 (by decide) ?_
          exact ih52 _ v72 I68 v66 hl41 hl42 rfl hS69 e70 (by omega) (by omega) (by omega) ((rw51.pu f61 (s := 11) (by omega) (by omega) d28 ta27 (by decide)).po f71 rfl ta0) (by omega)
        · skip
          refine tr_aload_n dX8_findStirs_24 hl41 ?_
          refine tr_getR dX8_findStirs_25 fl8_34 (kR12 hS45.1 ta0) d26 ?_
          refine tr_iload_n dX8_findStirs_28 hl43 ?_
          refine q_iald dX8_findStirs_29 (kR42 hS45.1 ta25) (ti_in (nR42 hS45.1 ta25) (by omega) (by omega)) ?_
          intro v74 c75
          refine q_if_ne 50 dX8_findStirs_30 (by decide) (fun h76 => ?_) (fun h76 => ?_)
          · skip
            refine tr_aload_n dX8_findStirs_50 hl41 ?_
            refine tr_getR dX8_findStirs_51 fl8_37 (kR12 hS45.1 ta0) d28 ?_
            refine tr_aload_n dX8_findStirs_54 hl41 ?_
            refine q_getI dX8_findStirs_55 fl8_109 (kR12 hS45.1 ta0) c47 ?_
            refine tr_iload_n dX8_findStirs_58 hl43 ?_
            refine q_iast dX8_findStirs_59 (kR43 hS45.1 ta27) (ti_in (nR43 hS45.1 ta27) (by omega) (by omega)) hS45 ta27 (by show (0 : Int) ≤ v40.toInt ∧ v40.toInt ≤ (239 : Int); omega) rfl (by rfl) ?_
            intro I77 hS78 e80 f79
            have c81 : I77 a0 10 = v46 := (f79 _ _ (fun q => by have z := ta0; rw [q.1, ta27] at z; exact absurd z (by decide))).trans c47
            refine tr_aload_n dX8_findStirs_60 hl41 ?_
            refine tr_dup dX8_findStirs_61 rfl ?_
            refine q_getI dX8_findStirs_62 fl8_109 (kR12 hS78.1 ta0) c81 ?_
            refine q_iconst dX8_findStirs_65 (by decide) ?_
            intro v82 h83
            refine q_iaddE dX8_findStirs_66 (by intros; omega) ?_
            intro v84 h85
            refine q_putI dX8_findStirs_67 fl8_109 (kR12 hS78.1 ta0) (Or.inl rfl) hS78 ta0 (by show (0 : Int) ≤ v84.toInt ∧ v84.toInt ≤ (240 : Int); omega) rfl (by decide +kernel) ?_
            intro I86 hS87 e88 f89
            refine q_iincE dX8_findStirs_70 hl43 (by decide) (by decide) (by intros; omega) ?_
            intro v90 h91
            refine tr_goto 7 dX8_findStirs_73 (by decide) ?_
            exact ih52 _ v90 I86 v84 hl41 hl42 rfl hS87 e88 (by omega) (by omega) (by omega) ((rw51.pu f79 (s := 11) (by omega) (by omega) d28 ta27 (by decide)).po f89 rfl ta0) (by omega)
          · skip
            refine tr_aload_n dX8_findStirs_33 hl41 ?_
            refine tr_getR dX8_findStirs_34 fl8_15 (kR12 hS45.1 ta0) d14 ?_
            refine tr_iload_n dX8_findStirs_37 hl43 ?_
            refine q_zald dX8_findStirs_38 (kR36 hS45.1 ta13) (ti_in (nR36 hS45.1 ta13) (by omega) (by omega)) ?_
            intro v92 c93
            have b94 := iv36 hS45.1 ta13 c93
            refine q_if_ne 50 dX8_findStirs_39 (by decide) (fun h95 => ?_) (fun h95 => ?_)
            · skip
              refine tr_aload_n dX8_findStirs_50 hl41 ?_
              refine tr_getR dX8_findStirs_51 fl8_37 (kR12 hS45.1 ta0) d28 ?_
              refine tr_aload_n dX8_findStirs_54 hl41 ?_
              refine q_getI dX8_findStirs_55 fl8_109 (kR12 hS45.1 ta0) c47 ?_
              refine tr_iload_n dX8_findStirs_58 hl43 ?_
              refine q_iast dX8_findStirs_59 (kR43 hS45.1 ta27) (ti_in (nR43 hS45.1 ta27) (by omega) (by omega)) hS45 ta27 (by show (0 : Int) ≤ v40.toInt ∧ v40.toInt ≤ (239 : Int); omega) rfl (by rfl) ?_
              intro I96 hS97 e99 f98
              have c100 : I96 a0 10 = v46 := (f98 _ _ (fun q => by have z := ta0; rw [q.1, ta27] at z; exact absurd z (by decide))).trans c47
              refine tr_aload_n dX8_findStirs_60 hl41 ?_
              refine tr_dup dX8_findStirs_61 rfl ?_
              refine q_getI dX8_findStirs_62 fl8_109 (kR12 hS97.1 ta0) c100 ?_
              refine q_iconst dX8_findStirs_65 (by decide) ?_
              intro v101 h102
              refine q_iaddE dX8_findStirs_66 (by intros; omega) ?_
              intro v103 h104
              refine q_putI dX8_findStirs_67 fl8_109 (kR12 hS97.1 ta0) (Or.inl rfl) hS97 ta0 (by show (0 : Int) ≤ v103.toInt ∧ v103.toInt ≤ (240 : Int); omega) rfl (by decide +kernel) ?_
              intro I105 hS106 e107 f108
              refine q_iincE dX8_findStirs_70 hl43 (by decide) (by decide) (by intros; omega) ?_
              intro v109 h110
              refine tr_goto 7 dX8_findStirs_73 (by decide) ?_
              exact ih52 _ v109 I105 v103 hl41 hl42 rfl hS106 e107 (by omega) (by omega) (by omega) ((rw51.pu f98 (s := 11) (by omega) (by omega) d28 ta27 (by decide)).po f108 rfl ta0) (by omega)
            · skip
              refine tr_aload_n dX8_findStirs_42 hl42 ?_
              refine tr_iload_n dX8_findStirs_43 hl43 ?_
              refine q_callVi hE (M' := mX4_holds) (as := [_]) dX8_findStirs_44 lk8_112 inX4_holds seX4_holds myX4_holds (by decide) ⟨by decide, by decide⟩ rfl (kR6 hS45.1 ta1) (Nat.le_of_ble_eq_true rfl) rfl rfl (by decide) (by decide) (k_X4_holds hS45.1 ta1) ?_
              rintro v115 cn' K' N' I111 R112 L113 ⟨rfl, rfl, rfl, rfl, rfl, rfl, h116, -⟩
              refine q_if_eq 70 dX8_findStirs_47 (by decide) (fun h117 => ?_) (fun h117 => ?_)
              · skip
                refine q_iincE dX8_findStirs_70 hl43 (by decide) (by decide) (by intros; omega) ?_
                intro v118 h119
                refine tr_goto 7 dX8_findStirs_73 (by decide) ?_
                exact ih52 _ v118 I44 v46 hl41 hl42 rfl hS45 c47 (by omega) (by omega) (by omega) rw51 (by omega)
              · skip
                refine tr_aload_n dX8_findStirs_50 hl41 ?_
                refine tr_getR dX8_findStirs_51 fl8_37 (kR12 hS45.1 ta0) d28 ?_
                refine tr_aload_n dX8_findStirs_54 hl41 ?_
                refine q_getI dX8_findStirs_55 fl8_109 (kR12 hS45.1 ta0) c47 ?_
                refine tr_iload_n dX8_findStirs_58 hl43 ?_
                refine q_iast dX8_findStirs_59 (kR43 hS45.1 ta27) (ti_in (nR43 hS45.1 ta27) (by omega) (by omega)) hS45 ta27 (by show (0 : Int) ≤ v40.toInt ∧ v40.toInt ≤ (239 : Int); omega) rfl (by rfl) ?_
                intro I120 hS121 e123 f122
                have c124 : I120 a0 10 = v46 := (f122 _ _ (fun q => by have z := ta0; rw [q.1, ta27] at z; exact absurd z (by decide))).trans c47
                refine tr_aload_n dX8_findStirs_60 hl41 ?_
                refine tr_dup dX8_findStirs_61 rfl ?_
                refine q_getI dX8_findStirs_62 fl8_109 (kR12 hS121.1 ta0) c124 ?_
                refine q_iconst dX8_findStirs_65 (by decide) ?_
                intro v125 h126
                refine q_iaddE dX8_findStirs_66 (by intros; omega) ?_
                intro v127 h128
                refine q_putI dX8_findStirs_67 fl8_109 (kR12 hS121.1 ta0) (Or.inl rfl) hS121 ta0 (by show (0 : Int) ≤ v127.toInt ∧ v127.toInt ≤ (240 : Int); omega) rfl (by decide +kernel) ?_
                intro I129 hS130 e131 f132
                refine q_iincE dX8_findStirs_70 hl43 (by decide) (by decide) (by intros; omega) ?_
                intro v133 h134
                refine tr_goto 7 dX8_findStirs_73 (by decide) ?_
                exact ih52 _ v133 I129 v127 hl41 hl42 rfl hS130 e131 (by omega) (by omega) (by omega) ((rw51.pu f122 (s := 11) (by omega) (by omega) d28 ta27 (by decide)).po f132 rfl ta0) (by omega)
  exact lp52 _ _ v38 I34 v32 rfl rfl rfl hS35 e36 (by omega) (by omega) (by omega) ((FrS.rf (R := R0) (sk := a0) (T := T)).po f37 rfl ta0) (Nat.lt_succ_self _)
def wik_X8_layCloud : List Nat := [2431]
def wrk_X8_layCloud : List Nat := []
set_option maxHeartbeats 4000000 in
theorem fk_X8_layCloud {l : Launch} {T : Nat → Nat} {cn : Nat} {K N : Nat → Nat} {I0 : cz_I} {R0 : cz_R} {L0 : cz_L} {d : Int} (hW0 : Wf T cn K N I0 R0 d)  {a0 : Nat} (ta0 : T a0 = 12) {x1 : Int32} (hx1 : 0 ≤ x1.toInt ∧ x1.toInt ≤ 240) {x2 : Int32} (hx2 : 0 ≤ x2.toInt ∧ x2.toInt ≤ 240) : ConE l mX8_layCloud [.ref a0, .int x1, .int x2] cn K N I0 R0 L0 (ca_v (fun cn' K' N' I' R' L' => cn = cn' ∧ K = K' ∧ N = N' ∧ R0 = R' ∧ L0 = L' ∧ St T cn K N d wik_X8_layCloud wrk_X8_layCloud I0 R0 I' R0 ∧ (∀ r, R0 a0 4 = some r → LyI I0 I' r x1.toInt x2.toInt) ∧ (FrS R0 a0 T I0 I') ∧ True)) := by
  refine ConE.of (by decide +kernel) rfl (Nat.le_of_ble_eq_true rfl) rfl (fun X hX hZ hE => ?_)
  subst hX
  have hS0 : St T cn K N d wik_X8_layCloud wrk_X8_layCloud I0 R0 I0 R0 := St.rf0 hW0
  obtain ⟨a11, d12, ta11⟩ := rf12_2 hW0 ta0
  obtain ⟨a13, d14, ta13⟩ := rf12_3 hW0 ta0
  obtain ⟨a15, d16, ta15⟩ := rf12_4 hW0 ta0
  obtain ⟨a17, d18, ta17⟩ := rf12_5 hW0 ta0
  obtain ⟨a19, d20, ta19⟩ := rf12_6 hW0 ta0
  obtain ⟨a21, d22, ta21⟩ := rf12_7 hW0 ta0
  obtain ⟨a23, d24, ta23⟩ := rf12_8 hW0 ta0
  obtain ⟨a25, d26, ta25⟩ := rf12_9 hW0 ta0
  obtain ⟨a27, d28, ta27⟩ := rf12_11 hW0 ta0
  refine tr_iload_n dX8_layCloud_0 rfl ?_
  refine tr_istore_n dX8_layCloud_1 (by decide) (by decide) ?_
  have lp41 : ∀ (fu : Nat) (ls : Nat → Option Value) (v29 : Int32) (I34 : cz_I), ls 0 = some (.ref a0) → ls 1 = some (.int x1) → ls 2 = some (.int x2) → ls 3 = some (.int v29) → St T cn K N d wik_X8_layCloud wrk_X8_layCloud I0 R0 I34 R0 → 0 ≤ v29.toInt → x1.toInt ≤ v29.toInt → (v29.toInt ≤ x2.toInt ∨ v29.toInt = x1.toInt) → (LyI I0 I34 a15 x1.toInt v29.toInt) → (FrS R0 a0 T I0 I34) → (-v29.toInt + 2147483647).toNat < fu → Tr X mX8_layCloud 2 ls [] cn K N I34 R0 L0 0 0 := by
    intro fu
    induction fu with
    | zero => intros; rename_i hz; exact absurd hz (Nat.not_lt_zero _)
    | succ fu ih41 =>
      intro ls v29 I34 hl30 hl31 hl32 hl33 hS35 g36 g37 g38 rw39 rw40 hm41
      refine tr_iload_n dX8_layCloud_2 hl33 ?_
      refine tr_iload_n dX8_layCloud_3 hl32 ?_
      refine q_icmp_ge 20 dX8_layCloud_4 (by decide) (fun h43 => ?_) (fun h43 => ?_)
      · skip
        exact tr_vret hZ dX8_layCloud_20 rfl (by decide) (by decide) ⟨rfl, rfl, rfl, rfl, rfl, rfl, hS35, (fun r hr => by obtain rfl := Option.some.inj (d16.symm.trans hr); exact LyI.fin rw39 (by omega) (by omega)), rw40, trivial⟩
      · skip
        refine tr_aload_n dX8_layCloud_7 hl30 ?_
        refine tr_getR dX8_layCloud_8 fl8_18 (kR12 hS35.1 ta0) d16 ?_
        refine tr_iload_n dX8_layCloud_11 hl33 ?_
        refine q_iconst dX8_layCloud_12 (by decide) ?_
        intro v44 h45
        refine q_zastE dX8_layCloud_13 (kR37 hS35.1 ta15) (ti_in (nR37 hS35.1 ta15) (by omega) (by omega)) hS35 ta15 (by omega) rfl rfl (by rfl) ?_
        intro I46 hS47 e49 f48
        refine q_iincE dX8_layCloud_14 hl33 (by decide) (by decide) (by intros; omega) ?_
        intro v50 h51
        refine tr_goto 2 dX8_layCloud_17 (by decide) ?_
        exact ih41 _ v50 I46 hl30 hl31 hl32 rfl hS47 (by omega) (by omega) (by omega) (LyI.stp (ix := v29.toNatClampNeg) rw39 (ti_nat (by omega)) (by omega) (by omega) (Eq.trans e49 (Int32.toInt_inj.mp ((show v44.toInt = 1 by omega).trans rfl))) (fun k hk => (f48 _ _ (fun q => hk q.2)))) (rw40.pu f48 (s := 4) (by omega) (by omega) d16 ta15 (by decide)) (by omega)
  exact lp41 _ _ x1 I0 rfl rfl rfl rfl hS0 (by omega) (by omega) (by omega) (LyI.z (fun _ => rfl) (by omega)) (FrS.rf (R := R0) (sk := a0) (T := T)) (Nat.lt_succ_self _)
def wik_X8_layEvent : List Nat := [2303, 2367, 2431, 2495, 2623]
def wrk_X8_layEvent : List Nat := []
set_option maxHeartbeats 4000000 in
theorem fk_X8_layEvent {l : Launch} {T : Nat → Nat} {cn : Nat} {K N : Nat → Nat} {I0 : cz_I} {R0 : cz_R} {L0 : cz_L} {d : Int} (hW0 : Wf T cn K N I0 R0 d)  {a0 : Nat} (ta0 : T a0 = 12) {a1 : Nat} (ta1 : T a1 = 3) (pre0 : 0 ≤ (I0 a1 0).toInt) (pre1 : (I0 a1 0).toInt ≤ 4) : ConE l mX8_layEvent [.ref a0, .ref a1] cn K N I0 R0 L0 (ca_v (fun cn' K' N' I' R' L' => cn = cn' ∧ K = K' ∧ N = N' ∧ R0 = R' ∧ L0 = L' ∧ St T cn K N d wik_X8_layEvent wrk_X8_layEvent I0 R0 I' R0 ∧ (∀ r, R0 a0 2 = some r → LyI I0 I' r (I0 a1 2).toInt (if (I0 a1 0).toInt = 1 then (I0 a1 3).toInt else (I0 a1 2).toInt)) ∧ (∀ r, R0 a0 3 = some r → LyI I0 I' r (I0 a1 2).toInt (if (I0 a1 0).toInt = 4 then (I0 a1 3).toInt else (I0 a1 2).toInt)) ∧ (∀ r, R0 a0 4 = some r → LyI I0 I' r (I0 a1 2).toInt (if (I0 a1 0).toInt = 0 then (I0 a1 3).toInt else (I0 a1 2).toInt)) ∧ (∀ r, R0 a0 5 = some r → LyB I0 I' r (I0 a1 2).toInt (if (I0 a1 0).toInt = 3 then (I0 a1 3).toInt else (I0 a1 2).toInt) (I0 a1 1)) ∧ (∀ r, R0 a0 7 = some r → LyB I0 I' r (I0 a1 2).toInt (if (I0 a1 0).toInt = 2 then (I0 a1 3).toInt else (I0 a1 2).toInt) (I0 a1 1)) ∧ (FrS R0 a0 T I0 I') ∧ True)) := by
  refine ConE.of (by decide +kernel) rfl (Nat.le_of_ble_eq_true rfl) rfl (fun X hX hZ hE => ?_)
  subst hX
  have hS0 : St T cn K N d wik_X8_layEvent wrk_X8_layEvent I0 R0 I0 R0 := St.rf0 hW0
  obtain ⟨v11, c12⟩ : ∃ v, I0 a1 0 = v := ⟨_, rfl⟩
  have p13 := pre0
  rw [c12] at p13
  have p14 := pre1
  rw [c12] at p14
  obtain ⟨a15, d16, ta15⟩ := rf12_2 hW0 ta0
  obtain ⟨a17, d18, ta17⟩ := rf12_3 hW0 ta0
  obtain ⟨a19, d20, ta19⟩ := rf12_4 hW0 ta0
  obtain ⟨a21, d22, ta21⟩ := rf12_5 hW0 ta0
  obtain ⟨a23, d24, ta23⟩ := rf12_6 hW0 ta0
  obtain ⟨a25, d26, ta25⟩ := rf12_7 hW0 ta0
  obtain ⟨a27, d28, ta27⟩ := rf12_8 hW0 ta0
  obtain ⟨a29, d30, ta29⟩ := rf12_9 hW0 ta0
  obtain ⟨a31, d32, ta31⟩ := rf12_11 hW0 ta0
  obtain ⟨v33, c34⟩ : ∃ v, I0 a1 1 = v := ⟨_, rfl⟩
  obtain ⟨v35, c36⟩ : ∃ v, I0 a1 2 = v := ⟨_, rfl⟩
  have b37 := iv3_2 hW0 ta1 c36
  obtain ⟨v38, c39⟩ : ∃ v, I0 a1 3 = v := ⟨_, rfl⟩
  have b40 := iv3_3 hW0 ta1 c39
  refine tr_aload_n dX8_layEvent_0 rfl ?_
  refine q_getI dX8_layEvent_1 fl8_93 (kR3 hS0.1 ta1) c36 ?_
  refine tr_istore_n dX8_layEvent_4 (by decide) (by decide) ?_
  have lp55 : ∀ (fu : Nat) (ls : Nat → Option Value) (v41 : Int32) (I45 : cz_I), ls 0 = some (.ref a0) → ls 1 = some (.ref a1) → ls 2 = some (.int v41) → St T cn K N d wik_X8_layEvent wrk_X8_layEvent I0 R0 I45 R0 → 0 ≤ v41.toInt → (LyI I0 I45 a15 v35.toInt (if v11.toInt = 1 then v41.toInt else v35.toInt)) → (LyI I0 I45 a17 v35.toInt (if v11.toInt = 4 then v41.toInt else v35.toInt)) → (LyI I0 I45 a19 v35.toInt (if v11.toInt = 0 then v41.toInt else v35.toInt)) → (LyB I0 I45 a21 v35.toInt (if v11.toInt = 3 then v41.toInt else v35.toInt) v33) → (LyB I0 I45 a25 v35.toInt (if v11.toInt = 2 then v41.toInt else v35.toInt) v33) → (FrS R0 a0 T I0 I45) → (v35.toInt ≤ v41.toInt ∧ (v41.toInt ≤ v38.toInt ∨ v41.toInt = v35.toInt)) → (-v41.toInt + 2147483647).toNat < fu → Tr X mX8_layEvent 5 ls [] cn K N I45 R0 L0 0 0 := by
    intro fu
    induction fu with
    | zero => intros; rename_i hz; exact absurd hz (Nat.not_lt_zero _)
    | succ fu ih55 =>
      intro ls v41 I45 hl42 hl43 hl44 hS46 g47 rw48 rw49 rw50 rw51 rw52 rw53 rw54 hm55
      refine tr_iload_n dX8_layEvent_5 hl44 ?_
      refine tr_aload_n dX8_layEvent_6 hl43 ?_
      refine q_getI dX8_layEvent_7 fl8_97 (kR3 hS46.1 ta1) ((hS46.cell ta1 (by decide +kernel)).trans c39) ?_
      refine q_icmp_ge 117 dX8_layEvent_10 (by decide) (fun h57 => ?_) (fun h57 => ?_)
      · skip
        exact tr_vret hZ dX8_layEvent_117 rfl (by decide) (by decide) ⟨rfl, rfl, rfl, rfl, rfl, rfl, hS46, (fun r hr => by obtain rfl := Option.some.inj (d16.symm.trans hr); rw [c12, c36, c39]; exact LyI.fif rw48 (by omega) (by omega)), (fun r hr => by obtain rfl := Option.some.inj (d18.symm.trans hr); rw [c12, c36, c39]; exact LyI.fif rw49 (by omega) (by omega)), (fun r hr => by obtain rfl := Option.some.inj (d20.symm.trans hr); rw [c12, c36, c39]; exact LyI.fif rw50 (by omega) (by omega)), (fun r hr => by obtain rfl := Option.some.inj (d22.symm.trans hr); rw [c12, c34, c36, c39]; exact LyB.fif rw51 (by omega) (by omega)), (fun r hr => by obtain rfl := Option.some.inj (d26.symm.trans hr); rw [c12, c34, c36, c39]; exact LyB.fif rw52 (by omega) (by omega)), rw53, trivial⟩
      · skip
        refine tr_aload_n dX8_layEvent_13 hl43 ?_
        refine q_getI dX8_layEvent_14 fl8_99 (kR3 hS46.1 ta1) ((hS46.cell ta1 (by decide +kernel)).trans c12) ?_
        by_cases h58 : v11.toInt = 0
        · skip
          refine tr_tabIn (off := 31) 48 dX8_layEvent_17 (by omega) (by omega) (by rw [h58]; decide +kernel) (by decide) ?_
          refine tr_aload_n dX8_layEvent_48 hl42 ?_
          refine tr_getR dX8_layEvent_49 fl8_18 (kR12 hS46.1 ta0) d20 ?_
          refine tr_iload_n dX8_layEvent_52 hl44 ?_
          refine q_iconst dX8_layEvent_53 (by decide) ?_
          intro v59 h60
          refine q_zastE dX8_layEvent_54 (kR37 hS46.1 ta19) (ti_in (nR37 hS46.1 ta19) (by omega) (by omega)) hS46 ta19 (by omega) rfl rfl (by rfl) ?_
          intro I61 hS62 e64 f63
          refine tr_goto 111 dX8_layEvent_55 (by decide) ?_
          refine q_iincE dX8_layEvent_111 hl44 (by decide) (by decide) (by intros; omega) ?_
          intro v65 h66
          refine tr_goto 5 dX8_layEvent_114 (by decide) ?_
          exact ih55 _ v65 I61 hl42 hl43 rfl hS62 (by omega) (by have z := rw48; rw [if_neg (by omega)] at z ⊢; exact z.kp (fun m => (f63 _ _ (fun q => by have z := ta15; rw [q.1, ta19] at z; exact absurd z (by decide))))) (by have z := rw49; rw [if_neg (by omega)] at z ⊢; exact z.kp (fun m => (f63 _ _ (fun q => by have z := ta17; rw [q.1, ta19] at z; exact absurd z (by decide))))) (by have z := rw50; rw [if_pos (by omega)] at z ⊢; exact LyI.stp (ix := v41.toNatClampNeg) z (ti_nat (by omega)) (by omega) (by omega) (Eq.trans e64 (Int32.toInt_inj.mp ((show v59.toInt = 1 by omega).trans rfl))) (fun k hk => (f63 _ _ (fun q => hk q.2)))) (by have z := rw51; rw [if_neg (by omega)] at z ⊢; exact z.kp (fun m => (f63 _ _ (fun q => by have z := ta21; rw [q.1, ta19] at z; exact absurd z (by decide))))) (by have z := rw52; rw [if_neg (by omega)] at z ⊢; exact z.kp (fun m => (f63 _ _ (fun q => by have z := ta25; rw [q.1, ta19] at z; exact absurd z (by decide))))) (rw53.pu f63 (s := 4) (by omega) (by omega) d20 ta19 (by decide)) (by omega) (by omega)
        · skip
          by_cases h67 : v11.toInt = 1
          · skip
            refine tr_tabIn (off := 41) 58 dX8_layEvent_17 (by omega) (by omega) (by rw [h67]; decide +kernel) (by decide) ?_
            refine tr_aload_n dX8_layEvent_58 hl42 ?_
            refine tr_getR dX8_layEvent_59 fl8_9 (kR12 hS46.1 ta0) d16 ?_
            refine tr_iload_n dX8_layEvent_62 hl44 ?_
            refine q_iconst dX8_layEvent_63 (by decide) ?_
            intro v68 h69
            refine q_zastE dX8_layEvent_64 (kR35 hS46.1 ta15) (ti_in (nR35 hS46.1 ta15) (by omega) (by omega)) hS46 ta15 (by omega) rfl rfl (by rfl) ?_
            intro I70 hS71 e73 f72
            refine tr_goto 111 dX8_layEvent_65 (by decide) ?_
            refine q_iincE dX8_layEvent_111 hl44 (by decide) (by decide) (by intros; omega) ?_
            intro v74 h75
            refine tr_goto 5 dX8_layEvent_114 (by decide) ?_
            exact ih55 _ v74 I70 hl42 hl43 rfl hS71 (by omega) (by have z := rw48; rw [if_pos (by omega)] at z ⊢; exact LyI.stp (ix := v41.toNatClampNeg) z (ti_nat (by omega)) (by omega) (by omega) (Eq.trans e73 (Int32.toInt_inj.mp ((show v68.toInt = 1 by omega).trans rfl))) (fun k hk => (f72 _ _ (fun q => hk q.2)))) (by have z := rw49; rw [if_neg (by omega)] at z ⊢; exact z.kp (fun m => (f72 _ _ (fun q => by have z := ta17; rw [q.1, ta15] at z; exact absurd z (by decide))))) (by have z := rw50; rw [if_neg (by omega)] at z ⊢; exact z.kp (fun m => (f72 _ _ (fun q => by have z := ta19; rw [q.1, ta15] at z; exact absurd z (by decide))))) (by have z := rw51; rw [if_neg (by omega)] at z ⊢; exact z.kp (fun m => (f72 _ _ (fun q => by have z := ta21; rw [q.1, ta15] at z; exact absurd z (by decide))))) (by have z := rw52; rw [if_neg (by omega)] at z ⊢; exact z.kp (fun m => (f72 _ _ (fun q => by have z := ta25; rw [q.1, ta15] at z; exact absurd z (by decide))))) (rw53.pu f72 (s := 2) (by omega) (by omega) d16 ta15 (by decide)) (by omega) (by omega)
          · skip
            by_cases h76 : v11.toInt = 2
            · skip
              refine tr_tabIn (off := 51) 68 dX8_layEvent_17 (by omega) (by omega) (by rw [h76]; decide +kernel) (by decide) ?_
              refine tr_aload_n dX8_layEvent_68 hl42 ?_
              refine tr_getR dX8_layEvent_69 fl8_28 (kR12 hS46.1 ta0) d26 ?_
              refine tr_iload_n dX8_layEvent_72 hl44 ?_
              refine tr_dup2 dX8_layEvent_73 rfl rfl ?_
              refine q_iald dX8_layEvent_74 (kR40 hS46.1 ta25) (ti_in (nR40 hS46.1 ta25) (by omega) (by omega)) ?_
              intro v77 c78
              refine q_iconst dX8_layEvent_75 (by decide) ?_
              intro v79 h80
              refine tr_aload_n dX8_layEvent_76 hl43 ?_
              refine q_getI dX8_layEvent_77 fl8_102 (kR3 hS46.1 ta1) ((hS46.cell ta1 (by decide +kernel)).trans c34) ?_
              refine tr_ishl dX8_layEvent_80 ?_
              obtain ⟨v81, lx82⟩ : ∃ z, z = v79 <<< (v33 &&& 31) := ⟨_, rfl⟩
              rw [← lx82]
              refine tr_ior dX8_layEvent_81 ?_
              obtain ⟨v83, lx84⟩ : ∃ z, z = v77 ||| v81 := ⟨_, rfl⟩
              rw [← lx84]
              refine q_iast dX8_layEvent_82 (kR40 hS46.1 ta25) (ti_in (nR40 hS46.1 ta25) (by omega) (by omega)) hS46 ta25 (iokF rfl) rfl (by rfl) ?_
              intro I85 hS86 e88 f87
              refine tr_goto 111 dX8_layEvent_83 (by decide) ?_
              refine q_iincE dX8_layEvent_111 hl44 (by decide) (by decide) (by intros; omega) ?_
              intro v89 h90
              refine tr_goto 5 dX8_layEvent_114 (by decide) ?_
              exact ih55 _ v89 I85 hl42 hl43 rfl hS86 (by omega) (by have z := rw48; rw [if_neg (by omega)] at z ⊢; exact z.kp (fun m => (f87 _ _ (fun q => by have z := ta15; rw [q.1, ta25] at z; exact absurd z (by decide))))) (by have z := rw49; rw [if_neg (by omega)] at z ⊢; exact z.kp (fun m => (f87 _ _ (fun q => by have z := ta17; rw [q.1, ta25] at z; exact absurd z (by decide))))) (by have z := rw50; rw [if_neg (by omega)] at z ⊢; exact z.kp (fun m => (f87 _ _ (fun q => by have z := ta19; rw [q.1, ta25] at z; exact absurd z (by decide))))) (by have z := rw51; rw [if_neg (by omega)] at z ⊢; exact z.kp (fun m => (f87 _ _ (fun q => by have z := ta21; rw [q.1, ta25] at z; exact absurd z (by decide))))) (by have z := rw52; rw [if_pos (by omega)] at z ⊢; exact LyB.stp (ix := v41.toNatClampNeg) (o := v79) z (ti_nat (by omega)) (by omega) (by omega) c78 (by omega) (Eq.trans e88 (lx84.trans (by rw [lx82]))) (fun k hk => (f87 _ _ (fun q => hk q.2)))) (rw53.pu f87 (s := 7) (by omega) (by omega) d26 ta25 (by decide)) (by omega) (by omega)
            · skip
              by_cases h91 : v11.toInt = 3
              · skip
                refine tr_tabIn (off := 69) 86 dX8_layEvent_17 (by omega) (by omega) (by rw [h91]; decide +kernel) (by decide) ?_
                refine tr_aload_n dX8_layEvent_86 hl42 ?_
                refine tr_getR dX8_layEvent_87 fl8_21 (kR12 hS46.1 ta0) d22 ?_
                refine tr_iload_n dX8_layEvent_90 hl44 ?_
                refine tr_dup2 dX8_layEvent_91 rfl rfl ?_
                refine q_iald dX8_layEvent_92 (kR38 hS46.1 ta21) (ti_in (nR38 hS46.1 ta21) (by omega) (by omega)) ?_
                intro v92 c93
                refine q_iconst dX8_layEvent_93 (by decide) ?_
                intro v94 h95
                refine tr_aload_n dX8_layEvent_94 hl43 ?_
                refine q_getI dX8_layEvent_95 fl8_102 (kR3 hS46.1 ta1) ((hS46.cell ta1 (by decide +kernel)).trans c34) ?_
                refine tr_ishl dX8_layEvent_98 ?_
                obtain ⟨v96, lx97⟩ : ∃ z, z = v94 <<< (v33 &&& 31) := ⟨_, rfl⟩
                rw [← lx97]
                refine tr_ior dX8_layEvent_99 ?_
                obtain ⟨v98, lx99⟩ : ∃ z, z = v92 ||| v96 := ⟨_, rfl⟩
                rw [← lx99]
                refine q_iast dX8_layEvent_100 (kR38 hS46.1 ta21) (ti_in (nR38 hS46.1 ta21) (by omega) (by omega)) hS46 ta21 (iokF rfl) rfl (by rfl) ?_
                intro I100 hS101 e103 f102
                refine tr_goto 111 dX8_layEvent_101 (by decide) ?_
                refine q_iincE dX8_layEvent_111 hl44 (by decide) (by decide) (by intros; omega) ?_
                intro v104 h105
                refine tr_goto 5 dX8_layEvent_114 (by decide) ?_
                exact ih55 _ v104 I100 hl42 hl43 rfl hS101 (by omega) (by have z := rw48; rw [if_neg (by omega)] at z ⊢; exact z.kp (fun m => (f102 _ _ (fun q => by have z := ta15; rw [q.1, ta21] at z; exact absurd z (by decide))))) (by have z := rw49; rw [if_neg (by omega)] at z ⊢; exact z.kp (fun m => (f102 _ _ (fun q => by have z := ta17; rw [q.1, ta21] at z; exact absurd z (by decide))))) (by have z := rw50; rw [if_neg (by omega)] at z ⊢; exact z.kp (fun m => (f102 _ _ (fun q => by have z := ta19; rw [q.1, ta21] at z; exact absurd z (by decide))))) (by have z := rw51; rw [if_pos (by omega)] at z ⊢; exact LyB.stp (ix := v41.toNatClampNeg) (o := v94) z (ti_nat (by omega)) (by omega) (by omega) c93 (by omega) (Eq.trans e103 (lx99.trans (by rw [lx97]))) (fun k hk => (f102 _ _ (fun q => hk q.2)))) (by have z := rw52; rw [if_neg (by omega)] at z ⊢; exact z.kp (fun m => (f102 _ _ (fun q => by have z := ta25; rw [q.1, ta21] at z; exact absurd z (by decide))))) (rw53.pu f102 (s := 5) (by omega) (by omega) d22 ta21 (by decide)) (by omega) (by omega)
              · skip
                refine tr_tabOut 104 dX8_layEvent_17 (by omega) (by decide) ?_
                refine tr_aload_n dX8_layEvent_104 hl42 ?_
                refine tr_getR dX8_layEvent_105 fl8_15 (kR12 hS46.1 ta0) d18 ?_
                refine tr_iload_n dX8_layEvent_108 hl44 ?_
                refine q_iconst dX8_layEvent_109 (by decide) ?_
                intro v106 h107
                refine q_zastE dX8_layEvent_110 (kR36 hS46.1 ta17) (ti_in (nR36 hS46.1 ta17) (by omega) (by omega)) hS46 ta17 (by omega) rfl rfl (by rfl) ?_
                intro I108 hS109 e111 f110
                refine q_iincE dX8_layEvent_111 hl44 (by decide) (by decide) (by intros; omega) ?_
                intro v112 h113
                refine tr_goto 5 dX8_layEvent_114 (by decide) ?_
                exact ih55 _ v112 I108 hl42 hl43 rfl hS109 (by omega) (by have z := rw48; rw [if_neg (by omega)] at z ⊢; exact z.kp (fun m => (f110 _ _ (fun q => by have z := ta15; rw [q.1, ta17] at z; exact absurd z (by decide))))) (by have z := rw49; rw [if_pos (by omega)] at z ⊢; exact LyI.stp (ix := v41.toNatClampNeg) z (ti_nat (by omega)) (by omega) (by omega) (Eq.trans e111 (Int32.toInt_inj.mp ((show v106.toInt = 1 by omega).trans rfl))) (fun k hk => (f110 _ _ (fun q => hk q.2)))) (by have z := rw50; rw [if_neg (by omega)] at z ⊢; exact z.kp (fun m => (f110 _ _ (fun q => by have z := ta19; rw [q.1, ta17] at z; exact absurd z (by decide))))) (by have z := rw51; rw [if_neg (by omega)] at z ⊢; exact z.kp (fun m => (f110 _ _ (fun q => by have z := ta21; rw [q.1, ta17] at z; exact absurd z (by decide))))) (by have z := rw52; rw [if_neg (by omega)] at z ⊢; exact z.kp (fun m => (f110 _ _ (fun q => by have z := ta25; rw [q.1, ta17] at z; exact absurd z (by decide))))) (rw53.pu f110 (s := 3) (by omega) (by omega) d18 ta17 (by decide)) (by omega) (by omega)
  exact lp55 _ _ v35 I0 rfl rfl rfl hS0 (by omega) (LyI.z (fun _ => rfl) (by split <;> omega)) (LyI.z (fun _ => rfl) (by split <;> omega)) (LyI.z (fun _ => rfl) (by split <;> omega)) (LyB.z (fun _ => rfl) (by split <;> omega)) (LyB.z (fun _ => rfl) (by split <;> omega)) (FrS.rf (R := R0) (sk := a0) (T := T)) (by omega) (Nat.lt_succ_self _)
