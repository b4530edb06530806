def wik_J7_fill_53178_6 : List Nat := [3263]
def wrk_J7_fill_53178_6 : List Nat := []
set_option maxHeartbeats 4000000 in
theorem fk_J7_fill_53178_6 {l : Launch} {T : Nat → Nat} {cn : Nat} {K N : Nat → Nat} {I0 : cz_I} {R0 : cz_R} {L0 : cz_L} {d : Int} (hW0 : Wf T cn K N I0 R0 d)  {a0 : Nat} (ta0 : T a0 = 50) {x1 : Int32} : ConE l mJ7_fill_53178 [.ref a0, .int x1] cn K N I0 R0 L0 (ca_v (fun cn' K' N' I' R' L' => cn = cn' ∧ K = K' ∧ N = N' ∧ R0 = R' ∧ L0 = L' ∧ St T cn K N d wik_J7_fill_53178_6 wrk_J7_fill_53178_6 I0 R0 I' R0 ∧ (∀ j : Nat, j < 5 → I' a0 j = x1) ∧ (∀ a j, ¬ a = a0 → I' a j = I0 a j) ∧ True)) := by
  refine ConE.of (by decide +kernel) rfl (Nat.le_of_ble_eq_true rfl) rfl (fun X hX hZ hE => ?_)
  subst hX
  have hS0 : St T cn K N d wik_J7_fill_53178_6 wrk_J7_fill_53178_6 I0 R0 I0 R0 := St.rf0 hW0
  refine q_iconst dJ7_fill_53178_0 (by decide) ?_
  intro v1 h2
  refine tr_istore_n dJ7_fill_53178_1 (by decide) (by decide) ?_
  refine tr_aload_n dJ7_fill_53178_2 rfl ?_
  refine q_alen dJ7_fill_53178_3 (kR50 hS0.1 ta0) (by decide) (by decide) (nR50 hS0.1 ta0) (by decide +kernel) ?_
  intro v3 h4
  refine tr_istore_n dJ7_fill_53178_4 (by decide) (by decide) ?_
  have lp16 : ∀ (fu : Nat) (ls : Nat → Option Value) (v5 : Int32) (I10 : cz_I), ls 0 = some (.ref a0) → ls 1 = some (.int x1) → ls 2 = some (.int v5) → ls 3 = some (.int v3) → St T cn K N d wik_J7_fill_53178_6 wrk_J7_fill_53178_6 I0 R0 I10 R0 → 0 ≤ v5.toInt → v5.toInt ≤ 5 → v3.toInt = 5 → ((∀ j : Nat, (j : Int) < v5.toInt → I10 a0 j = x1) ∧ ∀ a j, ¬ a = a0 → I10 a j = I0 a j) → (-v5.toInt + 2147483647).toNat < fu → Tr X mJ7_fill_53178 5 ls [] cn K N I10 R0 L0 0 0 := by
    intro fu
    induction fu with
    | zero => intros; rename_i hz; exact absurd hz (Nat.not_lt_zero _)
    | succ fu ih16 =>
      intro ls v5 I10 hl6 hl7 hl8 hl9 hS11 g12 g13 g14 rw15 hm16
      refine tr_iload_n dJ7_fill_53178_5 hl8 ?_
      refine tr_iload_n dJ7_fill_53178_6 hl9 ?_
      refine q_icmp_ge 20 dJ7_fill_53178_7 (by decide) (fun h18 => ?_) (fun h18 => ?_)
      · skip
        exact tr_vret hZ dJ7_fill_53178_20 rfl (by decide) (by decide) ⟨rfl, rfl, rfl, rfl, rfl, rfl, hS11, (fun j hj => rw15.1 j (by omega)), rw15.2, trivial⟩
      · skip
        refine tr_aload_n dJ7_fill_53178_10 hl6 ?_
        refine tr_iload_n dJ7_fill_53178_11 hl8 ?_
        refine tr_iload_n dJ7_fill_53178_12 hl7 ?_
        refine q_iast dJ7_fill_53178_13 (kR50 hS11.1 ta0) (ti_in (nR50 hS11.1 ta0) (by omega) (by omega)) hS11 ta0 (iokF rfl) rfl (by rfl) ?_
        intro I19 hS20 e22 f21
        refine q_iincE dJ7_fill_53178_14 hl8 (by decide) (by decide) (by intros; omega) ?_
        intro v23 h24
        refine tr_goto 5 dJ7_fill_53178_17 (by decide) ?_
        exact ih16 _ v23 I19 hl6 hl7 rfl hl9 hS20 (by omega) (by omega) (by omega) ⟨fun j hj => by by_cases z : (j : Int) < v5.toInt; exact (f21 _ _ (fun q => by have y := q.2; have y2 := ti_nat (i := v5) (by omega); omega)).trans (rw15.1 j z); have y2 := ti_nat (i := v5) (by omega); obtain rfl : j = v5.toNatClampNeg := (by omega); exact e22, fun a j ha => (f21 _ _ (fun q => ha q.1)).trans (rw15.2 a j ha)⟩ (by omega)
  exact lp16 _ _ v1 I0 rfl rfl rfl rfl hS0 (by omega) (by omega) (by omega) ⟨fun j hj => by exfalso; omega, fun _ _ _ => rfl⟩ (Nat.lt_succ_self _)
def wik_J7_fill_53178_7 : List Nat := [3327]
def wrk_J7_fill_53178_7 : List Nat := []
set_option maxHeartbeats 4000000 in
theorem fk_J7_fill_53178_7 {l : Launch} {T : Nat → Nat} {cn : Nat} {K N : Nat → Nat} {I0 : cz_I} {R0 : cz_R} {L0 : cz_L} {d : Int} (hW0 : Wf T cn K N I0 R0 d)  {a0 : Nat} (ta0 : T a0 = 51) {x1 : Int32} : ConE l mJ7_fill_53178 [.ref a0, .int x1] cn K N I0 R0 L0 (ca_v (fun cn' K' N' I' R' L' => cn = cn' ∧ K = K' ∧ N = N' ∧ R0 = R' ∧ L0 = L' ∧ St T cn K N d wik_J7_fill_53178_7 wrk_J7_fill_53178_7 I0 R0 I' R0 ∧ (∀ j : Nat, j < 5 → I' a0 j = x1) ∧ (∀ a j, ¬ a = a0 → I' a j = I0 a j) ∧ True)) := by
  refine ConE.of (by decide +kernel) rfl (Nat.le_of_ble_eq_true rfl) rfl (fun X hX hZ hE => ?_)
  subst hX
  have hS0 : St T cn K N d wik_J7_fill_53178_7 wrk_J7_fill_53178_7 I0 R0 I0 R0 := St.rf0 hW0
  refine q_iconst dJ7_fill_53178_0 (by decide) ?_
  intro v1 h2
  refine tr_istore_n dJ7_fill_53178_1 (by decide) (by decide) ?_
  refine tr_aload_n dJ7_fill_53178_2 rfl ?_
  refine q_alen dJ7_fill_53178_3 (kR51 hS0.1 ta0) (by decide) (by decide) (nR51 hS0.1 ta0) (by decide +kernel) ?_
  intro v3 h4
  refine tr_istore_n dJ7_fill_53178_4 (by decide) (by decide) ?_
  have lp16 : ∀ (fu : Nat) (ls : Nat → Option Value) (v5 : Int32) (I10 : cz_I), ls 0 = some (.ref a0) → ls 1 = some (.int x1) → ls 2 = some (.int v5) → ls 3 = some (.int v3) → St T cn K N d wik_J7_fill_53178_7 wrk_J7_fill_53178_7 I0 R0 I10 R0 → 0 ≤ v5.toInt → v5.toInt ≤ 5 → v3.toInt = 5 → ((∀ j : Nat, (j : Int) < v5.toInt → I10 a0 j = x1) ∧ ∀ a j, ¬ a = a0 → I10 a j = I0 a j) → (-v5.toInt + 2147483647).toNat < fu → Tr X mJ7_fill_53178 5 ls [] cn K N I10 R0 L0 0 0 := by
    intro fu
    induction fu with
    | zero => intros; rename_i hz; exact absurd hz (Nat.not_lt_zero _)
    | succ fu ih16 =>
      intro ls v5 I10 hl6 hl7 hl8 hl9 hS11 g12 g13 g14 rw15 hm16
      refine tr_iload_n dJ7_fill_53178_5 hl8 ?_
      refine tr_iload_n dJ7_fill_53178_6 hl9 ?_
      refine q_icmp_ge 20 dJ7_fill_53178_7 (by decide) (fun h18 => ?_) (fun h18 => ?_)
      · skip
        exact tr_vret hZ dJ7_fill_53178_20 rfl (by decide) (by decide) ⟨rfl, rfl, rfl, rfl, rfl, rfl, hS11, (fun j hj => rw15.1 j (by omega)), rw15.2, trivial⟩
      · skip
        refine tr_aload_n dJ7_fill_53178_10 hl6 ?_
        refine tr_iload_n dJ7_fill_53178_11 hl8 ?_
        refine tr_iload_n dJ7_fill_53178_12 hl7 ?_
        refine q_iast dJ7_fill_53178_13 (kR51 hS11.1 ta0) (ti_in (nR51 hS11.1 ta0) (by omega) (by omega)) hS11 ta0 (iokF rfl) rfl (by rfl) ?_
        intro I19 hS20 e22 f21
        refine q_iincE dJ7_fill_53178_14 hl8 (by decide) (by decide) (by intros; omega) ?_
        intro v23 h24
        refine tr_goto 5 dJ7_fill_53178_17 (by decide) ?_
        exact ih16 _ v23 I19 hl6 hl7 rfl hl9 hS20 (by omega) (by omega) (by omega) ⟨fun j hj => by by_cases z : (j : Int) < v5.toInt; exact (f21 _ _ (fun q => by have y := q.2; have y2 := ti_nat (i := v5) (by omega); omega)).trans (rw15.1 j z); have y2 := ti_nat (i := v5) (by omega); obtain rfl : j = v5.toNatClampNeg := (by omega); exact e22, fun a j ha => (f21 _ _ (fun q => ha q.1)).trans (rw15.2 a j ha)⟩ (by omega)
  exact lp16 _ _ v1 I0 rfl rfl rfl rfl hS0 (by omega) (by omega) (by omega) ⟨fun j hj => by exfalso; omega, fun _ _ _ => rfl⟩ (Nat.lt_succ_self _)
def wik_J7_fill_53178_8 : List Nat := [3391]
def wrk_J7_fill_53178_8 : List Nat := []
set_option maxHeartbeats 4000000 in
theorem fk_J7_fill_53178_8 {l : Launch} {T : Nat → Nat} {cn : Nat} {K N : Nat → Nat} {I0 : cz_I} {R0 : cz_R} {L0 : cz_L} {d : Int} (hW0 : Wf T cn K N I0 R0 d)  {a0 : Nat} (ta0 : T a0 = 52) {x1 : Int32} : ConE l mJ7_fill_53178 [.ref a0, .int x1] cn K N I0 R0 L0 (ca_v (fun cn' K' N' I' R' L' => cn = cn' ∧ K = K' ∧ N = N' ∧ R0 = R' ∧ L0 = L' ∧ St T cn K N d wik_J7_fill_53178_8 wrk_J7_fill_53178_8 I0 R0 I' R0 ∧ (∀ j : Nat, j < 5 → I' a0 j = x1) ∧ (∀ a j, ¬ a = a0 → I' a j = I0 a j) ∧ True)) := by
  refine ConE.of (by decide +kernel) rfl (Nat.le_of_ble_eq_true rfl) rfl (fun X hX hZ hE => ?_)
  subst hX
  have hS0 : St T cn K N d wik_J7_fill_53178_8 wrk_J7_fill_53178_8 I0 R0 I0 R0 := St.rf0 hW0
  refine q_iconst dJ7_fill_53178_0 (by decide) ?_
  intro v1 h2
  refine tr_istore_n dJ7_fill_53178_1 (by decide) (by decide) ?_
  refine tr_aload_n dJ7_fill_53178_2 rfl ?_
  refine q_alen dJ7_fill_53178_3 (kR52 hS0.1 ta0) (by decide) (by decide) (nR52 hS0.1 ta0) (by decide +kernel) ?_
  intro v3 h4
  refine tr_istore_n dJ7_fill_53178_4 (by decide) (by decide) ?_
  have lp16 : ∀ (fu : Nat) (ls : Nat → Option Value) (v5 : Int32) (I10 : cz_I), ls 0 = some (.ref a0) → ls 1 = some (.int x1) → ls 2 = some (.int v5) → ls 3 = some (.int v3) → St T cn K N d wik_J7_fill_53178_8 wrk_J7_fill_53178_8 I0 R0 I10 R0 → 0 ≤ v5.toInt → v5.toInt ≤ 5 → v3.toInt = 5 → ((∀ j : Nat, (j : Int) < v5.toInt → I10 a0 j = x1) ∧ ∀ a j, ¬ a = a0 → I10 a j = I0 a j) → (-v5.toInt + 2147483647).toNat < fu → Tr X mJ7_fill_53178 5 ls [] cn K N I10 R0 L0 0 0 := by
    intro fu
    induction fu with
    | zero => intros; rename_i hz; exact absurd hz (Nat.not_lt_zero _)
    | succ fu ih16 =>
      intro ls v5 I10 hl6 hl7 hl8 hl9 hS11 g12 g13 g14 rw15 hm16
      refine tr_iload_n dJ7_fill_53178_5 hl8 ?_
      refine tr_iload_n dJ7_fill_53178_6 hl9 ?_
      refine q_icmp_ge 20 dJ7_fill_53178_7 (by decide) (fun h18 => ?_) (fun h18 => ?_)
      · skip
        exact tr_vret hZ dJ7_fill_53178_20 rfl (by decide) (by decide) ⟨rfl, rfl, rfl, rfl, rfl, rfl, hS11, (fun j hj => rw15.1 j (by omega)), rw15.2, trivial⟩
      · skip
        refine tr_aload_n dJ7_fill_53178_10 hl6 ?_
        refine tr_iload_n dJ7_fill_53178_11 hl8 ?_
        refine tr_iload_n dJ7_fill_53178_12 hl7 ?_
        refine q_iast dJ7_fill_53178_13 (kR52 hS11.1 ta0) (ti_in (nR52 hS11.1 ta0) (by omega) (by omega)) hS11 ta0 (iokF rfl) rfl (by rfl) ?_
        intro I19 hS20 e22 f21
        refine q_iincE dJ7_fill_53178_14 hl8 (by decide) (by decide) (by intros; omega) ?_
        intro v23 h24
        refine tr_goto 5 dJ7_fill_53178_17 (by decide) ?_
        exact ih16 _ v23 I19 hl6 hl7 rfl hl9 hS20 (by omega) (by omega) (by omega) ⟨fun j hj => by by_cases z : (j : Int) < v5.toInt; exact (f21 _ _ (fun q => by have y := q.2; have y2 := ti_nat (i := v5) (by omega); omega)).trans (rw15.1 j z); have y2 := ti_nat (i := v5) (by omega); obtain rfl : j = v5.toNatClampNeg := (by omega); exact e22, fun a j ha => (f21 _ _ (fun q => ha q.1)).trans (rw15.2 a j ha)⟩ (by omega)
  exact lp16 _ _ v1 I0 rfl rfl rfl rfl hS0 (by omega) (by omega) (by omega) ⟨fun j hj => by exfalso; omega, fun _ _ _ => rfl⟩ (Nat.lt_succ_self _)
def wik_X5_forget : List Nat := [2879, 2943, 3007, 3071, 3135, 3199, 3263, 3327, 3391]
def wrk_X5_forget : List Nat := []
set_option maxHeartbeats 4000000 in
theorem fk_X5_forget {l : Launch} {T : Nat → Nat} {cn : Nat} {K N : Nat → Nat} {I0 : cz_I} {R0 : cz_R} {L0 : cz_L} {d : Int} (hW0 : Wf T cn K N I0 R0 d)  {a0 : Nat} (ta0 : T a0 = 13) : ConE l mX5_forget [.ref a0] cn K N I0 R0 L0 (ca_v (fun cn' K' N' I' R' L' => cn = cn' ∧ K = K' ∧ N = N' ∧ R0 = R' ∧ L0 = L' ∧ St T cn K N d wik_X5_forget wrk_X5_forget I0 R0 I' R0 ∧ (∀ r, R0 a0 3 = some r → ∀ j : Nat, j < 240 → I' r j = 0) ∧ (∀ r, R0 a0 4 = some r → ∀ j : Nat, j < 8 → I' r j = 0) ∧ (∀ r, R0 a0 5 = some r → ∀ j : Nat, j < 8 → I' r j = 0) ∧ (∀ r, R0 a0 6 = some r → ∀ j : Nat, j < 8 → I' r j = 0) ∧ (∀ r, R0 a0 7 = some r → ∀ j : Nat, j < 8 → I' r j = 0) ∧ (∀ r, R0 a0 8 = some r → ∀ j : Nat, j < 5 → I' r j = 0) ∧ (∀ r, R0 a0 9 = some r → ∀ j : Nat, j < 5 → I' r j = 0) ∧ (∀ r, R0 a0 10 = some r → ∀ j : Nat, j < 5 → I' r j = 0) ∧ (∀ r, R0 a0 11 = some r → ∀ j : Nat, j < 5 → I' r j = 0) ∧ (FrN R0 a0 T I0 I') ∧ True)) := by
  refine ConE.of (by decide +kernel) rfl (Nat.le_of_ble_eq_true rfl) rfl (fun X hX hZ hE => ?_)
  subst hX
  have hS0 : St T cn K N d wik_X5_forget wrk_X5_forget I0 R0 I0 R0 := St.rf0 hW0
  obtain ⟨a1, d2, ta1⟩ := rf13_3 hW0 ta0
  obtain ⟨a3, d4, ta3⟩ := rf13_4 hW0 ta0
  obtain ⟨a5, d6, ta5⟩ := rf13_5 hW0 ta0
  obtain ⟨a7, d8, ta7⟩ := rf13_6 hW0 ta0
  obtain ⟨a9, d10, ta9⟩ := rf13_7 hW0 ta0
  obtain ⟨a11, d12, ta11⟩ := rf13_8 hW0 ta0
  obtain ⟨a13, d14, ta13⟩ := rf13_9 hW0 ta0
  obtain ⟨a15, d16, ta15⟩ := rf13_10 hW0 ta0
  obtain ⟨a17, d18, ta17⟩ := rf13_11 hW0 ta0
  refine tr_aload_n dX5_forget_0 rfl ?_
  refine tr_getR dX5_forget_1 fl5_9 (kR13 hS0.1 ta0) d2 ?_
  refine q_iconst dX5_forget_4 (by decide) ?_
  intro v19 h20
  refine q_callSv hE (M' := mJ7_fill_53178) (as := [_, _]) dX5_forget_5 lk5_75 inJ7_fill_53178 myJ7_fill_53178 ⟨by decide, by decide⟩ rfl (Nat.le_of_ble_eq_true rfl) rfl rfl (by decide) (by decide) (fk_J7_fill_53178 hS0.1  ta1) ?_
  rintro cn' K' N' I21 R22 L23 ⟨rfl, rfl, rfl, rfl, rfl, g24, rp27, rp28, -⟩
  have hS29 := hS0.tr g24 (by decide +kernel) (by decide +kernel)
  refine tr_aload_n dX5_forget_8 rfl ?_
  refine tr_getR dX5_forget_9 fl5_15 (kR13 hS29.1 ta0) d4 ?_
  refine q_iconst dX5_forget_12 (by decide) ?_
  intro v30 h31
  refine q_callSv hE (M' := mJ7_fill_53178) (as := [_, _]) dX5_forget_13 lk5_75 inJ7_fill_53178 myJ7_fill_53178 ⟨by decide, by decide⟩ rfl (Nat.le_of_ble_eq_true rfl) rfl rfl (by decide) (by decide) (fk_J7_fill_53178_1 hS29.1  ta3) ?_
  rintro cn' K' N' I32 R33 L34 ⟨rfl, rfl, rfl, rfl, rfl, g35, rp38, rp39, -⟩
  have hS40 := hS29.tr g35 (by decide +kernel) (by decide +kernel)
  refine tr_aload_n dX5_forget_16 rfl ?_
  refine tr_getR dX5_forget_17 fl5_18 (kR13 hS40.1 ta0) d6 ?_
  refine q_iconst dX5_forget_20 (by decide) ?_
  intro v41 h42
  refine q_callSv hE (M' := mJ7_fill_53178) (as := [_, _]) dX5_forget_21 lk5_75 inJ7_fill_53178 myJ7_fill_53178 ⟨by decide, by decide⟩ rfl (Nat.le_of_ble_eq_true rfl) rfl rfl (by decide) (by decide) (fk_J7_fill_53178_2 hS40.1  ta5) ?_
  rintro cn' K' N' I43 R44 L45 ⟨rfl, rfl, rfl, rfl, rfl, g46, rp49, rp50, -⟩
  have hS51 := hS40.tr g46 (by decide +kernel) (by decide +kernel)
  refine tr_aload_n dX5_forget_24 rfl ?_
  refine tr_getR dX5_forget_25 fl5_21 (kR13 hS51.1 ta0) d8 ?_
  refine q_iconst dX5_forget_28 (by decide) ?_
  intro v52 h53
  refine q_callSv hE (M' := mJ7_fill_53178) (as := [_, _]) dX5_forget_29 lk5_75 inJ7_fill_53178 myJ7_fill_53178 ⟨by decide, by decide⟩ rfl (Nat.le_of_ble_eq_true rfl) rfl rfl (by decide) (by decide) (fk_J7_fill_53178_3 hS51.1  ta7) ?_
  rintro cn' K' N' I54 R55 L56 ⟨rfl, rfl, rfl, rfl, rfl, g57, rp60, rp61, -⟩
  have hS62 := hS51.tr g57 (by decide +kernel) (by decide +kernel)
  refine tr_aload_n dX5_forget_32 rfl ?_
  refine tr_getR dX5_forget_33 fl5_24 (kR13 hS62.1 ta0) d10 ?_
  refine q_iconst dX5_forget_36 (by decide) ?_
  intro v63 h64
  refine q_callSv hE (M' := mJ7_fill_53178) (as := [_, _]) dX5_forget_37 lk5_75 inJ7_fill_53178 myJ7_fill_53178 ⟨by decide, by decide⟩ rfl (Nat.le_of_ble_eq_true rfl) rfl rfl (by decide) (by decide) (fk_J7_fill_53178_4 hS62.1  ta9) ?_
  rintro cn' K' N' I65 R66 L67 ⟨rfl, rfl, rfl, rfl, rfl, g68, rp71, rp72, -⟩
  have hS73 := hS62.tr g68 (by decide +kernel) (by decide +kernel)
  refine tr_aload_n dX5_forget_40 rfl ?_
  refine tr_getR dX5_forget_41 fl5_27 (kR13 hS73.1 ta0) d12 ?_
  refine q_iconst dX5_forget_44 (by decide) ?_
  intro v74 h75
  refine q_callSv hE (M' := mJ7_fill_53178) (as := [_, _]) dX5_forget_45 lk5_75 inJ7_fill_53178 myJ7_fill_53178 ⟨by decide, by decide⟩ rfl (Nat.le_of_ble_eq_true rfl) rfl rfl (by decide) (by decide) (fk_J7_fill_53178_5 hS73.1  ta11) ?_
  rintro cn' K' N' I76 R77 L78 ⟨rfl, rfl, rfl, rfl, rfl, g79, rp82, rp83, -⟩
  have hS84 := hS73.tr g79 (by decide +kernel) (by decide +kernel)
  refine tr_aload_n dX5_forget_48 rfl ?_
  refine tr_getR dX5_forget_49 fl5_30 (kR13 hS84.1 ta0) d14 ?_
  refine q_iconst dX5_forget_52 (by decide) ?_
  intro v85 h86
  refine q_callSv hE (M' := mJ7_fill_53178) (as := [_, _]) dX5_forget_53 lk5_75 inJ7_fill_53178 myJ7_fill_53178 ⟨by decide, by decide⟩ rfl (Nat.le_of_ble_eq_true rfl) rfl rfl (by decide) (by decide) (fk_J7_fill_53178_6 hS84.1  ta13) ?_
  rintro cn' K' N' I87 R88 L89 ⟨rfl, rfl, rfl, rfl, rfl, g90, rp93, rp94, -⟩
  have hS95 := hS84.tr g90 (by decide +kernel) (by decide +kernel)
  refine tr_aload_n dX5_forget_56 rfl ?_
  refine tr_getR dX5_forget_57 fl5_33 (kR13 hS95.1 ta0) d16 ?_
  refine q_iconst dX5_forget_60 (by decide) ?_
  intro v96 h97
  refine q_callSv hE (M' := mJ7_fill_53178) (as := [_, _]) dX5_forget_61 lk5_75 inJ7_fill_53178 myJ7_fill_53178 ⟨by decide, by decide⟩ rfl (Nat.le_of_ble_eq_true rfl) rfl rfl (by decide) (by decide) (fk_J7_fill_53178_7 hS95.1  ta15) ?_
  rintro cn' K' N' I98 R99 L100 ⟨rfl, rfl, rfl, rfl, rfl, g101, rp104, rp105, -⟩
  have hS106 := hS95.tr g101 (by decide +kernel) (by decide +kernel)
  refine tr_aload_n dX5_forget_64 rfl ?_
  refine tr_getR dX5_forget_65 fl5_36 (kR13 hS106.1 ta0) d18 ?_
  refine q_iconst dX5_forget_68 (by decide) ?_
  intro v107 h108
  refine q_callSv hE (M' := mJ7_fill_53178) (as := [_, _]) dX5_forget_69 lk5_75 inJ7_fill_53178 myJ7_fill_53178 ⟨by decide, by decide⟩ rfl (Nat.le_of_ble_eq_true rfl) rfl rfl (by decide) (by decide) (fk_J7_fill_53178_8 hS106.1  ta17) ?_
  rintro cn' K' N' I109 R110 L111 ⟨rfl, rfl, rfl, rfl, rfl, g112, rp115, rp116, -⟩
  have hS117 := hS106.tr g112 (by decide +kernel) (by decide +kernel)
  exact tr_vret hZ dX5_forget_72 rfl (by decide) (by decide) ⟨rfl, rfl, rfl, rfl, rfl, rfl, hS117, (fun r hr j hj => by obtain rfl := Option.some.inj (d2.symm.trans hr); exact Eq.trans (Eq.trans (rp116 a1 _ (fun z => by have y := ta1; rw [z, ta17] at y; exact absurd y (by decide))) (Eq.trans (rp105 a1 _ (fun z => by have y := ta1; rw [z, ta15] at y; exact absurd y (by decide))) (Eq.trans (rp94 a1 _ (fun z => by have y := ta1; rw [z, ta13] at y; exact absurd y (by decide))) (Eq.trans (rp83 a1 _ (fun z => by have y := ta1; rw [z, ta11] at y; exact absurd y (by decide))) (Eq.trans (rp72 a1 _ (fun z => by have y := ta1; rw [z, ta9] at y; exact absurd y (by decide))) (Eq.trans (rp61 a1 _ (fun z => by have y := ta1; rw [z, ta7] at y; exact absurd y (by decide))) (Eq.trans (rp50 a1 _ (fun z => by have y := ta1; rw [z, ta5] at y; exact absurd y (by decide))) (Eq.trans (rp39 a1 _ (fun z => by have y := ta1; rw [z, ta3] at y; exact absurd y (by decide))) (rp27 j hj))))))))) (Int32.toInt_inj.mp ((show v19.toInt = 0 by omega).trans rfl))), (fun r hr j hj => by obtain rfl := Option.some.inj (d4.symm.trans hr); exact Eq.trans (Eq.trans (rp116 a3 _ (fun z => by have y := ta3; rw [z, ta17] at y; exact absurd y (by decide))) (Eq.trans (rp105 a3 _ (fun z => by have y := ta3; rw [z, ta15] at y; exact absurd y (by decide))) (Eq.trans (rp94 a3 _ (fun z => by have y := ta3; rw [z, ta13] at y; exact absurd y (by decide))) (Eq.trans (rp83 a3 _ (fun z => by have y := ta3; rw [z, ta11] at y; exact absurd y (by decide))) (Eq.trans (rp72 a3 _ (fun z => by have y := ta3; rw [z, ta9] at y; exact absurd y (by decide))) (Eq.trans (rp61 a3 _ (fun z => by have y := ta3; rw [z, ta7] at y; exact absurd y (by decide))) (Eq.trans (rp50 a3 _ (fun z => by have y := ta3; rw [z, ta5] at y; exact absurd y (by decide))) (rp38 j hj)))))))) (Int32.toInt_inj.mp ((show v30.toInt = 0 by omega).trans rfl))), (fun r hr j hj => by obtain rfl := Option.some.inj (d6.symm.trans hr); exact Eq.trans (Eq.trans (rp116 a5 _ (fun z => by have y := ta5; rw [z, ta17] at y; exact absurd y (by decide))) (Eq.trans (rp105 a5 _ (fun z => by have y := ta5; rw [z, ta15] at y; exact absurd y (by decide))) (Eq.trans (rp94 a5 _ (fun z => by have y := ta5; rw [z, ta13] at y; exact absurd y (by decide))) (Eq.trans (rp83 a5 _ (fun z => by have y := ta5; rw [z, ta11] at y; exact absurd y (by decide))) (Eq.trans (rp72 a5 _ (fun z => by have y := ta5; rw [z, ta9] at y; exact absurd y (by decide))) (Eq.trans (rp61 a5 _ (fun z => by have y := ta5; rw [z, ta7] at y; exact absurd y (by decide))) (rp49 j hj))))))) (Int32.toInt_inj.mp ((show v41.toInt = 0 by omega).trans rfl))), (fun r hr j hj => by obtain rfl := Option.some.inj (d8.symm.trans hr); exact Eq.trans (Eq.trans (rp116 a7 _ (fun z => by have y := ta7; rw [z, ta17] at y; exact absurd y (by decide))) (Eq.trans (rp105 a7 _ (fun z => by have y := ta7; rw [z, ta15] at y; exact absurd y (by decide))) (Eq.trans (rp94 a7 _ (fun z => by have y := ta7; rw [z, ta13] at y; exact absurd y (by decide))) (Eq.trans (rp83 a7 _ (fun z => by have y := ta7; rw [z, ta11] at y; exact absurd y (by decide))) (Eq.trans (rp72 a7 _ (fun z => by have y := ta7; rw [z, ta9] at y; exact absurd y (by decide))) (rp60 j hj)))))) (Int32.toInt_inj.mp ((show v52.toInt = 0 by omega).trans rfl))), (fun r hr j hj => by obtain rfl := Option.some.inj (d10.symm.trans hr); exact Eq.trans (Eq.trans (rp116 a9 _ (fun z => by have y := ta9; rw [z, ta17] at y; exact absurd y (by decide))) (Eq.trans (rp105 a9 _ (fun z => by have y := ta9; rw [z, ta15] at y; exact absurd y (by decide))) (Eq.trans (rp94 a9 _ (fun z => by have y := ta9; rw [z, ta13] at y; exact absurd y (by decide))) (Eq.trans (rp83 a9 _ (fun z => by have y := ta9; rw [z, ta11] at y; exact absurd y (by decide))) (rp71 j hj))))) (Int32.toInt_inj.mp ((show v63.toInt = 0 by omega).trans rfl))), (fun r hr j hj => by obtain rfl := Option.some.inj (d12.symm.trans hr); exact Eq.trans (Eq.trans (rp116 a11 _ (fun z => by have y := ta11; rw [z, ta17] at y; exact absurd y (by decide))) (Eq.trans (rp105 a11 _ (fun z => by have y := ta11; rw [z, ta15] at y; exact absurd y (by decide))) (Eq.trans (rp94 a11 _ (fun z => by have y := ta11; rw [z, ta13] at y; exact absurd y (by decide))) (rp82 j hj)))) (Int32.toInt_inj.mp ((show v74.toInt = 0 by omega).trans rfl))), (fun r hr j hj => by obtain rfl := Option.some.inj (d14.symm.trans hr); exact Eq.trans (Eq.trans (rp116 a13 _ (fun z => by have y := ta13; rw [z, ta17] at y; exact absurd y (by decide))) (Eq.trans (rp105 a13 _ (fun z => by have y := ta13; rw [z, ta15] at y; exact absurd y (by decide))) (rp93 j hj))) (Int32.toInt_inj.mp ((show v85.toInt = 0 by omega).trans rfl))), (fun r hr j hj => by obtain rfl := Option.some.inj (d16.symm.trans hr); exact Eq.trans (Eq.trans (rp116 a15 _ (fun z => by have y := ta15; rw [z, ta17] at y; exact absurd y (by decide))) (rp104 j hj)) (Int32.toInt_inj.mp ((show v96.toInt = 0 by omega).trans rfl))), (fun r hr j hj => by obtain rfl := Option.some.inj (d18.symm.trans hr); exact Eq.trans (rp115 j hj) (Int32.toInt_inj.mp ((show v107.toInt = 0 by omega).trans rfl))), ((((((((((FrN.rf (R := R0) (n := a0) (T := T)).pa rp28 (s := 3) (by omega) (by omega) d2 ta1 (by decide)).pa rp39 (s := 4) (by omega) (by omega) d4 ta3 (by decide)).pa rp50 (s := 5) (by omega) (by omega) d6 ta5 (by decide)).pa rp61 (s := 6) (by omega) (by omega) d8 ta7 (by decide)).pa rp72 (s := 7) (by omega) (by omega) d10 ta9 (by decide)).pa rp83 (s := 8) (by omega) (by omega) d12 ta11 (by decide)).pa rp94 (s := 9) (by omega) (by omega) d14 ta13 (by decide)).pa rp105 (s := 10) (by omega) (by omega) d16 ta15 (by decide)).pa rp116 (s := 11) (by omega) (by omega) d18 ta17 (by decide)), trivial⟩
set_option maxHeartbeats 4000000 in
theorem fk_X8_crackingHuts {l : Launch} {T : Nat → Nat} {cn : Nat} {K N : Nat → Nat} {I0 : cz_I} {R0 : cz_R} {L0 : cz_L} {d : Int} (hW0 : Wf T cn K N I0 R0 d) (gZ : cz_N) {a0 : Nat} (ta0 : T a0 = 12) {x1 : Int32} (hx1 : 0 ≤ x1.toInt ∧ x1.toInt ≤ 239) (hS : SkZ I0 R0 a0 gZ) (pre0 : x1.toInt < (nzc gZ 0)) : ConE l mX8_crackingHuts [.ref a0, .int x1] cn K N I0 R0 L0 (ca_i (fun v cn' K' N' I' R' L' => cn = cn' ∧ K = K' ∧ N = N' ∧ I0 = I' ∧ R0 = R' ∧ L0 = L' ∧ (0 ≤ v.toInt ∧ v.toInt ≤ 15 ∧ ∀ h : Nat, h < 4 → bt v.toInt (h : Int) = nzK gZ (h : Int) x1.toInt) ∧ True)) := by
  refine ConE.of (by decide +kernel) rfl (Nat.le_of_ble_eq_true rfl) rfl (fun X hX hZ hE => ?_)
  subst hX
  have p11 := pre0
  obtain ⟨a12, d13, ta12⟩ := rf12_2 hW0 ta0
  obtain ⟨a14, d15, ta14⟩ := rf12_3 hW0 ta0
  obtain ⟨a16, d17, ta16⟩ := rf12_5 hW0 ta0
  obtain ⟨v18, c19⟩ : ∃ v, I0 a0 1 = v := ⟨_, rfl⟩
  refine tr_aload_n dX8_crackingHuts_0 rfl ?_
  refine tr_getR dX8_crackingHuts_1 fl8_15 (kR12 hW0 ta0) d15 ?_
  refine tr_iload_n dX8_crackingHuts_4 rfl ?_
  refine q_zald dX8_crackingHuts_5 (kR36 hW0 ta14) (ti_in (nR36 hW0 ta14) (by omega) (by omega)) ?_
  intro v20 c21
  have b22 := iv36 hW0 ta14 c21
  refine q_if_eq 34 dX8_crackingHuts_6 (by decide) (fun h23 => ?_) (fun h23 => ?_)
  · skip
    refine q_iconst dX8_crackingHuts_34 (by decide) ?_
    intro v24 h25
    exact tr_iret hZ dX8_crackingHuts_35 rfl (by decide) (by decide) ⟨v24, rfl, rfl, rfl, rfl, rfl, rfl, rfl, (by obtain ⟨g, hg, hk⟩ := hS.2.2.2.2.1 _ _ d15 d17 x1.toInt.toNat (by omega); exact ⟨by omega, by omega, fun h hh => by have z := hk h hh; rw [show ((x1.toInt.toNat : Nat) : Int) = x1.toInt by omega] at z; rw [show I0 a14 x1.toInt.toNat = v20 from c21] at z; rw [show v24.toInt = 0 by omega, bt_z, z, if_neg (fun w => by omega)]⟩), trivial⟩
  · skip
    refine tr_aload_n dX8_crackingHuts_9 rfl ?_
    refine tr_getR dX8_crackingHuts_10 fl8_9 (kR12 hW0 ta0) d13 ?_
    refine tr_iload_n dX8_crackingHuts_13 rfl ?_
    refine q_zald dX8_crackingHuts_14 (kR35 hW0 ta12) (ti_in (nR35 hW0 ta12) (by omega) (by omega)) ?_
    intro v26 c27
    have b28 := iv35 hW0 ta12 c27
    refine q_if_ne 34 dX8_crackingHuts_15 (by decide) (fun h29 => ?_) (fun h29 => ?_)
    · skip
      refine q_iconst dX8_crackingHuts_34 (by decide) ?_
      intro v30 h31
      exact tr_iret hZ dX8_crackingHuts_35 rfl (by decide) (by decide) ⟨v30, rfl, rfl, rfl, rfl, rfl, rfl, rfl, (by obtain ⟨g, hg, hk⟩ := hS.2.2.2.2.1 _ _ d15 d17 x1.toInt.toNat (by omega); exact ⟨by omega, by omega, fun h hh => by have z := hk h hh; rw [show ((x1.toInt.toNat : Nat) : Int) = x1.toInt by omega] at z; rw [show I0 a14 x1.toInt.toNat = v20 from c21] at z; have e := hS.1 _ d13 x1.toInt.toNat (by omega); rw [show I0 a12 x1.toInt.toNat = v26 from c27, show ((x1.toInt.toNat : Nat) : Int) = x1.toInt by omega] at e; rw [show v30.toInt = 0 by omega, bt_z, z, if_neg (fun w => by omega)]⟩), trivial⟩
    · skip
      refine tr_aload_n dX8_crackingHuts_18 rfl ?_
      refine q_getI dX8_crackingHuts_19 fl8_50 (kR12 hW0 ta0) c19 ?_
      refine tr_aload_n dX8_crackingHuts_22 rfl ?_
      refine tr_getR dX8_crackingHuts_23 fl8_21 (kR12 hW0 ta0) d17 ?_
      refine tr_iload_n dX8_crackingHuts_26 rfl ?_
      refine q_iald dX8_crackingHuts_27 (kR38 hW0 ta16) (ti_in (nR38 hW0 ta16) (by omega) (by omega)) ?_
      intro v32 c33
      refine q_iconst dX8_crackingHuts_28 (by decide) ?_
      intro v34 h35
      refine tr_ixor dX8_crackingHuts_29 ?_
      obtain ⟨v36, lx37⟩ : ∃ z, z = v32 ^^^ v34 := ⟨_, rfl⟩
      rw [← lx37]
      refine tr_iand dX8_crackingHuts_30 ?_
      obtain ⟨v38, lx39⟩ : ∃ z, z = v18 &&& v36 := ⟨_, rfl⟩
      rw [← lx39]
      refine tr_goto 35 dX8_crackingHuts_31 (by decide) ?_
      exact tr_iret hZ dX8_crackingHuts_35 rfl (by decide) (by decide) ⟨v38, rfl, rfl, rfl, rfl, rfl, rfl, rfl, (by obtain ⟨g, hg, hk⟩ := hS.2.2.2.2.1 _ _ d15 d17 x1.toInt.toNat (by omega); have b := Bts.nand (n := v34) hS.2.2.2.1 hg (by omega); rw [show I0 a0 1 = v18 from c19, show I0 a16 x1.toInt.toNat = v32 from c33, ← lx37, ← lx39] at b; exact ⟨b.1, b.2.1, fun h hh => by have z := hk h hh; rw [show ((x1.toInt.toNat : Nat) : Int) = x1.toInt by omega] at z; rw [show I0 a14 x1.toInt.toNat = v20 from c21] at z; have e := hS.1 _ d13 x1.toInt.toNat (by omega); rw [show I0 a12 x1.toInt.toNat = v26 from c27, show ((x1.toInt.toNat : Nat) : Int) = x1.toInt by omega] at e; exact ckZ b z (by omega) (by omega) hh⟩), trivial⟩
