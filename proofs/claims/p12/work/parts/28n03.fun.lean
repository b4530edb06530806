def wik_X5_play : List Nat := [834, 2879, 2943, 3007, 3071, 3135, 3199, 3263, 3327, 3391]
def wrk_X5_play : List Nat := [832, 833]
set_option maxHeartbeats 4000000 in
theorem fk_X5_play {l : Launch} {T : Nat → Nat} {cn : Nat} {K N : Nat → Nat} {I0 : cz_I} {R0 : cz_R} {L0 : cz_L} {d : Int} (hW0 : Wf T cn K N I0 R0 d) (gZ : cz_N) {a0 : Nat} (ta0 : T a0 = 13) {a1 : Nat} (ta1 : T a1 = 2) {a2 : Nat} (ta2 : T a2 = 12) {x3 : Int32} (hx3 : 0 ≤ x3.toInt ∧ x3.toInt ≤ 63) {x4 : Int32} (hx4 : 0 ≤ x4.toInt ∧ x4.toInt ≤ 31) (hA : CVa I0 R0 a1 (nzc gZ) (nzT gZ)) (hS : SkZ I0 R0 a2 gZ) (hG : GdN gZ) (pre0 : x3.toInt = (nzM gZ)) (pre1 : x4.toInt = (nzW gZ)) : ConE l mX5_play [.ref a0, .ref a1, .ref a2, .int x3, .int x4] cn K N I0 R0 L0 (ca_v (fun cn' K' N' I' R' L' => cn = cn' ∧ K = K' ∧ N = N' ∧ L0 = L' ∧ St T cn K N d wik_X5_play wrk_X5_play I0 R0 I' R' ∧ (R' a0 0 = some a1) ∧ (R' a0 1 = some a2) ∧ (I' a0 2 = x3) ∧ (NgR I' R0 a0 gZ (nzc gZ 0).toNat) ∧ (FrN R0 a0 T I0 I') ∧ (∀ a j, ¬ a = a0 → R' a j = R0 a j) ∧ True)) := by
  refine ConE.of (by decide +kernel) rfl (Nat.le_of_ble_eq_true rfl) rfl (fun X hX hZ hE => ?_)
  subst hX
  have hS0 : St T cn K N d wik_X5_play wrk_X5_play I0 R0 I0 R0 := St.rf0 hW0
  have p1 := pre0
  have p2 := pre1
  obtain ⟨a3, d4, ta3⟩ := rf2_2 hW0 ta1
  obtain ⟨a5, d6, ta5⟩ := rf2_6 hW0 ta1
  obtain ⟨a7, d8, ta7⟩ := rf2_8 hW0 ta1
  obtain ⟨a9, d10, ta9⟩ := rf2_10 hW0 ta1
  obtain ⟨a11, d12, ta11⟩ := rf2_12 hW0 ta1
  obtain ⟨a13, d14, ta13⟩ := rf12_2 hW0 ta2
  obtain ⟨a15, d16, ta15⟩ := rf12_3 hW0 ta2
  obtain ⟨a17, d18, ta17⟩ := rf12_5 hW0 ta2
  obtain ⟨a19, d20, ta19⟩ := rf12_8 hW0 ta2
  obtain ⟨a21, d22, ta21⟩ := rf12_9 hW0 ta2
  obtain ⟨a23, d24, ta23⟩ := rf12_11 hW0 ta2
  obtain ⟨a25, d26, ta25⟩ := rf13_3 hW0 ta0
  obtain ⟨a27, d28, ta27⟩ := rf13_4 hW0 ta0
  obtain ⟨a29, d30, ta29⟩ := rf13_5 hW0 ta0
  obtain ⟨a31, d32, ta31⟩ := rf13_6 hW0 ta0
  obtain ⟨a33, d34, ta33⟩ := rf13_7 hW0 ta0
  obtain ⟨a35, d36, ta35⟩ := rf13_8 hW0 ta0
  obtain ⟨a37, d38, ta37⟩ := rf13_9 hW0 ta0
  obtain ⟨a39, d40, ta39⟩ := rf13_10 hW0 ta0
  obtain ⟨a41, d42, ta41⟩ := rf13_11 hW0 ta0
  obtain ⟨v43, c44⟩ : ∃ v, I0 a1 0 = v := ⟨_, rfl⟩
  have b45 := iv2_0 hW0 ta1 c44
  obtain ⟨v46, c47⟩ : ∃ v, I0 a1 1 = v := ⟨_, rfl⟩
  have b48 := iv2_1 hW0 ta1 c47
  obtain ⟨v49, c50⟩ : ∃ v, I0 a1 5 = v := ⟨_, rfl⟩
  have b51 := iv2_5 hW0 ta1 c50
  obtain ⟨v52, c53⟩ : ∃ v, I0 a1 7 = v := ⟨_, rfl⟩
  obtain ⟨v54, c55⟩ : ∃ v, I0 a1 9 = v := ⟨_, rfl⟩
  have b56 := iv2_9 hW0 ta1 c55
  obtain ⟨v57, c58⟩ : ∃ v, I0 a1 11 = v := ⟨_, rfl⟩
  have b59 := iv2_11 hW0 ta1 c58
  obtain ⟨v60, c61⟩ : ∃ v, I0 a2 10 = v := ⟨_, rfl⟩
  have b62 := iv12_10 hW0 ta2 c61
  have hc := hA.ct
  rw [c44, c47, c50, c55, c58, c53] at hc
  have hcg := hG.cs
  have hcn := hG.ms
  have hcw := hG.ws
  have hcu := hG.up
  obtain ⟨sf, sf1, sf2, sf3, sf4⟩ := hS.2.2.2.2.2
  rw [c61] at sf3
  refine tr_aload_n dX5_play_0 rfl ?_
  refine tr_aload_n dX5_play_1 rfl ?_
  refine q_putR dX5_play_2 fl5_39 (kR13 hS0.1 ta0) (Or.inl rfl) hS0 ta0 (okR_in rfl rfl ta1) rfl (by decide +kernel) ?_
  intro R63 hS64 e65 f66
  refine tr_aload_n dX5_play_5 rfl ?_
  refine tr_aload_n dX5_play_6 rfl ?_
  refine q_putR dX5_play_7 fl5_43 (kR13 hS64.1 ta0) (Or.inl rfl) hS64 ta0 (okR_in rfl rfl ta2) rfl (by decide +kernel) ?_
  intro R67 hS68 e69 f70
  have d71 : R67 a0 0 = some a1 := (f70 _ _ (fun q => absurd q.2 (by decide))).trans e65
  refine tr_aload_n dX5_play_10 rfl ?_
  refine tr_iload_n dX5_play_11 rfl ?_
  refine q_putI dX5_play_12 fl5_47 (kR13 hS68.1 ta0) (Or.inl rfl) hS68 ta0 (iokF rfl) rfl (by decide +kernel) ?_
  intro I72 hS73 e74 f75
  refine tr_aload_n dX5_play_15 rfl ?_
  refine q_callVv hE (M' := mX5_forget) (as := []) dX5_play_16 lk5_51 inX5_forget seX5_forget myX5_forget (by decide) ⟨by decide, by decide⟩ rfl (kR13 hS73.1 ta0) (Nat.le_of_ble_eq_true rfl) rfl rfl (by decide) (by decide) (fk_X5_forget hS73.1  ta0) ?_
  rintro cn' K' N' I76 R77 L78 ⟨rfl, rfl, rfl, rfl, rfl, g79, rp82, rp83, rp84, rp85, rp86, rp87, rp88, rp89, rp90, rp91, -⟩
  have hS92 := hS73.tr g79 (by decide +kernel) (by decide +kernel)
  have c93 : I76 a0 2 = x3 := (g79.cell ta0 (by decide +kernel)).trans e74
  refine tr_aload_n dX5_play_19 rfl ?_
  refine tr_getR dX5_play_20 fl5_39 (kR13 hS92.1 ta0) d71 ?_
  refine q_getI dX5_play_23 fl5_54 (kR2 hS92.1 ta1) ((hS92.cell ta1 (by decide +kernel)).trans c53) ?_
  refine tr_istore dX5_play_26 (by decide) (by decide) ?_
  refine q_iconst dX5_play_28 (by decide) ?_
  intro v94 h95
  refine tr_istore dX5_play_29 (by decide) (by decide) ?_
  have lp112 : ∀ (fu : Nat) (ls : Nat → Option Value) (v96 : Int32) (v97 : Int32) (I105 : cz_I), ls 0 = some (.ref a0) → ls 1 = some (.ref a1) → ls 2 = some (.ref a2) → ls 3 = some (.int x3) → ls 4 = some (.int x4) → ls 5 = some (.int v96) → ls 6 = some (.int v97) → St T cn K N d wik_X5_play wrk_X5_play I0 R0 I105 R67 → 0 ≤ v97.toInt → v97.toInt ≤ 240 → (∃ M : Nat, (M : Int) ≤ nzc gZ 0 ∧ cnM sf M = v97.toInt ∧ NgR I105 R0 a0 gZ M ∧ B8 v96 (fun k => if (k : Int) < nzc gZ 3 then nV gZ k M else 0)) → (I105 a0 2 = x3) → (FrN R0 a0 T I0 I105) → (-v97.toInt + 2147483647).toNat < fu → Tr X mX5_play 31 ls [] cn K N I105 R67 L0 0 0 := by
    intro fu
    induction fu with
    | zero => intros; rename_i hz; exact absurd hz (Nat.not_lt_zero _)
    | succ fu ih112 =>
      intro ls v96 v97 I105 hl98 hl99 hl100 hl101 hl102 hl103 hl104 hS106 g107 g108 rw109 rw110 rw111 hm112
      refine tr_iload dX5_play_31 hl104 ?_
      refine tr_aload_n dX5_play_33 hl98 ?_
      refine tr_getR dX5_play_34 fl5_43 (kR13 hS106.1 ta0) e69 ?_
      refine q_getI dX5_play_37 fl5_59 (kR12 hS106.1 ta2) ((hS106.cell ta2 (by decide +kernel)).trans c61) ?_
      refine q_icmp_ge 97 dX5_play_40 (by decide) (fun h114 => ?_) (fun h114 => ?_)
      · skip
        exact tr_vret hZ dX5_play_97 rfl (by decide) (by decide) ⟨rfl, rfl, rfl, rfl, rfl, hS106, d71, e69, rw110, (by obtain ⟨M, h1, h2, h3, h4⟩ := rw109; exact NgR.en (mi := (nzc gZ 0).toNat) sf1 (fun m hm => sf2 m (by omega)) ((nzc gZ 0).toNat - M) M (by omega) h3 (by omega)), rw111, (fun a j ha => (f70 _ _ (fun q => ha q.1)).trans (f66 _ _ (fun q => ha q.1))), trivial⟩
      · skip
        refine tr_aload_n dX5_play_43 hl98 ?_
        refine tr_getR dX5_play_44 fl5_43 (kR13 hS106.1 ta0) e69 ?_
        refine tr_getR dX5_play_47 fl5_64 (kR12 hS106.1 ta2) ((hS106.rcell ta2 (by decide +kernel)).trans d24) ?_
        refine tr_iload dX5_play_50 hl104 ?_
        refine q_iald dX5_play_52 (kR43 hS106.1 ta23) (ti_in (nR43 hS106.1 ta23) (by omega) (by omega)) ?_
        intro v115 c116
        have b117 := iv43 hS106.1 ta23 c116
        refine tr_istore dX5_play_53 (by decide) (by decide) ?_
        obtain ⟨M118, M118a, M118b, M118n, M118u⟩ := rw109
        obtain ⟨M118', M118d, M118e, M1181, M118c, M118r, M118v⟩ := NgR.ad (mi := (nzc gZ 0).toNat) sf1 (fun m hm => sf2 m (by omega)) ((nzc gZ 0).toNat - M118) M118 (by omega) M118n _ M118u (by omega)
        have M118m : v115.toInt = (M118' : Int) := by have z := sf4 _ d24 M118' (by omega) M1181; rw [M118c, M118b, show I0 a23 v97.toInt.toNat = v115 from (hS106.cell ta23 (wm_no (by decide +kernel))).symm.trans c116] at z; exact z
        obtain rfl : M118' = v115.toInt.toNat := by omega
        rw [M118b] at M118c
        have M118h := (NgP.mk hA hS hS106 hW0 ta0 ta1 ta2 d71 e69 (by rw [show I105 a0 2 = x3 from rw110]; exact pre0) (by decide +kernel) (by decide +kernel))
        refine tr_iload dX5_play_55 rfl ?_
        refine q_if_ne 64 dX5_play_57 (by decide) (fun h119 => ?_) (fun h119 => ?_)
        · skip
          refine tr_aload_n dX5_play_64 hl98 ?_
          refine tr_iload dX5_play_65 rfl ?_
          refine tr_iload dX5_play_67 hl102 ?_
          refine q_callVi hE (M' := mX5_turnAll) (as := [_, _]) dX5_play_69 lk5_67 inX5_turnAll seX5_turnAll myX5_turnAll (by decide) ⟨by decide, by decide⟩ rfl (kR13 hS106.1 ta0) (Nat.le_of_ble_eq_true rfl) rfl rfl (by decide) (by decide) (fk_X5_turnAll hS106.1 (gZ) ((nF gZ v115.toInt.toNat)) ta0 (by omega) (NgP.mk hA hS hS106 hW0 ta0 ta1 ta2 d71 e69 (by rw [show I105 a0 2 = x3 from rw110]; exact pre0) (by decide +kernel) (by decide +kernel)) hG (fun r hr t ht => M118r.2.2.2.2.2.2.2.2 r ((hS106.rcell ta0 (by decide +kernel)).symm.trans hr) t ht) (fun r hr => (M118r.1 r ((hS106.rcell ta0 (by decide +kernel)).symm.trans hr) v115.toInt.toNat (by omega)).cg (fun k hk => by rw [if_neg (fun w => absurd w.1 (Nat.lt_irrefl _))])) (by first | done | with_reducible assumption | omega) (by first | done | with_reducible assumption | omega) (by first | done | with_reducible assumption | omega) (by first | done | with_reducible assumption | omega)) ?_
          rintro v125 cn' K' N' I120 R121 L122 ⟨rfl, rfl, rfl, rfl, rfl, g123, rp126, rp127, rp128, rp129, rp130, rp131, rp132, -⟩
          have hS133 := hS106.tr g123 (by decide +kernel) (by decide +kernel)
          have hb134 : B8 v125 (fun k => if (k : Int) < nzc gZ 3 ∧ ¬ nB gZ v115.toInt.toNat k = -2 then 1 else 0) := rp126.cg (fun k hk => by rw [nB_pos (by omega), show ((v115.toInt.toNat : Nat) : Int) = v115.toInt by omega])
          have hb134r := And.intro hb134.1 hb134.2.1
          refine tr_istore dX5_play_72 (by decide) (by decide) ?_
          refine tr_iload dX5_play_74 hl103 ?_
          refine tr_iload dX5_play_76 rfl ?_
          refine tr_ixor dX5_play_78 ?_
          obtain ⟨v135, lx136⟩ : ∃ z, z = v96 ^^^ v125 := ⟨_, rfl⟩
          rw [← lx136]
          have hu137 := TUp M118v hb134 lx136
          have hu137r := And.intro hu137.1 hu137.2.1
          refine tr_istore dX5_play_79 (by decide) (by decide) ?_
          refine tr_aload_n dX5_play_81 hl98 ?_
          refine tr_iload dX5_play_82 rfl ?_
          refine tr_iload dX5_play_84 rfl ?_
          refine tr_iload dX5_play_86 rfl ?_
          refine q_callVv hE (M' := mX5_judge) (as := [_, _, _]) dX5_play_88 lk5_71 inX5_judge seX5_judge myX5_judge (by decide) ⟨by decide, by decide⟩ rfl (kR13 hS133.1 ta0) (Nat.le_of_ble_eq_true rfl) rfl rfl (by decide) (by decide) (fk_X5_judge hS133.1 (gZ) ((nB gZ v115.toInt.toNat)) ((fun k => nV gZ k (v115.toInt.toNat + 1))) ta0 (by omega) (by omega) (by omega) (NgP.mk hA hS hS133 hW0 ta0 ta1 ta2 d71 e69 (by rw [show I120 a0 2 = x3 from (Eq.trans (g123.cell ta0 (by decide +kernel)) rw110)]; exact pre0) (by decide +kernel) (by decide +kernel)) hG hb134 hu137 (by first | done | with_reducible assumption | omega)) ?_
          rintro cn' K' N' I138 R139 L140 ⟨rfl, rfl, rfl, rfl, rfl, g141, rp144, rp145, rp146, rp147, rp148, -⟩
          have hS149 := hS133.tr g141 (by decide +kernel) (by decide +kernel)
          refine q_iincE dX5_play_91 hl104 (by decide) (by decide) (by intros; omega) ?_
          intro v150 h151
          refine tr_goto 31 dX5_play_94 (by decide) ?_
          exact ih112 _ v135 v150 I138 hl98 hl99 hl100 hl101 hl102 rfl rfl hS149 (by omega) (by omega) ⟨v115.toInt.toNat + 1, by omega, by rw [cnM, M118c, M1181]; omega, NgR.go M118r (NgA.tn (by omega) ((show ((v115.toInt.toNat : Nat) : Int) = v115.toInt by omega)) (fun r hr => rp127 r ((hS106.rcell ta0 (by decide +kernel)).trans hr)) (fun r hr => rp128 r ((hS106.rcell ta0 (by decide +kernel)).trans hr)) (fun r hr => rp129 r ((hS106.rcell ta0 (by decide +kernel)).trans hr)) (fun r hr => rp130 r ((hS106.rcell ta0 (by decide +kernel)).trans hr)) (fun r hr => rp131 r ((hS106.rcell ta0 (by decide +kernel)).trans hr))) (NgJ.of (show ((v115.toInt.toNat : Nat) : Int) = v115.toInt by omega) (fun r hr => rp144 r ((hS106.rcell ta0 (by decide +kernel)).trans hr)) (fun r hr => rp145 r ((hS106.rcell ta0 (by decide +kernel)).trans hr)) (fun r hr => rp146 r ((hS106.rcell ta0 (by decide +kernel)).trans hr)) (fun r hr => rp147 r ((hS106.rcell ta0 (by decide +kernel)).trans hr))) (fun r j s s1 s2 hr => by have hs : s = 4 ∨ s = 5 ∨ s = 6 ∨ s = 7 := (by omega); rcases hs with rfl | rfl | rfl | rfl; exact g123.cell (hW0.rs ta0 rfl rfl hr : T r = 45) (wm_no (by decide +kernel)); exact g123.cell (hW0.rs ta0 rfl rfl hr : T r = 46) (wm_no (by decide +kernel)); exact g123.cell (hW0.rs ta0 rfl rfl hr : T r = 47) (wm_no (by decide +kernel)); exact g123.cell (hW0.rs ta0 rfl rfl hr : T r = 48) (wm_no (by decide +kernel))) (fun r j s hs hr => by have hs : s = 3 ∨ s = 8 ∨ s = 9 ∨ s = 10 ∨ s = 11 := (by omega); rcases hs with rfl | rfl | rfl | rfl | rfl; exact g141.cell (hW0.rs ta0 rfl rfl hr : T r = 44) (wm_no (by decide +kernel)); exact g141.cell (hW0.rs ta0 rfl rfl hr : T r = 49) (wm_no (by decide +kernel)); exact g141.cell (hW0.rs ta0 rfl rfl hr : T r = 50) (wm_no (by decide +kernel)); exact g141.cell (hW0.rs ta0 rfl rfl hr : T r = 51) (wm_no (by decide +kernel)); exact g141.cell (hW0.rs ta0 rfl rfl hr : T r = 52) (wm_no (by decide +kernel))) (by omega) (by omega), hu137⟩ (Eq.trans ((g141.cell ta0 (by decide +kernel)).trans (g123.cell ta0 (by decide +kernel))) rw110) ((rw111.tr (FrN.rc rp132 (fun k k1 k2 => by have hk : k = 3 ∨ k = 4 ∨ k = 5 ∨ k = 6 ∨ k = 7 ∨ k = 8 ∨ k = 9 ∨ k = 10 ∨ k = 11 := (by omega); rcases hk with rfl | rfl | rfl | rfl | rfl | rfl | rfl | rfl | rfl <;> exact (hS149.rcell ta0 (by decide +kernel)).symm))).tr (FrN.rc rp148 (fun k k1 k2 => by have hk : k = 3 ∨ k = 4 ∨ k = 5 ∨ k = 6 ∨ k = 7 ∨ k = 8 ∨ k = 9 ∨ k = 10 ∨ k = 11 := (by omega); rcases hk with rfl | rfl | rfl | rfl | rfl | rfl | rfl | rfl | rfl <;> exact (hS149.rcell ta0 (by decide +kernel)).symm))) (by omega)
        · skip
          refine q_iconst dX5_play_60 (by decide) ?_
          intro v152 h153
          refine tr_goto 72 dX5_play_61 (by decide) ?_
          have hb154 : B8 v152 (fun k => if (k : Int) < nzc gZ 3 ∧ ¬ nB gZ v115.toInt.toNat k = -2 then 1 else 0) := (B8.z (by omega)).cg (fun k hk => by rw [show v115.toInt.toNat = 0 by omega, if_neg (fun w => w.2 (nB_z k))])
          have hb154r := And.intro hb154.1 hb154.2.1
          refine tr_istore dX5_play_72 (by decide) (by decide) ?_
          refine tr_iload dX5_play_74 hl103 ?_
          refine tr_iload dX5_play_76 rfl ?_
          refine tr_ixor dX5_play_78 ?_
          obtain ⟨v155, lx156⟩ : ∃ z, z = v96 ^^^ v152 := ⟨_, rfl⟩
          rw [← lx156]
          have hu157 := TUp M118v hb154 lx156
          have hu157r := And.intro hu157.1 hu157.2.1
          refine tr_istore dX5_play_79 (by decide) (by decide) ?_
          refine tr_aload_n dX5_play_81 hl98 ?_
          refine tr_iload dX5_play_82 rfl ?_
          refine tr_iload dX5_play_84 rfl ?_
          refine tr_iload dX5_play_86 rfl ?_
          refine q_callVv hE (M' := mX5_judge) (as := [_, _, _]) dX5_play_88 lk5_71 inX5_judge seX5_judge myX5_judge (by decide) ⟨by decide, by decide⟩ rfl (kR13 hS106.1 ta0) (Nat.le_of_ble_eq_true rfl) rfl rfl (by decide) (by decide) (fk_X5_judge hS106.1 (gZ) ((nB gZ v115.toInt.toNat)) ((fun k => nV gZ k (v115.toInt.toNat + 1))) ta0 (by omega) (by omega) (by omega) (NgP.mk hA hS hS106 hW0 ta0 ta1 ta2 d71 e69 (by rw [show I105 a0 2 = x3 from rw110]; exact pre0) (by decide +kernel) (by decide +kernel)) hG hb154 hu157 (by first | done | with_reducible assumption | omega)) ?_
          rintro cn' K' N' I158 R159 L160 ⟨rfl, rfl, rfl, rfl, rfl, g161, rp164, rp165, rp166, rp167, rp168, -⟩
          have hS169 := hS106.tr g161 (by decide +kernel) (by decide +kernel)
          refine q_iincE dX5_play_91 hl104 (by decide) (by decide) (by intros; omega) ?_
          intro v170 h171
          refine tr_goto 31 dX5_play_94 (by decide) ?_
          exact ih112 _ v155 v170 I158 hl98 hl99 hl100 hl101 hl102 rfl rfl hS169 (by omega) (by omega) ⟨v115.toInt.toNat + 1, by omega, by rw [cnM, M118c, M1181]; omega, NgR.go M118r (by have z : v115.toInt.toNat = 0 := (by omega); rw [z]; rw [z] at M118r; exact NgA.z M118r) (NgJ.of (show ((v115.toInt.toNat : Nat) : Int) = v115.toInt by omega) (fun r hr => rp164 r ((hS106.rcell ta0 (by decide +kernel)).trans hr)) (fun r hr => rp165 r ((hS106.rcell ta0 (by decide +kernel)).trans hr)) (fun r hr => rp166 r ((hS106.rcell ta0 (by decide +kernel)).trans hr)) (fun r hr => rp167 r ((hS106.rcell ta0 (by decide +kernel)).trans hr))) (fun _ _ _ _ _ _ => rfl) (fun r j s hs hr => by have hs : s = 3 ∨ s = 8 ∨ s = 9 ∨ s = 10 ∨ s = 11 := (by omega); rcases hs with rfl | rfl | rfl | rfl | rfl; exact g161.cell (hW0.rs ta0 rfl rfl hr : T r = 44) (wm_no (by decide +kernel)); exact g161.cell (hW0.rs ta0 rfl rfl hr : T r = 49) (wm_no (by decide +kernel)); exact g161.cell (hW0.rs ta0 rfl rfl hr : T r = 50) (wm_no (by decide +kernel)); exact g161.cell (hW0.rs ta0 rfl rfl hr : T r = 51) (wm_no (by decide +kernel)); exact g161.cell (hW0.rs ta0 rfl rfl hr : T r = 52) (wm_no (by decide +kernel))) (by omega) (by omega), hu157⟩ (Eq.trans (g161.cell ta0 (by decide +kernel)) rw110) (rw111.tr (FrN.rc rp168 (fun k k1 k2 => by have hk : k = 3 ∨ k = 4 ∨ k = 5 ∨ k = 6 ∨ k = 7 ∨ k = 8 ∨ k = 9 ∨ k = 10 ∨ k = 11 := (by omega); rcases hk with rfl | rfl | rfl | rfl | rfl | rfl | rfl | rfl | rfl <;> exact (hS169.rcell ta0 (by decide +kernel)).symm))) (by omega)
  exact lp112 _ _ v52 v94 I76 rfl rfl rfl rfl rfl rfl rfl hS92 (by omega) (by omega) ⟨0, by omega, by show (0 : Int) = _; omega, NgR.z (fun r hr j hj => rp82 r ((hS92.rcell ta0 (by decide +kernel)).trans hr) j hj) (fun s r s1 s2 hr j hj => by have hs : s = 4 ∨ s = 5 ∨ s = 6 ∨ s = 7 := (by omega); rcases hs with rfl | rfl | rfl | rfl; exact rp83 r ((hS92.rcell ta0 (by decide +kernel)).trans hr) j hj; exact rp84 r ((hS92.rcell ta0 (by decide +kernel)).trans hr) j hj; exact rp85 r ((hS92.rcell ta0 (by decide +kernel)).trans hr) j hj; exact rp86 r ((hS92.rcell ta0 (by decide +kernel)).trans hr) j hj) (fun s r s1 s2 hr j hj => by have hs : s = 8 ∨ s = 9 ∨ s = 10 ∨ s = 11 := (by omega); rcases hs with rfl | rfl | rfl | rfl; exact rp87 r ((hS92.rcell ta0 (by decide +kernel)).trans hr) j hj; exact rp88 r ((hS92.rcell ta0 (by decide +kernel)).trans hr) j hj; exact rp89 r ((hS92.rcell ta0 (by decide +kernel)).trans hr) j hj; exact rp90 r ((hS92.rcell ta0 (by decide +kernel)).trans hr) j hj) (by omega) (by omega), (by have z := (UpZ (Z := gZ) (v := v52) (by omega) hcu hG.ub); exact z)⟩ c93 (((FrN.rf (R := R0) (n := a0) (T := T)).po f75 rfl ta0).tr (FrN.rc rp91 (fun k k1 k2 => by have hk : k = 3 ∨ k = 4 ∨ k = 5 ∨ k = 6 ∨ k = 7 ∨ k = 8 ∨ k = 9 ∨ k = 10 ∨ k = 11 := (by omega); rcases hk with rfl | rfl | rfl | rfl | rfl | rfl | rfl | rfl | rfl <;> exact (hS92.rcell ta0 (by decide +kernel)).symm))) (Nat.lt_succ_self _)
def wik_X10_presentNight : List Nat := [73, 75, 768, 769, 778, 834, 2303, 2367, 2431, 2495, 2559, 2623, 2687, 2751, 2815, 2879, 2943, 3007, 3071, 3135, 3199, 3263, 3327, 3391]
def wrk_X10_presentNight : List Nat := [832, 833]
set_option maxHeartbeats 4000000 in
theorem fk_X10_presentNight {l : Launch} {T : Nat → Nat} {cn : Nat} {K N : Nat → Nat} {I0 : cz_I} {R0 : cz_R} {L0 : cz_L} {d : Int} (hW0 : Wf T cn K N I0 R0 d) (gX : Nat → Nat → Int) (gE : Nat → Nat → Int) (gc : Nat → Int) {a0 : Nat} (ta0 : T a0 = 1) (hX : EvQ I0 R0 a0 gX) (hK : SkQ I0 R0 a0 gX) (hD : DjS R0 a0) (hEa : ∀ al, R0 a0 2 = some al → CVa I0 R0 al gc gE) (hGd : GdE gc gE) (hMs : ∀ nw, R0 a0 6 = some nw → 0 ≤ (I0 nw 0).toInt ∧ (I0 nw 0).toInt ≤ 63) (hNg : NgQ I0 R0 a0 gX gE gc) (hDn : DjN R0 a0) (h1 : 1 ≤ gc 0 ∨ ∀ i, gc i = 0) : ConE l mX10_presentNight [.ref a0] cn K N I0 R0 L0 (ca_r (fun v cn' K' N' I' R' L' => cn = cn' ∧ K = K' ∧ N = N' ∧ L0 = L' ∧ St T cn K N d wik_X10_presentNight wrk_X10_presentNight I0 R0 I' R' ∧ T v = 13 ∧ ((I' a0 11).toInt = 1) ∧ (SkQ I' R0 a0 gX) ∧ (NgQ I' R' a0 gX gE gc) ∧ (R0 a0 10 = some v) ∧ (∀ n, R0 a0 10 = some n → FrN R0 n T I0 I') ∧ (∀ n, R0 a0 10 = some n → ∀ a j, ¬ a = n → R' a j = R0 a j) ∧ True)) := by
  refine ConE.of (by decide +kernel) rfl (Nat.le_of_ble_eq_true rfl) rfl (fun X hX hZ hE => ?_)
  subst hX
  have hS0 : St T cn K N d wik_X10_presentNight wrk_X10_presentNight I0 R0 I0 R0 := St.rf0 hW0
  obtain ⟨a1, d2, ta1⟩ := rf1_2 hW0 ta0
  obtain ⟨a3, d4, ta3⟩ := rf1_6 hW0 ta0
  obtain ⟨a5, d6, ta5⟩ := rf1_8 hW0 ta0
  obtain ⟨a7, d8, ta7⟩ := rf1_10 hW0 ta0
  obtain ⟨a9, d10, ta9⟩ := rf1_13 hW0 ta0
  obtain ⟨a11, d12, ta11⟩ := rf1_14 hW0 ta0
  refine tr_aload_n dX10_presentNight_0 rfl ?_
  obtain ⟨v13, c14⟩ : ∃ v, I0 a0 11 = v := ⟨_, rfl⟩
  have b15 := iv1_11 hS0.1 ta0 c14
  refine q_getZ dX10_presentNight_1 fl10_288 (kR1 hS0.1 ta0) c14 ?_
  refine q_if_ne 38 dX10_presentNight_4 (by decide) (fun h16 => ?_) (fun h16 => ?_)
  · skip
    refine tr_aload_n dX10_presentNight_38 rfl ?_
    refine tr_getR dX10_presentNight_39 fl10_58 (kR1 hS0.1 ta0) d8 ?_
    exact tr_aret hZ dX10_presentNight_42 rfl (by decide) (by decide) ⟨a7, rfl, rfl, rfl, rfl, rfl, hS0, ta7, (by (try rw [c14]); first | done | with_reducible assumption | omega), hK, hNg, d8, (fun n hn => by obtain rfl := Option.some.inj (d8.symm.trans hn); exact (FrN.rf (R := R0) (n := a7) (T := T))), (fun n hn => by obtain rfl := Option.some.inj (d8.symm.trans hn); exact fun _ _ _ => rfl), trivial⟩
  · skip
    refine tr_aload_n dX10_presentNight_7 rfl ?_
    refine tr_getR dX10_presentNight_8 fl10_58 (kR1 hS0.1 ta0) d8 ?_
    refine tr_aload_n dX10_presentNight_11 rfl ?_
    refine tr_getR dX10_presentNight_12 fl10_16 (kR1 hS0.1 ta0) d2 ?_
    refine tr_aload_n dX10_presentNight_15 rfl ?_
    refine q_callVr hE (M' := mX10_presentSky) (as := []) dX10_presentNight_16 lk10_119 inX10_presentSky seX10_presentSky myX10_presentSky (by decide) ⟨by decide, by decide⟩ rfl (kR1 hS0.1 ta0) (Nat.le_of_ble_eq_true rfl) rfl rfl (by decide) (by decide) (fk_X10_presentSky hS0.1 (gX) (gE) (gc) ta0 hX hK hD (fun al ha => hEa al ha) hGd hMs hNg hDn h1) ?_
    rintro a22 cn' K' N' I17 R18 L19 ⟨rfl, rfl, rfl, rfl, rfl, g20, ta22, p23, rp24, rp25, rp26, rp27, rp28, -⟩
    have hS29 := hS0.tr g20 (by decide +kernel) (by decide +kernel)
    have c30 : I17 a0 11 = v13 := (g20.cell ta0 (by decide +kernel)).trans c14
    obtain ⟨v31, c32⟩ : ∃ v, I17 a0 9 = v := ⟨_, rfl⟩
    have b33 := iv1_9 hS29.1 ta0 c32
    rw [c32] at p23
    refine tr_aload_n dX10_presentNight_19 rfl ?_
    refine tr_getR dX10_presentNight_20 fl10_35 (kR1 hS29.1 ta0) d4 ?_
    obtain ⟨v34, c35⟩ : ∃ v, I0 a3 0 = v := ⟨_, rfl⟩
    have hm36 : 0 ≤ (I17 a3 0).toInt ∧ (I17 a3 0).toInt ≤ 63 := by rw [hS29.cell ta3 (by decide +kernel)]; exact hMs _ d4
    rw [((hS29.cell ta3 (by decide +kernel)).trans c35)] at hm36
    refine q_getI dX10_presentNight_23 fl10_181 (kR8 hS29.1 ta3) ((hS29.cell ta3 (by decide +kernel)).trans c35) ?_
    refine tr_aload_n dX10_presentNight_26 rfl ?_
    refine q_callVi hE (M' := mX10_allTurners) (as := []) dX10_presentNight_27 lk10_184 inX10_allTurners seX10_allTurners myX10_allTurners (by decide) ⟨by decide, by decide⟩ rfl (kR1 hS29.1 ta0) (Nat.le_of_ble_eq_true rfl) rfl rfl (by decide) (by decide) (fk_X10_allTurners hS29.1  ta0) ?_
    rintro v42 cn' K' N' I37 R38 L39 ⟨rfl, rfl, rfl, rfl, rfl, rfl, rp43, -⟩
    obtain ⟨v45, c46⟩ : ∃ v, I0 a1 9 = v := ⟨_, rfl⟩
    have b47 := iv2_9 hW0 ta1 c46
    have ht44 := rp43 _ d2
    rw [((hS29.cell ta1 (by decide +kernel)).trans c46)] at ht44
    have ht44b := pw_all (c := v45.toInt) (by omega) (by omega)
    obtain rfl : a5 = a22 := Option.some.inj (d6.symm.trans rp24)
    have hz48m : nzM (mkZ gX (-1) ((I0 a1 3).toInt.toNat + (I0 a3 2).toInt.toNat) gE gc v34.toInt v42.toInt) = v34.toInt := rfl
    have hz48w : nzW (mkZ gX (-1) ((I0 a1 3).toInt.toNat + (I0 a3 2).toInt.toNat) gE gc v34.toInt v42.toInt) = v42.toInt := rfl
    have kw49k : SkW I17 R0 a0 gX := (SkQ.of rp25) (by rw [c32]; omega)
    have kw49t : StW I17 R0 a0 gX gE gc := rp28.1 (by rw [c32]; omega)
    have kw49 : SkZ I17 R0 a5 (mkZ gX (-1) ((I17 a1 3).toInt.toNat + (I17 a3 2).toInt.toNat) gE gc v34.toInt v42.toInt) := SkZ.cl (SkZ.own kw49k kw49t d6 d2 d4 ((hEa _ d2).gs hW0 ta1 hS29 (by decide +kernel) (by decide +kernel)) hGd)
    rw [hS29.cell ta1 (by decide +kernel), hS29.cell ta3 (by decide +kernel)] at kw49
    refine q_callVv hE (M' := mX5_play) (as := [_, _, _, _]) dX10_presentNight_30 lk10_188 inX5_play seX5_play myX5_play (by decide) ⟨by decide, by decide⟩ rfl (kR13 hS29.1 ta7) (Nat.le_of_ble_eq_true rfl) rfl rfl (by decide) (by decide) (fk_X5_play hS29.1 ((mkZ gX (-1) ((I0 a1 3).toInt.toNat + (I0 a3 2).toInt.toNat) gE gc v34.toInt v42.toInt)) ta7 ta1 ta5 (by omega) (by omega) ((hEa _ d2).gs hW0 ta1 hS29 (by decide +kernel) (by decide +kernel)) kw49 (hGd _ _ _ _ _ (by omega) (by omega)) (by first | done | with_reducible assumption | omega) (by first | done | with_reducible assumption | omega)) ?_
    rintro cn' K' N' I50 R51 L52 ⟨rfl, rfl, rfl, rfl, g53, rp56, rp57, rp58, rp59, rp60, rp61, -⟩
    have hS62 := hS29.tr g53 (by decide +kernel) (by decide +kernel)
    have c63 : I50 a0 11 = v13 := (g53.cell ta0 (by decide +kernel)).trans c30
    have c64 : I50 a0 9 = v31 := (g53.cell ta0 (by decide +kernel)).trans c32
    refine tr_aload_n dX10_presentNight_33 rfl ?_
    refine q_iconst dX10_presentNight_34 (by decide) ?_
    intro v65 h66
    refine q_putZ dX10_presentNight_35 fl10_288 (kR1 hS62.1 ta0) (Or.inl rfl) hS62 ta0 (by omega) (by show (0 : Int) ≤ v65.toInt ∧ v65.toInt ≤ (1 : Int); omega) rfl (by decide +kernel) ?_
    intro I67 hS68 e69 f70
    have c71 : I67 a0 9 = v31 := (f70 _ _ (fun q => absurd q.2 (by decide))).trans c64
    refine tr_aload_n dX10_presentNight_38 rfl ?_
    refine tr_getR dX10_presentNight_39 fl10_58 (kR1 hS68.1 ta0) ((hS68.rcell ta0 (by decide +kernel)).trans d8) ?_
    exact tr_aret hZ dX10_presentNight_42 rfl (by decide) (by decide) ⟨a7, rfl, rfl, rfl, rfl, rfl, hS68, ta7, (by (try rw [e69]); first | done | with_reducible assumption | omega), (SkQ.put (SkQ.st (SkQ.of rp25) hW0 ta0 g53 (by decide +kernel) (by decide +kernel)) hW0 ta0 f70 ta0 (by decide) (fun q => absurd q.2 (by decide))), (NgQ.pn rp28 (by rw [c32]; omega) hW0 ta0 g53 (by decide +kernel) (by decide +kernel) (by decide +kernel) d8 d2 rp24 d4 rp56 rp57 rp58 ((hS29.cell ta3 (by decide +kernel)).trans c35) (by have z := (hEa _ d2).ct.2.2.2.1; rw [c46] at z; rw [← z]; exact ht44) (by rw [hS29.cell ta1 (by decide +kernel), hS29.cell ta3 (by decide +kernel)]; exact rp59) f70), d8, (fun n hn => by obtain rfl := Option.some.inj (d8.symm.trans hn); exact ((((FrN.rf (R := R0) (n := a7) (T := T)).st g20 (by decide +kernel)).tr rp60).put f70 ta0 (by decide))), (fun n hn => by obtain rfl := Option.some.inj (d8.symm.trans hn); exact rp61), trivial⟩
set_option maxHeartbeats 4000000 in
theorem fk_X10_isCheese {l : Launch} {T : Nat → Nat} {cn : Nat} {K N : Nat → Nat} {I0 : cz_I} {R0 : cz_R} {L0 : cz_L} {d : Int} (hW0 : Wf T cn K N I0 R0 d)  {a0 : Nat} (ta0 : T a0 = 1) {x1 : Int32} : ConE l mX10_isCheese [.ref a0, .int x1] cn K N I0 R0 L0 (ca_i (fun v cn' K' N' I' R' L' => cn = cn' ∧ K = K' ∧ N = N' ∧ I0 = I' ∧ R0 = R' ∧ L0 = L' ∧ (0 ≤ v.toInt ∧ v.toInt ≤ 1) ∧ (∀ b1, R0 a0 2 = some b1 → (v.toInt = 1 → (0 ≤ x1.toInt ∧ x1.toInt < (I0 b1 5).toInt))) ∧ (∀ b1, R0 a0 2 = some b1 → (v.toInt = 0 → (x1.toInt < 0 ∨ x1.toInt ≥ (I0 b1 5).toInt))) ∧ True)) := by
  refine ConE.of (by decide +kernel) rfl (Nat.le_of_ble_eq_true rfl) rfl (fun X hX hZ hE => ?_)
  subst hX
  obtain ⟨a1, d2, ta1⟩ := rf1_2 hW0 ta0
  obtain ⟨v3, c4⟩ : ∃ v, I0 a1 5 = v := ⟨_, rfl⟩
  have b5 := iv2_5 hW0 ta1 c4
  refine tr_iload_n dX10_isCheese_0 rfl ?_
  refine q_if_lt 19 dX10_isCheese_1 (by decide) (fun h6 => ?_) (fun h6 => ?_)
  · skip
    refine q_iconst dX10_isCheese_19 (by decide) ?_
    intro v7 h8
    exact tr_zret hZ dX10_isCheese_20 rfl (ti_b01 (by omega) (by omega)) (by decide) (by decide) ⟨v7, rfl, rfl, rfl, rfl, rfl, rfl, rfl, (by omega), (fun q0 z0 => by obtain rfl := Option.some.inj ((d2).symm.trans z0); (try rw [c4]); first | done | with_reducible assumption | omega), (fun q0 z0 => by obtain rfl := Option.some.inj ((d2).symm.trans z0); (try rw [c4]); first | done | with_reducible assumption | omega), trivial⟩
  · skip
    refine tr_iload_n dX10_isCheese_4 rfl ?_
    refine tr_aload_n dX10_isCheese_5 rfl ?_
    refine tr_getR dX10_isCheese_6 fl10_16 (kR1 hW0 ta0) d2 ?_
    refine q_getI dX10_isCheese_9 fl10_106 (kR2 hW0 ta1) c4 ?_
    refine q_icmp_ge 19 dX10_isCheese_12 (by decide) (fun h9 => ?_) (fun h9 => ?_)
    · skip
      refine q_iconst dX10_isCheese_19 (by decide) ?_
      intro v10 h11
      exact tr_zret hZ dX10_isCheese_20 rfl (ti_b01 (by omega) (by omega)) (by decide) (by decide) ⟨v10, rfl, rfl, rfl, rfl, rfl, rfl, rfl, (by omega), (fun q0 z0 => by obtain rfl := Option.some.inj ((d2).symm.trans z0); (try rw [c4]); first | done | with_reducible assumption | omega), (fun q0 z0 => by obtain rfl := Option.some.inj ((d2).symm.trans z0); (try rw [c4]); first | done | with_reducible assumption | omega), trivial⟩
    · skip
      refine q_iconst dX10_isCheese_15 (by decide) ?_
      intro v12 h13
      refine tr_goto 20 dX10_isCheese_16 (by decide) ?_
      exact tr_zret hZ dX10_isCheese_20 rfl (ti_b01 (by omega) (by omega)) (by decide) (by decide) ⟨v12, rfl, rfl, rfl, rfl, rfl, rfl, rfl, (by omega), (fun q0 z0 => by obtain rfl := Option.some.inj ((d2).symm.trans z0); (try rw [c4]); first | done | with_reducible assumption | omega), (fun q0 z0 => by obtain rfl := Option.some.inj ((d2).symm.trans z0); (try rw [c4]); first | done | with_reducible assumption | omega), trivial⟩
set_option maxHeartbeats 4000000 in
theorem fk_X5_turnerOf {l : Launch} {T : Nat → Nat} {cn : Nat} {K N : Nat → Nat} {I0 : cz_I} {R0 : cz_R} {L0 : cz_L} {d : Int} (hW0 : Wf T cn K N I0 R0 d) (gZ : cz_N) {a0 : Nat} (ta0 : T a0 = 13) {x1 : Int32} (hx1 : 0 ≤ x1.toInt ∧ x1.toInt ≤ 7) {x2 : Int32} (hx2 : 0 ≤ x2.toInt ∧ x2.toInt ≤ 239) (hP : NgP I0 R0 a0 gZ) (hG : GdN gZ) (hR : NgR I0 R0 a0 gZ (nzc gZ 0).toNat) (pre0 : x1.toInt < (nzc gZ 3)) (pre1 : x2.toInt < (nzc gZ 0)) : ConE l mX5_turnerOf [.ref a0, .int x1, .int x2] cn K N I0 R0 L0 (ca_i (fun v cn' K' N' I' R' L' => cn = cn' ∧ K = K' ∧ N = N' ∧ I0 = I' ∧ R0 = R' ∧ L0 = L' ∧ (v.toInt = nB gZ x2.toInt.toNat x1.toInt.toNat) ∧ True)) := by
  refine ConE.of (by decide +kernel) rfl (Nat.le_of_ble_eq_true rfl) rfl (fun X hX hZ hE => ?_)
  subst hX
  have p1 := pre0
  have p2 := pre1
  obtain ⟨a3, d4, ta3⟩ := rf13_0 hW0 ta0
  obtain ⟨a5, d6, ta5⟩ := rf13_1 hW0 ta0
  obtain ⟨a7, d8, ta7⟩ := rf2_2 hW0 ta3
  obtain ⟨a9, d10, ta9⟩ := rf2_6 hW0 ta3
  obtain ⟨a11, d12, ta11⟩ := rf2_8 hW0 ta3
  obtain ⟨a13, d14, ta13⟩ := rf2_10 hW0 ta3
  obtain ⟨a15, d16, ta15⟩ := rf2_12 hW0 ta3
  obtain ⟨a17, d18, ta17⟩ := rf12_2 hW0 ta5
  obtain ⟨a19, d20, ta19⟩ := rf12_3 hW0 ta5
  obtain ⟨a21, d22, ta21⟩ := rf12_5 hW0 ta5
  obtain ⟨a23, d24, ta23⟩ := rf12_8 hW0 ta5
  obtain ⟨a25, d26, ta25⟩ := rf12_9 hW0 ta5
  obtain ⟨a27, d28, ta27⟩ := rf12_11 hW0 ta5
  obtain ⟨a29, d30, ta29⟩ := rf13_3 hW0 ta0
  obtain ⟨a31, d32, ta31⟩ := rf13_4 hW0 ta0
  obtain ⟨a33, d34, ta33⟩ := rf13_5 hW0 ta0
  obtain ⟨a35, d36, ta35⟩ := rf13_6 hW0 ta0
  obtain ⟨a37, d38, ta37⟩ := rf13_7 hW0 ta0
  obtain ⟨a39, d40, ta39⟩ := rf13_8 hW0 ta0
  obtain ⟨a41, d42, ta41⟩ := rf13_9 hW0 ta0
  obtain ⟨a43, d44, ta43⟩ := rf13_10 hW0 ta0
  obtain ⟨a45, d46, ta45⟩ := rf13_11 hW0 ta0
  obtain ⟨v47, c48⟩ : ∃ v, I0 a3 0 = v := ⟨_, rfl⟩
  have b49 := iv2_0 hW0 ta3 c48
  obtain ⟨v50, c51⟩ : ∃ v, I0 a3 1 = v := ⟨_, rfl⟩
  have b52 := iv2_1 hW0 ta3 c51
  obtain ⟨v53, c54⟩ : ∃ v, I0 a3 5 = v := ⟨_, rfl⟩
  have b55 := iv2_5 hW0 ta3 c54
  obtain ⟨v56, c57⟩ : ∃ v, I0 a3 7 = v := ⟨_, rfl⟩
  obtain ⟨v58, c59⟩ : ∃ v, I0 a3 9 = v := ⟨_, rfl⟩
  have b60 := iv2_9 hW0 ta3 c59
  obtain ⟨v61, c62⟩ : ∃ v, I0 a3 11 = v := ⟨_, rfl⟩
  have b63 := iv2_11 hW0 ta3 c62
  obtain ⟨v64, c65⟩ : ∃ v, I0 a0 2 = v := ⟨_, rfl⟩
  have hA66 := hP _ _ d4 d6
  have hc67 := hA66.1.ct
  rw [c48, c51, c54, c59, c62, c57] at hc67
  have hc67g := hG.cs
  have hc67m := hA66.2.2
  rw [c65] at hc67m
  have hc67n := hG.ms
  refine tr_aload_n dX5_turnerOf_0 rfl ?_
  refine tr_getR dX5_turnerOf_1 fl5_9 (kR13 hW0 ta0) d30 ?_
  refine tr_iload_n dX5_turnerOf_4 rfl ?_
  refine q_iald dX5_turnerOf_5 (kR44 hW0 ta29) (ti_in (nR44 hW0 ta29) (by omega) (by omega)) ?_
  intro v68 c69
  refine q_iconst dX5_turnerOf_6 (by decide) ?_
  intro v70 h71
  refine tr_iload_n dX5_turnerOf_7 rfl ?_
  refine q_imulE (c := 4) dX5_turnerOf_8 (by omega) (by omega) ?_
  intro v72 h73
  refine tr_iushr dX5_turnerOf_9 ?_
  obtain ⟨v74, lx75⟩ : ∃ z, z = (v68.toUInt32 >>> (v72.toUInt32 &&& Int32.toUInt32 31)).toInt32 := ⟨_, rfl⟩
  rw [← lx75]
  refine q_bipush dX5_turnerOf_10 (by decide +kernel) ?_
  intro v76 h77
  refine tr_iand dX5_turnerOf_12 ?_
  obtain ⟨v78, lx79⟩ : ∃ z, z = v74 &&& v76 := ⟨_, rfl⟩
  rw [← lx79]
  have hn80 := nbN (k := x1.toInt.toNat) (show Nib v68 _ from by have z := hR.1 _ d30 x2.toInt.toNat (by omega); rw [show I0 a29 x2.toInt.toNat = v68 from c69] at z; exact z) (by omega) (by omega) lx75 lx79 (by omega)
  rw [if_pos (c := x2.toInt.toNat < (nzc gZ 0).toNat ∧ ((x1.toInt.toNat : Nat) : Int) < nzc gZ 3) ⟨by omega, by omega⟩] at hn80
  have hn80b := nB_b (Z := gZ) (m := x2.toInt.toNat) (k := x1.toInt.toNat) (by omega)
  have hn80r : 0 ≤ v78.toInt ∧ v78.toInt ≤ 5 := by rw [hn80]; split <;> omega
  refine tr_istore_n dX5_turnerOf_13 (by decide) (by decide) ?_
  refine tr_iload_n dX5_turnerOf_14 rfl ?_
  refine q_if_ne 23 dX5_turnerOf_15 (by decide) (fun h81 => ?_) (fun h81 => ?_)
  · skip
    refine tr_iload_n dX5_turnerOf_23 rfl ?_
    refine q_iconst dX5_turnerOf_24 (by decide) ?_
    intro v82 h83
    refine q_isubE dX5_turnerOf_25 (by intros; omega) ?_
    intro v84 h85
    exact tr_iret hZ dX5_turnerOf_26 rfl (by decide) (by decide) ⟨v84, rfl, rfl, rfl, rfl, rfl, rfl, rfl, (by have b := nB_b (Z := gZ) (m := x2.toInt.toNat) (k := x1.toInt.toNat) (by omega); have z := hn80; split at z <;> omega), trivial⟩
  · skip
    refine q_bipush dX5_turnerOf_18 (by decide +kernel) ?_
    intro v86 h87
    refine tr_goto 26 dX5_turnerOf_20 (by decide) ?_
    exact tr_iret hZ dX5_turnerOf_26 rfl (by decide) (by decide) ⟨v86, rfl, rfl, rfl, rfl, rfl, rfl, rfl, (by have b := nB_b (Z := gZ) (m := x2.toInt.toNat) (k := x1.toInt.toNat) (by omega); have z := hn80; split at z <;> omega), trivial⟩
set_option maxHeartbeats 4000000 in
theorem fk_X5_isTurned {l : Launch} {T : Nat → Nat} {cn : Nat} {K N : Nat → Nat} {I0 : cz_I} {R0 : cz_R} {L0 : cz_L} {d : Int} (hW0 : Wf T cn K N I0 R0 d) (gZ : cz_N) {a0 : Nat} (ta0 : T a0 = 13) {x1 : Int32} (hx1 : 0 ≤ x1.toInt ∧ x1.toInt ≤ 7) {x2 : Int32} (hx2 : 0 ≤ x2.toInt ∧ x2.toInt ≤ 239) (hP : NgP I0 R0 a0 gZ) (hG : GdN gZ) (hR : NgR I0 R0 a0 gZ (nzc gZ 0).toNat) (pre0 : x1.toInt < (nzc gZ 3)) (pre1 : x2.toInt < (nzc gZ 0)) : ConE l mX5_isTurned [.ref a0, .int x1, .int x2] cn K N I0 R0 L0 (ca_i (fun v cn' K' N' I' R' L' => cn = cn' ∧ K = K' ∧ N = N' ∧ I0 = I' ∧ R0 = R' ∧ L0 = L' ∧ (0 ≤ v.toInt ∧ v.toInt ≤ 1) ∧ (v.toInt = if nB gZ x2.toInt.toNat x1.toInt.toNat = -2 then 0 else 1) ∧ True)) := by
  refine ConE.of (by decide +kernel) rfl (Nat.le_of_ble_eq_true rfl) rfl (fun X hX hZ hE => ?_)
  subst hX
  have p1 := pre0
  have p2 := pre1
  obtain ⟨a3, d4, ta3⟩ := rf13_0 hW0 ta0
  obtain ⟨a5, d6, ta5⟩ := rf13_1 hW0 ta0
  obtain ⟨a7, d8, ta7⟩ := rf2_2 hW0 ta3
  obtain ⟨a9, d10, ta9⟩ := rf2_6 hW0 ta3
  obtain ⟨a11, d12, ta11⟩ := rf2_8 hW0 ta3
  obtain ⟨a13, d14, ta13⟩ := rf2_10 hW0 ta3
  obtain ⟨a15, d16, ta15⟩ := rf2_12 hW0 ta3
  obtain ⟨a17, d18, ta17⟩ := rf12_2 hW0 ta5
  obtain ⟨a19, d20, ta19⟩ := rf12_3 hW0 ta5
  obtain ⟨a21, d22, ta21⟩ := rf12_5 hW0 ta5
  obtain ⟨a23, d24, ta23⟩ := rf12_8 hW0 ta5
  obtain ⟨a25, d26, ta25⟩ := rf12_9 hW0 ta5
  obtain ⟨a27, d28, ta27⟩ := rf12_11 hW0 ta5
  obtain ⟨a29, d30, ta29⟩ := rf13_3 hW0 ta0
  obtain ⟨a31, d32, ta31⟩ := rf13_4 hW0 ta0
  obtain ⟨a33, d34, ta33⟩ := rf13_5 hW0 ta0
  obtain ⟨a35, d36, ta35⟩ := rf13_6 hW0 ta0
  obtain ⟨a37, d38, ta37⟩ := rf13_7 hW0 ta0
  obtain ⟨a39, d40, ta39⟩ := rf13_8 hW0 ta0
  obtain ⟨a41, d42, ta41⟩ := rf13_9 hW0 ta0
  obtain ⟨a43, d44, ta43⟩ := rf13_10 hW0 ta0
  obtain ⟨a45, d46, ta45⟩ := rf13_11 hW0 ta0
  obtain ⟨v47, c48⟩ : ∃ v, I0 a3 0 = v := ⟨_, rfl⟩
  have b49 := iv2_0 hW0 ta3 c48
  obtain ⟨v50, c51⟩ : ∃ v, I0 a3 1 = v := ⟨_, rfl⟩
  have b52 := iv2_1 hW0 ta3 c51
  obtain ⟨v53, c54⟩ : ∃ v, I0 a3 5 = v := ⟨_, rfl⟩
  have b55 := iv2_5 hW0 ta3 c54
  obtain ⟨v56, c57⟩ : ∃ v, I0 a3 7 = v := ⟨_, rfl⟩
  obtain ⟨v58, c59⟩ : ∃ v, I0 a3 9 = v := ⟨_, rfl⟩
  have b60 := iv2_9 hW0 ta3 c59
  obtain ⟨v61, c62⟩ : ∃ v, I0 a3 11 = v := ⟨_, rfl⟩
  have b63 := iv2_11 hW0 ta3 c62
  obtain ⟨v64, c65⟩ : ∃ v, I0 a0 2 = v := ⟨_, rfl⟩
  have hA66 := hP _ _ d4 d6
  have hc67 := hA66.1.ct
  rw [c48, c51, c54, c59, c62, c57] at hc67
  have hc67g := hG.cs
  have hc67m := hA66.2.2
  rw [c65] at hc67m
  have hc67n := hG.ms
  refine tr_aload_n dX5_isTurned_0 rfl ?_
  refine tr_iload_n dX5_isTurned_1 rfl ?_
  refine tr_iload_n dX5_isTurned_2 rfl ?_
  refine q_callVi hE (M' := mX5_turnerOf) (as := [_, _]) dX5_isTurned_3 lk5_177 inX5_turnerOf seX5_turnerOf myX5_turnerOf (by decide) ⟨by decide, by decide⟩ rfl (kR13 hW0 ta0) (Nat.le_of_ble_eq_true rfl) rfl rfl (by decide) (by decide) (fk_X5_turnerOf hW0 (gZ) ta0 (by omega) (by omega) hP hG hR (by first | done | with_reducible assumption | omega) (by first | done | with_reducible assumption | omega)) ?_
  rintro v73 cn' K' N' I68 R69 L70 ⟨rfl, rfl, rfl, rfl, rfl, rfl, rp74, -⟩
  refine q_bipush dX5_isTurned_6 (by decide +kernel) ?_
  intro v75 h76
  refine q_icmp_eq 15 dX5_isTurned_8 (by decide) (fun h77 => ?_) (fun h77 => ?_)
  · skip
    refine q_iconst dX5_isTurned_15 (by decide) ?_
    intro v78 h79
    exact tr_zret hZ dX5_isTurned_16 rfl (ti_b01 (by omega) (by omega)) (by decide) (by decide) ⟨v78, rfl, rfl, rfl, rfl, rfl, rfl, rfl, (by omega), (by have z := rp74; split <;> omega), trivial⟩
  · skip
    refine q_iconst dX5_isTurned_11 (by decide) ?_
    intro v80 h81
    refine tr_goto 16 dX5_isTurned_12 (by decide) ?_
    exact tr_zret hZ dX5_isTurned_16 rfl (ti_b01 (by omega) (by omega)) (by decide) (by decide) ⟨v80, rfl, rfl, rfl, rfl, rfl, rfl, rfl, (by omega), (by have z := rp74; split <;> omega), trivial⟩
set_option maxHeartbeats 4000000 in
theorem fk_X5_minuteOfVein {l : Launch} {T : Nat → Nat} {cn : Nat} {K N : Nat → Nat} {I0 : cz_I} {R0 : cz_R} {L0 : cz_L} {d : Int} (hW0 : Wf T cn K N I0 R0 d) (gZ : cz_N) {a0 : Nat} (ta0 : T a0 = 13) {x1 : Int32} (hx1 : 0 ≤ x1.toInt ∧ x1.toInt ≤ 7) {x2 : Int32} (hP : NgP I0 R0 a0 gZ) (hG : GdN gZ) (hR : NgR I0 R0 a0 gZ (nzc gZ 0).toNat) (pre0 : x1.toInt < (nzc gZ 3)) : ConE l mX5_minuteOfVein [.ref a0, .int x1, .int x2] cn K N I0 R0 L0 (ca_i (fun v cn' K' N' I' R' L' => cn = cn' ∧ K = K' ∧ N = N' ∧ I0 = I' ∧ R0 = R' ∧ L0 = L' ∧ ((-1) ≤ v.toInt ∧ v.toInt ≤ 239) ∧ (Chg (vnF gZ x1.toInt.toNat) (nzc gZ 0) x2.toInt v.toInt) ∧ True)) := by
  refine ConE.of (by decide +kernel) rfl (Nat.le_of_ble_eq_true rfl) rfl (fun X hX hZ hE => ?_)
  subst hX
  have p1 := pre0
  obtain ⟨a2, d3, ta2⟩ := rf13_0 hW0 ta0
  obtain ⟨a4, d5, ta4⟩ := rf13_1 hW0 ta0
  obtain ⟨a6, d7, ta6⟩ := rf2_2 hW0 ta2
  obtain ⟨a8, d9, ta8⟩ := rf2_6 hW0 ta2
  obtain ⟨a10, d11, ta10⟩ := rf2_8 hW0 ta2
  obtain ⟨a12, d13, ta12⟩ := rf2_10 hW0 ta2
  obtain ⟨a14, d15, ta14⟩ := rf2_12 hW0 ta2
  obtain ⟨a16, d17, ta16⟩ := rf12_2 hW0 ta4
  obtain ⟨a18, d19, ta18⟩ := rf12_3 hW0 ta4
  obtain ⟨a20, d21, ta20⟩ := rf12_5 hW0 ta4
  obtain ⟨a22, d23, ta22⟩ := rf12_8 hW0 ta4
  obtain ⟨a24, d25, ta24⟩ := rf12_9 hW0 ta4
  obtain ⟨a26, d27, ta26⟩ := rf12_11 hW0 ta4
  obtain ⟨a28, d29, ta28⟩ := rf13_3 hW0 ta0
  obtain ⟨a30, d31, ta30⟩ := rf13_4 hW0 ta0
  obtain ⟨a32, d33, ta32⟩ := rf13_5 hW0 ta0
  obtain ⟨a34, d35, ta34⟩ := rf13_6 hW0 ta0
  obtain ⟨a36, d37, ta36⟩ := rf13_7 hW0 ta0
  obtain ⟨a38, d39, ta38⟩ := rf13_8 hW0 ta0
  obtain ⟨a40, d41, ta40⟩ := rf13_9 hW0 ta0
  obtain ⟨a42, d43, ta42⟩ := rf13_10 hW0 ta0
  obtain ⟨a44, d45, ta44⟩ := rf13_11 hW0 ta0
  obtain ⟨v46, c47⟩ : ∃ v, I0 a2 0 = v := ⟨_, rfl⟩
  have b48 := iv2_0 hW0 ta2 c47
  obtain ⟨v49, c50⟩ : ∃ v, I0 a2 1 = v := ⟨_, rfl⟩
  have b51 := iv2_1 hW0 ta2 c50
  obtain ⟨v52, c53⟩ : ∃ v, I0 a2 5 = v := ⟨_, rfl⟩
  have b54 := iv2_5 hW0 ta2 c53
  obtain ⟨v55, c56⟩ : ∃ v, I0 a2 7 = v := ⟨_, rfl⟩
  obtain ⟨v57, c58⟩ : ∃ v, I0 a2 9 = v := ⟨_, rfl⟩
  have b59 := iv2_9 hW0 ta2 c58
  obtain ⟨v60, c61⟩ : ∃ v, I0 a2 11 = v := ⟨_, rfl⟩
  have b62 := iv2_11 hW0 ta2 c61
  obtain ⟨v63, c64⟩ : ∃ v, I0 a0 2 = v := ⟨_, rfl⟩
  have hA65 := hP _ _ d3 d5
  have hc66 := hA65.1.ct
  rw [c47, c50, c53, c58, c61, c56] at hc66
  have hc66g := hG.cs
  have hc66m := hA65.2.2
  rw [c64] at hc66m
  have hc66n := hG.ms
  refine q_iconst dX5_minuteOfVein_0 (by decide) ?_
  intro v67 h68
  refine tr_istore_n dX5_minuteOfVein_1 (by decide) (by decide) ?_
  refine q_iconst dX5_minuteOfVein_2 (by decide) ?_
  intro v69 h70
  refine tr_istore dX5_minuteOfVein_3 (by decide) (by decide) ?_
  have lp83 : ∀ (fu : Nat) (ls : Nat → Option Value) (v71 : Int32) (v72 : Int32), ls 0 = some (.ref a0) → ls 1 = some (.int x1) → ls 2 = some (.int x2) → ls 3 = some (.int v71) → ls 4 = some (.int v72) → 0 ≤ v72.toInt → v72.toInt ≤ 240 → 0 ≤ v71.toInt → v71.toInt ≤ v72.toInt → (v71.toInt = cnM (vnF gZ x1.toInt.toNat) v72.toInt.toNat ∧ ∀ k : Nat, (k : Int) < v72.toInt → (vnF gZ x1.toInt.toNat) k = 1 → ¬ cnM (vnF gZ x1.toInt.toNat) k = x2.toInt) → (-v72.toInt + 2147483647).toNat < fu → Tr X mX5_minuteOfVein 5 ls [] cn K N I0 R0 L0 0 0 := by
    intro fu
    induction fu with
    | zero => intros; rename_i hz; exact absurd hz (Nat.not_lt_zero _)
    | succ fu ih83 =>
      intro ls v71 v72 hl73 hl74 hl75 hl76 hl77 g78 g79 g80 g81 rw82 hm83
      refine tr_iload dX5_minuteOfVein_5 hl77 ?_
      refine tr_aload_n dX5_minuteOfVein_7 hl73 ?_
      refine tr_getR dX5_minuteOfVein_8 fl5_39 (kR13 hW0 ta0) d3 ?_
      refine q_getI dX5_minuteOfVein_11 fl5_174 (kR2 hW0 ta2) c47 ?_
      refine q_icmp_ge 44 dX5_minuteOfVein_14 (by decide) (fun h85 => ?_) (fun h85 => ?_)
      · skip
        refine q_iconst dX5_minuteOfVein_44 (by decide) ?_
        intro v86 h87
        exact tr_iret hZ dX5_minuteOfVein_45 rfl (by decide) (by decide) ⟨v86, rfl, rfl, rfl, rfl, rfl, rfl, rfl, (by omega), (Or.inr ⟨by omega, fun k hk => rw82.2 k (by omega)⟩), trivial⟩
      · skip
        refine tr_aload_n dX5_minuteOfVein_17 hl73 ?_
        refine tr_iload_n dX5_minuteOfVein_18 hl74 ?_
        refine tr_iload dX5_minuteOfVein_19 hl77 ?_
        refine q_callVi hE (M' := mX5_isTurned) (as := [_, _]) dX5_minuteOfVein_21 lk5_180 inX5_isTurned seX5_isTurned myX5_isTurned (by decide) ⟨by decide, by decide⟩ rfl (kR13 hW0 ta0) (Nat.le_of_ble_eq_true rfl) rfl rfl (by decide) (by decide) (fk_X5_isTurned hW0 (gZ) ta0 (by omega) (by omega) hP hG hR (by first | done | with_reducible assumption | omega) (by first | done | with_reducible assumption | omega)) ?_
        rintro v93 cn' K' N' I88 R89 L90 ⟨rfl, rfl, rfl, rfl, rfl, rfl, h94, rp95, -⟩
        refine q_if_eq 38 dX5_minuteOfVein_24 (by decide) (fun h96 => ?_) (fun h96 => ?_)
        · skip
          refine q_iincE dX5_minuteOfVein_38 hl77 (by decide) (by decide) (by intros; omega) ?_
          intro v97 h98
          refine tr_goto 5 dX5_minuteOfVein_41 (by decide) ?_
          exact ih83 _ v71 v97 hl73 hl74 hl75 hl76 rfl (by omega) (by omega) (by omega) (by omega) (by have w := rw82; have e := rp95; have e2 : (vnF gZ x1.toInt.toNat) v72.toInt.toNat = (if nB gZ v72.toInt.toNat x1.toInt.toNat = -2 then 0 else 1) := rfl; refine ⟨by rw [cnM_s (l := v72.toInt) (by omega) (by omega), e2]; have w1 := w.1; omega, fun k hk hf => ?_⟩; by_cases z : (k : Int) < v72.toInt; exact w.2 k z hf; obtain rfl : k = v72.toInt.toNat := (by omega); have w1 := w.1; rw [e2] at hf; intro hq; omega) (by omega)
        · skip
          refine tr_iload_n dX5_minuteOfVein_27 hl76 ?_
          refine tr_iload_n dX5_minuteOfVein_28 hl75 ?_
          refine q_icmp_ne 35 dX5_minuteOfVein_29 (by decide) (fun h99 => ?_) (fun h99 => ?_)
          · skip
            refine q_iincE dX5_minuteOfVein_35 hl76 (by decide) (by decide) (by have z0 := x2.toInt_lt; have y0 := x2.le_toInt; intros; omega) ?_
            intro v100 h101
            refine q_iincE dX5_minuteOfVein_38 hl77 (by decide) (by decide) (by intros; omega) ?_
            intro v102 h103
            refine tr_goto 5 dX5_minuteOfVein_41 (by decide) ?_
            exact ih83 _ v100 v102 hl73 hl74 hl75 rfl rfl (by omega) (by omega) (by omega) (by omega) (by have w := rw82; have e := rp95; have e2 : (vnF gZ x1.toInt.toNat) v72.toInt.toNat = (if nB gZ v72.toInt.toNat x1.toInt.toNat = -2 then 0 else 1) := rfl; refine ⟨by rw [cnM_s (l := v72.toInt) (by omega) (by omega), e2]; have w1 := w.1; omega, fun k hk hf => ?_⟩; by_cases z : (k : Int) < v72.toInt; exact w.2 k z hf; obtain rfl : k = v72.toInt.toNat := (by omega); have w1 := w.1; rw [e2] at hf; intro hq; omega) (by omega)
          · skip
            refine tr_iload dX5_minuteOfVein_32 hl77 ?_
            exact tr_iret hZ dX5_minuteOfVein_34 rfl (by decide) (by decide) ⟨v72, rfl, rfl, rfl, rfl, rfl, rfl, rfl, (by omega), (Or.inl ⟨v72.toInt.toNat, by omega, by omega, (by have e := rp95; show (if nB gZ v72.toInt.toNat x1.toInt.toNat = -2 then (0 : Int) else 1) = 1; omega), by have w := rw82.1; omega⟩), trivial⟩
  exact lp83 _ _ v67 v69 rfl rfl rfl rfl rfl (by omega) (by omega) (by omega) (by omega) ⟨by rw [show v69.toInt.toNat = 0 by omega]; show _ = (0 : Int); omega, fun k hk => by exfalso; omega⟩ (Nat.lt_succ_self _)
def wik_X10_veinMinute : List Nat := [73, 75, 768, 769, 778, 834, 2303, 2367, 2431, 2495, 2559, 2623, 2687, 2751, 2815, 2879, 2943, 3007, 3071, 3135, 3199, 3263, 3327, 3391]
def wrk_X10_veinMinute : List Nat := [832, 833]
def Cs_X10_veinMinute (T : Nat → Nat) (I0 : cz_I) (R0 : cz_R) (a0 : Nat) (gX : Nat → Nat → Int) (gE : Nat → Nat → Int) (gc : Nat → Int) (x1 : Int32) (x2 : Int32) (v : Int32) (I' : cz_I) (R' : cz_R) : Prop :=
  ((∀ b1, R0 a0 2 = some b1 → (x1.toInt < 0 ∨ x1.toInt ≥ (I0 b1 5).toInt)) ∧ (v.toInt = -1) ∧ True) ∨
  ((0 ≤ x1.toInt) ∧ (∀ b1, R0 a0 2 = some b1 → x1.toInt < (I0 b1 5).toInt) ∧ (-1 ≤ v.toInt) ∧ (v.toInt ≤ 239) ∧ (∀ al nw, R0 a0 2 = some al → R0 a0 6 = some nw → Chg (vnF (NgZ I0 al nw gX gE gc) x1.toInt.toNat) (gc 0) x2.toInt v.toInt) ∧ True)
set_option maxHeartbeats 4000000 in
theorem fk_X10_veinMinute {l : Launch} {T : Nat → Nat} {cn : Nat} {K N : Nat → Nat} {I0 : cz_I} {R0 : cz_R} {L0 : cz_L} {d : Int} (hW0 : Wf T cn K N I0 R0 d) (gX : Nat → Nat → Int) (gE : Nat → Nat → Int) (gc : Nat → Int) {a0 : Nat} (ta0 : T a0 = 1) {x1 : Int32} {x2 : Int32} (hX : EvQ I0 R0 a0 gX) (hK : SkQ I0 R0 a0 gX) (hD : DjS R0 a0) (hEa : ∀ al, R0 a0 2 = some al → CVa I0 R0 al gc gE) (hGd : GdE gc gE) (hMs : ∀ nw, R0 a0 6 = some nw → 0 ≤ (I0 nw 0).toInt ∧ (I0 nw 0).toInt ≤ 63) (hNg : NgQ I0 R0 a0 gX gE gc) (hDn : DjN R0 a0) (h1 : 1 ≤ gc 0 ∨ ∀ i, gc i = 0) : ConE l mX10_veinMinute [.ref a0, .int x1, .int x2] cn K N I0 R0 L0 (ca_i (fun v cn' K' N' I' R' L' => cn = cn' ∧ K = K' ∧ N = N' ∧ L0 = L' ∧ St T cn K N d wik_X10_veinMinute wrk_X10_veinMinute I0 R0 I' R' ∧ ((-1) ≤ v.toInt ∧ v.toInt ≤ 239) ∧ (SkQ I' R0 a0 gX) ∧ (NgQ I' R' a0 gX gE gc) ∧ Cs_X10_veinMinute T I0 R0 a0 gX gE gc x1 x2 v I' R' ∧ True)) := by
  refine ConE.of (by decide +kernel) rfl (Nat.le_of_ble_eq_true rfl) rfl (fun X hX hZ hE => ?_)
  subst hX
  have hS0 : St T cn K N d wik_X10_veinMinute wrk_X10_veinMinute I0 R0 I0 R0 := St.rf0 hW0
  obtain ⟨a1, d2, ta1⟩ := rf1_2 hW0 ta0
  obtain ⟨v3, c4⟩ : ∃ v, I0 a1 5 = v := ⟨_, rfl⟩
  have b5 := iv2_5 hW0 ta1 c4
  obtain ⟨a6, d7, ta6⟩ := rf1_6 hW0 ta0
  obtain ⟨a8, d9, ta8⟩ := rf1_8 hW0 ta0
  obtain ⟨a10, d11, ta10⟩ := rf1_10 hW0 ta0
  obtain ⟨a12, d13, ta12⟩ := rf1_13 hW0 ta0
  obtain ⟨a14, d15, ta14⟩ := rf1_14 hW0 ta0
  obtain ⟨v16, c17⟩ : ∃ v, I0 a1 0 = v := ⟨_, rfl⟩
  have b18 := iv2_0 hW0 ta1 c17
  obtain ⟨v19, c20⟩ : ∃ v, I0 a1 1 = v := ⟨_, rfl⟩
  have b21 := iv2_1 hW0 ta1 c20
  obtain ⟨v22, c23⟩ : ∃ v, I0 a1 3 = v := ⟨_, rfl⟩
  have b24 := iv2_3 hW0 ta1 c23
  obtain ⟨v25, c26⟩ : ∃ v, I0 a1 9 = v := ⟨_, rfl⟩
  have b27 := iv2_9 hW0 ta1 c26
  obtain ⟨v28, c29⟩ : ∃ v, I0 a1 11 = v := ⟨_, rfl⟩
  have b30 := iv2_11 hW0 ta1 c29
  obtain ⟨v31, c32⟩ : ∃ v, I0 a6 0 = v := ⟨_, rfl⟩
  obtain ⟨v33, c34⟩ : ∃ v, I0 a6 2 = v := ⟨_, rfl⟩
  have b35 := iv8_2 hW0 ta6 c34
  have hc36 := (hEa _ d2).ct
  rw [c17, c20, c4, c26, c29] at hc36
  have hc36m := hMs _ d7
  have hc36g := hGd.own hc36m gX (-1) ((I0 a1 3).toInt.toNat + (I0 a6 2).toInt.toNat)
  rw [c32] at hc36m
  have hc36z0 : nzc ((NgZ I0 a1 a6 gX gE gc)) 0 = gc 0 := rfl
  have hc36z1 : nzc ((NgZ I0 a1 a6 gX gE gc)) 1 = gc 1 := rfl
  have hc36z3 : nzc ((NgZ I0 a1 a6 gX gE gc)) 3 = gc 3 := rfl
  have hc36z4 : nzc ((NgZ I0 a1 a6 gX gE gc)) 4 = gc 4 := rfl
  have hc36z5 : nzc ((NgZ I0 a1 a6 gX gE gc)) 5 = gc 5 := rfl
  refine tr_aload_n dX10_veinMinute_0 rfl ?_
  refine tr_iload_n dX10_veinMinute_1 rfl ?_
  refine q_callVi hE (M' := mX10_isCheese) (as := [_]) dX10_veinMinute_2 lk10_195 inX10_isCheese seX10_isCheese myX10_isCheese (by decide) ⟨by decide, by decide⟩ rfl (kR1 hS0.1 ta0) (Nat.le_of_ble_eq_true rfl) rfl rfl (by decide) (by decide) (fk_X10_isCheese hS0.1  ta0) ?_
  rintro v42 cn' K' N' I37 R38 L39 ⟨rfl, rfl, rfl, rfl, rfl, rfl, h43, p44, p45, -⟩
  have p46 := p44 _ d2
  clear p44
  rw [c4] at p46
  have p47 := p45 _ d2
  clear p45
  rw [c4] at p47
  refine q_if_eq 20 dX10_veinMinute_5 (by decide) (fun h48 => ?_) (fun h48 => ?_)
  · skip
    refine q_iconst dX10_veinMinute_20 (by decide) ?_
    intro v49 h50
    exact tr_iret hZ dX10_veinMinute_21 rfl (by decide) (by decide) ⟨v49, rfl, rfl, rfl, rfl, rfl, hS0, (by omega), hK, hNg, (by first | exact Or.inl ⟨(fun q0 z0 => by obtain rfl := Option.some.inj ((d2).symm.trans z0); (try rw [c4]); first | done | with_reducible assumption | omega), (by first | done | with_reducible assumption | omega), trivial⟩ | exact Or.inr (⟨(by first | done | with_reducible assumption | omega), (fun q0 z0 => by obtain rfl := Option.some.inj ((d2).symm.trans z0); (try rw [c4]); first | done | with_reducible assumption | omega), (by first | done | with_reducible assumption | omega), (by first | done | with_reducible assumption | omega), (by exfalso; omega), trivial⟩)), trivial⟩
  · skip
    refine tr_aload_n dX10_veinMinute_8 rfl ?_
    refine q_callVr hE (M' := mX10_presentNight) (as := []) dX10_veinMinute_9 lk10_155 inX10_presentNight seX10_presentNight myX10_presentNight (by decide) ⟨by decide, by decide⟩ rfl (kR1 hS0.1 ta0) (Nat.le_of_ble_eq_true rfl) rfl rfl (by decide) (by decide) (fk_X10_presentNight hS0.1 (gX) (gE) (gc) ta0 hX hK hD (fun al ha => hEa al ha) hGd hMs hNg hDn h1) ?_
    rintro a56 cn' K' N' I51 R52 L53 ⟨rfl, rfl, rfl, rfl, g54, ta56, p57, rp58, rp59, rp60, rp61, rp62, -⟩
    have hS63 := hS0.tr g54 (by decide +kernel) (by decide +kernel)
    obtain ⟨v64, c65⟩ : ∃ v, I51 a0 11 = v := ⟨_, rfl⟩
    have b66 := iv1_11 hS63.1 ta0 c65
    rw [c65] at p57
    have hq67 := NgP.own (n := a56) rp59 (SkQ.rc rp58 hW0 ta0 (R13 hS63 (by decide +kernel))) (by rw [c65]; omega) ((g54.rcell ta0 (by decide +kernel)).trans rp60) ((hS63.rcell ta0 (by decide +kernel)).trans d9) ((hS63.rcell ta0 (by decide +kernel)).trans d2) ((hS63.rcell ta0 (by decide +kernel)).trans d7) ((hEa _ d2).gs hW0 ta1 hS63 (by decide +kernel) (by decide +kernel)) hGd
    have hq67z : NgZ I51 a1 a6 gX gE gc = (NgZ I0 a1 a6 gX gE gc) := by unfold NgZ; rw [hS63.cell ta1 (by decide +kernel), hS63.cell ta6 (by decide +kernel), hS63.cell ta6 (by decide +kernel)]
    rw [hq67z] at hq67
    refine tr_iload_n dX10_veinMinute_12 rfl ?_
    refine tr_iload_n dX10_veinMinute_13 rfl ?_
    refine q_callVi hE (M' := mX5_minuteOfVein) (as := [_, _]) dX10_veinMinute_14 lk10_371 inX5_minuteOfVein seX5_minuteOfVein myX5_minuteOfVein (by decide) ⟨by decide, by decide⟩ rfl (kR13 hS63.1 ta56) (Nat.le_of_ble_eq_true rfl) rfl rfl (by decide) (by decide) (fk_X5_minuteOfVein hS63.1 ((NgZ I0 a1 a6 gX gE gc)) ta56 (by omega) hq67.1 hc36g hq67.2 (by first | done | with_reducible assumption | omega)) ?_
    rintro v73 cn' K' N' I68 R69 L70 ⟨rfl, rfl, rfl, rfl, rfl, rfl, h74, rp75, -⟩
    refine tr_goto 21 dX10_veinMinute_17 (by decide) ?_
    exact tr_iret hZ dX10_veinMinute_21 rfl (by decide) (by decide) ⟨v73, rfl, rfl, rfl, rfl, rfl, hS63, (by omega), rp58, rp59, (by first | exact Or.inl ⟨(fun q0 z0 => by obtain rfl := Option.some.inj ((d2).symm.trans z0); (try rw [c4]); first | done | with_reducible assumption | omega), (by first | done | with_reducible assumption | omega), trivial⟩ | exact Or.inr (⟨(by first | done | with_reducible assumption | omega), (fun q0 z0 => by obtain rfl := Option.some.inj ((d2).symm.trans z0); (try rw [c4]); first | done | with_reducible assumption | omega), (by first | done | with_reducible assumption | omega), (by first | done | with_reducible assumption | omega), (fun al nw h2 h6 => by obtain rfl := Option.some.inj (d2.symm.trans h2); obtain rfl := Option.some.inj (d7.symm.trans h6); exact rp75), trivial⟩)), trivial⟩
set_option maxHeartbeats 4000000 in
theorem fk_X10_allCalls {l : Launch} {T : Nat → Nat} {cn : Nat} {K N : Nat → Nat} {I0 : cz_I} {R0 : cz_R} {L0 : cz_L} {d : Int} (hW0 : Wf T cn K N I0 R0 d)  {a0 : Nat} (ta0 : T a0 = 1) : ConE l mX10_allCalls [.ref a0] cn K N I0 R0 L0 (ca_i (fun v cn' K' N' I' R' L' => cn = cn' ∧ K = K' ∧ N = N' ∧ I0 = I' ∧ R0 = R' ∧ L0 = L' ∧ (∀ al, R0 a0 2 = some al → v.toInt = pw (I0 al 11).toInt - 1) ∧ True)) := by
  refine ConE.of (by decide +kernel) rfl (Nat.le_of_ble_eq_true rfl) rfl (fun X hX hZ hE => ?_)
  subst hX
  obtain ⟨a1, d2, ta1⟩ := rf1_2 hW0 ta0
  refine q_iconst dX10_allCalls_0 (by decide) ?_
  intro v3 h4
  refine tr_aload_n dX10_allCalls_1 rfl ?_
  refine tr_getR dX10_allCalls_2 fl10_16 (kR1 hW0 ta0) d2 ?_
  obtain ⟨v5, c6⟩ : ∃ v, I0 a1 11 = v := ⟨_, rfl⟩
  have b7 := iv2_11 hW0 ta1 c6
  refine q_getI dX10_allCalls_5 fl10_278 (kR2 hW0 ta1) c6 ?_
  refine tr_ishl dX10_allCalls_8 ?_
  obtain ⟨v8, lx9⟩ : ∃ z, z = v3 <<< (v5 &&& 31) := ⟨_, rfl⟩
  rw [← lx9]
  refine q_iconst dX10_allCalls_9 (by decide) ?_
  intro v10 h11
  refine tr_isub dX10_allCalls_10 ?_
  obtain ⟨v12, lx13⟩ : ∃ z, z = v8 - v10 := ⟨_, rfl⟩
  rw [← lx13]
  exact tr_iret hZ dX10_allCalls_11 rfl (by decide) (by decide) ⟨v12, rfl, rfl, rfl, rfl, rfl, rfl, rfl, (fun al hal => by obtain rfl := Option.some.inj (d2.symm.trans hal); rw [c6, lx13, lx9]; exact allC (by omega) (by omega) (by omega) (by omega)), trivial⟩
set_option maxHeartbeats 4000000 in
theorem fk_X0_costOf {l : Launch} {T : Nat → Nat} {cn : Nat} {K N : Nat → Nat} {I0 : cz_I} {R0 : cz_R} {L0 : cz_L} {d : Int} (hW0 : Wf T cn K N I0 R0 d) (gZ : cz_N) {a0 : Nat} (ta0 : T a0 = 2) {x1 : Int32} (hx1 : 0 ≤ x1.toInt ∧ x1.toInt ≤ 63) (hA : CVa I0 R0 a0 (nzc gZ) (nzT gZ)) (hG : GdN gZ) (pre0 : x1.toInt = (nzM gZ)) : ConE l mX0_costOf [.ref a0, .int x1] cn K N I0 R0 L0 (ca_i (fun v cn' K' N' I' R' L' => cn = cn' ∧ K = K' ∧ N = N' ∧ I0 = I' ∧ R0 = R' ∧ L0 = L' ∧ (0 ≤ v.toInt ∧ v.toInt ≤ 594) ∧ (v.toInt = coZ gZ) ∧ True)) := by
  refine ConE.of (by decide +kernel) rfl (Nat.le_of_ble_eq_true rfl) rfl (fun X hX hZ hE => ?_)
  subst hX
  have p1 := pre0
  obtain ⟨v2, c3⟩ : ∃ v, I0 a0 11 = v := ⟨_, rfl⟩
  have b4 := iv2_11 hW0 ta0 c3
  obtain ⟨a5, d6, ta5⟩ := rf2_12 hW0 ta0
  have hc5 := hA.ct.2.2.2.2.1
  rw [c3] at hc5
  have hcs := hG.cs
  refine q_iconst dX0_costOf_0 (by decide) ?_
  intro v7 h8
  refine tr_istore_n dX0_costOf_1 (by decide) (by decide) ?_
  refine q_iconst dX0_costOf_2 (by decide) ?_
  intro v9 h10
  refine tr_istore_n dX0_costOf_3 (by decide) (by decide) ?_
  have lp22 : ∀ (fu : Nat) (ls : Nat → Option Value) (v11 : Int32) (v12 : Int32), ls 0 = some (.ref a0) → ls 1 = some (.int x1) → ls 2 = some (.int v11) → ls 3 = some (.int v12) → 0 ≤ v12.toInt → v12.toInt ≤ v2.toInt → 0 ≤ v11.toInt → v11.toInt ≤ 99 * v12.toInt → (v11.toInt = cnM (fun (i : Nat) => if bt (nzM gZ) (i : Int) = 1 then nzT gZ (19 + i) 3 else 0) v12.toInt.toNat) → (-v12.toInt + 2147483647).toNat < fu → Tr X mX0_costOf 4 ls [] cn K N I0 R0 L0 0 0 := by
    intro fu
    induction fu with
    | zero => intros; rename_i hz; exact absurd hz (Nat.not_lt_zero _)
    | succ fu ih22 =>
      intro ls v11 v12 hl13 hl14 hl15 hl16 g17 g18 g19 g20 rw21 hm22
      refine tr_iload_n dX0_costOf_4 hl16 ?_
      refine tr_aload_n dX0_costOf_5 hl13 ?_
      refine q_getI dX0_costOf_6 fl0_72 (kR2 hW0 ta0) c3 ?_
      refine q_icmp_ge 39 dX0_costOf_9 (by decide) (fun h24 => ?_) (fun h24 => ?_)
      · skip
        refine tr_iload_n dX0_costOf_39 hl15 ?_
        exact tr_iret hZ dX0_costOf_40 rfl (by decide) (by decide) ⟨v11, rfl, rfl, rfl, rfl, rfl, rfl, rfl, (by omega), (by unfold coZ; rw [show (nzc gZ 5).toNat = v12.toInt.toNat from congrArg Int.toNat (by omega)]; have z := rw21; omega), trivial⟩
      · skip
        refine tr_iload_n dX0_costOf_12 hl14 ?_
        refine tr_iload_n dX0_costOf_13 hl16 ?_
        refine q_callSNi hE (M' := mX10_bit) (as := [_, _]) dX0_costOf_14 lk0_78 inX10_bit myX10_bit ⟨by decide, by decide⟩ rfl (Nat.le_of_ble_eq_true rfl) rfl rfl (by decide) (by decide) (f_X10_bitX   (by omega) (by omega)) ?_
        rintro v30 cn' K' N' I25 R26 L27 ⟨rfl, rfl, rfl, rfl, rfl, rfl, p31, -⟩
        have btv30 := bt_01 x1.toInt v12.toInt
        refine q_iconst dX0_costOf_17 (by decide) ?_
        intro v32 h33
        refine q_icmp_ne 33 dX0_costOf_18 (by decide) (fun h34 => ?_) (fun h34 => ?_)
        · skip
          refine q_iincE dX0_costOf_33 hl16 (by decide) (by decide) (by intros; omega) ?_
          intro v35 h36
          refine tr_goto 4 dX0_costOf_36 (by decide) ?_
          exact ih22 _ v11 v35 hl13 hl14 hl15 rfl (by omega) (by omega) (by omega) (by omega) (by have w := rw21; have e := cnM_s (g := (fun (i : Nat) => if bt (nzM gZ) (i : Int) = 1 then nzT gZ (19 + i) 3 else 0)) (l := v12.toInt) (l' := v35.toInt) (by omega) (by omega); have e2 : (if bt (nzM gZ) ((v12.toInt.toNat : Nat) : Int) = 1 then nzT gZ (19 + v12.toInt.toNat) 3 else 0) = 0 := (by rw [show ((v12.toInt.toNat : Nat) : Int) = v12.toInt by omega, show bt (nzM gZ) v12.toInt = v30.toInt by rw [show nzM gZ = x1.toInt by omega]; omega, if_neg (by omega)]); rw [e, e2]; omega) (by omega)
        · skip
          refine tr_iload_n dX0_costOf_21 hl15 ?_
          refine tr_aload_n dX0_costOf_22 hl13 ?_
          refine tr_getR dX0_costOf_23 fl0_39 (kR2 hW0 ta0) d6 ?_
          refine tr_iload_n dX0_costOf_26 hl16 ?_
          obtain ⟨a37, d38, ta37⟩ := rf22 hW0 ta5 (j := v12.toNatClampNeg) (ti_lt (by omega) (by omega))
          refine tr_aald dX0_costOf_27 (kR22 hW0 ta5) (by decide) (by decide) (ti_in (nR22 hW0 ta5) (by omega) (by omega)) d38 ?_
          obtain ⟨v40, c41⟩ : ∃ v, I0 a37 3 = v := ⟨_, rfl⟩
          have ho39 := (hA.ca d6 (k := v12.toInt.toNat) (by omega) (by omega) d38).2.2.2
          rw [c41] at ho39
          have ho39g := hG.ca (k := v12.toInt.toNat) (by omega)
          refine q_getI dX0_costOf_28 fl0_82 (kR5 hW0 ta37) c41 ?_
          refine q_iaddE dX0_costOf_31 (by intros; omega) ?_
          intro v42 h43
          refine tr_istore_n dX0_costOf_32 (by decide) (by decide) ?_
          refine q_iincE dX0_costOf_33 hl16 (by decide) (by decide) (by intros; omega) ?_
          intro v44 h45
          refine tr_goto 4 dX0_costOf_36 (by decide) ?_
          exact ih22 _ v42 v44 hl13 hl14 rfl rfl (by omega) (by omega) (by omega) (by omega) (by have w := rw21; have e := cnM_s (g := (fun (i : Nat) => if bt (nzM gZ) (i : Int) = 1 then nzT gZ (19 + i) 3 else 0)) (l := v12.toInt) (l' := v44.toInt) (by omega) (by omega); have e2 : (if bt (nzM gZ) ((v12.toInt.toNat : Nat) : Int) = 1 then nzT gZ (19 + v12.toInt.toNat) 3 else 0) = v40.toInt := (by rw [show ((v12.toInt.toNat : Nat) : Int) = v12.toInt by omega, show bt (nzM gZ) v12.toInt = v30.toInt by rw [show nzM gZ = x1.toInt by omega]; omega, if_pos (by omega)]; omega); rw [e, e2]; omega) (by omega)
  exact lp22 _ _ v7 v9 rfl rfl rfl rfl (by omega) (by omega) (by omega) (by omega) (by rw [show v9.toInt.toNat = 0 by omega]; show _ = (0 : Int); omega) (Nat.lt_succ_self _)
set_option maxHeartbeats 4000000 in
theorem fk_X5_price {l : Launch} {T : Nat → Nat} {cn : Nat} {K N : Nat → Nat} {I0 : cz_I} {R0 : cz_R} {L0 : cz_L} {d : Int} (hW0 : Wf T cn K N I0 R0 d) (gZ : cz_N) {a0 : Nat} (ta0 : T a0 = 13) {x1 : Int32} (hx1 : 0 ≤ x1.toInt ∧ x1.toInt ≤ 7) (hP : NgP I0 R0 a0 gZ) (hG : GdN gZ) (hR : NgR I0 R0 a0 gZ (nzc gZ 0).toNat) (h1 : 1 ≤ nzc gZ 0 ∨ ∀ i, nzc gZ i = 0) (pre0 : x1.toInt < (nzc gZ 3)) : ConE l mX5_price [.ref a0, .int x1] cn K N I0 R0 L0 (ca_i (fun v cn' K' N' I' R' L' => cn = cn' ∧ K = K' ∧ N = N' ∧ I0 = I' ∧ R0 = R' ∧ L0 = L' ∧ (0 ≤ v.toInt ∧ v.toInt ≤ 30000) ∧ (v.toInt = pzZ gZ x1.toInt.toNat) ∧ True)) := by
  refine ConE.of (by decide +kernel) rfl (Nat.le_of_ble_eq_true rfl) rfl (fun X hX hZ hE => ?_)
  subst hX
  have p1 := pre0
  obtain ⟨a2, d3, ta2⟩ := rf13_0 hW0 ta0
  obtain ⟨a4, d5, ta4⟩ := rf13_1 hW0 ta0
  obtain ⟨a6, d7, ta6⟩ := rf2_2 hW0 ta2
  obtain ⟨a8, d9, ta8⟩ := rf2_6 hW0 ta2
  obtain ⟨a10, d11, ta10⟩ := rf2_8 hW0 ta2
  obtain ⟨a12, d13, ta12⟩ := rf2_10 hW0 ta2
  obtain ⟨a14, d15, ta14⟩ := rf2_12 hW0 ta2
  obtain ⟨a16, d17, ta16⟩ := rf12_2 hW0 ta4
  obtain ⟨a18, d19, ta18⟩ := rf12_3 hW0 ta4
  obtain ⟨a20, d21, ta20⟩ := rf12_5 hW0 ta4
  obtain ⟨a22, d23, ta22⟩ := rf12_8 hW0 ta4
  obtain ⟨a24, d25, ta24⟩ := rf12_9 hW0 ta4
  obtain ⟨a26, d27, ta26⟩ := rf12_11 hW0 ta4
  obtain ⟨a28, d29, ta28⟩ := rf13_3 hW0 ta0
  obtain ⟨a30, d31, ta30⟩ := rf13_4 hW0 ta0
  obtain ⟨a32, d33, ta32⟩ := rf13_5 hW0 ta0
  obtain ⟨a34, d35, ta34⟩ := rf13_6 hW0 ta0
  obtain ⟨a36, d37, ta36⟩ := rf13_7 hW0 ta0
  obtain ⟨a38, d39, ta38⟩ := rf13_8 hW0 ta0
  obtain ⟨a40, d41, ta40⟩ := rf13_9 hW0 ta0
  obtain ⟨a42, d43, ta42⟩ := rf13_10 hW0 ta0
  obtain ⟨a44, d45, ta44⟩ := rf13_11 hW0 ta0
  obtain ⟨v46, c47⟩ : ∃ v, I0 a2 0 = v := ⟨_, rfl⟩
  have b48 := iv2_0 hW0 ta2 c47
  obtain ⟨v49, c50⟩ : ∃ v, I0 a2 1 = v := ⟨_, rfl⟩
  have b51 := iv2_1 hW0 ta2 c50
  obtain ⟨v52, c53⟩ : ∃ v, I0 a2 5 = v := ⟨_, rfl⟩
  have b54 := iv2_5 hW0 ta2 c53
  obtain ⟨v55, c56⟩ : ∃ v, I0 a2 7 = v := ⟨_, rfl⟩
  obtain ⟨v57, c58⟩ : ∃ v, I0 a2 9 = v := ⟨_, rfl⟩
  have b59 := iv2_9 hW0 ta2 c58
  obtain ⟨v60, c61⟩ : ∃ v, I0 a2 11 = v := ⟨_, rfl⟩
  have b62 := iv2_11 hW0 ta2 c61
  obtain ⟨v63, c64⟩ : ∃ v, I0 a0 2 = v := ⟨_, rfl⟩
  have hA65 := hP _ _ d3 d5
  have hc66 := hA65.1.ct
  rw [c47, c50, c53, c58, c61, c56] at hc66
  have hc66g := hG.cs
  have hc66m := hA65.2.2
  rw [c64] at hc66m
  have hc66n := hG.ms
  have hc0 : 1 ≤ nzc gZ 0 := by rcases h1 with h | h; exact h; (have z := h 3; omega)
  refine tr_aload_n dX5_price_0 rfl ?_
  refine tr_getR dX5_price_1 fl5_39 (kR13 hW0 ta0) d3 ?_
  refine tr_getR dX5_price_4 fl5_192 (kR2 hW0 ta2) d7 ?_
  refine tr_astore_n dX5_price_7 (by decide) (by decide) ?_
  refine tr_aload_n dX5_price_8 rfl ?_
  refine q_iconst dX5_price_9 (by decide) ?_
  intro v67 h68
  refine q_iald dX5_price_10 (kR18 hW0 ta6) (ti_in (nR18 hW0 ta6) (by omega) (by omega)) ?_
  intro v69 c70
  have hp71 : v69.toInt = nzT gZ 36 0 := by have z := c70; rw [show v67.toNatClampNeg = 0 from ti_cl (by omega)] at z; rw [← z]; exact hA65.1.pr d7 (by omega) (by omega)
  have hp71g := hG.pr (j := 0) (by omega)
  refine tr_aload_n dX5_price_11 rfl ?_
  refine q_iconst dX5_price_12 (by decide) ?_
  intro v72 h73
  refine q_iald dX5_price_13 (kR18 hW0 ta6) (ti_in (nR18 hW0 ta6) (by omega) (by omega)) ?_
  intro v74 c75
  have hp76 : v74.toInt = nzT gZ 36 1 := by have z := c75; rw [show v72.toNatClampNeg = 1 from ti_cl (by omega)] at z; rw [← z]; exact hA65.1.pr d7 (by omega) (by omega)
  have hp76g := hG.pr (j := 1) (by omega)
  refine tr_aload_n dX5_price_14 rfl ?_
  refine tr_getR dX5_price_15 fl5_15 (kR13 hW0 ta0) d31 ?_
  refine tr_iload_n dX5_price_18 rfl ?_
  refine q_iald dX5_price_19 (kR45 hW0 ta30) (ti_in (nR45 hW0 ta30) (by omega) (by omega)) ?_
  intro v77 c78
  have hq79 : v77.toInt = qR gZ x1.toInt.toNat (nzc gZ 0).toNat := by have z := hR.2.1 _ d31 x1.toInt.toNat (by omega); rw [show I0 a30 x1.toInt.toNat = v77 from c78] at z; exact z
  have hq79b := qR_b (Z := gZ) x1.toInt.toNat (nzc gZ 0).toNat
  refine tr_imul dX5_price_20 ?_
  obtain ⟨v80, lx81⟩ : ∃ z, z = v74 * v77 := ⟨_, rfl⟩
  rw [← lx81]
  have hm82 := mulB hp76 hq79 (by omega) (by omega)
  rw [← lx81] at hm82
  refine q_iaddE dX5_price_21 (by intros; omega) ?_
  intro v83 h84
  refine tr_aload_n dX5_price_22 rfl ?_
  refine q_iconst dX5_price_23 (by decide) ?_
  intro v85 h86
  refine q_iald dX5_price_24 (kR18 hW0 ta6) (ti_in (nR18 hW0 ta6) (by omega) (by omega)) ?_
  intro v87 c88
  have hp89 : v87.toInt = nzT gZ 36 2 := by have z := c88; rw [show v85.toNatClampNeg = 2 from ti_cl (by omega)] at z; rw [← z]; exact hA65.1.pr d7 (by omega) (by omega)
  have hp89g := hG.pr (j := 2) (by omega)
  refine tr_aload_n dX5_price_25 rfl ?_
  refine tr_getR dX5_price_26 fl5_21 (kR13 hW0 ta0) d35 ?_
  refine tr_iload_n dX5_price_29 rfl ?_
  refine q_iald dX5_price_30 (kR47 hW0 ta34) (ti_in (nR47 hW0 ta34) (by omega) (by omega)) ?_
  intro v90 c91
  have hq92 : v90.toInt = qM gZ x1.toInt.toNat (nzc gZ 0).toNat := by have z := hR.2.2.2.1 _ d35 x1.toInt.toNat (by omega); rw [show I0 a34 x1.toInt.toNat = v90 from c91] at z; exact z
  have hq92b := qM_b (Z := gZ) x1.toInt.toNat (nzc gZ 0).toNat
  refine tr_imul dX5_price_31 ?_
  obtain ⟨v93, lx94⟩ : ∃ z, z = v87 * v90 := ⟨_, rfl⟩
  rw [← lx94]
  have hm95 := mulB hp89 hq92 (by omega) (by omega)
  rw [← lx94] at hm95
  refine q_isubE dX5_price_32 (by intros; omega) ?_
  intro v96 h97
  refine tr_aload_n dX5_price_33 rfl ?_
  refine q_iconst dX5_price_34 (by decide) ?_
  intro v98 h99
  refine q_iald dX5_price_35 (kR18 hW0 ta6) (ti_in (nR18 hW0 ta6) (by omega) (by omega)) ?_
  intro v100 c101
  have hp102 : v100.toInt = nzT gZ 36 3 := by have z := c101; rw [show v98.toNatClampNeg = 3 from ti_cl (by omega)] at z; rw [← z]; exact hA65.1.pr d7 (by omega) (by omega)
  have hp102g := hG.pr (j := 3) (by omega)
  refine tr_aload_n dX5_price_36 rfl ?_
  refine tr_getR dX5_price_37 fl5_24 (kR13 hW0 ta0) d37 ?_
  refine tr_iload_n dX5_price_40 rfl ?_
  refine q_iald dX5_price_41 (kR48 hW0 ta36) (ti_in (nR48 hW0 ta36) (by omega) (by omega)) ?_
  intro v103 c104
  have hq105 : v103.toInt = qK gZ x1.toInt.toNat (nzc gZ 0).toNat := by have z := hR.2.2.2.2.1 _ d37 x1.toInt.toNat (by omega); rw [show I0 a36 x1.toInt.toNat = v103 from c104] at z; exact z
  have hq105b := qK_b (Z := gZ) x1.toInt.toNat (nzc gZ 0).toNat
  refine tr_imul dX5_price_42 ?_
  obtain ⟨v106, lx107⟩ : ∃ z, z = v100 * v103 := ⟨_, rfl⟩
  rw [← lx107]
  have hm108 := mulB hp102 hq105 (by omega) (by omega)
  rw [← lx107] at hm108
  refine q_isubE dX5_price_43 (by intros; omega) ?_
  intro v109 h110
  refine tr_aload_n dX5_price_44 rfl ?_
  refine q_iconst dX5_price_45 (by decide) ?_
  intro v111 h112
  refine q_iald dX5_price_46 (kR18 hW0 ta6) (ti_in (nR18 hW0 ta6) (by omega) (by omega)) ?_
  intro v113 c114
  have hp115 : v113.toInt = nzT gZ 36 4 := by have z := c114; rw [show v111.toNatClampNeg = 4 from ti_cl (by omega)] at z; rw [← z]; exact hA65.1.pr d7 (by omega) (by omega)
  have hp115g := hG.pr (j := 4) (by omega)
  refine tr_aload_n dX5_price_47 rfl ?_
  refine tr_getR dX5_price_48 fl5_18 (kR13 hW0 ta0) d33 ?_
  refine tr_iload_n dX5_price_51 rfl ?_
  refine q_iald dX5_price_52 (kR46 hW0 ta32) (ti_in (nR46 hW0 ta32) (by omega) (by omega)) ?_
  intro v116 c117
  have hq118 : v116.toInt = qW gZ x1.toInt.toNat (nzc gZ 0).toNat := by have z := hR.2.2.1 _ d33 x1.toInt.toNat (by omega); rw [show I0 a32 x1.toInt.toNat = v116 from c117] at z; exact z
  have hq118b := qW_b (Z := gZ) x1.toInt.toNat (nzc gZ 0).toNat
  refine tr_imul dX5_price_53 ?_
  obtain ⟨v119, lx120⟩ : ∃ z, z = v113 * v116 := ⟨_, rfl⟩
  rw [← lx120]
  have hm121 := mulB hp115 hq118 (by omega) (by omega)
  rw [← lx120] at hm121
  refine q_isubE dX5_price_54 (by intros; omega) ?_
  intro v122 h123
  refine tr_istore_n dX5_price_55 (by decide) (by decide) ?_
  refine tr_iload_n dX5_price_56 rfl ?_
  refine q_iconst dX5_price_57 (by decide) ?_
  intro v124 h125
  refine q_mmax dX5_price_58 lk5_195 (by decide) (Nat.le_of_ble_eq_true rfl) (by decide) (by decide) ?_
  intro v126 h127
  exact tr_iret hZ dX5_price_61 rfl (by decide) (by decide) ⟨v126, rfl, rfl, rfl, rfl, rfl, rfl, rfl, (by omega), (pzZ_of (w := v122.toInt) (by omega) (by omega)), trivial⟩
set_option maxHeartbeats 4000000 in
theorem fk_X5_sum {l : Launch} {T : Nat → Nat} {cn : Nat} {K N : Nat → Nat} {I0 : cz_I} {R0 : cz_R} {L0 : cz_L} {d : Int} (hW0 : Wf T cn K N I0 R0 d) (gZ : cz_N) {a0 : Nat} (ta0 : T a0 = 13) (hP : NgP I0 R0 a0 gZ) (hG : GdN gZ) (hR : NgR I0 R0 a0 gZ (nzc gZ 0).toNat) (h1 : 1 ≤ nzc gZ 0 ∨ ∀ i, nzc gZ i = 0) : ConE l mX5_sum [.ref a0] cn K N I0 R0 L0 (ca_i (fun v cn' K' N' I' R' L' => cn = cn' ∧ K = K' ∧ N = N' ∧ I0 = I' ∧ R0 = R' ∧ L0 = L' ∧ ((-594) ≤ v.toInt ∧ v.toInt ≤ 240000) ∧ (v.toInt = toZ gZ) ∧ True)) := by
  refine ConE.of (by decide +kernel) rfl (Nat.le_of_ble_eq_true rfl) rfl (fun X hX hZ hE => ?_)
  subst hX
  obtain ⟨a1, d2, ta1⟩ := rf13_0 hW0 ta0
  obtain ⟨v3, c4⟩ : ∃ v, I0 a1 5 = v := ⟨_, rfl⟩
  have b5 := iv2_5 hW0 ta1 c4
  obtain ⟨a6, d7, ta6⟩ := rf13_1 hW0 ta0
  obtain ⟨a8, d9, ta8⟩ := rf2_2 hW0 ta1
  obtain ⟨a10, d11, ta10⟩ := rf2_6 hW0 ta1
  obtain ⟨a12, d13, ta12⟩ := rf2_8 hW0 ta1
  obtain ⟨a14, d15, ta14⟩ := rf2_10 hW0 ta1
  obtain ⟨a16, d17, ta16⟩ := rf2_12 hW0 ta1
  obtain ⟨a18, d19, ta18⟩ := rf12_2 hW0 ta6
  obtain ⟨a20, d21, ta20⟩ := rf12_3 hW0 ta6
  obtain ⟨a22, d23, ta22⟩ := rf12_5 hW0 ta6
  obtain ⟨a24, d25, ta24⟩ := rf12_8 hW0 ta6
  obtain ⟨a26, d27, ta26⟩ := rf12_9 hW0 ta6
  obtain ⟨a28, d29, ta28⟩ := rf12_11 hW0 ta6
  obtain ⟨a30, d31, ta30⟩ := rf13_3 hW0 ta0
  obtain ⟨a32, d33, ta32⟩ := rf13_4 hW0 ta0
  obtain ⟨a34, d35, ta34⟩ := rf13_5 hW0 ta0
  obtain ⟨a36, d37, ta36⟩ := rf13_6 hW0 ta0
  obtain ⟨a38, d39, ta38⟩ := rf13_7 hW0 ta0
  obtain ⟨a40, d41, ta40⟩ := rf13_8 hW0 ta0
  obtain ⟨a42, d43, ta42⟩ := rf13_9 hW0 ta0
  obtain ⟨a44, d45, ta44⟩ := rf13_10 hW0 ta0
  obtain ⟨a46, d47, ta46⟩ := rf13_11 hW0 ta0
  obtain ⟨v48, c49⟩ : ∃ v, I0 a1 0 = v := ⟨_, rfl⟩
  have b50 := iv2_0 hW0 ta1 c49
  obtain ⟨v51, c52⟩ : ∃ v, I0 a1 1 = v := ⟨_, rfl⟩
  have b53 := iv2_1 hW0 ta1 c52
  obtain ⟨v54, c55⟩ : ∃ v, I0 a1 7 = v := ⟨_, rfl⟩
  obtain ⟨v56, c57⟩ : ∃ v, I0 a1 9 = v := ⟨_, rfl⟩
  have b58 := iv2_9 hW0 ta1 c57
  obtain ⟨v59, c60⟩ : ∃ v, I0 a1 11 = v := ⟨_, rfl⟩
  have b61 := iv2_11 hW0 ta1 c60
  obtain ⟨v62, c63⟩ : ∃ v, I0 a0 2 = v := ⟨_, rfl⟩
  have hA64 := hP _ _ d2 d7
  have hc65 := hA64.1.ct
  rw [c49, c52, c4, c57, c60, c55] at hc65
  have hc65g := hG.cs
  have hc65m := hA64.2.2
  rw [c63] at hc65m
  have hc65n := hG.ms
  refine tr_aload_n dX5_sum_0 rfl ?_
  refine tr_getR dX5_sum_1 fl5_39 (kR13 hW0 ta0) d2 ?_
  refine tr_aload_n dX5_sum_4 rfl ?_
  refine q_getI dX5_sum_5 fl5_47 (kR13 hW0 ta0) c63 ?_
  refine q_callVi hE (M' := mX0_costOf) (as := [_]) dX5_sum_8 lk5_200 inX0_costOf seX0_costOf myX0_costOf (by decide) ⟨by decide, by decide⟩ rfl (kR2 hW0 ta1) (Nat.le_of_ble_eq_true rfl) rfl rfl (by decide) (by decide) (fk_X0_costOf hW0 (gZ) ta1 (by omega) hA64.1 hG (by first | done | with_reducible assumption | omega)) ?_
  rintro v71 cn' K' N' I66 R67 L68 ⟨rfl, rfl, rfl, rfl, rfl, rfl, h72, rp73, -⟩
  refine q_inegE dX5_sum_11 (by omega) ?_
  intro v74 h75
  refine tr_istore_n dX5_sum_12 (by decide) (by decide) ?_
  refine q_iconst dX5_sum_13 (by decide) ?_
  intro v76 h77
  refine tr_istore_n dX5_sum_14 (by decide) (by decide) ?_
  have lp88 : ∀ (fu : Nat) (ls : Nat → Option Value) (v78 : Int32) (v79 : Int32), ls 0 = some (.ref a0) → ls 1 = some (.int v78) → ls 2 = some (.int v79) → 0 ≤ v79.toInt → v79.toInt ≤ v3.toInt → -594 ≤ v78.toInt → v78.toInt ≤ 30000 * v79.toInt → (v78.toInt = cnM (pzZ gZ) v79.toInt.toNat - coZ gZ) → (-v79.toInt + 2147483647).toNat < fu → Tr X mX5_sum 15 ls [] cn K N I0 R0 L0 0 0 := by
    intro fu
    induction fu with
    | zero => intros; rename_i hz; exact absurd hz (Nat.not_lt_zero _)
    | succ fu ih88 =>
      intro ls v78 v79 hl80 hl81 hl82 g83 g84 g85 g86 rw87 hm88
      refine tr_iload_n dX5_sum_15 hl82 ?_
      refine tr_aload_n dX5_sum_16 hl80 ?_
      refine tr_getR dX5_sum_17 fl5_39 (kR13 hW0 ta0) d2 ?_
      refine q_getI dX5_sum_20 fl5_107 (kR2 hW0 ta1) c4 ?_
      refine q_icmp_ge 40 dX5_sum_23 (by decide) (fun h90 => ?_) (fun h90 => ?_)
      · skip
        refine tr_iload_n dX5_sum_40 hl81 ?_
        exact tr_iret hZ dX5_sum_41 rfl (by decide) (by decide) ⟨v78, rfl, rfl, rfl, rfl, rfl, rfl, rfl, (by omega), (by unfold toZ; rw [show (nzc gZ 3).toNat = v79.toInt.toNat from congrArg Int.toNat (by omega)]; have z := rw87; omega), trivial⟩
      · skip
        refine tr_iload_n dX5_sum_26 hl81 ?_
        refine tr_aload_n dX5_sum_27 hl80 ?_
        refine tr_iload_n dX5_sum_28 hl82 ?_
        refine q_callVi hE (M' := mX5_price) (as := [_]) dX5_sum_29 lk5_203 inX5_price seX5_price myX5_price (by decide) ⟨by decide, by decide⟩ rfl (kR13 hW0 ta0) (Nat.le_of_ble_eq_true rfl) rfl rfl (by decide) (by decide) (fk_X5_price hW0 (gZ) ta0 (by omega) hP hG hR h1 (by first | done | with_reducible assumption | omega)) ?_
        rintro v96 cn' K' N' I91 R92 L93 ⟨rfl, rfl, rfl, rfl, rfl, rfl, h97, rp98, -⟩
        refine q_iaddE dX5_sum_32 (by intros; omega) ?_
        intro v99 h100
        refine tr_istore_n dX5_sum_33 (by decide) (by decide) ?_
        refine q_iincE dX5_sum_34 hl82 (by decide) (by decide) (by intros; omega) ?_
        intro v101 h102
        refine tr_goto 15 dX5_sum_37 (by decide) ?_
        exact ih88 _ v99 v101 hl80 rfl rfl (by omega) (by omega) (by omega) (by omega) (by have w := rw87; have e := rp98; rw [cnM_s (l := v79.toInt) (by omega) (by omega)]; omega) (by omega)
  exact lp88 _ _ v74 v76 rfl rfl rfl (by omega) (by omega) (by omega) (by omega) (by rw [show v76.toInt.toNat = 0 by omega]; show _ = (0 : Int) - _; have z := rp73; omega) (Nat.lt_succ_self _)
