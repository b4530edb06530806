theorem dX12_alp_0 : decode cX12_alp 0 = .ok (.aload_n 0, 1) := by decide +kernel
theorem dX12_alp_1 : decode cX12_alp 1 = .ok (.iconst 0, 1) := by decide +kernel
theorem dX12_alp_2 : decode cX12_alp 2 = .ok (.putfield 70, 3) := by decide +kernel
theorem dX12_alp_5 : decode cX12_alp 5 = .ok (.iload_n 1, 1) := by decide +kernel
theorem dX12_alp_6 : decode cX12_alp 6 = .ok (.ifCond .lt 11, 3) := by decide +kernel
theorem dX12_alp_9 : decode cX12_alp 9 = .ok (.iload_n 1, 1) := by decide +kernel
theorem dX12_alp_10 : decode cX12_alp 10 = .ok (.aload_n 0, 1) := by decide +kernel
theorem dX12_alp_11 : decode cX12_alp 11 = .ok (.getfield 378, 3) := by decide +kernel
theorem dX12_alp_14 : decode cX12_alp 14 = .ok (.if_icmp .le 9, 3) := by decide +kernel
theorem dX12_alp_17 : decode cX12_alp 17 = .ok (.aload_n 0, 1) := by decide +kernel
theorem dX12_alp_18 : decode cX12_alp 18 = .ok (.iconst 2, 1) := by decide +kernel
theorem dX12_alp_19 : decode cX12_alp 19 = .ok (.invokevirtual 76, 3) := by decide +kernel
theorem dX12_alp_22 : decode cX12_alp 22 = .ok (.ireturn, 1) := by decide +kernel
theorem dX12_alp_23 : decode cX12_alp 23 = .ok (.aload_n 0, 1) := by decide +kernel
theorem dX12_alp_24 : decode cX12_alp 24 = .ok (.iload_n 1, 1) := by decide +kernel
theorem dX12_alp_25 : decode cX12_alp 25 = .ok (.putfield 84, 3) := by decide +kernel
theorem dX12_alp_28 : decode cX12_alp 28 = .ok (.aload_n 0, 1) := by decide +kernel
theorem dX12_alp_29 : decode cX12_alp 29 = .ok (.iconst 0, 1) := by decide +kernel
theorem dX12_alp_30 : decode cX12_alp 30 = .ok (.putfield 378, 3) := by decide +kernel
theorem dX12_alp_33 : decode cX12_alp 33 = .ok (.aload_n 0, 1) := by decide +kernel
theorem dX12_alp_34 : decode cX12_alp 34 = .ok (.iconst 0, 1) := by decide +kernel
theorem dX12_alp_35 : decode cX12_alp 35 = .ok (.putfield 102, 3) := by decide +kernel
theorem dX12_alp_38 : decode cX12_alp 38 = .ok (.aload_n 0, 1) := by decide +kernel
theorem dX12_alp_39 : decode cX12_alp 39 = .ok (.iconst 0, 1) := by decide +kernel
theorem dX12_alp_40 : decode cX12_alp 40 = .ok (.putfield 128, 3) := by decide +kernel
theorem dX12_alp_43 : decode cX12_alp 43 = .ok (.aload_n 0, 1) := by decide +kernel
theorem dX12_alp_44 : decode cX12_alp 44 = .ok (.new 193, 3) := by decide +kernel
theorem dX12_alp_47 : decode cX12_alp 47 = .ok (.dup, 1) := by decide +kernel
theorem dX12_alp_48 : decode cX12_alp 48 = .ok (.invokespecial 381, 3) := by decide +kernel
theorem dX12_alp_51 : decode cX12_alp 51 = .ok (.putfield 188, 3) := by decide +kernel
theorem dX12_alp_54 : decode cX12_alp 54 = .ok (.aload_n 0, 1) := by decide +kernel
theorem dX12_alp_55 : decode cX12_alp 55 = .ok (.iconst 0, 1) := by decide +kernel
theorem dX12_alp_56 : decode cX12_alp 56 = .ok (.putfield 99, 3) := by decide +kernel
theorem dX12_alp_59 : decode cX12_alp 59 = .ok (.aload_n 0, 1) := by decide +kernel
theorem dX12_alp_60 : decode cX12_alp 60 = .ok (.invokevirtual 142, 3) := by decide +kernel
theorem dX12_alp_63 : decode cX12_alp 63 = .ok (.aload_n 0, 1) := by decide +kernel
theorem dX12_alp_64 : decode cX12_alp 64 = .ok (.invokevirtual 382, 3) := by decide +kernel
theorem dX12_alp_67 : decode cX12_alp 67 = .ok (.aload_n 0, 1) := by decide +kernel
theorem dX12_alp_68 : decode cX12_alp 68 = .ok (.getfield 128, 3) := by decide +kernel
theorem dX12_alp_71 : decode cX12_alp 71 = .ok (.ifCond .le 18, 3) := by decide +kernel
theorem dX12_alp_74 : decode cX12_alp 74 = .ok (.aload_n 0, 1) := by decide +kernel
theorem dX12_alp_75 : decode cX12_alp 75 = .ok (.iconst 4, 1) := by decide +kernel
theorem dX12_alp_76 : decode cX12_alp 76 = .ok (.putfield 73, 3) := by decide +kernel
theorem dX12_alp_79 : decode cX12_alp 79 = .ok (.aload_n 0, 1) := by decide +kernel
theorem dX12_alp_80 : decode cX12_alp 80 = .ok (.aload_n 0, 1) := by decide +kernel
theorem dX12_alp_81 : decode cX12_alp 81 = .ok (.getfield 131, 3) := by decide +kernel
theorem dX12_alp_84 : decode cX12_alp 84 = .ok (.putfield 9, 3) := by decide +kernel
theorem dX12_alp_87 : decode cX12_alp 87 = .ok (.iconst (-1), 1) := by decide +kernel
theorem dX12_alp_88 : decode cX12_alp 88 = .ok (.ireturn, 1) := by decide +kernel
theorem dX12_alp_89 : decode cX12_alp 89 = .ok (.aload_n 0, 1) := by decide +kernel
theorem dX12_alp_90 : decode cX12_alp 90 = .ok (.aload_n 0, 1) := by decide +kernel
theorem dX12_alp_91 : decode cX12_alp 91 = .ok (.getfield 188, 3) := by decide +kernel
theorem dX12_alp_94 : decode cX12_alp 94 = .ok (.putfield 385, 3) := by decide +kernel
theorem dX12_alp_97 : decode cX12_alp 97 = .ok (.iconst 0, 1) := by decide +kernel
theorem dX12_alp_98 : decode cX12_alp 98 = .ok (.istore_n 2, 1) := by decide +kernel
theorem dX12_alp_99 : decode cX12_alp 99 = .ok (.iload_n 2, 1) := by decide +kernel
theorem dX12_alp_100 : decode cX12_alp 100 = .ok (.bipush 15, 2) := by decide +kernel
theorem dX12_alp_102 : decode cX12_alp 102 = .ok (.if_icmp .ge 16, 3) := by decide +kernel
theorem dX12_alp_105 : decode cX12_alp 105 = .ok (.aload_n 0, 1) := by decide +kernel
theorem dX12_alp_106 : decode cX12_alp 106 = .ok (.getfield 17, 3) := by decide +kernel
theorem dX12_alp_109 : decode cX12_alp 109 = .ok (.iload_n 2, 1) := by decide +kernel
theorem dX12_alp_110 : decode cX12_alp 110 = .ok (.iconst 0, 1) := by decide +kernel
theorem dX12_alp_111 : decode cX12_alp 111 = .ok (.iastore, 1) := by decide +kernel
theorem dX12_alp_112 : decode cX12_alp 112 = .ok (.iinc 2 1, 3) := by decide +kernel
theorem dX12_alp_115 : decode cX12_alp 115 = .ok (.goto (-16), 3) := by decide +kernel
theorem dX12_alp_118 : decode cX12_alp 118 = .ok (.aload_n 0, 1) := by decide +kernel
theorem dX12_alp_119 : decode cX12_alp 119 = .ok (.iconst 0, 1) := by decide +kernel
theorem dX12_alp_120 : decode cX12_alp 120 = .ok (.putfield 387, 3) := by decide +kernel
theorem dX12_alp_123 : decode cX12_alp 123 = .ok (.aload_n 0, 1) := by decide +kernel
theorem dX12_alp_124 : decode cX12_alp 124 = .ok (.iconst 0, 1) := by decide +kernel
theorem dX12_alp_125 : decode cX12_alp 125 = .ok (.putfield 390, 3) := by decide +kernel
theorem dX12_alp_128 : decode cX12_alp 128 = .ok (.aload_n 0, 1) := by decide +kernel
theorem dX12_alp_129 : decode cX12_alp 129 = .ok (.aload_n 0, 1) := by decide +kernel
theorem dX12_alp_130 : decode cX12_alp 130 = .ok (.getfield 385, 3) := by decide +kernel
theorem dX12_alp_133 : decode cX12_alp 133 = .ok (.getfield 224, 3) := by decide +kernel
theorem dX12_alp_136 : decode cX12_alp 136 = .ok (.invokevirtual 81, 3) := by decide +kernel
theorem dX12_alp_139 : decode cX12_alp 139 = .ok (.ireturn, 1) := by decide +kernel
section CzAlp
variable {X : cz_X} {M : cz_M} {pc : Nat} {ls : Nat → Option Value} {st : List Value} {cn : Nat} {K N : Nat → Nat} {I : cz_I} {R : cz_R} {L : cz_L} {n w : Nat} {T : Nat → Nat} {d : Int} {wi wr : List Nat} {I0 : cz_I} {R0 : cz_R} {a0 : Nat}
theorem q_putRA {idx ci j k r y : Nat} {b : Bool} (hd : decode (cz_cc M) pc = .ok (.putfield idx, 3)) (hf : cz_fl M.1 idx = some (ci, j, 1, b)) (hk : K k = ci) (hw : (cz_TT ci j).2.2.2 = false ∨ ((cz_nm M).name = "<init>" ∧ b = false ∧ (cz_TT ci j).1 = cz_on M.1)) (hS : St T cn K N d wi wr I0 R0 I R) (t : T k = r) (hwi : wm wr r j = true) (hW : Wf T cn K N I (cz_uR R k j (some y)) d)
    (kk : ∀ R' : cz_R, St T cn K N d wi wr I0 R0 I R' → R' k j = some y → (∀ a i, ¬ (a = k ∧ i = j) → R' a i = R a i) → Tr X M (pc + 3) ls st cn K N I R' L n w) : Tr X M pc ls (.ref y :: .ref k :: st) cn K N I R L n w := by
  refine tr_putR hd hf hk hw (kk _ ⟨hW, hS.2.1, fun b i hb => ?_⟩ uR_at (fun _ _ q => uR_ne q))
  rw [uR_ne]
  · exact hS.2.2 b i hb
  · rintro ⟨rfl, rfl⟩
    rw [t, hwi] at hb; cases hb
theorem Wf.putRd {a b : Nat} (h : Wf T cn K N I R d) (ta : T a = 15) (tb : T b = 14) (hx : (I b 7).toInt = (I b 3).toInt + (I b 4).toInt) : Wf T cn K N I (cz_uR R a 4 (some b)) 0 := by
  obtain ⟨h1, h2, h3, e1, e2, e7, e3, e4, e5⟩ := h
  refine ⟨h1, h2, ?_, ?_, ?_, ?_, ?_, ?_, e5⟩
  · intro c i
    by_cases hb : c = a ∧ i = 4
    · obtain ⟨rfl, rfl⟩ := hb
      rw [uR_at, ta]; exact okR_inN tb
    · rw [uR_ne hb]; exact h3 c i
  · intro c tc k1 k2 r1 r2
    rw [uR_ne (by omega)] at r1 r2
    exact e1 c tc k1 k2 r1 r2
  · intro m tm c rb
    obtain rfl := e5 m a tm ta
    rw [uR_at] at rb; cases rb
    omega
  · intro m tm c rb
    rw [uR_ne (by omega)] at rb
    exact e7 m tm c rb
  · intro p q tp tq hpq
    rw [uR_ne (by omega), uR_ne (by omega)] at hpq
    exact e3 p q tp tq hpq
  · intro p q tp tq hpq
    rw [uR_ne (by omega), uR_ne (by omega)] at hpq
    exact e4 p q tp tq hpq
theorem iok_raw (j : Nat) : iok 16 j 0 := by
  by_cases h : j < 10
  · have : ∀ j, j < 10 → (riv 16 j).1 ≤ (0 : Int32).toInt ∧ (0 : Int32).toInt ≤ (riv 16 j).2 := by decide
    exact this j h
  · have e : riv 16 j = ivF := by
      show cond (Nat.beq j 0) ((0 : Int), (240 : Int)) (cond (Nat.beq j 1) ((0 : Int), (4 : Int)) (cond (Nat.beq j 2) ((0 : Int), (14 : Int)) (cond (Nat.beq j 3) ((0 : Int), (8 : Int)) (cond (Nat.beq j 4) ((0 : Int), (5 : Int)) (cond (Nat.beq j 5) ((0 : Int), (6 : Int)) (cond (Nat.beq j 6) ((0 : Int), (4 : Int)) (cond (Nat.beq j 7) ((0 : Int), (13 : Int)) (cond (Nat.beq j 8) ((0 : Int), (8 : Int)) (cond (Nat.beq j 9) ((0 : Int), (1 : Int)) (ivF)))))))))) = ivF
      rw [beqF (show j ≠ 0 by omega), beqF (show j ≠ 1 by omega), beqF (show j ≠ 2 by omega), beqF (show j ≠ 3 by omega), beqF (show j ≠ 4 by omega), beqF (show j ≠ 5 by omega), beqF (show j ≠ 6 by omega), beqF (show j ≠ 7 by omega), beqF (show j ≠ 8 by omega), beqF (show j ≠ 9 by omega)]; rfl
    exact iokF e
theorem alp_new (hE : cz_env X) (hW : Wf T cn K N I R d) (hb : RB cn R) (ta0 : T a0 = 15) (hl0 : ls 0 = some (.ref a0))
    (kk : ∀ (T' K' N' : Nat → Nat) (I' : cz_I) (R' : cz_R) (L' : cz_L), Wf T' (cn + 1 + 23) K' N' I' R' 0 → RB (cn + 1 + 23) R' → (∀ a, a < cn → T' a = T a) → (∀ a j, a < cn → I' a j = I a j) → (∀ a j, a < cn → ¬ (a = a0 ∧ j = 4) → R' a j = R a j) → (∃ b, R' a0 4 = some b) → Tr X mX12_alp 54 ls [] (cn + 1 + 23) K' N' I' R' L' 24 247) : Tr X mX12_alp 43 ls [] cn K N I R L 0 0 := by
  have ha0 : a0 < cn := (hW.1 a0 (by rw [ta0]; decide)).1
  refine tr_aload_n dX12_alp_43 hl0 ?_
  refine tr_new dX12_alp_44 (by decide) lc12_193 ins11 ini11 (by decide) (by decide) ?_
  refine tr_dup dX12_alp_47 rfl ?_
  have hW1 : Wf (va_up T cn 16) (cn + 1) (va_up K cn 11) (va_up N cn 0) (va_up I cn (fun _ => 0)) (va_up R cn (fun _ => none)) d := hW.alloc (r := 16) hb rfl iok_raw (fun _ => rfl) (by decide) (by decide)
  have hB : Bd (va_up T cn 16) (va_up I cn (fun _ => 0)) (va_up R cn (fun _ => none)) cn (cn + 1) d 0 (cn + 1) (va_up T cn 16) (va_up K cn 11) (va_up N cn 0) (va_up I cn (fun _ => 0)) (va_up R cn (fun _ => none)) := by
    refine ⟨hW1, RB.alloc hb, fun _ _ => rfl, fun _ _ _ => rfl, fun _ _ _ _ => rfl, fun k q => absurd q (Nat.not_lt_zero _), fun a j => ?_, RB.alloc hb, Nat.lt_succ_self _, va_ups, fun j => by rw [va_ups], Nat.le_refl _⟩
    by_cases q : a = cn
    · subst q; rw [va_ups]; intro z; cases z
    · rw [va_upn q]; intro z; have := hb a j cn z; omega
  refine te_callIN hE (M' := mX11_init) (as := []) dX12_alp_48 lk12_381 inX11_init rfl rfl myX11_init ⟨by decide, by decide⟩ rfl (Nat.le_of_ble_eq_true rfl) (by decide) (by decide) (k_X11_init hB) ?_
  rintro r cn' K' N' I' R' L' ⟨rfl, rfl, T2, hB2⟩
  have hW2 := hB2.done
  obtain ⟨-, hb2, hT2, hI2, hR2, -, -, -, -, -, -, -⟩ := hB2
  have tm : va_up T2 cn 14 a0 = 15 := by rw [va_upn (by omega), hT2 a0 (by omega), va_upn (by omega)]; exact ta0
  have hz : ∀ j, I' cn j = 0 := fun j => by rw [hI2 cn j (by omega), va_ups]
  refine tr_putR dX12_alp_51 fl12_188 (hW2.kd tm rfl) (Or.inl rfl) ?_
  refine kk (va_up T2 cn 14) K' N' I' _ L' (hW2.putRd tm va_ups (by rw [hz, hz, hz]; rfl)) ?_ ?_ ?_ ?_ ⟨_, uR_at⟩
  · intro a j b hbb
    by_cases q : a = a0 ∧ j = 4
    · obtain ⟨rfl, rfl⟩ := q
      rw [uR_at] at hbb; cases hbb; omega
    · rw [uR_ne q] at hbb; exact hb2 a j b hbb
  · intro a q; rw [va_upn (by omega), hT2 a (by omega), va_upn (by omega)]
  · intro a j q; rw [hI2 a j (by omega), va_upn (by omega)]
  · intro a j q z; rw [uR_ne z, hR2 a j (by omega) (by omega), va_upn (by omega)]
end CzAlp
def wi_alpA : List Nat := [960, 961, 962, 966, 967, 968, 973]
def wr_alpA : List Nat := []
set_option maxHeartbeats 4000000 in
theorem s_alpA {X : cz_X} (hE : cz_env X) {T : Nat → Nat} {cn : Nat} {K N : Nat → Nat} {I0 : cz_I} {R0 : cz_R} {L0 : cz_L} {Q : cz_Q} (hZ : cz_Z X mX12_alp Q) {d : Int} (hW0 : Wf T cn K N I0 R0 d) {a0 : Nat} (ta0 : T a0 = 15) {x1 : Int32} {ls : Nat → Option Value} (hl0 : ls 0 = some (.ref a0)) (hl1 : ls 1 = some (.int x1)) (hq : ∀ (v : Int32) (I' : cz_I) (R' : cz_R) (L' : cz_L), St T cn K N d wi_alpA wr_alpA I0 R0 I' R' ∧ ((I' a0 6).toInt = (I0 a0 6).toInt) ∧ ((x1.toInt < 0 ∨ x1.toInt > (I0 a0 6).toInt)) ∧ True → Q (some (.int v)) cn K N I' R' L') (hk : ∀ (ls' : Nat → Option Value) (I' : cz_I) (R' : cz_R) (L' : cz_L), ls' 0 = ls 0 → ls' 1 = ls 1 → St T cn K N d wi_alpA wr_alpA I0 R0 I' R' ∧ ((I' a0 6).toInt = 0) ∧ ((I' a0 13).toInt = 0) ∧ ((0 ≤ x1.toInt ∧ x1.toInt ≤ (I0 a0 6).toInt)) ∧ True → Tr X mX12_alp 43 ls' [] cn K N I' R' L' 0 0) : Tr X mX12_alp 0 ls [] cn K N I0 R0 L0 0 0 := by
  have hS0 : St T cn K N d wi_alpA wr_alpA I0 R0 I0 R0 := St.rf0 hW0
  obtain ⟨v1, c2⟩ : ∃ v, I0 a0 6 = v := ⟨_, rfl⟩
  have b3 := iv15_6 hS0.1 ta0 c2
  refine tr_aload_n dX12_alp_0 hl0 ?_
  refine q_iconst dX12_alp_1 (by decide) ?_
  intro v4 h5
  refine q_putI dX12_alp_2 fl12_70 (kR15 hS0.1 ta0) (Or.inl rfl) hS0 ta0 (iokF rfl) rfl (by decide +kernel) ?_
  intro I6 hS7 e8 f9
  have c10 : I6 a0 6 = v1 := (f9 _ _ (fun q => absurd q.2 (by decide))).trans c2
  refine tr_iload_n dX12_alp_5 hl1 ?_
  refine q_if_lt 17 dX12_alp_6 (by decide) (fun h11 => ?_) (fun h11 => ?_)
  · skip
    refine tr_aload_n dX12_alp_17 hl0 ?_
    refine q_iconst dX12_alp_18 (by decide) ?_
    intro v12 h13
    refine q_callVi hE (M' := mX12_refused) (as := [_]) dX12_alp_19 lk12_76 inX12_refused seX12_refused myX12_refused (by decide) ⟨by decide, by decide⟩ rfl (kR15 hS7.1 ta0) (Nat.le_of_ble_eq_true rfl) rfl rfl (by decide) (by decide) (k_X12_refused hS7.1 ta0) ?_
    rintro v18 cn' K' N' I14 R15 L16 ⟨rfl, rfl, rfl, rfl, rfl, g17, -⟩
    have hS19 := hS7.tr g17 (by decide +kernel) (by decide +kernel)
    have c20 : I14 a0 6 = v1 := (g17.cell ta0 (by decide +kernel)).trans c10
    have c21 : I14 a0 0 = v4 := (g17.cell ta0 (by decide +kernel)).trans e8
    exact tr_iret hZ dX12_alp_22 rfl (by decide) (by decide) (hq _ _ _ _ ⟨hS19, (by (try rw [c20]); (try rw [c2]); (try omega)), (by (try rw [c2]); (try omega)), trivial⟩)
  · skip
    refine tr_iload_n dX12_alp_9 hl1 ?_
    refine tr_aload_n dX12_alp_10 hl0 ?_
    refine q_getI dX12_alp_11 fl12_378 (kR15 hS7.1 ta0) c10 ?_
    refine q_icmp_le 23 dX12_alp_14 (by decide) (fun h22 => ?_) (fun h22 => ?_)
    · skip
      refine tr_aload_n dX12_alp_23 hl0 ?_
      refine tr_iload_n dX12_alp_24 hl1 ?_
      refine q_putI dX12_alp_25 fl12_84 (kR15 hS7.1 ta0) (Or.inl rfl) hS7 ta0 (by show (0 : Int) ≤ x1.toInt ∧ x1.toInt ≤ (900 : Int); omega) rfl (by decide +kernel) ?_
      intro I23 hS24 e25 f26
      have c27 : I23 a0 6 = v1 := (f26 _ _ (fun q => absurd q.2 (by decide))).trans c10
      have c28 : I23 a0 0 = v4 := (f26 _ _ (fun q => absurd q.2 (by decide))).trans e8
      refine tr_aload_n dX12_alp_28 hl0 ?_
      refine q_iconst dX12_alp_29 (by decide) ?_
      intro v29 h30
      refine q_putI dX12_alp_30 fl12_378 (kR15 hS24.1 ta0) (Or.inl rfl) hS24 ta0 (by show (0 : Int) ≤ v29.toInt ∧ v29.toInt ≤ (900 : Int); omega) rfl (by decide +kernel) ?_
      intro I31 hS32 e33 f34
      have c35 : I31 a0 0 = v4 := (f34 _ _ (fun q => absurd q.2 (by decide))).trans c28
      have c36 : I31 a0 7 = x1 := (f34 _ _ (fun q => absurd q.2 (by decide))).trans e25
      refine tr_aload_n dX12_alp_33 hl0 ?_
      refine q_iconst dX12_alp_34 (by decide) ?_
      intro v37 h38
      refine q_putI dX12_alp_35 fl12_102 (kR15 hS32.1 ta0) (Or.inl rfl) hS32 ta0 (by show (0 : Int) ≤ v37.toInt ∧ v37.toInt ≤ (900 : Int); omega) rfl (by decide +kernel) ?_
      intro I39 hS40 e41 f42
      have c43 : I39 a0 0 = v4 := (f42 _ _ (fun q => absurd q.2 (by decide))).trans c35
      have c44 : I39 a0 7 = x1 := (f42 _ _ (fun q => absurd q.2 (by decide))).trans c36
      have c45 : I39 a0 6 = v29 := (f42 _ _ (fun q => absurd q.2 (by decide))).trans e33
      refine tr_aload_n dX12_alp_38 hl0 ?_
      refine q_iconst dX12_alp_39 (by decide) ?_
      intro v46 h47
      refine q_putI dX12_alp_40 fl12_128 (kR15 hS40.1 ta0) (Or.inl rfl) hS40 ta0 (iokF rfl) rfl (by decide +kernel) ?_
      intro I48 hS49 e50 f51
      have c52 : I48 a0 0 = v4 := (f51 _ _ (fun q => absurd q.2 (by decide))).trans c43
      have c53 : I48 a0 7 = x1 := (f51 _ _ (fun q => absurd q.2 (by decide))).trans c44
      have c54 : I48 a0 6 = v29 := (f51 _ _ (fun q => absurd q.2 (by decide))).trans c45
      have c55 : I48 a0 8 = v37 := (f51 _ _ (fun q => absurd q.2 (by decide))).trans e41
      exact hk _ _ _ _ (rfl) (rfl) ⟨hS49, (by (try rw [c54]); (try omega)), (by (try rw [e50]); (try omega)), (by (try rw [c2]); (try omega)), trivial⟩
    · skip
      refine tr_aload_n dX12_alp_17 hl0 ?_
      refine q_iconst dX12_alp_18 (by decide) ?_
      intro v56 h57
      refine q_callVi hE (M' := mX12_refused) (as := [_]) dX12_alp_19 lk12_76 inX12_refused seX12_refused myX12_refused (by decide) ⟨by decide, by decide⟩ rfl (kR15 hS7.1 ta0) (Nat.le_of_ble_eq_true rfl) rfl rfl (by decide) (by decide) (k_X12_refused hS7.1 ta0) ?_
      rintro v62 cn' K' N' I58 R59 L60 ⟨rfl, rfl, rfl, rfl, rfl, g61, -⟩
      have hS63 := hS7.tr g61 (by decide +kernel) (by decide +kernel)
      have c64 : I58 a0 6 = v1 := (g61.cell ta0 (by decide +kernel)).trans c10
      have c65 : I58 a0 0 = v4 := (g61.cell ta0 (by decide +kernel)).trans e8
      exact tr_iret hZ dX12_alp_22 rfl (by decide) (by decide) (hq _ _ _ _ ⟨hS63, (by (try rw [c64]); (try rw [c2]); (try omega)), (by (try rw [c2]); (try omega)), trivial⟩)
def wi_alpB : List Nat := [896, 897, 898, 899, 900, 901, 902, 903, 904, 905, 961, 962, 968, 969, 970, 971, 972, 973, 974, 979, 980, 3455, 3519, 3583, 3647, 3711, 3775, 3839, 3903, 3967, 4031, 4095, 4159, 4223, 4287, 4351, 4415, 4479, 4543, 4607, 4671, 4799, 4863, 4991]
def wr_alpB : List Nat := [963]
set_option maxHeartbeats 4000000 in
theorem s_alpB {X : cz_X} (hE : cz_env X) {T : Nat → Nat} {cn : Nat} {K N : Nat → Nat} {I0 : cz_I} {R0 : cz_R} {L0 : cz_L} {Q : cz_Q} (hZ : cz_Z X mX12_alp Q) (hW0 : Wf T cn K N I0 R0 0) {a0 : Nat} (ta0 : T a0 = 15) {x1 : Int32} (pre0 : (I0 a0 13).toInt = 0) (nn4 : ∃ b, R0 a0 4 = some b) {ls : Nat → Option Value} (hl0 : ls 0 = some (.ref a0)) (hl1 : ls 1 = some (.int x1)) (hq : ∀ (v : Int32) (I' : cz_I) (R' : cz_R) (L' : cz_L), St T cn K N 0 wi_alpB wr_alpB I0 R0 I' R' ∧ ((I' a0 6).toInt = (I0 a0 6).toInt) ∧ True → Q (some (.int v)) cn K N I' R' L') : Tr X mX12_alp 54 ls [] cn K N I0 R0 L0 24 247 := by
  have hS0 : St T cn K N 0 wi_alpB wr_alpB I0 R0 I0 R0 := St.rf0 hW0
  obtain ⟨a1, d2⟩ := nn4
  have ta1 : T a1 = 14 := hW0.rsN ta0 rfl d2
  obtain ⟨v3, c4⟩ : ∃ v, I0 a0 13 = v := ⟨_, rfl⟩
  have p5 := pre0
  rw [c4] at p5
  obtain ⟨v6, c7⟩ : ∃ v, I0 a0 6 = v := ⟨_, rfl⟩
  have b8 := iv15_6 hW0 ta0 c7
  refine tr_aload_n dX12_alp_54 hl0 ?_
  refine q_iconst dX12_alp_55 (by decide) ?_
  intro v9 h10
  refine q_putI dX12_alp_56 fl12_99 (kR15 hS0.1 ta0) (Or.inl rfl) hS0 ta0 (by show (0 : Int) ≤ v9.toInt ∧ v9.toInt ≤ (5 : Int); omega) rfl (by decide +kernel) ?_
  intro I11 hS12 e13 f14
  have c15 : I11 a0 13 = v3 := (f14 _ _ (fun q => absurd q.2 (by decide))).trans c4
  refine tr_aload_n dX12_alp_59 hl0 ?_
  obtain ⟨v16, c17⟩ : ∃ v, I11 a0 8 = v := ⟨_, rfl⟩
  have b18 := iv15_8 hS12.1 ta0 c17
  refine q_callVv hE (M' := mX12_goesOn) (as := []) dX12_alp_60 lk12_142 inX12_goesOn seX12_goesOn myX12_goesOn (by decide) ⟨by decide, by decide⟩ rfl (kR15 hS12.1 ta0) (Nat.le_of_ble_eq_true rfl) rfl rfl (by decide) (by decide) (k_X12_goesOn hS12.1 ta0) ?_
  rintro cn' K' N' I19 R20 L21 ⟨rfl, rfl, rfl, rfl, g22, p24, p25, p26, w27, -⟩
  have hS28 := hS12.tr g22 (by decide +kernel) (by decide +kernel)
  have c29 : I19 a0 13 = v3 := (g22.cell ta0 (by decide +kernel)).trans c15
  obtain ⟨v30, c31⟩ : ∃ v, I19 a0 9 = v := ⟨_, rfl⟩
  have b32 := iv15_9 hS28.1 ta0 c31
  rw [e13] at p24
  rw [c31] at p24
  rw [e13] at p25
  rw [c31] at p25
  obtain ⟨v33, c34⟩ : ∃ v, I19 a0 8 = v := ⟨_, rfl⟩
  have b35 := iv15_8 hS28.1 ta0 c34
  rw [c34] at p26
  rw [c17] at p26
  rw [c29] at p26
  rw [c15] at p26
  refine tr_aload_n dX12_alp_63 hl0 ?_
  refine q_callVv hE (M' := mX12_readAll) (as := []) dX12_alp_64 lk12_382 inX12_readAll seX12_readAll myX12_readAll (by decide) ⟨by decide, by decide⟩ rfl (kR15 hS28.1 ta0) (Nat.le_of_ble_eq_true rfl) rfl rfl (by decide) (by decide) (k_X12_readAll hS28.1 ta0 ⟨_, d2⟩) ?_
  rintro cn' K' N' I36 R37 L38 ⟨rfl, rfl, rfl, rfl, g39, p41, -⟩
  have hS42 := hS28.tr g39 (by decide +kernel) (by decide +kernel)
  obtain ⟨v43, c44⟩ : ∃ v, I36 a0 13 = v := ⟨_, rfl⟩
  obtain ⟨v45, c46⟩ : ∃ v, I36 a1 0 = v := ⟨_, rfl⟩
  have b47 := iv14_0 hS42.1 ta1 c46
  have p48 := p41 _ d2
  clear p41
  rw [c31] at p48
  rw [c29] at p48
  rw [c44] at p48
  rw [c46] at p48
  refine tr_aload_n dX12_alp_67 hl0 ?_
  refine q_getI dX12_alp_68 fl12_128 (kR15 hS42.1 ta0) c44 ?_
  refine q_if_le 89 dX12_alp_71 (by decide) (fun h49 => ?_) (fun h49 => ?_)
  · skip
    refine tr_aload_n dX12_alp_89 hl0 ?_
    refine tr_aload_n dX12_alp_90 hl0 ?_
    refine tr_getR dX12_alp_91 fl12_188 (kR15 hS42.1 ta0) d2 ?_
    refine q_putRA dX12_alp_94 fl12_385 (kR15 hS42.1 ta0) (Or.inl rfl) hS42 ta0 (by decide +kernel) (hS42.1.putA ta0 ta1 (by rw [c46]; omega)) ?_
    intro R50 hS51 e52 f53
    refine q_iconst dX12_alp_97 (by decide) ?_
    intro v54 h55
    refine tr_istore_n dX12_alp_98 (by decide) (by decide) ?_
    have lp64 : ∀ (fu : Nat) (ls : Nat → Option Value) (v56 : Int32) (I60 : cz_I) (L61 : cz_L), ls 0 = some (.ref a0) → ls 1 = some (.int x1) → ls 2 = some (.int v56) → St T cn K N 0 wi_alpB wr_alpB I0 R0 I60 R50 → 0 ≤ v56.toInt → (-v56.toInt + 2147483647).toNat < fu → Tr X mX12_alp 99 ls [] cn K N I60 R50 L61 24 247 := by
      intro fu
      induction fu with
      | zero => intros; rename_i hz; exact absurd hz (Nat.not_lt_zero _)
      | succ fu ih64 =>
        intro ls v56 I60 L61 hl57 hl58 hl59 hS62 g63 hm64
        refine tr_iload_n dX12_alp_99 hl59 ?_
        refine q_bipush dX12_alp_100 (by decide +kernel) ?_
        intro v66 h67
        refine q_icmp_ge 118 dX12_alp_102 (by decide) (fun h68 => ?_) (fun h68 => ?_)
        · skip
          refine tr_aload_n dX12_alp_118 hl57 ?_
          refine q_iconst dX12_alp_119 (by decide) ?_
          intro v69 h70
          refine q_putI dX12_alp_120 fl12_387 (kR15 hS62.1 ta0) (Or.inl rfl) hS62 ta0 (by show (0 : Int) ≤ v69.toInt ∧ v69.toInt ≤ (12 : Int); omega) rfl (by decide +kernel) ?_
          intro I71 hS72 e73 f74
          refine tr_aload_n dX12_alp_123 hl57 ?_
          refine q_iconst dX12_alp_124 (by decide) ?_
          intro v75 h76
          refine q_putI dX12_alp_125 fl12_390 (kR15 hS72.1 ta0) (Or.inl rfl) hS72 ta0 (by show (0 : Int) ≤ v75.toInt ∧ v75.toInt ≤ (3 : Int); omega) rfl (by decide +kernel) ?_
          intro I77 hS78 e79 f80
          have c81 : I77 a0 19 = v69 := (f80 _ _ (fun q => absurd q.2 (by decide))).trans e73
          refine tr_aload_n dX12_alp_128 hl57 ?_
          refine tr_aload_n dX12_alp_129 hl57 ?_
          refine tr_getR dX12_alp_130 fl12_385 (kR15 hS78.1 ta0) e52 ?_
          obtain ⟨v82, c83⟩ : ∃ v, I77 a1 3 = v := ⟨_, rfl⟩
          have b84 := iv14_3 hS78.1 ta1 c83
          refine q_getI dX12_alp_133 fl12_224 (kR14 hS78.1 ta1) c83 ?_
          refine q_callVi hE (M' := mX12_good) (as := [_]) dX12_alp_136 lk12_81 inX12_good seX12_good myX12_good (by decide) ⟨by decide, by decide⟩ rfl (kR15 hS78.1 ta0) (Nat.le_of_ble_eq_true rfl) rfl rfl (by decide) (by decide) (k_X12_good hS78.1 ta0) ?_
          rintro v89 cn' K' N' I85 R86 L87 ⟨rfl, rfl, rfl, rfl, rfl, g88, -⟩
          have hS90 := hS78.tr g88 (by decide +kernel) (by decide +kernel)
          have c91 : I85 a0 19 = v69 := (g88.cell ta0 (by decide +kernel)).trans c81
          have c92 : I85 a0 20 = v75 := (g88.cell ta0 (by decide +kernel)).trans e79
          have c93 : I85 a1 3 = v82 := (g88.cell ta1 (by decide +kernel)).trans c83
          exact tr_iret hZ dX12_alp_139 rfl (by decide) (by decide) (hq _ _ _ _ ⟨hS90, (by (try rw [((hS90.cell ta0 (by decide +kernel)).trans c7)]); (try rw [c7]); (try omega)), trivial⟩)
        · skip
          refine tr_aload_n dX12_alp_105 hl57 ?_
          obtain ⟨a94, d95, ta94⟩ := rf15_16 hW0 ta0
          refine tr_getR dX12_alp_106 fl12_17 (kR15 hS62.1 ta0) ((hS62.rcell ta0 (by decide +kernel)).trans d95) ?_
          refine tr_iload_n dX12_alp_109 hl59 ?_
          refine q_iconst dX12_alp_110 (by decide) ?_
          intro v96 h97
          refine q_iast dX12_alp_111 (kR77 hS62.1 ta94) (ti_in (nR77 hS62.1 ta94) (by omega) (by omega)) hS62 ta94 (iok_w0 rfl (by omega)) rfl (by rfl) ?_
          intro I98 hS99 e101 f100
          refine q_iincE dX12_alp_112 hl59 (by decide) (by decide) (by intros; omega) ?_
          intro v102 h103
          refine tr_goto 99 dX12_alp_115 (by decide) ?_
          exact ih64 _ v102 I98 L61 hl57 hl58 rfl hS99 (by omega) (by omega)
    exact lp64 _ _ v54 I36 L38 hl0 hl1 rfl hS51 (by omega) (Nat.lt_succ_self _)
  · skip
    refine tr_aload_n dX12_alp_74 hl0 ?_
    refine q_iconst dX12_alp_75 (by decide) ?_
    intro v104 h105
    refine q_putI dX12_alp_76 fl12_73 (kR15 hS42.1 ta0) (Or.inl rfl) hS42 ta0 (iokF rfl) rfl (by decide +kernel) ?_
    intro I106 hS107 e108 f109
    have c110 : I106 a0 13 = v43 := (f109 _ _ (fun q => absurd q.2 (by decide))).trans c44
    have c111 : I106 a1 0 = v45 := (f109 _ _ (fun q => absurd q.2 (by decide))).trans c46
    refine tr_aload_n dX12_alp_79 hl0 ?_
    refine tr_aload_n dX12_alp_80 hl0 ?_
    obtain ⟨v112, c113⟩ : ∃ v, I106 a0 14 = v := ⟨_, rfl⟩
    refine q_getI dX12_alp_81 fl12_131 (kR15 hS107.1 ta0) c113 ?_
    refine q_putI dX12_alp_84 fl12_9 (kR15 hS107.1 ta0) (Or.inl rfl) hS107 ta0 (iokF rfl) rfl (by decide +kernel) ?_
    intro I114 hS115 e116 f117
    have c118 : I114 a0 13 = v43 := (f117 _ _ (fun q => absurd q.2 (by decide))).trans c110
    have c119 : I114 a1 0 = v45 := (f117 _ _ (fun q => absurd q.2 (by decide))).trans c111
    have c120 : I114 a0 1 = v104 := (f117 _ _ (fun q => absurd q.2 (by decide))).trans e108
    have c121 : I114 a0 14 = v112 := (f117 _ _ (fun q => absurd q.2 (by decide))).trans c113
    refine q_iconst dX12_alp_87 (by decide) ?_
    intro v122 h123
    exact tr_iret hZ dX12_alp_88 rfl (by decide) (by decide) (hq _ _ _ _ ⟨hS115, (by (try rw [((hS115.cell ta0 (by decide +kernel)).trans c7)]); (try rw [c7]); (try omega)), trivial⟩)
def wi_alpT : List Nat := [896, 897, 898, 899, 900, 901, 902, 903, 904, 905, 960, 961, 962, 966, 967, 968, 969, 970, 971, 972, 973, 974, 979, 980, 3455, 3519, 3583, 3647, 3711, 3775, 3839, 3903, 3967, 4031, 4095, 4159, 4223, 4287, 4351, 4415, 4479, 4543, 4607, 4671, 4799, 4863, 4991]
def wr_alpT : List Nat := [963, 964]
/-- what the reference's alp leaves -/
def AlpQ (T : Nat → Nat) (cn : Nat) (I0 : cz_I) (R0 : cz_R) (a0 : Nat) (x1 : Int32) (cn' : Nat) (K' N' : Nat → Nat) (I' : cz_I) (R' : cz_R) : Prop :=
  ∃ T', Wf T' cn' K' N' I' R' 0 ∧ RB cn' R' ∧ cn ≤ cn' ∧ (∀ a, a < cn → T' a = T a) ∧ (∀ a j, a < cn → wm wi_alpT (T a) j = false → I' a j = I0 a j) ∧ (∀ a j, a < cn → wm wr_alpT (T a) j = false → R' a j = R0 a j) ∧ ((x1.toInt < 0 ∨ x1.toInt > (I0 a0 6).toInt) → (I' a0 6).toInt = (I0 a0 6).toInt) ∧ ((0 ≤ x1.toInt ∧ x1.toInt ≤ (I0 a0 6).toInt) → (I' a0 6).toInt = 0)
theorem k_X12_alp {l : Launch} {T : Nat → Nat} {cn : Nat} {K N : Nat → Nat} {I0 : cz_I} {R0 : cz_R} {L0 : cz_L} (hW0 : Wf T cn K N I0 R0 0) (hb : RB cn R0) {a0 : Nat} (ta0 : T a0 = 15) {x1 : Int32} : ConE l mX12_alp [.ref a0, .int x1] cn K N I0 R0 L0 (ca_i (fun v cn' K' N' I' R' L' => AlpQ T cn I0 R0 a0 x1 cn' K' N' I' R')) := by
  have ha0 : a0 < cn := (hW0.1 a0 (by rw [ta0]; decide)).1
  have hsA : wi_alpA.all (fun c => wi_alpT.contains c) = true := by decide +kernel
  have hsB : wi_alpB.all (fun c => wi_alpT.contains c) = true := by decide +kernel
  have hrB : wr_alpB.all (fun c => wr_alpT.contains c) = true := by decide +kernel
  refine ConE.of (by decide +kernel) rfl (Nat.le_of_ble_eq_true rfl) rfl (fun X hX hZ hE => ?_)
  refine s_alpA hE hZ hW0 ta0 rfl rfl ?_ ?_
  · rintro v I' R' L' ⟨hS, ht, hp, -⟩
    have hR : ∀ a j, R' a j = R0 a j := fun a j => hS.2.2 a j (wm_no rfl)
    exact ⟨v, rfl, T, hS.1, fun a j b q => hb a j b (by rw [← hR]; exact q), Nat.le_refl _, fun _ _ => rfl, fun a j _ q => hS.2.1 a j (wm_sub hsA q), fun a j _ _ => hR a j, fun _ => ht, fun q => by omega⟩
  · rintro ls' I' R' L' e0 e1 ⟨hS, ht, hf, hp, -⟩
    have hR : ∀ a j, R' a j = R0 a j := fun a j => hS.2.2 a j (wm_no rfl)
    refine alp_new hE hS.1 (fun a j b q => hb a j b (by rw [← hR]; exact q)) ta0 e0 ?_
    intro T2 K2 N2 I2 R2 L2 hW2 hb2 hT2 hI2 hR2 hn2
    refine s_alpB (x1 := x1) hE hZ hW2 ((hT2 a0 ha0).trans ta0) (by rw [hI2 a0 13 ha0]; exact hf) hn2 e0 e1 ?_
    rintro v I3 R3 L3 ⟨hS3, ht3, -⟩
    refine ⟨v, rfl, T2, hS3.1, ?_, by omega, hT2, ?_, ?_, fun q => by omega, fun q => by rw [ht3, hI2 a0 6 ha0]; exact ht⟩
    · intro a j b q
      by_cases hw : wm wr_alpB (T2 a) j = false
      · rw [hS3.2.2 a j hw] at q; exact hb2 a j b q
      · have hTa : T2 a = 15 ∧ j = 3 := by
          have hw' : wm wr_alpB (T2 a) j = true := by cases h : wm wr_alpB (T2 a) j with | true => rfl | false => exact absurd h hw
          simp only [wm, wr_alpB, List.contains_cons, List.contains_nil, Bool.or_false, Bool.or_eq_true, Bool.and_eq_true, beq_iff_eq] at hw'
          rcases hw' with h | ⟨h1, h2⟩
          · omega
          · have := Nat.le_of_ble_eq_true h1; omega
        have t3 : T2 b = 14 := by rw [hTa.2] at q; exact hS3.1.rsN hTa.1 rfl q
        exact (hS3.1.1 b (by rw [t3]; decide)).1
    · intro a j q hw
      rw [hS3.2.1 a j (by rw [hT2 a q]; exact wm_sub hsB hw), hI2 a j q]
      exact hS.2.1 a j (wm_sub hsA hw)
    · intro a j q hw
      rw [hS3.2.2 a j (by rw [hT2 a q]; exact wm_sub hrB hw), hR2 a j q (fun z => by
        obtain ⟨rfl, rfl⟩ := z
        rw [ta0] at hw; exact absurd hw (by decide +kernel))]
      exact hR a j
