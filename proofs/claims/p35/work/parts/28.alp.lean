section CzAlp
variable {X : cz_X} {M : cz_M} {pc : Nat} {ls : Nat → Option Value} {st : List Value} {cn : Nat} {K N : Nat → Nat} {I : cz_I} {R : cz_R} {L : cz_L} {n w : Nat} {T : Nat → Nat} {d : Int} {wi wr : List Nat} {I0 : cz_I} {R0 : cz_R} {a0 : Nat}
theorem Wf.putRd {a b : Nat} (h : Wf T cn K N I R d) (ta : T a = 15) (tb : T b = 14) (hx : (I b 7).toInt = (I b 3).toInt + (I b 4).toInt) : Wf T cn K N I (cz_uR R a 4 (some b)) 0 := by
  obtain ⟨h1, h2, h3, e1, e2, e7, e3, e4, e5⟩ := h
  refine ⟨h1, h2, ?_, ?_, ?_, ?_, ?_, ?_, e5⟩
  · intro c i
    by_cases hb : c = a ∧ i = 4
    · obtain ⟨rfl, rfl⟩ := hb
      rw [uR_at, ta]; exact okR_inN tb
    · rw [uR_ne hb]; exact h3 c i
  · intro c tc k1 k2 r1 r2
    rw [uR_ne (by omega)] at r1 r2
    exact e1 c tc k1 k2 r1 r2
  · intro m tm c rb
    obtain rfl := e5 m a tm ta
    rw [uR_at] at rb; cases rb
    exact om_879cd490 hx
  · intro m tm c rb
    rw [uR_ne (by exact om_d87e2ab1)] at rb
    exact e7 m tm c rb
  · intro p q tp tq hpq
    rw [uR_ne (by exact om_5fff6ddc), uR_ne (by exact om_5fff6ddc)] at hpq
    exact e3 p q tp tq hpq
  · intro p q tp tq hpq
    rw [uR_ne (by exact om_68440e4b), uR_ne (by exact om_68440e4b)] at hpq
    exact e4 p q tp tq hpq
theorem iok_raw (j : Nat) : iok 16 j 0 := by
  by_cases h : j < 10
  · have : ∀ j, j < 10 → (riv 16 j).1 ≤ (0 : Int32).toInt ∧ (0 : Int32).toInt ≤ (riv 16 j).2 := by decide
    exact this j h
  · have e : riv 16 j = ivF := by
      show cond (Nat.beq j 0) ((0 : Int), (240 : Int)) (cond (Nat.beq j 1) ((0 : Int), (4 : Int)) (cond (Nat.beq j 2) ((0 : Int), (14 : Int)) (cond (Nat.beq j 3) ((0 : Int), (8 : Int)) (cond (Nat.beq j 4) ((0 : Int), (5 : Int)) (cond (Nat.beq j 5) ((0 : Int), (6 : Int)) (cond (Nat.beq j 6) ((0 : Int), (4 : Int)) (cond (Nat.beq j 7) ((0 : Int), (13 : Int)) (cond (Nat.beq j 8) ((0 : Int), (8 : Int)) (cond (Nat.beq j 9) ((0 : Int), (1 : Int)) (ivF)))))))))) = ivF
      rw [beqF (show j ≠ 0 by exact om_9736a029 h), beqF (show j ≠ 1 by exact om_4f51841c h), beqF (show j ≠ 2 by exact om_2fc64172 h), beqF (show j ≠ 3 by exact om_bab820e7 h), beqF (show j ≠ 4 by exact om_58eab7c5 h), beqF (show j ≠ 5 by exact om_ec6aa4e0 h), beqF (show j ≠ 6 by exact om_f1ba573d h), beqF (show j ≠ 7 by exact om_eeaa3c76 h), beqF (show j ≠ 8 by exact om_54961396 h), beqF (show j ≠ 9 by exact om_a025cb44 h)]; rfl
    exact iokF e
theorem alp_new (hE : cz_env X) (hW : Wf T cn K N I R d) (hb : RB cn R) (ta0 : T a0 = 15) (hl0 : ls 0 = some (.ref a0))
    (kk : ∀ (T' K' N' : Nat → Nat) (I' : cz_I) (R' : cz_R) (L' : cz_L), Wf T' (cn + 1 + 23) K' N' I' R' 0 → RB (cn + 1 + 23) R' → (∀ a, a < cn → T' a = T a) → (∀ a j, a < cn → I' a j = I a j) → (∀ a j, a < cn → ¬ (a = a0 ∧ j = 4) → R' a j = R a j) → (∃ b, R' a0 4 = some b ∧ (∀ j, I' b j = 0) ∧ cn ≤ b) → Tr X mX12_alp 54 ls [] (cn + 1 + 23) K' N' I' R' L' 24 247) : Tr X mX12_alp 43 ls [] cn K N I R L 0 0 := by
  have ha0 : a0 < cn := (hW.1 a0 (by rw [ta0]; decide)).1
  refine tr_aload_n dX12_alp_43 hl0 ?_
  refine tr_new dX12_alp_44 (by decide) lc12_193 ins11 ini11 (by decide) (by decide) ?_
  refine tr_dup dX12_alp_47 rfl ?_
  have hW1 : Wf (va_up T cn 16) (cn + 1) (va_up K cn 11) (va_up N cn 0) (va_up I cn (fun _ => 0)) (va_up R cn (fun _ => none)) d := hW.alloc (r := 16) hb rfl iok_raw (fun _ => rfl) (by decide) (by decide)
  have hB : Bd (va_up T cn 16) (va_up I cn (fun _ => 0)) (va_up R cn (fun _ => none)) cn (cn + 1) d 0 (cn + 1) (va_up T cn 16) (va_up K cn 11) (va_up N cn 0) (va_up I cn (fun _ => 0)) (va_up R cn (fun _ => none)) := by
    refine ⟨hW1, RB.alloc hb, fun _ _ => rfl, fun _ _ _ => rfl, fun _ _ _ _ => rfl, fun k q => absurd q (Nat.not_lt_zero _), fun a j => ?_, RB.alloc hb, Nat.lt_succ_self _, va_ups, fun j => by rw [va_ups], Nat.le_refl _⟩
    by_cases q : a = cn
    · subst q; rw [va_ups]; intro z; cases z
    · rw [va_upn q]; intro z; have := hb a j cn z; exact om_61623483 this
  refine te_callIN hE (M' := mX11_init) (as := []) dX12_alp_48 lk12_381 inX11_init rfl rfl myX11_init ⟨by decide, by decide⟩ rfl (Nat.le_of_ble_eq_true rfl) (by decide) (by decide) (k_X11_init hB) ?_
  rintro r cn' K' N' I' R' L' ⟨rfl, rfl, T2, hB2⟩
  have hW2 := hB2.done
  obtain ⟨-, hb2, hT2, hI2, hR2, -, -, -, -, -, -, -⟩ := hB2
  have tm : va_up T2 cn 14 a0 = 15 := by rw [va_upn (by exact om_6cd6a868 ha0), hT2 a0 (by exact om_f936222b ha0), va_upn (by exact om_6cd6a868 ha0)]; exact ta0
  have hz : ∀ j, I' cn j = 0 := fun j => by rw [hI2 cn j (by exact om_24fee521), va_ups]
  refine tr_putR dX12_alp_51 fl12_188 (hW2.kd tm rfl) (Or.inl rfl) ?_
  refine kk (va_up T2 cn 14) K' N' I' _ L' (hW2.putRd tm va_ups (by rw [hz, hz, hz]; rfl)) ?_ ?_ ?_ ?_ ⟨_, uR_at, hz, Nat.le_refl _⟩
  · intro a j b hbb
    by_cases q : a = a0 ∧ j = 4
    · obtain ⟨rfl, rfl⟩ := q
      rw [uR_at] at hbb; cases hbb; exact om_c4ca3555
    · rw [uR_ne q] at hbb; exact hb2 a j b hbb
  · intro a q; rw [va_upn (by exact om_6cd6a868 q), hT2 a (by exact om_f936222b q), va_upn (by exact om_6cd6a868 q)]
  · intro a j q; rw [hI2 a j (by exact om_f936222b q), va_upn (by exact om_6cd6a868 q)]
  · intro a j q z; rw [uR_ne z, hR2 a j (by exact om_f936222b q) (by exact om_6cd6a868 q), va_upn (by exact om_6cd6a868 q)]
end CzAlp
def wi_alpT : List Nat := [896, 897, 898, 899, 900, 901, 902, 903, 904, 905, 960, 961, 962, 966, 967, 968, 969, 970, 971, 972, 973, 974, 979, 980, 3455, 3519, 3583, 3647, 3711, 3775, 3839, 3903, 3967, 4031, 4095, 4159, 4223, 4287, 4351, 4415, 4479, 4543, 4607, 4671, 4799, 4863, 4991]
def wr_alpT : List Nat := [963, 964]
def AlN (T : Nat → Nat) (cn : Nat) (I0 I' : cz_I) (R0 R' : cz_R) (a0 : Nat) : Prop := R' a0 3 = R0 a0 3 ∧ I' a0 19 = I0 a0 19 ∧ I' a0 20 = I0 a0 20 ∧ ∀ a j, a < cn → (T a = 77 ∨ T a = 78 ∨ T a = 79) → I' a j = I0 a j
def AlY (I' : cz_I) (R0 R' : cz_R) (a0 : Nat) (l0 l5 : Int) : Prop := (∃ b, R' a0 3 = some b ∧ (I' b 0).toInt = l0 ∧ (I' b 5).toInt = l5) ∧ (∀ w, R0 a0 16 = some w → ∀ c : Nat, c < 15 → I' w c = 0) ∧ (I' a0 19).toInt = 0 ∧ (I' a0 20).toInt = 0
/-- what the reference's alp leaves, and what it answers -/
def AlpF (T : Nat → Nat) (cn : Nat) (R0 R' : cz_R) (I0 : cz_I) (a0 : Nat) (x1 : Int32) (gT : Nat → Int32) (v : Int32) (I' : cz_I) : Prop :=
  ((x1.toInt < 0 ∨ x1.toInt > (I0 a0 6).toInt) ∧ v.toInt = -1 ∧ (I' a0 6).toInt = (I0 a0 6).toInt ∧ (I' a0 13).toInt = (I0 a0 13).toInt ∧ (I' a0 1).toInt = 2 ∧ (I' a0 2).toInt = -1 ∧ AlN T cn I0 I' R0 R' a0) ∨
  ((0 ≤ x1.toInt ∧ x1.toInt ≤ (I0 a0 6).toInt) ∧ lsF (gT, x1.toInt) 901 0 Q00 = 0 ∧ v.toInt = lsC (gT, x1.toInt) 901 0 Q00 ∧ (I' a0 6).toInt = 0 ∧ (I' a0 13).toInt = 0 ∧ (I' a0 1).toInt = 0 ∧ (I' a0 2).toInt = -1 ∧ AlY I' R0 R' a0 (lsA0 (gT, x1.toInt) 901 0 Q00) (lsA5 (gT, x1.toInt) 901 0 Q00)) ∨
  ((0 ≤ x1.toInt ∧ x1.toInt ≤ (I0 a0 6).toInt) ∧ ¬ lsF (gT, x1.toInt) 901 0 Q00 = 0 ∧ v.toInt = -1 ∧ (I' a0 6).toInt = 0 ∧ (I' a0 13).toInt = lsF (gT, x1.toInt) 901 0 Q00 ∧ (I' a0 1).toInt = 4 ∧ (I' a0 2).toInt = lsP (gT, x1.toInt) 901 0 Q00 ∧ AlN T cn I0 I' R0 R' a0)
def AlpQ (T : Nat → Nat) (cn : Nat) (I0 : cz_I) (R0 : cz_R) (a0 : Nat) (x1 : Int32) (gT : Nat → Int32) (v : Int32) (cn' : Nat) (K' N' : Nat → Nat) (I' : cz_I) (R' : cz_R) : Prop :=
  ∃ T', Wf T' cn' K' N' I' R' 0 ∧ RB cn' R' ∧ cn ≤ cn' ∧ (∀ a, a < cn → T' a = T a) ∧ (∀ a j, a < cn → wm wi_alpT (T a) j = false → I' a j = I0 a j) ∧ (∀ a j, a < cn → wm wr_alpT (T a) j = false → R' a j = R0 a j) ∧ (∀ a j, a < cn → T a = 14 → I' a j = I0 a j) ∧ AlpF T cn R0 R' I0 a0 x1 gT v I'
theorem f_X12_alp {l : Launch} {T : Nat → Nat} {cn : Nat} {K N : Nat → Nat} {I0 : cz_I} {R0 : cz_R} {L0 : cz_L} (hW0 : Wf T cn K N I0 R0 0) (hb : RB cn R0) {a0 : Nat} (ta0 : T a0 = 15) {x1 : Int32} (gT : Nat → Int32) (hY : ∀ t, R0 a0 5 = some t → ∀ k : Nat, k < 900 → I0 t k = gT k) : ConE l mX12_alp [.ref a0, .int x1] cn K N I0 R0 L0 (ca_i (fun v cn' K' N' I' R' L' => AlpQ T cn I0 R0 a0 x1 gT v cn' K' N' I' R')) := by
  have ha0 : a0 < cn := (hW0.1 a0 (by rw [ta0]; decide)).1
  have hsA : wif_alpA.all (fun c => wi_alpT.contains c) = true := by decide +kernel
  have hsB : wif_alpB.all (fun c => wi_alpT.contains c) = true := by decide +kernel
  have hrB : wrf_alpB.all (fun c => wr_alpT.contains c) = true := by decide +kernel
  have b6 := iv15_6 hW0 ta0 (rfl : I0 a0 6 = I0 a0 6)
  refine ConE.of (by decide +kernel) rfl (Nat.le_of_ble_eq_true rfl) rfl (fun X hX hZ hE => ?_)
  refine sf_alpA hE hZ hW0 ta0 rfl rfl ?_ ?_
  · rintro v I' R' L' ⟨hS, ⟨c1, c2, c3, c4, c5, c6, -⟩, -⟩
    have hR : ∀ a j, R' a j = R0 a j := fun a j => hS.2.2 a j (wm_no rfl)
    exact ⟨v, rfl, T, hS.1, fun a j b q => hb a j b (by rw [← hR]; exact q), Nat.le_refl _, fun _ _ => rfl, fun a j _ q => hS.2.1 a j (wm_sub hsA q), fun a j _ _ => hR a j, (fun a j _ ta => hS.cell ta (wm_no (by decide +kernel))), Or.inl ⟨c1, c2, c3, c4, c5, c6, ⟨hR _ _, hS.cell ta0 (by decide +kernel), hS.cell ta0 (by decide +kernel), fun a j _ ta => by rcases ta with ta | ta | ta <;> exact hS.cell ta (wm_no (by decide +kernel))⟩⟩⟩
  · rintro ls' I' R' L' e0 e1 ⟨hS, ht, hf, hz, hp0, hp, -⟩
    have hR : ∀ a j, R' a j = R0 a j := fun a j => hS.2.2 a j (wm_no rfl)
    refine alp_new hE hS.1 (fun a j b q => hb a j b (by rw [← hR]; exact q)) ta0 e0 ?_
    intro T2 K2 N2 I2 R2 L2 hW2 hb2 hT2 hI2 hR2 hn2
    obtain ⟨b2, hb2e, hz2, hb2f⟩ := hn2
    have hfr : ∀ b, R2 a0 4 = some b → cn ≤ b := fun b hb => by obtain rfl := Option.some.inj (hb2e.symm.trans hb); exact hb2f
    have hzz : ∀ j : Nat, ∀ b1, R2 a0 4 = some b1 → (I2 b1 j).toInt = 0 := fun j b1 hq => by
      obtain rfl := Option.some.inj (hb2e.symm.trans hq)
      rw [hz2]; rfl
    refine sf_alpB (x1 := x1) hE hZ hW2 (gT, x1.toInt) ((hT2 a0 ha0).trans ta0) ?_ (fun _ _ => NmM.z0) (by rw [hI2 a0 13 ha0]; exact hf) (by rw [hI2 a0 8 ha0]; exact hp0) (by rw [hI2 a0 7 ha0]; exact hz) (hzz 0) (hzz 1) (hzz 2) (hzz 3) (hzz 4) (hzz 5) (hzz 6) (hzz 9) ⟨b2, hb2e⟩ e0 e1 ?_
    · intro t ht2
      rw [hR2 a0 5 ha0 (by exact om_ee47db26), hR] at ht2
      have tl : t < cn := hb a0 5 t ht2
      have tt : T t = 76 := hW0.rs ta0 rfl rfl ht2
      exact ⟨hp.1, by show x1.toInt ≤ 900; exact om_968f5287 b6.2 b6.1 hp.2, fun k hk => by rw [hI2 t k tl, hS.cell tt (wm_no rfl)]; exact hY t ht2 k hk⟩
    rintro v I3 R3 L3 ⟨hS3, hO3, hc, -⟩
    refine ⟨v, rfl, T2, hS3.1, ?_, by exact om_439c673e, hT2, ?_, ?_, (fun a j q ta => (hO3 b2 hb2e a j ((hT2 a q).trans ta) (fun z => by have := hfr b2 hb2e; exact om_91b31b1e hb2f q z)).trans ((hI2 a j q).trans (hS.cell ta (wm_no (by decide +kernel))))), ?_⟩
    · intro a j b q
      by_cases hw : wm wrf_alpB (T2 a) j = false
      · rw [hS3.2.2 a j hw] at q; exact hb2 a j b q
      · have hTa : T2 a = 15 ∧ j = 3 := by
          have hw' : wm wrf_alpB (T2 a) j = true := by cases h : wm wrf_alpB (T2 a) j with | true => rfl | false => exact absurd h hw
          simp only [wm, wrf_alpB, List.contains_cons, List.contains_nil, Bool.or_false, Bool.or_eq_true, Bool.and_eq_true, beq_iff_eq] at hw'
          rcases hw' with h | ⟨h1, h2⟩
          · exact om_411b9cb7 h
          · have := Nat.le_of_ble_eq_true h1; exact om_dd79a472 h2 this
        have t3 : T2 b = 14 := by rw [hTa.2] at q; exact hS3.1.rsN hTa.1 rfl q
        exact (hS3.1.1 b (by rw [t3]; decide)).1
    · intro a j q hw
      rw [hS3.2.1 a j (by rw [hT2 a q]; exact wm_sub hsB hw), hI2 a j q]
      exact hS.2.1 a j (wm_sub hsA hw)
    · intro a j q hw
      rw [hS3.2.2 a j (by rw [hT2 a q]; exact wm_sub hrB hw), hR2 a j q (fun z => by
        obtain ⟨rfl, rfl⟩ := z
        rw [ta0] at hw; exact absurd hw (by decide +kernel))]
      exact hR a j
    · have i6 := hI2 a0 6 ha0
      rcases hc with ⟨c1, c2, c3, c4, c5, c6, d1, d2, d3, d4, d5, d6, -⟩ | ⟨c1, c2, c3, c4, c5, c6, d1, d2, -⟩
      · exact Or.inr (Or.inl ⟨hp, c1, c2, by rw [c3, i6]; exact ht, c4, c5, c6, ⟨⟨b2, d5.trans hb2e, d1 b2 (d5.trans hb2e), d2 b2 (d5.trans hb2e)⟩, fun w hw c hc => d6 w (by rw [hR2 a0 16 ha0 (by exact om_2a43062e), hR]; exact hw) c hc, d3, d4⟩⟩)
      · exact Or.inr (Or.inr ⟨hp, c1, c2, by rw [c3, i6]; exact ht, c4, c5, c6, ⟨d1.trans ((hR2 a0 3 ha0 (by exact om_8c587dbe)).trans (hR _ _)), d2.1.trans ((hI2 a0 19 ha0).trans (hS.cell ta0 (by decide +kernel))), d2.2.1.trans ((hI2 a0 20 ha0).trans (hS.cell ta0 (by decide +kernel))), fun a j q ta => (d2.2.2 a j (by rw [hT2 a q]; exact ta)).trans ((hI2 a j q).trans (by rcases ta with ta | ta | ta <;> exact hS.cell ta (wm_no (by decide +kernel))))⟩⟩)
