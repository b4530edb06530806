/-! ===== what is made anew ===== -/
def RB (c : Nat) (R : cz_R) : Prop := ∀ a j b : Nat, R a j = some b → b < c
theorem va_upn {α : Type} {f : Nat → α} {k a : Nat} {v : α} (h : a ≠ k) : va_up f k v a = f a := if_neg h
theorem va_ups {α : Type} {f : Nat → α} {k : Nat} {v : α} : va_up f k v k = v := if_pos rfl
theorem iok_z {r j : Nat} {lo hi : Int} (h : riv r j = (lo, hi)) (h1 : lo ≤ 0) (h2 : 0 ≤ hi) : iok r j 0 := by
  rw [iok, h]; exact ⟨h1, h2⟩
section CzAl
variable {T : Nat → Nat} {cn : Nat} {K N : Nat → Nat} {I : cz_I} {R : cz_R} {d : Int} {a b j r : Nat} {x v : Int32}
theorem Wf.T0 (h : Wf T cn K N I R d) : T cn = 0 := Classical.byContradiction fun q => Nat.lt_irrefl _ (h.1 cn q).1
theorem RB.alloc (h : RB cn R) : RB (cn + 1) (va_up R cn (fun _ => none)) := by
  intro a j b hb
  by_cases q : a = cn
  · subst q; rw [va_ups] at hb; cases hb
  · rw [va_upn q] at hb; have := h a j b hb; exact om_f936222b this
theorem Wf.alloc (h : Wf T cn K N I R d) (hb : RB cn R) (hr0 : Nat.beq r 0 = false) (hz : ∀ j, iok r j 0) (hrr : ∀ j, rrf r j = 0) (hm : r ≠ 14) (ho : r ≠ 15) : Wf (va_up T cn r) (cn + 1) (va_up K cn (rk r)) (va_up N cn (rn r)) (va_up I cn (fun _ => 0)) (va_up R cn (fun _ => none)) d := by
  have hT : ∀ b, b < cn → va_up T cn r b = T b := fun b q => va_upn (by exact om_6cd6a868 q)
  have hlt : ∀ b, T b ≠ 0 → b < cn := fun b q => (h.1 b q).1
  have hMA : ∀ b, va_up T cn r b = 14 → b ≠ cn ∧ T b = 14 := by
    intro b q
    have hb : b ≠ cn := fun e => by subst e; rw [va_ups] at q; exact hm q
    exact ⟨hb, by rw [va_upn hb] at q; exact q⟩
  have hMO : ∀ b, va_up T cn r b = 15 → b ≠ cn ∧ T b = 15 := by
    intro b q
    have hb : b ≠ cn := fun e => by subst e; rw [va_ups] at q; exact ho q
    exact ⟨hb, by rw [va_upn hb] at q; exact q⟩
  refine ⟨fun a ha => ?_, fun a j => ?_, fun a j => ?_, ?_, ?_, ?_, ?_, ?_, ?_⟩
  · by_cases q : a = cn
    · subst q; rw [va_ups, va_ups, va_ups]; exact ⟨Nat.lt_succ_self _, rfl, rfl⟩
    · rw [va_upn q] at ha; rw [va_upn q, va_upn q, va_upn q]
      obtain ⟨x, y, z⟩ := h.1 a ha
      exact ⟨by exact om_f936222b x, y, z⟩
  · by_cases q : a = cn
    · subst q; rw [va_ups, va_ups]; exact hz j
    · rw [va_upn q, va_upn q]; exact h.2.1 a j
  · by_cases q : a = cn
    · subst q; rw [va_ups, hrr]; exact Or.inl rfl
    · rw [va_upn q, va_upn q]
      rcases h.2.2.1 a j with z | z | ⟨z, b, z1, z2⟩
      · exact Or.inl z
      · exact Or.inr (Or.inl z)
      · exact Or.inr (Or.inr ⟨z, b, z1, by rw [hT b (hb a j b z1)]; exact z2⟩)
  · intro b tb k1 k2 r1 r2 i hi hk
    obtain ⟨q, tb⟩ := hMA b tb
    rw [va_upn q] at r1 r2 hi
    have q1 := hb b 11 k1 r1
    have q2 := hb b 12 k2 r2
    rw [va_upn (show k1 ≠ cn by exact om_6cd6a868 q1)] at hk
    rw [va_upn (show k2 ≠ cn by exact om_6cd6a868 q2)]
    exact h.2.2.2.1 b tb k1 k2 r1 r2 i hi hk
  · intro m tm b rb
    obtain ⟨q, tm⟩ := hMO m tm
    rw [va_upn q] at rb
    have q1 := hb m 4 b rb
    rw [va_upn (show b ≠ cn by exact om_6cd6a868 q1)]
    exact h.2.2.2.2.1 m tm b rb
  · intro m tm b rb
    obtain ⟨q, tm⟩ := hMO m tm
    rw [va_upn q] at rb
    have q1 := hb m 3 b rb
    rw [va_upn (show b ≠ cn by exact om_6cd6a868 q1)]
    exact h.2.2.2.2.2.1 m tm b rb
  · intro p q tp tq hpq
    obtain ⟨z1, tp⟩ := hMA p tp
    obtain ⟨z2, tq⟩ := hMA q tq
    rw [va_upn z1, va_upn z2] at hpq
    exact h.2.2.2.2.2.2.1 p q tp tq hpq
  · intro p q tp tq hpq
    obtain ⟨z1, tp⟩ := hMA p tp
    obtain ⟨z2, tq⟩ := hMA q tq
    rw [va_upn z1, va_upn z2] at hpq
    exact h.2.2.2.2.2.2.2.1 p q tp tq hpq
  · intro p q tp tq
    exact h.2.2.2.2.2.2.2.2 p q (hMO p tp).2 (hMO q tq).2
/-- an Alp under way: i of its rows are there -/
def Bd (T0 : Nat → Nat) (I0 : cz_I) (R0 : cz_R) (a0 c0 : Nat) (d : Int) (i c : Nat) (T K N : Nat → Nat) (I : cz_I) (R : cz_R) : Prop :=
  Wf T c K N I R d ∧ RB c R ∧ (∀ a, a < c0 → T a = T0 a) ∧ (∀ a j, a < c0 → I a j = I0 a j) ∧ (∀ a j, a < c0 → a ≠ a0 → R a j = R0 a j) ∧ (∀ k, k < i → R a0 (10 + k) = some (c0 + k) ∧ T (c0 + k) = 53 + k) ∧ (∀ a j, R a j ≠ some a0) ∧ RB c0 R0 ∧ a0 < c0 ∧ T0 a0 = 16 ∧ (∀ j, I0 a0 j = 0) ∧ c0 ≤ c
theorem riv_raw (j : Nat) : riv 16 j = riv 14 j := rfl
theorem rrf_ma {j : Nat} (h : j < 10 ∨ 32 < j) : rrf 14 j = 0 := by
  show cond (Nat.beq j 10) 53 (cond (Nat.beq j 11) 54 (cond (Nat.beq j 12) 55 (cond (Nat.beq j 13) 56 (cond (Nat.beq j 14) 57 (cond (Nat.beq j 15) 58 (cond (Nat.beq j 16) 59 (cond (Nat.beq j 17) 60 (cond (Nat.beq j 18) 61 (cond (Nat.beq j 19) 62 (cond (Nat.beq j 20) 63 (cond (Nat.beq j 21) 64 (cond (Nat.beq j 22) 65 (cond (Nat.beq j 23) 66 (cond (Nat.beq j 24) 67 (cond (Nat.beq j 25) 68 (cond (Nat.beq j 26) 69 (cond (Nat.beq j 27) 70 (cond (Nat.beq j 28) 71 (cond (Nat.beq j 29) 72 (cond (Nat.beq j 30) 73 (cond (Nat.beq j 31) 74 (cond (Nat.beq j 32) 75 (0))))))))))))))))))))))) = 0
  rw [beqF (show j ≠ 10 by exact om_fbb182ed h), beqF (show j ≠ 11 by exact om_a4e2d4d5 h), beqF (show j ≠ 12 by exact om_9496b0e2 h), beqF (show j ≠ 13 by exact om_4be935a4 h), beqF (show j ≠ 14 by exact om_db172efe h), beqF (show j ≠ 15 by exact om_846b3bdf h), beqF (show j ≠ 16 by exact om_4749db18 h), beqF (show j ≠ 17 by exact om_0cf4763c h), beqF (show j ≠ 18 by exact om_f246bfb1 h), beqF (show j ≠ 19 by exact om_d5a0e379 h), beqF (show j ≠ 20 by exact om_54c02272 h), beqF (show j ≠ 21 by exact om_164b2385 h), beqF (show j ≠ 22 by exact om_6602c58e h), beqF (show j ≠ 23 by exact om_3519c3a4 h), beqF (show j ≠ 24 by exact om_d3d38946 h), beqF (show j ≠ 25 by exact om_ba50709b h), beqF (show j ≠ 26 by exact om_315597c5 h), beqF (show j ≠ 27 by exact om_8dc60300 h), beqF (show j ≠ 28 by exact om_f8802ff4 h), beqF (show j ≠ 29 by exact om_e8dbd7a9 h), beqF (show j ≠ 30 by exact om_27ee10d4 h), beqF (show j ≠ 31 by exact om_767c0689 h), beqF (show j ≠ 32 by exact om_56ab698b h)]; rfl
theorem rrf_mk : ∀ k, k < 23 → rrf 14 (10 + k) = 53 + k := by decide
theorem Bd.done {T0 : Nat → Nat} {I0 : cz_I} {R0 : cz_R} {a0 c0 : Nat} (h : Bd T0 I0 R0 a0 c0 d 23 (c0 + 23) T K N I R) : Wf (va_up T a0 14) (c0 + 23) K N I R d := by
  obtain ⟨hW, hb, hT, hI, hR, hF, hno, hb0, ha, ht, hz, hc⟩ := h
  have hta : T a0 = 16 := (hT a0 ha).trans ht
  have hMA : ∀ b, va_up T a0 14 b = 14 → b = a0 ∨ (b ≠ a0 ∧ T b = 14) := by
    intro b q
    by_cases e : b = a0
    · exact Or.inl e
    · rw [va_upn e] at q; exact Or.inr ⟨e, q⟩
  have hMO : ∀ b, va_up T a0 14 b = 15 → T b = 15 := by
    intro b q
    by_cases e : b = a0
    · subst e; rw [va_ups] at q; cases q
    · rw [va_upn e] at q; exact q
  have hrow : ∀ b s k, T b = 14 → b ≠ a0 → R b s = some k → k < c0 := by
    intro b s k tb q hk
    have h1 : b < c0 := by
      rcases Nat.lt_or_ge b c0 with z | z
      · exact z
      · exfalso
        have h2 := (hW.1 b (by rw [tb]; decide)).1
        obtain ⟨e1, e2⟩ := hF (b - c0) (by exact om_c4b39fd3 z h2)
        rw [show c0 + (b - c0) = b by exact om_7a6cae31 z h2, tb] at e2
        exact om_c6069e62 e2
    rw [hR b s h1 q] at hk
    exact hb0 b s k hk
  refine ⟨fun a ha' => ?_, fun a j => ?_, fun a j => ?_, ?_, ?_, ?_, ?_, ?_, ?_⟩
  · by_cases q : a = a0
    · subst q
      obtain ⟨x, y, z⟩ := hW.1 a (by rw [hta]; decide)
      rw [hta] at y z
      rw [va_ups]; exact ⟨x, y, z⟩
    · rw [va_upn q] at ha' ⊢; exact hW.1 a ha'
  · by_cases q : a = a0
    · subst q
      have := hW.2.1 a j
      rw [hta] at this
      rw [va_ups, iok, ← riv_raw]; exact this
    · rw [va_upn q]; exact hW.2.1 a j
  · by_cases q : a = a0
    · subst q
      rw [va_ups]
      by_cases hj : j < 10 ∨ 32 < j
      · rw [rrf_ma hj]; exact Or.inl rfl
      · obtain ⟨e1, e2⟩ := hF (j - 10) (by exact om_668734ed hj)
        have e3 := rrf_mk (j - 10) (by exact om_668734ed hj)
        rw [show 10 + (j - 10) = j by omega] at e1 e3
        rw [e3, e1]
        refine Or.inr (Or.inr ⟨by exact om_7c1dab8f e3, _, rfl, ?_⟩)
        have e4 : Nat.ble 1000 (53 + (j - 10)) = false := by
          cases hq : Nat.ble 1000 (53 + (j - 10)) with
          | false => rfl
          | true => have := Nat.le_of_ble_eq_true hq; omega
        rw [e4, va_upn (by exact om_1fc5d352 ha e3)]; exact e2
    · rw [va_upn q]
      rcases hW.2.2.1 a j with z | z | ⟨z, b, z1, z2⟩
      · exact Or.inl z
      · exact Or.inr (Or.inl z)
      · exact Or.inr (Or.inr ⟨z, b, z1, by rw [va_upn (fun e => hno a j (by rw [z1, e]))]; exact z2⟩)
  · intro b tb k1 k2 r1 r2 i hi hk
    rcases hMA b tb with rfl | ⟨-, tb⟩
    · rw [hI b 2 ha, hz 2] at hi
      have e : (0 : Int32).toInt = 0 := rfl
      exact om_daba0bc5 hi e
    · exact hW.2.2.2.1 b tb k1 k2 r1 r2 i hi hk
  · intro m tm b rb; exact hW.2.2.2.2.1 m (hMO m tm) b rb
  · intro m tm b rb; exact hW.2.2.2.2.2.1 m (hMO m tm) b rb
  · intro p q tp tq hpq
    rcases hMA p tp with rfl | ⟨z1, tp'⟩ <;> rcases hMA q tq with rfl | ⟨z2, tq'⟩
    · rfl
    · have := hrow q 11 _ tq' z2 (hpq.symm.trans (hF 1 (by decide)).1); exact om_d1e9c0b0 this
    · have := hrow p 11 _ tp' z1 (hpq.trans (hF 1 (by decide)).1); exact om_d1e9c0b0 this
    · exact hW.2.2.2.2.2.2.1 p q tp' tq' hpq
  · intro p q tp tq hpq
    rcases hMA p tp with rfl | ⟨z1, tp'⟩ <;> rcases hMA q tq with rfl | ⟨z2, tq'⟩
    · rfl
    · have := hrow q 12 _ tq' z2 (hpq.symm.trans (hF 2 (by decide)).1); exact om_43e82ad6 this
    · have := hrow p 12 _ tp' z1 (hpq.trans (hF 2 (by decide)).1); exact om_43e82ad6 this
    · exact hW.2.2.2.2.2.2.2.1 p q tp' tq' hpq
  · intro p q tp tq; exact hW.2.2.2.2.2.2.2.2 p q (hMO p tp) (hMO q tq)
variable {X : cz_X} {M : cz_M} {pc : Nat} {ls : Nat → Option Value} {st : List Value} {L : cz_L} {n w : Nat} {T0 : Nat → Nat} {I0 : cz_I} {R0 : cz_R} {a0 c0 i : Nat}
theorem q_bdn {ty : ArrayType} {x : Int32} {len : Nat} (hB : Bd T0 I0 R0 a0 c0 d i (c0 + i) T K N I R) (hd : decode (cz_cc M) pc = .ok (.newarray ty, 2)) (hty : cz_at ty < 99) (hl1 : Cond.arrayClass (newarray.typeOf ty) ∈ cz_T) (hx : x.toInt = (len : Int)) (hk : cz_at ty = rk (53 + i)) (hrn : len = rn (53 + i)) (hsm : len ≤ 4096) (hr0 : Nat.beq (53 + i) 0 = false) (hz : ∀ j, iok (53 + i) j 0) (hrr : ∀ j, rrf (53 + i) j = 0) (hm : 53 + i ≠ 14) (ho : 53 + i ≠ 15) (hn : n + 1 ≤ (cz_rm M).cells) (hw : w + len ≤ (cz_rm M).slots)
    (kk : ∀ (T' K' N' : Nat → Nat) (I' : cz_I) (R' : cz_R) (L' : cz_L), Bd T0 I0 R0 a0 c0 d i (c0 + i + 1) T' K' N' I' R' → T' (c0 + i) = 53 + i → Tr X M (pc + 2) ls (.ref (c0 + i) :: st) (c0 + i + 1) K' N' I' R' L' (n + 1) (w + len)) : Tr X M pc ls (.int x :: st) (c0 + i) K N I R L n w := by
  obtain ⟨hW, hb, hT, hI, hR, hF, hno, hb0, ha, ht, hz0, hc⟩ := hB
  have hx0 : ¬ x < 0 := fun q => by
    have := Int32.lt_iff_toInt_lt.mp q
    have e : (0 : Int32).toInt = 0 := rfl
    exact om_4396c6bb hx hrn hsm this e
  refine tr_newa hd hty hl1 hx0 (ti_cl hx) hsm hn hw (kk (va_up T (c0 + i) (53 + i)) _ _ _ _ _ ⟨?_, RB.alloc hb, ?_, ?_, ?_, ?_, ?_, hb0, ha, ht, hz0, by exact om_8128a61a hc⟩ va_ups)
  · rw [hk, hrn]; exact hW.alloc hb hr0 hz hrr hm ho
  · intro a q; rw [va_upn (by exact om_156643b5 hc q)]; exact hT a q
  · intro a j q; rw [va_upn (by exact om_156643b5 hc q)]; exact hI a j q
  · intro a j q z; rw [va_upn (by exact om_156643b5 hc q)]; exact hR a j q z
  · intro k q; rw [va_upn (by exact om_07b58bde ha hc), va_upn (by exact om_abe73dad q)]; exact hF k q
  · intro a j
    by_cases q : a = c0 + i
    · subst q; rw [va_ups]; intro z; cases z
    · rw [va_upn q]; exact hno a j
theorem q_bdp {idx : Nat} {b : Bool} (hB : Bd T0 I0 R0 a0 c0 d i (c0 + i + 1) T K N I R) (hti : T (c0 + i) = 53 + i) (hd : decode (cz_cc M) pc = .ok (.putfield idx, 3)) (hf : cz_fl M.1 idx = some (11, 10 + i, 1, b)) (hw : (cz_TT 11 (10 + i)).2.2.2 = false ∨ ((cz_nm M).name = "<init>" ∧ b = false ∧ (cz_TT 11 (10 + i)).1 = cz_on M.1)) (kk : ∀ R' : cz_R, Bd T0 I0 R0 a0 c0 d (i + 1) (c0 + (i + 1)) T K N I R' → Tr X M (pc + 3) ls st (c0 + (i + 1)) K N I R' L n w) : Tr X M pc ls (.ref (c0 + i) :: .ref a0 :: st) (c0 + i + 1) K N I R L n w := by
  obtain ⟨hW, hb, hT, hI, hR, hF, hno, hb0, ha, ht, hz0, hc⟩ := hB
  have hta : T a0 = 16 := (hT a0 ha).trans ht
  have hka : K a0 = 11 := hW.kd hta rfl
  refine tr_putR hd hf hka hw (kk _ ⟨hW.putR hta (Or.inl rfl) rfl, ?_, hT, hI, ?_, ?_, ?_, hb0, ha, ht, hz0, by exact om_4571256a hc⟩)
  · intro a j c hc'
    by_cases q : a = a0 ∧ j = 10 + i
    · obtain ⟨rfl, rfl⟩ := q
      rw [uR_at] at hc'; cases hc'; exact om_9ae74abb
    · rw [uR_ne q] at hc'; have := hb a j c hc'; exact om_9559e968 this
  · intro a j q z
    rw [uR_ne (fun e => z e.1)]; exact hR a j q z
  · intro k q
    by_cases e : k = i
    · subst e; rw [uR_at]; exact ⟨rfl, hti⟩
    · rw [uR_ne (by exact om_dc31cc35 e)]; exact hF k (by exact om_fe3e2211 q e)
  · intro a j
    by_cases q : a = a0 ∧ j = 10 + i
    · obtain ⟨rfl, rfl⟩ := q
      rw [uR_at]; intro z; cases z; exact om_0da7f7e7 hc ha
    · rw [uR_ne q]; exact hno a j
end CzAl
def lzddX11_init_0 : List (Nat × Instr × Nat) := [(0, .aload_n 0, 1), (1, .invokespecial 3, 3), (4, .aload_n 0, 1), (5, .iconst 5, 1)]
theorem zddX11_init_0 : dqW lzddX11_init_0 (cX11_init.data.toList.drop 0) 0 = true := by decide +kernel
theorem dX11_init_0 : decode cX11_init 0 = .ok (.aload_n 0, 1) := dq_get (L := lzddX11_init_0) 0 rfl zddX11_init_0 rfl
theorem dX11_init_1 : decode cX11_init 1 = .ok (.invokespecial 3, 3) := dq_get (L := lzddX11_init_0) 1 rfl zddX11_init_0 rfl
theorem dX11_init_4 : decode cX11_init 4 = .ok (.aload_n 0, 1) := dq_get (L := lzddX11_init_0) 2 rfl zddX11_init_0 rfl
theorem dX11_init_5 : decode cX11_init 5 = .ok (.iconst 5, 1) := dq_get (L := lzddX11_init_0) 3 rfl zddX11_init_0 rfl
theorem dX11_init_6 : decode cX11_init 6 = .ok (.newarray .int, 2) := by decide +kernel
def lzddX11_init_8 : List (Nat × Instr × Nat) := [(8, .putfield 9, 3), (11, .aload_n 0, 1), (12, .bipush 14, 2)]
theorem zddX11_init_8 : dqW lzddX11_init_8 (cX11_init.data.toList.drop 8) 8 = true := by decide +kernel
theorem dX11_init_8 : decode cX11_init 8 = .ok (.putfield 9, 3) := dq_get (L := lzddX11_init_8) 0 rfl zddX11_init_8 rfl
theorem dX11_init_11 : decode cX11_init 11 = .ok (.aload_n 0, 1) := dq_get (L := lzddX11_init_8) 1 rfl zddX11_init_8 rfl
theorem dX11_init_12 : decode cX11_init 12 = .ok (.bipush 14, 2) := dq_get (L := lzddX11_init_8) 2 rfl zddX11_init_8 rfl
theorem dX11_init_14 : decode cX11_init 14 = .ok (.newarray .int, 2) := by decide +kernel
def lzddX11_init_16 : List (Nat × Instr × Nat) := [(16, .putfield 15, 3), (19, .aload_n 0, 1), (20, .bipush 14, 2)]
theorem zddX11_init_16 : dqW lzddX11_init_16 (cX11_init.data.toList.drop 16) 16 = true := by decide +kernel
theorem dX11_init_16 : decode cX11_init 16 = .ok (.putfield 15, 3) := dq_get (L := lzddX11_init_16) 0 rfl zddX11_init_16 rfl
theorem dX11_init_19 : decode cX11_init 19 = .ok (.aload_n 0, 1) := dq_get (L := lzddX11_init_16) 1 rfl zddX11_init_16 rfl
theorem dX11_init_20 : decode cX11_init 20 = .ok (.bipush 14, 2) := dq_get (L := lzddX11_init_16) 2 rfl zddX11_init_16 rfl
theorem dX11_init_22 : decode cX11_init 22 = .ok (.newarray .int, 2) := by decide +kernel
def lzddX11_init_24 : List (Nat × Instr × Nat) := [(24, .putfield 18, 3), (27, .aload_n 0, 1), (28, .bipush 14, 2)]
theorem zddX11_init_24 : dqW lzddX11_init_24 (cX11_init.data.toList.drop 24) 24 = true := by decide +kernel
theorem dX11_init_24 : decode cX11_init 24 = .ok (.putfield 18, 3) := dq_get (L := lzddX11_init_24) 0 rfl zddX11_init_24 rfl
theorem dX11_init_27 : decode cX11_init 27 = .ok (.aload_n 0, 1) := dq_get (L := lzddX11_init_24) 1 rfl zddX11_init_24 rfl
theorem dX11_init_28 : decode cX11_init 28 = .ok (.bipush 14, 2) := dq_get (L := lzddX11_init_24) 2 rfl zddX11_init_24 rfl
theorem dX11_init_30 : decode cX11_init 30 = .ok (.newarray .int, 2) := by decide +kernel
def lzddX11_init_32 : List (Nat × Instr × Nat) := [(32, .putfield 21, 3), (35, .aload_n 0, 1), (36, .bipush 14, 2)]
theorem zddX11_init_32 : dqW lzddX11_init_32 (cX11_init.data.toList.drop 32) 32 = true := by decide +kernel
theorem dX11_init_32 : decode cX11_init 32 = .ok (.putfield 21, 3) := dq_get (L := lzddX11_init_32) 0 rfl zddX11_init_32 rfl
theorem dX11_init_35 : decode cX11_init 35 = .ok (.aload_n 0, 1) := dq_get (L := lzddX11_init_32) 1 rfl zddX11_init_32 rfl
theorem dX11_init_36 : decode cX11_init 36 = .ok (.bipush 14, 2) := dq_get (L := lzddX11_init_32) 2 rfl zddX11_init_32 rfl
theorem dX11_init_38 : decode cX11_init 38 = .ok (.newarray .int, 2) := by decide +kernel
def lzddX11_init_40 : List (Nat × Instr × Nat) := [(40, .putfield 24, 3), (43, .aload_n 0, 1), (44, .bipush 8, 2)]
theorem zddX11_init_40 : dqW lzddX11_init_40 (cX11_init.data.toList.drop 40) 40 = true := by decide +kernel
theorem dX11_init_40 : decode cX11_init 40 = .ok (.putfield 24, 3) := dq_get (L := lzddX11_init_40) 0 rfl zddX11_init_40 rfl
theorem dX11_init_43 : decode cX11_init 43 = .ok (.aload_n 0, 1) := dq_get (L := lzddX11_init_40) 1 rfl zddX11_init_40 rfl
theorem dX11_init_44 : decode cX11_init 44 = .ok (.bipush 8, 2) := dq_get (L := lzddX11_init_40) 2 rfl zddX11_init_40 rfl
theorem dX11_init_46 : decode cX11_init 46 = .ok (.newarray .int, 2) := by decide +kernel
def lzddX11_init_48 : List (Nat × Instr × Nat) := [(48, .putfield 27, 3), (51, .aload_n 0, 1), (52, .bipush 8, 2)]
theorem zddX11_init_48 : dqW lzddX11_init_48 (cX11_init.data.toList.drop 48) 48 = true := by decide +kernel
theorem dX11_init_48 : decode cX11_init 48 = .ok (.putfield 27, 3) := dq_get (L := lzddX11_init_48) 0 rfl zddX11_init_48 rfl
theorem dX11_init_51 : decode cX11_init 51 = .ok (.aload_n 0, 1) := dq_get (L := lzddX11_init_48) 1 rfl zddX11_init_48 rfl
theorem dX11_init_52 : decode cX11_init 52 = .ok (.bipush 8, 2) := dq_get (L := lzddX11_init_48) 2 rfl zddX11_init_48 rfl
theorem dX11_init_54 : decode cX11_init 54 = .ok (.newarray .int, 2) := by decide +kernel
def lzddX11_init_56 : List (Nat × Instr × Nat) := [(56, .putfield 30, 3), (59, .aload_n 0, 1), (60, .iconst 4, 1)]
theorem zddX11_init_56 : dqW lzddX11_init_56 (cX11_init.data.toList.drop 56) 56 = true := by decide +kernel
theorem dX11_init_56 : decode cX11_init 56 = .ok (.putfield 30, 3) := dq_get (L := lzddX11_init_56) 0 rfl zddX11_init_56 rfl
theorem dX11_init_59 : decode cX11_init 59 = .ok (.aload_n 0, 1) := dq_get (L := lzddX11_init_56) 1 rfl zddX11_init_56 rfl
theorem dX11_init_60 : decode cX11_init 60 = .ok (.iconst 4, 1) := dq_get (L := lzddX11_init_56) 2 rfl zddX11_init_56 rfl
theorem dX11_init_61 : decode cX11_init 61 = .ok (.newarray .int, 2) := by decide +kernel
def lzddX11_init_63 : List (Nat × Instr × Nat) := [(63, .putfield 33, 3), (66, .aload_n 0, 1), (67, .bipush 32, 2)]
theorem zddX11_init_63 : dqW lzddX11_init_63 (cX11_init.data.toList.drop 63) 63 = true := by decide +kernel
theorem dX11_init_63 : decode cX11_init 63 = .ok (.putfield 33, 3) := dq_get (L := lzddX11_init_63) 0 rfl zddX11_init_63 rfl
theorem dX11_init_66 : decode cX11_init 66 = .ok (.aload_n 0, 1) := dq_get (L := lzddX11_init_63) 1 rfl zddX11_init_63 rfl
theorem dX11_init_67 : decode cX11_init 67 = .ok (.bipush 32, 2) := dq_get (L := lzddX11_init_63) 2 rfl zddX11_init_63 rfl
theorem dX11_init_69 : decode cX11_init 69 = .ok (.newarray .int, 2) := by decide +kernel
def lzddX11_init_71 : List (Nat × Instr × Nat) := [(71, .putfield 36, 3), (74, .aload_n 0, 1), (75, .bipush 8, 2)]
theorem zddX11_init_71 : dqW lzddX11_init_71 (cX11_init.data.toList.drop 71) 71 = true := by decide +kernel
theorem dX11_init_71 : decode cX11_init 71 = .ok (.putfield 36, 3) := dq_get (L := lzddX11_init_71) 0 rfl zddX11_init_71 rfl
theorem dX11_init_74 : decode cX11_init 74 = .ok (.aload_n 0, 1) := dq_get (L := lzddX11_init_71) 1 rfl zddX11_init_71 rfl
theorem dX11_init_75 : decode cX11_init 75 = .ok (.bipush 8, 2) := dq_get (L := lzddX11_init_71) 2 rfl zddX11_init_71 rfl
theorem dX11_init_77 : decode cX11_init 77 = .ok (.newarray .boolean, 2) := by decide +kernel
def lzddX11_init_79 : List (Nat × Instr × Nat) := [(79, .putfield 39, 3), (82, .aload_n 0, 1), (83, .iconst 5, 1)]
theorem zddX11_init_79 : dqW lzddX11_init_79 (cX11_init.data.toList.drop 79) 79 = true := by decide +kernel
theorem dX11_init_79 : decode cX11_init 79 = .ok (.putfield 39, 3) := dq_get (L := lzddX11_init_79) 0 rfl zddX11_init_79 rfl
theorem dX11_init_82 : decode cX11_init 82 = .ok (.aload_n 0, 1) := dq_get (L := lzddX11_init_79) 1 rfl zddX11_init_79 rfl
theorem dX11_init_83 : decode cX11_init 83 = .ok (.iconst 5, 1) := dq_get (L := lzddX11_init_79) 2 rfl zddX11_init_79 rfl
theorem dX11_init_84 : decode cX11_init 84 = .ok (.newarray .int, 2) := by decide +kernel
def lzddX11_init_86 : List (Nat × Instr × Nat) := [(86, .putfield 43, 3), (89, .aload_n 0, 1), (90, .iconst 5, 1)]
theorem zddX11_init_86 : dqW lzddX11_init_86 (cX11_init.data.toList.drop 86) 86 = true := by decide +kernel
theorem dX11_init_86 : decode cX11_init 86 = .ok (.putfield 43, 3) := dq_get (L := lzddX11_init_86) 0 rfl zddX11_init_86 rfl
theorem dX11_init_89 : decode cX11_init 89 = .ok (.aload_n 0, 1) := dq_get (L := lzddX11_init_86) 1 rfl zddX11_init_86 rfl
theorem dX11_init_90 : decode cX11_init 90 = .ok (.iconst 5, 1) := dq_get (L := lzddX11_init_86) 2 rfl zddX11_init_86 rfl
theorem dX11_init_91 : decode cX11_init 91 = .ok (.newarray .int, 2) := by decide +kernel
def lzddX11_init_93 : List (Nat × Instr × Nat) := [(93, .putfield 46, 3), (96, .aload_n 0, 1), (97, .iconst 5, 1)]
theorem zddX11_init_93 : dqW lzddX11_init_93 (cX11_init.data.toList.drop 93) 93 = true := by decide +kernel
theorem dX11_init_93 : decode cX11_init 93 = .ok (.putfield 46, 3) := dq_get (L := lzddX11_init_93) 0 rfl zddX11_init_93 rfl
theorem dX11_init_96 : decode cX11_init 96 = .ok (.aload_n 0, 1) := dq_get (L := lzddX11_init_93) 1 rfl zddX11_init_93 rfl
theorem dX11_init_97 : decode cX11_init 97 = .ok (.iconst 5, 1) := dq_get (L := lzddX11_init_93) 2 rfl zddX11_init_93 rfl
theorem dX11_init_98 : decode cX11_init 98 = .ok (.newarray .int, 2) := by decide +kernel
def lzddX11_init_100 : List (Nat × Instr × Nat) := [(100, .putfield 49, 3), (103, .aload_n 0, 1), (104, .iconst 5, 1)]
theorem zddX11_init_100 : dqW lzddX11_init_100 (cX11_init.data.toList.drop 100) 100 = true := by decide +kernel
theorem dX11_init_100 : decode cX11_init 100 = .ok (.putfield 49, 3) := dq_get (L := lzddX11_init_100) 0 rfl zddX11_init_100 rfl
theorem dX11_init_103 : decode cX11_init 103 = .ok (.aload_n 0, 1) := dq_get (L := lzddX11_init_100) 1 rfl zddX11_init_100 rfl
theorem dX11_init_104 : decode cX11_init 104 = .ok (.iconst 5, 1) := dq_get (L := lzddX11_init_100) 2 rfl zddX11_init_100 rfl
theorem dX11_init_105 : decode cX11_init 105 = .ok (.newarray .int, 2) := by decide +kernel
def lzddX11_init_107 : List (Nat × Instr × Nat) := [(107, .putfield 52, 3), (110, .aload_n 0, 1), (111, .iconst 5, 1)]
theorem zddX11_init_107 : dqW lzddX11_init_107 (cX11_init.data.toList.drop 107) 107 = true := by decide +kernel
theorem dX11_init_107 : decode cX11_init 107 = .ok (.putfield 52, 3) := dq_get (L := lzddX11_init_107) 0 rfl zddX11_init_107 rfl
theorem dX11_init_110 : decode cX11_init 110 = .ok (.aload_n 0, 1) := dq_get (L := lzddX11_init_107) 1 rfl zddX11_init_107 rfl
theorem dX11_init_111 : decode cX11_init 111 = .ok (.iconst 5, 1) := dq_get (L := lzddX11_init_107) 2 rfl zddX11_init_107 rfl
theorem dX11_init_112 : decode cX11_init 112 = .ok (.newarray .int, 2) := by decide +kernel
def lzddX11_init_114 : List (Nat × Instr × Nat) := [(114, .putfield 55, 3), (117, .aload_n 0, 1), (118, .iconst 5, 1)]
theorem zddX11_init_114 : dqW lzddX11_init_114 (cX11_init.data.toList.drop 114) 114 = true := by decide +kernel
theorem dX11_init_114 : decode cX11_init 114 = .ok (.putfield 55, 3) := dq_get (L := lzddX11_init_114) 0 rfl zddX11_init_114 rfl
theorem dX11_init_117 : decode cX11_init 117 = .ok (.aload_n 0, 1) := dq_get (L := lzddX11_init_114) 1 rfl zddX11_init_114 rfl
theorem dX11_init_118 : decode cX11_init 118 = .ok (.iconst 5, 1) := dq_get (L := lzddX11_init_114) 2 rfl zddX11_init_114 rfl
theorem dX11_init_119 : decode cX11_init 119 = .ok (.newarray .int, 2) := by decide +kernel
def lzddX11_init_121 : List (Nat × Instr × Nat) := [(121, .putfield 58, 3), (124, .aload_n 0, 1), (125, .bipush 6, 2)]
theorem zddX11_init_121 : dqW lzddX11_init_121 (cX11_init.data.toList.drop 121) 121 = true := by decide +kernel
theorem dX11_init_121 : decode cX11_init 121 = .ok (.putfield 58, 3) := dq_get (L := lzddX11_init_121) 0 rfl zddX11_init_121 rfl
theorem dX11_init_124 : decode cX11_init 124 = .ok (.aload_n 0, 1) := dq_get (L := lzddX11_init_121) 1 rfl zddX11_init_121 rfl
theorem dX11_init_125 : decode cX11_init 125 = .ok (.bipush 6, 2) := dq_get (L := lzddX11_init_121) 2 rfl zddX11_init_121 rfl
theorem dX11_init_127 : decode cX11_init 127 = .ok (.newarray .int, 2) := by decide +kernel
def lzddX11_init_129 : List (Nat × Instr × Nat) := [(129, .putfield 61, 3), (132, .aload_n 0, 1), (133, .bipush 6, 2)]
theorem zddX11_init_129 : dqW lzddX11_init_129 (cX11_init.data.toList.drop 129) 129 = true := by decide +kernel
theorem dX11_init_129 : decode cX11_init 129 = .ok (.putfield 61, 3) := dq_get (L := lzddX11_init_129) 0 rfl zddX11_init_129 rfl
theorem dX11_init_132 : decode cX11_init 132 = .ok (.aload_n 0, 1) := dq_get (L := lzddX11_init_129) 1 rfl zddX11_init_129 rfl
theorem dX11_init_133 : decode cX11_init 133 = .ok (.bipush 6, 2) := dq_get (L := lzddX11_init_129) 2 rfl zddX11_init_129 rfl
theorem dX11_init_135 : decode cX11_init 135 = .ok (.newarray .int, 2) := by decide +kernel
def lzddX11_init_137 : List (Nat × Instr × Nat) := [(137, .putfield 64, 3), (140, .aload_n 0, 1), (141, .bipush 6, 2)]
theorem zddX11_init_137 : dqW lzddX11_init_137 (cX11_init.data.toList.drop 137) 137 = true := by decide +kernel
theorem dX11_init_137 : decode cX11_init 137 = .ok (.putfield 64, 3) := dq_get (L := lzddX11_init_137) 0 rfl zddX11_init_137 rfl
theorem dX11_init_140 : decode cX11_init 140 = .ok (.aload_n 0, 1) := dq_get (L := lzddX11_init_137) 1 rfl zddX11_init_137 rfl
theorem dX11_init_141 : decode cX11_init 141 = .ok (.bipush 6, 2) := dq_get (L := lzddX11_init_137) 2 rfl zddX11_init_137 rfl
theorem dX11_init_143 : decode cX11_init 143 = .ok (.newarray .int, 2) := by decide +kernel
def lzddX11_init_145 : List (Nat × Instr × Nat) := [(145, .putfield 67, 3), (148, .aload_n 0, 1), (149, .bipush 6, 2)]
theorem zddX11_init_145 : dqW lzddX11_init_145 (cX11_init.data.toList.drop 145) 145 = true := by decide +kernel
theorem dX11_init_145 : decode cX11_init 145 = .ok (.putfield 67, 3) := dq_get (L := lzddX11_init_145) 0 rfl zddX11_init_145 rfl
theorem dX11_init_148 : decode cX11_init 148 = .ok (.aload_n 0, 1) := dq_get (L := lzddX11_init_145) 1 rfl zddX11_init_145 rfl
theorem dX11_init_149 : decode cX11_init 149 = .ok (.bipush 6, 2) := dq_get (L := lzddX11_init_145) 2 rfl zddX11_init_145 rfl
theorem dX11_init_151 : decode cX11_init 151 = .ok (.newarray .int, 2) := by decide +kernel
def lzddX11_init_153 : List (Nat × Instr × Nat) := [(153, .putfield 70, 3), (156, .aload_n 0, 1), (157, .bipush 13, 2)]
theorem zddX11_init_153 : dqW lzddX11_init_153 (cX11_init.data.toList.drop 153) 153 = true := by decide +kernel
theorem dX11_init_153 : decode cX11_init 153 = .ok (.putfield 70, 3) := dq_get (L := lzddX11_init_153) 0 rfl zddX11_init_153 rfl
theorem dX11_init_156 : decode cX11_init 156 = .ok (.aload_n 0, 1) := dq_get (L := lzddX11_init_153) 1 rfl zddX11_init_153 rfl
theorem dX11_init_157 : decode cX11_init 157 = .ok (.bipush 13, 2) := dq_get (L := lzddX11_init_153) 2 rfl zddX11_init_153 rfl
theorem dX11_init_159 : decode cX11_init 159 = .ok (.newarray .long, 2) := by decide +kernel
def lzddX11_init_161 : List (Nat × Instr × Nat) := [(161, .putfield 73, 3), (164, .aload_n 0, 1), (165, .bipush 13, 2)]
theorem zddX11_init_161 : dqW lzddX11_init_161 (cX11_init.data.toList.drop 161) 161 = true := by decide +kernel
theorem dX11_init_161 : decode cX11_init 161 = .ok (.putfield 73, 3) := dq_get (L := lzddX11_init_161) 0 rfl zddX11_init_161 rfl
theorem dX11_init_164 : decode cX11_init 164 = .ok (.aload_n 0, 1) := dq_get (L := lzddX11_init_161) 1 rfl zddX11_init_161 rfl
theorem dX11_init_165 : decode cX11_init 165 = .ok (.bipush 13, 2) := dq_get (L := lzddX11_init_161) 2 rfl zddX11_init_161 rfl
theorem dX11_init_167 : decode cX11_init 167 = .ok (.newarray .int, 2) := by decide +kernel
def lzddX11_init_169 : List (Nat × Instr × Nat) := [(169, .putfield 77, 3), (172, .aload_n 0, 1), (173, .bipush 13, 2)]
theorem zddX11_init_169 : dqW lzddX11_init_169 (cX11_init.data.toList.drop 169) 169 = true := by decide +kernel
theorem dX11_init_169 : decode cX11_init 169 = .ok (.putfield 77, 3) := dq_get (L := lzddX11_init_169) 0 rfl zddX11_init_169 rfl
theorem dX11_init_172 : decode cX11_init 172 = .ok (.aload_n 0, 1) := dq_get (L := lzddX11_init_169) 1 rfl zddX11_init_169 rfl
theorem dX11_init_173 : decode cX11_init 173 = .ok (.bipush 13, 2) := dq_get (L := lzddX11_init_169) 2 rfl zddX11_init_169 rfl
theorem dX11_init_175 : decode cX11_init 175 = .ok (.newarray .int, 2) := by decide +kernel
def lzddX11_init_177 : List (Nat × Instr × Nat) := [(177, .putfield 80, 3), (180, .return_, 1)]
theorem zddX11_init_177 : dqW lzddX11_init_177 (cX11_init.data.toList.drop 177) 177 = true := by decide +kernel
theorem dX11_init_177 : decode cX11_init 177 = .ok (.putfield 80, 3) := dq_get (L := lzddX11_init_177) 0 rfl zddX11_init_177 rfl
theorem dX11_init_180 : decode cX11_init 180 = .ok (.return_, 1) := dq_get (L := lzddX11_init_177) 1 rfl zddX11_init_177 rfl
set_option maxHeartbeats 4000000 in
theorem k_X11_init {l : Launch} {T : Nat → Nat} {cn : Nat} {K N : Nat → Nat} {I : cz_I} {R : cz_R} {L : cz_L} {d : Int} {a0 : Nat} (hB : Bd T I R a0 cn d 0 cn T K N I R) : ConE l mX11_init [.ref a0] cn K N I R L (ca_v (fun cn' K' N' I' R' L' => cn' = cn + 23 ∧ ∃ T', Bd T I R a0 cn d 23 (cn + 23) T' K' N' I' R')) := by
  refine ConE.of (by decide +kernel) rfl (Nat.le_of_ble_eq_true rfl) rfl (fun X hX hZ hE => ?_)
  subst hX
  refine tr_aload_n dX11_init_0 rfl ?_
  refine tr_obj dX11_init_1 lk11_3 cz_oi cz_oc (by decide) (Nat.le_of_ble_eq_true rfl) ?_
  have hB0 : Bd T I R a0 cn d 0 (cn + 0) T K N I R := hB
  show Tr X mX11_init 4 _ _ (cn + 0) _ _ _ _ _ _ _
  refine tr_aload_n dX11_init_4 rfl ?_
  refine q_iconst dX11_init_5 (by decide) ?_
  intro v0 h0
  refine q_bdn (i := 0) (len := 5) hB0 dX11_init_6 (by decide) arc_int h0 rfl rfl (by decide) rfl (fun j => iok_z (lo := (-2147483648)) (hi := 2147483647) rfl (by decide) (by decide)) (fun j => rfl) (by decide) (by decide) (by decide) (by decide) ?_
  intro T1 K1 N1 I1 R1 L1 hC0 ht0
  refine q_bdp (i := 0) hC0 ht0 dX11_init_8 fl11_9 (Or.inr ⟨rfl, rfl, rfl⟩) ?_
  intro Q1 hB1
  refine tr_aload_n dX11_init_11 rfl ?_
  refine q_bipush dX11_init_12 (by decide +kernel) ?_
  intro v1 h1
  refine q_bdn (i := 1) (len := 14) hB1 dX11_init_14 (by decide) arc_int h1 rfl rfl (by decide) rfl (fun j => iok_z (lo := (-2147483648)) (hi := 2147483647) rfl (by decide) (by decide)) (fun j => rfl) (by decide) (by decide) (by decide) (by decide) ?_
  intro T2 K2 N2 I2 R2 L2 hC1 ht1
  refine q_bdp (i := 1) hC1 ht1 dX11_init_16 fl11_15 (Or.inr ⟨rfl, rfl, rfl⟩) ?_
  intro Q2 hB2
  refine tr_aload_n dX11_init_19 rfl ?_
  refine q_bipush dX11_init_20 (by decide +kernel) ?_
  intro v2 h2
  refine q_bdn (i := 2) (len := 14) hB2 dX11_init_22 (by decide) arc_int h2 rfl rfl (by decide) rfl (fun j => iok_z (lo := (-2)) (hi := 3) rfl (by decide) (by decide)) (fun j => rfl) (by decide) (by decide) (by decide) (by decide) ?_
  intro T3 K3 N3 I3 R3 L3 hC2 ht2
  refine q_bdp (i := 2) hC2 ht2 dX11_init_24 fl11_18 (Or.inr ⟨rfl, rfl, rfl⟩) ?_
  intro Q3 hB3
  refine tr_aload_n dX11_init_27 rfl ?_
  refine q_bipush dX11_init_28 (by decide +kernel) ?_
  intro v3 h3
  refine q_bdn (i := 3) (len := 14) hB3 dX11_init_30 (by decide) arc_int h3 rfl rfl (by decide) rfl (fun j => iok_z (lo := 0) (hi := 240) rfl (by decide) (by decide)) (fun j => rfl) (by decide) (by decide) (by decide) (by decide) ?_
  intro T4 K4 N4 I4 R4 L4 hC3 ht3
  refine q_bdp (i := 3) hC3 ht3 dX11_init_32 fl11_21 (Or.inr ⟨rfl, rfl, rfl⟩) ?_
  intro Q4 hB4
  refine tr_aload_n dX11_init_35 rfl ?_
  refine q_bipush dX11_init_36 (by decide +kernel) ?_
  intro v4 h4
  refine q_bdn (i := 4) (len := 14) hB4 dX11_init_38 (by decide) arc_int h4 rfl rfl (by decide) rfl (fun j => iok_z (lo := 0) (hi := 240) rfl (by decide) (by decide)) (fun j => rfl) (by decide) (by decide) (by decide) (by decide) ?_
  intro T5 K5 N5 I5 R5 L5 hC4 ht4
  refine q_bdp (i := 4) hC4 ht4 dX11_init_40 fl11_24 (Or.inr ⟨rfl, rfl, rfl⟩) ?_
  intro Q5 hB5
  refine tr_aload_n dX11_init_43 rfl ?_
  refine q_bipush dX11_init_44 (by decide +kernel) ?_
  intro v5 h5
  refine q_bdn (i := 5) (len := 8) hB5 dX11_init_46 (by decide) arc_int h5 rfl rfl (by decide) rfl (fun j => iok_z (lo := 0) (hi := 3) rfl (by decide) (by decide)) (fun j => rfl) (by decide) (by decide) (by decide) (by decide) ?_
  intro T6 K6 N6 I6 R6 L6 hC5 ht5
  refine q_bdp (i := 5) hC5 ht5 dX11_init_48 fl11_27 (Or.inr ⟨rfl, rfl, rfl⟩) ?_
  intro Q6 hB6
  refine tr_aload_n dX11_init_51 rfl ?_
  refine q_bipush dX11_init_52 (by decide +kernel) ?_
  intro v6 h6
  refine q_bdn (i := 6) (len := 8) hB6 dX11_init_54 (by decide) arc_int h6 rfl rfl (by decide) rfl (fun j => iok_z (lo := 0) (hi := 239) rfl (by decide) (by decide)) (fun j => rfl) (by decide) (by decide) (by decide) (by decide) ?_
  intro T7 K7 N7 I7 R7 L7 hC6 ht6
  refine q_bdp (i := 6) hC6 ht6 dX11_init_56 fl11_30 (Or.inr ⟨rfl, rfl, rfl⟩) ?_
  intro Q7 hB7
  refine tr_aload_n dX11_init_59 rfl ?_
  refine q_iconst dX11_init_60 (by decide) ?_
  intro v7 h7
  refine q_bdn (i := 7) (len := 4) hB7 dX11_init_61 (by decide) arc_int h7 rfl rfl (by decide) rfl (fun j => iok_z (lo := 0) (hi := 8) rfl (by decide) (by decide)) (fun j => rfl) (by decide) (by decide) (by decide) (by decide) ?_
  intro T8 K8 N8 I8 R8 L8 hC7 ht7
  refine q_bdp (i := 7) hC7 ht7 dX11_init_63 fl11_33 (Or.inr ⟨rfl, rfl, rfl⟩) ?_
  intro Q8 hB8
  refine tr_aload_n dX11_init_66 rfl ?_
  refine q_bipush dX11_init_67 (by decide +kernel) ?_
  intro v8 h8
  refine q_bdn (i := 8) (len := 32) hB8 dX11_init_69 (by decide) arc_int h8 rfl rfl (by decide) rfl (fun j => iok_z (lo := 0) (hi := 239) rfl (by decide) (by decide)) (fun j => rfl) (by decide) (by decide) (by decide) (by decide) ?_
  intro T9 K9 N9 I9 R9 L9 hC8 ht8
  refine q_bdp (i := 8) hC8 ht8 dX11_init_71 fl11_36 (Or.inr ⟨rfl, rfl, rfl⟩) ?_
  intro Q9 hB9
  refine tr_aload_n dX11_init_74 rfl ?_
  refine q_bipush dX11_init_75 (by decide +kernel) ?_
  intro v9 h9
  refine q_bdn (i := 9) (len := 8) hB9 dX11_init_77 (by decide) arc_boolean h9 rfl rfl (by decide) rfl (fun j => iok_z (lo := 0) (hi := 1) rfl (by decide) (by decide)) (fun j => rfl) (by decide) (by decide) (by decide) (by decide) ?_
  intro T10 K10 N10 I10 R10 L10 hC9 ht9
  refine q_bdp (i := 9) hC9 ht9 dX11_init_79 fl11_39 (Or.inr ⟨rfl, rfl, rfl⟩) ?_
  intro Q10 hB10
  refine tr_aload_n dX11_init_82 rfl ?_
  refine q_iconst dX11_init_83 (by decide) ?_
  intro v10 h10
  refine q_bdn (i := 10) (len := 5) hB10 dX11_init_84 (by decide) arc_int h10 rfl rfl (by decide) rfl (fun j => iok_z (lo := (-2147483648)) (hi := 2147483647) rfl (by decide) (by decide)) (fun j => rfl) (by decide) (by decide) (by decide) (by decide) ?_
  intro T11 K11 N11 I11 R11 L11 hC10 ht10
  refine q_bdp (i := 10) hC10 ht10 dX11_init_86 fl11_43 (Or.inr ⟨rfl, rfl, rfl⟩) ?_
  intro Q11 hB11
  refine tr_aload_n dX11_init_89 rfl ?_
  refine q_iconst dX11_init_90 (by decide) ?_
  intro v11 h11
  refine q_bdn (i := 11) (len := 5) hB11 dX11_init_91 (by decide) arc_int h11 rfl rfl (by decide) rfl (fun j => iok_z (lo := (-2147483648)) (hi := 2147483647) rfl (by decide) (by decide)) (fun j => rfl) (by decide) (by decide) (by decide) (by decide) ?_
  intro T12 K12 N12 I12 R12 L12 hC11 ht11
  refine q_bdp (i := 11) hC11 ht11 dX11_init_93 fl11_46 (Or.inr ⟨rfl, rfl, rfl⟩) ?_
  intro Q12 hB12
  refine tr_aload_n dX11_init_96 rfl ?_
  refine q_iconst dX11_init_97 (by decide) ?_
  intro v12 h12
  refine q_bdn (i := 12) (len := 5) hB12 dX11_init_98 (by decide) arc_int h12 rfl rfl (by decide) rfl (fun j => iok_z (lo := (-2147483648)) (hi := 2147483647) rfl (by decide) (by decide)) (fun j => rfl) (by decide) (by decide) (by decide) (by decide) ?_
  intro T13 K13 N13 I13 R13 L13 hC12 ht12
  refine q_bdp (i := 12) hC12 ht12 dX11_init_100 fl11_49 (Or.inr ⟨rfl, rfl, rfl⟩) ?_
  intro Q13 hB13
  refine tr_aload_n dX11_init_103 rfl ?_
  refine q_iconst dX11_init_104 (by decide) ?_
  intro v13 h13
  refine q_bdn (i := 13) (len := 5) hB13 dX11_init_105 (by decide) arc_int h13 rfl rfl (by decide) rfl (fun j => iok_z (lo := (-2147483648)) (hi := 2147483647) rfl (by decide) (by decide)) (fun j => rfl) (by decide) (by decide) (by decide) (by decide) ?_
  intro T14 K14 N14 I14 R14 L14 hC13 ht13
  refine q_bdp (i := 13) hC13 ht13 dX11_init_107 fl11_52 (Or.inr ⟨rfl, rfl, rfl⟩) ?_
  intro Q14 hB14
  refine tr_aload_n dX11_init_110 rfl ?_
  refine q_iconst dX11_init_111 (by decide) ?_
  intro v14 h14
  refine q_bdn (i := 14) (len := 5) hB14 dX11_init_112 (by decide) arc_int h14 rfl rfl (by decide) rfl (fun j => iok_z (lo := (-2147483648)) (hi := 2147483647) rfl (by decide) (by decide)) (fun j => rfl) (by decide) (by decide) (by decide) (by decide) ?_
  intro T15 K15 N15 I15 R15 L15 hC14 ht14
  refine q_bdp (i := 14) hC14 ht14 dX11_init_114 fl11_55 (Or.inr ⟨rfl, rfl, rfl⟩) ?_
  intro Q15 hB15
  refine tr_aload_n dX11_init_117 rfl ?_
  refine q_iconst dX11_init_118 (by decide) ?_
  intro v15 h15
  refine q_bdn (i := 15) (len := 5) hB15 dX11_init_119 (by decide) arc_int h15 rfl rfl (by decide) rfl (fun j => iok_z (lo := (-2147483648)) (hi := 2147483647) rfl (by decide) (by decide)) (fun j => rfl) (by decide) (by decide) (by decide) (by decide) ?_
  intro T16 K16 N16 I16 R16 L16 hC15 ht15
  refine q_bdp (i := 15) hC15 ht15 dX11_init_121 fl11_58 (Or.inr ⟨rfl, rfl, rfl⟩) ?_
  intro Q16 hB16
  refine tr_aload_n dX11_init_124 rfl ?_
  refine q_bipush dX11_init_125 (by decide +kernel) ?_
  intro v16 h16
  refine q_bdn (i := 16) (len := 6) hB16 dX11_init_127 (by decide) arc_int h16 rfl rfl (by decide) rfl (fun j => iok_z (lo := (-2147483648)) (hi := 2147483647) rfl (by decide) (by decide)) (fun j => rfl) (by decide) (by decide) (by decide) (by decide) ?_
  intro T17 K17 N17 I17 R17 L17 hC16 ht16
  refine q_bdp (i := 16) hC16 ht16 dX11_init_129 fl11_61 (Or.inr ⟨rfl, rfl, rfl⟩) ?_
  intro Q17 hB17
  refine tr_aload_n dX11_init_132 rfl ?_
  refine q_bipush dX11_init_133 (by decide +kernel) ?_
  intro v17 h17
  refine q_bdn (i := 17) (len := 6) hB17 dX11_init_135 (by decide) arc_int h17 rfl rfl (by decide) rfl (fun j => iok_z (lo := (-2147483648)) (hi := 2147483647) rfl (by decide) (by decide)) (fun j => rfl) (by decide) (by decide) (by decide) (by decide) ?_
  intro T18 K18 N18 I18 R18 L18 hC17 ht17
  refine q_bdp (i := 17) hC17 ht17 dX11_init_137 fl11_64 (Or.inr ⟨rfl, rfl, rfl⟩) ?_
  intro Q18 hB18
  refine tr_aload_n dX11_init_140 rfl ?_
  refine q_bipush dX11_init_141 (by decide +kernel) ?_
  intro v18 h18
  refine q_bdn (i := 18) (len := 6) hB18 dX11_init_143 (by decide) arc_int h18 rfl rfl (by decide) rfl (fun j => iok_z (lo := (-2147483648)) (hi := 2147483647) rfl (by decide) (by decide)) (fun j => rfl) (by decide) (by decide) (by decide) (by decide) ?_
  intro T19 K19 N19 I19 R19 L19 hC18 ht18
  refine q_bdp (i := 18) hC18 ht18 dX11_init_145 fl11_67 (Or.inr ⟨rfl, rfl, rfl⟩) ?_
  intro Q19 hB19
  refine tr_aload_n dX11_init_148 rfl ?_
  refine q_bipush dX11_init_149 (by decide +kernel) ?_
  intro v19 h19
  refine q_bdn (i := 19) (len := 6) hB19 dX11_init_151 (by decide) arc_int h19 rfl rfl (by decide) rfl (fun j => iok_z (lo := (-2147483648)) (hi := 2147483647) rfl (by decide) (by decide)) (fun j => rfl) (by decide) (by decide) (by decide) (by decide) ?_
  intro T20 K20 N20 I20 R20 L20 hC19 ht19
  refine q_bdp (i := 19) hC19 ht19 dX11_init_153 fl11_70 (Or.inr ⟨rfl, rfl, rfl⟩) ?_
  intro Q20 hB20
  refine tr_aload_n dX11_init_156 rfl ?_
  refine q_bipush dX11_init_157 (by decide +kernel) ?_
  intro v20 h20
  refine q_bdn (i := 20) (len := 13) hB20 dX11_init_159 (by decide) arc_long h20 rfl rfl (by decide) rfl (fun j => iok_z (lo := (-2147483648)) (hi := 2147483647) rfl (by decide) (by decide)) (fun j => rfl) (by decide) (by decide) (by decide) (by decide) ?_
  intro T21 K21 N21 I21 R21 L21 hC20 ht20
  refine q_bdp (i := 20) hC20 ht20 dX11_init_161 fl11_73 (Or.inr ⟨rfl, rfl, rfl⟩) ?_
  intro Q21 hB21
  refine tr_aload_n dX11_init_164 rfl ?_
  refine q_bipush dX11_init_165 (by decide +kernel) ?_
  intro v21 h21
  refine q_bdn (i := 21) (len := 13) hB21 dX11_init_167 (by decide) arc_int h21 rfl rfl (by decide) rfl (fun j => iok_z (lo := (-2147483648)) (hi := 2147483647) rfl (by decide) (by decide)) (fun j => rfl) (by decide) (by decide) (by decide) (by decide) ?_
  intro T22 K22 N22 I22 R22 L22 hC21 ht21
  refine q_bdp (i := 21) hC21 ht21 dX11_init_169 fl11_77 (Or.inr ⟨rfl, rfl, rfl⟩) ?_
  intro Q22 hB22
  refine tr_aload_n dX11_init_172 rfl ?_
  refine q_bipush dX11_init_173 (by decide +kernel) ?_
  intro v22 h22
  refine q_bdn (i := 22) (len := 13) hB22 dX11_init_175 (by decide) arc_int h22 rfl rfl (by decide) rfl (fun j => iok_z (lo := (-2147483648)) (hi := 2147483647) rfl (by decide) (by decide)) (fun j => rfl) (by decide) (by decide) (by decide) (by decide) ?_
  intro T23 K23 N23 I23 R23 L23 hC22 ht22
  refine q_bdp (i := 22) hC22 ht22 dX11_init_177 fl11_80 (Or.inr ⟨rfl, rfl, rfl⟩) ?_
  intro Q23 hB23
  exact tr_vret hZ dX11_init_180 rfl (by decide) (by decide) ⟨rfl, rfl, _, hB23⟩
