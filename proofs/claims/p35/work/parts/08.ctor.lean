/-! ===== what is new is blank ===== -/
def cz_Fr (cn : Nat) (I : cz_I) (R : cz_R) (L : cz_L) : Prop := (∀ k : Nat, cn ≤ k → I k = (fun _ => 0) ∧ R k = (fun _ => none) ∧ L k = (fun _ => 0)) ∧ ∀ k j x : Nat, R k j = some x → x < cn
theorem cz_upself {α : Type} {f : Nat → α} {k : Nat} {v : α} (h : f k = v) : va_up f k v = f := by
  funext a
  by_cases ha : a = k
  · subst ha; simp [va_up, h]
  · simp [va_up, ha]
theorem cz_Fr.more {cn : Nat} {I : cz_I} {R : cz_R} {L : cz_L} (h : cz_Fr cn I R L) : cz_Fr (cn + 1) I R L := ⟨fun k hk => h.1 k (by exact om_928a0357 hk), fun k j x hx => Nat.lt_succ_of_lt (h.2 k j x hx)⟩
theorem cz_Fr.uI {cn k j : Nat} {x : Int32} {I : cz_I} {R : cz_R} {L : cz_L} (h : cz_Fr cn I R L) (hk : k < cn) : cz_Fr cn (cz_uI I k j x) R L := ⟨fun a ha => by rw [cz_uIn (by exact om_e5688717 hk ha)]; exact h.1 a ha, h.2⟩
theorem cz_Fr.uR {cn k j x : Nat} {I : cz_I} {R : cz_R} {L : cz_L} (h : cz_Fr cn I R L) (hk : k < cn) (hx : x < cn) : cz_Fr cn I (cz_uR R k j (some x)) L := by
  refine ⟨fun a ha => by rw [cz_uRn (by exact om_e5688717 hk ha)]; exact h.1 a ha, fun a b y hy => ?_⟩
  by_cases ha : a = k
  · subst ha
    rw [cz_uRs, va_up] at hy
    by_cases hb : b = j
    · rw [if_pos hb] at hy; cases hy; exact hx
    · rw [if_neg hb] at hy; exact h.2 _ _ _ hy
  · rw [cz_uRn ha] at hy; exact h.2 _ _ _ hy
section CzNewF
variable {X : cz_X} {M : cz_M} {pc : Nat} {ls : Nat → Option Value} {st : List Value} {cn : Nat} {K N : Nat → Nat} {I : cz_I} {R : cz_R} {L : cz_L} {n w : Nat}
theorem tr_newF {idx ci : Nat} (hF : cz_Fr cn I R L) (hd : decode (cz_cc M) pc = .ok (.new idx, 3)) (hci : ci < 13) (hl1 : Cond.classLink (cz_on M.1) idx (cz_on ci) ∈ cz_T) (hl2 : Cond.instantiable (cz_on ci) (cz_nf ci) ∈ cz_T) (hl3 : Cond.initialized (cz_on ci) ∈ cz_T) (hn : n + 1 ≤ (cz_rm M).cells) (hw : w + cz_nf ci ≤ (cz_rm M).slots)
    (kk : Tr X M (pc + 3) ls (.ref cn :: st) (cn + 1) (va_up K cn ci) (va_up N cn 0) I R L (n + 1) (w + cz_nf ci)) : Tr X M pc ls st cn K N I R L n w := by
  obtain ⟨h1, h2, h3⟩ := hF.1 cn (Nat.le_refl _)
  refine tr_new hd hci hl1 hl2 hl3 hn hw ?_
  rw [cz_upself h1, cz_upself h2, cz_upself h3]
  exact kk
theorem tr_newaF {ty : ArrayType} {x : Int32} {len : Nat} (hF : cz_Fr cn I R L) (hd : decode (cz_cc M) pc = .ok (.newarray ty, 2)) (hty : cz_at ty < 99) (hl1 : Cond.arrayClass (newarray.typeOf ty) ∈ cz_T) (hx0 : ¬ x < 0) (hlen : x.toNatClampNeg = len) (hsm : len ≤ 4096) (hn : n + 1 ≤ (cz_rm M).cells) (hw : w + len ≤ (cz_rm M).slots)
    (kk : Tr X M (pc + 2) ls (.ref cn :: st) (cn + 1) (va_up K cn (cz_at ty)) (va_up N cn len) I R L (n + 1) (w + len)) : Tr X M pc ls (.int x :: st) cn K N I R L n w := by
  obtain ⟨h1, h2, h3⟩ := hF.1 cn (Nat.le_refl _)
  refine tr_newa hd hty hl1 hx0 hlen hsm hn hw ?_
  rw [cz_upself h1, cz_upself h2, cz_upself h3]
  exact kk
theorem tr_newqF {idx kd : Nat} {x : Int32} {len : Nat} (hF : cz_Fr cn I R L) (hd : decode (cz_cc M) pc = .ok (.anewarray idx, 3)) (h1 : 17 ≤ kd) (h2 : kd < 22) (hl1 : Cond.classLink (cz_on M.1) idx (cz_on (cz_el kd)) ∈ cz_T) (hl2 : cz_on (cz_el kd) ∈ cz_AO) (hx0 : ¬ x < 0) (hlen : x.toNatClampNeg = len) (hsm : len ≤ 4096) (hn : n + 1 ≤ (cz_rm M).cells) (hw : w + len ≤ (cz_rm M).slots)
    (kk : Tr X M (pc + 3) ls (.ref cn :: st) (cn + 1) (va_up K cn kd) (va_up N cn len) I R L (n + 1) (w + len)) : Tr X M pc ls (.int x :: st) cn K N I R L n w := by
  obtain ⟨g1, g2, g3⟩ := hF.1 cn (Nat.le_refl _)
  refine tr_newq hd h1 h2 hl1 hl2 hx0 hlen hsm hn hw ?_
  rw [cz_upself g1, cz_upself g2, cz_upself g3]
  exact kk
end CzNewF
/-! ===== the run of constructors ===== -/
def cz_nw : Nat → Nat → Option Nat
  | 0, 15 => some 2
  | 0, 24 => some 4
  | 0, 31 => some 9
  | 0, 37 => some 1
  | 6, 9 => some 3
  | 10, 13 => some 0
  | 10, 23 => some 7
  | 10, 32 => some 3
  | 10, 39 => some 6
  | 10, 46 => some 8
  | 10, 53 => some 5
  | _, _ => none
theorem cz_nw_ok {o idx ci : Nat} (h : cz_nw o idx = some ci) : ci < 13 ∧ Cond.classLink (cz_on o) idx (cz_on ci) ∈ cz_T ∧ Cond.instantiable (cz_on ci) (cz_nf ci) ∈ cz_T ∧ Cond.initialized (cz_on ci) ∈ cz_T := by
  unfold cz_nw at h
  split at h <;> cases h
  · exact ⟨by decide, lc0_15, ins2, ini2⟩
  · exact ⟨by decide, lc0_24, ins4, ini4⟩
  · exact ⟨by decide, lc0_31, ins9, ini9⟩
  · exact ⟨by decide, lc0_37, ins1, ini1⟩
  · exact ⟨by decide, lc6_9, ins3, ini3⟩
  · exact ⟨by decide, lc10_13, ins0, ini0⟩
  · exact ⟨by decide, lc10_23, ins7, ini7⟩
  · exact ⟨by decide, lc10_32, ins3, ini3⟩
  · exact ⟨by decide, lc10_39, ins6, ini6⟩
  · exact ⟨by decide, lc10_46, ins8, ini8⟩
  · exact ⟨by decide, lc10_53, ins5, ini5⟩
def cz_aq : Nat → Nat → Option Nat
  | 0, 15 => some 18
  | 0, 24 => some 20
  | 0, 31 => some 21
  | 0, 37 => some 17
  | 6, 9 => some 19
  | _, _ => none
theorem cz_aq_ok {o idx kd : Nat} (h : cz_aq o idx = some kd) : 17 ≤ kd ∧ kd < 22 ∧ Cond.classLink (cz_on o) idx (cz_on (cz_el kd)) ∈ cz_T ∧ cz_on (cz_el kd) ∈ cz_AO := by
  unfold cz_aq at h
  split at h <;> cases h
  · exact ⟨by decide, by decide, lc0_15, by decide +kernel⟩
  · exact ⟨by decide, by decide, lc0_24, by decide +kernel⟩
  · exact ⟨by decide, by decide, lc0_31, by decide +kernel⟩
  · exact ⟨by decide, by decide, lc0_37, by decide +kernel⟩
  · exact ⟨by decide, by decide, lc6_9, by decide +kernel⟩
def cz_cm : Nat → cz_M
  | 0 => mX0_init
  | 1 => mX1_init
  | 2 => mX2_init
  | 3 => mX3_init
  | 4 => mX4_init
  | 5 => mX5_init
  | 6 => mX6_init
  | 7 => mX7_init
  | 8 => mX8_init
  | 9 => mX9_init
  | 10 => mX10_init
  | 11 => mX11_init
  | 12 => mX12_init
  | _ => mX0_init
def cz_np : Nat → Nat
  | 0 => 0
  | 1 => 0
  | 2 => 0
  | 3 => 0
  | 4 => 0
  | 5 => 2
  | 6 => 0
  | 7 => 2
  | 8 => 0
  | 9 => 0
  | 10 => 0
  | 11 => 0
  | 12 => 0
  | _ => 0
def cz_ic : Nat → Nat → Option (Nat × Bool)
  | 0, 3 => some (99, false)
  | 0, 26 => some (4, true)
  | 0, 47 => some (2, true)
  | 0, 48 => some (9, true)
  | 0, 49 => some (1, true)
  | 1, 1 => some (99, false)
  | 2, 1 => some (99, false)
  | 3, 3 => some (99, false)
  | 4, 3 => some (99, false)
  | 5, 3 => some (99, false)
  | 6, 3 => some (99, false)
  | 6, 20 => some (3, true)
  | 7, 3 => some (99, false)
  | 8, 3 => some (99, false)
  | 9, 1 => some (99, false)
  | 10, 1 => some (99, false)
  | 10, 15 => some (0, false)
  | 10, 25 => some (7, false)
  | 10, 34 => some (3, true)
  | 10, 41 => some (6, false)
  | 10, 48 => some (8, true)
  | 10, 55 => some (5, false)
  | 11, 3 => some (99, false)
  | 12, 3 => some (99, false)
  | _, _ => none
theorem cz_ic_ok {o idx ci : Nat} {b : Bool} (h : cz_ic o idx = some (ci, b)) : (ci = 99 ∧ b = false ∧ Cond.methodLink (cz_on o) idx objectInit ∈ cz_T) ∨ (ci < 13 ∧ b = false ∧ Cond.methodLink (cz_on o) idx (cz_nm (cz_cm ci)) ∈ cz_T) ∨ (ci < 13 ∧ b = true ∧ ∃ host, (cz_on o, idx, cz_nm (cz_cm ci), host) ∈ cz_NM) := by
  unfold cz_ic at h
  split at h <;> cases h
  · exact Or.inl ⟨rfl, rfl, lk0_3⟩
  · exact Or.inr (Or.inr ⟨by decide, rfl, _, lk0_26⟩)
  · exact Or.inr (Or.inr ⟨by decide, rfl, _, lk0_47⟩)
  · exact Or.inr (Or.inr ⟨by decide, rfl, _, lk0_48⟩)
  · exact Or.inr (Or.inr ⟨by decide, rfl, _, lk0_49⟩)
  · exact Or.inl ⟨rfl, rfl, lk1_1⟩
  · exact Or.inl ⟨rfl, rfl, lk2_1⟩
  · exact Or.inl ⟨rfl, rfl, lk3_3⟩
  · exact Or.inl ⟨rfl, rfl, lk4_3⟩
  · exact Or.inl ⟨rfl, rfl, lk5_3⟩
  · exact Or.inl ⟨rfl, rfl, lk6_3⟩
  · exact Or.inr (Or.inr ⟨by decide, rfl, _, lk6_20⟩)
  · exact Or.inl ⟨rfl, rfl, lk7_3⟩
  · exact Or.inl ⟨rfl, rfl, lk8_3⟩
  · exact Or.inl ⟨rfl, rfl, lk9_1⟩
  · exact Or.inl ⟨rfl, rfl, lk10_1⟩
  · exact Or.inr (Or.inl ⟨by decide, rfl, lk10_15⟩)
  · exact Or.inr (Or.inl ⟨by decide, rfl, lk10_25⟩)
  · exact Or.inr (Or.inr ⟨by decide, rfl, _, lk10_34⟩)
  · exact Or.inr (Or.inl ⟨by decide, rfl, lk10_41⟩)
  · exact Or.inr (Or.inr ⟨by decide, rfl, _, lk10_48⟩)
  · exact Or.inr (Or.inl ⟨by decide, rfl, lk10_55⟩)
  · exact Or.inl ⟨rfl, rfl, lk11_3⟩
  · exact Or.inl ⟨rfl, rfl, lk12_3⟩
theorem cz_cm_ok {ci : Nat} (h : ci < 13) : plainName (cz_nm (cz_cm ci)).cls = true ∧ (cz_nm (cz_cm ci)).cls = cz_on (cz_cm ci).1 ∧ 1 ≤ cz_nL (cz_cm ci) ∧ (cz_np ci = 2 → 3 ≤ cz_nL (cz_cm ci)) ∧ cz_my (cz_cm ci) ci (cz_np ci) ∧ Cond.instanceMethod (cz_nm (cz_cm ci)) ∈ cz_T ∧ (cz_nm (cz_cm ci)).name = "<init>" ∧ cz_rt (cz_cm ci) = none := match ci, h with
  | 0, _ => ⟨by decide +kernel, rfl, by decide, by decide, myX0_init, inX0_init, rfl, rfl⟩
  | 1, _ => ⟨by decide +kernel, rfl, by decide, by decide, myX1_init, inX1_init, rfl, rfl⟩
  | 2, _ => ⟨by decide +kernel, rfl, by decide, by decide, myX2_init, inX2_init, rfl, rfl⟩
  | 3, _ => ⟨by decide +kernel, rfl, by decide, by decide, myX3_init, inX3_init, rfl, rfl⟩
  | 4, _ => ⟨by decide +kernel, rfl, by decide, by decide, myX4_init, inX4_init, rfl, rfl⟩
  | 5, _ => ⟨by decide +kernel, rfl, by decide, by decide, myX5_init, inX5_init, rfl, rfl⟩
  | 6, _ => ⟨by decide +kernel, rfl, by decide, by decide, myX6_init, inX6_init, rfl, rfl⟩
  | 7, _ => ⟨by decide +kernel, rfl, by decide, by decide, myX7_init, inX7_init, rfl, rfl⟩
  | 8, _ => ⟨by decide +kernel, rfl, by decide, by decide, myX8_init, inX8_init, rfl, rfl⟩
  | 9, _ => ⟨by decide +kernel, rfl, by decide, by decide, myX9_init, inX9_init, rfl, rfl⟩
  | 10, _ => ⟨by decide +kernel, rfl, by decide, by decide, myX10_init, inX10_init, rfl, rfl⟩
  | 11, _ => ⟨by decide +kernel, rfl, by decide, by decide, myX11_init, inX11_init, rfl, rfl⟩
  | 12, _ => ⟨by decide +kernel, rfl, by decide, by decide, myX12_init, inX12_init, rfl, rfl⟩
  | ci + 13, h => absurd h (by exact om_c9e5be94 h)
theorem cz_arc {ty : ArrayType} (h : cz_at ty < 99) : Cond.arrayClass (newarray.typeOf ty) ∈ cz_T := by
  revert h
  cases ty <;> intro h <;> first | exact absurd h (by decide) | exact arc_byte | exact arc_int | exact arc_long | exact arc_boolean
abbrev cz_S : Type := Nat × (Nat → Nat) × (Nat → Nat) × cz_I × cz_R
def cz_go : Nat → cz_M → Nat → (Nat → Option Value) → List Value → Nat → (Nat → Nat) → (Nat → Nat) → cz_I → cz_R → Nat → Nat → Option cz_S
  | 0, _, _, _, _, _, _, _, _, _, _, _ => none
  | f + 1, M, pc, ls, st, cn, K, N, I, R, n, w =>
    match dqD (cz_cc M) pc with
    | .ok (.aload_n i, 1) => (match ls i with
      | some (.ref x) => cz_go f M (pc + 1) ls (.ref x :: st) cn K N I R n w
      | _ => none)
    | .ok (.iload_n i, 1) => (match ls i with
      | some (.int x) => cz_go f M (pc + 1) ls (.int x :: st) cn K N I R n w
      | _ => none)
    | .ok (.iconst z, 1) => cz_go f M (pc + 1) ls (.int (Int32.ofInt z) :: st) cn K N I R n w
    | .ok (.bipush z, 2) => cz_go f M (pc + 2) ls (.int ((Int8.ofInt z).toInt32) :: st) cn K N I R n w
    | .ok (.sipush z, 3) => cz_go f M (pc + 3) ls (.int ((Int16.ofInt z).toInt32) :: st) cn K N I R n w
    | .ok (.dup, 1) => (match st with
      | .ref x :: st => cz_go f M (pc + 1) ls (.ref x :: .ref x :: st) cn K N I R n w
      | _ => none)
    | .ok (.istore_n i, 1) => (match st with
      | .int x :: st => if (i : Nat) < cz_nL M ∧ cz_lg M = [] then cz_go f M (pc + 1) (va_up ls i (some (.int x))) st cn K N I R n w else none
      | _ => none)
    | .ok (.iinc i z, 3) => (match ls i with
      | some (.int x) => if cz_lg M = [] then cz_go f M (pc + 3) (va_up ls i (some (.int (x + Int32.ofInt z)))) st cn K N I R n w else none
      | _ => none)
    | .ok (.if_icmp .ge off, 3) => (match st with
      | .int y :: .int x :: st => if y ≤ x then (if (pc : Int) + off = (((pc : Int) + off).toNat : Int) then cz_go f M ((pc : Int) + off).toNat ls st cn K N I R n w else none) else (if (pc : Int) + off = (((pc : Int) + off).toNat : Int) then cz_go f M (pc + 3) ls st cn K N I R n w else none)
      | _ => none)
    | .ok (.goto off, 3) => if (pc : Int) + off = (((pc : Int) + off).toNat : Int) then cz_go f M ((pc : Int) + off).toNat ls st cn K N I R n w else none
    | .ok (.new idx, 3) => (match cz_nw M.1 idx with
      | some ci => if n + 1 ≤ (cz_rm M).cells ∧ w + cz_nf ci ≤ (cz_rm M).slots then cz_go f M (pc + 3) ls (.ref cn :: st) (cn + 1) (va_up K cn ci) (va_up N cn 0) I R (n + 1) (w + cz_nf ci) else none
      | none => none)
    | .ok (.newarray ty, 2) => (match st with
      | .int x :: st => if cz_at ty < 99 ∧ ¬ x < 0 ∧ x.toNatClampNeg ≤ 4096 ∧ n + 1 ≤ (cz_rm M).cells ∧ w + x.toNatClampNeg ≤ (cz_rm M).slots then cz_go f M (pc + 2) ls (.ref cn :: st) (cn + 1) (va_up K cn (cz_at ty)) (va_up N cn x.toNatClampNeg) I R (n + 1) (w + x.toNatClampNeg) else none
      | _ => none)
    | .ok (.anewarray idx, 3) => (match cz_aq M.1 idx, st with
      | some kd, .int x :: st => if ¬ x < 0 ∧ x.toNatClampNeg ≤ 4096 ∧ n + 1 ≤ (cz_rm M).cells ∧ w + x.toNatClampNeg ≤ (cz_rm M).slots then cz_go f M (pc + 3) ls (.ref cn :: st) (cn + 1) (va_up K cn kd) (va_up N cn x.toNatClampNeg) I R (n + 1) (w + x.toNatClampNeg) else none
      | _, _ => none)
    | .ok (.getfield idx, 3) => (match cz_fl M.1 idx, st with
      | some (ci, j, 1, _), .ref k :: st => if K k = ci then (match R k j with
        | some x => cz_go f M (pc + 3) ls (.ref x :: st) cn K N I R n w
        | none => none) else none
      | _, _ => none)
    | .ok (.putfield idx, 3) => (match cz_fl M.1 idx, st with
      | some (ci, j, 1, b), .ref x :: .ref k :: st => if K k = ci ∧ (k < cn ∧ x < cn) ∧ ((cz_TT ci j).2.2.2 = false ∨ ((cz_nm M).name = "<init>" ∧ b = false ∧ (cz_TT ci j).1 = cz_on M.1)) then cz_go f M (pc + 3) ls st cn K N I (cz_uR R k j (some x)) n w else none
      | some (ci, j, 0, b), .int x :: .ref k :: st => if K k = ci ∧ k < cn ∧ ((cz_TT ci j).2.2.2 = false ∨ ((cz_nm M).name = "<init>" ∧ b = false ∧ (cz_TT ci j).1 = cz_on M.1)) then cz_go f M (pc + 3) ls st cn K N (cz_uI I k j x) R n w else none
      | _, _ => none)
    | .ok (.aastore, 1) => (match st with
      | .ref x :: .int i :: .ref k :: st => if 17 ≤ K k ∧ K k < 22 ∧ K x = cz_el (K k) ∧ ¬ (i < 0 ∨ N k ≤ i.toNatClampNeg) ∧ k < cn ∧ x < cn then cz_go f M (pc + 1) ls st cn K N I (cz_uR R k i.toNatClampNeg (some x)) n w else none
      | _ => none)
    | .ok (.invokespecial idx, 3) => (match cz_ic M.1 idx, st with
      | some (99, _), .ref _ :: st => if 1 ≤ (cz_rm M).frames ∧ (st.map fun v => v.category).sum + 12 ≤ (cz_rm M).locals then cz_go f M (pc + 3) ls st cn K N I R n w else none
      | some (ci, _), .ref k :: st => if cz_np ci = 0 then (if ((cz_rm (cz_cm ci)).frames + 1 ≤ (cz_rm M).frames ∧ 8 + (cz_nL (cz_cm ci) + 11) + (cz_rm (cz_cm ci)).locals ≤ (cz_rm M).locals) ∧ (st.map fun v => v.category).sum ≤ 8 ∧ n + (cz_rm (cz_cm ci)).cells ≤ (cz_rm M).cells ∧ w + (cz_rm (cz_cm ci)).slots ≤ (cz_rm M).slots then (match cz_go f (cz_cm ci) 0 (cz_en [.ref k]) [] cn K N I R 0 0 with
          | some (cn1, K1, N1, I1, R1) => cz_go f M (pc + 3) ls st cn1 K1 N1 I1 R1 (n + (cz_rm (cz_cm ci)).cells) (w + (cz_rm (cz_cm ci)).slots)
          | none => none) else none)
        else if cz_np ci = 2 then (match st with
          | .ref a :: .ref t :: st => (if ((cz_rm (cz_cm ci)).frames + 1 ≤ (cz_rm M).frames ∧ 8 + (cz_nL (cz_cm ci) + 11) + (cz_rm (cz_cm ci)).locals ≤ (cz_rm M).locals) ∧ (st.map fun v => v.category).sum ≤ 8 ∧ n + (cz_rm (cz_cm ci)).cells ≤ (cz_rm M).cells ∧ w + (cz_rm (cz_cm ci)).slots ≤ (cz_rm M).slots then (match cz_go f (cz_cm ci) 0 (cz_en [.ref t, .ref a, .ref k]) [] cn K N I R 0 0 with
            | some (cn1, K1, N1, I1, R1) => cz_go f M (pc + 3) ls st cn1 K1 N1 I1 R1 (n + (cz_rm (cz_cm ci)).cells) (w + (cz_rm (cz_cm ci)).slots)
            | none => none) else none)
          | _ => none) else none
      | _, _ => none)
    | .ok (.return_, 1) => (match st with
      | [] => if cz_rt M = none ∧ n ≤ (cz_rm M).cells ∧ w ≤ (cz_rm M).slots then some (cn, K, N, I, R) else none
      | _ => none)
    | _ => none
/-- a constructor's contract out of its run -/
theorem cz_gocon {l : Launch} {M' : cz_M} {as : List Value} {cn cn1 : Nat} {K N K1 N1 : Nat → Nat} {I I1 : cz_I} {R R1 : cz_R} {L : cz_L} (hy : plainName (cz_nm M').cls = true) (ho : (cz_nm M').cls = cz_on M'.1) (hlen : (lg_sl as).length ≤ cz_nL M') (hlg : (lv_args 0 as).all (fun q => !(q.2.category == 2) || (cz_lg M').contains q.1) = true)
    (h : ∀ (X : cz_X) (Q : cz_Q), cz_Z X M' Q → Q none cn1 K1 N1 I1 R1 L → Tr X M' 0 (cz_en as) [] cn K N I R L 0 0) : Con l M' as cn K N I R L (fun r cn' K' N' I' R' L' => r = none ∧ cn' = cn1 ∧ K' = K1 ∧ N' = N1 ∧ I' = I1 ∧ R' = R1 ∧ L' = L) :=
  Con.of hy ho hlen hlg (fun X _ hZ => h X _ hZ ⟨rfl, rfl, rfl, rfl, rfl, rfl, rfl⟩)
set_option maxHeartbeats 4000000 in
theorem cz_go_ok (L : cz_L) : ∀ (f : Nat) (M : cz_M) (pc : Nat) (ls : Nat → Option Value) (st : List Value) (cn : Nat) (K N : Nat → Nat) (I : cz_I) (R : cz_R) (n w cn' : Nat) (K' N' : Nat → Nat) (I' : cz_I) (R' : cz_R), cz_go f M pc ls st cn K N I R n w = some (cn', K', N', I', R') → cz_Fr cn I R L →
    cz_Fr cn' I' R' L ∧ ∀ (X : cz_X) (Q : cz_Q), cz_Z X M Q → Q none cn' K' N' I' R' L → Tr X M pc ls st cn K N I R L n w := by
  intro f
  induction f with
  | zero => intro M pc ls st cn K N I R n w cn' K' N' I' R' h; cases h
  | succ f ih =>
    intro M pc ls st cn K N I R n w cn' K' N' I' R' h hF
    rw [cz_go.eq_def] at h
    dsimp only at h
    rw [dqD_eq] at h
    split at h
    · rename_i i hd
      split at h
      · rename_i x hx
        obtain ⟨h1, h2⟩ := ih _ _ _ _ _ _ _ _ _ _ _ _ _ _ _ _ h hF
        exact ⟨h1, fun X Q hZ hQ => tr_aload_n hd hx (h2 X Q hZ hQ)⟩
      · cases h
    · rename_i i hd
      split at h
      · rename_i x hx
        obtain ⟨h1, h2⟩ := ih _ _ _ _ _ _ _ _ _ _ _ _ _ _ _ _ h hF
        exact ⟨h1, fun X Q hZ hQ => tr_iload_n hd hx (h2 X Q hZ hQ)⟩
      · cases h
    · rename_i z hd
      obtain ⟨h1, h2⟩ := ih _ _ _ _ _ _ _ _ _ _ _ _ _ _ _ _ h hF
      exact ⟨h1, fun X Q hZ hQ => tr_iconst hd rfl (h2 X Q hZ hQ)⟩
    · rename_i z hd
      obtain ⟨h1, h2⟩ := ih _ _ _ _ _ _ _ _ _ _ _ _ _ _ _ _ h hF
      exact ⟨h1, fun X Q hZ hQ => tr_bipush hd rfl (h2 X Q hZ hQ)⟩
    · rename_i z hd
      obtain ⟨h1, h2⟩ := ih _ _ _ _ _ _ _ _ _ _ _ _ _ _ _ _ h hF
      exact ⟨h1, fun X Q hZ hQ => tr_sipush hd rfl (h2 X Q hZ hQ)⟩
    · rename_i hd
      split at h
      · obtain ⟨h1, h2⟩ := ih _ _ _ _ _ _ _ _ _ _ _ _ _ _ _ _ h hF
        exact ⟨h1, fun X Q hZ hQ => tr_dup hd rfl (h2 X Q hZ hQ)⟩
      · cases h
    · rename_i i hd
      split at h
      · split at h
        · rename_i hc
          obtain ⟨h1, h2⟩ := ih _ _ _ _ _ _ _ _ _ _ _ _ _ _ _ _ h hF
          exact ⟨h1, fun X Q hZ hQ => tr_istore_n hd hc.1 (by rw [hc.2]; intro j hj; cases hj) (h2 X Q hZ hQ)⟩
        · cases h
      · cases h
    · rename_i i z hd
      split at h
      · rename_i x hx
        split at h
        · rename_i hc
          obtain ⟨h1, h2⟩ := ih _ _ _ _ _ _ _ _ _ _ _ _ _ _ _ _ h hF
          exact ⟨h1, fun X Q hZ hQ => tr_iinc hd hx (by rw [hc]; intro j hj; cases hj) (h2 X Q hZ hQ)⟩
        · cases h
      · cases h
    · rename_i off hd
      split at h
      · rename_i y x st
        split at h
        · rename_i hc
          split at h
          · rename_i ht
            obtain ⟨h1, h2⟩ := ih _ _ _ _ _ _ _ _ _ _ _ _ _ _ _ _ h hF
            exact ⟨h1, fun X Q hZ hQ => tr_icmp_ge _ hd ht (fun _ => h2 X Q hZ hQ) (fun q => absurd hc q)⟩
          · cases h
        · rename_i hc
          split at h
          · rename_i ht
            obtain ⟨h1, h2⟩ := ih _ _ _ _ _ _ _ _ _ _ _ _ _ _ _ _ h hF
            exact ⟨h1, fun X Q hZ hQ => tr_icmp_ge _ hd ht (fun q => absurd q hc) (fun _ => h2 X Q hZ hQ)⟩
          · cases h
      · cases h
    · rename_i off hd
      split at h
      · rename_i ht
        obtain ⟨h1, h2⟩ := ih _ _ _ _ _ _ _ _ _ _ _ _ _ _ _ _ h hF
        exact ⟨h1, fun X Q hZ hQ => tr_goto _ hd ht (h2 X Q hZ hQ)⟩
      · cases h
    · rename_i idx hd
      split at h
      · rename_i ci hx
        split at h
        · rename_i hc
          obtain ⟨h1, h2⟩ := ih _ _ _ _ _ _ _ _ _ _ _ _ _ _ _ _ h hF.more
          obtain ⟨q1, q2, q3, q4⟩ := cz_nw_ok hx
          exact ⟨h1, fun X Q hZ hQ => tr_newF hF hd q1 q2 q3 q4 hc.1 hc.2 (h2 X Q hZ hQ)⟩
        · cases h
      · cases h
    · rename_i ty hd
      split at h
      · split at h
        · rename_i hc
          obtain ⟨h1, h2⟩ := ih _ _ _ _ _ _ _ _ _ _ _ _ _ _ _ _ h hF.more
          exact ⟨h1, fun X Q hZ hQ => tr_newaF hF hd hc.1 (cz_arc hc.1) hc.2.1 rfl hc.2.2.1 hc.2.2.2.1 hc.2.2.2.2 (h2 X Q hZ hQ)⟩
        · cases h
      · cases h
    · rename_i idx hd
      split at h
      · rename_i kd x st hx
        split at h
        · rename_i hc
          obtain ⟨h1, h2⟩ := ih _ _ _ _ _ _ _ _ _ _ _ _ _ _ _ _ h hF.more
          obtain ⟨q1, q2, q3, q4⟩ := cz_aq_ok hx
          exact ⟨h1, fun X Q hZ hQ => tr_newqF hF hd q1 q2 q3 q4 hc.1 rfl hc.2.1 hc.2.2.1 hc.2.2.2 (h2 X Q hZ hQ)⟩
        · cases h
      · cases h
    · rename_i idx hd
      split at h
      · rename_i ci j b k st hx
        split at h
        · rename_i hc
          split at h
          · rename_i x hv
            obtain ⟨h1, h2⟩ := ih _ _ _ _ _ _ _ _ _ _ _ _ _ _ _ _ h hF
            exact ⟨h1, fun X Q hZ hQ => tr_getR hd hx hc hv (h2 X Q hZ hQ)⟩
          · cases h
        · cases h
      · cases h
    · rename_i idx hd
      split at h
      · rename_i ci j b x k st hx
        split at h
        · rename_i hc
          obtain ⟨h1, h2⟩ := ih _ _ _ _ _ _ _ _ _ _ _ _ _ _ _ _ h (hF.uR hc.2.1.1 hc.2.1.2)
          exact ⟨h1, fun X Q hZ hQ => tr_putR hd hx hc.1 hc.2.2 (h2 X Q hZ hQ)⟩
        · cases h
      · rename_i ci j b x k st hx
        split at h
        · rename_i hc
          obtain ⟨h1, h2⟩ := ih _ _ _ _ _ _ _ _ _ _ _ _ _ _ _ _ h (hF.uI hc.2.1)
          exact ⟨h1, fun X Q hZ hQ => tr_putI hd hx hc.1 hc.2.2 (h2 X Q hZ hQ)⟩
        · cases h
      · cases h
    · rename_i hd
      split at h
      · rename_i x i k st
        split at h
        · rename_i hc
          obtain ⟨h1, h2⟩ := ih _ _ _ _ _ _ _ _ _ _ _ _ _ _ _ _ h (hF.uR hc.2.2.2.2.1 hc.2.2.2.2.2)
          exact ⟨h1, fun X Q hZ hQ => tr_aast hd rfl hc.1 hc.2.1 hc.2.2.1 hc.2.2.2.1 (h2 X Q hZ hQ)⟩
        · cases h
      · cases h
    · rename_i idx hd
      split at h
      · rename_i b k st hx
        split at h
        · rename_i hc
          obtain ⟨h1, h2⟩ := ih _ _ _ _ _ _ _ _ _ _ _ _ _ _ _ _ h hF
          rcases cz_ic_ok hx with ⟨-, -, q⟩ | ⟨q, -⟩ | ⟨q, -⟩
          · exact ⟨h1, fun X Q hZ hQ => tr_obj hd q cz_oi cz_oc hc.1 hc.2 (h2 X Q hZ hQ)⟩
          · exact absurd q (by decide)
          · exact absurd q (by decide)
        · cases h
      · rename_i ci b k st hne hx
        have hci : ci < 13 := by
          rcases cz_ic_ok hx with ⟨q, -⟩ | ⟨q, -⟩ | ⟨q, -⟩
          · exact (hne q).elim
          · exact q
          · exact q
        obtain ⟨m1, m2, m3, m4, m5, m6, m7, m8⟩ := cz_cm_ok hci
        split at h
        · rename_i hnp
          rw [hnp] at m5
          split at h
          · rename_i hc
            split at h
            · rename_i cn1 K1 N1 I1 R1 hg
              obtain ⟨g1, g2⟩ := ih _ _ _ _ _ _ _ _ _ _ _ _ _ _ _ _ hg hF
              obtain ⟨h1, h2⟩ := ih _ _ _ _ _ _ _ _ _ _ _ _ _ _ _ _ h g1
              refine ⟨h1, fun X Q hZ hQ => ?_⟩
              have hCon := cz_gocon (l := X.2.1) m1 m2 (as := [.ref k]) m3 rfl g2
              rcases cz_ic_ok hx with ⟨q, -⟩ | ⟨-, -, q⟩ | ⟨-, -, host, q⟩
              · omega
              · exact tr_callI (as := []) hd q m6 m7 m8 m5 hc.1 rfl hc.2.1 hc.2.2.1 hc.2.2.2 hCon (fun r cn' K' N' I' R' L' hq => by obtain ⟨rfl, rfl, rfl, rfl, rfl, rfl, rfl⟩ := hq; exact h2 X Q hZ hQ)
              · exact tr_callIN (as := []) hd q m6 m7 m8 m5 hc.1 rfl hc.2.1 hc.2.2.1 hc.2.2.2 hCon (fun r cn' K' N' I' R' L' hq => by obtain ⟨rfl, rfl, rfl, rfl, rfl, rfl, rfl⟩ := hq; exact h2 X Q hZ hQ)
            · cases h
          · cases h
        · split at h
          · rename_i hnp
            rw [hnp] at m5
            split at h
            · rename_i a t st
              split at h
              · rename_i hc
                split at h
                · rename_i cn1 K1 N1 I1 R1 hg
                  obtain ⟨g1, g2⟩ := ih _ _ _ _ _ _ _ _ _ _ _ _ _ _ _ _ hg hF
                  obtain ⟨h1, h2⟩ := ih _ _ _ _ _ _ _ _ _ _ _ _ _ _ _ _ h g1
                  refine ⟨h1, fun X Q hZ hQ => ?_⟩
                  have hCon := cz_gocon (l := X.2.1) m1 m2 (as := [.ref t, .ref a, .ref k]) (m4 hnp) rfl g2
                  rcases cz_ic_ok hx with ⟨q, -⟩ | ⟨-, -, q⟩ | ⟨-, -, host, q⟩
                  · omega
                  · exact tr_callI (as := [.ref a, .ref k]) hd q m6 m7 m8 m5 hc.1 rfl hc.2.1 hc.2.2.1 hc.2.2.2 hCon (fun r cn' K' N' I' R' L' hq => by obtain ⟨rfl, rfl, rfl, rfl, rfl, rfl, rfl⟩ := hq; exact h2 X Q hZ hQ)
                  · exact tr_callIN (as := [.ref a, .ref k]) hd q m6 m7 m8 m5 hc.1 rfl hc.2.1 hc.2.2.1 hc.2.2.2 hCon (fun r cn' K' N' I' R' L' hq => by obtain ⟨rfl, rfl, rfl, rfl, rfl, rfl, rfl⟩ := hq; exact h2 X Q hZ hQ)
                · cases h
              · cases h
            · cases h
          · cases h
      · cases h
    · rename_i hd
      split at h
      · split at h
        · rename_i hc
          cases h
          exact ⟨hF, fun X Q hZ hQ => tr_vret hZ hd hc.1 hc.2.1 hc.2.2 hQ⟩
        · cases h
      · cases h
    · cases h
