/-! ===== the text as bytes and a length; TOKENS as pure functions of a place ===== -/
abbrev cz_B : Type := (Nat → Int32) × Int
def tkb (B : cz_B) (s : Int) : Int := if s < B.2 then (B.1 s.toNat).toInt else -1
def skF (B : cz_B) : Nat → Int → Int
  | 0, s => s
  | f + 1, s => if tkb B s = 32 then skF B f (s + 1) else s
def leF (B : cz_B) : Nat → Int → Int
  | 0, s => s
  | f + 1, s => if 97 ≤ tkb B s ∧ tkb B s ≤ 122 then leF B f (s + 1) else s
def deF (B : cz_B) : Nat → Int → Int
  | 0, s => s
  | f + 1, s => if 48 ≤ tkb B s ∧ tkb B s ≤ 57 then deF B f (s + 1) else s
def tkS (B : cz_B) (s : Int) : Int := skF B (B.2 - s).toNat s
def tkE (B : cz_B) (s : Int) : Int := leF B (B.2 - s).toNat s
def tkD (B : cz_B) (s : Int) : Int := deF B (B.2 - s).toNat s
def wfo (B : cz_B) (s : Int) : Nat → Int64
  | 0 => 0
  | k + 1 => wfo B s k * 32 + (B.1 (s + k).toNat).toInt64 - 97 + 1
def vfo (B : cz_B) (s : Int) : Nat → Int32
  | 0 => 0
  | k + 1 => vfo B s k * 10 + B.1 (s + k).toNat - 48
/-- 0 the end, 1 a WORD, 2 a WHOLE, 3 a semicolon, 4 a comma, 5 none -/
def tkK (B : cz_B) (s : Int) : Int :=
  if B.2 ≤ tkS B s then 0
  else if 97 ≤ tkb B (tkS B s) ∧ tkb B (tkS B s) ≤ 122 then (if tkE B (tkS B s) - tkS B s ≤ 8 then 1 else 5)
  else if 48 ≤ tkb B (tkS B s) ∧ tkb B (tkS B s) ≤ 57 then (if tkD B (tkS B s) - tkS B s ≤ 3 then 2 else 5)
  else if tkb B (tkS B s) = 59 then 3 else if tkb B (tkS B s) = 44 then 4 else 5
def tkN (B : cz_B) (s : Int) : Int :=
  if B.2 ≤ tkS B s then tkS B s
  else if 97 ≤ tkb B (tkS B s) ∧ tkb B (tkS B s) ≤ 122 then tkE B (tkS B s)
  else if 48 ≤ tkb B (tkS B s) ∧ tkb B (tkS B s) ≤ 57 then tkD B (tkS B s)
  else tkS B s + 1
def tkW (B : cz_B) (s : Int) : Int := (wfo B (tkS B s) (tkE B (tkS B s) - tkS B s).toNat).toInt
def tkV (B : cz_B) (s : Int) : Int := (vfo B (tkS B s) (tkD B (tkS B s) - tkS B s).toNat).toInt
/-- as the reference sorts them -/
def tkM (B : cz_B) (s : Int) : Int := if tkK B s = 0 then 1 else if tkK B s = 1 then 2 else if tkK B s = 2 then 3 else if tkK B s = 3 then 4 else if tkK B s = 4 then 4 else 0
def tkG (B : cz_B) (s : Int) : Int := if tkK B s = 3 then 59 else if tkK B s = 4 then 44 else 0
section CzTk
variable {B : cz_B} {s : Int}
theorem tkb_out (h : B.2 ≤ s) : tkb B s = -1 := by rw [tkb, if_neg (by exact om_6569d783 h)]
theorem tkS_eq (B : cz_B) (s : Int) : tkS B s = if tkb B s = 32 then tkS B (s + 1) else s := by
  by_cases h : s < B.2
  · rw [tkS, tkS, show (B.2 - s).toNat = (B.2 - (s + 1)).toNat + 1 by exact om_2f80caaf h, skF]
  · rw [tkS, show (B.2 - s).toNat = 0 by exact om_8bdc556c h, skF, if_neg (by rw [tkb_out (by exact om_243183f1 h)]; decide)]
theorem tkE_eq (B : cz_B) (s : Int) : tkE B s = if 97 ≤ tkb B s ∧ tkb B s ≤ 122 then tkE B (s + 1) else s := by
  by_cases h : s < B.2
  · rw [tkE, tkE, show (B.2 - s).toNat = (B.2 - (s + 1)).toNat + 1 by exact om_2f80caaf h, leF]
  · rw [tkE, show (B.2 - s).toNat = 0 by exact om_8bdc556c h, leF, if_neg (by rw [tkb_out (by exact om_243183f1 h)]; exact om_c63c60d2)]
theorem tkD_eq (B : cz_B) (s : Int) : tkD B s = if 48 ≤ tkb B s ∧ tkb B s ≤ 57 then tkD B (s + 1) else s := by
  by_cases h : s < B.2
  · rw [tkD, tkD, show (B.2 - s).toNat = (B.2 - (s + 1)).toNat + 1 by exact om_2f80caaf h, deF]
  · rw [tkD, show (B.2 - s).toNat = 0 by exact om_8bdc556c h, deF, if_neg (by rw [tkb_out (by exact om_243183f1 h)]; exact om_ff305950)]
theorem tkS_on {t : Int} (h : tkb B s = 32) (ht : t = s + 1) : tkS B t = tkS B s := by rw [tkS_eq B s, if_pos h, ht]
theorem tkS_at (h : ¬ tkb B s = 32) : tkS B s = s := by rw [tkS_eq B s, if_neg h]
theorem tkE_on {t : Int} (h : 97 ≤ tkb B s ∧ tkb B s ≤ 122) (ht : t = s + 1) : tkE B t = tkE B s := by rw [tkE_eq B s, if_pos h, ht]
theorem tkE_at (h : ¬ (97 ≤ tkb B s ∧ tkb B s ≤ 122)) : tkE B s = s := by rw [tkE_eq B s, if_neg h]
theorem tkD_on {t : Int} (h : 48 ≤ tkb B s ∧ tkb B s ≤ 57) (ht : t = s + 1) : tkD B t = tkD B s := by rw [tkD_eq B s, if_pos h, ht]
theorem tkD_at (h : ¬ (48 ≤ tkb B s ∧ tkb B s ≤ 57)) : tkD B s = s := by rw [tkD_eq B s, if_neg h]
theorem tkF_le (B : cz_B) : ∀ (f : Nat) (s : Int), s ≤ skF B f s ∧ s ≤ leF B f s ∧ s ≤ deF B f s ∧ skF B f s ≤ s + f ∧ leF B f s ≤ s + f ∧ deF B f s ≤ s + f := by
  intro f
  induction f with
  | zero => intro s; simp only [skF, leF, deF]; exact om_09dd923f
  | succ f ih =>
    intro s
    have q := ih (s + 1)
    simp only [skF, leF, deF]
    refine ⟨?_, ?_, ?_, ?_, ?_, ?_⟩ <;> split <;> omega
theorem tkS_le (B : cz_B) (s : Int) : s ≤ tkS B s ∧ (s ≤ B.2 → tkS B s ≤ B.2) := by
  have q := tkF_le B (B.2 - s).toNat s
  unfold tkS; exact om_09372f5b q.1 q.2.2.2.1
theorem tkE_le (B : cz_B) (s : Int) : s ≤ tkE B s ∧ (s ≤ B.2 → tkE B s ≤ B.2) := by
  have q := tkF_le B (B.2 - s).toNat s
  unfold tkE; exact om_09372f5b q.2.1 q.2.2.2.2.1
theorem tkD_le (B : cz_B) (s : Int) : s ≤ tkD B s ∧ (s ≤ B.2 → tkD B s ≤ B.2) := by
  have q := tkF_le B (B.2 - s).toNat s
  unfold tkD; exact om_09372f5b q.2.2.1 q.2.2.2.2.2
/-- it goes on -/
theorem tkN_go (B : cz_B) (s : Int) : s ≤ tkN B s ∧ (s ≤ B.2 → tkN B s ≤ B.2) ∧ (tkK B s ≠ 0 → s + 1 ≤ tkN B s) := by
  have h1 := tkS_le B s
  have h2 := tkE_le B (tkS B s)
  have h3 := tkD_le B (tkS B s)
  have h4 := tkE_eq B (tkS B s)
  have h5 := tkD_eq B (tkS B s)
  have h6 := tkE_le B (tkS B s + 1)
  have h7 := tkD_le B (tkS B s + 1)
  unfold tkN tkK
  by_cases c1 : B.2 ≤ tkS B s
  · rw [if_pos c1, if_pos c1]; exact om_278ab637 h1.1 h1.2 h2.2 h3.2 h4 h5 h6.2 h6.1 h7.2 h7.1
  · rw [if_neg c1]
    by_cases c2 : 97 ≤ tkb B (tkS B s) ∧ tkb B (tkS B s) ≤ 122
    · rw [if_pos c2] at h4 ⊢; exact om_97c470a4 h1.1 h4 h6.1 h6.2 h7.2 c1
    · rw [if_neg c2]
      by_cases c3 : 48 ≤ tkb B (tkS B s) ∧ tkb B (tkS B s) ≤ 57
      · rw [if_pos c3] at h5 ⊢; exact om_e27c68e7 h1.1 h5 h7.1 h7.2 c1 c2 c3.2 c3.1
      · rw [if_neg c3]; exact om_f5fbd8b0 h1.1 c1
theorem tkK_rg (B : cz_B) (s : Int) : 0 ≤ tkK B s ∧ tkK B s ≤ 5 := by
  unfold tkK; repeat' (first | exact om_33486320 | split)
theorem tkM_of (B : cz_B) (s : Int) : (tkK B s = 0 ∧ tkM B s = 1 ∧ tkG B s = 0) ∨ (tkK B s = 1 ∧ tkM B s = 2 ∧ tkG B s = 0) ∨ (tkK B s = 2 ∧ tkM B s = 3 ∧ tkG B s = 0) ∨ (tkK B s = 3 ∧ tkM B s = 4 ∧ tkG B s = 59) ∨ (tkK B s = 4 ∧ tkM B s = 4 ∧ tkG B s = 44) ∨ (tkK B s = 5 ∧ tkM B s = 0 ∧ tkG B s = 0) := by
  have h := tkK_rg B s
  unfold tkM tkG
  repeat' (first | exact om_ad3ed0b8 h.2 h.1 | split)
end CzTk
/-- what a cell holds where a TOKEN is such a one -/
def AtW (k w w' : Int) : Prop := k = 1 → w = w'
def AtV (k w w' : Int) : Prop := k = 2 → w = w'
def AtN (k w w' : Int) : Prop := k ≠ 5 → w = w'
/-- a row of bytes is the text -/
def Tx (I : cz_I) (t : Nat) (B : cz_B) : Prop := 0 ≤ B.2 ∧ B.2 ≤ 900 ∧ ∀ k : Nat, k < 900 → I t k = B.1 k
theorem Tx.by {I : cz_I} {t : Nat} {B : cz_B} {i n : Int32} (h : Tx I t B) (h0 : 0 ≤ i.toInt) (h1 : i.toInt < B.2) (c : I t i.toNatClampNeg = n) : n.toInt = tkb B i.toInt := by
  rw [tkb, if_pos h1, ← c]
  have e : i.toNatClampNeg = i.toInt.toNat := rfl
  rw [e, h.2.2 _ (by have := h.2.1; exact om_24722d3a h1 this)]
/-! ===== words of the language as numbers ===== -/
def pkF (u : Nat) : Nat → Int64
  | 0 => 0
  | k + 1 => pkF u k * 32 + (cz_sch u k).toInt64 - 97 + 1
def pkI (u : UInt32) : Int := (pkF u.toNat (cz_slen.getD u.toNat 0)).toInt
theorem t64_1 {c : Int32} (h0 : 0 ≤ c.toInt) (h1 : c.toInt ≤ 65535) : (c - 97 + 1).toInt64 = c.toInt64 - 97 + 1 := by
  apply Int64.toInt_inj.mp
  have e0 : (97 : Int32).toInt = 97 := rfl
  have e1 : (1 : Int32).toInt = 1 := rfl
  have a1 : (c - 97).toInt = c.toInt - 97 := by rw [ti_sub (by rw [e0]; exact om_c81e4c15 h0 h1) (by rw [e0]; exact om_223437c8 h0 h1), e0]
  have a2 : (c - 97 + 1).toInt = c.toInt - 97 + 1 := by rw [ti_add (by rw [a1, e1]; exact om_8b350a5e h0 h1 a1) (by rw [a1, e1]; exact om_9cacea5a h0 h1 a1), a1, e1]
  have b0 : (97 : Int64).toInt = 97 := rfl
  have b1 : (1 : Int64).toInt = 1 := rfl
  have b2 : (c.toInt64 - 97).toInt = c.toInt - 97 := by rw [Int64.toInt_sub, b0, Int32.toInt_toInt64]; exact cz_bm6 (by exact om_fb3d612e h0 h1 a1 a2) (by exact om_481fdad2 h0 h1 a1 a2)
  rw [Int32.toInt_toInt64, a2, Int64.toInt_add, b2, b1]; exact (cz_bm6 (by exact om_49096c2a h0 h1 a1 a2 b2) (by exact om_e9cd8c42 h0 h1 a1 a2 b2)).symm
theorem t64_2 (v : Int64) {c : Int32} (h0 : 0 ≤ c.toInt) (h1 : c.toInt ≤ 65535) : 32 * v + (c - 97 + 1).toInt64 = v * 32 + c.toInt64 - 97 + 1 := by
  rw [t64_1 h0 h1, Int64.mul_comm, Int64.sub_eq_add_neg, Int64.sub_eq_add_neg, Int64.add_assoc, Int64.add_assoc, Int64.add_assoc]
theorem cz_schr : ∀ u < 27, ∀ i < 31, 0 ≤ (cz_sch u i).toInt ∧ (cz_sch u i).toInt ≤ 65535 := by decide +kernel
theorem pk_0 : pkI (0 : UInt32) = 1490073635 := by decide +kernel
theorem pk_1 : pkI (1 : UInt32) = 1424 := by decide +kernel
theorem pk_2 : pkI (2 : UInt32) = 52 := by decide +kernel
theorem pk_3 : pkI (3 : UInt32) = 2500036 := by decide +kernel
theorem pk_4 : pkI (4 : UInt32) = 81300 := by decide +kernel
theorem pk_5 : pkI (5 : UInt32) = 99724 := by decide +kernel
theorem pk_6 : pkI (6 : UInt32) = 109221477 := by decide +kernel
theorem pk_7 : pkI (7 : UInt32) = 3554980 := by decide +kernel
theorem pk_8 : pkI (8 : UInt32) = 3657363 := by decide +kernel
theorem pk_9 : pkI (9 : UInt32) = 136230 := by decide +kernel
theorem pk_10 : pkI (10 : UInt32) = 147182 := by decide +kernel
theorem pk_11 : pkI (11 : UInt32) = 5482267237 := by decide +kernel
theorem pk_12 : pkI (12 : UInt32) = 6642 := by decide +kernel
theorem pk_13 : pkI (13 : UInt32) = 215533 := by decide +kernel
theorem pk_14 : pkI (14 : UInt32) = 8435859 := by decide +kernel
theorem pk_15 : pkI (15 : UInt32) = 8884 := by decide +kernel
theorem pk_16 : pkI (16 : UInt32) = 284307 := by decide +kernel
theorem pk_17 : pkI (17 : UInt32) = 394672 := by decide +kernel
theorem pk_18 : pkI (18 : UInt32) = 14276022451 := by decide +kernel
theorem pk_20 : pkI (20 : UInt32) = 556043443 := by decide +kernel
theorem pk_21 : pkI (21 : UInt32) = 627891 := by decide +kernel
theorem pk_22 : pkI (22 : UInt32) = 20692226226 := by decide +kernel
theorem pk_23 : pkI (23 : UInt32) = 20325477 := by decide +kernel
theorem pk_24 : pkI (24 : UInt32) = 21015731 := by decide +kernel
theorem pk_25 : pkI (25 : UInt32) = 655 := by decide +kernel
theorem pk_26 : pkI (26 : UInt32) = 693713074 := by decide +kernel

/-! ===== packed, wordOf, exactly ===== -/
set_option maxHeartbeats 1000000 in
theorem f_X7_packed {l : Launch} {cn : Nat} {K N : Nat → Nat} {I0 : cz_I} {R0 : cz_R} {L0 : cz_L} {u0 : UInt32} (hu0 : u0.toNat < cz_NS) : ConE l mX7_packed [.float u0] cn K N I0 R0 L0 (ca_l (fun v cn' K' N' I' R' L' => cn = cn' ∧ K = K' ∧ N = N' ∧ I0 = I' ∧ R0 = R' ∧ L0 = L' ∧ v.toInt = pkI u0 ∧ True)) := by
  have hlb := cz_slb u0.toNat hu0
  have hli := cz_sli u0.toNat hu0
  refine ConE.of (by decide +kernel) rfl (Nat.le_of_ble_eq_true rfl) rfl (fun X hX hZ hE => ?_)
  subst hX
  refine tr_lconst (v := 0) dX7_packed_0 rfl ?_
  refine tr_lstore_n dX7_packed_1 (by decide) (by decide) (by decide) ?_
  refine q_iconst dX7_packed_2 (by decide) ?_
  intro v2 h2
  refine tr_istore_n dX7_packed_3 (by decide) (by decide) ?_
  have lp : ∀ (fu : Nat) (ls : Nat → Option Value) (v : Int32), ls 0 = some (.float u0) → ls 1 = some (.long (pkF u0.toNat v.toInt.toNat)) → ls 3 = some (.int v) → 0 ≤ v.toInt → v.toInt ≤ (cz_slen.getD u0.toNat 0 : Int) → (2147483647 - v.toInt).toNat < fu → Tr X mX7_packed 4 ls [] cn K N I0 R0 L0 0 0 := by
    intro fu
    induction fu with
    | zero => intros; rename_i hz; exact absurd hz (Nat.not_lt_zero _)
    | succ fu ih =>
      intro ls v hl0 hl1 hl3 h0 hle hm
      refine tr_iload_n dX7_packed_4 hl3 ?_
      refine tr_aload_nS dX7_packed_5 hl0 ?_
      refine q_callT (M' := mJ0_length_8abf5) (as := []) hE hu0 dX7_packed_6 lk7_89 inJ0_length_8abf5 seJ0_length_8abf5 myJ0_length_8abf5 ⟨by decide, by decide⟩ rfl (Nat.le_of_ble_eq_true rfl) rfl rfl (by decide) (by decide) (c_length hu0) ?_
      rintro v5 cn' K' N' I' R' L' ⟨rfl, rfl, rfl, rfl, rfl, rfl, rfl⟩
      refine q_icmp_ge 37 dX7_packed_9 (by decide) (fun h5 => ?_) (fun h5 => ?_)
      · skip
        rw [hli] at h5
        refine tr_lload_n dX7_packed_37 hl1 ?_
        refine tr_lret hZ dX7_packed_38 rfl (by decide) (by decide) ⟨_, rfl, rfl, rfl, rfl, rfl, rfl, rfl, ?_, trivial⟩
        rw [pkI, show v.toInt.toNat = cz_slen.getD u0.toNat 0 by exact om_941a6b02 hlb hli hle h5]
      · skip
        rw [hli] at h5
        refine tr_lload_n dX7_packed_12 hl1 ?_
        refine tr_ldc2 (v := 32) dX7_packed_13 ld7_82 ?_
        refine tr_lmul dX7_packed_16 ?_
        refine tr_aload_nS dX7_packed_17 hl0 ?_
        refine tr_iload_n dX7_packed_18 hl3 ?_
        refine q_callT (M' := mJ0_charAt_5068e) (as := [_]) hE hu0 dX7_packed_19 lk7_93 inJ0_charAt_5068e seJ0_charAt_5068e myJ0_charAt_5068e ⟨by decide, by decide⟩ rfl (Nat.le_of_ble_eq_true rfl) rfl rfl (by decide) (by decide) (c_charAt hu0 h0 h5) ?_
        rintro v6 cn' K' N' I' R' L' ⟨rfl, rfl, rfl, rfl, rfl, rfl, rfl⟩
        refine tr_i2l dX7_packed_22 ?_
        refine tr_ladd dX7_packed_23 ?_
        refine tr_ldc2 (v := 97) dX7_packed_24 ld7_84 ?_
        refine tr_lsub dX7_packed_27 ?_
        refine tr_lconst (v := 1) dX7_packed_28 rfl ?_
        refine tr_ladd dX7_packed_29 ?_
        refine tr_lstore_n dX7_packed_30 (by decide) (by decide) (by decide) ?_
        refine q_iincE dX7_packed_31 hl3 (by decide) (by decide) (by intro j1 j2; exact om_b5406dfa hlb hli h0 h5 j2) ?_
        intro v14 h14
        refine tr_goto 4 dX7_packed_34 (by decide) ?_
        have e1 : v14.toInt.toNat = v.toInt.toNat + 1 := by exact om_79cef90a h0 h14
        have e2 : v.toNatClampNeg = v.toInt.toNat := rfl
        refine ih _ v14 hl0 ?_ rfl (by exact om_68881c41 h0 h14) (by exact om_a71febd0 hli h5 h14) (by exact om_0259e888 hlb hli h0 hm h5 h14)
        rw [e1, pkF, e2]; rfl
  refine lp _ _ v2 rfl ?_ rfl (by exact om_d99fa9e4 h2) (by exact om_883c9534 hlb hli h2) (Nat.lt_succ_self _)
  rw [show v2.toInt.toNat = 0 by exact om_8b46d78f h2, pkF]; rfl
set_option maxHeartbeats 1000000 in
theorem f_X12_wordOf {l : Launch} {cn : Nat} {K N : Nat → Nat} {I0 : cz_I} {R0 : cz_R} {L0 : cz_L} {u0 : UInt32} (hu0 : u0.toNat < cz_NS) : ConE l mX12_wordOf [.float u0] cn K N I0 R0 L0 (ca_l (fun v cn' K' N' I' R' L' => cn = cn' ∧ K = K' ∧ N = N' ∧ I0 = I' ∧ R0 = R' ∧ L0 = L' ∧ v.toInt = pkI u0 ∧ True)) := by
  have hlb := cz_slb u0.toNat hu0
  have hli := cz_sli u0.toNat hu0
  have hsr := cz_schr u0.toNat hu0
  refine ConE.of (by decide +kernel) rfl (Nat.le_of_ble_eq_true rfl) rfl (fun X hX hZ hE => ?_)
  subst hX
  refine tr_lconst (v := 0) dX12_wordOf_0 rfl ?_
  refine tr_lstore_n dX12_wordOf_1 (by decide) (by decide) (by decide) ?_
  refine q_iconst dX12_wordOf_2 (by decide) ?_
  intro v2 h2
  refine tr_istore_n dX12_wordOf_3 (by decide) (by decide) ?_
  have lp : ∀ (fu : Nat) (ls : Nat → Option Value) (v : Int32), ls 0 = some (.float u0) → ls 1 = some (.long (pkF u0.toNat v.toInt.toNat)) → ls 3 = some (.int v) → 0 ≤ v.toInt → v.toInt ≤ (cz_slen.getD u0.toNat 0 : Int) → (2147483647 - v.toInt).toNat < fu → Tr X mX12_wordOf 4 ls [] cn K N I0 R0 L0 0 0 := by
    intro fu
    induction fu with
    | zero => intros; rename_i hz; exact absurd hz (Nat.not_lt_zero _)
    | succ fu ih =>
      intro ls v hl0 hl1 hl3 h0 hle hm
      refine tr_iload_n dX12_wordOf_4 hl3 ?_
      refine tr_aload_nS dX12_wordOf_5 hl0 ?_
      refine q_callT (M' := mJ0_length_8abf5) (as := []) hE hu0 dX12_wordOf_6 lk12_87 inJ0_length_8abf5 seJ0_length_8abf5 myJ0_length_8abf5 ⟨by decide, by decide⟩ rfl (Nat.le_of_ble_eq_true rfl) rfl rfl (by decide) (by decide) (c_length hu0) ?_
      rintro v5 cn' K' N' I' R' L' ⟨rfl, rfl, rfl, rfl, rfl, rfl, rfl⟩
      refine q_icmp_ge 36 dX12_wordOf_9 (by decide) (fun h5 => ?_) (fun h5 => ?_)
      · skip
        rw [hli] at h5
        refine tr_lload_n dX12_wordOf_36 hl1 ?_
        refine tr_lret hZ dX12_wordOf_37 rfl (by decide) (by decide) ⟨_, rfl, rfl, rfl, rfl, rfl, rfl, rfl, ?_, trivial⟩
        rw [pkI, show v.toInt.toNat = cz_slen.getD u0.toNat 0 by exact om_941a6b02 hlb hli hle h5]
      · skip
        rw [hli] at h5
        have hc := hsr v.toNatClampNeg (by have e2 : v.toNatClampNeg = v.toInt.toNat := rfl; exact om_3df9ce64 hlb hli h5 e2)
        refine tr_ldc2 (v := 32) dX12_wordOf_12 ld12_93 ?_
        refine tr_lload_n dX12_wordOf_15 hl1 ?_
        refine tr_lmul dX12_wordOf_16 ?_
        refine tr_aload_nS dX12_wordOf_17 hl0 ?_
        refine tr_iload_n dX12_wordOf_18 hl3 ?_
        refine q_callT (M' := mJ0_charAt_5068e) (as := [_]) hE hu0 dX12_wordOf_19 lk12_95 inJ0_charAt_5068e seJ0_charAt_5068e myJ0_charAt_5068e ⟨by decide, by decide⟩ rfl (Nat.le_of_ble_eq_true rfl) rfl rfl (by decide) (by decide) (c_charAt hu0 h0 h5) ?_
        rintro v6 cn' K' N' I' R' L' ⟨rfl, rfl, rfl, rfl, rfl, rfl, rfl⟩
        refine tr_bipush (v := 97) dX12_wordOf_22 rfl ?_
        refine tr_isub dX12_wordOf_24 ?_
        refine tr_iconst (v := 1) dX12_wordOf_25 rfl ?_
        refine tr_iadd dX12_wordOf_26 ?_
        refine tr_i2l dX12_wordOf_27 ?_
        refine tr_ladd dX12_wordOf_28 ?_
        refine tr_lstore_n dX12_wordOf_29 (by decide) (by decide) (by decide) ?_
        refine q_iincE dX12_wordOf_30 hl3 (by decide) (by decide) (by intro j1 j2; exact om_b5406dfa hlb hli h0 h5 j2) ?_
        intro v14 h14
        refine tr_goto 4 dX12_wordOf_33 (by decide) ?_
        have e1 : v14.toInt.toNat = v.toInt.toNat + 1 := by exact om_79cef90a h0 h14
        have e2 : v.toNatClampNeg = v.toInt.toNat := rfl
        refine ih _ v14 hl0 ?_ rfl (by exact om_68881c41 h0 h14) (by exact om_a71febd0 hli h5 h14) (by exact om_0259e888 hlb hli h0 hm h5 h14)
        rw [t64_2 _ hc.1 hc.2, e1, pkF, e2]; rfl
  refine lp _ _ v2 rfl ?_ rfl (by exact om_d99fa9e4 h2) (by exact om_883c9534 hlb hli h2) (Nat.lt_succ_self _)
  rw [show v2.toInt.toNat = 0 by exact om_8b46d78f h2, pkF]; rfl
