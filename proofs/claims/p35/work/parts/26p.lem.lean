/-! ===== the reference's reader: what it stands on ===== -/
theorem and_all : ∀ k : Nat, k < 256 → ((Int32.ofInt ((k : Int) - 128)) &&& 255).toInt = if (k : Int) < 128 then (k : Int) + 128 else (k : Int) - 128 := by decide +kernel
theorem and255 {x y : Int32} (h : -128 ≤ x.toInt ∧ x.toInt ≤ 127) (hy : y.toInt = 255) : (0 ≤ x.toInt ∧ (x &&& y).toInt = x.toInt) ∨ (x.toInt < 0 ∧ (x &&& y).toInt = x.toInt + 256) := by
  obtain rfl : y = 255 := Int32.toInt_inj.mp (hy.trans rfl)
  have e : x = Int32.ofInt (((x.toInt + 128).toNat : Int) - 128) := by
    apply Int32.toInt_inj.mp
    rw [ti_ofInt (by exact om_adc5a064 h.2 h.1) (by exact om_97376c5b h.2 h.1)]; exact om_c3c48aca h.2 h.1
  have q := and_all (x.toInt + 128).toNat (by exact om_523b5d02 h.2 h.1)
  rw [← e] at q
  rw [q]
  split <;> omega
theorem tkb_at {B : cz_B} {i n : Int32} (h1 : i.toInt < B.2) (c : n.toInt = tkb B i.toInt) : n = B.1 i.toInt.toNat := by
  apply Int32.toInt_inj.mp
  rw [c, tkb, if_pos h1]
theorem tkM_K0 {B : cz_B} {s : Int} {k : Int} (h : tkK B s = k) : tkM B s = (if k = 0 then 1 else if k = 1 then 2 else if k = 2 then 3 else if k = 3 then 4 else if k = 4 then 4 else 0) ∧ tkG B s = (if k = 3 then 59 else if k = 4 then 44 else 0) := by
  subst h; exact ⟨rfl, rfl⟩
section CzNn
variable {Q : Nat → Int} {b : Nat} {w n : Int}
theorem nmF_no : ∀ (k c : Nat), nmF Q b w k c = -1 ↔ ∀ i : Nat, i < k → Q (b + (c + i)) ≠ w := by
  intro k
  induction k with
  | zero => intro c; rw [nmF]; exact ⟨fun _ i h => absurd h (Nat.not_lt_zero _), fun _ => rfl⟩
  | succ k ih =>
    intro c; rw [nmF]
    by_cases h : Q (b + c) = w
    · rw [if_pos h]
      refine ⟨fun q => by omega, fun q => absurd h (q 0 (by exact om_4474b8cb))⟩
    · rw [if_neg h, ih]
      refine ⟨fun q i hi => ?_, fun q i hi => ?_⟩
      · cases i with
        | zero => exact h
        | succ i => have := q i (by exact om_a6bfa9b4 hi); rw [show c + (i + 1) = c + 1 + i by exact om_4935d6b3]; exact this
      · have := q (i + 1) (by exact om_97975d51 hi); rw [show c + 1 + i = c + (i + 1) by exact om_65262221]; exact this
theorem nmI_no : nmI Q b n w = -1 ↔ ∀ i : Nat, (i : Int) < n → Q (b + i) ≠ w := by
  rw [nmI, nmF_no]
  refine ⟨fun q i hi => ?_, fun q i hi => ?_⟩
  · have := q i (by exact om_a78a8c43 hi); rw [Nat.zero_add] at this; exact this
  · rw [Nat.zero_add]; exact q i (by exact om_a98848b8 hi)
end CzNn
/-- names, as the reference holds them -/
def NmM (I : cz_I) (R : cz_R) (L : cz_L) (m : Nat) (Q : Nat → Int) : Prop :=
  (∀ t u w, R m 30 = some t → R m 31 = some u → R m 32 = some w →
    (∀ k : Nat, (k : Int) < Q 3 + Q 4 → ((I u k).toInt = 0 ∧ ∃ i : Nat, (i : Int) < Q 3 ∧ (L t k).toInt = Q (100 + i)) ∨ ((I u k).toInt = 1 ∧ ∃ i : Nat, (i : Int) < Q 4 ∧ (I w k).toInt = (i : Int) ∧ (L t k).toInt = Q (200 + i))) ∧
    (∀ i : Nat, (i : Int) < Q 3 → ∃ k : Nat, (k : Int) < Q 3 + Q 4 ∧ (L t k).toInt = Q (100 + i)) ∧
    (∀ i : Nat, (i : Int) < Q 4 → ∃ k : Nat, (k : Int) < Q 3 + Q 4 ∧ (L t k).toInt = Q (200 + i))) ∧
  (∀ i j : Nat, (i : Int) < Q 3 → (j : Int) < Q 4 → Q (100 + i) ≠ Q (200 + j)) ∧
  (∀ i j : Nat, (i : Int) < Q 4 → (j : Int) < Q 4 → Q (200 + i) = Q (200 + j) → i = j) ∧ 0 ≤ Q 3 ∧ Q 3 ≤ 8 ∧ 0 ≤ Q 4 ∧ Q 4 ≤ 5
/-- what find says -/
def FdM (L : cz_L) (R : cz_R) (m : Nat) (c w : Int) (v : Int32) : Prop := ∀ t, R m 30 = some t → (v.toInt = -1 ∧ ∀ k : Nat, (k : Int) < c → (L t k).toInt ≠ w) ∨ (0 ≤ v.toInt ∧ v.toInt < c ∧ (L t v.toInt.toNat).toInt = w)
/-- what names writes -/
def NaW (I : cz_I) (R : cz_R) (L : cz_L) (m : Nat) (y : Int64) (x2 x3 : Int32) (I' : cz_I) (L' : cz_L) : Prop := ∀ t u w, R m 30 = some t → R m 31 = some u → R m 32 = some w → ∀ k : Nat, ((k : Int) = (I m 7).toInt → L' t k = y ∧ I' u k = x2 ∧ I' w k = x3) ∧ (¬ (k : Int) = (I m 7).toInt → L' t k = L t k ∧ I' u k = I u k ∧ I' w k = I w k)
section CzNM
variable {T : Nat → Nat} {cn : Nat} {K N : Nat → Nat} {I I' : cz_I} {R R' : cz_R} {L L' : cz_L} {d : Int} {m k : Nat} {Q Q' : Nat → Int} {wl wi wr : List Nat}
theorem NmM.co (h : NmM I R L m Q) (hI : ∀ a j, (T a = 74 ∨ T a = 75) → I' a j = I a j) (hL : ∀ a j, T a = 73 → L' a j = L a j) (hW : Wf T cn K N I R d) (tm : T m = 14) : NmM I' R L' m Q := by
  refine ⟨fun t u w ht hu hw => ?_, h.2⟩
  have t1 : T t = 73 := hW.rs tm rfl rfl ht
  have t2 : T u = 74 := hW.rs tm rfl rfl hu
  have t3 : T w = 75 := hW.rs tm rfl rfl hw
  have q := h.1 t u w ht hu hw
  simp only [hL t _ t1, hI u _ (Or.inl t2), hI w _ (Or.inr t3)]
  exact q
theorem NmM.kpS {d' : Int} (h : NmM I R L m Q) (hS : St T cn K N d' wi wr I R I' R) (hW : Wf T cn K N I R d) (tm : T m = 14) (h4 : wi.all (fun c => !(Nat.beq (c / 64) 74)) = true) (h5 : wi.all (fun c => !(Nat.beq (c / 64) 75)) = true) : NmM I' R L m Q :=
  h.co (T := T) (fun a j q => q.elim (fun q => hS.cell q (wm_no h4)) (fun q => hS.cell q (wm_no h5))) (fun _ _ _ => rfl) hW tm
theorem NmM.kpL (h : NmM I R L m Q) (hl : LgS T wl L L') (hW : Wf T cn K N I R d) (tm : T m = 14) (h3 : wl.all (fun c => !(Nat.beq (c / 64) 73)) = true) : NmM I R L' m Q :=
  h.co (fun _ _ _ => rfl) (fun a j q => hl.cell q (wm_no h3)) hW tm
theorem NmM.kp1 {r : Nat} {j : Nat} (h : NmM I R L m Q) (f : ∀ a i, ¬ (a = k ∧ i = j) → I' a i = I a i) (tk : T k = r) (h4 : Nat.beq r 74 = false) (h5 : Nat.beq r 75 = false) (hW : Wf T cn K N I R d) (tm : T m = 14) : NmM I' R L m Q :=
  h.co (fun a i q => f a i (by
    rintro ⟨rfl, -⟩
    rw [tk] at q
    rcases q with rfl | rfl
    · cases h4
    · cases h5)) (fun _ _ _ => rfl) hW tm
theorem NmM.cg (h : NmM I R L m Q) (h3 : Q' 3 = Q 3) (h4 : Q' 4 = Q 4) (hn : ∀ i : Nat, 100 ≤ i → Q' i = Q i) : NmM I R L m Q' := by
  have e1 : ∀ i : Nat, Q' (100 + i) = Q (100 + i) := fun i => hn _ (by exact om_9920e379)
  have e2 : ∀ i : Nat, Q' (200 + i) = Q (200 + i) := fun i => hn _ (by exact om_bdc68f2f)
  unfold NmM
  simp only [h3, h4, e1, e2]
  exact h
theorem NmM.bd {B : cz_B} {s k : Int} (h : NmM I R L m Q) (h5 : ¬ k = 5) (h7 : ¬ k = 7) : NmM I R L m (bdQ B Q k s) := by
  refine h.cg ?_ ?_ (fun i hi => ?_) <;> simp only [bdQ, ↓reduceIte] <;> repeat' (first | omega | split)
theorem NmM.ln {B : cz_B} {s k : Int} (h : NmM I R L m (bdQ B Q k (tkN B s))) (hk : srt B s = k) : NmM I R L m (lnQ B Q s) := by
  subst hk; exact h
theorem NmM.z0 : NmM I R L m Q00 := by
  have e : ∀ i, Q00 i = 0 := fun _ => rfl
  refine ⟨fun t u w _ _ _ => ⟨fun k hk => ?_, fun i hi => ?_, fun i hi => ?_⟩, fun i j hi => ?_, fun i j hi => ?_, by rw [e]; decide, by rw [e]; decide, by rw [e]; decide, by rw [e]; decide⟩
  all_goals (exfalso; simp only [e] at *; omega)
theorem fd_told {w : Int} {v : Int32} {c : Int} (hM : NmM I R L m Q) (hW : Wf T cn K N I R d) (tm : T m = 14) (hF : FdM L R m c w v) (hc : c = Q 3 + Q 4) : (v.toInt = -1 ∧ nmI Q 100 (Q 3) w = -1 ∧ nmI Q 200 (Q 4) w = -1) ∨ (0 ≤ v.toInt ∧ v.toInt < c ∧ ¬ (nmI Q 100 (Q 3) w = -1 ∧ nmI Q 200 (Q 4) w = -1)) := by
  obtain ⟨t, ht, -⟩ := rf14_30 hW tm
  obtain ⟨u, hu, -⟩ := rf14_31 hW tm
  obtain ⟨x, hx, -⟩ := rf14_32 hW tm
  have q := hM.1 t u x ht hu hx
  rcases hF t ht with ⟨h1, h2⟩ | ⟨h1, h2, h3⟩
  · refine Or.inl ⟨h1, nmI_no.mpr (fun i hi he => ?_), nmI_no.mpr (fun i hi he => ?_)⟩
    · obtain ⟨k, hk, hq⟩ := q.2.1 i hi
      exact h2 k (by exact om_6e4dfe6e hc hk) (hq.trans he)
    · obtain ⟨k, hk, hq⟩ := q.2.2 i hi
      exact h2 k (by exact om_6e4dfe6e hc hk) (hq.trans he)
  · refine Or.inr ⟨h1, h2, fun hn => ?_⟩
    rcases q.1 v.toInt.toNat (by exact om_f396ec05 hc h1 h2) with ⟨-, i, hi, he⟩ | ⟨-, i, hi, -, he⟩
    · exact nmI_no.mp hn.1 i hi (he.symm.trans h3)
    · exact nmI_no.mp hn.2 i hi (he.symm.trans h3)
theorem fd_sort {w : Int} {v s : Int32} {c : Int} {u : Nat} (hM : NmM I R L m Q) (hW : Wf T cn K N I R d) (tm : T m = 14) (hF : FdM L R m c w v) (hc : c = Q 3 + Q 4) (h0 : 0 ≤ v.toInt) (hu : R m 31 = some u) (hs : I u v.toNatClampNeg = s) : (s.toInt = 1 ∧ ¬ nmI Q 200 (Q 4) w = -1) ∨ (s.toInt = 0 ∧ nmI Q 200 (Q 4) w = -1) := by
  obtain ⟨t, ht, -⟩ := rf14_30 hW tm
  obtain ⟨x, hx, -⟩ := rf14_32 hW tm
  have q := hM.1 t u x ht hu hx
  have e : v.toNatClampNeg = v.toInt.toNat := rfl
  rw [e] at hs
  rcases hF t ht with ⟨h1, -⟩ | ⟨-, h2, h3⟩
  · exact om_0e12761a h0 h1
  · rcases q.1 v.toInt.toNat (by exact om_f396ec05 hc h0 h2) with ⟨h4, i, hi, he⟩ | ⟨h4, i, hi, -, he⟩
    · refine Or.inr ⟨by rw [← hs]; exact h4, nmI_no.mpr (fun j hj hq => ?_)⟩
      exact hM.2.1 i j hi hj (he.symm.trans (h3.trans hq.symm))
    · exact Or.inl ⟨by rw [← hs]; exact h4, fun hn => nmI_no.mp hn i hi (he.symm.trans h3)⟩
end CzNM
theorem ha_all : ∀ h : Nat, h < 16 → ∀ v : Nat, v < 4 → (((Int32.ofNat h >>> (Int32.ofNat v &&& 31)) &&& 1).toInt = bt (h : Int) (v : Int)) := by decide +kernel
set_option maxHeartbeats 1000000 in
theorem f_X12_has {l : Launch} {cn : Nat} {K N : Nat → Nat} {I0 : cz_I} {R0 : cz_R} {L0 : cz_L} {x0 x1 : Int32} (h0 : 0 ≤ x0.toInt ∧ x0.toInt ≤ 15) (h1 : 0 ≤ x1.toInt ∧ x1.toInt ≤ 3) : ConE l mX12_has [.int x0, .int x1] cn K N I0 R0 L0 (ca_i (fun v cn' K' N' I' R' L' => cn = cn' ∧ K = K' ∧ N = N' ∧ I0 = I' ∧ R0 = R' ∧ L0 = L' ∧ (0 ≤ v.toInt ∧ v.toInt ≤ 1) ∧ (v.toInt = (bt x0.toInt x1.toInt)) ∧ True)) := by
  refine ConE.of (by decide +kernel) rfl (Nat.le_of_ble_eq_true rfl) rfl (fun X hX hZ hE => ?_)
  subst hX
  obtain ⟨a, ha, rfl, ea⟩ := i32_nat (n := 16) h0.1 (by exact om_90a594bd h0.2 h0.1) (by exact om_5f365718)
  obtain ⟨b, hb2, rfl, eb⟩ := i32_nat (n := 4) h1.1 (by exact om_d223d4fc h1.2 h1.1) (by exact om_8d403b67)
  have hv := ha_all a ha b hb2
  have hr : bt (a : Int) (b : Int) = 0 ∨ bt (a : Int) (b : Int) = 1 := by unfold bt; exact om_78312606
  refine tr_iload_n dX12_has_0 rfl ?_
  refine tr_iload_n dX12_has_1 rfl ?_
  refine tr_ishr dX12_has_2 ?_
  refine tr_iconst (v := 1) dX12_has_3 rfl ?_
  refine tr_iand dX12_has_4 ?_
  refine q_iconst dX12_has_5 (by decide) ?_
  intro v5 e5
  refine q_icmp_ne 13 dX12_has_6 (by decide) (fun h => ?_) (fun h => ?_)
  · refine q_iconst dX12_has_13 (by decide) ?_
    intro v6 e6
    exact tr_zret hZ dX12_has_14 rfl (ti_b01 (by exact om_d99fa9e4 e6) (by exact om_d3de7ec9 e6)) (by decide) (by decide) ⟨v6, rfl, rfl, rfl, rfl, rfl, rfl, rfl, (by exact om_3b50ecb9 e6), (by rw [ea, eb]; exact om_19cd2966 hv hr e5 h e6), trivial⟩
  · refine q_iconst dX12_has_9 (by decide) ?_
    intro v6 e6
    refine tr_goto 14 dX12_has_10 (by decide) ?_
    exact tr_zret hZ dX12_has_14 rfl (ti_b01 (by exact om_f9079521 e6) (by exact om_e6632817 e6)) (by decide) (by decide) ⟨v6, rfl, rfl, rfl, rfl, rfl, rfl, rfl, (by exact om_d753bc65 e6), (by rw [ea, eb]; exact om_c782e132 hv e5 h e6), trivial⟩
def Q7M (q0 q7 : Int) : Prop := (q7 = 0 ∧ q0 = 0) ∨ (q7 = 1 ∧ 10 ≤ q0)
theorem tkS_nx (B : cz_B) (s : Int) (h : ¬ tkK B s = 0) : tkS B s + 1 ≤ tkS B (tkN B s) := by
  have h1 := (tkS_le B (tkN B s)).1
  have h2 := tkE_le B (tkS B s + 1)
  have h3 := tkD_le B (tkS B s + 1)
  have h4 := tkE_eq B (tkS B s)
  have h5 := tkD_eq B (tkS B s)
  unfold tkN at h1 ⊢
  by_cases c1 : B.2 ≤ tkS B s
  · exact absurd (by rw [tkK, if_pos c1]) h
  · rw [if_neg c1] at h1 ⊢
    by_cases c2 : 97 ≤ tkb B (tkS B s) ∧ tkb B (tkS B s) ≤ 122
    · rw [if_pos c2] at h1 h4 ⊢; exact om_1f2ee1f8 h1 h2.1 h4
    · rw [if_neg c2] at h1 ⊢
      by_cases c3 : 48 ≤ tkb B (tkS B s) ∧ tkb B (tkS B s) ≤ 57
      · rw [if_pos c3] at h1 h5 ⊢; exact om_1f2ee1f8 h1 h3.1 h5
      · rw [if_neg c3] at h1 ⊢; exact om_ff3fa9c4 h1
section CzNM2
variable {T : Nat → Nat} {cn : Nat} {K N : Nat → Nat} {I I' : cz_I} {R : cz_R} {L L' : cz_L} {d : Int} {m : Nat} {Q : Nat → Int} {B : cz_B} {s : Int}
theorem bd5_3 : bdQ B Q 5 s 3 = Q 3 + 1 := by simp only [bdQ, ↓reduceIte]; repeat' (first | exact om_79db0a8f | split)
theorem bd5_4 : bdQ B Q 5 s 4 = Q 4 := by simp only [bdQ, ↓reduceIte]; repeat' (first | exact om_bd56aab8 | split)
theorem bd5_n (h : 0 ≤ Q 3) {i : Nat} (hi : (i : Int) = Q 3) : bdQ B Q 5 s (100 + i) = tkW B s := by simp only [bdQ, ↓reduceIte]; repeat' (first | exact om_6f6c8a1f h hi | split)
theorem bd5_o {i : Nat} (h8 : Q 3 ≤ 8) (h0 : 0 ≤ Q 3) (hi : ¬ (i : Int) = Q 3) : bdQ B Q 5 s (100 + i) = Q (100 + i) := by simp only [bdQ, ↓reduceIte]; repeat' (first | exact om_c9f961f3 h8 h0 hi | split)
theorem bd5_t {i : Nat} (h8 : Q 3 ≤ 8) : bdQ B Q 5 s (200 + i) = Q (200 + i) := by simp only [bdQ, ↓reduceIte]; repeat' (first | exact om_5c2af1cf h8 | split)
theorem bd7_3 : bdQ B Q 7 s 3 = Q 3 := by simp only [bdQ, ↓reduceIte]; repeat' (first | exact om_9d6fc711 | split)
theorem bd7_4 : bdQ B Q 7 s 4 = Q 4 + 1 := by simp only [bdQ, ↓reduceIte]; repeat' (first | exact om_d40e69ef | split)
theorem bd7_n (h : 0 ≤ Q 4) {i : Nat} (hi : (i : Int) = Q 4) : bdQ B Q 7 s (200 + i) = tkW B s := by simp only [bdQ, ↓reduceIte]; repeat' (first | exact om_f7aaf7e4 h hi | split)
theorem bd7_o {i : Nat} (h0 : 0 ≤ Q 4) (hi : ¬ (i : Int) = Q 4) : bdQ B Q 7 s (200 + i) = Q (200 + i) := by simp only [bdQ, ↓reduceIte]; repeat' (first | exact om_b55eed98 h0 hi | split)
theorem bd7_t {i : Nat} (hi : i < 100) : bdQ B Q 7 s (100 + i) = Q (100 + i) := by simp only [bdQ, ↓reduceIte]; repeat' (first | exact om_d405645f hi | split)
/-- a cheese's name comes -/
theorem NmM.up5 {y : Int64} {x2 x3 : Int32} (h : NmM I R L m Q) (hW : NaW I R L m y x2 x3 I' L') (hy : y.toInt = tkW B s) (h2 : x2.toInt = 0) (hn : (I m 7).toInt = Q 3 + Q 4) (h7 : Q 3 ≤ 7) (hno : nmI Q 200 (Q 4) (tkW B s) = -1) : NmM I' R L' m (bdQ B Q 5 s) := by
  obtain ⟨h1, hx, hd, p3, p8, p4, p5⟩ := h
  have b3 : bdQ B Q 5 s 3 = Q 3 + 1 := bd5_3
  have b4 : bdQ B Q 5 s 4 = Q 4 := bd5_4
  have bt : ∀ i : Nat, bdQ B Q 5 s (200 + i) = Q (200 + i) := fun i => bd5_t p8
  have bo : ∀ i : Nat, (i : Int) < Q 3 → bdQ B Q 5 s (100 + i) = Q (100 + i) := fun i hi => bd5_o p8 p3 (by exact om_813fa1f5 b3 hi)
  have bn : bdQ B Q 5 s (100 + (Q 3).toNat) = tkW B s := bd5_n p3 (by exact om_6deec25a h7 p3 b3)
  refine ⟨fun t u w ht hu hw => ?_, ?_, ?_, by exact om_1a901c9d h7 p3 b3, by exact om_dda0d812 h7 p3 b3, by exact om_63d04393 p4 p5 b4, by exact om_ce3b58db p4 p5 b4⟩
  · have q := h1 t u w ht hu hw
    have z := hW t u w ht hu hw
    refine ⟨fun k hk => ?_, fun i hi => ?_, fun i hi => ?_⟩
    · by_cases hkn : (k : Int) = (I m 7).toInt
      · obtain ⟨e1, e2, e3⟩ := (z k).1 hkn
        refine Or.inl ⟨by rw [e2]; exact h2, (Q 3).toNat, by exact om_45311a52 hn h7 p3 b3 b4 hkn, by rw [e1, bn]; exact hy⟩
      · obtain ⟨e1, e2, e3⟩ := (z k).2 hkn
        rw [e1, e2, e3]
        rcases q.1 k (by exact om_6c7b7d91 hn b3 b4 hk hkn) with ⟨f1, i, hi, f2⟩ | ⟨f1, i, hi, f3, f2⟩
        · exact Or.inl ⟨f1, i, by exact om_be4dca73 b3 hi, by rw [bo i hi]; exact f2⟩
        · exact Or.inr ⟨f1, i, by exact om_357f55f9 b4 hi f3, f3, by rw [bt]; exact f2⟩
    · by_cases hin : (i : Int) = Q 3
      · refine ⟨(Q 3 + Q 4).toNat, by exact om_721cb2ec h7 p3 p4 p5 b3 b4 hin, ?_⟩
        rw [((z (Q 3 + Q 4).toNat).1 (by exact om_69fcb053 hn h7 p3 p4 p5 b3 b4 hin)).1, hy, show 100 + i = 100 + (Q 3).toNat by exact om_bc1a1c54 h7 p3 b3 hin, bn]
      · obtain ⟨k, hk, e⟩ := q.2.1 i (by exact om_05e4297e b3 hi hin)
        refine ⟨k, by exact om_ed65b151 b3 b4 hk, ?_⟩
        rw [((z k).2 (by exact om_dd6bcec3 hn b3 b4 hk)).1, bo i (by exact om_05e4297e b3 hi hin)]; exact e
    · obtain ⟨k, hk, e⟩ := q.2.2 i (by exact om_509f1442 b4 hi)
      refine ⟨k, by exact om_ed65b151 b3 b4 hk, ?_⟩
      rw [((z k).2 (by exact om_dd6bcec3 hn b3 b4 hk)).1, bt]; exact e
  · intro i j hi hj
    rw [bt]
    by_cases hin : (i : Int) = Q 3
    · rw [show 100 + i = 100 + (Q 3).toNat by exact om_bc1a1c54 h7 p3 b3 hin, bn]
      exact fun e => nmI_no.mp hno j (by exact om_509f1442 b4 hj) e.symm
    · rw [bo i (by exact om_05e4297e b3 hi hin)]; exact hx i j (by exact om_05e4297e b3 hi hin) (by exact om_509f1442 b4 hj)
  · intro i j hi hj
    rw [bt, bt]; exact hd i j (by exact om_509f1442 b4 hi) (by exact om_509f1442 b4 hj)
/-- a turner's name comes -/
theorem NmM.up7 {y : Int64} {x2 x3 : Int32} (h : NmM I R L m Q) (hW : NaW I R L m y x2 x3 I' L') (hy : y.toInt = tkW B s) (h2 : x2.toInt = 1) (h3 : x3.toInt = Q 4) (hn : (I m 7).toInt = Q 3 + Q 4) (h7 : Q 4 ≤ 4) (hno : nmI Q 200 (Q 4) (tkW B s) = -1) (hno2 : nmI Q 100 (Q 3) (tkW B s) = -1) : NmM I' R L' m (bdQ B Q 7 s) := by
  obtain ⟨h1, hx, hd, p3, p8, p4, p5⟩ := h
  have b3 : bdQ B Q 7 s 3 = Q 3 := bd7_3
  have b4 : bdQ B Q 7 s 4 = Q 4 + 1 := bd7_4
  have bt : ∀ i : Nat, (i : Int) < Q 3 → bdQ B Q 7 s (100 + i) = Q (100 + i) := fun i hi => bd7_t (by exact om_6b9925b8 p3 p8 b3 hi)
  have bo : ∀ i : Nat, (i : Int) < Q 4 → bdQ B Q 7 s (200 + i) = Q (200 + i) := fun i hi => bd7_o p4 (by exact om_6015304c hn b3 b4 hi)
  have bn : bdQ B Q 7 s (200 + (Q 4).toNat) = tkW B s := bd7_n p4 (by exact om_9d5ee04a hn h7 p4 b3 b4)
  refine ⟨fun t u w ht hu hw => ?_, ?_, ?_, by exact om_a4237f95 p3 p8 b3, by exact om_62ca0f35 p3 p8 b3, by exact om_292fcb66 hn h7 p4 b3 b4, by exact om_79d136e5 hn h7 p4 b3 b4⟩
  · have q := h1 t u w ht hu hw
    have z := hW t u w ht hu hw
    refine ⟨fun k hk => ?_, fun i hi => ?_, fun i hi => ?_⟩
    · by_cases hkn : (k : Int) = (I m 7).toInt
      · obtain ⟨e1, e2, e3⟩ := (z k).1 hkn
        refine Or.inr ⟨by rw [e2]; exact h2, (Q 4).toNat, by exact om_d5b04d0b hn h7 p4 b3 b4, by rw [e3]; exact om_acd85167 h3 hn h7 p4 b3 b4, by rw [e1, bn]; exact hy⟩
      · obtain ⟨e1, e2, e3⟩ := (z k).2 hkn
        rw [e1, e2, e3]
        rcases q.1 k (by exact om_ed302b18 hn b3 b4 hk hkn) with ⟨f1, i, hi, f2⟩ | ⟨f1, i, hi, f3, f2⟩
        · exact Or.inl ⟨f1, i, by exact om_b634e3b3 b3 hi, by rw [bt i hi]; exact f2⟩
        · exact Or.inr ⟨f1, i, by exact om_485c5ef0 hn b3 b4 hi f3, f3, by rw [bo i hi]; exact f2⟩
    · obtain ⟨k, hk, e⟩ := q.2.1 i (by exact om_509f1442 b3 hi)
      refine ⟨k, by exact om_9f6791c0 hn b3 b4 hk, ?_⟩
      rw [((z k).2 (by exact om_eef90bf2 hn b3 b4 hk)).1, bt i (by exact om_509f1442 b3 hi)]; exact e
    · by_cases hin : (i : Int) = Q 4
      · refine ⟨(Q 3 + Q 4).toNat, by exact om_f4eae44d hn h7 p3 p8 p4 b3 b4 hin, ?_⟩
        rw [((z (Q 3 + Q 4).toNat).1 (by exact om_5f5c9cde hn h7 p3 p8 p4 b3 b4 hin)).1, hy, show 200 + i = 200 + (Q 4).toNat by exact om_5778aa3d hn h7 p4 b3 b4 hin, bn]
      · obtain ⟨k, hk, e⟩ := q.2.2 i (by exact om_e888794a hn b3 b4 hi hin)
        refine ⟨k, by exact om_9f6791c0 hn b3 b4 hk, ?_⟩
        rw [((z k).2 (by exact om_eef90bf2 hn b3 b4 hk)).1, bo i (by exact om_e888794a hn b3 b4 hi hin)]; exact e
  · intro i j hi hj
    rw [bt i (by exact om_509f1442 b3 hi)]
    by_cases hin : (j : Int) = Q 4
    · rw [show 200 + j = 200 + (Q 4).toNat by exact om_5778aa3d hn h7 p4 b3 b4 hin, bn]
      exact nmI_no.mp hno2 i (by exact om_509f1442 b3 hi)
    · rw [bo j (by exact om_e888794a hn b3 b4 hj hin)]; exact hx i j (by exact om_509f1442 b3 hi) (by exact om_e888794a hn b3 b4 hj hin)
  · intro i j hi hj he
    by_cases hin : (i : Int) = Q 4
    · by_cases hjn : (j : Int) = Q 4
      · exact om_3feab350 hn b3 b4 hin hjn
      · rw [show 200 + i = 200 + (Q 4).toNat by exact om_5778aa3d hn h7 p4 b3 b4 hin, bn, bo j (by exact om_1693d7de hn b3 b4 hj hin hjn)] at he
        exact absurd he.symm (nmI_no.mp hno j (by exact om_1693d7de hn b3 b4 hj hin hjn))
    · by_cases hjn : (j : Int) = Q 4
      · rw [show 200 + j = 200 + (Q 4).toNat by exact om_5778aa3d hn h7 p4 b3 b4 hjn, bn, bo i (by exact om_1eea9219 hn b3 b4 hi hin hjn)] at he
        exact absurd he (nmI_no.mp hno i (by exact om_1eea9219 hn b3 b4 hi hin hjn))
      · rw [bo i (by exact om_b2b0f7f4 hn b3 b4 hi hj hin hjn), bo j (by exact om_e888794a hn b3 b4 hj hjn)] at he
        exact hd i j (by exact om_b2b0f7f4 hn b3 b4 hi hj hin hjn) (by exact om_e888794a hn b3 b4 hj hjn) he
end CzNM2
theorem ChE.to {a b c d : Int} (h : ChE a b) (e : b = c) (h2 : ChE c d) : ChE a d := (h.trans e).trans h2
theorem evF_c4 {B : cz_B} {Q : Nat → Int} {k s : Int} (h : k = 4) : ChE (evF B Q k s) (if ¬ tkK B s = 2 then 1 else if (tkV B s < 0 ∨ Q 0 - 1 < tkV B s) then 4 else 0) := by unfold ChE; rw [evF, if_pos h]
theorem evP_c4 {B : cz_B} {Q : Nat → Int} {k s : Int} (h : k = 4) : ChE (evP B Q k s) (if ¬ tkK B s = 2 then tkS B s else if (tkV B s < 0 ∨ Q 0 - 1 < tkV B s) then tkS B s else 0) := by unfold ChE; rw [evP, if_pos h]
theorem evF_c2 {B : cz_B} {Q : Nat → Int} {k s : Int} (h : k = 2 ∨ k = 3) : ChE (evF B Q k s) (if ¬ tkK B s = 2 then 1 else if (tkV B s < 0 ∨ Q 1 - 1 < tkV B s) then 4 else if ¬ tkK B (tkN B s) = 2 then 1 else if (tkV B (tkN B s) < 0 ∨ Q 0 - 1 < tkV B (tkN B s)) then 4 else if ¬ (tkK B (tkN B (tkN B s)) = 1 ∧ tkW B (tkN B (tkN B s)) = 655) then 1 else if ¬ tkK B (tkN B (tkN B (tkN B s))) = 2 then 1 else if (tkV B (tkN B (tkN B (tkN B s))) < tkV B (tkN B s) + 1 ∨ Q 0 < tkV B (tkN B (tkN B (tkN B s)))) then 4 else 0) := by unfold ChE; rw [evF, if_neg (by exact om_aec558e6 h), if_pos h, spF]
theorem evP_c2 {B : cz_B} {Q : Nat → Int} {k s : Int} (h : k = 2 ∨ k = 3) : ChE (evP B Q k s) (if ¬ tkK B s = 2 then tkS B s else if (tkV B s < 0 ∨ Q 1 - 1 < tkV B s) then tkS B s else if ¬ tkK B (tkN B s) = 2 then tkS B (tkN B s) else if (tkV B (tkN B s) < 0 ∨ Q 0 - 1 < tkV B (tkN B s)) then tkS B (tkN B s) else if ¬ (tkK B (tkN B (tkN B s)) = 1 ∧ tkW B (tkN B (tkN B s)) = 655) then tkS B (tkN B (tkN B s)) else if ¬ tkK B (tkN B (tkN B (tkN B s))) = 2 then tkS B (tkN B (tkN B (tkN B s))) else if (tkV B (tkN B (tkN B (tkN B s))) < tkV B (tkN B s) + 1 ∨ Q 0 < tkV B (tkN B (tkN B (tkN B s)))) then tkS B (tkN B (tkN B (tkN B s))) else 0) := by unfold ChE; rw [evP, if_neg (by exact om_aec558e6 h), if_pos h, spP]
theorem evF_c0 {B : cz_B} {Q : Nat → Int} {k s : Int} (h : 0 ≤ k) (h2 : k ≤ 1) : ChE (evF B Q k s) (if ¬ tkK B s = 2 then 1 else if (tkV B s < 0 ∨ Q 0 - 1 < tkV B s) then 4 else if ¬ (tkK B (tkN B s) = 1 ∧ tkW B (tkN B s) = 655) then 1 else if ¬ tkK B (tkN B (tkN B s)) = 2 then 1 else if (tkV B (tkN B (tkN B s)) < tkV B s + 1 ∨ Q 0 < tkV B (tkN B (tkN B s))) then 4 else 0) := by unfold ChE; rw [evF, if_neg (by exact om_b3bda7ed h h2), if_neg (by exact om_bf635d9a h h2), spF]
theorem evP_c0 {B : cz_B} {Q : Nat → Int} {k s : Int} (h : 0 ≤ k) (h2 : k ≤ 1) : ChE (evP B Q k s) (if ¬ tkK B s = 2 then tkS B s else if (tkV B s < 0 ∨ Q 0 - 1 < tkV B s) then tkS B s else if ¬ (tkK B (tkN B s) = 1 ∧ tkW B (tkN B s) = 655) then tkS B (tkN B s) else if ¬ tkK B (tkN B (tkN B s)) = 2 then tkS B (tkN B (tkN B s)) else if (tkV B (tkN B (tkN B s)) < tkV B s + 1 ∨ Q 0 < tkV B (tkN B (tkN B s))) then tkS B (tkN B (tkN B s)) else 0) := by unfold ChE; rw [evP, if_neg (by exact om_b3bda7ed h h2), if_neg (by exact om_bf635d9a h h2), spP]
theorem evS_c4 {B : cz_B} {Q : Nat → Int} {k s : Int} (h : k = 4) : evS B Q k s = tkN B s := by rw [evS, if_pos h]
theorem evS_c2 {B : cz_B} {Q : Nat → Int} {k s : Int} (h : k = 2 ∨ k = 3) : evS B Q k s = (tkN B (tkN B (tkN B (tkN B s)))) := by rw [evS, if_neg (by exact om_aec558e6 h), if_pos h]
theorem evS_c0 {B : cz_B} {Q : Nat → Int} {k s : Int} (h : 0 ≤ k) (h2 : k ≤ 1) : evS B Q k s = (tkN B (tkN B (tkN B s))) := by rw [evS, if_neg (by exact om_b3bda7ed h h2), if_neg (by exact om_bf635d9a h h2)]
theorem spF_x (B : cz_B) (Q : Nat → Int) (s X : Int) : (if ¬ spF B Q s = 0 then spF B Q s else X) = (if ¬ tkK B s = 2 then 1 else if (tkV B s < 0 ∨ Q 0 - 1 < tkV B s) then 4 else if ¬ (tkK B (tkN B s) = 1 ∧ tkW B (tkN B s) = 655) then 1 else if ¬ tkK B (tkN B (tkN B s)) = 2 then 1 else if (tkV B (tkN B (tkN B s)) < tkV B s + 1 ∨ Q 0 < tkV B (tkN B (tkN B s))) then 4 else X) := by
  by_cases h0 : ¬ tkK B s = 2
  · simp [spF, spP, h0]
  · skip
    by_cases h1 : (tkV B s < 0 ∨ Q 0 - 1 < tkV B s)
    · simp [spF, spP, h0, h1]
    · skip
      by_cases h2 : ¬ (tkK B (tkN B s) = 1 ∧ tkW B (tkN B s) = 655)
      · simp [spF, spP, h0, h1, h2]
      · skip
        by_cases h3 : ¬ tkK B (tkN B (tkN B s)) = 2
        · simp [spF, spP, h0, h1, h2, h3]
        · skip
          by_cases h4 : (tkV B (tkN B (tkN B s)) < tkV B s + 1 ∨ Q 0 < tkV B (tkN B (tkN B s)))
          · simp [spF, spP, h0, h1, h2, h3, h4]
          · skip
            simp [spF, spP, h0, h1, h2, h3, h4]
theorem spP_x (B : cz_B) (Q : Nat → Int) (s X : Int) : (if ¬ spF B Q s = 0 then spP B Q s else X) = (if ¬ tkK B s = 2 then tkS B s else if (tkV B s < 0 ∨ Q 0 - 1 < tkV B s) then tkS B s else if ¬ (tkK B (tkN B s) = 1 ∧ tkW B (tkN B s) = 655) then tkS B (tkN B s) else if ¬ tkK B (tkN B (tkN B s)) = 2 then tkS B (tkN B (tkN B s)) else if (tkV B (tkN B (tkN B s)) < tkV B s + 1 ∨ Q 0 < tkV B (tkN B (tkN B s))) then tkS B (tkN B (tkN B s)) else X) := by
  by_cases h0 : ¬ tkK B s = 2
  · simp [spF, spP, h0]
  · skip
    by_cases h1 : (tkV B s < 0 ∨ Q 0 - 1 < tkV B s)
    · simp [spF, spP, h0, h1]
    · skip
      by_cases h2 : ¬ (tkK B (tkN B s) = 1 ∧ tkW B (tkN B s) = 655)
      · simp [spF, spP, h0, h1, h2]
      · skip
        by_cases h3 : ¬ tkK B (tkN B (tkN B s)) = 2
        · simp [spF, spP, h0, h1, h2, h3]
        · skip
          by_cases h4 : (tkV B (tkN B (tkN B s)) < tkV B s + 1 ∨ Q 0 < tkV B (tkN B (tkN B s)))
          · simp [spF, spP, h0, h1, h2, h3, h4]
          · skip
            simp [spF, spP, h0, h1, h2, h3, h4]
theorem tuF_cx (B : cz_B) (Q : Nat → Int) (s : Int) : ChE (tuF B Q s) (if ¬ isN B s = 1 then 1 else if ¬ (nmI Q 100 (Q 3) (tkW B s) = -1 ∧ nmI Q 200 (Q 4) (tkW B s) = -1) then 3 else if tkd B (tkN B s) = -1 then 1 else if ¬ (tkK B (tkN B (tkN B s)) = 1 ∧ tkW B (tkN B (tkN B s)) = 215533) then 1 else if ¬ tkK B (tkN B (tkN B (tkN B s))) = 2 then 1 else if (tkV B (tkN B (tkN B (tkN B s))) < 0 ∨ Q 0 - 1 < tkV B (tkN B (tkN B (tkN B s)))) then 4 else if ¬ (tkK B (tkN B (tkN B (tkN B (tkN B s)))) = 1 ∧ tkW B (tkN B (tkN B (tkN B (tkN B s)))) = 655) then 1 else if ¬ tkK B (tkN B (tkN B (tkN B (tkN B (tkN B s))))) = 2 then 1 else if (tkV B (tkN B (tkN B (tkN B (tkN B (tkN B s))))) < tkV B (tkN B (tkN B (tkN B s))) + 1 ∨ Q 0 < tkV B (tkN B (tkN B (tkN B (tkN B (tkN B s)))))) then 4 else if ¬ (tkK B (tkN B (tkN B (tkN B (tkN B (tkN B (tkN B s)))))) = 1 ∧ tkW B (tkN B (tkN B (tkN B (tkN B (tkN B (tkN B s)))))) = 8435859) then 1 else if ¬ tkK B (tkN B (tkN B (tkN B (tkN B (tkN B (tkN B (tkN B s))))))) = 2 then 1 else if (tkV B (tkN B (tkN B (tkN B (tkN B (tkN B (tkN B (tkN B s))))))) < 1 ∨ 8 < tkV B (tkN B (tkN B (tkN B (tkN B (tkN B (tkN B (tkN B s)))))))) then 4 else if ¬ (tkK B (tkN B (tkN B (tkN B (tkN B (tkN B (tkN B (tkN B (tkN B s)))))))) = 1 ∧ tkW B (tkN B (tkN B (tkN B (tkN B (tkN B (tkN B (tkN B (tkN B s)))))))) = 21015731) then 1 else if ¬ tkK B (tkN B (tkN B (tkN B (tkN B (tkN B (tkN B (tkN B (tkN B (tkN B s))))))))) = 2 then 1 else if (tkV B (tkN B (tkN B (tkN B (tkN B (tkN B (tkN B (tkN B (tkN B (tkN B s))))))))) < 1 ∨ 20 < tkV B (tkN B (tkN B (tkN B (tkN B (tkN B (tkN B (tkN B (tkN B (tkN B s)))))))))) then 4 else if ¬ (tkK B (tkN B (tkN B (tkN B (tkN B (tkN B (tkN B (tkN B (tkN B (tkN B (tkN B s)))))))))) = 1 ∧ tkW B (tkN B (tkN B (tkN B (tkN B (tkN B (tkN B (tkN B (tkN B (tkN B (tkN B s)))))))))) = 284307) then 1 else huF B Q 901 0 (tkN B (tkN B (tkN B (tkN B (tkN B (tkN B (tkN B (tkN B (tkN B (tkN B (tkN B s)))))))))))) := by
  unfold ChE
  rw [tuF, spF_x]
theorem tuP_cx (B : cz_B) (Q : Nat → Int) (s : Int) : ChE (tuP B Q s) (if ¬ isN B s = 1 then tkS B s else if ¬ (nmI Q 100 (Q 3) (tkW B s) = -1 ∧ nmI Q 200 (Q 4) (tkW B s) = -1) then tkS B s else if tkd B (tkN B s) = -1 then tkS B (tkN B s) else if ¬ (tkK B (tkN B (tkN B s)) = 1 ∧ tkW B (tkN B (tkN B s)) = 215533) then tkS B (tkN B (tkN B s)) else if ¬ tkK B (tkN B (tkN B (tkN B s))) = 2 then tkS B (tkN B (tkN B (tkN B s))) else if (tkV B (tkN B (tkN B (tkN B s))) < 0 ∨ Q 0 - 1 < tkV B (tkN B (tkN B (tkN B s)))) then tkS B (tkN B (tkN B (tkN B s))) else if ¬ (tkK B (tkN B (tkN B (tkN B (tkN B s)))) = 1 ∧ tkW B (tkN B (tkN B (tkN B (tkN B s)))) = 655) then tkS B (tkN B (tkN B (tkN B (tkN B s)))) else if ¬ tkK B (tkN B (tkN B (tkN B (tkN B (tkN B s))))) = 2 then tkS B (tkN B (tkN B (tkN B (tkN B (tkN B s))))) else if (tkV B (tkN B (tkN B (tkN B (tkN B (tkN B s))))) < tkV B (tkN B (tkN B (tkN B s))) + 1 ∨ Q 0 < tkV B (tkN B (tkN B (tkN B (tkN B (tkN B s)))))) then tkS B (tkN B (tkN B (tkN B (tkN B (tkN B s))))) else if ¬ (tkK B (tkN B (tkN B (tkN B (tkN B (tkN B (tkN B s)))))) = 1 ∧ tkW B (tkN B (tkN B (tkN B (tkN B (tkN B (tkN B s)))))) = 8435859) then tkS B (tkN B (tkN B (tkN B (tkN B (tkN B (tkN B s)))))) else if ¬ tkK B (tkN B (tkN B (tkN B (tkN B (tkN B (tkN B (tkN B s))))))) = 2 then tkS B (tkN B (tkN B (tkN B (tkN B (tkN B (tkN B (tkN B s))))))) else if (tkV B (tkN B (tkN B (tkN B (tkN B (tkN B (tkN B (tkN B s))))))) < 1 ∨ 8 < tkV B (tkN B (tkN B (tkN B (tkN B (tkN B (tkN B (tkN B s)))))))) then tkS B (tkN B (tkN B (tkN B (tkN B (tkN B (tkN B (tkN B s))))))) else if ¬ (tkK B (tkN B (tkN B (tkN B (tkN B (tkN B (tkN B (tkN B (tkN B s)))))))) = 1 ∧ tkW B (tkN B (tkN B (tkN B (tkN B (tkN B (tkN B (tkN B (tkN B s)))))))) = 21015731) then tkS B (tkN B (tkN B (tkN B (tkN B (tkN B (tkN B (tkN B (tkN B s)))))))) else if ¬ tkK B (tkN B (tkN B (tkN B (tkN B (tkN B (tkN B (tkN B (tkN B (tkN B s))))))))) = 2 then tkS B (tkN B (tkN B (tkN B (tkN B (tkN B (tkN B (tkN B (tkN B (tkN B s))))))))) else if (tkV B (tkN B (tkN B (tkN B (tkN B (tkN B (tkN B (tkN B (tkN B (tkN B s))))))))) < 1 ∨ 20 < tkV B (tkN B (tkN B (tkN B (tkN B (tkN B (tkN B (tkN B (tkN B (tkN B s)))))))))) then tkS B (tkN B (tkN B (tkN B (tkN B (tkN B (tkN B (tkN B (tkN B (tkN B s))))))))) else if ¬ (tkK B (tkN B (tkN B (tkN B (tkN B (tkN B (tkN B (tkN B (tkN B (tkN B (tkN B s)))))))))) = 1 ∧ tkW B (tkN B (tkN B (tkN B (tkN B (tkN B (tkN B (tkN B (tkN B (tkN B (tkN B s)))))))))) = 284307) then tkS B (tkN B (tkN B (tkN B (tkN B (tkN B (tkN B (tkN B (tkN B (tkN B (tkN B s)))))))))) else huP B Q 901 0 (tkN B (tkN B (tkN B (tkN B (tkN B (tkN B (tkN B (tkN B (tkN B (tkN B (tkN B s)))))))))))) := by
  unfold ChE
  rw [tuP, spP_x]
theorem tkd_no {B : cz_B} {s : Int} (h0 : NotW (tkK B s) (tkW B s) 627891) (h1 : NotW (tkK B s) (tkW B s) 2500036) (h2 : NotW (tkK B s) (tkW B s) 136230) (h3 : NotW (tkK B s) (tkW B s) 1490073635) : tkd B s = -1 := by
  by_cases h : tkK B s = 1
  · have e0 : ¬ tkW B s = 627891 := fun z => h0 ⟨h, z⟩
    have e1 : ¬ tkW B s = 2500036 := fun z => h1 ⟨h, z⟩
    have e2 : ¬ tkW B s = 136230 := fun z => h2 ⟨h, z⟩
    have e3 : ¬ tkW B s = 1490073635 := fun z => h3 ⟨h, z⟩
    simp [tkd, h, e0, e1, e2, e3]
  · simp [tkd, h]
theorem srt_nw {B : cz_B} {s : Int} (h0 : NotW (tkK B s) (tkW B s) 3554980) (h1 : NotW (tkK B s) (tkW B s) 5482267237) (h2 : NotW (tkK B s) (tkW B s) 394672) (h3 : NotW (tkK B s) (tkW B s) 20692226226) (h4 : NotW (tkK B s) (tkW B s) 81300) (h5 : NotW (tkK B s) (tkW B s) 109221477) (h6 : NotW (tkK B s) (tkW B s) 1490073635) (h7 : NotW (tkK B s) (tkW B s) 693713074) (h8 : NotW (tkK B s) (tkW B s) 99724) (h9 : NotW (tkK B s) (tkW B s) 20325477) (h10 : NotW (tkK B s) (tkW B s) 1424) : srt B s = -1 := by
  by_cases h : tkK B s = 1
  · exact srt_no (fun z => h0 ⟨h, z⟩) (fun z => h1 ⟨h, z⟩) (fun z => h2 ⟨h, z⟩) (fun z => h3 ⟨h, z⟩) (fun z => h4 ⟨h, z⟩) (fun z => h5 ⟨h, z⟩) (fun z => h6 ⟨h, z⟩) (fun z => h7 ⟨h, z⟩) (fun z => h8 ⟨h, z⟩) (fun z => h9 ⟨h, z⟩) (fun z => h10 ⟨h, z⟩)
  · exact srt_nk h
theorem lnF_no {B : cz_B} {Q : Nat → Int} {s : Int} (h : srt B s = -1) : lnF B Q s = 1 ∧ lnP B Q s = tkS B s := by
  constructor
  · rw [lnF, if_pos h]
  · rw [lnP, if_pos h]
