/-! ===== the class's reader: what it stands on ===== -/
def tkX (B : cz_B) (s : Int) : Int := (wfo B s (tkE B s - s).toNat).toInt
def tkY (B : cz_B) (s : Int) : Int := (vfo B s (tkD B s - s).toNat).toInt
theorem tkW_X (B : cz_B) (s : Int) : tkW B s = tkX B (tkS B s) := rfl
theorem tkV_Y (B : cz_B) (s : Int) : tkV B s = tkY B (tkS B s) := rfl
theorem tkS_fin {B : cz_B} {s : Int} (h : B.2 ≤ s ∨ ¬ tkb B s = 32) : tkS B s = s := by
  rcases h with h | h
  · exact tkS_at (by rw [tkb_out h]; decide)
  · exact tkS_at h
theorem tkE_fin {B : cz_B} {s : Int} (h : B.2 ≤ s ∨ ¬ (97 ≤ tkb B s ∧ tkb B s ≤ 122)) : tkE B s = s := by
  rcases h with h | h
  · exact tkE_at (by rw [tkb_out h]; decide)
  · exact tkE_at h
theorem tkD_fin {B : cz_B} {s : Int} (h : B.2 ≤ s ∨ ¬ (48 ≤ tkb B s ∧ tkb B s ≤ 57)) : tkD B s = s := by
  rcases h with h | h
  · exact tkD_at (by rw [tkb_out h]; decide)
  · exact tkD_at h
theorem Tx.at {I : cz_I} {t : Nat} {B : cz_B} {i n : Int32} (h : Tx I t B) (h0 : 0 ≤ i.toInt) (h1 : i.toInt < B.2) (c : I t i.toNatClampNeg = n) : n = B.1 i.toInt.toNat := by
  rw [← c]
  have e : i.toNatClampNeg = i.toInt.toNat := rfl
  rw [e, h.2.2 _ (by have := h.2.1; exact om_24722d3a h1 this)]
theorem wfo_on {B : cz_B} {s : Int} {k : Nat} {i n : Int32} (hk : s + k = i.toInt) (hn : n = B.1 i.toInt.toNat) : wfo B s (k + 1) = wfo B s k * 32 + n.toInt64 - 97 + 1 := by rw [wfo, hk, hn]
theorem vfo_on {B : cz_B} {s : Int} {k : Nat} {i n : Int32} (hk : s + k = i.toInt) (hn : n = B.1 i.toInt.toNat) : vfo B s (k + 1) = vfo B s k * 10 + n - 48 := by rw [vfo, hk, hn]
theorem TxA.kp {T : Nat → Nat} {cn : Nat} {K N : Nat → Nat} {d : Int} {wi wr : List Nat} {I0 I : cz_I} {R0 R : cz_R} {a r j q : Nat} {B : cz_B} (h : ∀ t, R0 a j = some t → Tx I0 t B) (hS : St T cn K N d wi wr I0 R0 I R) (ta : T a = r) (h1 : rrf r j = q) (h2 : Nat.ble 1 q = true) (h3 : Nat.ble 1000 q = false) (hr : wm wr r j = false) (hw : wi.all (fun c => !(Nat.beq (c / 64) q)) = true) : ∀ t, R a j = some t → Tx I t B := by
  intro t ht
  have tt := hS.1.rs ta (by rw [h1]; exact h2) (by rw [h1]; exact h3) ht
  rw [h1] at tt
  have hx := h t ((hS.rcell ta hr).symm.trans ht)
  exact ⟨hx.1, hx.2.1, fun k hk => (hS.cell tt (wm_no hw)).trans (hx.2.2 k hk)⟩
/-- names, as the class holds them -/
def NmC (L : cz_L) (R : cz_R) (a : Nat) (Q : Nat → Int) : Prop := (∀ t, R a 13 = some t → ∀ i : Nat, (i : Int) < Q 3 → (L t i).toInt = Q (100 + i)) ∧ (∀ t, R a 14 = some t → ∀ i : Nat, (i : Int) < Q 4 → (L t i).toInt = Q (200 + i))
section CzNm
variable {T : Nat → Nat} {cn : Nat} {K N : Nat → Nat} {I : cz_I} {R : cz_R} {L L' : cz_L} {d : Int} {a t : Nat} {Q Q' : Nat → Int} {wl : List Nat}
theorem NmC.kp (h : NmC L R a Q) (hl : LgS T wl L L') (hW : Wf T cn K N I R d) (ta : T a = 7) (h1 : wl.all (fun c => !(Nat.beq (c / 64) 25)) = true) (h2 : wl.all (fun c => !(Nat.beq (c / 64) 26)) = true) : NmC L' R a Q := by
  refine ⟨fun t ht i hi => ?_, fun t ht i hi => ?_⟩
  · have tt : T t = 25 := hW.rs ta rfl rfl ht
    rw [hl.cell tt (wm_no h1)]; exact h.1 t ht i hi
  · have tt : T t = 26 := hW.rs ta rfl rfl ht
    rw [hl.cell tt (wm_no h2)]; exact h.2 t ht i hi
theorem NmC.w13 {i : Nat} (h : NmC L R a Q) (hW : Wf T cn K N I R d) (ta : T a = 7) (ht : R a 13 = some t) (f : ∀ b j, ¬ (b = t ∧ j = i) → L' b j = L b j) (hi : Q 3 ≤ (i : Int)) : NmC L' R a Q := by
  refine ⟨fun t2 ht2 k hk => ?_, fun t2 ht2 k hk => ?_⟩
  · rw [f t2 k (by rintro ⟨-, rfl⟩; exact om_eab21742 hk hi)]; exact h.1 t2 ht2 k hk
  · have e1 : T t = 25 := hW.rs ta rfl rfl ht
    have e2 : T t2 = 26 := hW.rs ta rfl rfl ht2
    rw [f t2 k (by rintro ⟨rfl, -⟩; rw [e1] at e2; cases e2)]; exact h.2 t2 ht2 k hk
theorem NmC.w14 {i : Nat} (h : NmC L R a Q) (hW : Wf T cn K N I R d) (ta : T a = 7) (ht : R a 14 = some t) (f : ∀ b j, ¬ (b = t ∧ j = i) → L' b j = L b j) (hi : Q 4 ≤ (i : Int)) : NmC L' R a Q := by
  refine ⟨fun t2 ht2 k hk => ?_, fun t2 ht2 k hk => ?_⟩
  · have e1 : T t = 26 := hW.rs ta rfl rfl ht
    have e2 : T t2 = 25 := hW.rs ta rfl rfl ht2
    rw [f t2 k (by rintro ⟨rfl, -⟩; rw [e1] at e2; cases e2)]; exact h.1 t2 ht2 k hk
  · rw [f t2 k (by rintro ⟨-, rfl⟩; exact om_eab21742 hk hi)]; exact h.2 t2 ht2 k hk
theorem NmC.cg (h : NmC L R a Q) (h3 : Q' 3 = Q 3) (h4 : Q' 4 = Q 4) (hn : ∀ i : Nat, 100 ≤ i → Q' i = Q i) : NmC L R a Q' :=
  ⟨fun t ht i hi => by rw [hn _ (by exact om_9920e379)]; exact h.1 t ht i (by exact om_509f1442 h3 hi), fun t ht i hi => by rw [hn _ (by exact om_bdc68f2f)]; exact h.2 t ht i (by exact om_509f1442 h4 hi)⟩
theorem NmC.up3 {B : cz_B} {s : Int} {i : Nat} (h : NmC L R a Q) (ht : R a 13 = some t) (e : (L t i).toInt = tkW B s) (hi : (i : Int) = Q 3) (h8 : Q 3 ≤ 8) (h5 : Q 4 ≤ 5) : NmC L R a (bdQ B Q 5 s) := by
  refine ⟨fun t2 ht2 k hk => ?_, fun t2 ht2 k hk => ?_⟩
  · obtain rfl := Option.some.inj (ht.symm.trans ht2)
    by_cases hkn : k = i
    · subst hkn
      rw [e]; simp only [bdQ, ↓reduceIte]; repeat' (first | exact om_10057d5b h8 hi | split)
    · have hk2 : (k : Int) < Q 3 := by revert hk; simp only [bdQ, ↓reduceIte]; repeat' (first | exact om_bbd73555 hi hkn | split)
      rw [h.1 _ ht2 k hk2]; simp only [bdQ, ↓reduceIte]; repeat' (first | exact om_7f97e13f hi h8 hk2 | split)
  · have hk2 : (k : Int) < Q 4 := by revert hk; simp only [bdQ, ↓reduceIte]; repeat' (first | exact om_a717b0f1 hi h8 | split)
    rw [h.2 _ ht2 k hk2]; simp only [bdQ, ↓reduceIte]; repeat' (first | exact om_2fe22ff7 hi h8 | split)
theorem NmC.up4 {B : cz_B} {s : Int} {i : Nat} (h : NmC L R a Q) (ht : R a 14 = some t) (e : (L t i).toInt = tkW B s) (hi : (i : Int) = Q 4) (h8 : Q 3 ≤ 8) (h5 : Q 4 ≤ 5) : NmC L R a (bdQ B Q 7 s) := by
  refine ⟨fun t2 ht2 k hk => ?_, fun t2 ht2 k hk => ?_⟩
  · have hk2 : (k : Int) < Q 3 := by revert hk; simp only [bdQ, ↓reduceIte]; repeat' (first | exact om_2f08b884 hi h5 | split)
    rw [h.1 _ ht2 k hk2]; simp only [bdQ, ↓reduceIte]; repeat' (first | exact om_0656bfdf hi h8 h5 hk2 | split)
  · obtain rfl := Option.some.inj (ht.symm.trans ht2)
    by_cases hkn : k = i
    · subst hkn
      rw [e]; simp only [bdQ, ↓reduceIte]; repeat' (first | exact om_99272c3d h5 hi | split)
    · have hk2 : (k : Int) < Q 4 := by revert hk; simp only [bdQ, ↓reduceIte]; repeat' (first | exact om_5a0187a4 hi hkn | split)
      rw [h.2 _ ht2 k hk2]; simp only [bdQ, ↓reduceIte]; repeat' (first | exact om_a09c15e9 hi h5 hk2 | split)
theorem NmC.bd {B : cz_B} {s k : Int} (h : NmC L R a Q) (h5 : ¬ k = 5) (h7 : ¬ k = 7) : NmC L R a (bdQ B Q k s) := by
  refine h.cg ?_ ?_ (fun i hi => ?_) <;> simp only [bdQ, ↓reduceIte] <;> repeat' (first | omega | split)
theorem NmC.ln {B : cz_B} {s k : Int} (h : NmC L R a (bdQ B Q k (tkN B s))) (hk : srt B s = k) : NmC L R a (lnQ B Q s) := by
  subst hk; exact h
theorem NmC.z0 : NmC L R a (fun _ => 0) := ⟨fun _ _ i hi => by have : (i : Int) < 0 := hi; exact om_45b66f4b this, fun _ _ i hi => by have : (i : Int) < 0 := hi; exact om_45b66f4b this⟩
end CzNm
section CzNf
variable {Q : Nat → Int} {b : Nat} {w n v v' : Int}
theorem nm_on (h0 : 0 ≤ v) (h : v < n) (hv : v' = v + 1) (hne : ¬ Q (b + v.toNat) = w) : nmF Q b w (n - v').toNat v'.toNat = nmF Q b w (n - v).toNat v.toNat := by
  rw [show (n - v).toNat = (n - v').toNat + 1 by exact om_2042c6b7 h hv, nmF, if_neg hne, show v'.toNat = v.toNat + 1 by exact om_79cef90a h0 hv]
theorem nm_hit (h0 : 0 ≤ v) (h : v < n) (he : Q (b + v.toNat) = w) : nmF Q b w (n - v).toNat v.toNat = v := by
  rw [show (n - v).toNat = (n - v - 1).toNat + 1 by exact om_39da9a0c h, nmF, if_pos he]; exact om_ce141e52 h0
theorem nm_end (h : n ≤ v) : nmF Q b w (n - v).toNat v.toNat = -1 := by
  rw [show (n - v).toNat = 0 by exact om_6dd307af h, nmF]
theorem nm_in (h : v = 0) : nmF Q b w (n - v).toNat v.toNat = nmI Q b n w := by
  rw [h, nmI, show (n - 0).toNat = n.toNat by exact om_9508131f]; rfl
end CzNf
def lwU (k : Int) : UInt32 := if k = 0 then 7 else if k = 1 then 11 else if k = 2 then 17 else if k = 3 then 22 else if k = 4 then 4 else if k = 5 then 6 else if k = 6 then 0 else if k = 7 then 26 else if k = 8 then 5 else if k = 9 then 23 else 1
theorem bt_all : ∀ h : Nat, h < 16 → ∀ v : Nat, v < 4 → ((((Int32.ofNat h).toUInt32 >>> ((Int32.ofNat v).toUInt32 &&& Int32.toUInt32 31)).toInt32) &&& 1).toInt = bt (h : Int) (v : Int) := by decide +kernel
theorem or_all : ∀ h : Nat, h < 16 → ∀ v : Nat, v < 4 → bt (h : Int) (v : Int) = 1 ∨ ((Int32.ofNat h ||| ((1 : Int32) <<< (Int32.ofNat v &&& 31))).toInt = (h : Int) + pw (v : Int) ∧ (h : Int) + pw (v : Int) ≤ 15) := by decide +kernel
theorem i32_nat {x : Int32} {n : Nat} (h0 : 0 ≤ x.toInt) (h1 : x.toInt < (n : Int)) (hn : n ≤ 1000) : ∃ k, k < n ∧ x = Int32.ofNat k ∧ x.toInt = (k : Int) := by
  refine ⟨x.toInt.toNat, by exact om_fca5216c h0 h1 hn, ?_, by exact om_2324bec7 h0⟩
  apply Int32.toInt_inj.mp
  have e : ((x.toInt.toNat : Nat) : Int) = x.toInt := by exact om_ce141e52 h0
  rw [Int32.toInt_ofNat', e]
  exact (cz_bm (by exact om_3656cbe4 h0 e) (by exact om_d3ab993f h1 hn e)).symm
theorem hut_or {h v o : Int32} (h0 : 0 ≤ h.toInt ∧ h.toInt ≤ 15) (h1 : 0 ≤ v.toInt ∧ v.toInt ≤ 3) (ho : o.toInt = 1) (hb : ¬ bt h.toInt v.toInt = 1) : (h ||| (o <<< (v &&& 31))).toInt = h.toInt + pw v.toInt ∧ h.toInt + pw v.toInt ≤ 15 := by
  obtain rfl : o = 1 := Int32.toInt_inj.mp (ho.trans rfl)
  obtain ⟨a, ha, rfl, ea⟩ := i32_nat (n := 16) h0.1 (by exact om_90a594bd h0.2 h0.1) (by exact om_5f365718)
  obtain ⟨b, hb2, rfl, eb⟩ := i32_nat (n := 4) h1.1 (by exact om_d223d4fc h1.2 h1.1) (by exact om_8d403b67)
  rw [ea, eb] at hb ⊢
  exact (or_all a ha b hb2).resolve_left hb
theorem pw_pos (v : Int) : 0 < pw v := Int.pow_pos (by exact om_8695c84f)
set_option maxHeartbeats 1000000 in
theorem f_X10_bit {l : Launch} {cn : Nat} {K N : Nat → Nat} {I0 : cz_I} {R0 : cz_R} {L0 : cz_L} {x0 x1 : Int32} (h0 : 0 ≤ x0.toInt ∧ x0.toInt ≤ 15) (h1 : 0 ≤ x1.toInt ∧ x1.toInt ≤ 3) : ConE l mX10_bit [.int x0, .int x1] cn K N I0 R0 L0 (ca_i (fun v cn' K' N' I' R' L' => cn = cn' ∧ K = K' ∧ N = N' ∧ I0 = I' ∧ R0 = R' ∧ L0 = L' ∧ (v.toInt = (bt x0.toInt x1.toInt)) ∧ True)) := by
  refine ConE.of (by decide +kernel) rfl (Nat.le_of_ble_eq_true rfl) rfl (fun X hX hZ hE => ?_)
  subst hX
  refine tr_iload_n dX10_bit_0 rfl ?_
  refine tr_iload_n dX10_bit_1 rfl ?_
  refine tr_iushr dX10_bit_2 ?_
  refine tr_iconst (v := 1) dX10_bit_3 rfl ?_
  refine tr_iand dX10_bit_4 ?_
  refine tr_iret hZ dX10_bit_5 rfl (by decide) (by decide) ⟨_, rfl, rfl, rfl, rfl, rfl, rfl, rfl, ?_, trivial⟩
  obtain ⟨a, ha, rfl, ea⟩ := i32_nat (n := 16) h0.1 (by exact om_90a594bd h0.2 h0.1) (by exact om_5f365718)
  obtain ⟨b, hb2, rfl, eb⟩ := i32_nat (n := 4) h1.1 (by exact om_d223d4fc h1.2 h1.1) (by exact om_8d403b67)
  rw [ea, eb]
  exact bt_all a ha b hb2
/-- an equation that a walk works at -/
def ChE (a b : Int) : Prop := a = b
theorem ChE.neg {a x y : Int} {c : Prop} [h0 : Decidable c] (h : ChE a (if c then x else y)) (hc : ¬ c) : ChE a y := by unfold ChE at h ⊢; rw [h, if_neg hc]
theorem ChE.pos {a x y : Int} {c : Prop} [h0 : Decidable c] (h : ChE a (if c then x else y)) (hc : c) : ChE a x := by unfold ChE at h ⊢; rw [h, if_pos hc]
theorem ChE.eq {a b : Int} (h : ChE a b) : a = b := h
theorem alF_ch (B : cz_B) (Q : Nat → Int) (s : Int) : ChE (alF B Q s) (if ¬ (tkK B s = 1 ∧ tkW B s = 14276022451) then 1 else if ¬ tkK B (tkN B s) = 2 then 1 else if (tkV B (tkN B s) < 10 ∨ 240 < tkV B (tkN B s)) then 4 else if ¬ (tkK B (tkN B (tkN B s)) = 1 ∧ tkW B (tkN B (tkN B s)) = 284307) then 1 else if ¬ tkK B (tkN B (tkN B (tkN B s))) = 2 then 1 else if (tkV B (tkN B (tkN B (tkN B s))) < 1 ∨ 4 < tkV B (tkN B (tkN B (tkN B s)))) then 4 else if ¬ (tkK B (tkN B (tkN B (tkN B (tkN B s)))) = 1 ∧ tkW B (tkN B (tkN B (tkN B (tkN B s)))) = 556043443) then 1 else if ¬ tkK B (tkN B (tkN B (tkN B (tkN B (tkN B s))))) = 2 then 1 else if (tkV B (tkN B (tkN B (tkN B (tkN B (tkN B s))))) < 0 ∨ 99 < tkV B (tkN B (tkN B (tkN B (tkN B (tkN B s)))))) then 4 else if ¬ tkK B (tkN B (tkN B (tkN B (tkN B (tkN B (tkN B s)))))) = 4 then 1 else if ¬ tkK B (tkN B (tkN B (tkN B (tkN B (tkN B (tkN B (tkN B s))))))) = 2 then 1 else if (tkV B (tkN B (tkN B (tkN B (tkN B (tkN B (tkN B (tkN B s))))))) < 0 ∨ 99 < tkV B (tkN B (tkN B (tkN B (tkN B (tkN B (tkN B (tkN B s)))))))) then 4 else if ¬ tkK B (tkN B (tkN B (tkN B (tkN B (tkN B (tkN B (tkN B (tkN B s)))))))) = 4 then 1 else if ¬ tkK B (tkN B (tkN B (tkN B (tkN B (tkN B (tkN B (tkN B (tkN B (tkN B s))))))))) = 2 then 1 else if (tkV B (tkN B (tkN B (tkN B (tkN B (tkN B (tkN B (tkN B (tkN B (tkN B s))))))))) < 0 ∨ 99 < tkV B (tkN B (tkN B (tkN B (tkN B (tkN B (tkN B (tkN B (tkN B (tkN B s)))))))))) then 4 else if ¬ tkK B (tkN B (tkN B (tkN B (tkN B (tkN B (tkN B (tkN B (tkN B (tkN B (tkN B s)))))))))) = 4 then 1 else if ¬ tkK B (tkN B (tkN B (tkN B (tkN B (tkN B (tkN B (tkN B (tkN B (tkN B (tkN B (tkN B s))))))))))) = 2 then 1 else if (tkV B (tkN B (tkN B (tkN B (tkN B (tkN B (tkN B (tkN B (tkN B (tkN B (tkN B (tkN B s))))))))))) < 0 ∨ 99 < tkV B (tkN B (tkN B (tkN B (tkN B (tkN B (tkN B (tkN B (tkN B (tkN B (tkN B (tkN B s)))))))))))) then 4 else if ¬ tkK B (tkN B (tkN B (tkN B (tkN B (tkN B (tkN B (tkN B (tkN B (tkN B (tkN B (tkN B (tkN B s)))))))))))) = 4 then 1 else if ¬ tkK B (tkN B (tkN B (tkN B (tkN B (tkN B (tkN B (tkN B (tkN B (tkN B (tkN B (tkN B (tkN B (tkN B s))))))))))))) = 2 then 1 else if (tkV B (tkN B (tkN B (tkN B (tkN B (tkN B (tkN B (tkN B (tkN B (tkN B (tkN B (tkN B (tkN B (tkN B s))))))))))))) < 0 ∨ 99 < tkV B (tkN B (tkN B (tkN B (tkN B (tkN B (tkN B (tkN B (tkN B (tkN B (tkN B (tkN B (tkN B (tkN B s)))))))))))))) then 4 else 0) := rfl
theorem alP_ch (B : cz_B) (Q : Nat → Int) (s : Int) : ChE (alP B Q s) (if ¬ (tkK B s = 1 ∧ tkW B s = 14276022451) then tkS B s else if ¬ tkK B (tkN B s) = 2 then tkS B (tkN B s) else if (tkV B (tkN B s) < 10 ∨ 240 < tkV B (tkN B s)) then tkS B (tkN B s) else if ¬ (tkK B (tkN B (tkN B s)) = 1 ∧ tkW B (tkN B (tkN B s)) = 284307) then tkS B (tkN B (tkN B s)) else if ¬ tkK B (tkN B (tkN B (tkN B s))) = 2 then tkS B (tkN B (tkN B (tkN B s))) else if (tkV B (tkN B (tkN B (tkN B s))) < 1 ∨ 4 < tkV B (tkN B (tkN B (tkN B s)))) then tkS B (tkN B (tkN B (tkN B s))) else if ¬ (tkK B (tkN B (tkN B (tkN B (tkN B s)))) = 1 ∧ tkW B (tkN B (tkN B (tkN B (tkN B s)))) = 556043443) then tkS B (tkN B (tkN B (tkN B (tkN B s)))) else if ¬ tkK B (tkN B (tkN B (tkN B (tkN B (tkN B s))))) = 2 then tkS B (tkN B (tkN B (tkN B (tkN B (tkN B s))))) else if (tkV B (tkN B (tkN B (tkN B (tkN B (tkN B s))))) < 0 ∨ 99 < tkV B (tkN B (tkN B (tkN B (tkN B (tkN B s)))))) then tkS B (tkN B (tkN B (tkN B (tkN B (tkN B s))))) else if ¬ tkK B (tkN B (tkN B (tkN B (tkN B (tkN B (tkN B s)))))) = 4 then tkS B (tkN B (tkN B (tkN B (tkN B (tkN B (tkN B s)))))) else if ¬ tkK B (tkN B (tkN B (tkN B (tkN B (tkN B (tkN B (tkN B s))))))) = 2 then tkS B (tkN B (tkN B (tkN B (tkN B (tkN B (tkN B (tkN B s))))))) else if (tkV B (tkN B (tkN B (tkN B (tkN B (tkN B (tkN B (tkN B s))))))) < 0 ∨ 99 < tkV B (tkN B (tkN B (tkN B (tkN B (tkN B (tkN B (tkN B s)))))))) then tkS B (tkN B (tkN B (tkN B (tkN B (tkN B (tkN B (tkN B s))))))) else if ¬ tkK B (tkN B (tkN B (tkN B (tkN B (tkN B (tkN B (tkN B (tkN B s)))))))) = 4 then tkS B (tkN B (tkN B (tkN B (tkN B (tkN B (tkN B (tkN B (tkN B s)))))))) else if ¬ tkK B (tkN B (tkN B (tkN B (tkN B (tkN B (tkN B (tkN B (tkN B (tkN B s))))))))) = 2 then tkS B (tkN B (tkN B (tkN B (tkN B (tkN B (tkN B (tkN B (tkN B (tkN B s))))))))) else if (tkV B (tkN B (tkN B (tkN B (tkN B (tkN B (tkN B (tkN B (tkN B (tkN B s))))))))) < 0 ∨ 99 < tkV B (tkN B (tkN B (tkN B (tkN B (tkN B (tkN B (tkN B (tkN B (tkN B s)))))))))) then tkS B (tkN B (tkN B (tkN B (tkN B (tkN B (tkN B (tkN B (tkN B (tkN B s))))))))) else if ¬ tkK B (tkN B (tkN B (tkN B (tkN B (tkN B (tkN B (tkN B (tkN B (tkN B (tkN B s)))))))))) = 4 then tkS B (tkN B (tkN B (tkN B (tkN B (tkN B (tkN B (tkN B (tkN B (tkN B (tkN B s)))))))))) else if ¬ tkK B (tkN B (tkN B (tkN B (tkN B (tkN B (tkN B (tkN B (tkN B (tkN B (tkN B (tkN B s))))))))))) = 2 then tkS B (tkN B (tkN B (tkN B (tkN B (tkN B (tkN B (tkN B (tkN B (tkN B (tkN B (tkN B s))))))))))) else if (tkV B (tkN B (tkN B (tkN B (tkN B (tkN B (tkN B (tkN B (tkN B (tkN B (tkN B (tkN B s))))))))))) < 0 ∨ 99 < tkV B (tkN B (tkN B (tkN B (tkN B (tkN B (tkN B (tkN B (tkN B (tkN B (tkN B (tkN B s)))))))))))) then tkS B (tkN B (tkN B (tkN B (tkN B (tkN B (tkN B (tkN B (tkN B (tkN B (tkN B (tkN B s))))))))))) else if ¬ tkK B (tkN B (tkN B (tkN B (tkN B (tkN B (tkN B (tkN B (tkN B (tkN B (tkN B (tkN B (tkN B s)))))))))))) = 4 then tkS B (tkN B (tkN B (tkN B (tkN B (tkN B (tkN B (tkN B (tkN B (tkN B (tkN B (tkN B (tkN B s)))))))))))) else if ¬ tkK B (tkN B (tkN B (tkN B (tkN B (tkN B (tkN B (tkN B (tkN B (tkN B (tkN B (tkN B (tkN B (tkN B s))))))))))))) = 2 then tkS B (tkN B (tkN B (tkN B (tkN B (tkN B (tkN B (tkN B (tkN B (tkN B (tkN B (tkN B (tkN B (tkN B s))))))))))))) else if (tkV B (tkN B (tkN B (tkN B (tkN B (tkN B (tkN B (tkN B (tkN B (tkN B (tkN B (tkN B (tkN B (tkN B s))))))))))))) < 0 ∨ 99 < tkV B (tkN B (tkN B (tkN B (tkN B (tkN B (tkN B (tkN B (tkN B (tkN B (tkN B (tkN B (tkN B (tkN B s)))))))))))))) then tkS B (tkN B (tkN B (tkN B (tkN B (tkN B (tkN B (tkN B (tkN B (tkN B (tkN B (tkN B (tkN B (tkN B s))))))))))))) else 0) := rfl
theorem chF_ch (B : cz_B) (Q : Nat → Int) (s : Int) : ChE (chF B Q s) (if ¬ isN B s = 1 then 1 else if ¬ (nmI Q 100 (Q 3) (tkW B s) = -1 ∧ nmI Q 200 (Q 4) (tkW B s) = -1) then 3 else if ¬ (tkK B (tkN B s) = 1 ∧ tkW B (tkN B s) = 8884) then 1 else if ¬ tkK B (tkN B (tkN B s)) = 2 then 1 else if (tkV B (tkN B (tkN B s)) < 0 ∨ Q 1 - 1 < tkV B (tkN B (tkN B s))) then 4 else 0) := rfl
theorem chP_ch (B : cz_B) (Q : Nat → Int) (s : Int) : ChE (chP B Q s) (if ¬ isN B s = 1 then tkS B s else if ¬ (nmI Q 100 (Q 3) (tkW B s) = -1 ∧ nmI Q 200 (Q 4) (tkW B s) = -1) then tkS B s else if ¬ (tkK B (tkN B s) = 1 ∧ tkW B (tkN B s) = 8884) then tkS B (tkN B s) else if ¬ tkK B (tkN B (tkN B s)) = 2 then tkS B (tkN B (tkN B s)) else if (tkV B (tkN B (tkN B s)) < 0 ∨ Q 1 - 1 < tkV B (tkN B (tkN B s))) then tkS B (tkN B (tkN B s)) else 0) := rfl
theorem tuF_ch (B : cz_B) (Q : Nat → Int) (s : Int) : ChE (tuF B Q s) (if ¬ isN B s = 1 then 1 else if ¬ (nmI Q 100 (Q 3) (tkW B s) = -1 ∧ nmI Q 200 (Q 4) (tkW B s) = -1) then 3 else if tkd B (tkN B s) = -1 then 1 else if ¬ (tkK B (tkN B (tkN B s)) = 1 ∧ tkW B (tkN B (tkN B s)) = 215533) then 1 else if ¬ spF B Q (tkN B (tkN B (tkN B s))) = 0 then spF B Q (tkN B (tkN B (tkN B s))) else if ¬ (tkK B (tkN B (tkN B (tkN B (tkN B (tkN B (tkN B s)))))) = 1 ∧ tkW B (tkN B (tkN B (tkN B (tkN B (tkN B (tkN B s)))))) = 8435859) then 1 else if ¬ tkK B (tkN B (tkN B (tkN B (tkN B (tkN B (tkN B (tkN B s))))))) = 2 then 1 else if (tkV B (tkN B (tkN B (tkN B (tkN B (tkN B (tkN B (tkN B s))))))) < 1 ∨ 8 < tkV B (tkN B (tkN B (tkN B (tkN B (tkN B (tkN B (tkN B s)))))))) then 4 else if ¬ (tkK B (tkN B (tkN B (tkN B (tkN B (tkN B (tkN B (tkN B (tkN B s)))))))) = 1 ∧ tkW B (tkN B (tkN B (tkN B (tkN B (tkN B (tkN B (tkN B (tkN B s)))))))) = 21015731) then 1 else if ¬ tkK B (tkN B (tkN B (tkN B (tkN B (tkN B (tkN B (tkN B (tkN B (tkN B s))))))))) = 2 then 1 else if (tkV B (tkN B (tkN B (tkN B (tkN B (tkN B (tkN B (tkN B (tkN B (tkN B s))))))))) < 1 ∨ 20 < tkV B (tkN B (tkN B (tkN B (tkN B (tkN B (tkN B (tkN B (tkN B (tkN B s)))))))))) then 4 else if ¬ (tkK B (tkN B (tkN B (tkN B (tkN B (tkN B (tkN B (tkN B (tkN B (tkN B (tkN B s)))))))))) = 1 ∧ tkW B (tkN B (tkN B (tkN B (tkN B (tkN B (tkN B (tkN B (tkN B (tkN B (tkN B s)))))))))) = 284307) then 1 else huF B Q 901 0 (tkN B (tkN B (tkN B (tkN B (tkN B (tkN B (tkN B (tkN B (tkN B (tkN B (tkN B s)))))))))))) := rfl
theorem tuP_ch (B : cz_B) (Q : Nat → Int) (s : Int) : ChE (tuP B Q s) (if ¬ isN B s = 1 then tkS B s else if ¬ (nmI Q 100 (Q 3) (tkW B s) = -1 ∧ nmI Q 200 (Q 4) (tkW B s) = -1) then tkS B s else if tkd B (tkN B s) = -1 then tkS B (tkN B s) else if ¬ (tkK B (tkN B (tkN B s)) = 1 ∧ tkW B (tkN B (tkN B s)) = 215533) then tkS B (tkN B (tkN B s)) else if ¬ spF B Q (tkN B (tkN B (tkN B s))) = 0 then spP B Q (tkN B (tkN B (tkN B s))) else if ¬ (tkK B (tkN B (tkN B (tkN B (tkN B (tkN B (tkN B s)))))) = 1 ∧ tkW B (tkN B (tkN B (tkN B (tkN B (tkN B (tkN B s)))))) = 8435859) then tkS B (tkN B (tkN B (tkN B (tkN B (tkN B (tkN B s)))))) else if ¬ tkK B (tkN B (tkN B (tkN B (tkN B (tkN B (tkN B (tkN B s))))))) = 2 then tkS B (tkN B (tkN B (tkN B (tkN B (tkN B (tkN B (tkN B s))))))) else if (tkV B (tkN B (tkN B (tkN B (tkN B (tkN B (tkN B (tkN B s))))))) < 1 ∨ 8 < tkV B (tkN B (tkN B (tkN B (tkN B (tkN B (tkN B (tkN B s)))))))) then tkS B (tkN B (tkN B (tkN B (tkN B (tkN B (tkN B (tkN B s))))))) else if ¬ (tkK B (tkN B (tkN B (tkN B (tkN B (tkN B (tkN B (tkN B (tkN B s)))))))) = 1 ∧ tkW B (tkN B (tkN B (tkN B (tkN B (tkN B (tkN B (tkN B (tkN B s)))))))) = 21015731) then tkS B (tkN B (tkN B (tkN B (tkN B (tkN B (tkN B (tkN B (tkN B s)))))))) else if ¬ tkK B (tkN B (tkN B (tkN B (tkN B (tkN B (tkN B (tkN B (tkN B (tkN B s))))))))) = 2 then tkS B (tkN B (tkN B (tkN B (tkN B (tkN B (tkN B (tkN B (tkN B (tkN B s))))))))) else if (tkV B (tkN B (tkN B (tkN B (tkN B (tkN B (tkN B (tkN B (tkN B (tkN B s))))))))) < 1 ∨ 20 < tkV B (tkN B (tkN B (tkN B (tkN B (tkN B (tkN B (tkN B (tkN B (tkN B s)))))))))) then tkS B (tkN B (tkN B (tkN B (tkN B (tkN B (tkN B (tkN B (tkN B (tkN B s))))))))) else if ¬ (tkK B (tkN B (tkN B (tkN B (tkN B (tkN B (tkN B (tkN B (tkN B (tkN B (tkN B s)))))))))) = 1 ∧ tkW B (tkN B (tkN B (tkN B (tkN B (tkN B (tkN B (tkN B (tkN B (tkN B (tkN B s)))))))))) = 284307) then tkS B (tkN B (tkN B (tkN B (tkN B (tkN B (tkN B (tkN B (tkN B (tkN B (tkN B s)))))))))) else huP B Q 901 0 (tkN B (tkN B (tkN B (tkN B (tkN B (tkN B (tkN B (tkN B (tkN B (tkN B (tkN B s)))))))))))) := rfl
theorem caF_ch (B : cz_B) (Q : Nat → Int) (s : Int) : ChE (caF B Q s) (if ¬ isN B s = 1 then 1 else if nmI Q 200 (Q 4) (tkW B s) = -1 then 2 else if ¬ (tkK B (tkN B s) = 1 ∧ tkW B (tkN B s) = 52) then 1 else if ¬ tkK B (tkN B (tkN B s)) = 2 then 1 else if (tkV B (tkN B (tkN B s)) < 0 ∨ Q 0 - 1 < tkV B (tkN B (tkN B s))) then 4 else if ¬ (tkK B (tkN B (tkN B (tkN B s))) = 1 ∧ tkW B (tkN B (tkN B (tkN B s))) = 6642) then 1 else if ¬ tkK B (tkN B (tkN B (tkN B (tkN B s)))) = 2 then 1 else if (tkV B (tkN B (tkN B (tkN B (tkN B s)))) < 1 ∨ 60 < tkV B (tkN B (tkN B (tkN B (tkN B s))))) then 4 else if ¬ (tkK B (tkN B (tkN B (tkN B (tkN B (tkN B s))))) = 1 ∧ tkW B (tkN B (tkN B (tkN B (tkN B (tkN B s))))) = 3657363) then 1 else if ¬ tkK B (tkN B (tkN B (tkN B (tkN B (tkN B (tkN B s)))))) = 2 then 1 else if (tkV B (tkN B (tkN B (tkN B (tkN B (tkN B (tkN B s)))))) < 0 ∨ 99 < tkV B (tkN B (tkN B (tkN B (tkN B (tkN B (tkN B s))))))) then 4 else 0) := rfl
theorem caP_ch (B : cz_B) (Q : Nat → Int) (s : Int) : ChE (caP B Q s) (if ¬ isN B s = 1 then tkS B s else if nmI Q 200 (Q 4) (tkW B s) = -1 then tkS B s else if ¬ (tkK B (tkN B s) = 1 ∧ tkW B (tkN B s) = 52) then tkS B (tkN B s) else if ¬ tkK B (tkN B (tkN B s)) = 2 then tkS B (tkN B (tkN B s)) else if (tkV B (tkN B (tkN B s)) < 0 ∨ Q 0 - 1 < tkV B (tkN B (tkN B s))) then tkS B (tkN B (tkN B s)) else if ¬ (tkK B (tkN B (tkN B (tkN B s))) = 1 ∧ tkW B (tkN B (tkN B (tkN B s))) = 6642) then tkS B (tkN B (tkN B (tkN B s))) else if ¬ tkK B (tkN B (tkN B (tkN B (tkN B s)))) = 2 then tkS B (tkN B (tkN B (tkN B (tkN B s)))) else if (tkV B (tkN B (tkN B (tkN B (tkN B s)))) < 1 ∨ 60 < tkV B (tkN B (tkN B (tkN B (tkN B s))))) then tkS B (tkN B (tkN B (tkN B (tkN B s)))) else if ¬ (tkK B (tkN B (tkN B (tkN B (tkN B (tkN B s))))) = 1 ∧ tkW B (tkN B (tkN B (tkN B (tkN B (tkN B s))))) = 3657363) then tkS B (tkN B (tkN B (tkN B (tkN B (tkN B s))))) else if ¬ tkK B (tkN B (tkN B (tkN B (tkN B (tkN B (tkN B s)))))) = 2 then tkS B (tkN B (tkN B (tkN B (tkN B (tkN B (tkN B s)))))) else if (tkV B (tkN B (tkN B (tkN B (tkN B (tkN B (tkN B s)))))) < 0 ∨ 99 < tkV B (tkN B (tkN B (tkN B (tkN B (tkN B (tkN B s))))))) then tkS B (tkN B (tkN B (tkN B (tkN B (tkN B (tkN B s)))))) else 0) := rfl
def NeI (a b : Int) : Prop := ¬ a = b
def NotW (k w c : Int) : Prop := ¬ (k = 1 ∧ w = c)
theorem srt_0 {B : cz_B} {s : Int} (h1 : tkK B s = 1) (h : tkW B s = 3554980) : srt B s = 0 := by simp [srt, h1, h]
theorem srt_1 {B : cz_B} {s : Int} (h1 : tkK B s = 1) (h : tkW B s = 5482267237) : srt B s = 1 := by simp [srt, h1, h]
theorem srt_2 {B : cz_B} {s : Int} (h1 : tkK B s = 1) (h : tkW B s = 394672) : srt B s = 2 := by simp [srt, h1, h]
theorem srt_3 {B : cz_B} {s : Int} (h1 : tkK B s = 1) (h : tkW B s = 20692226226) : srt B s = 3 := by simp [srt, h1, h]
theorem srt_4 {B : cz_B} {s : Int} (h1 : tkK B s = 1) (h : tkW B s = 81300) : srt B s = 4 := by simp [srt, h1, h]
theorem srt_5 {B : cz_B} {s : Int} (h1 : tkK B s = 1) (h : tkW B s = 109221477) : srt B s = 5 := by simp [srt, h1, h]
theorem srt_6 {B : cz_B} {s : Int} (h1 : tkK B s = 1) (h : tkW B s = 1490073635) : srt B s = 6 := by simp [srt, h1, h]
theorem srt_7 {B : cz_B} {s : Int} (h1 : tkK B s = 1) (h : tkW B s = 693713074) : srt B s = 7 := by simp [srt, h1, h]
theorem srt_8 {B : cz_B} {s : Int} (h1 : tkK B s = 1) (h : tkW B s = 99724) : srt B s = 8 := by simp [srt, h1, h]
theorem srt_9 {B : cz_B} {s : Int} (h1 : tkK B s = 1) (h : tkW B s = 20325477) : srt B s = 9 := by simp [srt, h1, h]
theorem srt_10 {B : cz_B} {s : Int} (h1 : tkK B s = 1) (h : tkW B s = 1424) : srt B s = 10 := by simp [srt, h1, h]
theorem srt_no {B : cz_B} {s : Int} (h0 : NeI (tkW B s) 3554980) (h1 : NeI (tkW B s) 5482267237) (h2 : NeI (tkW B s) 394672) (h3 : NeI (tkW B s) 20692226226) (h4 : NeI (tkW B s) 81300) (h5 : NeI (tkW B s) 109221477) (h6 : NeI (tkW B s) 1490073635) (h7 : NeI (tkW B s) 693713074) (h8 : NeI (tkW B s) 99724) (h9 : NeI (tkW B s) 20325477) (h10 : NeI (tkW B s) 1424) : srt B s = -1 := by
  unfold NeI at *
  simp [srt, h0, h1, h2, h3, h4, h5, h6, h7, h8, h9, h10]
theorem srt_nk {B : cz_B} {s : Int} (h : ¬ tkK B s = 1) : srt B s = -1 := by simp [srt, h]
/-! ===== objects that stay ===== -/
section CzOw
variable {T : Nat → Nat} {cn : Nat} {K N : Nat → Nat} {d : Int} {wi wr : List Nat} {I J J2 : cz_I} {R R2 : cz_R} {r dr : Nat}
/-- of role r none but dr was written -/
def FrO (r dr : Nat) (T : Nat → Nat) (I J : cz_I) : Prop := ∀ a j, T a = r → ¬ a = dr → J a j = I a j
theorem FrO.rf : FrO r dr T I I := fun _ _ _ _ => rfl
theorem FrO.tr (h : FrO r dr T I J) (g : FrO r dr T J J2) : FrO r dr T I J2 := fun a j ta hn => (g a j ta hn).trans (h a j ta hn)
theorem FrO.put {k i q : Nat} (h : FrO r dr T I J) (f : ∀ a j, ¬ (a = k ∧ j = i) → J2 a j = J a j) (hk : T k = q) (hq : ¬ q = r ∨ k = dr) : FrO r dr T I J2 := fun a j ta hn => (f a j (fun z => by
  rcases hq with h1 | h1
  · exact h1 (by rw [← hk, ← z.1]; exact ta)
  · exact hn (z.1.trans h1))).trans (h a j ta hn)
theorem FrO.st (h : FrO r dr T I J) (g : St T cn K N d wi wr J R J2 R2) (hw : wi.all (fun c => !(Nat.beq (c / 64) r)) = true) : FrO r dr T I J2 := fun a j ta hn => (g.2.1 a j (by rw [ta]; exact wm_no hw)).trans (h a j ta hn)
/-- nothing was done, of the reference -/
def SmM (T : Nat → Nat) (I I' : cz_I) (m : Nat) : Prop := I' m 19 = I m 19 ∧ I' m 20 = I m 20 ∧ ∀ a j, T a = 77 ∨ T a = 78 ∨ T a = 79 → I' a j = I a j
end CzOw
/-! ===== tables of an ALP, in the class's objects ===== -/
section CzTb
variable {T : Nat → Nat} {cn : Nat} {K N : Nat → Nat} {d d1 : Int} {I J J2 I9 : cz_I} {R R' R1 R2 : cz_R} {al b V ob k i q r : Nat} {E E' : Nat → Nat → Int} {c c' Q : Nat → Int} {W W' : Nat → Prop} {B : cz_B} {s : Int} {wi wr : List Nat} {ex : Nat → Bool}
theorem wm_p {l : List Nat} {r j : Nat} {p : Nat → Bool} (h : l.all (fun c => p (c / 64)) = true) (hr : p r = false) : wm l r j = false := by
  apply wm_no
  rw [List.all_eq_true] at h ⊢
  intro c hc
  have q := h c hc
  cases hb : Nat.beq (c / 64) r with
  | false => rfl
  | true => rw [Nat.eq_of_beq_eq_true hb, hr] at q; cases q
def rdc (r : Nat) : Bool := Nat.beq r 3 || Nat.beq r 4 || Nat.beq r 5 || Nat.beq r 6 || Nat.beq r 18 || Nat.beq r 20 || Nat.beq r 24
def rdm (r : Nat) : Bool := Nat.ble 53 r && Nat.ble r 72
theorem nbq {x y : Nat} (h : ¬ x = y) : Nat.beq x y = false := by
  cases hb : Nat.beq x y with
  | false => rfl
  | true => exact absurd (Nat.eq_of_beq_eq_true hb) h
/-- roles of which nothing was written -/
def RoF (ex : Nat → Bool) (T : Nat → Nat) (I J : cz_I) : Prop := ∀ a j, ex (T a) = true → J a j = I a j
theorem RoF.rf : RoF ex T I I := fun _ _ _ => rfl
theorem RoF.tr (h : RoF ex T I J) (g : RoF ex T J J2) : RoF ex T I J2 := fun a j ta => (g a j ta).trans (h a j ta)
theorem RoF.st (g : St T cn K N d1 wi wr I R1 J R2) (hw : wi.all (fun c => !(ex (c / 64))) = true) : RoF ex T I J := fun a j ta => g.2.1 a j (wm_p (p := fun r => !(ex r)) hw (by rw [ta]; rfl))
theorem RoF.put (h : RoF ex T I J) (f : ∀ a j, ¬ (a = k ∧ j = i) → J2 a j = J a j) (hk : T k = q) (hq : ex q = false) : RoF ex T I J2 := fun a j ta => (f a j (fun z => by rw [z.1, hk, hq] at ta; cases ta)).trans (h a j ta)
theorem rdc_in {r : Nat} (h : rdc r = true) : r = 3 ∨ r = 4 ∨ r = 5 ∨ r = 6 ∨ r = 18 ∨ r = 20 ∨ r = 24 := by
  apply Classical.byContradiction
  intro q
  unfold rdc at h
  rw [nbq (show ¬ r = 3 by exact om_e8fd5b72 q), nbq (show ¬ r = 4 by exact om_743b6d38 q), nbq (show ¬ r = 5 by exact om_b47c6f13 q), nbq (show ¬ r = 6 by exact om_ae193893 q), nbq (show ¬ r = 18 by exact om_26f44156 q), nbq (show ¬ r = 20 by exact om_28618242 q), nbq (show ¬ r = 24 by exact om_0130fdc2 q)] at h
  cases h
def obr (u : Nat) : Nat := if u < 14 then 3 else if u < 19 then 4 else if u < 25 then 5 else if u < 30 then 6 else if u < 35 then 24 else if u = 35 then 20 else 18
theorem obr_rdc (u : Nat) : rdc (obr u) = true := by
  unfold obr; repeat' (first | rfl | split)
/-- the place of row u of an ALP -/
def Ob (R : cz_R) (al u : Nat) : Option Nat := if u < 14 then (R al 4).bind (fun V => R V u) else if u < 19 then (R al 10).bind (fun V => R V (u - 14)) else if u < 25 then (R al 12).bind (fun V => R V (u - 19)) else if u < 29 then (R al 14).bind (fun V => R V (u - 25)) else if u = 29 then R al 8 else if u < 34 then ((R al 14).bind (fun V => R V (u - 30))).bind (fun o => R o 1) else if u = 34 then (R al 8).bind (fun o => R o 1) else if u = 35 then R al 6 else R al 2
theorem ObE (hV : R al 4 = some V) (hu : k < 14) (ho : R V k = some ob) : Ob R al k = some ob := by
  unfold Ob; rw [if_pos hu, hV]; exact ho
theorem ObT (hV : R al 10 = some V) (hu : k < 5) (ho : R V k = some ob) : Ob R al (14 + k) = some ob := by
  unfold Ob; rw [if_neg (by exact om_912568f6 hu), if_pos (by exact om_58f080e9 hu), hV]
  show R V (14 + k - 14) = some ob
  rw [show 14 + k - 14 = k by exact om_5488c380 hu]; exact ho
theorem ObC (hV : R al 12 = some V) (hu : k < 6) (ho : R V k = some ob) : Ob R al (19 + k) = some ob := by
  unfold Ob; rw [if_neg (by exact om_7c361186 hu), if_neg (by exact om_3d7e510d hu), if_pos (by exact om_7ccde6c8 hu), hV]
  show R V (19 + k - 19) = some ob
  rw [show 19 + k - 19 = k by exact om_2b2a15b3 hu]; exact ho
theorem ObS (hV : R al 14 = some V) (hu : k < 4) (ho : R V k = some ob) : Ob R al (25 + k) = some ob := by
  unfold Ob; rw [if_neg (by exact om_c58ab1f0 hu), if_neg (by exact om_466aa44b hu), if_neg (by exact om_25ea78a5 hu), if_pos (by exact om_f23c33e6 hu), hV]
  show R V (25 + k - 25) = some ob
  rw [show 25 + k - 25 = k by exact om_52dfc6cb hu]; exact ho
theorem ObA (h : R al 8 = some ob) : Ob R al 29 = some ob := by
  unfold Ob; rw [if_neg (by exact om_70570f7a), if_neg (by exact om_c331b2bf), if_neg (by exact om_113071da), if_neg (by exact om_f718df94), if_pos rfl]; exact h
theorem ObSa {a : Nat} (hV : R al 14 = some V) (hu : k < 4) (ho : R V k = some ob) (ha : R ob 1 = some a) : Ob R al (30 + k) = some a := by
  unfold Ob; rw [if_neg (by exact om_e4d94c73 hu), if_neg (by exact om_b3a1d214 hu), if_neg (by exact om_2ce2ccc4 hu), if_neg (by exact om_a344777b hu), if_neg (by exact om_c2b3ea80 hu), if_pos (by exact om_6046c800 hu), hV]
  show (R V (30 + k - 30)).bind (fun o => R o 1) = some a
  rw [show 30 + k - 30 = k by exact om_295986e8 hu, ho]; exact ha
theorem ObAa {a : Nat} (h : R al 8 = some ob) (ha : R ob 1 = some a) : Ob R al 34 = some a := by
  unfold Ob; rw [if_neg (by exact om_f6e9f6d4), if_neg (by exact om_3822c160), if_neg (by exact om_120af5f1), if_neg (by exact om_b9850997), if_neg (by exact om_a6c62a57), if_neg (by exact om_d92748b4), if_pos rfl, h]; exact ha
theorem ObH (h : R al 6 = some ob) : Ob R al 35 = some ob := by
  unfold Ob; rw [if_neg (by exact om_b270c3b3), if_neg (by exact om_c2f8b210), if_neg (by exact om_0814bff0), if_neg (by exact om_bde6a745), if_neg (by exact om_ad20a36b), if_neg (by exact om_4713733e), if_neg (by exact om_2d7ae00a), if_pos rfl]; exact h
theorem ObP (h : R al 2 = some ob) : Ob R al 36 = some ob := by
  unfold Ob; rw [if_neg (by exact om_51edd5fc), if_neg (by exact om_46299244), if_neg (by exact om_0667a5e5), if_neg (by exact om_805f7afc), if_neg (by exact om_5bf78d40), if_neg (by exact om_688349bd), if_neg (by exact om_7fab08f3), if_neg (by exact om_08552699)]; exact h
/-- roles of the arrays between an ALP and its rows -/
def Rr (r : Nat) : Prop := r = 6 ∨ r = 19 ∨ r = 21 ∨ r = 22 ∨ r = 23
/-- each row has its place, of its role; another graph that agrees on the arrays has the same -/
theorem Ob.ex2 (hW : Wf T cn K N I R d) (ta : T al = 2) (r : ∀ j, R' al j = R al j) (rV : ∀ a j, Rr (T a) → R' a j = R a j) {u : Nat} (hu : u < 37) : ∃ a, Ob R al u = some a ∧ Ob R' al u = some a ∧ T a = obr u := by
  obtain ⟨V4, h4, t4⟩ := rf2_4 hW ta
  obtain ⟨V10, h10, t10⟩ := rf2_10 hW ta
  obtain ⟨V12, h12, t12⟩ := rf2_12 hW ta
  obtain ⟨V14, h14, t14⟩ := rf2_14 hW ta
  obtain ⟨V8, h8, t8⟩ := rf2_8 hW ta
  obtain ⟨V6, h6, t6⟩ := rf2_6 hW ta
  obtain ⟨V2, h2, t2⟩ := rf2_2 hW ta
  obtain ⟨a8, g8, u8⟩ := rf6_1 hW t8
  by_cases c1 : u < 14
  · obtain ⟨a, ha, tt⟩ := rf19 hW t4 c1
    exact ⟨a, ObE h4 c1 ha, ObE ((r 4).trans h4) c1 ((rV V4 u (by unfold Rr; exact om_c90e5bd0 t4)).trans ha), by unfold obr; rw [if_pos c1]; exact tt⟩
  by_cases c2 : u < 19
  · obtain ⟨j, rfl⟩ : ∃ j, u = 14 + j := ⟨u - 14, by exact om_cac7f050 hu c1 c2⟩
    obtain ⟨a, ha, tt⟩ := rf21 hW t10 (j := j) (by exact om_be018f05 hu c2)
    exact ⟨a, ObT h10 (by exact om_be018f05 hu c2) ha, ObT ((r 10).trans h10) (by exact om_be018f05 hu c2) ((rV V10 j (by unfold Rr; exact om_b01a5a0d t10)).trans ha), by unfold obr; rw [if_neg c1, if_pos c2]; exact tt⟩
  by_cases c3 : u < 25
  · obtain ⟨j, rfl⟩ : ∃ j, u = 19 + j := ⟨u - 19, by exact om_5217d8d3 hu c1 c2 c3⟩
    obtain ⟨a, ha, tt⟩ := rf22 hW t12 (j := j) (by exact om_925f3faf hu c3)
    exact ⟨a, ObC h12 (by exact om_925f3faf hu c3) ha, ObC ((r 12).trans h12) (by exact om_925f3faf hu c3) ((rV V12 j (by unfold Rr; exact om_9bf98a5f t12)).trans ha), by unfold obr; rw [if_neg c1, if_neg c2, if_pos c3]; exact tt⟩
  by_cases c4 : u < 29
  · obtain ⟨j, rfl⟩ : ∃ j, u = 25 + j := ⟨u - 25, by exact om_9f3f20a3 hu c1 c2 c3 c4⟩
    obtain ⟨a, ha, tt⟩ := rf23 hW t14 (j := j) (by exact om_cba57748 hu c4)
    exact ⟨a, ObS h14 (by exact om_cba57748 hu c4) ha, ObS ((r 14).trans h14) (by exact om_cba57748 hu c4) ((rV V14 j (by unfold Rr; exact om_443a6cd8 t14)).trans ha), by unfold obr; rw [if_neg c1, if_neg c2, if_neg c3, if_pos (by exact om_0bc0ad9b hu c4)]; exact tt⟩
  by_cases c5 : u = 29
  · subst c5
    exact ⟨V8, ObA h8, ObA ((r 8).trans h8), t8⟩
  by_cases c6 : u < 34
  · obtain ⟨j, rfl⟩ : ∃ j, u = 30 + j := ⟨u - 30, by exact om_15c9a27d hu c1 c2 c3 c4 c5 c6⟩
    obtain ⟨o, ho, tt⟩ := rf23 hW t14 (j := j) (by exact om_98e2ad6e hu c6)
    obtain ⟨a, ha, ta2⟩ := rf6_1 hW tt
    exact ⟨a, ObSa h14 (by exact om_98e2ad6e hu c6) ho ha, ObSa ((r 14).trans h14) (by exact om_98e2ad6e hu c6) ((rV V14 j (by unfold Rr; exact om_443a6cd8 t14)).trans ho) ((rV o 1 (by unfold Rr; exact om_8c4c820b tt)).trans ha), by unfold obr; rw [if_neg c1, if_neg c2, if_neg c3, if_neg (by exact om_1f5092f2 hu c6), if_pos (by exact om_1d8b37a6 hu c6)]; exact ta2⟩
  by_cases c7 : u = 34
  · subst c7
    exact ⟨a8, ObAa h8 g8, ObAa ((r 8).trans h8) ((rV V8 1 (by unfold Rr; exact om_8c4c820b t8)).trans g8), u8⟩
  by_cases c8 : u = 35
  · subst c8
    exact ⟨V6, ObH h6, ObH ((r 6).trans h6), t6⟩
  obtain rfl : u = 36 := by exact om_46998c63 hu c1 c2 c3 c4 c6 c7 c8
  exact ⟨V2, ObP h2, ObP ((r 2).trans h2), t2⟩
theorem Ob.e1 (hW : Wf T cn K N I R d) (ta : T al = 2) {u : Nat} (hu : u < 37) : ∃ a, Ob R al u = some a ∧ T a = obr u := by
  obtain ⟨a, h1, -, h2⟩ := Ob.ex2 (R' := R) hW ta (fun _ => rfl) (fun _ _ _ => rfl) hu
  exact ⟨a, h1, h2⟩
theorem Ob.ro (hW : Wf T cn K N I R d) (ta : T al = 2) {u a : Nat} (hu : u < 37) (h : Ob R al u = some a) : T a = obr u := by
  obtain ⟨b, h1, h2⟩ := Ob.e1 hW ta hu
  rw [h] at h1; cases h1; exact h2
theorem Ob.cr (hW : Wf T cn K N I R d) (ta : T al = 2) (r : ∀ j, R' al j = R al j) (rV : ∀ a j, Rr (T a) → R' a j = R a j) {u : Nat} (hu : u < 37) : Ob R' al u = Ob R al u := by
  obtain ⟨a, h1, h2, -⟩ := Ob.ex2 hW ta r rV hu
  rw [h1, h2]
/-- how many columns row u has -/
def Db (c : Nat → Int) (E : Nat → Nat → Int) (u : Nat) : Int := if u < 14 then (if (u : Int) < c 2 then 4 else 0) else if u < 19 then (if (u : Int) - 14 < c 4 then 6 else 0) else if u < 25 then (if (u : Int) - 19 < c 5 then 4 else 0) else if u < 29 then (if (u : Int) - 25 < c 6 then 1 else 0) else if u = 29 then 1 else if u < 34 then (if (u : Int) - 30 < c 6 then E (u - 5) 0 else 0) else if u = 34 then E 29 0 else if u = 35 then c 3 else if u = 36 then (if 1 ≤ c 0 then 5 else 0) else 0
theorem Db_no (hc : c' 0 = c 0 ∧ c' 2 = c 2 ∧ c' 3 = c 3 ∧ c' 4 = c 4 ∧ c' 5 = c 5 ∧ c' 6 = c 6) (e : ∀ u j, E' u j = E u j) (u : Nat) : Db c' E' u = Db c E u := by
  obtain ⟨h0, h2, h3, h4, h5, h6⟩ := hc
  unfold Db; rw [h0, h2, h3, h4, h5, h6, e (u - 5) 0, e 29 0]
def AlC (I : cz_I) (R : cz_R) (al : Nat) (c : Nat → Int) (E : Nat → Nat → Int) : Prop := (I al 7).toInt = c 9 ∧ ∀ (u j a : Nat), u < 37 → (j : Int) < Db c E u → Ob R al u = some a → (I a j).toInt = E u j
/-- the rows of an ALP are places of their own -/
def AlT (R : cz_R) (al : Nat) : Prop := ∀ u u' a, u < 37 → u' < 37 → Ob R al u = some a → Ob R al u' = some a → u = u'
def AlX (R : cz_R) (al dr : Nat) : Prop := ∀ u u' a, u < 37 → u' < 37 → Ob R al u = some a → Ob R dr u' = some a → False
theorem AlC.kp (h : AlC I R al c E) (hW : Wf T cn K N I9 R d) (ta : T al = 2) (e7 : J al 7 = I al 7) (e : ∀ a j, rdc (T a) = true → J a j = I a j) : AlC J R al c E :=
  ⟨by rw [e7]; exact h.1, fun u j a hu hd ho => by rw [e a j (by rw [Ob.ro hW ta hu ho]; exact obr_rdc u)]; exact h.2 u j a hu hd ho⟩
theorem AlC.cr (h : AlC I R al c E) (hW : Wf T cn K N I9 R d) (ta : T al = 2) (r : ∀ j, R' al j = R al j) (rV : ∀ a j, Rr (T a) → R' a j = R a j) : AlC I R' al c E :=
  ⟨h.1, fun u j a hu hd ho => h.2 u j a hu hd ((Ob.cr hW ta r rV hu).symm.trans ho)⟩
theorem AlC.no (h : AlC I R al c E) (hc : c' 0 = c 0 ∧ c' 2 = c 2 ∧ c' 3 = c 3 ∧ c' 4 = c 4 ∧ c' 5 = c 5 ∧ c' 6 = c 6) (h9 : c' 9 = c 9) (e : ∀ u j, E' u j = E u j) : AlC I R al c' E' :=
  ⟨by rw [h9]; exact h.1, fun u j a hu hd ho => by rw [e]; exact h.2 u j a hu (by rw [← Db_no hc e]; exact hd) ho⟩
theorem AlT.cr (h : AlT R al) (hW : Wf T cn K N I9 R d) (ta : T al = 2) (r : ∀ j, R' al j = R al j) (rV : ∀ a j, Rr (T a) → R' a j = R a j) : AlT R' al := fun u u' a hu hu' h1 h2 => h u u' a hu hu' ((Ob.cr hW ta r rV hu).symm.trans h1) ((Ob.cr hW ta r rV hu').symm.trans h2)
/-- of an ALP's rows none but al's W were written -/
def FrK (R : cz_R) (al : Nat) (W : Nat → Prop) (T : Nat → Nat) (I J : cz_I) : Prop := ∀ a j, rdc (T a) = true → (∀ u, u < 37 → W u → ¬ Ob R al u = some a) → J a j = I a j
theorem FrK.rf : FrK R al W T I I := fun _ _ _ _ => rfl
theorem FrK.tr (h : FrK R al W T I J) (g : FrK R al W T J J2) : FrK R al W T I J2 := fun a j ta hn => (g a j ta hn).trans (h a j ta hn)
theorem FrK.mono (h : FrK R al W T I J) (hw : ∀ u, W u → W' u) : FrK R al W' T I J := fun a j ta hn => h a j ta (fun u hu w => hn u hu (hw u w))
theorem FrK.put (h : FrK R al W T I J) (f : ∀ a j, ¬ (a = k ∧ j = i) → J2 a j = J a j) (hk : T k = q) (hq : rdc q = false) : FrK R al W T I J2 := fun a j ta hn => (f a j (fun z => by rw [z.1, hk, hq] at ta; cases ta)).trans (h a j ta hn)
theorem FrK.pu {u : Nat} (h : FrK R al W T I J) (f : ∀ a j, ¬ (a = k ∧ j = i) → J2 a j = J a j) (hu : u < 37) (hw : W u) (ho : Ob R al u = some k) : FrK R al W T I J2 := fun a j ta hn => (f a j (fun z => hn u hu hw (by rw [z.1]; exact ho))).trans (h a j ta hn)
theorem FrK.st (h : FrK R al W T I J) (g : St T cn K N d1 wi wr J R1 J2 R2) (hw : wi.all (fun c => !(rdc (c / 64))) = true) : FrK R al W T I J2 := fun a j ta hn => (g.2.1 a j (wm_p (p := fun r => !(rdc r)) hw (by rw [ta]; rfl))).trans (h a j ta hn)
theorem FrK.fro {u : Nat} (h : FrK R al W T I J) (fr : FrO r k T J J2) (g : St T cn K N d1 wi wr J R1 J2 R2) (hu : u < 37) (hw : W u) (ho : Ob R al u = some k) (hc : wi.all (fun c => !(rdc (c / 64)) || Nat.beq (c / 64) r) = true) : FrK R al W T I J2 := fun a j ta hn => by
  refine Eq.trans ?_ (h a j ta hn)
  by_cases z : T a = r
  · exact fr a j z (fun y => hn u hu hw (by rw [y]; exact ho))
  · refine g.2.1 a j (wm_p (p := fun x => !(rdc x) || Nat.beq x r) hc ?_)
    have zb : Nat.beq (T a) r = false := by
      cases hb : Nat.beq (T a) r with
      | false => rfl
      | true => exact absurd (Nat.eq_of_beq_eq_true hb) z
    show (!(rdc (T a)) || Nat.beq (T a) r) = false
    rw [ta, zb]; rfl
theorem FrK.mn {u1 u2 : Nat} (h : FrK R al W T I J) (fr : FrO 6 k T J J2) (fr2 : ∀ t, R k 1 = some t → FrO 24 t T J J2) (g : St T cn K N d1 wi wr J R1 J2 R2) (hu : u1 < 37) (hw : W u1) (ho : Ob R al u1 = some k) (hu2 : u2 < 37) (hw2 : W u2) (ho2 : ∃ t, R k 1 = some t ∧ Ob R al u2 = some t) (hc : wi.all (fun c => !(rdc (c / 64)) || (Nat.beq (c / 64) 6 || Nat.beq (c / 64) 24)) = true) : FrK R al W T I J2 := fun a j ta hn => by
  obtain ⟨t, h1, h2⟩ := ho2
  refine Eq.trans ?_ (h a j ta hn)
  by_cases z : T a = 6
  · exact fr a j z (fun y => hn u1 hu hw (by rw [y]; exact ho))
  · by_cases z2 : T a = 24
    · exact fr2 t h1 a j z2 (fun y => hn u2 hu2 hw2 (by rw [y]; exact h2))
    · refine g.2.1 a j (wm_p (p := fun x => !(rdc x) || (Nat.beq x 6 || Nat.beq x 24)) hc ?_)
      have nb : ∀ y, ¬ T a = y → Nat.beq (T a) y = false := fun y hy => by
        cases hb : Nat.beq (T a) y with
        | false => rfl
        | true => exact absurd (Nat.eq_of_beq_eq_true hb) hy
      show (!(rdc (T a)) || (Nat.beq (T a) 6 || Nat.beq (T a) 24)) = false
      rw [ta, nb 6 z, nb 24 z2]; rfl
theorem FrK.cr (h : FrK R al W T I J) (hW : Wf T cn K N I9 R d) (ta : T al = 2) (r : ∀ j, R' al j = R al j) (rV : ∀ a j, Rr (T a) → R' a j = R a j) : FrK R' al W T I J := fun a j ha hn => h a j ha (fun u hu w ho => hn u hu w ((Ob.cr hW ta r rV hu).trans ho))
theorem AlC.ln (h : AlC I R al c E) (hT : AlT R al) (hW : Wf T cn K N I9 R d) (ta : T al = 2) (fr : FrK R al W T I J) (e7 : (J al 7).toInt = c' 9) (h1 : ∀ u, u < 37 → ¬ W u → Db c' E' u = Db c E u ∧ ∀ j, E' u j = E u j) (h2 : ∀ (u j a : Nat), W u → u < 37 → (j : Int) < Db c' E' u → Ob R al u = some a → (J a j).toInt = E' u j) : AlC J R al c' E' := by
  refine ⟨e7, fun u j a hu hd ho => ?_⟩
  by_cases w : W u
  · exact h2 u j a w hu hd ho
  · obtain ⟨e1, e2⟩ := h1 u hu w
    rw [e2, fr a j (by rw [Ob.ro hW ta hu ho]; exact obr_rdc u) (fun u' hu' w' ho' => w (by rw [hT u u' a hu hu' ho ho']; exact w'))]
    exact h.2 u j a hu (by rw [← e1]; exact hd) ho
/-- who lies up: one bit more -/
theorem up_all : ∀ c : Nat, c < 8 → ∀ h : Nat, h < 2 ^ c → (Int32.ofNat h ||| ((1 : Int32) <<< (Int32.ofNat c &&& 31))).toInt = (h : Int) + 2 ^ c := by decide +kernel
theorem up_or {h v o : Int32} (h0 : 0 ≤ h.toInt) (hp : h.toInt < pw v.toInt) (h1 : 0 ≤ v.toInt) (h7 : v.toInt ≤ 7) (ho : o.toInt = 1) : (h ||| (o <<< (v &&& 31))).toInt = h.toInt + pw v.toInt := by
  obtain rfl : o = 1 := Int32.toInt_inj.mp (ho.trans rfl)
  obtain ⟨b, hb2, rfl, eb⟩ := i32_nat (n := 8) h1 (by exact om_8fd61492 h1 h7) (by exact om_52241749)
  have hpb : pw ((b : Nat) : Int) = ((2 ^ b : Nat) : Int) := by unfold pw; rw [Int.toNat_natCast]; exact (Int.natCast_pow 2 b).symm
  rw [eb, hpb] at hp ⊢
  have hb128 : 2 ^ b ≤ 2 ^ 7 := Nat.pow_le_pow_right (by exact om_88ae610c) (by exact om_89d2aee8 h1 h7 eb)
  obtain ⟨a, ha, rfl, ea⟩ := i32_nat (n := 2 ^ b) h0 hp (by omega)
  rw [ea, up_all b hb2 a ha]; rw [Int.natCast_pow]; rfl
end CzTb
