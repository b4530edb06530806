/-! ===== the class's reader: what it stands on ===== -/
def tkX (B : cz_B) (s : Int) : Int := (wfo B s (tkE B s - s).toNat).toInt
def tkY (B : cz_B) (s : Int) : Int := (vfo B s (tkD B s - s).toNat).toInt
theorem tkW_X (B : cz_B) (s : Int) : tkW B s = tkX B (tkS B s) := rfl
theorem tkV_Y (B : cz_B) (s : Int) : tkV B s = tkY B (tkS B s) := rfl
theorem tkS_fin {B : cz_B} {s : Int} (h : B.2 ≤ s ∨ ¬ tkb B s = 32) : tkS B s = s := by
  rcases h with h | h
  · exact tkS_at (by rw [tkb_out h]; decide)
  · exact tkS_at h
theorem tkE_fin {B : cz_B} {s : Int} (h : B.2 ≤ s ∨ ¬ (97 ≤ tkb B s ∧ tkb B s ≤ 122)) : tkE B s = s := by
  rcases h with h | h
  · exact tkE_at (by rw [tkb_out h]; decide)
  · exact tkE_at h
theorem tkD_fin {B : cz_B} {s : Int} (h : B.2 ≤ s ∨ ¬ (48 ≤ tkb B s ∧ tkb B s ≤ 57)) : tkD B s = s := by
  rcases h with h | h
  · exact tkD_at (by rw [tkb_out h]; decide)
  · exact tkD_at h
theorem Tx.at {I : cz_I} {t : Nat} {B : cz_B} {i n : Int32} (h : Tx I t B) (h0 : 0 ≤ i.toInt) (h1 : i.toInt < B.2) (c : I t i.toNatClampNeg = n) : n = B.1 i.toInt.toNat := by
  rw [← c]
  have e : i.toNatClampNeg = i.toInt.toNat := rfl
  rw [e, h.2.2 _ (by have := h.2.1; exact om_24722d3a h1 this)]
theorem wfo_on {B : cz_B} {s : Int} {k : Nat} {i n : Int32} (hk : s + k = i.toInt) (hn : n = B.1 i.toInt.toNat) : wfo B s (k + 1) = wfo B s k * 32 + n.toInt64 - 97 + 1 := by rw [wfo, hk, hn]
theorem vfo_on {B : cz_B} {s : Int} {k : Nat} {i n : Int32} (hk : s + k = i.toInt) (hn : n = B.1 i.toInt.toNat) : vfo B s (k + 1) = vfo B s k * 10 + n - 48 := by rw [vfo, hk, hn]
theorem TxA.kp {T : Nat → Nat} {cn : Nat} {K N : Nat → Nat} {d : Int} {wi wr : List Nat} {I0 I : cz_I} {R0 R : cz_R} {a r j q : Nat} {B : cz_B} (h : ∀ t, R0 a j = some t → Tx I0 t B) (hS : St T cn K N d wi wr I0 R0 I R) (ta : T a = r) (h1 : rrf r j = q) (h2 : Nat.ble 1 q = true) (h3 : Nat.ble 1000 q = false) (hr : wm wr r j = false) (hw : wi.all (fun c => !(Nat.beq (c / 64) q)) = true) : ∀ t, R a j = some t → Tx I t B := by
  intro t ht
  have tt := hS.1.rs ta (by rw [h1]; exact h2) (by rw [h1]; exact h3) ht
  rw [h1] at tt
  have hx := h t ((hS.rcell ta hr).symm.trans ht)
  exact ⟨hx.1, hx.2.1, fun k hk => (hS.cell tt (wm_no hw)).trans (hx.2.2 k hk)⟩
/-- names, as the class holds them -/
def NmC (L : cz_L) (R : cz_R) (a : Nat) (Q : Nat → Int) : Prop := (∀ t, R a 13 = some t → ∀ i : Nat, (i : Int) < Q 3 → (L t i).toInt = Q (100 + i)) ∧ (∀ t, R a 14 = some t → ∀ i : Nat, (i : Int) < Q 4 → (L t i).toInt = Q (200 + i))
section CzNm
variable {T : Nat → Nat} {cn : Nat} {K N : Nat → Nat} {I : cz_I} {R : cz_R} {L L' : cz_L} {d : Int} {a t : Nat} {Q Q' : Nat → Int} {wl : List Nat}
theorem NmC.kp (h : NmC L R a Q) (hl : LgS T wl L L') (hW : Wf T cn K N I R d) (ta : T a = 7) (h1 : wl.all (fun c => !(Nat.beq (c / 64) 25)) = true) (h2 : wl.all (fun c => !(Nat.beq (c / 64) 26)) = true) : NmC L' R a Q := by
  refine ⟨fun t ht i hi => ?_, fun t ht i hi => ?_⟩
  · have tt : T t = 25 := hW.rs ta rfl rfl ht
    rw [hl.cell tt (wm_no h1)]; exact h.1 t ht i hi
  · have tt : T t = 26 := hW.rs ta rfl rfl ht
    rw [hl.cell tt (wm_no h2)]; exact h.2 t ht i hi
theorem NmC.w13 {i : Nat} (h : NmC L R a Q) (hW : Wf T cn K N I R d) (ta : T a = 7) (ht : R a 13 = some t) (f : ∀ b j, ¬ (b = t ∧ j = i) → L' b j = L b j) (hi : Q 3 ≤ (i : Int)) : NmC L' R a Q := by
  refine ⟨fun t2 ht2 k hk => ?_, fun t2 ht2 k hk => ?_⟩
  · rw [f t2 k (by rintro ⟨-, rfl⟩; exact om_eab21742 hk hi)]; exact h.1 t2 ht2 k hk
  · have e1 : T t = 25 := hW.rs ta rfl rfl ht
    have e2 : T t2 = 26 := hW.rs ta rfl rfl ht2
    rw [f t2 k (by rintro ⟨rfl, -⟩; rw [e1] at e2; cases e2)]; exact h.2 t2 ht2 k hk
theorem NmC.w14 {i : Nat} (h : NmC L R a Q) (hW : Wf T cn K N I R d) (ta : T a = 7) (ht : R a 14 = some t) (f : ∀ b j, ¬ (b = t ∧ j = i) → L' b j = L b j) (hi : Q 4 ≤ (i : Int)) : NmC L' R a Q := by
  refine ⟨fun t2 ht2 k hk => ?_, fun t2 ht2 k hk => ?_⟩
  · have e1 : T t = 26 := hW.rs ta rfl rfl ht
    have e2 : T t2 = 25 := hW.rs ta rfl rfl ht2
    rw [f t2 k (by rintro ⟨rfl, -⟩; rw [e1] at e2; cases e2)]; exact h.1 t2 ht2 k hk
  · rw [f t2 k (by rintro ⟨-, rfl⟩; exact om_eab21742 hk hi)]; exact h.2 t2 ht2 k hk
theorem NmC.cg (h : NmC L R a Q) (h3 : Q' 3 = Q 3) (h4 : Q' 4 = Q 4) (hn : ∀ i : Nat, 100 ≤ i → Q' i = Q i) : NmC L R a Q' :=
  ⟨fun t ht i hi => by rw [hn _ (by exact om_9920e379)]; exact h.1 t ht i (by exact om_509f1442 h3 hi), fun t ht i hi => by rw [hn _ (by exact om_bdc68f2f)]; exact h.2 t ht i (by exact om_509f1442 h4 hi)⟩
theorem NmC.up3 {B : cz_B} {s : Int} {i : Nat} (h : NmC L R a Q) (ht : R a 13 = some t) (e : (L t i).toInt = tkW B s) (hi : (i : Int) = Q 3) (h8 : Q 3 ≤ 8) (h5 : Q 4 ≤ 5) : NmC L R a (bdQ B Q 5 s) := by
  refine ⟨fun t2 ht2 k hk => ?_, fun t2 ht2 k hk => ?_⟩
  · obtain rfl := Option.some.inj (ht.symm.trans ht2)
    by_cases hkn : k = i
    · subst hkn
      rw [e]; simp only [bdQ, ↓reduceIte]; repeat' (first | exact om_d6d1d645 h8 hi | split)
    · have hk2 : (k : Int) < Q 3 := by revert hk; simp only [bdQ, ↓reduceIte]; repeat' (first | exact om_bbd73555 hi hkn | split)
      rw [h.1 _ ht2 k hk2]; simp only [bdQ, ↓reduceIte]; repeat' (first | exact om_9be14bfc hi h8 hk2 | split)
  · have hk2 : (k : Int) < Q 4 := by revert hk; simp only [bdQ, ↓reduceIte]; repeat' (first | exact om_60ffea24 hi h8 | split)
    rw [h.2 _ ht2 k hk2]; simp only [bdQ, ↓reduceIte]; repeat' (first | exact om_45d1d819 hi h8 | split)
theorem NmC.up4 {B : cz_B} {s : Int} {i : Nat} (h : NmC L R a Q) (ht : R a 14 = some t) (e : (L t i).toInt = tkW B s) (hi : (i : Int) = Q 4) (h8 : Q 3 ≤ 8) (h5 : Q 4 ≤ 5) : NmC L R a (bdQ B Q 7 s) := by
  refine ⟨fun t2 ht2 k hk => ?_, fun t2 ht2 k hk => ?_⟩
  · have hk2 : (k : Int) < Q 3 := by revert hk; simp only [bdQ, ↓reduceIte]; repeat' (first | exact om_2f08b884 hi h5 | split)
    rw [h.1 _ ht2 k hk2]; simp only [bdQ, ↓reduceIte]; repeat' (first | exact om_acc75826 hi h8 h5 hk2 | split)
  · obtain rfl := Option.some.inj (ht.symm.trans ht2)
    by_cases hkn : k = i
    · subst hkn
      rw [e]; simp only [bdQ, ↓reduceIte]; repeat' (first | exact om_86fbb77b h5 hi | split)
    · have hk2 : (k : Int) < Q 4 := by revert hk; simp only [bdQ, ↓reduceIte]; repeat' (first | exact om_38adf2af hi hkn | split)
      rw [h.2 _ ht2 k hk2]; simp only [bdQ, ↓reduceIte]; repeat' (first | exact om_d41a13ce hi h5 hk2 | split)
theorem NmC.bd {B : cz_B} {s k : Int} (h : NmC L R a Q) (h5 : ¬ k = 5) (h7 : ¬ k = 7) : NmC L R a (bdQ B Q k s) := by
  refine h.cg ?_ ?_ (fun i hi => ?_) <;> simp only [bdQ, ↓reduceIte] <;> repeat' (first | omega | split)
theorem NmC.ln {B : cz_B} {s k : Int} (h : NmC L R a (bdQ B Q k (tkN B s))) (hk : srt B s = k) : NmC L R a (lnQ B Q s) := by
  subst hk; exact h
theorem NmC.z0 : NmC L R a (fun _ => 0) := ⟨fun _ _ i hi => by have : (i : Int) < 0 := hi; exact om_45b66f4b this, fun _ _ i hi => by have : (i : Int) < 0 := hi; exact om_45b66f4b this⟩
end CzNm
section CzNf
variable {Q : Nat → Int} {b : Nat} {w n v v' : Int}
theorem nm_on (h0 : 0 ≤ v) (h : v < n) (hv : v' = v + 1) (hne : ¬ Q (b + v.toNat) = w) : nmF Q b w (n - v').toNat v'.toNat = nmF Q b w (n - v).toNat v.toNat := by
  rw [show (n - v).toNat = (n - v').toNat + 1 by exact om_2042c6b7 h hv, nmF, if_neg hne, show v'.toNat = v.toNat + 1 by exact om_79cef90a h0 hv]
theorem nm_hit (h0 : 0 ≤ v) (h : v < n) (he : Q (b + v.toNat) = w) : nmF Q b w (n - v).toNat v.toNat = v := by
  rw [show (n - v).toNat = (n - v - 1).toNat + 1 by exact om_39da9a0c h, nmF, if_pos he]; exact om_ce141e52 h0
theorem nm_end (h : n ≤ v) : nmF Q b w (n - v).toNat v.toNat = -1 := by
  rw [show (n - v).toNat = 0 by exact om_6dd307af h, nmF]
theorem nm_in (h : v = 0) : nmF Q b w (n - v).toNat v.toNat = nmI Q b n w := by
  rw [h, nmI, show (n - 0).toNat = n.toNat by exact om_9508131f]; rfl
end CzNf
def lwU (k : Int) : UInt32 := if k = 0 then 7 else if k = 1 then 11 else if k = 2 then 17 else if k = 3 then 22 else if k = 4 then 4 else if k = 5 then 6 else if k = 6 then 0 else if k = 7 then 26 else if k = 8 then 5 else if k = 9 then 23 else 1
theorem bt_all : ∀ h : Nat, h < 16 → ∀ v : Nat, v < 4 → ((((Int32.ofNat h).toUInt32 >>> ((Int32.ofNat v).toUInt32 &&& Int32.toUInt32 31)).toInt32) &&& 1).toInt = bt (h : Int) (v : Int) := by decide +kernel
theorem or_all : ∀ h : Nat, h < 16 → ∀ v : Nat, v < 4 → bt (h : Int) (v : Int) = 1 ∨ ((Int32.ofNat h ||| ((1 : Int32) <<< (Int32.ofNat v &&& 31))).toInt = (h : Int) + pw (v : Int) ∧ (h : Int) + pw (v : Int) ≤ 15) := by decide +kernel
theorem i32_nat {x : Int32} {n : Nat} (h0 : 0 ≤ x.toInt) (h1 : x.toInt < (n : Int)) (hn : n ≤ 1000) : ∃ k, k < n ∧ x = Int32.ofNat k ∧ x.toInt = (k : Int) := by
  refine ⟨x.toInt.toNat, by exact om_fca5216c h0 h1 hn, ?_, by exact om_2324bec7 h0⟩
  apply Int32.toInt_inj.mp
  have e : ((x.toInt.toNat : Nat) : Int) = x.toInt := by exact om_ce141e52 h0
  rw [Int32.toInt_ofNat', e]
  exact (cz_bm (by exact om_3656cbe4 h0 e) (by exact om_d3ab993f h1 hn e)).symm
theorem hut_or {h v o : Int32} (h0 : 0 ≤ h.toInt ∧ h.toInt ≤ 15) (h1 : 0 ≤ v.toInt ∧ v.toInt ≤ 3) (ho : o.toInt = 1) (hb : ¬ bt h.toInt v.toInt = 1) : (h ||| (o <<< (v &&& 31))).toInt = h.toInt + pw v.toInt ∧ h.toInt + pw v.toInt ≤ 15 := by
  obtain rfl : o = 1 := Int32.toInt_inj.mp (ho.trans rfl)
  obtain ⟨a, ha, rfl, ea⟩ := i32_nat (n := 16) h0.1 (by exact om_90a594bd h0.2 h0.1) (by exact om_5f365718)
  obtain ⟨b, hb2, rfl, eb⟩ := i32_nat (n := 4) h1.1 (by exact om_d223d4fc h1.2 h1.1) (by exact om_8d403b67)
  rw [ea, eb] at hb ⊢
  exact (or_all a ha b hb2).resolve_left hb
theorem pw_pos (v : Int) : 0 < pw v := Int.pow_pos (by exact om_8695c84f)
set_option maxHeartbeats 1000000 in
theorem f_X10_bit {l : Launch} {cn : Nat} {K N : Nat → Nat} {I0 : cz_I} {R0 : cz_R} {L0 : cz_L} {x0 x1 : Int32} (h0 : 0 ≤ x0.toInt ∧ x0.toInt ≤ 15) (h1 : 0 ≤ x1.toInt ∧ x1.toInt ≤ 3) : ConE l mX10_bit [.int x0, .int x1] cn K N I0 R0 L0 (ca_i (fun v cn' K' N' I' R' L' => cn = cn' ∧ K = K' ∧ N = N' ∧ I0 = I' ∧ R0 = R' ∧ L0 = L' ∧ (v.toInt = (bt x0.toInt x1.toInt)) ∧ True)) := by
  refine ConE.of (by decide +kernel) rfl (Nat.le_of_ble_eq_true rfl) rfl (fun X hX hZ hE => ?_)
  subst hX
  refine tr_iload_n dX10_bit_0 rfl ?_
  refine tr_iload_n dX10_bit_1 rfl ?_
  refine tr_iushr dX10_bit_2 ?_
  refine tr_iconst (v := 1) dX10_bit_3 rfl ?_
  refine tr_iand dX10_bit_4 ?_
  refine tr_iret hZ dX10_bit_5 rfl (by decide) (by decide) ⟨_, rfl, rfl, rfl, rfl, rfl, rfl, rfl, ?_, trivial⟩
  obtain ⟨a, ha, rfl, ea⟩ := i32_nat (n := 16) h0.1 (by exact om_90a594bd h0.2 h0.1) (by exact om_5f365718)
  obtain ⟨b, hb2, rfl, eb⟩ := i32_nat (n := 4) h1.1 (by exact om_d223d4fc h1.2 h1.1) (by exact om_8d403b67)
  rw [ea, eb]
  exact bt_all a ha b hb2
/-- an equation that a walk works at -/
def ChE (a b : Int) : Prop := a = b
theorem ChE.neg {a x y : Int} {c : Prop} [h0 : Decidable c] (h : ChE a (if c then x else y)) (hc : ¬ c) : ChE a y := by unfold ChE at h ⊢; rw [h, if_neg hc]
theorem ChE.pos {a x y : Int} {c : Prop} [h0 : Decidable c] (h : ChE a (if c then x else y)) (hc : c) : ChE a x := by unfold ChE at h ⊢; rw [h, if_pos hc]
theorem ChE.eq {a b : Int} (h : ChE a b) : a = b := h
theorem alF_ch (B : cz_B) (Q : Nat → Int) (s : Int) : ChE (alF B Q s) (if ¬ (tkK B s = 1 ∧ tkW B s = 14276022451) then 1 else if ¬ tkK B (tkN B s) = 2 then 1 else if (tkV B (tkN B s) < 10 ∨ 240 < tkV B (tkN B s)) then 4 else if ¬ (tkK B (tkN B (tkN B s)) = 1 ∧ tkW B (tkN B (tkN B s)) = 284307) then 1 else if ¬ tkK B (tkN B (tkN B (tkN B s))) = 2 then 1 else if (tkV B (tkN B (tkN B (tkN B s))) < 1 ∨ 4 < tkV B (tkN B (tkN B (tkN B s)))) then 4 else if ¬ (tkK B (tkN B (tkN B (tkN B (tkN B s)))) = 1 ∧ tkW B (tkN B (tkN B (tkN B (tkN B s)))) = 556043443) then 1 else if ¬ tkK B (tkN B (tkN B (tkN B (tkN B (tkN B s))))) = 2 then 1 else if (tkV B (tkN B (tkN B (tkN B (tkN B (tkN B s))))) < 0 ∨ 99 < tkV B (tkN B (tkN B (tkN B (tkN B (tkN B s)))))) then 4 else if ¬ tkK B (tkN B (tkN B (tkN B (tkN B (tkN B (tkN B s)))))) = 4 then 1 else if ¬ tkK B (tkN B (tkN B (tkN B (tkN B (tkN B (tkN B (tkN B s))))))) = 2 then 1 else if (tkV B (tkN B (tkN B (tkN B (tkN B (tkN B (tkN B (tkN B s))))))) < 0 ∨ 99 < tkV B (tkN B (tkN B (tkN B (tkN B (tkN B (tkN B (tkN B s)))))))) then 4 else if ¬ tkK B (tkN B (tkN B (tkN B (tkN B (tkN B (tkN B (tkN B (tkN B s)))))))) = 4 then 1 else if ¬ tkK B (tkN B (tkN B (tkN B (tkN B (tkN B (tkN B (tkN B (tkN B (tkN B s))))))))) = 2 then 1 else if (tkV B (tkN B (tkN B (tkN B (tkN B (tkN B (tkN B (tkN B (tkN B (tkN B s))))))))) < 0 ∨ 99 < tkV B (tkN B (tkN B (tkN B (tkN B (tkN B (tkN B (tkN B (tkN B (tkN B s)))))))))) then 4 else if ¬ tkK B (tkN B (tkN B (tkN B (tkN B (tkN B (tkN B (tkN B (tkN B (tkN B (tkN B s)))))))))) = 4 then 1 else if ¬ tkK B (tkN B (tkN B (tkN B (tkN B (tkN B (tkN B (tkN B (tkN B (tkN B (tkN B (tkN B s))))))))))) = 2 then 1 else if (tkV B (tkN B (tkN B (tkN B (tkN B (tkN B (tkN B (tkN B (tkN B (tkN B (tkN B (tkN B s))))))))))) < 0 ∨ 99 < tkV B (tkN B (tkN B (tkN B (tkN B (tkN B (tkN B (tkN B (tkN B (tkN B (tkN B (tkN B s)))))))))))) then 4 else if ¬ tkK B (tkN B (tkN B (tkN B (tkN B (tkN B (tkN B (tkN B (tkN B (tkN B (tkN B (tkN B (tkN B s)))))))))))) = 4 then 1 else if ¬ tkK B (tkN B (tkN B (tkN B (tkN B (tkN B (tkN B (tkN B (tkN B (tkN B (tkN B (tkN B (tkN B (tkN B s))))))))))))) = 2 then 1 else if (tkV B (tkN B (tkN B (tkN B (tkN B (tkN B (tkN B (tkN B (tkN B (tkN B (tkN B (tkN B (tkN B (tkN B s))))))))))))) < 0 ∨ 99 < tkV B (tkN B (tkN B (tkN B (tkN B (tkN B (tkN B (tkN B (tkN B (tkN B (tkN B (tkN B (tkN B (tkN B s)))))))))))))) then 4 else 0) := rfl
theorem alP_ch (B : cz_B) (Q : Nat → Int) (s : Int) : ChE (alP B Q s) (if ¬ (tkK B s = 1 ∧ tkW B s = 14276022451) then tkS B s else if ¬ tkK B (tkN B s) = 2 then tkS B (tkN B s) else if (tkV B (tkN B s) < 10 ∨ 240 < tkV B (tkN B s)) then tkS B (tkN B s) else if ¬ (tkK B (tkN B (tkN B s)) = 1 ∧ tkW B (tkN B (tkN B s)) = 284307) then tkS B (tkN B (tkN B s)) else if ¬ tkK B (tkN B (tkN B (tkN B s))) = 2 then tkS B (tkN B (tkN B (tkN B s))) else if (tkV B (tkN B (tkN B (tkN B s))) < 1 ∨ 4 < tkV B (tkN B (tkN B (tkN B s)))) then tkS B (tkN B (tkN B (tkN B s))) else if ¬ (tkK B (tkN B (tkN B (tkN B (tkN B s)))) = 1 ∧ tkW B (tkN B (tkN B (tkN B (tkN B s)))) = 556043443) then tkS B (tkN B (tkN B (tkN B (tkN B s)))) else if ¬ tkK B (tkN B (tkN B (tkN B (tkN B (tkN B s))))) = 2 then tkS B (tkN B (tkN B (tkN B (tkN B (tkN B s))))) else if (tkV B (tkN B (tkN B (tkN B (tkN B (tkN B s))))) < 0 ∨ 99 < tkV B (tkN B (tkN B (tkN B (tkN B (tkN B s)))))) then tkS B (tkN B (tkN B (tkN B (tkN B (tkN B s))))) else if ¬ tkK B (tkN B (tkN B (tkN B (tkN B (tkN B (tkN B s)))))) = 4 then tkS B (tkN B (tkN B (tkN B (tkN B (tkN B (tkN B s)))))) else if ¬ tkK B (tkN B (tkN B (tkN B (tkN B (tkN B (tkN B (tkN B s))))))) = 2 then tkS B (tkN B (tkN B (tkN B (tkN B (tkN B (tkN B (tkN B s))))))) else if (tkV B (tkN B (tkN B (tkN B (tkN B (tkN B (tkN B (tkN B s))))))) < 0 ∨ 99 < tkV B (tkN B (tkN B (tkN B (tkN B (tkN B (tkN B (tkN B s)))))))) then tkS B (tkN B (tkN B (tkN B (tkN B (tkN B (tkN B (tkN B s))))))) else if ¬ tkK B (tkN B (tkN B (tkN B (tkN B (tkN B (tkN B (tkN B (tkN B s)))))))) = 4 then tkS B (tkN B (tkN B (tkN B (tkN B (tkN B (tkN B (tkN B (tkN B s)))))))) else if ¬ tkK B (tkN B (tkN B (tkN B (tkN B (tkN B (tkN B (tkN B (tkN B (tkN B s))))))))) = 2 then tkS B (tkN B (tkN B (tkN B (tkN B (tkN B (tkN B (tkN B (tkN B (tkN B s))))))))) else if (tkV B (tkN B (tkN B (tkN B (tkN B (tkN B (tkN B (tkN B (tkN B (tkN B s))))))))) < 0 ∨ 99 < tkV B (tkN B (tkN B (tkN B (tkN B (tkN B (tkN B (tkN B (tkN B (tkN B s)))))))))) then tkS B (tkN B (tkN B (tkN B (tkN B (tkN B (tkN B (tkN B (tkN B (tkN B s))))))))) else if ¬ tkK B (tkN B (tkN B (tkN B (tkN B (tkN B (tkN B (tkN B (tkN B (tkN B (tkN B s)))))))))) = 4 then tkS B (tkN B (tkN B (tkN B (tkN B (tkN B (tkN B (tkN B (tkN B (tkN B (tkN B s)))))))))) else if ¬ tkK B (tkN B (tkN B (tkN B (tkN B (tkN B (tkN B (tkN B (tkN B (tkN B (tkN B (tkN B s))))))))))) = 2 then tkS B (tkN B (tkN B (tkN B (tkN B (tkN B (tkN B (tkN B (tkN B (tkN B (tkN B (tkN B s))))))))))) else if (tkV B (tkN B (tkN B (tkN B (tkN B (tkN B (tkN B (tkN B (tkN B (tkN B (tkN B (tkN B s))))))))))) < 0 ∨ 99 < tkV B (tkN B (tkN B (tkN B (tkN B (tkN B (tkN B (tkN B (tkN B (tkN B (tkN B (tkN B s)))))))))))) then tkS B (tkN B (tkN B (tkN B (tkN B (tkN B (tkN B (tkN B (tkN B (tkN B (tkN B (tkN B s))))))))))) else if ¬ tkK B (tkN B (tkN B (tkN B (tkN B (tkN B (tkN B (tkN B (tkN B (tkN B (tkN B (tkN B (tkN B s)))))))))))) = 4 then tkS B (tkN B (tkN B (tkN B (tkN B (tkN B (tkN B (tkN B (tkN B (tkN B (tkN B (tkN B (tkN B s)))))))))))) else if ¬ tkK B (tkN B (tkN B (tkN B (tkN B (tkN B (tkN B (tkN B (tkN B (tkN B (tkN B (tkN B (tkN B (tkN B s))))))))))))) = 2 then tkS B (tkN B (tkN B (tkN B (tkN B (tkN B (tkN B (tkN B (tkN B (tkN B (tkN B (tkN B (tkN B (tkN B s))))))))))))) else if (tkV B (tkN B (tkN B (tkN B (tkN B (tkN B (tkN B (tkN B (tkN B (tkN B (tkN B (tkN B (tkN B (tkN B s))))))))))))) < 0 ∨ 99 < tkV B (tkN B (tkN B (tkN B (tkN B (tkN B (tkN B (tkN B (tkN B (tkN B (tkN B (tkN B (tkN B (tkN B s)))))))))))))) then tkS B (tkN B (tkN B (tkN B (tkN B (tkN B (tkN B (tkN B (tkN B (tkN B (tkN B (tkN B (tkN B (tkN B s))))))))))))) else 0) := rfl
theorem chF_ch (B : cz_B) (Q : Nat → Int) (s : Int) : ChE (chF B Q s) (if ¬ isN B s = 1 then 1 else if ¬ (nmI Q 100 (Q 3) (tkW B s) = -1 ∧ nmI Q 200 (Q 4) (tkW B s) = -1) then 3 else if ¬ (tkK B (tkN B s) = 1 ∧ tkW B (tkN B s) = 8884) then 1 else if ¬ tkK B (tkN B (tkN B s)) = 2 then 1 else if (tkV B (tkN B (tkN B s)) < 0 ∨ Q 1 - 1 < tkV B (tkN B (tkN B s))) then 4 else 0) := rfl
theorem chP_ch (B : cz_B) (Q : Nat → Int) (s : Int) : ChE (chP B Q s) (if ¬ isN B s = 1 then tkS B s else if ¬ (nmI Q 100 (Q 3) (tkW B s) = -1 ∧ nmI Q 200 (Q 4) (tkW B s) = -1) then tkS B s else if ¬ (tkK B (tkN B s) = 1 ∧ tkW B (tkN B s) = 8884) then tkS B (tkN B s) else if ¬ tkK B (tkN B (tkN B s)) = 2 then tkS B (tkN B (tkN B s)) else if (tkV B (tkN B (tkN B s)) < 0 ∨ Q 1 - 1 < tkV B (tkN B (tkN B s))) then tkS B (tkN B (tkN B s)) else 0) := rfl
theorem tuF_ch (B : cz_B) (Q : Nat → Int) (s : Int) : ChE (tuF B Q s) (if ¬ isN B s = 1 then 1 else if ¬ (nmI Q 100 (Q 3) (tkW B s) = -1 ∧ nmI Q 200 (Q 4) (tkW B s) = -1) then 3 else if tkd B (tkN B s) = -1 then 1 else if ¬ (tkK B (tkN B (tkN B s)) = 1 ∧ tkW B (tkN B (tkN B s)) = 215533) then 1 else if ¬ spF B Q (tkN B (tkN B (tkN B s))) = 0 then spF B Q (tkN B (tkN B (tkN B s))) else if ¬ (tkK B (tkN B (tkN B (tkN B (tkN B (tkN B (tkN B s)))))) = 1 ∧ tkW B (tkN B (tkN B (tkN B (tkN B (tkN B (tkN B s)))))) = 8435859) then 1 else if ¬ tkK B (tkN B (tkN B (tkN B (tkN B (tkN B (tkN B (tkN B s))))))) = 2 then 1 else if (tkV B (tkN B (tkN B (tkN B (tkN B (tkN B (tkN B (tkN B s))))))) < 1 ∨ 8 < tkV B (tkN B (tkN B (tkN B (tkN B (tkN B (tkN B (tkN B s)))))))) then 4 else if ¬ (tkK B (tkN B (tkN B (tkN B (tkN B (tkN B (tkN B (tkN B (tkN B s)))))))) = 1 ∧ tkW B (tkN B (tkN B (tkN B (tkN B (tkN B (tkN B (tkN B (tkN B s)))))))) = 21015731) then 1 else if ¬ tkK B (tkN B (tkN B (tkN B (tkN B (tkN B (tkN B (tkN B (tkN B (tkN B s))))))))) = 2 then 1 else if (tkV B (tkN B (tkN B (tkN B (tkN B (tkN B (tkN B (tkN B (tkN B (tkN B s))))))))) < 1 ∨ 20 < tkV B (tkN B (tkN B (tkN B (tkN B (tkN B (tkN B (tkN B (tkN B (tkN B s)))))))))) then 4 else if ¬ (tkK B (tkN B (tkN B (tkN B (tkN B (tkN B (tkN B (tkN B (tkN B (tkN B (tkN B s)))))))))) = 1 ∧ tkW B (tkN B (tkN B (tkN B (tkN B (tkN B (tkN B (tkN B (tkN B (tkN B (tkN B s)))))))))) = 284307) then 1 else huF B Q 901 0 (tkN B (tkN B (tkN B (tkN B (tkN B (tkN B (tkN B (tkN B (tkN B (tkN B (tkN B s)))))))))))) := rfl
theorem tuP_ch (B : cz_B) (Q : Nat → Int) (s : Int) : ChE (tuP B Q s) (if ¬ isN B s = 1 then tkS B s else if ¬ (nmI Q 100 (Q 3) (tkW B s) = -1 ∧ nmI Q 200 (Q 4) (tkW B s) = -1) then tkS B s else if tkd B (tkN B s) = -1 then tkS B (tkN B s) else if ¬ (tkK B (tkN B (tkN B s)) = 1 ∧ tkW B (tkN B (tkN B s)) = 215533) then tkS B (tkN B (tkN B s)) else if ¬ spF B Q (tkN B (tkN B (tkN B s))) = 0 then spP B Q (tkN B (tkN B (tkN B s))) else if ¬ (tkK B (tkN B (tkN B (tkN B (tkN B (tkN B (tkN B s)))))) = 1 ∧ tkW B (tkN B (tkN B (tkN B (tkN B (tkN B (tkN B s)))))) = 8435859) then tkS B (tkN B (tkN B (tkN B (tkN B (tkN B (tkN B s)))))) else if ¬ tkK B (tkN B (tkN B (tkN B (tkN B (tkN B (tkN B (tkN B s))))))) = 2 then tkS B (tkN B (tkN B (tkN B (tkN B (tkN B (tkN B (tkN B s))))))) else if (tkV B (tkN B (tkN B (tkN B (tkN B (tkN B (tkN B (tkN B s))))))) < 1 ∨ 8 < tkV B (tkN B (tkN B (tkN B (tkN B (tkN B (tkN B (tkN B s)))))))) then tkS B (tkN B (tkN B (tkN B (tkN B (tkN B (tkN B (tkN B s))))))) else if ¬ (tkK B (tkN B (tkN B (tkN B (tkN B (tkN B (tkN B (tkN B (tkN B s)))))))) = 1 ∧ tkW B (tkN B (tkN B (tkN B (tkN B (tkN B (tkN B (tkN B (tkN B s)))))))) = 21015731) then tkS B (tkN B (tkN B (tkN B (tkN B (tkN B (tkN B (tkN B (tkN B s)))))))) else if ¬ tkK B (tkN B (tkN B (tkN B (tkN B (tkN B (tkN B (tkN B (tkN B (tkN B s))))))))) = 2 then tkS B (tkN B (tkN B (tkN B (tkN B (tkN B (tkN B (tkN B (tkN B (tkN B s))))))))) else if (tkV B (tkN B (tkN B (tkN B (tkN B (tkN B (tkN B (tkN B (tkN B (tkN B s))))))))) < 1 ∨ 20 < tkV B (tkN B (tkN B (tkN B (tkN B (tkN B (tkN B (tkN B (tkN B (tkN B s)))))))))) then tkS B (tkN B (tkN B (tkN B (tkN B (tkN B (tkN B (tkN B (tkN B (tkN B s))))))))) else if ¬ (tkK B (tkN B (tkN B (tkN B (tkN B (tkN B (tkN B (tkN B (tkN B (tkN B (tkN B s)))))))))) = 1 ∧ tkW B (tkN B (tkN B (tkN B (tkN B (tkN B (tkN B (tkN B (tkN B (tkN B (tkN B s)))))))))) = 284307) then tkS B (tkN B (tkN B (tkN B (tkN B (tkN B (tkN B (tkN B (tkN B (tkN B (tkN B s)))))))))) else huP B Q 901 0 (tkN B (tkN B (tkN B (tkN B (tkN B (tkN B (tkN B (tkN B (tkN B (tkN B (tkN B s)))))))))))) := rfl
theorem caF_ch (B : cz_B) (Q : Nat → Int) (s : Int) : ChE (caF B Q s) (if ¬ isN B s = 1 then 1 else if nmI Q 200 (Q 4) (tkW B s) = -1 then 2 else if ¬ (tkK B (tkN B s) = 1 ∧ tkW B (tkN B s) = 52) then 1 else if ¬ tkK B (tkN B (tkN B s)) = 2 then 1 else if (tkV B (tkN B (tkN B s)) < 0 ∨ Q 0 - 1 < tkV B (tkN B (tkN B s))) then 4 else if ¬ (tkK B (tkN B (tkN B (tkN B s))) = 1 ∧ tkW B (tkN B (tkN B (tkN B s))) = 6642) then 1 else if ¬ tkK B (tkN B (tkN B (tkN B (tkN B s)))) = 2 then 1 else if (tkV B (tkN B (tkN B (tkN B (tkN B s)))) < 1 ∨ 60 < tkV B (tkN B (tkN B (tkN B (tkN B s))))) then 4 else if ¬ (tkK B (tkN B (tkN B (tkN B (tkN B (tkN B s))))) = 1 ∧ tkW B (tkN B (tkN B (tkN B (tkN B (tkN B s))))) = 3657363) then 1 else if ¬ tkK B (tkN B (tkN B (tkN B (tkN B (tkN B (tkN B s)))))) = 2 then 1 else if (tkV B (tkN B (tkN B (tkN B (tkN B (tkN B (tkN B s)))))) < 0 ∨ 99 < tkV B (tkN B (tkN B (tkN B (tkN B (tkN B (tkN B s))))))) then 4 else 0) := rfl
theorem caP_ch (B : cz_B) (Q : Nat → Int) (s : Int) : ChE (caP B Q s) (if ¬ isN B s = 1 then tkS B s else if nmI Q 200 (Q 4) (tkW B s) = -1 then tkS B s else if ¬ (tkK B (tkN B s) = 1 ∧ tkW B (tkN B s) = 52) then tkS B (tkN B s) else if ¬ tkK B (tkN B (tkN B s)) = 2 then tkS B (tkN B (tkN B s)) else if (tkV B (tkN B (tkN B s)) < 0 ∨ Q 0 - 1 < tkV B (tkN B (tkN B s))) then tkS B (tkN B (tkN B s)) else if ¬ (tkK B (tkN B (tkN B (tkN B s))) = 1 ∧ tkW B (tkN B (tkN B (tkN B s))) = 6642) then tkS B (tkN B (tkN B (tkN B s))) else if ¬ tkK B (tkN B (tkN B (tkN B (tkN B s)))) = 2 then tkS B (tkN B (tkN B (tkN B (tkN B s)))) else if (tkV B (tkN B (tkN B (tkN B (tkN B s)))) < 1 ∨ 60 < tkV B (tkN B (tkN B (tkN B (tkN B s))))) then tkS B (tkN B (tkN B (tkN B (tkN B s)))) else if ¬ (tkK B (tkN B (tkN B (tkN B (tkN B (tkN B s))))) = 1 ∧ tkW B (tkN B (tkN B (tkN B (tkN B (tkN B s))))) = 3657363) then tkS B (tkN B (tkN B (tkN B (tkN B (tkN B s))))) else if ¬ tkK B (tkN B (tkN B (tkN B (tkN B (tkN B (tkN B s)))))) = 2 then tkS B (tkN B (tkN B (tkN B (tkN B (tkN B (tkN B s)))))) else if (tkV B (tkN B (tkN B (tkN B (tkN B (tkN B (tkN B s)))))) < 0 ∨ 99 < tkV B (tkN B (tkN B (tkN B (tkN B (tkN B (tkN B s))))))) then tkS B (tkN B (tkN B (tkN B (tkN B (tkN B (tkN B s)))))) else 0) := rfl
def NeI (a b : Int) : Prop := ¬ a = b
def NotW (k w c : Int) : Prop := ¬ (k = 1 ∧ w = c)
theorem srt_0 {B : cz_B} {s : Int} (h1 : tkK B s = 1) (h : tkW B s = 3554980) : srt B s = 0 := by simp [srt, h1, h]
theorem srt_1 {B : cz_B} {s : Int} (h1 : tkK B s = 1) (h : tkW B s = 5482267237) : srt B s = 1 := by simp [srt, h1, h]
theorem srt_2 {B : cz_B} {s : Int} (h1 : tkK B s = 1) (h : tkW B s = 394672) : srt B s = 2 := by simp [srt, h1, h]
theorem srt_3 {B : cz_B} {s : Int} (h1 : tkK B s = 1) (h : tkW B s = 20692226226) : srt B s = 3 := by simp [srt, h1, h]
theorem srt_4 {B : cz_B} {s : Int} (h1 : tkK B s = 1) (h : tkW B s = 81300) : srt B s = 4 := by simp [srt, h1, h]
theorem srt_5 {B : cz_B} {s : Int} (h1 : tkK B s = 1) (h : tkW B s = 109221477) : srt B s = 5 := by simp [srt, h1, h]
theorem srt_6 {B : cz_B} {s : Int} (h1 : tkK B s = 1) (h : tkW B s = 1490073635) : srt B s = 6 := by simp [srt, h1, h]
theorem srt_7 {B : cz_B} {s : Int} (h1 : tkK B s = 1) (h : tkW B s = 693713074) : srt B s = 7 := by simp [srt, h1, h]
theorem srt_8 {B : cz_B} {s : Int} (h1 : tkK B s = 1) (h : tkW B s = 99724) : srt B s = 8 := by simp [srt, h1, h]
theorem srt_9 {B : cz_B} {s : Int} (h1 : tkK B s = 1) (h : tkW B s = 20325477) : srt B s = 9 := by simp [srt, h1, h]
theorem srt_10 {B : cz_B} {s : Int} (h1 : tkK B s = 1) (h : tkW B s = 1424) : srt B s = 10 := by simp [srt, h1, h]
theorem srt_no {B : cz_B} {s : Int} (h0 : NeI (tkW B s) 3554980) (h1 : NeI (tkW B s) 5482267237) (h2 : NeI (tkW B s) 394672) (h3 : NeI (tkW B s) 20692226226) (h4 : NeI (tkW B s) 81300) (h5 : NeI (tkW B s) 109221477) (h6 : NeI (tkW B s) 1490073635) (h7 : NeI (tkW B s) 693713074) (h8 : NeI (tkW B s) 99724) (h9 : NeI (tkW B s) 20325477) (h10 : NeI (tkW B s) 1424) : srt B s = -1 := by
  unfold NeI at *
  simp [srt, h0, h1, h2, h3, h4, h5, h6, h7, h8, h9, h10]
theorem srt_nk {B : cz_B} {s : Int} (h : ¬ tkK B s = 1) : srt B s = -1 := by simp [srt, h]
/-! ===== objects that stay ===== -/
section CzOw
variable {T : Nat → Nat} {cn : Nat} {K N : Nat → Nat} {d : Int} {wi wr : List Nat} {I J J2 : cz_I} {R R2 : cz_R} {r dr : Nat}
/-- of role r none but dr was written -/
def FrO (r dr : Nat) (T : Nat → Nat) (I J : cz_I) : Prop := ∀ a j, T a = r → ¬ a = dr → J a j = I a j
theorem FrO.rf : FrO r dr T I I := fun _ _ _ _ => rfl
theorem FrO.tr (h : FrO r dr T I J) (g : FrO r dr T J J2) : FrO r dr T I J2 := fun a j ta hn => (g a j ta hn).trans (h a j ta hn)
theorem FrO.put {k i q : Nat} (h : FrO r dr T I J) (f : ∀ a j, ¬ (a = k ∧ j = i) → J2 a j = J a j) (hk : T k = q) (hq : ¬ q = r ∨ k = dr) : FrO r dr T I J2 := fun a j ta hn => (f a j (fun z => by
  rcases hq with h1 | h1
  · exact h1 (by rw [← hk, ← z.1]; exact ta)
  · exact hn (z.1.trans h1))).trans (h a j ta hn)
theorem FrO.st (h : FrO r dr T I J) (g : St T cn K N d wi wr J R J2 R2) (hw : wi.all (fun c => !(Nat.beq (c / 64) r)) = true) : FrO r dr T I J2 := fun a j ta hn => (g.2.1 a j (by rw [ta]; exact wm_no hw)).trans (h a j ta hn)
/-- nothing was done, of the reference -/
def SmM (T : Nat → Nat) (I I' : cz_I) (m : Nat) : Prop := I' m 19 = I m 19 ∧ I' m 20 = I m 20 ∧ ∀ a j, T a = 77 ∨ T a = 78 ∨ T a = 79 → I' a j = I a j
end CzOw
