section CzTb2
variable {T : Nat → Nat} {cn : Nat} {K N : Nat → Nat} {d d1 : Int} {I J J2 I9 : cz_I} {R R' R1 R2 : cz_R} {al b V ob k i q r : Nat} {E E' : Nat → Nat → Int} {c c' Q : Nat → Int} {W W' : Nat → Prop} {B : cz_B} {s : Int} {wi wr : List Nat}
/-! what each sort of LINE does to the tables -/
theorem lnE_5 (hs : srt B s = 5) (u j : Nat) : lnE B Q s E u j = if u = 35 ∧ j = (Q 3).toNat then tkV B (tkN B (tkN B (tkN B s))) else if u = 37 ∧ j = (Q 3).toNat then dnD B (tkN B s) else E u j := by unfold lnE; rw [if_pos hs]
theorem lnE_6 (hs : srt B s = 6) (u j : Nat) : lnE B Q s E u j = if u = 29 ∧ j = 0 then riC B 8 (tkN B s) else if u = 34 then tkV B (it2 B j (tkN B s)) else E u j := by unfold lnE; rw [if_neg (by exact om_a397193d hs), if_pos hs]
theorem lnE_7 (hs : srt B s = 7) (u j : Nat) : lnE B Q s E u j = if u = 14 + (Q 4).toNat then tuD B (tkN B s) j else E u j := by unfold lnE; rw [if_neg (by exact om_f4b9bbcf hs), if_neg (by exact om_9efd187e hs), if_pos hs]
theorem lnE_8 (hs : srt B s = 8) (u j : Nat) : lnE B Q s E u j = if u = 19 + (Q 5).toNat then caD B Q (tkN B s) j else E u j := by unfold lnE; rw [if_neg (by exact om_64894a24 hs), if_neg (by exact om_004c4fa9 hs), if_neg (by exact om_3492dc36 hs), if_pos hs]
theorem lnE_9 (hs : srt B s = 9) (u j : Nat) : lnE B Q s E u j = if u = 25 + (Q 6).toNat ∧ j = 0 then riC B 8 (tkN B s) else if u = 30 + (Q 6).toNat then tkV B (it2 B j (tkN B s)) else E u j := by unfold lnE; rw [if_neg (by exact om_dfad54ab hs), if_neg (by exact om_69bc2deb hs), if_neg (by exact om_33c1ecb5 hs), if_neg (by exact om_4df0f2b9 hs), if_pos hs]
theorem lnE_10 (hs : srt B s = 10) (u j : Nat) : lnE B Q s E u j = if u = 36 then tkV B (it2 B j (tkN B (tkN B (tkN B (tkN B (tkN B (tkN B s))))))) else E u j := by unfold lnE; rw [if_neg (by exact om_a1298bba hs), if_neg (by exact om_c27ffd82 hs), if_neg (by exact om_c1f188f9 hs), if_neg (by exact om_ba043e4c hs), if_neg (by exact om_78d4411a hs), if_pos hs]
theorem lnE_e (hs : srt B s ≤ 4) (u j : Nat) : lnE B Q s E u j = if u = (Q 2).toNat then evD B (srt B s) (tkN B s) j else E u j := by unfold lnE; rw [if_neg (by exact om_80dfabd4 hs), if_neg (by exact om_dcc1d251 hs), if_neg (by exact om_09711a37 hs), if_neg (by exact om_82e665e0 hs), if_neg (by exact om_b4e9b69a hs), if_neg (by exact om_816f3caf hs)]
theorem Db_e (h0 : 0 ≤ srt B s) (hs : srt B s ≤ 4) (hq : 0 ≤ Q 2) (hq2 : Q 2 ≤ 13) {u : Nat} (hu : ¬ u = (Q 2).toNat) : Db (lnQ B Q s) (lnE B Q s E) u = Db Q E u := by
  obtain ⟨-, -, -, q0, -, q2, q3, q4, q5, q6, -, -⟩ := lnl_e (B := B) (Q := Q) (s := s) h0 hs
  have e2 : lnE B Q s E 29 0 = E 29 0 := by rw [lnE_e hs, if_neg (by exact om_067b80e4 hq hq2 q2)]
  unfold Db; rw [q0, q2, q3, q4, q5, q6, e2]
  by_cases c5 : 29 < u ∧ u < 34
  · rw [lnE_e hs (u - 5) 0, if_neg (by exact om_3d0f654c c5.2 c5.1)]; repeat' (first | with_reducible rfl | exact om_30a0f1da hq hq2 q2 c5.2 c5.1 | split)
  · repeat' (first | with_reducible rfl | exact om_cf7b5fc0 hq hq2 hu q2 c5 | split)
theorem Db_5 (hs : srt B s = 5) {u : Nat} (hu : ¬ u = 35) : Db (lnQ B Q s) (lnE B Q s E) u = Db Q E u := by
  obtain ⟨-, -, -, q0, -, q2, q3, q4, q5, q6, -, -⟩ := lnl_5 (B := B) (Q := Q) (s := s) hs
  have e2 : lnE B Q s E 29 0 = E 29 0 := by rw [lnE_5 hs, if_neg (by exact om_a15f76e5), if_neg (by exact om_016850f9)]
  unfold Db; rw [q0, q2, q4, q5, q6, e2]
  by_cases c5 : 29 < u ∧ u < 34
  · rw [lnE_5 hs (u - 5) 0, if_neg (by exact om_3d0f654c c5.2 c5.1), if_neg (by exact om_77bc7eab c5.2 c5.1)]; repeat' (first | with_reducible rfl | exact om_ed476511 c5.2 c5.1 | split)
  · repeat' (first | with_reducible rfl | exact om_f54b1100 hu q3 c5 | split)
theorem Db_6 (hs : srt B s = 6) {u : Nat} (hu : ¬ (u = 29 ∨ u = 34)) : Db (lnQ B Q s) (lnE B Q s E) u = Db Q E u := by
  obtain ⟨-, -, -, q0, -, q2, q3, q4, q5, q6, -, -⟩ := lnl_6 (B := B) (Q := Q) (s := s) hs
  unfold Db; rw [q0, q2, q3, q4, q5, q6]
  by_cases c5 : 29 < u ∧ u < 34
  · rw [lnE_6 hs (u - 5) 0, if_neg (by exact om_3d0f654c c5.2 c5.1), if_neg (by exact om_77bc7eab c5.2 c5.1)]; repeat' (first | with_reducible rfl | exact om_86397f91 c5.2 c5.1 | split)
  · repeat' (first | with_reducible rfl | exact om_b53d60e6 hu c5 | split)
theorem Db_7 (hs : srt B s = 7) (hq : 0 ≤ Q 4) (hq2 : Q 4 ≤ 4) {u : Nat} (hu : ¬ u = 14 + (Q 4).toNat) : Db (lnQ B Q s) (lnE B Q s E) u = Db Q E u := by
  obtain ⟨-, -, -, q0, -, q2, q3, q4, q5, q6, -, -⟩ := lnl_7 (B := B) (Q := Q) (s := s) hs
  have e2 : lnE B Q s E 29 0 = E 29 0 := by rw [lnE_7 hs, if_neg (by exact om_03e54523 hq hq2 q4)]
  unfold Db; rw [q0, q2, q3, q4, q5, q6, e2]
  by_cases c5 : 29 < u ∧ u < 34
  · rw [lnE_7 hs (u - 5) 0, if_neg (by exact om_3d0f654c c5.2 c5.1)]; repeat' (first | with_reducible rfl | exact om_bb7486fb hq hq2 q4 c5.2 c5.1 | split)
  · repeat' (first | with_reducible rfl | exact om_8ce9d67b hu q4 c5 | split)
theorem Db_8 (hs : srt B s = 8) (hq : 0 ≤ Q 5) (hq2 : Q 5 ≤ 5) {u : Nat} (hu : ¬ u = 19 + (Q 5).toNat) : Db (lnQ B Q s) (lnE B Q s E) u = Db Q E u := by
  obtain ⟨-, -, -, q0, -, q2, q3, q4, q5, q6, -, -⟩ := lnl_8 (B := B) (Q := Q) (s := s) hs
  have e2 : lnE B Q s E 29 0 = E 29 0 := by rw [lnE_8 hs, if_neg (by exact om_70c8f383 hq hq2 q5)]
  unfold Db; rw [q0, q2, q3, q4, q5, q6, e2]
  by_cases c5 : 29 < u ∧ u < 34
  · rw [lnE_8 hs (u - 5) 0, if_neg (by exact om_3d0f654c c5.2 c5.1)]; repeat' (first | with_reducible rfl | exact om_b195a7c2 hq hq2 q5 c5.2 c5.1 | split)
  · repeat' (first | with_reducible rfl | exact om_d22513ea hq hq2 hu q5 c5 | split)
theorem Db_9 (hs : srt B s = 9) (hq : 0 ≤ Q 6) (hq2 : Q 6 ≤ 3) {u : Nat} (hu : ¬ (u = 25 + (Q 6).toNat ∨ u = 30 + (Q 6).toNat)) : Db (lnQ B Q s) (lnE B Q s E) u = Db Q E u := by
  obtain ⟨-, -, -, q0, -, q2, q3, q4, q5, q6, -, -⟩ := lnl_9 (B := B) (Q := Q) (s := s) hs
  have e2 : lnE B Q s E 29 0 = E 29 0 := by rw [lnE_9 hs, if_neg (by exact om_5f8e450a hq hq2 q6), if_neg (by exact om_ee2ffd96 hq hq2 q6)]
  unfold Db; rw [q0, q2, q3, q4, q5, q6, e2]
  by_cases c5 : 29 < u ∧ u < 34
  · rw [lnE_9 hs (u - 5) 0, if_neg (by exact om_3d0f654c c5.2 c5.1), if_neg (by exact om_77bc7eab c5.2 c5.1)]; repeat' (first | with_reducible rfl | exact om_13af20f7 hq hq2 hu q6 c5.2 c5.1 | split)
  · repeat' (first | with_reducible rfl | exact om_ca07ce42 hu q6 c5 | split)
theorem Db_10 (hs : srt B s = 10) {u : Nat} (hu : ¬ u = 36) : Db (lnQ B Q s) (lnE B Q s E) u = Db Q E u := by
  obtain ⟨-, -, -, -, -, q2, q3, q4, q5, q6, -, -⟩ := lnl_10 (B := B) (Q := Q) (s := s) hs
  have e2 : lnE B Q s E 29 0 = E 29 0 := by rw [lnE_10 hs, if_neg (by exact om_3302286d)]
  unfold Db; rw [q2, q3, q4, q5, q6, e2]
  by_cases c5 : 29 < u ∧ u < 34
  · rw [lnE_10 hs (u - 5) 0, if_neg (by exact om_3d0f654c c5.2 c5.1)]; repeat' (first | with_reducible rfl | exact om_4896ff3e c5.2 c5.1 | split)
  · repeat' (first | with_reducible rfl | exact om_85422519 hu c5 | split)
theorem AlC.ev (h : AlC I R al Q E) (hT : AlT R al) (hW : Wf T cn K N I9 R d) (ta : T al = 2) (h0 : 0 ≤ srt B s) (hs : srt B s ≤ 4) (hq : 0 ≤ Q 2) (hq2 : Q 2 ≤ 13) (fr : FrK R al (fun u => u = (Q 2).toNat) T I J) (v : ∀ ob, Ob R al (Q 2).toNat = some ob → ∀ f, f < 4 → (J ob f).toInt = evD B (srt B s) (tkN B s) f) (e7 : (J al 7).toInt = lnQ B Q s 9) : AlC J R al (lnQ B Q s) (lnE B Q s E) := by
  refine AlC.ln h hT hW ta fr e7 (fun u hu hw => ⟨Db_e h0 hs hq hq2 hw, fun j => by rw [lnE_e hs]; exact if_neg hw⟩) (fun u j a hw hu hd ho => ?_)
  have hw : u = (Q 2).toNat := hw
  subst hw
  rw [lnE_e hs, if_pos rfl]
  refine v a ho j ?_
  unfold Db at hd; rw [if_pos (by exact om_6c8ff997 hq hq2 hu hd)] at hd; split at hd <;> omega
theorem AlC.tu (h : AlC I R al Q E) (hT : AlT R al) (hW : Wf T cn K N I9 R d) (ta : T al = 2) (hs : srt B s = 7) (hq : 0 ≤ Q 4) (hq2 : Q 4 ≤ 4) (fr : FrK R al (fun u => u = 14 + (Q 4).toNat) T I J) (v : ∀ ob, Ob R al (14 + (Q 4).toNat) = some ob → ∀ f, f < 6 → (J ob f).toInt = tuD B (tkN B s) f) (e7 : (J al 7).toInt = lnQ B Q s 9) : AlC J R al (lnQ B Q s) (lnE B Q s E) := by
  refine AlC.ln h hT hW ta fr e7 (fun u hu hw => ⟨Db_7 hs hq hq2 hw, fun j => by rw [lnE_7 hs]; exact if_neg hw⟩) (fun u j a hw hu hd ho => ?_)
  have hw : u = 14 + (Q 4).toNat := hw
  subst hw
  rw [lnE_7 hs, if_pos rfl]
  refine v a ho j ?_
  unfold Db at hd; rw [if_neg (by exact om_31a6ab43 hq hq2 hd), if_pos (by exact om_1eb567a9 hq hq2 hu hd)] at hd; split at hd <;> omega
theorem AlC.ca (h : AlC I R al Q E) (hT : AlT R al) (hW : Wf T cn K N I9 R d) (ta : T al = 2) (hs : srt B s = 8) (hq : 0 ≤ Q 5) (hq2 : Q 5 ≤ 5) (fr : FrK R al (fun u => u = 19 + (Q 5).toNat) T I J) (v : ∀ ob, Ob R al (19 + (Q 5).toNat) = some ob → ∀ f, f < 4 → (J ob f).toInt = caD B Q (tkN B s) f) (e7 : (J al 7).toInt = lnQ B Q s 9) : AlC J R al (lnQ B Q s) (lnE B Q s E) := by
  refine AlC.ln h hT hW ta fr e7 (fun u hu hw => ⟨Db_8 hs hq hq2 hw, fun j => by rw [lnE_8 hs]; exact if_neg hw⟩) (fun u j a hw hu hd ho => ?_)
  have hw : u = 19 + (Q 5).toNat := hw
  subst hw
  rw [lnE_8 hs, if_pos rfl]
  refine v a ho j ?_
  unfold Db at hd; rw [if_neg (by exact om_a030b5b4 hq hq2 hd), if_neg (by exact om_8edb9413 hq hq2 hd), if_pos (by exact om_e8ebb153 hq hq2 hu hd)] at hd; split at hd <;> omega
theorem AlC.ch (h : AlC I R al Q E) (hT : AlT R al) (hW : Wf T cn K N I9 R d) (ta : T al = 2) (hs : srt B s = 5) (hq : 0 ≤ Q 3) (fr : FrK R al (fun u => u = 35) T I J) (v : ∀ t, R al 6 = some t → (J t (Q 3).toNat).toInt = tkV B (tkN B (tkN B (tkN B s))) ∧ ∀ j, ¬ j = (Q 3).toNat → J t j = I t j) (e7 : (J al 7).toInt = lnQ B Q s 9) : AlC J R al (lnQ B Q s) (lnE B Q s E) := by
  refine AlC.ln h hT hW ta fr e7 (fun u hu hw => ⟨Db_5 hs hw, fun j => by rw [lnE_5 hs, if_neg (fun z => hw z.1), if_neg (by exact om_d9348ffb hu)]⟩) (fun u j a hw hu hd ho => ?_)
  have hw : u = 35 := hw
  subst hw
  obtain ⟨t, ht, -⟩ := rf2_6 hW ta
  have e := (ObH ht).symm.trans ho
  cases e
  obtain ⟨v1, v2⟩ := v _ ht
  rw [lnE_5 hs]
  by_cases z : j = (Q 3).toNat
  · rw [if_pos ⟨rfl, z⟩, z]; exact v1
  · rw [if_neg (fun y => z y.2), if_neg (fun y => z y.2), v2 j z]
    refine h.2 35 j _ hu ?_ ho
    have q3 : lnQ B Q s 3 = Q 3 + 1 := (lnl_5 (B := B) (Q := Q) (s := s) hs).2.2.2.2.2.2.1
    have hd : (j : Int) < lnQ B Q s 3 := hd
    show (j : Int) < Q 3
    exact om_73db9375 hq z q3 hd
theorem AlC.mn {u1 u2 : Nat} (h : AlC I R al Q E) (hT : AlT R al) (hW : Wf T cn K N I9 R d) (ta : T al = 2) (hu1 : u2 = u1 + 5) (h25 : 25 ≤ u1 ∧ u1 ≤ 29) (hE : ∀ u j, lnE B Q s E u j = if u = u1 ∧ j = 0 then riC B 8 (tkN B s) else if u = u2 then tkV B (it2 B j (tkN B s)) else E u j) (hD : ∀ u, ¬ (u = u1 ∨ u = u2) → Db (lnQ B Q s) (lnE B Q s E) u = Db Q E u) (hD1 : Db (lnQ B Q s) (lnE B Q s E) u1 = 1) (hD2 : Db (lnQ B Q s) (lnE B Q s E) u2 = riC B 8 (tkN B s)) (fr : FrK R al (fun u => u = u1 ∨ u = u2) T I J) (v : ∃ o, Ob R al u1 = some o ∧ (J o 0).toInt = riC B 8 (tkN B s) ∧ ∃ t, Ob R al u2 = some t ∧ ∀ k : Nat, (k : Int) < riC B 8 (tkN B s) → (J t k).toInt = tkV B (it2 B k (tkN B s))) (e7 : (J al 7).toInt = lnQ B Q s 9) : AlC J R al (lnQ B Q s) (lnE B Q s E) := by
  refine AlC.ln h hT hW ta fr e7 (fun u hu hw => ⟨hD u hw, fun j => by rw [hE, if_neg (fun z => hw (Or.inl z.1)), if_neg (fun z => hw (Or.inr z))]⟩) (fun u j a hw hu hd ho => ?_)
  obtain ⟨o, ho1, vo, t, ht, vt⟩ := v
  rcases hw with hw | hw
  · subst hw
    rw [hD1] at hd
    obtain rfl : j = 0 := by exact om_512deefc hd
    cases ho1.symm.trans ho
    rw [hE, if_pos ⟨rfl, rfl⟩]; exact vo
  · subst hw
    rw [hD2] at hd
    cases ht.symm.trans ho
    rw [hE, if_neg (by exact om_abf2ff07 hu1), if_pos rfl]; exact vt j hd
theorem AlC.am (h : AlC I R al Q E) (hT : AlT R al) (hW : Wf T cn K N I9 R d) (ta : T al = 2) (hs : srt B s = 6) (fr : FrK R al (fun u => u = 29 ∨ u = 34) T I J) (v : ∀ o, R al 8 = some o → (J o 0).toInt = riC B 8 (tkN B s) ∧ ∀ t, R o 1 = some t → ∀ k : Nat, (k : Int) < riC B 8 (tkN B s) → (J t k).toInt = tkV B (it2 B k (tkN B s))) (e7 : (J al 7).toInt = lnQ B Q s 9) : AlC J R al (lnQ B Q s) (lnE B Q s E) := by
  obtain ⟨o, ho, to⟩ := rf2_8 hW ta
  obtain ⟨t, ht, -⟩ := rf6_1 hW to
  exact AlC.mn (u1 := 29) (u2 := 34) h hT hW ta rfl (by exact om_d8583992) (lnE_6 hs) (fun u hu => Db_6 hs hu) rfl (by show lnE B Q s E 29 0 = _; rw [lnE_6 hs, if_pos ⟨rfl, rfl⟩]) fr ⟨o, ObA ho, (v o ho).1, t, ObAa ho ht, (v o ho).2 t ht⟩ e7
theorem AlC.sl (h : AlC I R al Q E) (hT : AlT R al) (hW : Wf T cn K N I9 R d) (ta : T al = 2) (hs : srt B s = 9) (hq : 0 ≤ Q 6) (hq2 : Q 6 ≤ 3) (fr : FrK R al (fun u => u = 25 + (Q 6).toNat ∨ u = 30 + (Q 6).toNat) T I J) (v : ∀ V o, R al 14 = some V → R V (Q 6).toNat = some o → (J o 0).toInt = riC B 8 (tkN B s) ∧ ∀ t, R o 1 = some t → ∀ k : Nat, (k : Int) < riC B 8 (tkN B s) → (J t k).toInt = tkV B (it2 B k (tkN B s))) (e7 : (J al 7).toInt = lnQ B Q s 9) : AlC J R al (lnQ B Q s) (lnE B Q s E) := by
  obtain ⟨V, hV, tV⟩ := rf2_14 hW ta
  obtain ⟨o, ho, to⟩ := rf23 hW tV (j := (Q 6).toNat) (by exact om_e7a727c1 hq hq2)
  obtain ⟨t, ht, -⟩ := rf6_1 hW to
  have q6 : lnQ B Q s 6 = Q 6 + 1 := (lnl_9 (B := B) (Q := Q) (s := s) hs).2.2.2.2.2.2.2.2.2.1
  refine AlC.mn (u1 := 25 + (Q 6).toNat) (u2 := 30 + (Q 6).toNat) h hT hW ta (by exact om_6d9e06d5) (by exact om_b7075a16 hq hq2 q6) (lnE_9 hs) (fun u hu => Db_9 hs hq hq2 hu) ?_ ?_ fr ⟨o, ObS hV (by exact om_60dad7d7 hq hq2 q6) ho, (v V o hV ho).1, t, ObSa hV (by exact om_60dad7d7 hq hq2 q6) ho ht, (v V o hV ho).2 t ht⟩ e7
  · unfold Db; rw [if_neg (by exact om_b9f94510 hq hq2 q6), if_neg (by exact om_0d049ee2 hq hq2 q6), if_neg (by exact om_f79f7d86 hq hq2 q6), if_pos (by exact om_7ebea5ab hq hq2 q6), if_pos (by exact om_abe40ee3 hq hq2 q6)]
  · unfold Db; rw [if_neg (by exact om_1b797a93 hq hq2 q6), if_neg (by exact om_03da9270 hq hq2 q6), if_neg (by exact om_eda7259b hq hq2 q6), if_neg (by exact om_806c3927 hq hq2 q6), if_neg (by exact om_82041738 hq hq2 q6), if_pos (by exact om_67deae43 hq hq2 q6), if_pos (by exact om_e2922813 hq hq2 q6), lnE_9 hs, if_pos ⟨by exact om_433dfa72 hq hq2 q6, rfl⟩]
theorem AlC.ap (h : AlC I R al Q E) (hT : AlT R al) (hW : Wf T cn K N I9 R d) (ta : T al = 2) (hs : srt B s = 10) (fr : FrK R al (fun u => u = 36) T I J) (v : ∀ t, R al 2 = some t → ∀ j, j < 5 → (J t j).toInt = tkV B (it2 B j (tkN B (tkN B (tkN B (tkN B (tkN B (tkN B s)))))))) (e7 : (J al 7).toInt = lnQ B Q s 9) : AlC J R al (lnQ B Q s) (lnE B Q s E) := by
  refine AlC.ln h hT hW ta fr e7 (fun u hu hw => ⟨Db_10 hs hw, fun j => by rw [lnE_10 hs]; exact if_neg hw⟩) (fun u j a hw hu hd ho => ?_)
  have hw : u = 36 := hw
  subst hw
  obtain ⟨t, ht, -⟩ := rf2_2 hW ta
  have e := (ObP ht).symm.trans ho
  cases e
  rw [lnE_10 hs, if_pos rfl]
  refine v _ ht j ?_
  have hd : (j : Int) < (if 1 ≤ lnQ B Q s 0 then 5 else 0) := hd
  split at hd <;> omega
end CzTb2
/-! ===== tables of an ALP, in the reference's rows ===== -/
section CzTm
variable {T : Nat → Nat} {cn : Nat} {K N : Nat → Nat} {d d1 : Int} {I J J2 I9 : cz_I} {R R' R1 R2 : cz_R} {b k i q r : Nat} {E E' : Nat → Nat → Int} {c c' Q : Nat → Int} {B : cz_B} {s : Int} {wi wr : List Nat} {ex : Nat → Bool}
/-- the row and the place in it of an ALP's cell -/
def mrs (u j : Nat) : Nat := if u < 14 then 11 + j else if u < 19 then 20 + j else if u < 25 then 26 + j else if u < 29 then 17 else if u < 34 then 18 else if u = 34 then 16 else if u = 35 then 15 else if u = 36 then 10 else 19
def mri (u j : Nat) : Nat := if u < 14 then u else if u < 19 then u - 14 else if u < 25 then u - 19 else if u < 29 then u - 25 else if u < 34 then 8 * (u - 30) + j else j
def Dbm (c : Nat → Int) (E : Nat → Nat → Int) (u : Nat) : Int := if u = 29 then 0 else if u = 37 then c 3 else Db c E u
def AlM (I : cz_I) (R : cz_R) (b : Nat) (c : Nat → Int) (E : Nat → Nat → Int) : Prop := (I b 8).toInt = E 29 0 ∧ ∀ (u j a : Nat), u < 38 → (j : Int) < Dbm c E u → R b (mrs u j) = some a → (I a (mri u j)).toInt = E u j
theorem Db_b {u j : Nat} (h : (j : Int) < Db c E u) : (u < 14 → j < 4) ∧ (14 ≤ u → u < 19 → j < 6) ∧ (19 ≤ u → u < 25 → j < 4) ∧ (25 ≤ u → u < 30 → j < 1) ∧ u < 37 ∧ (u = 36 → j < 5) := by
  unfold Db at h
  refine ⟨fun a => ?_, fun a b => ?_, fun a b => ?_, fun a b => ?_, ?_, fun a => ?_⟩
  · rw [if_pos a] at h; split at h <;> omega
  · rw [if_neg (by exact om_fa25706d a b), if_pos b] at h; split at h <;> omega
  · rw [if_neg (by exact om_b06d23a1 a b), if_neg (by exact om_37684e4a a b), if_pos b] at h; split at h <;> omega
  · by_cases c : u = 29
    · rw [if_neg (by exact om_d43e5a09 c), if_neg (by exact om_52a59284 c), if_neg (by exact om_f51fa93b c), if_neg (by exact om_b2494a0b c), if_pos c] at h; exact om_0f9498c8 h
    · rw [if_neg (by exact om_c026cee2 a b), if_neg (by exact om_50b27a64 a b), if_neg (by exact om_37385b99 a b), if_pos (by exact om_00abcb24 a b c)] at h; split at h <;> omega
  · apply Classical.byContradiction
    intro z
    rw [if_neg (by exact om_b5ee4637 z), if_neg (by exact om_76abb62f z), if_neg (by exact om_e7cc6aa9 z), if_neg (by exact om_bd716d85 z), if_neg (by exact om_64bfe92e z), if_neg (by exact om_72112ab3 z), if_neg (by exact om_3b0ec42e z), if_neg (by exact om_61111e6d z), if_neg (by exact om_e294dd5c z)] at h; exact om_e81c64d3 h
  · rw [if_neg (by exact om_5f0553a7 a), if_neg (by exact om_891ea7d8 a), if_neg (by exact om_c36c3d99 a), if_neg (by exact om_1d3e3072 a), if_neg (by exact om_c8ea5bab a), if_neg (by exact om_396b3f72 a), if_neg (by exact om_3d5a7e5a a), if_neg (by exact om_f7a3b449 a), if_pos a] at h; split at h <;> omega
theorem mrs_b {u j : Nat} (h : (j : Int) < Dbm c E u) (hu : u < 38) : (u < 14 ∧ 11 ≤ mrs u j ∧ mrs u j ≤ 14 ∧ mri u j = u) ∨ (14 ≤ u ∧ u < 19 ∧ mrs u j = 20 + j ∧ j < 6 ∧ mri u j = u - 14) ∨ (19 ≤ u ∧ u < 25 ∧ mrs u j = 26 + j ∧ j < 4 ∧ mri u j = u - 19) ∨ (25 ≤ u ∧ u < 29 ∧ mrs u j = 17 ∧ j = 0 ∧ mri u j = u - 25) ∨ (30 ≤ u ∧ u < 34 ∧ mrs u j = 18 ∧ mri u j = 8 * (u - 30) + j) ∨ (u = 34 ∧ mrs u j = 16 ∧ mri u j = j) ∨ (u = 35 ∧ mrs u j = 15 ∧ mri u j = j) ∨ (u = 36 ∧ mrs u j = 10 ∧ mri u j = j ∧ j < 5) ∨ (u = 37 ∧ mrs u j = 19 ∧ mri u j = j) := by
  have h29 : ¬ u = 29 := fun z => by subst z; have h : (j : Int) < 0 := h; exact om_e81c64d3 h
  by_cases h37 : u = 37
  · subst h37; exact Or.inr (Or.inr (Or.inr (Or.inr (Or.inr (Or.inr (Or.inr (Or.inr ⟨rfl, rfl, rfl⟩)))))))
  · have h2 : (j : Int) < Db c E u := by unfold Dbm at h; rw [if_neg h29, if_neg h37] at h; exact h
    obtain ⟨b1, b2, b3, b4, b5, b6⟩ := Db_b h2
    by_cases c1 : u < 14
    · have m1 : mrs u j = 11 + j := by unfold mrs; rw [if_pos c1]
      have m2 : mri u j = u := by unfold mri; rw [if_pos c1]
      exact Or.inl ⟨c1, by exact om_87dafda7 m1, by have := b1 c1; exact om_3d6c6a88 m1 this, m2⟩
    by_cases c2 : u < 19
    · have m1 : mrs u j = 20 + j := by unfold mrs; rw [if_neg c1, if_pos c2]
      have m2 : mri u j = u - 14 := by unfold mri; rw [if_neg c1, if_pos c2]
      exact Or.inr (Or.inl ⟨by exact om_f2f1bfe8 hu b5 c1 c2, c2, m1, b2 (by exact om_f2f1bfe8 hu b5 c1 c2) c2, m2⟩)
    by_cases c3 : u < 25
    · have m1 : mrs u j = 26 + j := by unfold mrs; rw [if_neg c1, if_neg c2, if_pos c3]
      have m2 : mri u j = u - 19 := by unfold mri; rw [if_neg c1, if_neg c2, if_pos c3]
      exact Or.inr (Or.inr (Or.inl ⟨by exact om_d2e2d99b hu b5 c1 c2 c3, c3, m1, b3 (by exact om_d2e2d99b hu b5 c1 c2 c3) c3, m2⟩))
    by_cases c4 : u < 29
    · have m1 : mrs u j = 17 := by unfold mrs; rw [if_neg c1, if_neg c2, if_neg c3, if_pos c4]
      have m2 : mri u j = u - 25 := by unfold mri; rw [if_neg c1, if_neg c2, if_neg c3, if_pos c4]
      exact Or.inr (Or.inr (Or.inr (Or.inl ⟨by exact om_e225061f hu b5 c1 c2 c3 c4, c4, m1, by have := b4 (by exact om_e225061f hu b5 c1 c2 c3 c4) (by exact om_1fb12230 hu b5 c1 c2 c3 c4); exact om_58f633d6 this, m2⟩)))
    by_cases c5 : u < 34
    · have m1 : mrs u j = 18 := by unfold mrs; rw [if_neg c1, if_neg c2, if_neg c3, if_neg c4, if_pos c5]
      have m2 : mri u j = 8 * (u - 30) + j := by unfold mri; rw [if_neg c1, if_neg c2, if_neg c3, if_neg c4, if_pos c5]
      exact Or.inr (Or.inr (Or.inr (Or.inr (Or.inl ⟨by exact om_0e50cdcc hu h29 h37 b1 b2 b3 b4 b5 b6 c1 c2 c3 c4 c5, c5, m1, m2⟩))))
    by_cases c6 : u = 34
    · have m1 : mrs u j = 16 := by unfold mrs; rw [if_neg c1, if_neg c2, if_neg c3, if_neg c4, if_neg c5, if_pos c6]
      have m2 : mri u j = j := by unfold mri; rw [if_neg c1, if_neg c2, if_neg c3, if_neg c4, if_neg c5]
      exact Or.inr (Or.inr (Or.inr (Or.inr (Or.inr (Or.inl ⟨c6, m1, m2⟩)))))
    by_cases c7 : u = 35
    · have m1 : mrs u j = 15 := by unfold mrs; rw [if_neg c1, if_neg c2, if_neg c3, if_neg c4, if_neg c5, if_neg c6, if_pos c7]
      have m2 : mri u j = j := by unfold mri; rw [if_neg c1, if_neg c2, if_neg c3, if_neg c4, if_neg c5]
      exact Or.inr (Or.inr (Or.inr (Or.inr (Or.inr (Or.inr (Or.inl ⟨c7, m1, m2⟩))))))
    have c8 : u = 36 := by exact om_cf801a9e hu b5 c1 c2 c3 c4 c5 c6 c7
    have m1 : mrs u j = 10 := by unfold mrs; rw [if_neg c1, if_neg c2, if_neg c3, if_neg c4, if_neg c5, if_neg c6, if_neg c7, if_pos c8]
    have m2 : mri u j = j := by unfold mri; rw [if_neg c1, if_neg c2, if_neg c3, if_neg c4, if_neg c5]
    exact Or.inr (Or.inr (Or.inr (Or.inr (Or.inr (Or.inr (Or.inr (Or.inl ⟨c8, m1, m2, b6 c8⟩)))))))
/-- the role of an ALP's row -/
theorem mrow {s a : Nat} (hW : Wf T cn K N I R d) (tb : T b = 14) (h1 : 10 ≤ s) (h2 : s ≤ 29) (h : R b s = some a) : T a = 43 + s := by
  have hs : s = 10 ∨ s = 11 ∨ s = 12 ∨ s = 13 ∨ s = 14 ∨ s = 15 ∨ s = 16 ∨ s = 17 ∨ s = 18 ∨ s = 19 ∨ s = 20 ∨ s = 21 ∨ s = 22 ∨ s = 23 ∨ s = 24 ∨ s = 25 ∨ s = 26 ∨ s = 27 ∨ s = 28 ∨ s = 29 := by exact om_4c21820e h1 h2
  rcases hs with rfl | rfl | rfl | rfl | rfl | rfl | rfl | rfl | rfl | rfl | rfl | rfl | rfl | rfl | rfl | rfl | rfl | rfl | rfl | rfl <;> exact hW.rs tb rfl rfl h
theorem rdm_43 {s : Nat} (h1 : 10 ≤ s) (h2 : s ≤ 29) : rdm (43 + s) = true := by
  unfold rdm; rw [Nat.ble_eq.mpr (show 53 ≤ 43 + s by exact om_4f55de2a h1 h2), Nat.ble_eq.mpr (show 43 + s ≤ 72 by exact om_888438ef h1 h2)]; rfl
/-- a cell of an ALP's rows whose role nobody wrote -/
theorem AlM.cell {u j a : Nat} (h : AlM I R b c E) (hW : Wf T cn K N I9 R d) (tb : T b = 14) (hu : u < 38) (hd : (j : Int) < Dbm c E u) (ha : R b (mrs u j) = some a) (e : ∀ r, T a = r → r = 43 + mrs u j → J a (mri u j) = I a (mri u j)) : (J a (mri u j)).toInt = E u j := by
  have m := mrs_b hd hu
  have t : T a = 43 + mrs u j := mrow hW tb (by exact om_3a806ee6 m) (by exact om_83141ec0 m) ha
  rw [e _ rfl t]; exact h.2 u j a hu hd ha
theorem AlM.kp (h : AlM I R b c E) (hW : Wf T cn K N I9 R d) (tb : T b = 14) (e8 : J b 8 = I b 8) (e : RoF rdm T I J) : AlM J R b c E :=
  ⟨by rw [e8]; exact h.1, fun u j a hu hd ha => h.cell hW tb hu hd ha (fun r t z => e a _ (by rw [t, z]; have m := mrs_b hd hu; exact rdm_43 (by exact om_3a806ee6 m) (by exact om_83141ec0 m)))⟩
theorem AlM.cr (h : AlM I R b c E) (r : ∀ j, R' b j = R b j) : AlM I R' b c E := ⟨h.1, fun u j a hu hd ha => h.2 u j a hu hd ((r _).symm.trans ha)⟩
theorem AlM.no (h : AlM I R b c E) (hc : c' 0 = c 0 ∧ c' 2 = c 2 ∧ c' 3 = c 3 ∧ c' 4 = c 4 ∧ c' 5 = c 5 ∧ c' 6 = c 6) (e : ∀ u j, E' u j = E u j) : AlM I R b c' E' :=
  ⟨by rw [e]; exact h.1, fun u j a hu hd ha => by
    rw [e]; refine h.2 u j a hu ?_ ha
    have z := Db_no hc e u
    unfold Dbm at hd ⊢
    rw [← z, ← hc.2.2.1]; exact hd⟩
/-- a row of which one place was written -/
def Rw1 (I J : cz_I) (a k : Nat) (v : Int) : Prop := (J a k).toInt = v ∧ ∀ j, ¬ j = k → J a j = I a j
/-- of an ALP's rows none but b's were written -/
def FrM (R : cz_R) (b : Nat) (T : Nat → Nat) (I J : cz_I) : Prop := ∀ a j, rdm (T a) = true → (∀ s, 10 ≤ s → s ≤ 29 → ¬ R b s = some a) → J a j = I a j
theorem FrM.rf : FrM R b T I I := fun _ _ _ _ => rfl
theorem FrM.tr (h : FrM R b T I J) (g : FrM R b T J J2) : FrM R b T I J2 := fun a j ta hn => (g a j ta hn).trans (h a j ta hn)
theorem FrM.put (h : FrM R b T I J) (f : ∀ a j, ¬ (a = k ∧ j = i) → J2 a j = J a j) (hk : T k = q) (hq : rdm q = false) : FrM R b T I J2 := fun a j ta hn => (f a j (fun z => by rw [z.1, hk, hq] at ta; cases ta)).trans (h a j ta hn)
theorem FrM.pu {s : Nat} (h : FrM R b T I J) (f : ∀ a j, ¬ (a = k ∧ j = i) → J2 a j = J a j) (h1 : 10 ≤ s) (h2 : s ≤ 29) (ho : R b s = some k) : FrM R b T I J2 := fun a j ta hn => (f a j (fun z => hn s h1 h2 (by rw [z.1]; exact ho))).trans (h a j ta hn)
theorem FrM.st (h : FrM R b T I J) (g : St T cn K N d1 wi wr J R1 J2 R2) (hw : wi.all (fun c => !(rdm (c / 64))) = true) : FrM R b T I J2 := fun a j ta hn => (g.2.1 a j (wm_p (p := fun r => !(rdm r)) hw (by rw [ta]; rfl))).trans (h a j ta hn)
theorem FrM.fro {s : Nat} (h : FrM R b T I J) (fr : FrO r k T J J2) (g : St T cn K N d1 wi wr J R1 J2 R2) (h1 : 10 ≤ s) (h2 : s ≤ 29) (ho : R b s = some k) (hc : wi.all (fun c => !(rdm (c / 64)) || Nat.beq (c / 64) r) = true) : FrM R b T I J2 := fun a j ta hn => by
  refine Eq.trans ?_ (h a j ta hn)
  by_cases z : T a = r
  · exact fr a j z (fun y => hn s h1 h2 (by rw [y]; exact ho))
  · refine g.2.1 a j (wm_p (p := fun x => !(rdm x) || Nat.beq x r) hc ?_)
    have zb : Nat.beq (T a) r = false := by
      cases hb : Nat.beq (T a) r with
      | false => rfl
      | true => exact absurd (Nat.eq_of_beq_eq_true hb) z
    show (!(rdm (T a)) || Nat.beq (T a) r) = false
    rw [ta, zb]; rfl
/-! what each sort of LINE does -/
def xr (lo hi : Nat) (r : Nat) : Bool := rdm r && !(Nat.ble lo r && Nat.ble r hi)
theorem xr_of {lo hi r : Nat} (h : rdm r = true) (h2 : r < lo ∨ hi < r) : xr lo hi r = true := by
  unfold xr; rw [h]
  rcases h2 with h2 | h2
  · rw [show Nat.ble lo r = false from by cases q : Nat.ble lo r with | false => rfl | true => exact absurd (Nat.le_of_ble_eq_true q) (by exact om_12eeef54 h2)]; rfl
  · rw [show Nat.ble r hi = false from by cases q : Nat.ble r hi with | false => rfl | true => exact absurd (Nat.le_of_ble_eq_true q) (by exact om_12eeef54 h2)]; cases Nat.ble lo r <;> rfl
/-- one row of objects more: rows lo .. lo + n - 1 were written at place p alone -/
theorem AlM.row {u0 lo n p : Nat} {F : Nat → Int} (h : AlM I R b Q E) (hW : Wf T cn K N I9 R d) (tb : T b = 14) (hE : ∀ u j : Nat, E' u j = if u = u0 then F j else E u j) (h29 : ¬ u0 = 29) (hD : ∀ u, ¬ u = u0 → Dbm c' E' u = Dbm Q E u) (hm : ∀ j : Nat, (j : Int) < Dbm c' E' u0 → mrs u0 j = lo + j ∧ j < n ∧ mri u0 j = p) (hm2 : ∀ u j : Nat, u < 38 → ¬ u = u0 → (j : Int) < Dbm Q E u → lo ≤ mrs u j → mrs u j < lo + n → ¬ mri u j = p) (hlo : 10 ≤ lo) (hn : lo + n ≤ 30) (e8 : J b 8 = I b 8) (ro : RoF (xr (43 + lo) (42 + lo + n)) T I J) (v : ∀ f, f < n → ∀ a, R b (lo + f) = some a → Rw1 I J a p (F f)) : AlM J R b c' E' := by
  refine ⟨by rw [e8, hE, if_neg (fun z => h29 z.symm)]; exact h.1, fun u j a hu hd ha => ?_⟩
  rw [hE]
  by_cases c1 : u = u0
  · subst c1
    obtain ⟨m1, m2, m3⟩ := hm j hd
    rw [if_pos rfl, m3]
    exact (v j m2 a (by rw [← m1]; exact ha)).1
  · rw [if_neg c1]
    rw [hD u c1] at hd
    refine h.cell hW tb hu hd ha (fun r t z => ?_)
    have m := mrs_b hd hu
    by_cases c2 : lo ≤ mrs u j ∧ mrs u j < lo + n
    · have q := v (mrs u j - lo) (by exact om_62100aa4 c2.2 c2.1) a (by rw [show lo + (mrs u j - lo) = mrs u j by exact om_f246d939 c2.1]; exact ha)
      exact q.2 _ (hm2 u j hu c1 hd c2.1 c2.2)
    · exact ro a _ (by rw [t, z]; exact xr_of (rdm_43 (by exact om_a9775a92 hlo hn m c2) (by exact om_9fdd6f85 hn m c2)) (by exact om_d906120e c2))
theorem Dbm_of {u0 : Nat} (hD : ∀ u, ¬ u = u0 → Db c' E' u = Db Q E u) (h3 : c' 3 = Q 3) (u : Nat) (hu : ¬ u = u0) : Dbm c' E' u = Dbm Q E u := by
  unfold Dbm; rw [hD u hu, h3]
theorem AlM.ev (h : AlM I R b Q E) (hW : Wf T cn K N I9 R d) (tb : T b = 14) (h0 : 0 ≤ srt B s) (hs : srt B s ≤ 4) (hq : 0 ≤ Q 2) (hq2 : Q 2 ≤ 13) (e8 : J b 8 = I b 8) (ro : RoF (xr 54 57) T I J) (v : ∀ f, f < 4 → ∀ a, R b (11 + f) = some a → Rw1 I J a (Q 2).toNat (evD B (srt B s) (tkN B s) f)) : AlM J R b (lnQ B Q s) (lnE B Q s E) := by
  have q3 : lnQ B Q s 3 = Q 3 := (lnl_e (B := B) (Q := Q) (s := s) h0 hs).2.2.2.2.2.2.1
  refine AlM.row (u0 := (Q 2).toNat) (lo := 11) (n := 4) (p := (Q 2).toNat) h hW tb (lnE_e hs) (by exact om_8a7e0b68 hq hq2) (Dbm_of (fun u hu => Db_e h0 hs hq hq2 hu) q3) (fun j hd => ?_) (fun u j hu hne hd h1 h2 => ?_) (by exact om_e26019ca) (by exact om_62e0cdf4) e8 ro v
  · have m := mrs_b hd (by exact om_8250baaf hq hq2)
    unfold mrs mri at *
    rw [if_pos (show (Q 2).toNat < 14 by omega)] at *
    have hd : (j : Int) < Dbm (lnQ B Q s) (lnE B Q s E) (Q 2).toNat := hd
    unfold Dbm at hd; rw [if_neg (by exact om_8a7e0b68 hq hq2), if_neg (by exact om_327d707d hq hq2)] at hd
    have := (Db_b hd).1 (by exact om_e73caf8a hq hq2)
    rw [if_pos (show (Q 2).toNat < 14 by exact om_e73caf8a hq hq2)]
    exact ⟨rfl, this, rfl⟩
  · have m := mrs_b hd hu; exact om_be15b4d3 hne h1 h2 m
theorem AlM.tu (h : AlM I R b Q E) (hW : Wf T cn K N I9 R d) (tb : T b = 14) (hs : srt B s = 7) (hq : 0 ≤ Q 4) (hq2 : Q 4 ≤ 4) (e8 : J b 8 = I b 8) (ro : RoF (xr 63 68) T I J) (v : ∀ f, f < 6 → ∀ a, R b (20 + f) = some a → Rw1 I J a (Q 4).toNat (tuD B (tkN B s) f)) : AlM J R b (lnQ B Q s) (lnE B Q s E) := by
  have q3 : lnQ B Q s 3 = Q 3 := (lnl_7 (B := B) (Q := Q) (s := s) hs).2.2.2.2.2.2.1
  refine AlM.row (u0 := 14 + (Q 4).toNat) (lo := 20) (n := 6) (p := (Q 4).toNat) h hW tb (lnE_7 hs) (by exact om_781f5283 hq hq2) (Dbm_of (fun u hu => Db_7 hs hq hq2 hu) q3) (fun j hd => ?_) (fun u j hu hne hd h1 h2 => ?_) (by exact om_c303375b) (by exact om_a7a8bace) e8 ro v
  · have m := mrs_b hd (by exact om_4552c481 hq hq2); exact om_585b223c hq hq2 m
  · have m := mrs_b hd hu; exact om_ebed9ffa hu hne h1 h2 m
theorem AlM.ca (h : AlM I R b Q E) (hW : Wf T cn K N I9 R d) (tb : T b = 14) (hs : srt B s = 8) (hq : 0 ≤ Q 5) (hq2 : Q 5 ≤ 5) (e8 : J b 8 = I b 8) (ro : RoF (xr 69 72) T I J) (v : ∀ f, f < 4 → ∀ a, R b (26 + f) = some a → Rw1 I J a (Q 5).toNat (caD B Q (tkN B s) f)) : AlM J R b (lnQ B Q s) (lnE B Q s E) := by
  have q3 : lnQ B Q s 3 = Q 3 := (lnl_8 (B := B) (Q := Q) (s := s) hs).2.2.2.2.2.2.1
  refine AlM.row (u0 := 19 + (Q 5).toNat) (lo := 26) (n := 4) (p := (Q 5).toNat) h hW tb (lnE_8 hs) (by exact om_6fbbed7e hq hq2) (Dbm_of (fun u hu => Db_8 hs hq hq2 hu) q3) (fun j hd => ?_) (fun u j hu hne hd h1 h2 => ?_) (by exact om_53980169) (by exact om_367061c2) e8 ro v
  · have m := mrs_b hd (by exact om_9981305b hq hq2); exact om_14baa570 hq hq2 m
  · have m := mrs_b hd hu; exact om_6efb76c9 hu hne h1 h2 m
theorem AlM.ch (h : AlM I R b Q E) (hW : Wf T cn K N I9 R d) (tb : T b = 14) (hs : srt B s = 5) (hq : 0 ≤ Q 3) (e8 : J b 8 = I b 8) (ro : ∀ a j, rdm (T a) = true → ¬ T a = 58 → ¬ T a = 62 → J a j = I a j) (v : ∀ a, R b 15 = some a → Rw1 I J a (Q 3).toNat (tkV B (tkN B (tkN B (tkN B s))))) (w : ∀ a, R b 19 = some a → Rw1 I J a (Q 3).toNat (dnD B (tkN B s))) : AlM J R b (lnQ B Q s) (lnE B Q s E) := by
  have q3 : lnQ B Q s 3 = Q 3 + 1 := (lnl_5 (B := B) (Q := Q) (s := s) hs).2.2.2.2.2.2.1
  refine ⟨by rw [e8, lnE_5 hs, if_neg (by exact om_a15f76e5), if_neg (by exact om_016850f9)]; exact h.1, fun u j a hu hd ha => ?_⟩
  have m := mrs_b hd hu
  rw [lnE_5 hs]
  by_cases c1 : u = 35
  · subst c1
    have v := v a ha
    have hd : (j : Int) < lnQ B Q s 3 := hd
    by_cases z : j = (Q 3).toNat
    · rw [if_pos ⟨rfl, z⟩, z]; exact v.1
    · rw [if_neg (fun y => z y.2), if_neg (fun y => z y.2)]
      have e : J a (mri 35 j) = I a (mri 35 j) := v.2 j z
      rw [e]; exact h.2 35 j a hu (by show (j : Int) < Q 3; exact om_3a2483e7 hq q3 hd z) ha
  · by_cases c2 : u = 37
    · subst c2
      have w := w a ha
      have hd : (j : Int) < lnQ B Q s 3 := hd
      by_cases z : j = (Q 3).toNat
      · rw [if_neg (by exact om_254afc7c), if_pos ⟨rfl, z⟩, z]; exact w.1
      · rw [if_neg (fun y => z y.2), if_neg (fun y => z y.2)]
        have e : J a (mri 37 j) = I a (mri 37 j) := w.2 j z
        rw [e]; exact h.2 37 j a hu (by show (j : Int) < Q 3; exact om_3a2483e7 hq q3 hd z) ha
    · rw [if_neg (fun y => c1 y.1), if_neg (fun y => c2 y.1)]
      have hd' : (j : Int) < Dbm Q E u := by
        unfold Dbm at hd ⊢
        by_cases c3 : u = 29
        · rw [if_pos c3] at hd; exact om_5f0f7de6 hd
        · rw [if_neg c3, if_neg c2, Db_5 hs c1] at hd; rw [if_neg c3, if_neg c2]; exact hd
      exact h.cell hW tb hu hd' ha (fun r t z => ro a _ (by rw [t, z]; exact rdm_43 (by exact om_02f9bfcc hu m c1 c2) (by exact om_f7b5d6a3 hu m c1 c2)) (by exact om_ae0fb7f6 hu m c1 c2 t z) (by exact om_d7a2408a hu m c1 c2 t z))
theorem AlM.am (h : AlM I R b Q E) (hW : Wf T cn K N I9 R d) (tb : T b = 14) (hs : srt B s = 6) (e8 : (J b 8).toInt = riC B 8 (tkN B s)) (ro : RoF (xr 59 59) T I J) (v : ∀ a, R b 16 = some a → ∀ k : Nat, (k : Int) < riC B 8 (tkN B s) → (J a k).toInt = tkV B (it2 B k (tkN B s))) : AlM J R b (lnQ B Q s) (lnE B Q s E) := by
  have q3 : lnQ B Q s 3 = Q 3 := (lnl_6 (B := B) (Q := Q) (s := s) hs).2.2.2.2.2.2.1
  refine ⟨by rw [e8, lnE_6 hs, if_pos ⟨rfl, rfl⟩], fun u j a hu hd ha => ?_⟩
  have m := mrs_b hd hu
  have c0 : ¬ u = 29 := by exact om_6e06f0d5 m
  rw [lnE_6 hs, if_neg (fun y => c0 y.1)]
  by_cases c1 : u = 34
  · subst c1
    rw [if_pos rfl]
    have hd : (j : Int) < lnE B Q s E 29 0 := hd
    rw [lnE_6 hs, if_pos ⟨rfl, rfl⟩] at hd
    exact v a ha j hd
  · rw [if_neg c1]
    have hd' : (j : Int) < Dbm Q E u := by
      unfold Dbm at hd ⊢
      rw [if_neg c0] at hd ⊢
      by_cases c2 : u = 37
      · rw [if_pos c2] at hd ⊢; exact om_509f1442 q3 hd
      · rw [if_neg c2, Db_6 hs (by exact om_25a2f3f8 c0 c1 c2)] at hd; rw [if_neg c2]; exact hd
    exact h.cell hW tb hu hd' ha (fun r t z => ro a _ (by rw [t, z]; exact xr_of (rdm_43 (by exact om_09d107b4 hu m c0 c1) (by exact om_1dcfc853 hu m c0 c1)) (by exact om_c06f50ec hu m c0 c1)))
theorem AlM.sl (h : AlM I R b Q E) (hW : Wf T cn K N I R d) (tb : T b = 14) (hs : srt B s = 9) (hq : 0 ≤ Q 6) (hq2 : Q 6 ≤ 3) (e8 : J b 8 = I b 8) (ro : RoF (xr 60 61) T I J) (w : ∀ a, R b 17 = some a → Rw1 I J a (Q 6).toNat (riC B 8 (tkN B s))) (v : ∀ a, R b 18 = some a → (∀ k : Nat, (k : Int) < riC B 8 (tkN B s) → (J a (8 * (Q 6).toNat + k)).toInt = tkV B (it2 B k (tkN B s))) ∧ ∀ j, j < 8 * (Q 6).toNat → J a j = I a j) : AlM J R b (lnQ B Q s) (lnE B Q s E) := by
  have q3 : lnQ B Q s 3 = Q 3 := (lnl_9 (B := B) (Q := Q) (s := s) hs).2.2.2.2.2.2.1
  have q6 : lnQ B Q s 6 = Q 6 + 1 := (lnl_9 (B := B) (Q := Q) (s := s) hs).2.2.2.2.2.2.2.2.2.1
  have hb : ∀ k : Nat, (k : Int) < Q 6 → E (25 + k) 0 ≤ 8 := fun k hk => by
    obtain ⟨a, ha, ta⟩ := rf14_17 hW tb
    have m1 : mrs (25 + k) 0 = 17 := by unfold mrs; rw [if_neg (by exact om_da803c71), if_neg (by exact om_dd27e1eb), if_neg (by exact om_06e37cd8), if_pos (by exact om_ca203461 hq hq2 q6 hk)]
    have m2 : mri (25 + k) 0 = k := by unfold mri; rw [if_neg (by exact om_da803c71), if_neg (by exact om_dd27e1eb), if_neg (by exact om_06e37cd8), if_pos (by exact om_ca203461 hq hq2 q6 hk)]; exact om_66389ad8
    have z := h.2 (25 + k) 0 a (by exact om_5a039191 hq hq2 q6 hk m2) (by unfold Dbm Db; rw [if_neg (by exact om_31705555 hq hq2 q6 hk m2), if_neg (by exact om_5580baa1 hq hq2 q6 hk m2), if_neg (by exact om_4e5df22e m2), if_neg (by exact om_0f077f6d m2), if_neg (by exact om_3ef65baa m2), if_pos (by exact om_af6281a4 hq hq2 q6 hk m2), if_pos (by exact om_b2cc1eb3 q6 hk m2)]; decide) (by rw [m1]; exact ha)
    rw [m2] at z
    have y := iv60 hW ta (rfl : I a k = I a k)
    exact om_14f0b7bd z y.2 y.1
  refine ⟨by rw [e8, lnE_9 hs, if_neg (by exact om_5f8e450a hq hq2 q6), if_neg (by exact om_ee2ffd96 hq hq2 q6)]; exact h.1, fun u j a hu hd ha => ?_⟩
  have m := mrs_b hd hu
  rw [lnE_9 hs]
  by_cases c1 : u = 25 + (Q 6).toNat
  · obtain rfl : j = 0 := by exact om_2e57ca0b hq hq2 q6 m c1
    rw [if_pos ⟨c1, rfl⟩, show mri u 0 = (Q 6).toNat by exact om_62e7b67e hq hq2 q6 hu c1 m]
    exact (w a (by rw [show (17 : Nat) = mrs u 0 by exact om_a739c6df hq hq2 q6 hu c1 m]; exact ha)).1
  · rw [if_neg (fun y => c1 y.1)]
    by_cases c2 : u = 30 + (Q 6).toNat
    · rw [if_pos c2, show mri u j = 8 * (Q 6).toNat + j by exact om_36d03d99 hq hq2 q6 m c1 c2]
      refine (v a (by rw [show (18 : Nat) = mrs u j by exact om_6c44b04e hq hq2 q6 m c1 c2]; exact ha)).1 j ?_
      unfold Dbm Db at hd
      rw [if_neg (by exact om_0770d0c1 hq hq2 q6 c2), if_neg (by exact om_f0656958 hq hq2 q6 c2), if_neg (by exact om_25d7dea9 hq hq2 q6 hu c2), if_neg (by exact om_66806cb7 hq hq2 q6 hu c2), if_neg (by exact om_dd0822bf hq hq2 q6 hu c2), if_neg (by exact om_5da9f3ca hq hq2 q6 hu c2), if_neg (by exact om_0770d0c1 hq hq2 q6 c2), if_pos (by exact om_c50ec2ef hq hq2 q6 hu c2), if_pos (by exact om_7a405478 hq hq2 q6 hu c2), lnE_9 hs, if_pos ⟨by exact om_5e8b34b4 hq hq2 q6 hu c2, rfl⟩] at hd
      exact hd
    · rw [if_neg c2]
      have hd' : (j : Int) < Dbm Q E u := by
        unfold Dbm at hd ⊢
        by_cases c0 : u = 29
        · rw [if_pos c0] at hd; exact om_5f0f7de6 hd
        rw [if_neg c0] at hd ⊢
        by_cases c3 : u = 37
        · rw [if_pos c3] at hd ⊢; exact om_509f1442 q3 hd
        · rw [if_neg c3, Db_9 hs hq hq2 (by exact om_1c47e759 hq hq2 q6 c1 c2 c0 c3)] at hd; rw [if_neg c3]; exact hd
      refine h.cell hW tb hu hd' ha (fun r t z => ?_)
      by_cases c4 : mrs u j = 17
      · exact (w a (by rw [← c4]; exact ha)).2 _ (by exact om_ee2e5d99 hq hq2 q6 hu m c1 c2 c4)
      · by_cases c5 : mrs u j = 18
        · refine (v a (by rw [← c5]; exact ha)).2 _ ?_
          have u30 : 30 ≤ u ∧ u < 34 ∧ mri u j = 8 * (u - 30) + j := by exact om_a2922c8b hq hq2 q6 hu m c1 c2 c4 c5
          have hj : (j : Int) < E (u - 5) 0 ∧ (u : Int) - 30 < Q 6 := by
            unfold Dbm Db at hd'
            rw [if_neg (by exact om_b1d712fa hu u30.2.1 u30.1), if_neg (by exact om_56d2c1b2 hu u30.2.1 u30.1), if_neg (by exact om_51863042 hu u30.2.1 u30.1), if_neg (by exact om_cb40949e hu u30.2.1 u30.1), if_neg (by exact om_91d01cde hu u30.2.1 u30.1), if_neg (by exact om_57991dbd hu u30.2.1 u30.1), if_neg (by exact om_b1d712fa hu u30.2.1 u30.1), if_pos (by exact om_3235ec91 hu u30.2.1 u30.1)] at hd'
            split at hd'
            · exact ⟨hd', by omega⟩
            · exact om_6dbc922d u30.2.2 hd'
          have hb2 := hb (u - 30) (by exact om_1ae44490 q6 hu u30.2.1 u30.1 hj.2)
          rw [show 25 + (u - 30) = u - 5 by exact om_145ac52d hu u30.2.1 u30.1] at hb2
          exact om_9383ef51 hq hq2 q6 hu u30.2.1 u30.1 u30.2.2 hj.2 hj.1 hb2
        · exact ro a _ (by rw [t, z]; exact xr_of (rdm_43 (by exact om_c83493b4 hq hq2 q6 m c1 c2 c4 c5) (by exact om_c898d81c hq hq2 q6 m c1 c2 c4 c5)) (by exact om_a5aebfaa c4 c5))
theorem AlM.al (h : AlM I R b Q E) (hW : Wf T cn K N I9 R d) (tb : T b = 14) (hs : srt B s = 10) (e8 : J b 8 = I b 8) (ro : RoF (xr 53 53) T I J) (v : ∀ a, R b 10 = some a → ∀ j, j < 5 → (J a j).toInt = tkV B (it2 B j (tkN B (tkN B (tkN B (tkN B (tkN B (tkN B s)))))))) : AlM J R b (lnQ B Q s) (lnE B Q s E) := by
  have q3 : lnQ B Q s 3 = Q 3 := (lnl_10 (B := B) (Q := Q) (s := s) hs).2.2.2.2.2.2.1
  refine ⟨by rw [e8, lnE_10 hs, if_neg (by exact om_3302286d)]; exact h.1, fun u j a hu hd ha => ?_⟩
  have m := mrs_b hd hu
  rw [lnE_10 hs]
  by_cases c1 : u = 36
  · subst c1
    rw [if_pos rfl]
    exact v a ha j (by exact om_30898681 m)
  · rw [if_neg c1]
    have hd' : (j : Int) < Dbm Q E u := by
      unfold Dbm at hd ⊢
      by_cases c0 : u = 29
      · rw [if_pos c0] at hd; exact om_5f0f7de6 hd
      rw [if_neg c0] at hd ⊢
      by_cases c3 : u = 37
      · rw [if_pos c3] at hd ⊢; exact om_509f1442 q3 hd
      · rw [if_neg c3, Db_10 hs c1] at hd; rw [if_neg c3]; exact hd
    exact h.cell hW tb hu hd' ha (fun r t z => ro a _ (by rw [t, z]; exact xr_of (rdm_43 (by exact om_87c2a540 hu m c1) (by exact om_cd42d4c3 hu m c1)) (by exact om_cf4eb747 hu m c1)))
end CzTm
