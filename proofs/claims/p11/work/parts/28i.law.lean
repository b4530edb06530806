/-! ===== level S: what a text tells of EVENTS and huts ===== -/
section CzLi
variable {B : cz_B} {s : Int} {Q : Nat → Int} {E : Nat → Nat → Int}
/-- what every LINE keeps holds at the end -/
theorem ls_inv {P : (Nat → Int) → (Nat → Nat → Int) → Prop} (hP : ∀ Q E s, P Q E → lnF B Q s = 0 → P (lnQ B Q s) (lnE B Q s E)) : ∀ (k : Nat) (s : Int) (Q : Nat → Int) (E : Nat → Nat → Int), P Q E → lsF B k s Q = 0 → ∃ Q', P Q' (lsE B k s Q E) ∧ lsA0 B k s Q = Q' 0 ∧ lsA1 B k s Q = Q' 1 ∧ lsA2 B k s Q = Q' 2 ∧ lsA3 B k s Q = Q' 3 ∧ lsA4 B k s Q = Q' 4 ∧ lsA5 B k s Q = Q' 5 ∧ lsA6 B k s Q = Q' 6 ∧ lsA9 B k s Q = Q' 9 := by
  intro k
  induction k with
  | zero =>
    intro s Q E h hF
    have hF : (1 : Int) = 0 := hF
    omega
  | succ k ih =>
    intro s Q E h hF
    rw [lsF] at hF
    by_cases c1 : lnF B Q s = 0
    · have n1 : ¬ ¬ lnF B Q s = 0 := fun z => z c1
      rw [if_neg n1] at hF
      by_cases c2 : tkK B (lnS B Q s) = 0
      · rw [if_pos c2] at hF
        by_cases c3 : 0 < lnQ B Q s 3
        · refine ⟨lnQ B Q s, ?_, ?_, ?_, ?_, ?_, ?_, ?_, ?_, ?_⟩
          · rw [lsE, if_neg n1, if_pos c2]; exact hP Q E s h c1
          · rw [lsA0, if_neg n1, if_pos c2, if_pos c3]
          · rw [lsA1, if_neg n1, if_pos c2, if_pos c3]
          · rw [lsA2, if_neg n1, if_pos c2, if_pos c3]
          · rw [lsA3, if_neg n1, if_pos c2, if_pos c3]
          · rw [lsA4, if_neg n1, if_pos c2, if_pos c3]
          · rw [lsA5, if_neg n1, if_pos c2, if_pos c3]
          · rw [lsA6, if_neg n1, if_pos c2, if_pos c3]
          · rw [lsA9, if_neg n1, if_pos c2, if_pos c3]
        · rw [if_neg c3] at hF; omega
      · rw [if_neg c2] at hF
        by_cases c3 : tkK B (lnS B Q s) = 3
        · have n3 : ¬ ¬ tkK B (lnS B Q s) = 3 := fun z => z c3
          rw [if_neg n3] at hF
          rw [lsE, if_neg n1, if_neg c2, if_neg n3, lsA0, if_neg n1, if_neg c2, if_neg n3, lsA1, if_neg n1, if_neg c2, if_neg n3, lsA2, if_neg n1, if_neg c2, if_neg n3, lsA3, if_neg n1, if_neg c2, if_neg n3, lsA4, if_neg n1, if_neg c2, if_neg n3, lsA5, if_neg n1, if_neg c2, if_neg n3, lsA6, if_neg n1, if_neg c2, if_neg n3, lsA9, if_neg n1, if_neg c2, if_neg n3]
          exact ih _ _ _ (hP Q E s h c1) hF
        · rw [if_pos c3] at hF; omega
    · rw [if_pos c1] at hF; exact absurd hF c1
theorem lnF_0 (h : lnF B Q s = 0) : ¬ srt B s = -1 ∧ ¬ ((srt B s = 10 ∧ Q 7 = 1) ∨ (srt B s = 6 ∧ Q 8 = 1)) ∧ ¬ ((srt B s = 5 ∧ 8 ≤ Q 3) ∨ (srt B s = 7 ∧ 5 ≤ Q 4) ∨ (srt B s = 8 ∧ 6 ≤ Q 5) ∨ (srt B s = 9 ∧ 4 ≤ Q 6) ∨ (0 ≤ srt B s ∧ srt B s ≤ 4 ∧ 14 ≤ Q 2)) ∧ (srt B s = 10 ∨ Q 7 = 1) ∧ bdF B Q (srt B s) (tkN B s) = 0 := by
  unfold lnF at h
  by_cases a : srt B s = -1
  · rw [if_pos a] at h; exact om_e36c6134 h
  rw [if_neg a] at h
  by_cases b : (srt B s = 10 ∧ Q 7 = 1) ∨ (srt B s = 6 ∧ Q 8 = 1)
  · rw [if_pos b] at h; exact om_6682e015 h
  rw [if_neg b] at h
  by_cases c : (srt B s = 5 ∧ 8 ≤ Q 3) ∨ (srt B s = 7 ∧ 5 ≤ Q 4) ∨ (srt B s = 8 ∧ 6 ≤ Q 5) ∨ (srt B s = 9 ∧ 4 ≤ Q 6) ∨ (0 ≤ srt B s ∧ srt B s ≤ 4 ∧ 14 ≤ Q 2)
  · rw [if_pos c] at h; exact om_707b0320 h
  rw [if_neg c] at h
  by_cases d : ¬ srt B s = 10 ∧ ¬ Q 7 = 1
  · rw [if_pos d] at h; exact om_131b8f62 h
  rw [if_neg d] at h
  exact ⟨a, b, c, by exact om_2d5a310d d, h⟩
theorem srt_b (B : cz_B) (s : Int) : -1 ≤ srt B s ∧ srt B s ≤ 10 := by
  unfold srt; repeat' (first | exact om_a81e9174 | split)
theorem if_0 {P : Prop} [Decidable P] {k y : Int} (h : (if P then k else y) = 0) (hk : ¬ k = 0) : ¬ P ∧ y = 0 := by
  by_cases p : P
  · rw [if_pos p] at h; exact absurd h hk
  · rw [if_neg p] at h; exact ⟨p, h⟩
/-- EVENTS and huts as they are told -/
def GdC (c1 c2 c3 : Int) (E : Nat → Nat → Int) : Prop := (0 ≤ c1 ∧ c1 ≤ 4) ∧ (0 ≤ c2 ∧ c2 ≤ 14) ∧ (0 ≤ c3 ∧ c3 ≤ 8) ∧ (∀ e : Nat, (e : Int) < c2 → 0 ≤ E e 0 ∧ E e 0 ≤ 4 ∧ (E e 0 = 2 ∨ E e 0 = 3 → 0 ≤ E e 1 ∧ E e 1 < c1)) ∧ ∀ k : Nat, (k : Int) < c3 → 0 ≤ E 35 k ∧ E 35 k < c1
def GdT (Q : Nat → Int) (E : Nat → Nat → Int) : Prop := GdC (Q 1) (Q 2) (Q 3) E ∧ (¬ Q 7 = 1 → Q 2 = 0 ∧ Q 3 = 0)
theorem GdC.cg {c1 c2 c3 : Int} {E E' : Nat → Nat → Int} (h : GdC c1 c2 c3 E) (e : ∀ u j, u < 14 ∨ u = 35 → E' u j = E u j) : GdC c1 c2 c3 E' := by
  obtain ⟨h1, h2, h3, hE, hH⟩ := h
  refine ⟨h1, h2, h3, fun u hu => ?_, fun k hk => ?_⟩
  · rw [e u 0 (by exact om_ab90d3a3 h2.2 h2.1 hu), e u 1 (by exact om_ab90d3a3 h2.2 h2.1 hu)]; exact hE u hu
  · rw [e 35 k (by exact om_90831ab4)]; exact hH k hk
set_option maxHeartbeats 1000000 in
theorem GdT.ln (h : GdT Q E) (hF : lnF B Q s = 0) : GdT (lnQ B Q s) (lnE B Q s E) := by
  obtain ⟨f1, f2, f3, f4, f5⟩ := lnF_0 hF
  obtain ⟨hG, h7⟩ := h
  have hr := srt_b B s
  have hG2 := hG
  obtain ⟨h1, h2, h3, hE, hH⟩ := hG2
  by_cases c5 : srt B s = 5
  · obtain ⟨b1, -, -, q0, q1, q2, q3, -, -, -, q7, -⟩ := lnl_5 (B := B) (Q := Q) (s := s) c5
    rw [b1] at f5
    have v : 0 ≤ tkV B (tkN B (tkN B (tkN B s))) ∧ tkV B (tkN B (tkN B (tkN B s))) < Q 1 := by
      unfold chF at f5
      repeat' (first | exact om_2b4ca015 f5 h7 q1 | split at f5)
    unfold GdT
    rw [q1, q2, q3, q7]
    refine ⟨⟨h1, h2, by exact om_2d65083a f3 f4 h7 h3.2 h3.1 c5 q3, fun u hu => ?_, fun k hk => ?_⟩, fun z => by exact om_2270365c f4 h7 h2.2 h2.1 h3.2 h3.1 c5 q2 q3 z⟩
    · rw [lnE_5 c5, if_neg (by exact om_b36aa873 h2.2 h2.1 q2 hu), if_neg (by exact om_b94586bd h2.2 h2.1 q2 hu), lnE_5 c5, if_neg (by exact om_55273847 h2.2 h2.1 q2 hu), if_neg (by exact om_e5399927 h2.2 h2.1 q2 hu)]; exact hE u hu
    · rw [lnE_5 c5]
      by_cases z : k = (Q 3).toNat
      · rw [if_pos ⟨rfl, z⟩]; exact v
      · rw [if_neg (fun w => z w.2), if_neg (by exact om_31b10c2f)]; exact hH k (by exact om_82c6164b h3.2 h3.1 q3 hk z)
  by_cases c6 : srt B s = 6
  · obtain ⟨-, -, -, q0, q1, q2, q3, -, -, -, q7, -⟩ := lnl_6 (B := B) (Q := Q) (s := s) c6
    unfold GdT
    rw [q1, q2, q3, q7]
    exact ⟨hG.cg (fun u j hu => by rw [lnE_6 c6, if_neg (by exact om_89c9856c hu), if_neg (by exact om_1b6a6d52 hu)]), h7⟩
  by_cases c7 : srt B s = 7
  · obtain ⟨-, -, -, q0, q1, q2, q3, -, -, -, q7, -⟩ := lnl_7 (B := B) (Q := Q) (s := s) c7
    unfold GdT
    rw [q1, q2, q3, q7]
    exact ⟨hG.cg (fun u j hu => by rw [lnE_7 c7, if_neg (by exact om_203bebef f3 f4 h7 c5 c6 c7 hu)]), h7⟩
  by_cases c8 : srt B s = 8
  · obtain ⟨-, -, -, q0, q1, q2, q3, -, -, -, q7, -⟩ := lnl_8 (B := B) (Q := Q) (s := s) c8
    unfold GdT
    rw [q1, q2, q3, q7]
    exact ⟨hG.cg (fun u j hu => by rw [lnE_8 c8, if_neg (by exact om_1fe42b20 f3 f4 h7 c5 c6 c7 c8 hu)]), h7⟩
  by_cases c9 : srt B s = 9
  · obtain ⟨-, -, -, q0, q1, q2, q3, -, -, -, q7, -⟩ := lnl_9 (B := B) (Q := Q) (s := s) c9
    unfold GdT
    rw [q1, q2, q3, q7]
    exact ⟨hG.cg (fun u j hu => by rw [lnE_9 c9, if_neg (by exact om_9be853ff f3 f4 h7 c5 c6 c7 c8 c9 hu), if_neg (by exact om_010e9e68 f3 f4 h7 c5 c6 c7 c8 c9 hu)]), h7⟩
  by_cases ca : srt B s = 10
  · obtain ⟨b1, -, -, q0, q1, q2, q3, -, -, -, q7, -⟩ := lnl_10 (B := B) (Q := Q) (s := s) ca
    rw [b1] at f5
    have v : 1 ≤ tkV B (tkN B (tkN B (tkN B (tkN B s)))) ∧ tkV B (tkN B (tkN B (tkN B (tkN B s)))) ≤ 4 := by
      unfold alF at f5
      have h1 := (if_0 f5 (by decide)).2
      have h2 := (if_0 h1 (by decide)).2
      have h3 := (if_0 h2 (by decide)).2
      have h4 := (if_0 h3 (by decide)).2
      have h5 := (if_0 h4 (by decide)).2
      have h6 := (if_0 h5 (by decide)).1
      clear h1 h2 h3 h4 h5 f5
      exact om_3c003cb6 h6
    obtain ⟨z2, z3⟩ := h7 (by exact om_93e1f46c f2 f3 f4 h7 c5 c6 c7 c8 c9 ca)
    unfold GdT
    rw [q1, q2, q3, q7]
    exact ⟨⟨by exact om_5673a6f2 v.2 v.1, h2, h3, fun u hu => by exact om_eefda85e q2 z2 hu, fun k hk => by exact om_a4b8fcfb q3 z3 hk⟩, fun z => absurd rfl z⟩
  · have hs : srt B s ≤ 4 := by exact om_3619922d hr.2 hr.1 c5 c6 c7 c8 c9 ca
    obtain ⟨b1, -, -, q0, q1, q2, q3, -, -, -, q7, -⟩ := lnl_e (B := B) (Q := Q) (s := s) (by exact om_8e7cd608 f1 f2 f3 f4 h7 hr.2 hr.1 c5 c6 c7 c8 c9 ca hs) hs
    rw [b1] at f5
    have v : (srt B s = 2 ∨ srt B s = 3) → 0 ≤ tkV B (tkN B s) ∧ tkV B (tkN B s) < Q 1 := by
      intro w
      unfold evF at f5
      rw [if_neg (by exact om_aec558e6 w), if_pos w] at f5
      split at f5
      · exact om_dde03f56 f5
      split at f5
      · exact om_5119af1a f5
      omega
    unfold GdT
    rw [q1, q2, q3, q7]
    refine ⟨⟨h1, by exact om_31418261 f1 f2 f3 f4 h7 hr.2 hr.1 h2.2 h2.1 c5 c6 c7 c8 c9 ca hs q2 v, h3, fun u hu => ?_, fun k hk => ?_⟩, fun z => by exact om_8dee3f10 f4 h7 hr.2 hr.1 h2.2 h2.1 h3.2 h3.1 c5 c6 c7 c8 c9 ca hs q2 q3 v z⟩
    · rw [lnE_e hs, lnE_e hs]
      by_cases z : u = (Q 2).toNat
      · rw [if_pos z, if_pos z]
        refine ⟨?_, ?_, fun w => ?_⟩
        · show 0 ≤ srt B s
          exact om_fc4799a6 f1 f2 f3 f4 h7 hr.2 hr.1 h2.2 h2.1 c5 c6 c7 c8 c9 ca hs q2 v
        · exact hs
        · have w : srt B s = 2 ∨ srt B s = 3 := w
          show 0 ≤ (if srt B s = 2 ∨ srt B s = 3 then tkV B (tkN B s) else -2) ∧ (if srt B s = 2 ∨ srt B s = 3 then tkV B (tkN B s) else -2) < Q 1
          rw [if_pos w]; exact v w
      · rw [if_neg z, if_neg z]; exact hE u (by exact om_53699505 h2.2 h2.1 q2 hu z)
    · rw [lnE_e hs, if_neg (by exact om_f2a2544b h2.2 h2.1 q2)]; exact hH k hk
theorem OrC.gd {ha : Int} {c : Nat → Int} (h : OrC ha c E) : GdC (c 1) (c 2) (c 3) E := by
  rcases h with ⟨-, rfl, rfl⟩ | ⟨-, B, hF, rfl, rfl⟩
  · exact ⟨⟨by decide, by decide⟩, ⟨by decide, by decide⟩, ⟨by decide, by decide⟩, fun e he => by have he : (e : Int) < 0 := he; exact om_3c5af879 he, fun k hk => by have hk : (k : Int) < 0 := hk; exact om_89ae62fe hk⟩
  · obtain ⟨Q', hP, -, a1, a2, a3, -⟩ := ls_inv (P := GdT) (fun Q E s h hF => GdT.ln h hF) 901 0 Q00 E00 ⟨⟨⟨by decide, by decide⟩, ⟨by decide, by decide⟩, ⟨by decide, by decide⟩, fun e he => by have he : (e : Int) < 0 := he; exact om_3c5af879 he, fun k hk => by have hk : (k : Int) < 0 := hk; exact om_89ae62fe hk⟩, fun _ => ⟨rfl, rfl⟩⟩ hF
    show GdC (lsA1 B 901 0 Q00) (lsA2 B 901 0 Q00) (lsA3 B 901 0 Q00) _
    rw [a1, a2, a3]; exact hP.1
theorem OrC.z {ha : Int} {c : Nat → Int} (h : OrC ha c E) (h0 : ha = 0) : ∀ i, c i = 0 := by
  rcases h with ⟨-, rfl, -⟩ | ⟨h1, -⟩
  · exact fun _ => rfl
  · omega
end CzLi
/-- an EVENT as both tell it -/
def XE (c : Nat → Int) (E : Nat → Nat → Int) (s : Nat → Int) (e f : Nat) : Int := if (e : Int) < c 2 then E e f else if f = 0 then 0 else if f = 1 then -2 else if f = 2 then s (3 + (e - (c 2).toNat)) else s (9 + (e - (c 2).toNat))
section CzSk6
variable {T : Nat → Nat} {cn : Nat} {K N : Nat → Nat} {d d' : Int} {wi wr wi' wr' : List Nat} {I I' I8 I9 : cz_I} {R R' R8 R9 : cz_R} {x m : Nat} {ha n mk : Int} {c : Nat → Int} {E X : Nat → Nat → Int} {s s' : Nat → Int} {g q : Nat → Nat → Int} {v8 v9 u1 u2 u3 b8 b9 : Int32}
theorem XE.cm {k : Nat} (h : 0 ≤ c 2) : XE c E s ((c 2).toNat + k) 0 = 0 ∧ XE c E s ((c 2).toNat + k) 1 = -2 ∧ XE c E s ((c 2).toNat + k) 2 = s (3 + k) ∧ XE c E s ((c 2).toNat + k) 3 = s (9 + k) := by
  have h' : ¬ (((c 2).toNat + k : Nat) : Int) < c 2 := by exact om_0992a48c h
  have hk : (c 2).toNat + k - (c 2).toNat = k := by exact om_618d6e45
  refine ⟨?_, ?_, ?_, ?_⟩
  · unfold XE; rw [if_neg h', if_pos rfl]
  · unfold XE; rw [if_neg h', if_neg (by decide), if_pos rfl]
  · unfold XE; rw [if_neg h', if_neg (by decide), if_neg (by decide), if_pos rfl, hk]
  · unfold XE; rw [if_neg h', if_neg (by decide), if_neg (by decide), if_neg (by decide), hk]
theorem XE.eq (h : ∀ k, 3 ≤ k → s' k = s k) : XE c E s' = XE c E s := by
  funext e f; unfold XE; rw [h _ (by exact om_563d2ef9), h _ (by exact om_ff1614ce)]
/-- the class's EVENTS -/
theorem CVw.evq (h : CVw I R x ha c E s n mk g q) (hOr : OrC ha c E) (hW : Wf T cn K N I R d) (tx : T x = 1) : EvQ I R x (XE c E s) := by
  intro al nw h2 h6
  obtain ⟨al', dr, nw', pa, A, B, hp, s1, ⟨v0, v1, v2, v5, v6⟩, ts, ⟨t0, t1, t2, t3⟩, -⟩ := h
  obtain ⟨tal, tdr, tnw, tpa, tA, tB⟩ := hp.ro hW tx
  obtain ⟨p1, p2, p3, p4, -⟩ := hp
  obtain rfl := Option.some.inj (p1.symm.trans h2)
  obtain rfl := Option.some.inj (p4.symm.trans h6)
  obtain ⟨g1, g2, g3, gE, gH⟩ := hOr.gd
  have b6 := iv8_2 hW tnw (rfl : I nw' 2 = I nw' 2)
  refine ⟨fun V hV e ob he ho => ?_, fun f t k hf ht hk => ?_⟩
  · rw [v2] at he
    have hd : ∀ j : Nat, j < 4 → (I ob j).toInt = E e j := fun j hj => v6.2 e j ob (by exact om_e0c8b422 g2.2 g2.1 he) (by unfold Db; rw [if_pos (by exact om_4885c642 g2.2 g2.1 he), if_pos he]; exact om_fc558aa3 hj) (ObE hV (by exact om_4885c642 g2.2 g2.1 he) ho)
    have k : ∀ f, XE c E s e f = E e f := fun f => if_pos he
    obtain ⟨b1, b2, b3⟩ := gE e he
    rw [k 0, k 1, k 2, k 3]
    exact ⟨hd 0 (by exact om_aaa5a01b), hd 1 (by exact om_72ebddfc), hd 2 (by exact om_8b662628), hd 3 (by exact om_e50796e2), b1, b2, fun w => by have := b3 w; exact om_b3f9bb3a g1.2 g1.1 this.1 this.2⟩
  · rw [t1] at hk
    obtain ⟨y1, y2⟩ := t3 f t hf ht k (by exact om_adf56260 t1 b6.2 b6.1 hk) hk
    obtain ⟨x0, x1, x2, x3⟩ := XE.cm (k := k) (E := E) (s := s) (c := c) g2.1
    rw [v2, x0, x2, x3]; exact ⟨rfl, y1.symm, y2.symm⟩
/-- the reference's EVENTS -/
theorem MVw.evy (h : MVw I R m ha c E s n mk g q) (hC : CVw I R x ha c E s n mk g q) (hOr : OrC ha c E) (hW : Wf T cn K N I R d) (tx : T x = 1) (tm : T m = 15) : EvY I R m (XE c E s) := by
  intro b w hb hw
  obtain ⟨-, b', hb2, -, -, y2, -, y5⟩ := h.ha1 ⟨b, hb⟩
  obtain rfl := Option.some.inj (hb.symm.trans hb2)
  obtain ⟨w', p, k, p1, p2, p3, hav, hs, -⟩ := h
  obtain rfl := Option.some.inj (p1.symm.trans hw)
  have tb : T b = 14 := hW.rsN tm rfl hb
  have s1 := hs.1 1 (by exact om_8d289ac2)
  obtain ⟨g1, g2, g3, gE, gH⟩ := hOr.gd
  have cell : ∀ (f e a : Nat), f < 4 → (e : Int) < c 2 → R b (11 + f) = some a → (I a e).toInt = E e f := fun f e a hf he ha => by
    have m1 : mrs e f = 11 + f := by unfold mrs; rw [if_pos (by exact om_4885c642 g2.2 g2.1 he)]
    have m2 : mri e f = e := by unfold mri; rw [if_pos (by exact om_4885c642 g2.2 g2.1 he)]
    have y := y5.2 e f a (by exact om_a648063e g2.2 g2.1 he m2) (by unfold Dbm Db; rw [if_neg (by exact om_fb05647f g2.2 g2.1 he m2), if_neg (by exact om_90f37972 g2.2 g2.1 he m2), if_pos (by exact om_d483e74e g2.2 g2.1 he m2), if_pos he]; exact om_6a872869 hf m1) (by rw [m1]; exact ha)
    rw [m2] at y; exact y
  obtain ⟨al', dr, nw, pa, A, B, hp, -, -, -, ⟨t0, t1, t2, t3⟩, -⟩ := hC
  obtain ⟨tal, tdr, tnw, tpa, tA, tB⟩ := hp.ro hW tx
  have b6 := iv8_2 hW tnw (rfl : I nw 2 = I nw 2)
  rw [y2, s1]
  refine ⟨fun e he => ?_, fun f e a hf he ha => ?_, fun k hk => ?_⟩
  · by_cases z : (e : Int) < c 2
    · have kk : ∀ f, XE c E s e f = E e f := fun f => if_pos z
      obtain ⟨b1, b2, b3⟩ := gE e z
      obtain ⟨a2, h2, t2'⟩ := rf14_13 hW tb
      obtain ⟨a3, h3, t3'⟩ := rf14_14 hW tb
      have e2 := cell 2 e a2 (by exact om_8b662628) z h2
      have e3 := cell 3 e a3 (by exact om_e50796e2) z h3
      have i2 := iv56 hW t2' (rfl : I a2 e = I a2 e)
      have i3 := iv57 hW t3' (rfl : I a3 e = I a3 e)
      rw [kk 0, kk 1, kk 2, kk 3]
      exact ⟨b1, b2, fun w => by have := b3 w; exact om_b3f9bb3a g1.2 g1.1 this.1 this.2, by exact om_154b3c6b e2 i2.2 i2.1, by exact om_5d28e628 e2 i2.2 i2.1, by exact om_154b3c6b e3 i3.2 i3.1, by exact om_5d28e628 e3 i3.2 i3.1⟩
    · obtain ⟨k, rfl⟩ : ∃ k, e = (c 2).toNat + k := ⟨e - (c 2).toNat, by exact om_37187d57 g2.2 g2.1 t1 b6.2 b6.1 he z⟩
      obtain ⟨x0, x1, x2, x3⟩ := XE.cm (k := k) (E := E) (s := s) (c := c) g2.1
      obtain ⟨r3, hr3, tr3⟩ := rf8_3 hW tnw
      obtain ⟨r4, hr4, tr4⟩ := rf8_4 hW tnw
      obtain ⟨y3, y4⟩ := t3 r3 r4 hr3 hr4 k (by exact om_fa82300d g2.2 g2.1 t1 b6.2 b6.1 he) (by exact om_b71c5a5b g2.2 g2.1 t1 he)
      have i3 := iv27 hW tr3 (rfl : I r3 k = I r3 k)
      have i4 := iv28 hW tr4 (rfl : I r4 k = I r4 k)
      rw [x0, x1, x2, x3]
      exact ⟨by exact om_b62a2ddc, by exact om_529dc9a7, fun w => by exact om_c671a80e w, by exact om_154b3c6b y3 i3.2 i3.1, by exact om_5d28e628 y3 i3.2 i3.1, by exact om_154b3c6b y4 i4.2 i4.1, by exact om_5d28e628 y4 i4.2 i4.1⟩
  · rw [cell f e a hf he ha]; exact (if_pos he).symm
  · obtain ⟨x0, x1, x2, x3⟩ := XE.cm (k := k) (E := E) (s := s) (c := c) g2.1
    obtain ⟨z1, z2⟩ := hs.2 k (by exact om_adf56260 t1 b6.2 b6.1 hk) hk
    exact ⟨x0, x1, x2.trans z1.symm, x3.trans z2.symm⟩
/-- the class's own sky, by numbers -/
def SkN (I : cz_I) (R : cz_R) (x : Nat) (c : Nat → Int) (s : Nat → Int) (X : Nat → Nat → Int) : Prop := (I x 9).toInt = 1 → ∀ sk, R x 8 = some sk → SkF I R sk (c 0) (c 1) (-1) X ((c 2).toNat + (s 1).toNat) (c 0)
def CVs (I : cz_I) (R : cz_R) (x : Nat) (ha : Int) (c : Nat → Int) (E : Nat → Nat → Int) (s : Nat → Int) (n mk : Int) (g q : Nat → Nat → Int) : Prop := CVw I R x ha c E s n mk g q ∧ SkN I R x c s (XE c E s) ∧ DjS R x
theorem CVs.nb (h : CVs I R x ha c E s n mk g q) (hW : Wf T cn K N I R d) (tx : T x = 1) : (0 ≤ n ∧ n ≤ 12) ∧ 0 ≤ mk ∧ mk ≤ 3 := h.1.nb hW tx
theorem CVs.cab (h : CVs I R x ha c E s n mk g q) (hW : Wf T cn K N I R d) (tx : T x = 1) : 0 ≤ c 5 ∧ c 5 ≤ 6 := h.1.cab hW tx
theorem CVs.s1b (h : CVs I R x ha c E s n mk g q) (hW : Wf T cn K N I R d) (tx : T x = 1) : 0 ≤ s 1 ∧ s 1 ≤ 6 := h.1.s1b hW tx
theorem CVw.num (h : CVw I R x ha c E s n mk g q) : ∃ al nw, R x 2 = some al ∧ R x 6 = some nw ∧ (I x 5).toInt = ha ∧ (I al 0).toInt = c 0 ∧ (I al 1).toInt = c 1 ∧ (I al 3).toInt = c 2 ∧ (I al 5).toInt = c 3 ∧ (I nw 2).toInt = s 1 := by
  obtain ⟨al, dr, nw, pa, A, B, ⟨p1, p2, p3, p4, -⟩, s1, ⟨v0, v1, v2, -⟩, -, ⟨-, t1, -⟩, -⟩ := h
  exact ⟨al, nw, p1, p4, s1, v0, v1 1 (by exact om_0b38c7b4), v2, v1 3 (by exact om_6936d390), t1⟩
theorem MVw.num (h : MVw I R m ha c E s n mk g q) (hb : ∃ b, R m 3 = some b) : ha = 1 ∧ ∃ b w, R m 3 = some b ∧ R m 16 = some w ∧ (I b 0).toInt = c 0 ∧ (I b 1).toInt = c 1 ∧ (I b 2).toInt = c 2 ∧ (I b 3).toInt = c 3 ∧ (I w 1).toInt = s 1 := by
  obtain ⟨h1, b, hb2, y0, y1, y2, -⟩ := h.ha1 hb
  obtain ⟨w, p, k, p1, p2, p3, hav, hs, -⟩ := h
  exact ⟨h1, b, w, hb2, p1, y0, y1 1 (by exact om_0b38c7b4), y2, y1 3 (by exact om_6936d390), hs.1 1 (by exact om_8d289ac2)⟩
theorem CVs.skq (h : CVs I R x ha c E s n mk g q) : SkQ I R x (XE c E s) := by
  intro h9 sk al nw h8 h2 h6
  obtain ⟨al', nw', p1, p4, -, v0, v1, v2, -, t1⟩ := h.1.num
  obtain rfl := Option.some.inj (p1.symm.trans h2)
  obtain rfl := Option.some.inj (p4.symm.trans h6)
  rw [v0, v1, v2, t1]; exact h.2.1 h9 sk h8
theorem SkN.of (hC : CVw I R x ha c E s n mk g q) (h : SkQ I R x X) : SkN I R x c s X := by
  intro h9 sk h8
  obtain ⟨al, nw, p1, p4, -, v0, v1, v2, -, t1⟩ := hC.num
  have z := h h9 sk al nw h8 p1 p4
  rw [v0, v1, v2, t1] at z; exact z
theorem SkN.z (h : (I x 9).toInt = 0) : SkN I R x c s X := fun h9 => by omega
theorem SkN.cg (h : SkN I R x c s X) (hW : Wf T cn K N I9 R d) (tx : T x = 1) (e9 : (I' x 9).toInt = (I x 9).toInt) (e : ∀ a j, 35 ≤ T a → T a ≤ 42 → I' a j = I a j) (r8 : R' x 8 = R x 8) (r : ∀ a j, T a = 12 → R' a j = R a j) (hs : s' 1 = s 1) : SkN I' R' x c s' X := by
  intro h9 sk h8
  rw [r8] at h8
  have t8 : T sk = 12 := hW.rs tx rfl rfl h8
  rw [hs]
  refine ((h (by exact om_bd8e519c e9 h9) sk h8).kp (fun r' k' j q2 q9 hr => e r' k' ?_ ?_)).rc (fun j => r sk j t8)
  · have hk : j = 2 ∨ j = 3 ∨ j = 4 ∨ j = 5 ∨ j = 6 ∨ j = 7 ∨ j = 8 ∨ j = 9 := by exact om_35773e17 q2 q9
    rcases hk with rfl | rfl | rfl | rfl | rfl | rfl | rfl | rfl <;> rw [show T r' = _ from hW.rs t8 rfl rfl hr] <;> decide
  · have hk : j = 2 ∨ j = 3 ∨ j = 4 ∨ j = 5 ∨ j = 6 ∨ j = 7 ∨ j = 8 ∨ j = 9 := by exact om_35773e17 q2 q9
    rcases hk with rfl | rfl | rfl | rfl | rfl | rfl | rfl | rfl <;> rw [show T r' = _ from hW.rs t8 rfl rfl hr] <;> decide
theorem SkN.st (h : SkN I R x c s X) (hW : Wf T cn K N I R d) (tx : T x = 1) (hS : St T cn K N d' wi wr I R I' R') (e9 : (I' x 9).toInt = (I x 9).toInt) (hs : s' 1 = s 1) (k1 : wi.all (fun z => !(Nat.ble 35 (z / 64) && Nat.ble (z / 64) 42)) = true) (k2 : okI [12] wr = true) (k4 : wm wr 1 8 = false) : SkN I' R' x c s' X :=
  h.cg hW tx e9 (fun a j t1 t2 => hS.2.1 a j (wm_p (p := fun r => !(Nat.ble 35 r && Nat.ble r 42)) k1 (by rw [Nat.ble_eq_true_of_le t1, Nat.ble_eq_true_of_le t2]; rfl))) (hS.rcell tx k4) (fun a j ta => hS.rcell ta (wm_no (okI_at k2 (by decide)))) hs
theorem DjS.st (h : DjS R x) (hW : Wf T cn K N I9 R d) (tx : T x = 1) (hS : St T cn K N d' wi wr I R I' R') (k2 : okI [12] wr = true) (k4 : wm wr 1 8 = false) (k5 : wm wr 1 13 = false) : DjS R' x := by
  intro a b h8 h13
  rw [hS.rcell tx k4] at h8
  rw [hS.rcell tx k5] at h13
  have ta : T a = 12 := hW.rs tx rfl rfl h8
  have tb : T b = 12 := hW.rs tx rfl rfl h13
  obtain ⟨z1, z2⟩ := h a b h8 h13
  refine ⟨z1, fun k l y k1 k2' l1 l2 hk hl => z2 k l y k1 k2' l1 l2 ?_ ?_⟩
  · rw [← hS.rcell ta (wm_no (okI_at k2 (by decide)))]; exact hk
  · rw [← hS.rcell tb (wm_no (okI_at k2 (by decide)))]; exact hl
theorem CVs.kp (h : CVs I R x ha c E s n mk g q) (hW : Wf T cn K N I R d) (tx : T x = 1) (hS : St T cn K N d' wi wr I R I' R') (c1 : okI [2, 3, 4, 5, 6, 18, 20, 24, 8, 10, 11, 27, 28, 31, 32] wi = true) (c2 : okI [2, 8, 10, 11, 19, 6, 21, 22, 23, 33, 34] wr = true) (c3 : wm wi 1 5 = false) (c4 : wm wr 1 2 = false) (c5 : wm wr 1 3 = false) (c6 : wm wr 1 6 = false) (c7 : wm wr 1 7 = false) (k1 : wi.all (fun z => !(Nat.ble 35 (z / 64) && Nat.ble (z / 64) 42)) = true := by decide +kernel) (k2 : okI [12] wr = true := by decide +kernel) (k3 : wm wi 1 9 = false := by decide +kernel) (k4 : wm wr 1 8 = false := by decide +kernel) (k5 : wm wr 1 13 = false := by decide +kernel) : CVs I' R' x ha c E s n mk g q :=
  ⟨h.1.kp hW tx hS c1 c2 c3 c4 c5 c6 c7, h.2.1.st hW tx hS (congrArg Int32.toInt (hS.cell tx k3)) rfl k1 k2 k4, h.2.2.st hW tx hS k2 k4 k5⟩
/-- a call of the class that asks for the sky -/
theorem CVs.au (h : CVs I R x ha c E s n mk g q) (hW : Wf T cn K N I R d) (tx : T x = 1) (hS : St T cn K N d' wi wr I R I' R') (hQ : SkQ I' R' x (XE c E s)) (c1 : okI [2, 3, 4, 5, 6, 18, 20, 24, 8, 10, 11, 27, 28, 31, 32] wi = true) (c2 : okI [2, 8, 10, 11, 19, 6, 21, 22, 23, 33, 34] wr = true) (c3 : wm wi 1 5 = false) (c4 : wm wr 1 2 = false) (c5 : wm wr 1 3 = false) (c6 : wm wr 1 6 = false) (c7 : wm wr 1 7 = false) (k2 : okI [12] wr = true := by decide +kernel) (k4 : wm wr 1 8 = false := by decide +kernel) (k5 : wm wr 1 13 = false := by decide +kernel) : CVs I' R' x ha c E s n mk g q :=
  have z := h.1.kp hW tx hS c1 c2 c3 c4 c5 c6 c7
  ⟨z, SkN.of z hQ, h.2.2.st hW tx hS k2 k4 k5⟩
/-! the acts -/
theorem cs_cloud (h : CVs I R x ha c E s n mk g q) (hW : Wf T cn K N I R d) (tx : T x = 1) (hS : St T cn K N d' wik_X10_cloud wrk_X10_cloud I R I' R') (hc : Cs_X10_cloud T I R x u1 u2 v8 I' R') :
    (v8.toInt = 0 ∧ ¬ (ha = 1 ∧ 0 ≤ u1.toInt ∧ u1.toInt < u2.toInt ∧ u2.toInt ≤ c 0 ∧ s 1 ≤ 5) ∧ CVs I' R' x ha c E s n mk g q) ∨ (v8.toInt = 1 ∧ (ha = 1 ∧ 0 ≤ u1.toInt ∧ u1.toInt < u2.toInt ∧ u2.toInt ≤ c 0 ∧ s 1 ≤ 5) ∧ CVs I' R' x ha c E (ac s (s 2) u1.toInt u2.toInt) (kn n) mk (kg n g s) q) := by
  have hD := h.2.2.st hW tx hS (by decide +kernel) (by decide +kernel) (by decide +kernel)
  have hk : (v8.toInt = 0 ∧ (I' x 9).toInt = (I x 9).toInt) ∨ (v8.toInt = 1 ∧ (I' x 9).toInt = 0) := by
    rcases hc with ⟨-, a1, -, k, -⟩ | ⟨-, -, a1, -, k, -⟩ | ⟨-, -, -, -, -, a1, -, k, -⟩ | ⟨-, -, -, -, -, a1, -, -, -, k, -⟩
    · exact Or.inl ⟨a1, k⟩
    · exact Or.inl ⟨a1, k⟩
    · exact Or.inl ⟨a1, k⟩
    · exact Or.inr ⟨a1, k⟩
  rcases c_cloud h.1 hW tx hS hc with ⟨a1, a2, a3⟩ | ⟨a1, a2, a3⟩ <;> rcases hk with ⟨b1, b2⟩ | ⟨b1, b2⟩
  · exact Or.inl ⟨a1, a2, a3, h.2.1.st hW tx hS b2 rfl (by decide +kernel) (by decide +kernel) (by decide +kernel), hD⟩
  · exact om_c69bd3d0 a1 b1
  · exact om_58f5c95d a1 b1
  · exact Or.inr ⟨a1, a2, a3, SkN.z b2, hD⟩
theorem cs_draw (h : CVs I R x ha c E s n mk g q) (hW : Wf T cn K N I R d) (tx : T x = 1) (hS : St T cn K N d' wik_X10_draw wrk_X10_draw I R I' R') (hc : Cs_X10_draw T I R x v8 I' R') :
    (v8.toInt = -1 ∧ ¬ (ha = 1 ∧ s 1 ≤ 5) ∧ CVs I' R' x ha c E s n mk g q) ∨ (v8.toInt = dwm (s 2) (c 0) ∧ (ha = 1 ∧ s 1 ≤ 5) ∧ CVs I' R' x ha c E (ac s (dw (dw (s 2))) (dwm (s 2) (c 0)) (dwt (s 2) (c 0))) (kn n) mk (kg n g s) q) := by
  have hD := h.2.2.st hW tx hS (by decide +kernel) (by decide +kernel) (by decide +kernel)
  obtain ⟨al, nw, p1, p4, z5, -, -, -, -, t1⟩ := h.1.num
  have hk : (¬ (ha = 1 ∧ s 1 ≤ 5) ∧ (I' x 9).toInt = (I x 9).toInt) ∨ ((ha = 1 ∧ s 1 ≤ 5) ∧ (I' x 9).toInt = 0) := by
    rcases hc with ⟨a1, -, -, k, -⟩ | ⟨a1, a2, -, -, k, -⟩ | ⟨a1, a2, -, -, -, -, -, k, -⟩
    · exact Or.inl ⟨by exact om_f5c3bd59 z5 a1, k⟩
    · have := a2 nw p4
      exact Or.inl ⟨by exact om_2510cfdb t1 this, k⟩
    · have := a2 nw p4
      exact Or.inr ⟨by exact om_0727e06d z5 t1 a1 this, k⟩
  rcases c_draw h.1 hW tx hS hc with ⟨a1, a2, a3⟩ | ⟨a1, a2, a3⟩ <;> rcases hk with ⟨b1, b2⟩ | ⟨b1, b2⟩
  · exact Or.inl ⟨a1, a2, a3, h.2.1.st hW tx hS b2 rfl (by decide +kernel) (by decide +kernel) (by decide +kernel), hD⟩
  · exact absurd b1 a2
  · exact absurd a2 b1
  · exact Or.inr ⟨a1, a2, a3, SkN.z b2, hD⟩
theorem cs_lift (h : CVs I R x ha c E s n mk g q) (hW : Wf T cn K N I R d) (tx : T x = 1) (hS : St T cn K N d' wik_X10_lift wrk_X10_lift I R I' R') (hc : Cs_X10_lift T I R x v8 I' R') :
    (v8.toInt = 0 ∧ s 1 = 0 ∧ CVs I' R' x ha c E s n mk g q) ∨ (v8.toInt = 1 ∧ 1 ≤ s 1 ∧ CVs I' R' x ha c E (fun c => if c = 1 then s 1 - 1 else s c) (kn n) mk (kg n g s) q) := by
  have hD := h.2.2.st hW tx hS (by decide +kernel) (by decide +kernel) (by decide +kernel)
  have hk : (v8.toInt = 0 ∧ (I' x 9).toInt = (I x 9).toInt) ∨ (v8.toInt = 1 ∧ (I' x 9).toInt = 0) := by
    rcases hc with ⟨-, a1, -, k, -⟩ | ⟨-, a1, -, -, k, -⟩
    · exact Or.inl ⟨a1, k⟩
    · exact Or.inr ⟨a1, k⟩
  rcases c_lift h.1 hW tx hS hc with ⟨a1, a2, a3⟩ | ⟨a1, a2, a3⟩ <;> rcases hk with ⟨b1, b2⟩ | ⟨b1, b2⟩
  · exact Or.inl ⟨a1, a2, a3, h.2.1.st hW tx hS b2 rfl (by decide +kernel) (by decide +kernel) (by decide +kernel), hD⟩
  · exact om_553d3524 a1 b1
  · exact om_9ef46383 a1 b1
  · exact Or.inr ⟨a1, a2, a3, SkN.z b2, hD⟩
theorem cs_undo (h : CVs I R x ha c E s n mk g q) (hW : Wf T cn K N I R d) (tx : T x = 1) (hS : St T cn K N d' wik_X10_undo wrk_X10_undo I R I' R) (hc : Cs_X10_undo T I R x v8 I' R) :
    (v8.toInt = 0 ∧ n = 0 ∧ CVs I' R x ha c E s n mk g q) ∨ (v8.toInt = 1 ∧ 1 ≤ n ∧ CVs I' R x ha c E (g (n - 1).toNat) (n - 1) mk g q) := by
  have hD := h.2.2.st hW tx hS (by decide +kernel) (by decide +kernel) (by decide +kernel)
  have hk : (v8.toInt = 0 ∧ (I' x 9).toInt = (I x 9).toInt) ∨ (v8.toInt = 1 ∧ (I' x 9).toInt = 0) := by
    rcases hc with ⟨-, a1, -, k, -⟩ | ⟨-, a1, -, -, k, -⟩
    · exact Or.inl ⟨a1, k⟩
    · exact Or.inr ⟨a1, k⟩
  rcases c_undo h.1 hW tx hS hc with ⟨a1, a2, a3⟩ | ⟨a1, a2, a3⟩ <;> rcases hk with ⟨b1, b2⟩ | ⟨b1, b2⟩
  · exact Or.inl ⟨a1, a2, a3, h.2.1.st hW tx hS b2 rfl (by decide +kernel) (by decide +kernel) (by decide +kernel), hD⟩
  · exact om_553d3524 a1 b1
  · exact om_9ef46383 a1 b1
  · exact Or.inr ⟨a1, a2, a3, SkN.z b2, hD⟩
theorem cs_back (h : CVs I R x ha c E s n mk g q) (hW : Wf T cn K N I R d) (tx : T x = 1) (hS : St T cn K N d' wik_X10_back wrk_X10_back I R I' R) (hc : Cs_X10_back T I R x u1 v8 I' R) :
    (v8.toInt = 0 ∧ ¬ (0 ≤ u1.toInt ∧ u1.toInt < mk) ∧ CVs I' R x ha c E s n mk g q) ∨ (v8.toInt = 1 ∧ (0 ≤ u1.toInt ∧ u1.toInt < mk) ∧ CVs I' R x ha c E (q u1.toInt.toNat) 0 mk g q) := by
  have hD := h.2.2.st hW tx hS (by decide +kernel) (by decide +kernel) (by decide +kernel)
  have hk : (v8.toInt = 0 ∧ (I' x 9).toInt = (I x 9).toInt) ∨ (v8.toInt = 1 ∧ (I' x 9).toInt = 0) := by
    rcases hc with ⟨-, a1, -, k, -⟩ | ⟨-, -, a1, -, -, k, -⟩
    · exact Or.inl ⟨a1, k⟩
    · exact Or.inr ⟨a1, k⟩
  rcases c_back h.1 hW tx hS hc with ⟨a1, a2, a3⟩ | ⟨a1, a2, a3⟩ <;> rcases hk with ⟨b1, b2⟩ | ⟨b1, b2⟩
  · exact Or.inl ⟨a1, a2, a3, h.2.1.st hW tx hS b2 rfl (by decide +kernel) (by decide +kernel) (by decide +kernel), hD⟩
  · exact om_e880399b a1 b1
  · exact om_9a25501a a1 b1
  · exact Or.inr ⟨a1, a2, a3, SkN.z b2, hD⟩
theorem cs_seed (h : CVs I R x ha c E s n mk g q) (hW : Wf T cn K N I R d) (tx : T x = 1) (hS : St T cn K N d' wik_X10_seed wrk_X10_seed I R I' R) (hc : Cs_X10_seed T I R x u1 v8 I' R) :
    (v8.toInt = 0 ∧ ¬ (ha = 1 ∧ 0 ≤ u1.toInt ∧ u1.toInt ≤ 65536) ∧ CVs I' R x ha c E s n mk g q) ∨ (v8.toInt = 1 ∧ (ha = 1 ∧ 0 ≤ u1.toInt ∧ u1.toInt ≤ 65536) ∧ CVs I' R x ha c E (fun c => if c = 2 then u1.toInt else s c) n mk g q) := by
  have hD := h.2.2.st hW tx hS (by decide +kernel) (by decide +kernel) (by decide +kernel)
  have h9 : (I' x 9).toInt = (I x 9).toInt := congrArg Int32.toInt (hS.cell tx (by decide +kernel))
  rcases c_seed h.1 hW tx hS hc with ⟨a1, a2, a3⟩ | ⟨a1, a2, a3⟩
  · exact Or.inl ⟨a1, a2, a3, h.2.1.st hW tx hS h9 rfl (by decide +kernel) (by decide +kernel) (by decide +kernel), hD⟩
  · exact Or.inr ⟨a1, a2, a3, by rw [XE.eq (s := s) (fun k hk => if_neg (by exact om_30c0316b hk))]; exact h.2.1.st hW tx hS h9 (if_neg (by decide)) (by decide +kernel) (by decide +kernel) (by decide +kernel), hD⟩
theorem cs_mark (h : CVs I R x ha c E s n mk g q) (hW : Wf T cn K N I R d) (tx : T x = 1) (hS : St T cn K N d' wik_X10_mark wrk_X10_mark I R I' R) (hc : Cs_X10_mark T I R x v8 I' R) :
    (v8.toInt = -1 ∧ ¬ (ha = 1 ∧ mk ≤ 2) ∧ CVs I' R x ha c E s n mk g q) ∨ (v8.toInt = mk ∧ (ha = 1 ∧ mk ≤ 2) ∧ CVs I' R x ha c E s n (mk + 1) g (fun i c => if (i : Int) < mk then q i c else s c)) := by
  have hD := h.2.2.st hW tx hS (by decide +kernel) (by decide +kernel) (by decide +kernel)
  have h9 : (I' x 9).toInt = (I x 9).toInt := congrArg Int32.toInt (hS.cell tx (by decide +kernel))
  have hN := h.2.1.st (s' := s) hW tx hS h9 rfl (by decide +kernel) (by decide +kernel) (by decide +kernel)
  rcases c_mark h.1 hW tx hS hc with ⟨a1, a2, a3⟩ | ⟨a1, a2, a3⟩
  · exact Or.inl ⟨a1, a2, a3, hN, hD⟩
  · exact Or.inr ⟨a1, a2, a3, hN, hD⟩
theorem cs_call (h : CVs I R x ha c E s n mk g q) (hW : Wf T cn K N I R d) (tx : T x = 1) (hS : St T cn K N d' wik_X10_call wrk_X10_call I R I' R') (hc : Cs_X10_call T I R x u1 u2 v8 I' R') :
    (v8.toInt = 0 ∧ ¬ (0 ≤ u1.toInt ∧ u1.toInt < c 5 ∧ ¬ bt (s 0) u1.toInt = u2.toInt) ∧ CVs I' R' x ha c E s n mk g q) ∨ (v8.toInt = 1 ∧ (0 ≤ u1.toInt ∧ u1.toInt < c 5 ∧ ¬ bt (s 0) u1.toInt = u2.toInt) ∧ ∃ z : Int32, z.toInt = s 0 ∧ CVs I' R' x ha c E (fun c => if c = 0 then (z ^^^ ((1 : Int32) <<< (u1 &&& 31))).toInt else s c) (kn n) mk (kg n g s) q) := by
  have hD := h.2.2.st hW tx hS (by decide +kernel) (by decide +kernel) (by decide +kernel)
  have h9 : (I' x 9).toInt = (I x 9).toInt := congrArg Int32.toInt (hS.cell tx (by decide +kernel))
  rcases c_call h.1 hW tx hS hc with ⟨a1, a2, a3⟩ | ⟨a1, a2, z, y, a3⟩
  · exact Or.inl ⟨a1, a2, a3, h.2.1.st hW tx hS h9 rfl (by decide +kernel) (by decide +kernel) (by decide +kernel), hD⟩
  · exact Or.inr ⟨a1, a2, z, y, a3, by rw [XE.eq (s := s) (fun k hk => if_neg (by exact om_d5f6b774 hk))]; exact h.2.1.st hW tx hS h9 (if_neg (by decide)) (by decide +kernel) (by decide +kernel) (by decide +kernel), hD⟩
/-! an ALP -/
theorem CVs.alpN (h : CVs I R x ha c E s n mk g q) (k9 : (I8 x 9).toInt = (I x 9).toInt) (g8 : St T cn K N 0 wik_X10_alp wrk_X10_alp I R I8 R8) (hW : Wf T cn K N I R d) (tx : T x = 1) (z : CVw I8 R8 x ha c E s n mk g q) : CVs I8 R8 x ha c E s n mk g q :=
  ⟨z, h.2.1.st hW tx g8 k9 rfl (by decide +kernel) (by decide +kernel) (by decide +kernel), h.2.2.st hW tx g8 (by decide +kernel) (by decide +kernel) (by decide +kernel)⟩
theorem CVs.alpY {ha2 n2 mk2 : Int} {c2 : Nat → Int} {E2 : Nat → Nat → Int} {s2 : Nat → Int} {g2 q2 : Nat → Nat → Int} (h : CVs I R x ha c E s n mk g q) (k9 : (I8 x 9).toInt = 0) (g8 : St T cn K N 0 wik_X10_alp wrk_X10_alp I R I8 R8) (hW : Wf T cn K N I R d) (tx : T x = 1) (z : CVw I8 R8 x ha2 c2 E2 s2 n2 mk2 g2 q2) : CVs I8 R8 x ha2 c2 E2 s2 n2 mk2 g2 q2 :=
  ⟨z, SkN.z k9, h.2.2.st hW tx g8 (by decide +kernel) (by decide +kernel) (by decide +kernel)⟩
theorem CVs.alp9 (h : CVs I8 R8 x ha c E s n mk g q) (hW : Wf T cn K N I8 R8 0) (tx : T x = 1) (hI9 : ∀ a j, a < cn → wm wi_alpT (T a) j = false → I9 a j = I8 a j) (hR9 : ∀ a j, a < cn → wm wr_alpT (T a) j = false → R9 a j = R8 a j) : CVs I9 R9 x ha c E s n mk g q := by
  have lt : ∀ a r, T a = r → ¬ r = 0 → a < cn := fun a r ta hr => (hW.1 a (by rw [ta]; exact hr)).1
  have hx : x < cn := lt x 1 tx (by decide)
  refine ⟨h.1.alp9 hW tx hI9 hR9, h.2.1.cg hW tx (by rw [hI9 x 9 hx (by rw [tx]; decide +kernel)]) (fun a j t1 t2 => hI9 a j (lt a _ rfl (by exact om_8a450a53 t1 t2)) (wm_p (p := fun r => !(Nat.ble 35 r && Nat.ble r 42)) (by decide +kernel) (by rw [Nat.ble_eq_true_of_le t1, Nat.ble_eq_true_of_le t2]; rfl))) (hR9 x 8 hx (by rw [tx]; decide +kernel)) (fun a j ta => hR9 a j (lt a 12 ta (by decide)) (by rw [ta]; exact wm_no (by decide +kernel))) rfl, ?_⟩
  intro a b h8 h13
  rw [hR9 x 8 hx (by rw [tx]; decide +kernel)] at h8
  rw [hR9 x 13 hx (by rw [tx]; decide +kernel)] at h13
  have ta : T a = 12 := hW.rs tx rfl rfl h8
  have tb : T b = 12 := hW.rs tx rfl rfl h13
  have ra : ∀ j, R9 a j = R8 a j := fun j => hR9 a j (lt a 12 ta (by decide)) (by rw [ta]; exact wm_no (by decide +kernel))
  have rb : ∀ j, R9 b j = R8 b j := fun j => hR9 b j (lt b 12 tb (by decide)) (by rw [tb]; exact wm_no (by decide +kernel))
  obtain ⟨z1, z2⟩ := h.2.2 a b h8 h13
  exact ⟨z1, fun k l y k1 k2 l1 l2 hk hl => z2 k l y k1 k2 l1 l2 ((ra k).symm.trans hk) ((rb l).symm.trans hl)⟩
end CzSk6
/-- what both are, with the class's own sky -/
def LawS (I : cz_I) (R : cz_R) (x m : Nat) : Prop := ∃ (ha : Int) (c : Nat → Int) (E : Nat → Nat → Int) (s : Nat → Int) (n mk : Int) (g q : Nat → Nat → Int), OrC ha c E ∧ CVs I R x ha c E s n mk g q ∧ MVw I R m ha c E s n mk g q ∧ RgC ha s n mk g q
theorem LawS.c {I : cz_I} {R : cz_R} {x m : Nat} (h : LawS I R x m) : LawC I R x m := by
  obtain ⟨ha, c, E, s, n, mk, g, q, hOr, hC, hM, hR⟩ := h
  exact ⟨ha, c, E, s, n, mk, g, q, hOr, hC.1, hM, hR⟩
theorem LawS.kp {T : Nat → Nat} {cn : Nat} {K N : Nat → Nat} {d d' : Int} {wi wr : List Nat} {I I' : cz_I} {R R' : cz_R} {x m : Nat} (h : LawS I R x m) (hW : Wf T cn K N I R d) (tx : T x = 1) (tm : T m = 15) (hS : St T cn K N d' wi wr I R I' R') (c1 : okI [2, 3, 4, 5, 6, 18, 20, 24, 8, 10, 11, 27, 28, 31, 32] wi = true) (c2 : okI [2, 8, 10, 11, 19, 6, 21, 22, 23, 33, 34] wr = true) (c3 : wm wi 1 5 = false) (c4 : wm wr 1 2 = false) (c5 : wm wr 1 3 = false) (c6 : wm wr 1 6 = false) (c7 : wm wr 1 7 = false) (m1 : okI [14, 77, 78, 79] wi = true) (m0 : wi.all (fun c => !(rdm (c / 64))) = true) (m2 : okI [14] wr = true) (m3 : wm wi 15 19 = false) (m4 : wm wi 15 20 = false) (m5 : wm wr 15 3 = false) (m6 : wm wr 15 16 = false) (m7 : wm wr 15 17 = false) (m8 : wm wr 15 18 = false) (k1 : wi.all (fun z => !(Nat.ble 35 (z / 64) && Nat.ble (z / 64) 42)) = true := by decide +kernel) (k2 : okI [12] wr = true := by decide +kernel) (k3 : wm wi 1 9 = false := by decide +kernel) (k4 : wm wr 1 8 = false := by decide +kernel) (k5 : wm wr 1 13 = false := by decide +kernel) : LawS I' R' x m := by
  obtain ⟨ha, c, E, s, n, mk, g, q, hOr, hC, hM, hR⟩ := h
  exact ⟨ha, c, E, s, n, mk, g, q, hOr, hC.kp hW tx hS c1 c2 c3 c4 c5 c6 c7 k1 k2 k3 k4 k5, hM.kp hW tm hS m1 m0 m2 m3 m4 m5 m6 m7 m8, hR⟩
section CzLs
variable {T : Nat → Nat} {cn : Nat} {K N : Nat → Nat} {I I8 I9 : cz_I} {R R8 R9 : cz_R} {x m : Nat} {v8 v9 u1 u2 b8 b9 : Int32}
theorem ls_cloud (h : LawS I R x m) (hW : Wf T cn K N I R 0) (tx : T x = 1) (tm : T m = 15) (g8 : St T cn K N 0 wik_X10_cloud wrk_X10_cloud I R I8 R8) (d8 : Cs_X10_cloud T I R x u1 u2 v8 I8 R8) (g9 : St T cn K N 0 wik_X12_cloud wrk_X12_cloud I8 R8 I9 R8) (d9 : Cs_X12_cloud T I8 R8 m u1 u2 v9 I9 R8) : v8.toInt = v9.toInt ∧ LawS I9 R8 x m := by
  obtain ⟨ha, c, E, s, n, mk, g, q, hOr, hC, hM, hR⟩ := h
  have cb := hC.cab hW tx
  have nb := hC.nb hW tx
  have h01 := hM.h01
  have hM8 := hM.kp hW tm g8 (by decide +kernel) (by decide +kernel) (by decide +kernel) (by decide +kernel) (by decide +kernel) (by decide +kernel) (by decide +kernel) (by decide +kernel) (by decide +kernel)
  have cc := cs_cloud hC hW tx g8 d8
  have mm := m_cloud hM8 g8.1 tm g9 d9 (hC.s1b hW tx)
  have hR2 := hR
  obtain ⟨r0, rg, rq, rh⟩ := hR2
  rcases cc with ⟨a1, a2, a3⟩ | ⟨a1, a2, a3⟩ <;> rcases mm with ⟨b1, b2, b3⟩ | ⟨b1, b2, b3⟩
  · exact ⟨by exact om_5bac22bd a1 b1, ha, c, E, s, n, mk, g, q, hOr, a3.kp g8.1 tx g9 (by decide +kernel) (by decide +kernel) (by decide +kernel) (by decide +kernel) (by decide +kernel) (by decide +kernel) (by decide +kernel), b3, hR⟩
  · exfalso; exact a2 b2
  · exfalso; exact b2 a2
  · exact ⟨by exact om_3345b898 a1 b1, ha, c, E, _, _, _, _, _, hOr, a3.kp g8.1 tx g9 (by decide +kernel) (by decide +kernel) (by decide +kernel) (by decide +kernel) (by decide +kernel) (by decide +kernel) (by decide +kernel), b3, hR.keep (by exact om_21cdfca3 a2.1) (ac_0 r0)⟩
theorem ls_draw (h : LawS I R x m) (hW : Wf T cn K N I R 0) (tx : T x = 1) (tm : T m = 15) (g8 : St T cn K N 0 wik_X10_draw wrk_X10_draw I R I8 R8) (d8 : Cs_X10_draw T I R x v8 I8 R8) (g9 : St T cn K N 0 wik_X12_draw wrk_X12_draw I8 R8 I9 R8) (d9 : Cs_X12_draw T I8 R8 m v9 I9 R8) : v8.toInt = v9.toInt ∧ LawS I9 R8 x m := by
  obtain ⟨ha, c, E, s, n, mk, g, q, hOr, hC, hM, hR⟩ := h
  have cb := hC.cab hW tx
  have nb := hC.nb hW tx
  have h01 := hM.h01
  have hM8 := hM.kp hW tm g8 (by decide +kernel) (by decide +kernel) (by decide +kernel) (by decide +kernel) (by decide +kernel) (by decide +kernel) (by decide +kernel) (by decide +kernel) (by decide +kernel)
  have cc := cs_draw hC hW tx g8 d8
  have mm := m_draw hM8 g8.1 tm g9 d9 (hC.s1b hW tx)
  have hR2 := hR
  obtain ⟨r0, rg, rq, rh⟩ := hR2
  rcases cc with ⟨a1, a2, a3⟩ | ⟨a1, a2, a3⟩ <;> rcases mm with ⟨b1, b2, b3⟩ | ⟨b1, b2, b3⟩
  · exact ⟨by exact om_357b0e22 a1 b1, ha, c, E, s, n, mk, g, q, hOr, a3.kp g8.1 tx g9 (by decide +kernel) (by decide +kernel) (by decide +kernel) (by decide +kernel) (by decide +kernel) (by decide +kernel) (by decide +kernel), b3, hR⟩
  · exfalso; exact a2 b2
  · exfalso; exact b2 a2
  · exact ⟨by exact om_2757374c a1 b1, ha, c, E, _, _, _, _, _, hOr, a3.kp g8.1 tx g9 (by decide +kernel) (by decide +kernel) (by decide +kernel) (by decide +kernel) (by decide +kernel) (by decide +kernel) (by decide +kernel), b3, hR.keep (by exact om_21cdfca3 a2.1) (ac_0 r0)⟩
theorem ls_lift (h : LawS I R x m) (hW : Wf T cn K N I R 0) (tx : T x = 1) (tm : T m = 15) (g8 : St T cn K N 0 wik_X10_lift wrk_X10_lift I R I8 R8) (d8 : Cs_X10_lift T I R x v8 I8 R8) (g9 : St T cn K N 0 wik_X12_lift wrk_X12_lift I8 R8 I9 R8) (d9 : Cs_X12_lift T I8 R8 m v9 I9 R8) : v8.toInt = v9.toInt ∧ LawS I9 R8 x m := by
  obtain ⟨ha, c, E, s, n, mk, g, q, hOr, hC, hM, hR⟩ := h
  have cb := hC.cab hW tx
  have nb := hC.nb hW tx
  have h01 := hM.h01
  have hM8 := hM.kp hW tm g8 (by decide +kernel) (by decide +kernel) (by decide +kernel) (by decide +kernel) (by decide +kernel) (by decide +kernel) (by decide +kernel) (by decide +kernel) (by decide +kernel)
  have cc := cs_lift hC hW tx g8 d8
  have mm := m_lift hM8 g8.1 tm g9 d9 (hC.s1b hW tx)
  have hR2 := hR
  obtain ⟨r0, rg, rq, rh⟩ := hR2
  rcases cc with ⟨a1, a2, a3⟩ | ⟨a1, a2, a3⟩ <;> rcases mm with ⟨b1, b2, b3⟩ | ⟨b1, b2, b3⟩
  · exact ⟨by exact om_5bac22bd a1 b1, ha, c, E, s, n, mk, g, q, hOr, a3.kp g8.1 tx g9 (by decide +kernel) (by decide +kernel) (by decide +kernel) (by decide +kernel) (by decide +kernel) (by decide +kernel) (by decide +kernel), b3, hR⟩
  · exfalso; exact om_904f8317 a2 b2.2
  · exfalso; have := rh; exact om_a2d78e9a h01 rh a2 b2 this
  · exact ⟨by exact om_3345b898 a1 b1, ha, c, E, _, _, _, _, _, hOr, a3.kp g8.1 tx g9 (by decide +kernel) (by decide +kernel) (by decide +kernel) (by decide +kernel) (by decide +kernel) (by decide +kernel) (by decide +kernel), b3, hR.keep (by exact om_21cdfca3 b2.1) ⟨show 0 ≤ s 0 from r0.1, r0.2⟩⟩
theorem ls_seed (h : LawS I R x m) (hW : Wf T cn K N I R 0) (tx : T x = 1) (tm : T m = 15) (g8 : St T cn K N 0 wik_X10_seed wrk_X10_seed I R I8 R) (d8 : Cs_X10_seed T I R x u1 v8 I8 R) (g9 : St T cn K N 0 wik_X12_seed wrk_X12_seed I8 R I9 R) (d9 : Cs_X12_seed T I8 R m u1 v9 I9 R) : v8.toInt = v9.toInt ∧ LawS I9 R x m := by
  obtain ⟨ha, c, E, s, n, mk, g, q, hOr, hC, hM, hR⟩ := h
  have cb := hC.cab hW tx
  have nb := hC.nb hW tx
  have h01 := hM.h01
  have hM8 := hM.kp hW tm g8 (by decide +kernel) (by decide +kernel) (by decide +kernel) (by decide +kernel) (by decide +kernel) (by decide +kernel) (by decide +kernel) (by decide +kernel) (by decide +kernel)
  have cc := cs_seed hC hW tx g8 d8
  have mm := m_seed hM8 g8.1 tm g9 d9 (hC.s1b hW tx)
  have hR2 := hR
  obtain ⟨r0, rg, rq, rh⟩ := hR2
  rcases cc with ⟨a1, a2, a3⟩ | ⟨a1, a2, a3⟩ <;> rcases mm with ⟨b1, b2, b3⟩ | ⟨b1, b2, b3⟩
  · exact ⟨by exact om_5bac22bd a1 b1, ha, c, E, s, n, mk, g, q, hOr, a3.kp g8.1 tx g9 (by decide +kernel) (by decide +kernel) (by decide +kernel) (by decide +kernel) (by decide +kernel) (by decide +kernel) (by decide +kernel), b3, hR⟩
  · exfalso; exact a2 b2
  · exfalso; exact b2 a2
  · exact ⟨by exact om_3345b898 a1 b1, ha, c, E, _, _, _, _, _, hOr, a3.kp g8.1 tx g9 (by decide +kernel) (by decide +kernel) (by decide +kernel) (by decide +kernel) (by decide +kernel) (by decide +kernel) (by decide +kernel), b3, ⟨r0, rg, rq, fun z => by exact om_2f7fce68 a2.1 z⟩⟩
theorem ls_undo (h : LawS I R x m) (hW : Wf T cn K N I R 0) (tx : T x = 1) (tm : T m = 15) (g8 : St T cn K N 0 wik_X10_undo wrk_X10_undo I R I8 R) (d8 : Cs_X10_undo T I R x v8 I8 R) (g9 : St T cn K N 0 wik_X12_undo wrk_X12_undo I8 R I9 R) (d9 : Cs_X12_undo T I8 R m v9 I9 R) : v8.toInt = v9.toInt ∧ LawS I9 R x m := by
  obtain ⟨ha, c, E, s, n, mk, g, q, hOr, hC, hM, hR⟩ := h
  have cb := hC.cab hW tx
  have nb := hC.nb hW tx
  have h01 := hM.h01
  have hM8 := hM.kp hW tm g8 (by decide +kernel) (by decide +kernel) (by decide +kernel) (by decide +kernel) (by decide +kernel) (by decide +kernel) (by decide +kernel) (by decide +kernel) (by decide +kernel)
  have cc := cs_undo hC hW tx g8 d8
  have mm := m_undo hM8 g8.1 tm g9 d9 (hC.s1b hW tx)
  have hR2 := hR
  obtain ⟨r0, rg, rq, rh⟩ := hR2
  rcases cc with ⟨a1, a2, a3⟩ | ⟨a1, a2, a3⟩ <;> rcases mm with ⟨b1, b2, b3⟩ | ⟨b1, b2, b3⟩
  · exact ⟨by exact om_5bac22bd a1 b1, ha, c, E, s, n, mk, g, q, hOr, a3.kp g8.1 tx g9 (by decide +kernel) (by decide +kernel) (by decide +kernel) (by decide +kernel) (by decide +kernel) (by decide +kernel) (by decide +kernel), b3, hR⟩
  · exfalso; exact om_904f8317 a2 b2.2
  · exfalso; have := rh; exact om_0e887f03 nb.1.2 nb.1.1 h01 rh a2 b2 this
  · exact ⟨by exact om_3345b898 a1 b1, ha, c, E, _, _, _, _, _, hOr, a3.kp g8.1 tx g9 (by decide +kernel) (by decide +kernel) (by decide +kernel) (by decide +kernel) (by decide +kernel) (by decide +kernel) (by decide +kernel), b3, ⟨rg _ (by exact om_ade5bec3 nb.1.2 nb.1.1 a2), fun i hi => rg i (by exact om_7c0d6b96 hi), rq, fun z => by exact om_92b7ea9d b2.1 z⟩⟩
theorem ls_back (h : LawS I R x m) (hW : Wf T cn K N I R 0) (tx : T x = 1) (tm : T m = 15) (g8 : St T cn K N 0 wik_X10_back wrk_X10_back I R I8 R) (d8 : Cs_X10_back T I R x u1 v8 I8 R) (g9 : St T cn K N 0 wik_X12_back wrk_X12_back I8 R I9 R) (d9 : Cs_X12_back T I8 R m u1 v9 I9 R) : v8.toInt = v9.toInt ∧ LawS I9 R x m := by
  obtain ⟨ha, c, E, s, n, mk, g, q, hOr, hC, hM, hR⟩ := h
  have cb := hC.cab hW tx
  have nb := hC.nb hW tx
  have h01 := hM.h01
  have hM8 := hM.kp hW tm g8 (by decide +kernel) (by decide +kernel) (by decide +kernel) (by decide +kernel) (by decide +kernel) (by decide +kernel) (by decide +kernel) (by decide +kernel) (by decide +kernel)
  have cc := cs_back hC hW tx g8 d8
  have mm := m_back hM8 g8.1 tm g9 d9 (hC.s1b hW tx)
  have hR2 := hR
  obtain ⟨r0, rg, rq, rh⟩ := hR2
  rcases cc with ⟨a1, a2, a3⟩ | ⟨a1, a2, a3⟩ <;> rcases mm with ⟨b1, b2, b3⟩ | ⟨b1, b2, b3⟩
  · exact ⟨by exact om_5bac22bd a1 b1, ha, c, E, s, n, mk, g, q, hOr, a3.kp g8.1 tx g9 (by decide +kernel) (by decide +kernel) (by decide +kernel) (by decide +kernel) (by decide +kernel) (by decide +kernel) (by decide +kernel), b3, hR⟩
  · exfalso; exact om_3fc3c925 a2 b2.2.1 b2.2.2
  · exfalso; have := rh; exact om_fc78b8ee h01 rh a2.2 a2.1 b2 this
  · exact ⟨by exact om_3345b898 a1 b1, ha, c, E, _, _, _, _, _, hOr, a3.kp g8.1 tx g9 (by decide +kernel) (by decide +kernel) (by decide +kernel) (by decide +kernel) (by decide +kernel) (by decide +kernel) (by decide +kernel), b3, ⟨rq _ (by exact om_479568b2 a2.1 a2.2), fun i hi => by exact om_3ce8c7cc hi, rq, fun z => by exact om_f67563b9 b2.1 z⟩⟩
theorem ls_mark (h : LawS I R x m) (hW : Wf T cn K N I R 0) (tx : T x = 1) (tm : T m = 15) (g8 : St T cn K N 0 wik_X10_mark wrk_X10_mark I R I8 R) (d8 : Cs_X10_mark T I R x v8 I8 R) (g9 : St T cn K N 0 wik_X12_mark wrk_X12_mark I8 R I9 R) (d9 : Cs_X12_mark T I8 R m v9 I9 R) : v8.toInt = v9.toInt ∧ LawS I9 R x m := by
  obtain ⟨ha, c, E, s, n, mk, g, q, hOr, hC, hM, hR⟩ := h
  have cb := hC.cab hW tx
  have nb := hC.nb hW tx
  have h01 := hM.h01
  have hM8 := hM.kp hW tm g8 (by decide +kernel) (by decide +kernel) (by decide +kernel) (by decide +kernel) (by decide +kernel) (by decide +kernel) (by decide +kernel) (by decide +kernel) (by decide +kernel)
  have cc := cs_mark hC hW tx g8 d8
  have mm := m_mark hM8 g8.1 tm g9 d9 (hC.s1b hW tx)
  have hR2 := hR
  obtain ⟨r0, rg, rq, rh⟩ := hR2
  rcases cc with ⟨a1, a2, a3⟩ | ⟨a1, a2, a3⟩ <;> rcases mm with ⟨b1, b2, b3⟩ | ⟨b1, b2, b3⟩
  · exact ⟨by exact om_357b0e22 a1 b1, ha, c, E, s, n, mk, g, q, hOr, a3.kp g8.1 tx g9 (by decide +kernel) (by decide +kernel) (by decide +kernel) (by decide +kernel) (by decide +kernel) (by decide +kernel) (by decide +kernel), b3, hR⟩
  · exfalso; exact a2 b2
  · exfalso; exact b2 a2
  · exact ⟨by exact om_2757374c a1 b1, ha, c, E, _, _, _, _, _, hOr, a3.kp g8.1 tx g9 (by decide +kernel) (by decide +kernel) (by decide +kernel) (by decide +kernel) (by decide +kernel) (by decide +kernel) (by decide +kernel), b3, ⟨r0, rg, fun i hi => by
      show 0 ≤ (if (i : Int) < mk then q i 0 else s 0) ∧ (if (i : Int) < mk then q i 0 else s 0) ≤ 63
      split
      · rename_i z; exact rq i z
      · exact r0, fun z => by exact om_6b03c73e a2.1 z⟩⟩
theorem ls_call (h : LawS I R x m) (hW : Wf T cn K N I R 0) (tx : T x = 1) (tm : T m = 15) (g8 : St T cn K N 0 wik_X10_call wrk_X10_call I R I8 R8) (d8 : Cs_X10_call T I R x u1 b8 v8 I8 R8) (g9 : St T cn K N 0 wik_X12_call wrk_X12_call I8 R8 I9 R8) (d9 : Cs_X12_call T I8 R8 m u1 b9 v9 I9 R8) (eb : b8.toInt = b9.toInt) : v8.toInt = v9.toInt ∧ LawS I9 R8 x m := by
  obtain ⟨ha, c, E, s, n, mk, g, q, hOr, hC, hM, hR⟩ := h
  have cb := hC.cab hW tx
  have nb := hC.nb hW tx
  have h01 := hM.h01
  have hM8 := hM.kp hW tm g8 (by decide +kernel) (by decide +kernel) (by decide +kernel) (by decide +kernel) (by decide +kernel) (by decide +kernel) (by decide +kernel) (by decide +kernel) (by decide +kernel)
  have cc := cs_call hC hW tx g8 d8
  have mm := m_call hM8 g8.1 tm g9 d9 (hC.s1b hW tx)
  have hR2 := hR
  obtain ⟨r0, rg, rq, rh⟩ := hR2
  rw [← eb] at mm
  rcases cc with ⟨a1, a2, a3⟩ | ⟨a1, a2, z1, y1, a3⟩ <;> rcases mm with ⟨b1, b2, b3⟩ | ⟨b1, b2, z2, y2, b3⟩
  · exact ⟨by exact om_5bac22bd a1 b1, ha, c, E, s, n, mk, g, q, hOr, a3.kp g8.1 tx g9 (by decide +kernel) (by decide +kernel) (by decide +kernel) (by decide +kernel) (by decide +kernel) (by decide +kernel) (by decide +kernel), b3, hR⟩
  · exact absurd b2.2 a2
  · exfalso
    obtain ⟨w, p, k, -, -, -, hav, -⟩ := hM
    rcases hav with ⟨h1, -, h4⟩ | ⟨h1, -⟩
    · have := h4 5; exact om_279ba68f a2.2.1 a2.1 this
    · exact b2 ⟨h1, a2⟩
  · obtain rfl : z1 = z2 := Int32.toInt_inj.mp (y1.trans y2.symm)
    exact ⟨by exact om_3345b898 a1 b1, ha, c, E, _, _, _, _, _, hOr, a3.kp g8.1 tx g9 (by decide +kernel) (by decide +kernel) (by decide +kernel) (by decide +kernel) (by decide +kernel) (by decide +kernel) (by decide +kernel), b3, hR.keep (by exact om_21cdfca3 b2.1) (xo_b (by rw [y1]; exact r0) (by exact om_d73abc73 cb.2 cb.1 a2.1 a2.2.1))⟩
theorem ls_calls (h : LawS I R x m) (hW : Wf T cn K N I R 0) (tx : T x = 1) (tm : T m = 15) (g8 : St T cn K N 0 wik_X10_calls wrk_X10_calls I R I8 R) (d8 : Cs_X10_calls T I R x v8 I8 R) (g9 : St T cn K N 0 wik_X12_calls wrk_X12_calls I8 R I9 R) (d9 : Cs_X12_calls T I8 R m v9 I9 R) : v8.toInt = v9.toInt ∧ LawS I9 R x m := by
  obtain ⟨ha, c, E, s, n, mk, g, q, hOr, hC, hM, hR⟩ := h
  have hM8 := hM.kp hW tm g8 (by decide +kernel) (by decide +kernel) (by decide +kernel) (by decide +kernel) (by decide +kernel) (by decide +kernel) (by decide +kernel) (by decide +kernel) (by decide +kernel)
  have hC8 := hC.kp hW tx g8 (by decide +kernel) (by decide +kernel) (by decide +kernel) (by decide +kernel) (by decide +kernel) (by decide +kernel) (by decide +kernel)
  have h0 := hC.1
  obtain ⟨al, dr, nw, pa, A, B, hp, s1, -, -, ⟨t0, t1, t2, -⟩, s5, s6, -⟩ := h0
  obtain ⟨p1, p2, p3, p4, p5, p6, p7⟩ := hp
  have h1 := hM8
  obtain ⟨w, p, k, k1, k2, k3, hav, hs, -⟩ := h1
  have s0 := hs.1 0 (by exact om_d64e39d1)
  refine ⟨?_, ha, c, E, s, n, mk, g, q, hOr, hC8.kp g8.1 tx g9 (by decide +kernel) (by decide +kernel) (by decide +kernel) (by decide +kernel) (by decide +kernel) (by decide +kernel) (by decide +kernel), hM8.kp g8.1 tm g9 (by decide +kernel) (by decide +kernel) (by decide +kernel) (by decide +kernel) (by decide +kernel) (by decide +kernel) (by decide +kernel) (by decide +kernel) (by decide +kernel), hR⟩
  rcases d8 with ⟨a1, a2, -⟩ | ⟨a1, a2, -⟩ <;> rcases d9 with ⟨b1, b2, -⟩ | ⟨b1, b2, -⟩
  · exact om_357b0e22 a2 b1
  · have := (hM8.ha1 b2).1
    exact om_ccd5c8c2 s1 a1 this
  · have := hM8.ha0 b2
    exact om_1437441d s1 a1 this
  · have y1 := a2 nw p4
    have y2 := b1 w k1
    exact om_ff5afca4 t0 s0 y1 y2
theorem ls_alpN (h : LawS I R x m) (k9 : (I8 x 9).toInt = (I x 9).toInt) (hW : Wf T cn K N I R 0) (tx : T x = 1) (tm : T m = 15) (g8 : St T cn K N 0 wik_X10_alp wrk_X10_alp I R I8 R8) (hF : ∀ dr, R x 3 = some dr → FrK R dr (fun _ => True) T I I8) (hO : ∀ dr, R x 3 = some dr → FrO 2 dr T I I8) (kr : R8 x 2 = R x 2 ∧ R8 x 3 = R x 3) (kp : (∀ a j, R7 (T a) → I8 a j = I a j) ∧ I8 x 5 = I x 5) (hI9 : ∀ a j, a < cn → wm wi_alpT (T a) j = false → I9 a j = I8 a j) (hR9 : ∀ a j, a < cn → wm wr_alpT (T a) j = false → R9 a j = R8 a j) (h14 : ∀ a j, a < cn → T a = 14 → I9 a j = I8 a j) (hN : AlN T cn I8 I9 R8 R9 m) : LawS I9 R9 x m := by
  obtain ⟨ha, c, E, s, n, mk, g, q, hOr, hC, hM, hR⟩ := h
  have lt : ∀ a r, T a = r → ¬ r = 0 → a < cn := fun a r ta hr => (g8.1.1 a (by rw [ta]; exact hr)).1
  have hm : m < cn := lt m 15 tm (by decide)
  have hC8 : CVs I8 R8 x ha c E s n mk g q := CVs.alpN hC k9 g8 hW tx (hC.1.alpN hW tx hO hF kr kp (g8.rcell tx (by decide +kernel)) (g8.rcell tx (by decide +kernel)) (fun a j ta => by
    rcases ta with ta | ta | ta | ta | ta | ta | ta | ta | ta | ta | ta <;> exact g8.rcell ta (wm_no (by decide +kernel))))
  have hM8 := hM.kp hW tm g8 (by decide +kernel) (by decide +kernel) (by decide +kernel) (by decide +kernel) (by decide +kernel) (by decide +kernel) (by decide +kernel) (by decide +kernel) (by decide +kernel)
  obtain ⟨n3, n19, n20, nr⟩ := hN
  refine ⟨ha, c, E, s, n, mk, g, q, hOr, hC8.alp9 g8.1 tx hI9 hR9, ?_, hR⟩
  obtain ⟨w, p, k, p1, p2, p3, hav, hs, hn, hmk, hp, hk⟩ := hM8
  have tw : T w = 77 := g8.1.rs tm rfl rfl p1
  have tp : T p = 78 := g8.1.rs tm rfl rfl p2
  have tk : T k = 79 := g8.1.rs tm rfl rfl p3
  refine ⟨w, p, k, (hR9 m 16 hm (by rw [tm]; decide +kernel)).trans p1, (hR9 m 17 hm (by rw [tm]; decide +kernel)).trans p2, (hR9 m 18 hm (by rw [tm]; decide +kernel)).trans p3, hav.kp n3 (fun b hb => ?_), hs.eq (fun c _ => nr w c (lt w 77 tw (by decide)) (Or.inl tw)), by rw [n19]; exact hn, by rw [n20]; exact hmk, fun i hi => (hp i hi).eq (fun c _ => nr p _ (lt p 78 tp (by decide)) (Or.inr (Or.inl tp))), fun i hi => (hk i hi).eq (fun c _ => nr k _ (lt k 79 tk (by decide)) (Or.inr (Or.inr (Or.inl tk))))⟩
  have tb : T b = 14 := g8.1.rsN tm rfl hb
  have hb' : b < cn := lt b 14 tb (by decide)
  exact ⟨fun j => h14 b j hb' tb, fun v => (v.kp g8.1 tb (h14 b 8 hb' tb) (fun a j ta => nr a j (lt a _ rfl (fun z => by rw [z] at ta; cases ta)) (Or.inr (Or.inr (Or.inr ta))))).cr (fun j => hR9 b j hb' (by rw [tb]; exact wm_no (by decide +kernel)))⟩
theorem ls_alpY {l : Nat → Int} {E' : Nat → Nat → Int} (h : LawS I R x m) (k9 : (I8 x 9).toInt = 0) (hOr1 : OrC 1 l E') (hW : Wf T cn K N I R 0) (tx : T x = 1) (tm : T m = 15) (g8 : St T cn K N 0 wik_X10_alp wrk_X10_alp I R I8 R8) (r2 : R8 x 2 = R x 3 ∧ R8 x 3 = R x 2) (f3 : ∀ dr, R x 3 = some dr → AlT R dr → AlC I8 R dr l E') (f1 : (I8 x 5).toInt = 1) (f4 : ∀ b, R8 x 6 = some b → (I8 b 0).toInt = 0) (f5 : ∀ b, R8 x 6 = some b → (I8 b 1).toInt = 0) (f6 : ∀ b, R8 x 6 = some b → (I8 b 2).toInt = 0) (f7 : ∀ b, R8 x 7 = some b → (I8 b 0).toInt = 0) (f8 : ∀ b, R8 x 7 = some b → (I8 b 2).toInt = 0) (f2 : ∀ b, R8 x 2 = some b → ∀ k, k < 7 → (I8 b (csl k)).toInt = l k) (hI9 : ∀ a j, a < cn → wm wi_alpT (T a) j = false → I9 a j = I8 a j) (hR9 : ∀ a j, a < cn → wm wr_alpT (T a) j = false → R9 a j = R8 a j) (hY : AlY I9 R8 R9 m l E') : LawS I9 R9 x m := by
  obtain ⟨ha, c, E, s, n, mk, g, q, hOr, hC, hM, hR⟩ := h
  have lt : ∀ a r, T a = r → ¬ r = 0 → a < cn := fun a r ta hr => (g8.1.1 a (by rw [ta]; exact hr)).1
  have hm : m < cn := lt m 15 tm (by decide)
  have hC8 : CVs I8 R8 x 1 l E' (fun _ => 0) 0 0 g q := CVs.alpY hC k9 g8 hW tx (hC.1.alpY hW tx r2 (g8.rcell tx (by decide +kernel)) (g8.rcell tx (by decide +kernel)) (fun a j ta => by
    rcases ta with ta | ta | ta | ta | ta | ta | ta | ta | ta | ta | ta <;> exact g8.rcell ta (wm_no (by decide +kernel))) f1 (fun b hb => ⟨f2 b hb 0 (by exact om_471261d4), f2 b hb, f2 b hb 2 (by exact om_1d430bcf), f2 b hb 5 (by exact om_ffc573ad)⟩) f3 f4 f5 f6 f7 f8)
  have hM8 := hM.kp hW tm g8 (by decide +kernel) (by decide +kernel) (by decide +kernel) (by decide +kernel) (by decide +kernel) (by decide +kernel) (by decide +kernel) (by decide +kernel) (by decide +kernel)
  obtain ⟨w, p, k, p1, p2, p3, -⟩ := hM8
  obtain ⟨⟨b, y1, y2, y3, y4, y5, y6⟩, yw, y19, y20⟩ := hY
  exact ⟨1, l, E', fun _ => 0, 0, 0, g, q, hOr1, hC8.alp9 g8.1 tx hI9 hR9, ⟨w, p, k, (hR9 m 16 hm (by rw [tm]; decide +kernel)).trans p1, (hR9 m 17 hm (by rw [tm]; decide +kernel)).trans p2, (hR9 m 18 hm (by rw [tm]; decide +kernel)).trans p3, Or.inr ⟨rfl, b, y1, y2, y3, y4, y5, y6⟩, ⟨fun c hc => by rw [yw w p1 c (by exact om_e72fde65 hc)]; rfl, fun k hk z => by exfalso; revert z; show ¬ (k : Int) < 0; exact om_7ccd5d6f hk⟩, y19, y20, fun i hi => by omega, fun i hi => by omega⟩, ⟨by decide, by decide⟩, fun i hi => by exact om_3ce8c7cc hi, fun i hi => by exact om_3ce8c7cc hi, fun z => by exact om_915a6e52 z⟩
theorem ls_nights (tx : T x = 1) (tm : T m = 15) (h8 : LawS I8 R8 x m) (hW8 : Wf T cn K N I8 R8 0) (g9 : St T cn K N 0 wik_X12_nights wrk_X12_nights I8 R8 I9 R8) (hr : ∀ w, R8 m 16 = some w → ∀ c : Nat, c < 15 → I9 w c = I8 w c) : LawS I9 R8 x m := by
  obtain ⟨ha, c, E, s, n, mk, g, q, hOr, hC, hM, hR⟩ := h8
  refine ⟨ha, c, E, s, n, mk, g, q, hOr, hC.kp hW8 tx g9 (by decide +kernel) (by decide +kernel) (by decide +kernel) (by decide +kernel) (by decide +kernel) (by decide +kernel) (by decide +kernel), ?_, hR⟩
  obtain ⟨w, p, k, p1, p2, p3, hav, hs, hn, hmk, hp, hk⟩ := hM
  have tp : T p = 78 := hW8.rs tm rfl rfl p2
  have tk : T k = 79 := hW8.rs tm rfl rfl p3
  exact ⟨w, p, k, p1, p2, p3, hav.kq hW8 tm (fun a j ta => by
    rcases ta with ta | ta
    · exact g9.cell ta (wm_no (by decide +kernel))
    · exact g9.2.1 a j (wm_p (p := fun r => !(rdm r)) (by decide +kernel) (by rw [ta]; rfl))), hs.eq (fun c hc => hr w p1 c hc), by rw [g9.cell tm (by decide +kernel)]; exact hn, by rw [g9.cell tm (by decide +kernel)]; exact hmk, fun i hi => (hp i hi).eq (fun c _ => g9.cell tp (wm_no (by decide +kernel))), fun i hi => (hk i hi).eq (fun c _ => g9.cell tk (wm_no (by decide +kernel)))⟩
end CzLs
section CzSk7
variable {T : Nat → Nat} {cn : Nat} {K N : Nat → Nat} {d d' : Int} {wi wr wi' wr' : List Nat} {I I' I8 I9 : cz_I} {R R' R8 R9 : cz_R} {x m : Nat} {ha n mk : Int} {c : Nat → Int} {E X : Nat → Nat → Int} {s s' : Nat → Int} {g q : Nat → Nat → Int} {v8 v9 u1 u2 u3 b8 b9 : Int32}
/-! the sky's answers -/
theorem nN {a b : Int} (ha : 0 ≤ a) (hb : 0 ≤ b) : (a + b).toNat = a.toNat + b.toNat := by exact om_a84f818d ha hb
theorem CVs.hut (h : CVs I R x ha c E s n mk g q) (hOr : OrC ha c E) (hW : Wf T cn K N I R d) (tx : T x = 1) : ∀ al r, R x 2 = some al → R al 6 = some r → ∀ k : Nat, (k : Int) < (I al 5).toInt → (I r k).toInt = E 35 k ∧ 0 ≤ E 35 k ∧ E 35 k ≤ 3 := by
  obtain ⟨al', dr, nw', pa, A, B, hp, s1, ⟨v0, v1, v2, v5, v6⟩, -⟩ := h.1
  obtain ⟨tal, -⟩ := hp.ro hW tx
  obtain ⟨p1, -⟩ := hp
  intro al r h2 h6 k hk
  obtain rfl := Option.some.inj (p1.symm.trans h2)
  have c3 : (I al' 5).toInt = c 3 := v1 3 (by exact om_6936d390)
  rw [c3] at hk
  obtain ⟨g1, g2, g3, gE, gH⟩ := hOr.gd
  have b := gH k hk
  exact ⟨v6.2 35 k r (by exact om_436b56e8) hk (ObH h6), b.1, by exact om_36e14220 g1.2 g1.1 b.2⟩
theorem MVw.hut (h : MVw I R m ha c E s n mk g q) (hOr : OrC ha c E) (hW : Wf T cn K N I R d) (tm : T m = 15) : ∀ b r, R m 3 = some b → R b 15 = some r → ∀ k : Nat, (k : Int) < (I b 3).toInt → (I r k).toInt = E 35 k ∧ 0 ≤ E 35 k ∧ E 35 k < (I b 1).toInt ∧ E 35 k ≤ 3 := by
  intro b r hb hr k hk
  obtain ⟨-, b', hb2, -, y1, y2, -, y5⟩ := h.ha1 ⟨b, hb⟩
  obtain rfl := Option.some.inj (hb.symm.trans hb2)
  have c3 : (I b 3).toInt = c 3 := y1 3 (by exact om_6936d390)
  rw [c3] at hk
  obtain ⟨g1, g2, g3, gE, gH⟩ := hOr.gd
  have bb := gH k hk
  have c1 : (I b 1).toInt = c 1 := y1 1 (by exact om_0b38c7b4)
  exact ⟨y5.2 35 k r (by exact om_b923cb20) hk hr, bb.1, by exact om_634ef7dd bb.2 c1, by exact om_32341fc0 g1.2 g1.1 bb.2 c1⟩
theorem ls_due (hOr : OrC ha c E) (hC : CVs I R x ha c E s n mk g q) (hM : MVw I R m ha c E s n mk g q) (hR : RgC ha s n mk g q) (hW : Wf T cn K N I R 0) (tx : T x = 1) (tm : T m = 15) (g8 : St T cn K N 0 wik_X10_due wrk_X10_due I R I8 R) (kq : SkQ I8 R x (XE c E s)) (d8 : Cs_X10_due T I R x (XE c E s) (fun k => E 35 k) u1 v8 I8 R) (g9 : St T cn K N 0 wik_X12_due wrk_X12_due I8 R I9 R) (d9 : Cs_X12_due T I8 R m (XE c E s) (fun k => E 35 k) u1 v9 I9 R) : v8.toInt = v9.toInt ∧ LawS I9 R x m := by
  have hM8 := hM.kp hW tm g8 (by decide +kernel) (by decide +kernel) (by decide +kernel) (by decide +kernel) (by decide +kernel) (by decide +kernel) (by decide +kernel) (by decide +kernel) (by decide +kernel)
  have hC8 := hC.au hW tx g8 kq (by decide +kernel) (by decide +kernel) (by decide +kernel) (by decide +kernel) (by decide +kernel) (by decide +kernel) (by decide +kernel)
  refine ⟨?_, ha, c, E, s, n, mk, g, q, hOr, hC8.kp g8.1 tx g9 (by decide +kernel) (by decide +kernel) (by decide +kernel) (by decide +kernel) (by decide +kernel) (by decide +kernel) (by decide +kernel), hM8.kp g8.1 tm g9 (by decide +kernel) (by decide +kernel) (by decide +kernel) (by decide +kernel) (by decide +kernel) (by decide +kernel) (by decide +kernel) (by decide +kernel) (by decide +kernel), hR⟩
  obtain ⟨al, nw, p1, p4, f5, f0, f1, f3, f6, fw⟩ := hC.1.num
  obtain ⟨g1, g2, -⟩ := hOr.gd
  have s1 := hC.s1b hW tx
  rcases d8 with ⟨a1, a2, -⟩ | ⟨a1, a2, a3, -⟩ | ⟨a1, a2, a3, a4, -⟩ <;> rcases d9 with ⟨b1, b2, -⟩ | ⟨b1, b2, b3, -⟩ | ⟨b1, b2, b3, b4, -⟩
  · omega
  · omega
  · have z := (hM8.num b3).1
    omega
  · omega
  · omega
  · obtain ⟨z, b, w, hb, hw, y0, y1, y2, y3, yw⟩ := hM8.num b3
    have q1 := a2 al p1
    have q2 := b2 b hb
    omega
  · have z := hM8.ha0 b2
    omega
  · obtain ⟨z, b, w, hb, hw, y0, y1, y2, y3, yw⟩ := hM8.num b3
    have q1 := a3 al p1
    have q2 := b1 b hb
    omega
  · obtain ⟨z, b, w, hb, hw, y0, y1, y2, y3, yw⟩ := hM8.num b3
    rw [a4 al nw p1 p4, b4 b w hb hw, f1, f3, f6, fw, y1, y2, y3, yw, nN g2.1 s1.1]
end CzSk7
