/-- the law's end: nothing that was there before is written -/
def cz_LZ : cz_X → Prop
  | (_, _, _, s, _, args, below, _, _, A, Z, g) => Z = lw_Z below args s ∧ args = #[Value.ref (cz_sa g 1000000)] ∧ A = fun q : Nat => s.heap.size ≤ q
theorem tr_lawret {X : cz_X} {pc : Nat} {ls : Nat → Option Value} {cn : Nat} {K N : Nat → Nat} {I : cz_I} {R : cz_R} {L : cz_L} {n w : Nat} (hZ : cz_LZ X) (hd : decode (cz_cc mL_law) pc = .ok (.ireturn, 1)) (hn : n ≤ 601024) (hw : w ≤ 7293034) : Tr X mL_law pc ls [.int 1] cn K N I R L n w := by
  obtain ⟨p, l, e, s, m, args, below, meth, c, A, Z, g⟩ := X
  intro hC H locs arr hR hS hl
  obtain ⟨rfl, rfl, rfl⟩ := hZ
  refine va_forget (fun q hq => hS.2.2 q hq) ?_
  refine W.widen hn hw ?_
  exact lw_ret hC.1 hC.2.1 hC.2.2.2.2.2.1 hC.2.2.2.2.2.2.1 hd
theorem cz_LZ_g {p : Program} {l : Launch} {e : Env} {s : State} {m : MethodId} {args : Array Value} {below : List Frame} {meth : Method} {c : Code} {A : Nat → Prop} {Z : State → Prop} {g g' : cz_G} (q : cz_sa g' = cz_sa g) (h : cz_LZ (p, l, e, s, m, args, below, meth, c, A, Z, g)) : cz_LZ (p, l, e, s, m, args, below, meth, c, A, Z, g') := by
  simp only [cz_LZ] at h ⊢
  rw [q]; exact h
theorem cz_LZmv {X : cz_X} {cn hs : Nat} (h : cz_LZ X) : cz_LZ (cz_Xmv X cn hs) := by
  obtain ⟨p, l, e, s, m, args, below, meth, c, A, Z, g⟩ := X
  rw [cz_Xmv_e]; exact cz_LZ_g cz_mv_sa h
def WRX : List Nat := [66, 67, 458, 832, 833, 2175]
theorem St.rb {T : Nat → Nat} {cn : Nat} {K N : Nat → Nat} {d : Int} {wi wr : List Nat} {I0 I : cz_I} {R0 R : cz_R} (h : St T cn K N d wi wr I0 R0 I R) (hb : RB cn R0) (hs : wr.all (fun c => WRX.contains c) = true) : RB cn R := by
  intro a j b hab
  cases hw : wm WRX (T a) j with
  | false => rw [h.2.2 a j (wm_sub hs hw)] at hab; exact hb a j b hab
  | true =>
    have key : ∀ q, Nat.ble 1 q = true → Nat.ble 1000 q = false → rrf (T a) j = q → b < cn := by
      intro q h0 h1 hq
      have hr := h.1.rf (a := a) (j := j) rfl
      rw [hq] at hr
      obtain ⟨c, e1, e2⟩ := okR_nn hr h0 h1
      rw [hab] at e1; cases e1
      exact (h.1.1 b (by rw [e2]; intro z; rw [z] at h0; cases h0)).1
    have keyN : ∀ q, Nat.ble 1 q = true → rrf (T a) j = q + 1000 → b < cn := by
      intro q h0 hq
      have hr := h.1.rf (a := a) (j := j) rfl
      rw [hq] at hr
      rcases okR_nu hr with e1 | ⟨c, e1, e2⟩
      · rw [hab] at e1; cases e1
      · rw [hab] at e1; cases e1
        exact (h.1.1 b (by rw [e2]; intro z; rw [z] at h0; cases h0)).1
    simp only [wm, WRX, List.contains_cons, List.contains_nil, Bool.or_false, Bool.or_eq_true, Bool.and_eq_true, beq_iff_eq] at hw
    rcases hw with hw | ⟨hj, hw⟩
    · have hT : T a = 33 := by omega
      by_cases hj : j < 12
      · exact key 10 rfl rfl (by rw [hT]; exact re33 hj)
      · exact keyN 10 rfl (by rw [hT]; exact ro33 hj)
    · have hj := Nat.le_of_ble_eq_true hj
      rcases hw with hw | hw | hw | hw | hw | hw
      · obtain ⟨hT, rfl⟩ : T a = 1 ∧ j = 2 := by omega
        exact key 2 rfl rfl (by rw [hT]; rfl)
      · obtain ⟨hT, rfl⟩ : T a = 1 ∧ j = 3 := by omega
        exact key 2 rfl rfl (by rw [hT]; rfl)
      · obtain ⟨hT, rfl⟩ : T a = 7 ∧ j = 10 := by omega
        exact key 2 rfl rfl (by rw [hT]; rfl)
      · obtain ⟨hT, rfl⟩ : T a = 13 ∧ j = 0 := by omega
        exact key 2 rfl rfl (by rw [hT]; rfl)
      · obtain ⟨hT, rfl⟩ : T a = 13 ∧ j = 1 := by omega
        exact key 12 rfl rfl (by rw [hT]; rfl)
      · exfalso; omega
/-! ===== road 38: led ===== -/
set_option maxHeartbeats 4000000 in
theorem tr_ledcall {X : cz_X} {T : Nat → Nat} {cn : Nat} {K N : Nat → Nat} {I : cz_I} {R : cz_R} {L : cz_L} {ls : Nat → Option Value} {n w : Nat} {x o : Nat} {a : Int32} (hE : cz_env X) (hx : cz_LX X) (hW : Wf T cn K N I R 0) (hb : RB cn R) (tx : T x = 1) (tox : T o = 94) (hls : ∀ i k : Nat, ls i = some (.ref k) → k < cn) (hn : n + 1 ≤ 601024) (hw : w + 6 ≤ 7293034)
    (kk : ∀ (hs : Nat) (v : Int32) (I' : cz_I) (R' : cz_R) (L' : cz_L), St T cn K N 0 wi_led wr_led I R I' R' → Tr (cz_Xmv X cn hs) mL_law 1337 ls [.int v] cn K N I' R' L' (n + 1) (w + 6)) : Tr X mL_law 1334 ls [.ref o, .int a, .ref x] cn K N I R L n w := by
  obtain ⟨p, l, e, s, m, args, below, meth, c, A, Z, g⟩ := X
  intro hC H locs arr hR hS hl
  have hE : cz_En g A s s.heap := hE
  obtain ⟨hfl, hz1, hz2⟩ := hx
  have hts := hC.2.2.2.2.1
  have hK : cz_K g s := hC.2.2.2.2.2.2.2.2.1
  have hcw := vx_cwSW (R := cz_rm mL_law) (own := RL) (index := 181) (y := yL_led) (bytes := cL_led) (maxL := 4) (ret := some .int) (hh := [(0, 9, 12, 13)]) (ws := mL_led9) (ws' := cz_T) (rm := cz_rm mL_led) (mc := 1) (ms := 6) 3 hts (fun w hw => by
    have h1 : w ∈ cz_T := by
      rcases List.mem_append.mp hw with h | h
      · rcases List.mem_cons.mp h with rfl | h
        · exact lk13_led
        · rcases List.mem_cons.mp h with rfl | h
          · exact st13_led
          · rcases List.mem_cons.mp h with rfl | h
            · exact ini13
            · cases h
      · rcases List.mem_cons.mp h with rfl | h
        · exact cz_lcw
        · exact h
    exact ⟨h1, good_of_word (List.mem_filter.mp h1).2⟩) rfl rfl rfl ⟨by decide +kernel, by decide +kernel, by decide +kernel⟩ ⟨by decide, by decide⟩
  have hfree : ∀ q, va_A (cz_ws g cn K N I R L) H.size q → A q := by
    intro q h
    rcases h with ⟨k, e, h⟩ | h
    · exact hR.2.1.2 k (q, e) h
    · exact hC.2.2.2.2.2.2.2.2.2 q (Nat.le_trans hS.1 h)
  have hrun := vx_runSX (As := [.ref (cz_al g x), .int a, .ref (cz_al g o)]) (rest := []) (p := p) (e := e) (below := below) (meth := meth) (locs := locs) (cells := n) (slots := w) (g := F0 m 1334 arr [.ref (cz_al g o), .int a, .ref (cz_al g x)]) ⟨hC.1, hC.2.1, hC.2.2.1, hC.2.2.2.1, hts⟩ (c_Lled hfl (L := L) (a := a) hW tx tox g H.size) hcw
    ⟨cz_PL_blind, fun U hU hWU => ⟨cz_preE (as := [.ref x, .int a, .ref o]) hC hR hS hE U hU hWU, (by rw [hU]; exact ((hz1.kept hS.2.1).narrow hfree).moved hWU.alike), (by rw [hU]; exact ((hz2.kept hS.2.1).narrow hfree).moved hWU.alike)⟩⟩ rfl rfl hl.1 rfl (lv_room (Nat.le_of_ble_eq_true rfl)) dL_law_1334 ⟨hn, hw⟩
  intro TT hT XS
  rcases hrun TT hT XS with ⟨v, st₀, t, T', LL, h0, X', hL, e1, e2, ⟨⟨vv, hv⟩, ⟨I', R', L', hPX, hP', hD'⟩, hz, hk⟩, stp⟩ | ⟨q, st₀, t, T', LL, E, ce, -, -, -, -, -, hE, -⟩
  · cases hv
    rw [h0] at hz hk
    have hPX : St T cn K N 0 wi_led wr_led I R I' R' := hPX
    have hb' : RB cn R' := hPX.rb hb (by decide +kernel)
    have hAt : cz_At (cz_mv g cn T'.heap.size) A cn K N I' R' L' T'.heap := cz_mv_at hb' (by rw [e1]; exact hP') (hD'.weaken (fun _ q _ h => hfree q.1 h)) hR.2.2.2
    have hS2 : va_S A s.heap T'.heap (locs ++ LL) := ⟨Nat.le_trans hS.1 (by rw [e1]; exact hz), fun q h1 h2 => by rw [e1, hk q (Nat.lt_of_lt_of_le h1 hS.1) (fun z => h2 (hfree q z))]; exact hS.2.1 q h1 h2, fun q hq => by
      rcases List.mem_append.mp hq with h | h
      · exact hS.2.2 q h
      · exact hfree _ (hL q h)⟩
    have hl2 : cz_lc (cz_mv g cn T'.heap.size) mL_law arr ls := ⟨hl.1, hl.2.1, fun i v hv => by rw [cz_mv_rn (fun k hk => hls i k (hv.trans (congrArg some hk)))]; exact hl.2.2.1 i v hv, hl.2.2.2⟩
    have hC2 : cz_ok (p, l, e, s, m, args, below, meth, c, A, Z, cz_mv g cn T'.heap.size) mL_law := cz_ok_g rfl rfl cz_mv_sa hC
    have kk2 := kk T'.heap.size vv I' R' L' hPX 
    rw [cz_Xmv_e] at kk2
    obtain ⟨t2, a1, b1⟩ := kk2 hC2 T'.heap (locs ++ LL) arr hAt hS2 hl2 T' rfl X'
    exact ⟨t2, stp t2 a1, b1⟩
  · exact hE.elim
/-- the reader reads the tape; both tapes bear the same bytes -/
def LawT (I : cz_I) (R : cz_R) (x m : Nat) : Prop := (∀ r, R x 4 = some r → R r 0 = R x 0) ∧ ∀ t u, R x 0 = some t → R m 5 = some u → ∀ k : Nat, k < 900 → I t k = I u k
theorem LawT.kp {T : Nat → Nat} {cn : Nat} {K N : Nat → Nat} {d d' : Int} {wi wr : List Nat} {I I' : cz_I} {R R' : cz_R} {x m : Nat} (h : LawT I R x m) (hS : St T cn K N d' wi wr I R I' R') (hW : Wf T cn K N I R d) (tx : T x = 1) (tm : T m = 15) (h1 : wm wr 1 0 = false) (h2 : wm wr 1 4 = false) (h3 : wm wr 7 0 = false) (h4 : wm wr 15 5 = false) (h5 : wi.all (fun c => !(Nat.beq (c / 64) 17)) = true) (h6 : wi.all (fun c => !(Nat.beq (c / 64) 76)) = true) : LawT I' R' x m := by
  refine ⟨fun r hr => ?_, fun t u ht hu k hk => ?_⟩
  · rw [hS.rcell tx h2] at hr
    have tr : T r = 7 := hW.rs tx rfl rfl hr
    rw [hS.rcell tr h3, hS.rcell tx h1]; exact h.1 r hr
  · rw [hS.rcell tx h1] at ht
    rw [hS.rcell tm h4] at hu
    have tt : T t = 17 := hW.rs tx rfl rfl ht
    have tu : T u = 76 := hW.rs tm rfl rfl hu
    rw [hS.cell tt (wm_no h5), hS.cell tu (wm_no h6)]; exact h.2 t u ht hu k hk
theorem FbW.eq {I I1 J J1 : cz_I} {t u : Nat} {n n' : Int} {f : Nat → Int32} (h : FbW I I1 t n 20 f) (h2 : FbW J J1 u n' 20 f) (hn : n' = n) (e : ∀ k : Nat, k < 900 → I t k = J u k) : ∀ k : Nat, k < 900 → I1 t k = J1 u k := by
  subst hn
  intro k hk
  by_cases q : n' ≤ (k : Int) ∧ (k : Int) < n' + 20
  · rw [(h k).2 ((k : Int) - n').toNat (by omega) (by omega), (h2 k).2 ((k : Int) - n').toNat (by omega) (by omega)]
  · rw [(h k).1 (by omega), (h2 k).1 (by omega)]; exact e k hk
def LawI (T : Nat → Nat) (cn : Nat) (K N : Nat → Nat) (I : cz_I) (R : cz_R) (x m o : Nat) : Prop := Wf T cn K N I R 0 ∧ RB cn R ∧ T x = 1 ∧ T m = 15 ∧ T o = 94 ∧ (I x 1).toInt = (I m 6).toInt ∧ LawT I R x m ∧ LawA I R x m
theorem LawI.lt {T : Nat → Nat} {cn : Nat} {K N : Nat → Nat} {I : cz_I} {R : cz_R} {x m o : Nat} (h : LawI T cn K N I R x m o) : x < cn ∧ m < cn ∧ o < cn := ⟨(h.1.1 x (by rw [h.2.2.1]; decide)).1, (h.1.1 m (by rw [h.2.2.2.1]; decide)).1, (h.1.1 o (by rw [h.2.2.2.2.1]; decide)).1⟩
theorem hls_up {ls : Nat → Option Value} {cn i : Nat} {v : Int32} (h : ∀ i k : Nat, ls i = some (.ref k) → k < cn) : ∀ j k : Nat, va_up ls i (some (.int v)) j = some (.ref k) → k < cn := by
  intro j k hj
  by_cases q : j = i
  · subst q; rw [va_ups] at hj; cases hj
  · rw [va_upn q] at hj; exact h j k hj
set_option maxRecDepth 100000 in
set_option maxHeartbeats 8000000 in
theorem law_loop {Ln : Nat} {xs : Nat → Int32} (hL : Ln ≤ 3072) {x m o : Nat} : ∀ (fu : Nat) (X : cz_X) (T : Nat → Nat) (cn : Nat) (K N : Nat → Nat) (I : cz_I) (R : cz_R) (L : cz_L) (ls : Nat → Option Value) (i0 : Int32) (n w : Nat), cz_env X → cz_scr X Ln xs → cz_LZ X → cz_LX X → LawI T cn K N I R x m o → ls 0 = some (.float 1000000) → ls 1 = some (.ref x) → ls 2 = some (.ref m) → ls 3 = some (.ref o) → ls 4 = some (.int i0) → (∀ i k : Nat, ls i = some (.ref k) → k < cn) → 0 ≤ i0.toInt → i0.toInt ≤ (Ln : Int) → 6 * (n : Int) + 25 * ((Ln : Int) + 6 - i0.toInt) ≤ 3600000 → 6 * (w : Int) + 253 * ((Ln : Int) + 6 - i0.toInt) ≤ 43700000 → ((Ln : Int) + 12 - i0.toInt).toNat < fu → Tr X mL_law 23 ls [] cn K N I R L n w := by
  intro fu
  induction fu with
  | zero => intros; rename_i hz; exact absurd hz (Nat.not_lt_zero _)
  | succ fu ih =>
    intro X T cn K N I R L ls i0 n w hE hs hZ hx hI h0 h1 h2 h3 h4 hls hi hi2 hbn hbw hm
    have hlt := hI.lt
    have hI' := hI
    obtain ⟨hW, hb, tx, tm, tox, htp, hLT, hLE⟩ := hI
    refine tr_iload dL_law_23 h4 ?_
    refine tr_aload_nS dL_law_25 h0 ?_
    refine q_slen hs hL dL_law_26 ?_
    intro v1 e1
    refine q_bipush dL_law_27 (by decide +kernel) ?_
    intro v2 e2
    refine q_isubE dL_law_29 (by intro j1 j2 j3 j4; omega) ?_
    intro v3 e3
    refine q_icmp_gt 1398 dL_law_30 (by decide) (fun hg => ?_) (fun hg => ?_)
    · skip
      refine tr_iconst (v := 1) dL_law_1398 (by decide +kernel) ?_
      exact tr_lawret hZ dL_law_1399 (by omega) (by omega)
    · skip
      have hn : n ≤ (cz_rm mL_law).cells := by show n ≤ 601024; omega
      have hw : w ≤ (cz_rm mL_law).slots := by show w ≤ 7293034; omega
      have inc : ∀ (X' : cz_X) (T' : Nat → Nat) (cn' : Nat) (K' N' : Nat → Nat) (I' : cz_I) (R' : cz_R) (L' : cz_L) (ls' : Nat → Option Value) (n' w' : Nat), cz_env X' → cz_scr X' Ln xs → cz_LZ X' → cz_LX X' → LawI T' cn' K' N' I' R' x m o → ls' 0 = some (.float 1000000) → ls' 1 = some (.ref x) → ls' 2 = some (.ref m) → ls' 3 = some (.ref o) → ls' 4 = some (.int i0) → (∀ i k : Nat, ls' i = some (.ref k) → k < cn') → n' ≤ n + 25 → w' ≤ w + 253 → Tr X' mL_law 1392 ls' [] cn' K' N' I' R' L' n' w' := by
        intro X' T' cn' K' N' I' R' L' ls' n' w' hE' hs' hZ' hx' hI' g0 g1 g2 g3 g4 hls' hn' hw'
        refine q_iincE dL_law_1392 g4 (by decide) (by decide) (by intro j1 j2; omega) ?_
        intro v e
        refine tr_goto 23 dL_law_1395 (by decide) ?_
        exact ih X' T' cn' K' N' I' R' L' _ v n' w' hE' hs' hZ' hx' hI' g0 g1 g2 g3 rfl (hls_up hls') (by omega) (by omega) (by omega) (by omega) (by omega)
      refine tr_aload_nS dL_law_33 h0 ?_
      refine tr_iload dL_law_34 h4 ?_
      refine q_sld hs dL_law_36 (by omega) (by omega) ?_
      intro v4
      refine q_bipush dL_law_37 (by decide +kernel) ?_
      intro v5 e5
      refine q_iand dL_law_39 ?_
      intro v6
      by_cases q0 : v6.toInt = 0
      · skip
        refine tr_tabIn (off := 180) 220 dL_law_40 (by omega) (by omega) (by rw [q0]; decide +kernel) (by decide) ?_
        have e7_1 : (i0 + 1).toInt = i0.toInt + 1 := by have z : (1 : Int32).toInt = 1 := rfl; rw [ti_add (by omega) (by omega), z]
        obtain ⟨u1, hv1⟩ : ∃ v, xs (i0 + 1).toNatClampNeg = v := ⟨_, rfl⟩
        have e7_2 : (i0 + 2).toInt = i0.toInt + 2 := by have z : (2 : Int32).toInt = 2 := rfl; rw [ti_add (by omega) (by omega), z]
        obtain ⟨u2, hv2⟩ : ∃ v, xs (i0 + 2).toNatClampNeg = v := ⟨_, rfl⟩
        have e7_3 : (i0 + 3).toInt = i0.toInt + 3 := by have z : (3 : Int32).toInt = 3 := rfl; rw [ti_add (by omega) (by omega), z]
        obtain ⟨u3, hv3⟩ : ∃ v, xs (i0 + 3).toNatClampNeg = v := ⟨_, rfl⟩
        have e7_4 : (i0 + 4).toInt = i0.toInt + 4 := by have z : (4 : Int32).toInt = 4 := rfl; rw [ti_add (by omega) (by omega), z]
        obtain ⟨u4, hv4⟩ : ∃ v, xs (i0 + 4).toNatClampNeg = v := ⟨_, rfl⟩
        have e7_5 : (i0 + 5).toInt = i0.toInt + 5 := by have z : (5 : Int32).toInt = 5 := rfl; rw [ti_add (by omega) (by omega), z]
        obtain ⟨u5, hv5⟩ : ∃ v, xs (i0 + 5).toNatClampNeg = v := ⟨_, rfl⟩
        obtain ⟨tt, htt, ttt⟩ := rf1_0 hW tx
        obtain ⟨uu, huu, tuu⟩ := rf15_5 hW tm
        refine tr_aload_n dL_law_220 h1 ?_
        refine tr_aload_nS dL_law_221 h0 ?_
        refine tr_iload dL_law_222 h4 ?_
        refine tr_iconst (v := 1) dL_law_224 (by decide +kernel) ?_
        refine tr_iadd dL_law_225 ?_
        refine q_sldE hs dL_law_226 (by omega) (by omega) hv1 ?_
        refine tr_aload_nS dL_law_227 h0 ?_
        refine tr_iload dL_law_228 h4 ?_
        refine tr_iconst (v := 2) dL_law_230 (by decide +kernel) ?_
        refine tr_iadd dL_law_231 ?_
        refine q_sldE hs dL_law_232 (by omega) (by omega) hv2 ?_
        refine tr_aload_nS dL_law_233 h0 ?_
        refine tr_iload dL_law_234 h4 ?_
        refine tr_iconst (v := 3) dL_law_236 (by decide +kernel) ?_
        refine tr_iadd dL_law_237 ?_
        refine q_sldE hs dL_law_238 (by omega) (by omega) hv3 ?_
        refine tr_aload_nS dL_law_239 h0 ?_
        refine tr_iload dL_law_240 h4 ?_
        refine tr_iconst (v := 4) dL_law_242 (by decide +kernel) ?_
        refine tr_iadd dL_law_243 ?_
        refine q_sldE hs dL_law_244 (by omega) (by omega) hv4 ?_
        refine tr_aload_nS dL_law_245 h0 ?_
        refine tr_iload dL_law_246 h4 ?_
        refine tr_iconst (v := 5) dL_law_248 (by decide +kernel) ?_
        refine tr_iadd dL_law_249 ?_
        refine q_sldE hs dL_law_250 (by omega) (by omega) hv5 ?_
        refine q_callVi hE (M' := mX10_feed) (as := [_, _, _, _, _]) dL_law_251 lk13_19 inX10_feed seX10_feed myX10_feed (by decide) ⟨by decide, by decide⟩ rfl (kR1 hW tx) (Nat.le_of_ble_eq_true rfl) rfl rfl hn hw (fk_X10_feed hW tx) ?_
        rintro v8 cn8 K8 N8 I8 R8 L8 ⟨rfl, rfl, rfl, rfl, rfl, g8, rp8, dj8, -⟩
        refine tr_pop dL_law_254 rfl ?_
        refine tr_aload_n dL_law_255 h2 ?_
        refine tr_aload_nS dL_law_256 h0 ?_
        refine tr_iload dL_law_257 h4 ?_
        refine tr_iconst (v := 1) dL_law_259 (by decide +kernel) ?_
        refine tr_iadd dL_law_260 ?_
        refine q_sldE hs dL_law_261 (by omega) (by omega) hv1 ?_
        refine tr_aload_nS dL_law_262 h0 ?_
        refine tr_iload dL_law_263 h4 ?_
        refine tr_iconst (v := 2) dL_law_265 (by decide +kernel) ?_
        refine tr_iadd dL_law_266 ?_
        refine q_sldE hs dL_law_267 (by omega) (by omega) hv2 ?_
        refine tr_aload_nS dL_law_268 h0 ?_
        refine tr_iload dL_law_269 h4 ?_
        refine tr_iconst (v := 3) dL_law_271 (by decide +kernel) ?_
        refine tr_iadd dL_law_272 ?_
        refine q_sldE hs dL_law_273 (by omega) (by omega) hv3 ?_
        refine tr_aload_nS dL_law_274 h0 ?_
        refine tr_iload dL_law_275 h4 ?_
        refine tr_iconst (v := 4) dL_law_277 (by decide +kernel) ?_
        refine tr_iadd dL_law_278 ?_
        refine q_sldE hs dL_law_279 (by omega) (by omega) hv4 ?_
        refine tr_aload_nS dL_law_280 h0 ?_
        refine tr_iload dL_law_281 h4 ?_
        refine tr_iconst (v := 5) dL_law_283 (by decide +kernel) ?_
        refine tr_iadd dL_law_284 ?_
        refine q_sldE hs dL_law_285 (by omega) (by omega) hv5 ?_
        refine q_callVi hE (M' := mX12_feed) (as := [_, _, _, _, _]) dL_law_286 lk13_23 inX12_feed seX12_feed myX12_feed (by decide) ⟨by decide, by decide⟩ rfl (kR15 g8.1 tm) (Nat.le_of_ble_eq_true rfl) rfl rfl hn hw (fk_X12_feed g8.1 tm) ?_
        rintro v9 cn9 K9 N9 I9 R9 L9 ⟨rfl, rfl, rfl, rfl, rfl, g9, rp9, dj9, -⟩
        refine tr_pop dL_law_289 rfl ?_
        refine tr_goto 1392 dL_law_290 (by decide) ?_
        have c8 : I8 m 6 = I m 6 := g8.cell tm (by decide +kernel)
        have c9 : I9 x 1 = I8 x 1 := g9.cell tx (by decide +kernel)
        have k8 : ∀ k, I8 uu k = I uu k := fun k => g8.cell tuu (wm_no (by decide +kernel))
        have k9 : ∀ k, I9 tt k = I8 tt k := fun k => g9.cell ttt (wm_no (by decide +kernel))
        have z8 := rp8 tt htt
        have z9 := rp9 uu huu
        rw [c8] at z9 dj9
        refine inc X T cn K N I9 R L ls n w hE hs hZ hx ⟨g9.1, hb, tx, tm, tox, by rw [c9]; rcases dj8 with ⟨_, _, _, -⟩ | ⟨_, _, _, -⟩ <;> rcases dj9 with ⟨_, _, _, -⟩ | ⟨_, _, _, -⟩ <;> omega, ⟨hLT.1, fun t u ht hu k hk => ?_⟩, ((hLE.kp hW tx tm g8 (by decide +kernel) (by decide +kernel) (by decide +kernel) (by decide +kernel) (by decide +kernel) (by decide +kernel) (by decide +kernel) (by decide +kernel) (by decide +kernel) (by decide +kernel) (by decide +kernel) (by decide +kernel) (by decide +kernel) (by decide +kernel) (by decide +kernel) (by decide +kernel) (by decide +kernel) (by decide +kernel) (by decide +kernel) (by decide +kernel) (by decide +kernel) (by decide +kernel)).kp g8.1 tx tm g9 (by decide +kernel) (by decide +kernel) (by decide +kernel) (by decide +kernel) (by decide +kernel) (by decide +kernel) (by decide +kernel) (by decide +kernel) (by decide +kernel) (by decide +kernel) (by decide +kernel) (by decide +kernel) (by decide +kernel) (by decide +kernel) (by decide +kernel) (by decide +kernel) (by decide +kernel) (by decide +kernel) (by decide +kernel) (by decide +kernel) (by decide +kernel) (by decide +kernel))⟩ h0 h1 h2 h3 h4 hls (by omega) (by omega)
        obtain rfl := Option.some.inj (htt.symm.trans ht)
        obtain rfl := Option.some.inj (huu.symm.trans hu)
        rw [k9]
        by_cases qf : (I x 1).toInt + 20 ≤ 900
        · exact FbW.eq (z8.2 qf) (z9.2 (by omega)) htp.symm (fun k hk => by rw [k8]; exact hLT.2 _ _ htt huu k hk) k hk
        · rw [z8.1 qf, z9.1 (by omega), k8]; exact hLT.2 _ _ htt huu k hk
      · skip
        by_cases q1 : v6.toInt = 1
        · skip
          refine tr_tabIn (off := 253) 293 dL_law_40 (by omega) (by omega) (by rw [q1]; decide +kernel) (by decide) ?_
          have e7_1 : (i0 + 1).toInt = i0.toInt + 1 := by have z : (1 : Int32).toInt = 1 := rfl; rw [ti_add (by omega) (by omega), z]
          obtain ⟨u1, hv1⟩ : ∃ v, xs (i0 + 1).toNatClampNeg = v := ⟨_, rfl⟩
          obtain ⟨tt, htt, ttt⟩ := rf1_0 hW tx
          obtain ⟨uu, huu, tuu⟩ := rf15_5 hW tm
          refine tr_aload_n dL_law_293 h1 ?_
          refine tr_aload_nS dL_law_294 h0 ?_
          refine tr_iload dL_law_295 h4 ?_
          refine tr_iconst (v := 1) dL_law_297 (by decide +kernel) ?_
          refine tr_iadd dL_law_298 ?_
          refine q_sldE hs dL_law_299 (by omega) (by omega) hv1 ?_
          obtain ⟨gT, hgT⟩ : ∃ g : Nat → Int32, ∀ k, I tt k = g k := ⟨fun k => I tt k, fun _ => rfl⟩
          refine q_callVi hE (M' := mX10_alp) (as := [_]) dL_law_300 lk13_24 inX10_alp seX10_alp myX10_alp (by decide) ⟨by decide, by decide⟩ rfl (kR1 hW tx) (Nat.le_of_ble_eq_true rfl) rfl rfl hn hw (fk_X10_alp hW gT tx (fun t2 h2 k hk => by obtain rfl := Option.some.inj (htt.symm.trans h2); exact hgT k) hLT.1) ?_
          rintro v8 cn8 K8 N8 I8 R8 L8 ⟨rfl, rfl, rfl, g8, l8, rp8, dj8, -⟩
          refine tr_pop dL_law_303 rfl ?_
          have b8 : RB cn R8 := g8.rb hb (by decide +kernel)
          have c8 : I8 m 6 = I m 6 := g8.cell tm (by decide +kernel)
          have hLT8 := hLT.kp g8 hW tx tm (by decide +kernel) (by decide +kernel) (by decide +kernel) (by decide +kernel) (by decide +kernel) (by decide +kernel)
          refine tr_aload_n dL_law_304 h2 ?_
          refine tr_aload_nS dL_law_305 h0 ?_
          refine tr_iload dL_law_306 h4 ?_
          refine tr_iconst (v := 1) dL_law_308 (by decide +kernel) ?_
          refine tr_iadd dL_law_309 ?_
          refine q_sldE hs dL_law_310 (by omega) (by omega) hv1 ?_
          refine te_callV hE (M' := mX12_alp) (as := [_]) dL_law_311 lk13_27 inX12_alp seX12_alp myX12_alp (by decide) ⟨by decide, by decide⟩ rfl (kR15 g8.1 tm) (Nat.le_of_ble_eq_true rfl) (by show n + 24 ≤ 601024; omega) (by show w + 247 ≤ 7293034; omega) (f_X12_alp g8.1 b8 tm gT (fun t2 h2 k hk => by rw [g8.rcell tm (by decide +kernel)] at h2; obtain rfl := Option.some.inj (huu.symm.trans h2); rw [g8.cell tuu (wm_no (by decide +kernel)), ← hLT.2 _ _ htt huu k hk]; exact hgT k)) ?_
          rintro r cn9 K9 N9 I9 R9 L9 ⟨v9, rfl, T9, hW9, hb9, hle9, hT9, hI9, hR9, h149, af9⟩
          have c9 : I9 x 1 = I8 x 1 := hI9 x 1 hlt.1 (by rw [tx]; decide +kernel)
          unfold AlpF at af9
          rw [c8] at af9
          have hLE9 : LawA I9 R9 x m := by
            rcases dj8 with ⟨a1, a2, a3, a4, a5, a6, k1, k2, -⟩ | ⟨a1, a2, a3, a4, a5, a6, a7, e1, e2, e3, e4, e5, e6, e7, e8, k1, -⟩ | ⟨a1, a2, a3, a4, a5, a6, a7, a8, k1, k2, -⟩ <;> rcases af9 with ⟨b1, b2, b3, b4, b5, b6, n1⟩ | ⟨b1, b2, b3, b4, b5, b6, b7, n1⟩ | ⟨b1, b2, b3, b4, b5, b6, b7, n1⟩
            · exact lw_alpN hLE hW tx tm g8 rp8 k1 k2 hI9 hR9 h149 n1
            · exfalso; omega
            · exfalso; omega
            · exfalso; omega
            · exact lw_alpY hLE hW tx tm g8 k1 e1 e2 e3 e4 e5 e6 e7 e8 hI9 hR9 n1
            · exfalso; omega
            · exfalso; omega
            · exfalso; omega
            · exact lw_alpN hLE hW tx tm g8 rp8 k1 k2 hI9 hR9 h149 n1
          have hv : v8.toInt = v9.toInt ∧ (I8 x 1).toInt = (I9 m 6).toInt := by
            rcases dj8 with ⟨a1, a2, a3, a4, a5, a6, -⟩ | ⟨a1, a2, a3, a4, a5, a6, a7, -⟩ | ⟨a1, a2, a3, a4, a5, a6, a7, a8, -⟩ <;> rcases af9 with ⟨b1, b2, b3, b4, b5, b6, -⟩ | ⟨b1, b2, b3, b4, b5, b6, b7, -⟩ | ⟨b1, b2, b3, b4, b5, b6, b7, -⟩ <;> first | omega | (exfalso; omega)
          have hLT9 : LawT I9 R9 x m := by
            refine ⟨fun r hr => ?_, fun t u ht hu k hk => ?_⟩
            · rw [hR9 x 4 hlt.1 (by rw [tx]; decide +kernel)] at hr
              have rl : r < cn := b8 x 4 r hr
              have tr : T r = 7 := g8.1.rs tx rfl rfl hr
              rw [hR9 r 0 rl (by rw [tr]; decide +kernel), hR9 x 0 hlt.1 (by rw [tx]; decide +kernel)]; exact hLT8.1 r hr
            · rw [hR9 x 0 hlt.1 (by rw [tx]; decide +kernel)] at ht
              rw [hR9 m 5 hlt.2.1 (by rw [tm]; decide +kernel)] at hu
              have tt2 : T t = 17 := g8.1.rs tx rfl rfl ht
              have tu2 : T u = 76 := g8.1.rs tm rfl rfl hu
              rw [hI9 t k (b8 x 0 t ht) (by rw [tt2]; exact wm_no (by decide +kernel)), hI9 u k (b8 m 5 u hu) (by rw [tu2]; exact wm_no (by decide +kernel))]; exact hLT8.2 t u ht hu k hk
          refine tr_pop dL_law_314 rfl ?_
          refine tr_goto 1392 dL_law_315 (by decide) ?_
          exact inc X T9 cn9 K9 N9 I9 R9 L9 ls _ _ hE hs hZ hx ⟨hW9, hb9, (hT9 x hlt.1).trans tx, (hT9 m hlt.2.1).trans tm, (hT9 o hlt.2.2).trans tox, by rw [c9]; exact hv.2, hLT9, hLE9⟩ h0 h1 h2 h3 h4 (fun i k q => Nat.lt_of_lt_of_le (hls i k q) hle9) (by show n + 24 ≤ n + 25; omega) (by show w + 247 ≤ w + 253; omega)
        · skip
          by_cases q2 : v6.toInt = 2
          · skip
            refine tr_tabIn (off := 278) 318 dL_law_40 (by omega) (by omega) (by rw [q2]; decide +kernel) (by decide) ?_
            exact s_road2 hE hW tx tm tox hs ⟨by omega, by omega, by omega⟩ hn hw htp h0 h1 h2 h3 h4 (fun I2 R2 L2 q => inc X T cn K N I2 R2 L2 ls n w hE hs hZ hx ⟨q.1.1, q.1.rb hb (by decide +kernel), tx, tm, tox, q.2.1, hLT.kp q.1 hW tx tm (by decide +kernel) (by decide +kernel) (by decide +kernel) (by decide +kernel) (by decide +kernel) (by decide +kernel), hLE.kp hW tx tm q.1 (by decide +kernel) (by decide +kernel) (by decide +kernel) (by decide +kernel) (by decide +kernel) (by decide +kernel) (by decide +kernel) (by decide +kernel) (by decide +kernel) (by decide +kernel) (by decide +kernel) (by decide +kernel) (by decide +kernel) (by decide +kernel) (by decide +kernel) (by decide +kernel) (by decide +kernel) (by decide +kernel) (by decide +kernel) (by decide +kernel) (by decide +kernel) (by decide +kernel)⟩ h0 h1 h2 h3 h4 hls (by omega) (by omega))
          · skip
            by_cases q3 : v6.toInt = 3
            · skip
              refine tr_tabIn (off := 291) 331 dL_law_40 (by omega) (by omega) (by rw [q3]; decide +kernel) (by decide) ?_
              exact s_road3 hE hW tx tm tox hs ⟨by omega, by omega, by omega⟩ hn hw htp h0 h1 h2 h3 h4 (fun I2 R2 L2 q => inc X T cn K N I2 R2 L2 ls n w hE hs hZ hx ⟨q.1.1, q.1.rb hb (by decide +kernel), tx, tm, tox, q.2.1, hLT.kp q.1 hW tx tm (by decide +kernel) (by decide +kernel) (by decide +kernel) (by decide +kernel) (by decide +kernel) (by decide +kernel), hLE.kp hW tx tm q.1 (by decide +kernel) (by decide +kernel) (by decide +kernel) (by decide +kernel) (by decide +kernel) (by decide +kernel) (by decide +kernel) (by decide +kernel) (by decide +kernel) (by decide +kernel) (by decide +kernel) (by decide +kernel) (by decide +kernel) (by decide +kernel) (by decide +kernel) (by decide +kernel) (by decide +kernel) (by decide +kernel) (by decide +kernel) (by decide +kernel) (by decide +kernel) (by decide +kernel)⟩ h0 h1 h2 h3 h4 hls (by omega) (by omega))
            · skip
              by_cases q4 : v6.toInt = 4
              · skip
                refine tr_tabIn (off := 304) 344 dL_law_40 (by omega) (by omega) (by rw [q4]; decide +kernel) (by decide) ?_
                exact s_road4 hE hW tx tm tox hs ⟨by omega, by omega, by omega⟩ hn hw htp h0 h1 h2 h3 h4 (fun I2 R2 L2 q => inc X T cn K N I2 R2 L2 ls n w hE hs hZ hx ⟨q.1.1, q.1.rb hb (by decide +kernel), tx, tm, tox, q.2.1, hLT.kp q.1 hW tx tm (by decide +kernel) (by decide +kernel) (by decide +kernel) (by decide +kernel) (by decide +kernel) (by decide +kernel), hLE.kp hW tx tm q.1 (by decide +kernel) (by decide +kernel) (by decide +kernel) (by decide +kernel) (by decide +kernel) (by decide +kernel) (by decide +kernel) (by decide +kernel) (by decide +kernel) (by decide +kernel) (by decide +kernel) (by decide +kernel) (by decide +kernel) (by decide +kernel) (by decide +kernel) (by decide +kernel) (by decide +kernel) (by decide +kernel) (by decide +kernel) (by decide +kernel) (by decide +kernel) (by decide +kernel)⟩ h0 h1 h2 h3 h4 hls (by omega) (by omega))
              · skip
                by_cases q5 : v6.toInt = 5
                · skip
                  refine tr_tabIn (off := 329) 369 dL_law_40 (by omega) (by omega) (by rw [q5]; decide +kernel) (by decide) ?_
                  exact s_road5 hE hW tx tm tox hs ⟨by omega, by omega, by omega⟩ hn hw htp h0 h1 h2 h3 h4 (fun I2 R2 L2 q => inc X T cn K N I2 R2 L2 ls n w hE hs hZ hx ⟨q.1.1, q.1.rb hb (by decide +kernel), tx, tm, tox, q.2.1, hLT.kp q.1 hW tx tm (by decide +kernel) (by decide +kernel) (by decide +kernel) (by decide +kernel) (by decide +kernel) (by decide +kernel), hLE.kp hW tx tm q.1 (by decide +kernel) (by decide +kernel) (by decide +kernel) (by decide +kernel) (by decide +kernel) (by decide +kernel) (by decide +kernel) (by decide +kernel) (by decide +kernel) (by decide +kernel) (by decide +kernel) (by decide +kernel) (by decide +kernel) (by decide +kernel) (by decide +kernel) (by decide +kernel) (by decide +kernel) (by decide +kernel) (by decide +kernel) (by decide +kernel) (by decide +kernel) (by decide +kernel)⟩ h0 h1 h2 h3 h4 hls (by omega) (by omega))
                · skip
                  by_cases q6 : v6.toInt = 6
                  · skip
                    refine tr_tabIn (off := 394) 434 dL_law_40 (by omega) (by omega) (by rw [q6]; decide +kernel) (by decide) ?_
                    exact s_road6 hE hW tx tm tox hs ⟨by omega, by omega, by omega⟩ hn hw htp h0 h1 h2 h3 h4 (fun I2 R2 L2 q => inc X T cn K N I2 R2 L2 ls n w hE hs hZ hx ⟨q.1.1, q.1.rb hb (by decide +kernel), tx, tm, tox, q.2.1, hLT.kp q.1 hW tx tm (by decide +kernel) (by decide +kernel) (by decide +kernel) (by decide +kernel) (by decide +kernel) (by decide +kernel), hLE.kp hW tx tm q.1 (by decide +kernel) (by decide +kernel) (by decide +kernel) (by decide +kernel) (by decide +kernel) (by decide +kernel) (by decide +kernel) (by decide +kernel) (by decide +kernel) (by decide +kernel) (by decide +kernel) (by decide +kernel) (by decide +kernel) (by decide +kernel) (by decide +kernel) (by decide +kernel) (by decide +kernel) (by decide +kernel) (by decide +kernel) (by decide +kernel) (by decide +kernel) (by decide +kernel)⟩ h0 h1 h2 h3 h4 hls (by omega) (by omega))
                  · skip
                    by_cases q7 : v6.toInt = 7
                    · skip
                      refine tr_tabIn (off := 447) 487 dL_law_40 (by omega) (by omega) (by rw [q7]; decide +kernel) (by decide) ?_
                      exact s_road7 hE hW tx tm tox hs ⟨by omega, by omega, by omega⟩ hn hw htp h0 h1 h2 h3 h4 (fun I2 R2 L2 q => inc X T cn K N I2 R2 L2 ls n w hE hs hZ hx ⟨q.1.1, q.1.rb hb (by decide +kernel), tx, tm, tox, q.2.1, hLT.kp q.1 hW tx tm (by decide +kernel) (by decide +kernel) (by decide +kernel) (by decide +kernel) (by decide +kernel) (by decide +kernel), hLE.kp hW tx tm q.1 (by decide +kernel) (by decide +kernel) (by decide +kernel) (by decide +kernel) (by decide +kernel) (by decide +kernel) (by decide +kernel) (by decide +kernel) (by decide +kernel) (by decide +kernel) (by decide +kernel) (by decide +kernel) (by decide +kernel) (by decide +kernel) (by decide +kernel) (by decide +kernel) (by decide +kernel) (by decide +kernel) (by decide +kernel) (by decide +kernel) (by decide +kernel) (by decide +kernel)⟩ h0 h1 h2 h3 h4 hls (by omega) (by omega))
                    · skip
                      by_cases q8 : v6.toInt = 8
                      · skip
                        refine tr_tabIn (off := 484) 524 dL_law_40 (by omega) (by omega) (by rw [q8]; decide +kernel) (by decide) ?_
                        exact s_road8 hE hW tx tm tox hs ⟨by omega, by omega, by omega⟩ hn hw htp h0 h1 h2 h3 h4 (fun I2 R2 L2 q => inc X T cn K N I2 R2 L2 ls n w hE hs hZ hx ⟨q.1.1, q.1.rb hb (by decide +kernel), tx, tm, tox, q.2.1, hLT.kp q.1 hW tx tm (by decide +kernel) (by decide +kernel) (by decide +kernel) (by decide +kernel) (by decide +kernel) (by decide +kernel), hLE.kp hW tx tm q.1 (by decide +kernel) (by decide +kernel) (by decide +kernel) (by decide +kernel) (by decide +kernel) (by decide +kernel) (by decide +kernel) (by decide +kernel) (by decide +kernel) (by decide +kernel) (by decide +kernel) (by decide +kernel) (by decide +kernel) (by decide +kernel) (by decide +kernel) (by decide +kernel) (by decide +kernel) (by decide +kernel) (by decide +kernel) (by decide +kernel) (by decide +kernel) (by decide +kernel)⟩ h0 h1 h2 h3 h4 hls (by omega) (by omega))
                      · skip
                        by_cases q9 : v6.toInt = 9
                        · skip
                          refine tr_tabIn (off := 497) 537 dL_law_40 (by omega) (by omega) (by rw [q9]; decide +kernel) (by decide) ?_
                          exact s_road9 hE hW tx tm tox hs ⟨by omega, by omega, by omega⟩ hn hw htp h0 h1 h2 h3 h4 (fun I2 R2 L2 q => inc X T cn K N I2 R2 L2 ls n w hE hs hZ hx ⟨q.1.1, q.1.rb hb (by decide +kernel), tx, tm, tox, q.2.1, hLT.kp q.1 hW tx tm (by decide +kernel) (by decide +kernel) (by decide +kernel) (by decide +kernel) (by decide +kernel) (by decide +kernel), hLE.kp hW tx tm q.1 (by decide +kernel) (by decide +kernel) (by decide +kernel) (by decide +kernel) (by decide +kernel) (by decide +kernel) (by decide +kernel) (by decide +kernel) (by decide +kernel) (by decide +kernel) (by decide +kernel) (by decide +kernel) (by decide +kernel) (by decide +kernel) (by decide +kernel) (by decide +kernel) (by decide +kernel) (by decide +kernel) (by decide +kernel) (by decide +kernel) (by decide +kernel) (by decide +kernel)⟩ h0 h1 h2 h3 h4 hls (by omega) (by omega))
                        · skip
                          by_cases q10 : v6.toInt = 10
                          · skip
                            refine tr_tabIn (off := 522) 562 dL_law_40 (by omega) (by omega) (by rw [q10]; decide +kernel) (by decide) ?_
                            exact s_road10 hE hW tx tm tox hs ⟨by omega, by omega, by omega⟩ hn hw htp h0 h1 h2 h3 h4 (fun I2 R2 L2 q => inc X T cn K N I2 R2 L2 ls n w hE hs hZ hx ⟨q.1.1, q.1.rb hb (by decide +kernel), tx, tm, tox, q.2.1, hLT.kp q.1 hW tx tm (by decide +kernel) (by decide +kernel) (by decide +kernel) (by decide +kernel) (by decide +kernel) (by decide +kernel), hLE.kp hW tx tm q.1 (by decide +kernel) (by decide +kernel) (by decide +kernel) (by decide +kernel) (by decide +kernel) (by decide +kernel) (by decide +kernel) (by decide +kernel) (by decide +kernel) (by decide +kernel) (by decide +kernel) (by decide +kernel) (by decide +kernel) (by decide +kernel) (by decide +kernel) (by decide +kernel) (by decide +kernel) (by decide +kernel) (by decide +kernel) (by decide +kernel) (by decide +kernel) (by decide +kernel)⟩ h0 h1 h2 h3 h4 hls (by omega) (by omega))
                          · skip
                            by_cases q11 : v6.toInt = 11
                            · skip
                              refine tr_tabIn (off := 559) 599 dL_law_40 (by omega) (by omega) (by rw [q11]; decide +kernel) (by decide) ?_
                              exact s_road11 hE hW tx tm tox hs ⟨by omega, by omega, by omega⟩ hn hw htp h0 h1 h2 h3 h4 (fun I2 R2 L2 q => inc X T cn K N I2 R2 L2 ls n w hE hs hZ hx ⟨q.1.1, q.1.rb hb (by decide +kernel), tx, tm, tox, q.2.1, hLT.kp q.1 hW tx tm (by decide +kernel) (by decide +kernel) (by decide +kernel) (by decide +kernel) (by decide +kernel) (by decide +kernel), hLE.kp hW tx tm q.1 (by decide +kernel) (by decide +kernel) (by decide +kernel) (by decide +kernel) (by decide +kernel) (by decide +kernel) (by decide +kernel) (by decide +kernel) (by decide +kernel) (by decide +kernel) (by decide +kernel) (by decide +kernel) (by decide +kernel) (by decide +kernel) (by decide +kernel) (by decide +kernel) (by decide +kernel) (by decide +kernel) (by decide +kernel) (by decide +kernel) (by decide +kernel) (by decide +kernel)⟩ h0 h1 h2 h3 h4 hls (by omega) (by omega))
                            · skip
                              by_cases q12 : v6.toInt = 12
                              · skip
                                refine tr_tabIn (off := 608) 648 dL_law_40 (by omega) (by omega) (by rw [q12]; decide +kernel) (by decide) ?_
                                exact s_road12 hE hW tx tm tox hs ⟨by omega, by omega, by omega⟩ hn hw htp h0 h1 h2 h3 h4 (fun I2 R2 L2 q => inc X T cn K N I2 R2 L2 ls n w hE hs hZ hx ⟨q.1.1, q.1.rb hb (by decide +kernel), tx, tm, tox, q.2.1, hLT.kp q.1 hW tx tm (by decide +kernel) (by decide +kernel) (by decide +kernel) (by decide +kernel) (by decide +kernel) (by decide +kernel), hLE.kp hW tx tm q.1 (by decide +kernel) (by decide +kernel) (by decide +kernel) (by decide +kernel) (by decide +kernel) (by decide +kernel) (by decide +kernel) (by decide +kernel) (by decide +kernel) (by decide +kernel) (by decide +kernel) (by decide +kernel) (by decide +kernel) (by decide +kernel) (by decide +kernel) (by decide +kernel) (by decide +kernel) (by decide +kernel) (by decide +kernel) (by decide +kernel) (by decide +kernel) (by decide +kernel)⟩ h0 h1 h2 h3 h4 hls (by omega) (by omega))
                              · skip
                                by_cases q13 : v6.toInt = 13
                                · skip
                                  refine tr_tabIn (off := 645) 685 dL_law_40 (by omega) (by omega) (by rw [q13]; decide +kernel) (by decide) ?_
                                  exact s_road13 hE hW tx tm tox hs ⟨by omega, by omega, by omega⟩ hn hw htp h0 h1 h2 h3 h4 (fun I2 R2 L2 q => inc X T cn K N I2 R2 L2 ls n w hE hs hZ hx ⟨q.1.1, q.1.rb hb (by decide +kernel), tx, tm, tox, q.2.1, hLT.kp q.1 hW tx tm (by decide +kernel) (by decide +kernel) (by decide +kernel) (by decide +kernel) (by decide +kernel) (by decide +kernel), hLE.kp hW tx tm q.1 (by decide +kernel) (by decide +kernel) (by decide +kernel) (by decide +kernel) (by decide +kernel) (by decide +kernel) (by decide +kernel) (by decide +kernel) (by decide +kernel) (by decide +kernel) (by decide +kernel) (by decide +kernel) (by decide +kernel) (by decide +kernel) (by decide +kernel) (by decide +kernel) (by decide +kernel) (by decide +kernel) (by decide +kernel) (by decide +kernel) (by decide +kernel) (by decide +kernel)⟩ h0 h1 h2 h3 h4 hls (by omega) (by omega))
                                · skip
                                  by_cases q14 : v6.toInt = 14
                                  · skip
                                    refine tr_tabIn (off := 670) 710 dL_law_40 (by omega) (by omega) (by rw [q14]; decide +kernel) (by decide) ?_
                                    exact s_road14 hE hW tx tm tox hs ⟨by omega, by omega, by omega⟩ hn hw htp h0 h1 h2 h3 h4 (fun I2 R2 L2 q => inc X T cn K N I2 R2 L2 ls n w hE hs hZ hx ⟨q.1.1, q.1.rb hb (by decide +kernel), tx, tm, tox, q.2.1, hLT.kp q.1 hW tx tm (by decide +kernel) (by decide +kernel) (by decide +kernel) (by decide +kernel) (by decide +kernel) (by decide +kernel), hLE.kp hW tx tm q.1 (by decide +kernel) (by decide +kernel) (by decide +kernel) (by decide +kernel) (by decide +kernel) (by decide +kernel) (by decide +kernel) (by decide +kernel) (by decide +kernel) (by decide +kernel) (by decide +kernel) (by decide +kernel) (by decide +kernel) (by decide +kernel) (by decide +kernel) (by decide +kernel) (by decide +kernel) (by decide +kernel) (by decide +kernel) (by decide +kernel) (by decide +kernel) (by decide +kernel)⟩ h0 h1 h2 h3 h4 hls (by omega) (by omega))
                                  · skip
                                    by_cases q15 : v6.toInt = 15
                                    · skip
                                      refine tr_tabIn (off := 707) 747 dL_law_40 (by omega) (by omega) (by rw [q15]; decide +kernel) (by decide) ?_
                                      exact s_road15 hE hW tx tm tox hs ⟨by omega, by omega, by omega⟩ hn hw htp h0 h1 h2 h3 h4 (fun I2 R2 L2 q => inc X T cn K N I2 R2 L2 ls n w hE hs hZ hx ⟨q.1.1, q.1.rb hb (by decide +kernel), tx, tm, tox, q.2.1, hLT.kp q.1 hW tx tm (by decide +kernel) (by decide +kernel) (by decide +kernel) (by decide +kernel) (by decide +kernel) (by decide +kernel), hLE.kp hW tx tm q.1 (by decide +kernel) (by decide +kernel) (by decide +kernel) (by decide +kernel) (by decide +kernel) (by decide +kernel) (by decide +kernel) (by decide +kernel) (by decide +kernel) (by decide +kernel) (by decide +kernel) (by decide +kernel) (by decide +kernel) (by decide +kernel) (by decide +kernel) (by decide +kernel) (by decide +kernel) (by decide +kernel) (by decide +kernel) (by decide +kernel) (by decide +kernel) (by decide +kernel)⟩ h0 h1 h2 h3 h4 hls (by omega) (by omega))
                                    · skip
                                      by_cases q16 : v6.toInt = 16
                                      · skip
                                        refine tr_tabIn (off := 744) 784 dL_law_40 (by omega) (by omega) (by rw [q16]; decide +kernel) (by decide) ?_
                                        exact s_road16 hE hW tx tm tox hs ⟨by omega, by omega, by omega⟩ hn hw htp h0 h1 h2 h3 h4 (fun I2 R2 L2 q => inc X T cn K N I2 R2 L2 ls n w hE hs hZ hx ⟨q.1.1, q.1.rb hb (by decide +kernel), tx, tm, tox, q.2.1, hLT.kp q.1 hW tx tm (by decide +kernel) (by decide +kernel) (by decide +kernel) (by decide +kernel) (by decide +kernel) (by decide +kernel), hLE.kp hW tx tm q.1 (by decide +kernel) (by decide +kernel) (by decide +kernel) (by decide +kernel) (by decide +kernel) (by decide +kernel) (by decide +kernel) (by decide +kernel) (by decide +kernel) (by decide +kernel) (by decide +kernel) (by decide +kernel) (by decide +kernel) (by decide +kernel) (by decide +kernel) (by decide +kernel) (by decide +kernel) (by decide +kernel) (by decide +kernel) (by decide +kernel) (by decide +kernel) (by decide +kernel)⟩ h0 h1 h2 h3 h4 hls (by omega) (by omega))
                                      · skip
                                        by_cases q17 : v6.toInt = 17
                                        · skip
                                          refine tr_tabIn (off := 781) 821 dL_law_40 (by omega) (by omega) (by rw [q17]; decide +kernel) (by decide) ?_
                                          exact s_road17 hE hW tx tm tox hs ⟨by omega, by omega, by omega⟩ hn hw htp h0 h1 h2 h3 h4 (fun I2 R2 L2 q => inc X T cn K N I2 R2 L2 ls n w hE hs hZ hx ⟨q.1.1, q.1.rb hb (by decide +kernel), tx, tm, tox, q.2.1, hLT.kp q.1 hW tx tm (by decide +kernel) (by decide +kernel) (by decide +kernel) (by decide +kernel) (by decide +kernel) (by decide +kernel), hLE.kp hW tx tm q.1 (by decide +kernel) (by decide +kernel) (by decide +kernel) (by decide +kernel) (by decide +kernel) (by decide +kernel) (by decide +kernel) (by decide +kernel) (by decide +kernel) (by decide +kernel) (by decide +kernel) (by decide +kernel) (by decide +kernel) (by decide +kernel) (by decide +kernel) (by decide +kernel) (by decide +kernel) (by decide +kernel) (by decide +kernel) (by decide +kernel) (by decide +kernel) (by decide +kernel)⟩ h0 h1 h2 h3 h4 hls (by omega) (by omega))
                                        · skip
                                          by_cases q18 : v6.toInt = 18
                                          · skip
                                            refine tr_tabIn (off := 818) 858 dL_law_40 (by omega) (by omega) (by rw [q18]; decide +kernel) (by decide) ?_
                                            exact s_road18 hE hW tx tm tox hs ⟨by omega, by omega, by omega⟩ hn hw htp h0 h1 h2 h3 h4 (fun I2 R2 L2 q => inc X T cn K N I2 R2 L2 ls n w hE hs hZ hx ⟨q.1.1, q.1.rb hb (by decide +kernel), tx, tm, tox, q.2.1, hLT.kp q.1 hW tx tm (by decide +kernel) (by decide +kernel) (by decide +kernel) (by decide +kernel) (by decide +kernel) (by decide +kernel), hLE.kp hW tx tm q.1 (by decide +kernel) (by decide +kernel) (by decide +kernel) (by decide +kernel) (by decide +kernel) (by decide +kernel) (by decide +kernel) (by decide +kernel) (by decide +kernel) (by decide +kernel) (by decide +kernel) (by decide +kernel) (by decide +kernel) (by decide +kernel) (by decide +kernel) (by decide +kernel) (by decide +kernel) (by decide +kernel) (by decide +kernel) (by decide +kernel) (by decide +kernel) (by decide +kernel)⟩ h0 h1 h2 h3 h4 hls (by omega) (by omega))
                                          · skip
                                            by_cases q19 : v6.toInt = 19
                                            · skip
                                              refine tr_tabIn (off := 855) 895 dL_law_40 (by omega) (by omega) (by rw [q19]; decide +kernel) (by decide) ?_
                                              exact s_road19 hE hW tx tm tox hs ⟨by omega, by omega, by omega⟩ hn hw htp h0 h1 h2 h3 h4 (fun I2 R2 L2 q => inc X T cn K N I2 R2 L2 ls n w hE hs hZ hx ⟨q.1.1, q.1.rb hb (by decide +kernel), tx, tm, tox, q.2.1, hLT.kp q.1 hW tx tm (by decide +kernel) (by decide +kernel) (by decide +kernel) (by decide +kernel) (by decide +kernel) (by decide +kernel), hLE.kp hW tx tm q.1 (by decide +kernel) (by decide +kernel) (by decide +kernel) (by decide +kernel) (by decide +kernel) (by decide +kernel) (by decide +kernel) (by decide +kernel) (by decide +kernel) (by decide +kernel) (by decide +kernel) (by decide +kernel) (by decide +kernel) (by decide +kernel) (by decide +kernel) (by decide +kernel) (by decide +kernel) (by decide +kernel) (by decide +kernel) (by decide +kernel) (by decide +kernel) (by decide +kernel)⟩ h0 h1 h2 h3 h4 hls (by omega) (by omega))
                                            · skip
                                              by_cases q20 : v6.toInt = 20
                                              · skip
                                                refine tr_tabIn (off := 868) 908 dL_law_40 (by omega) (by omega) (by rw [q20]; decide +kernel) (by decide) ?_
                                                exact s_road20 hE hW tx tm tox hs ⟨by omega, by omega, by omega⟩ hn hw htp h0 h1 h2 h3 h4 (fun I2 R2 L2 q => inc X T cn K N I2 R2 L2 ls n w hE hs hZ hx ⟨q.1.1, q.1.rb hb (by decide +kernel), tx, tm, tox, q.2.1, hLT.kp q.1 hW tx tm (by decide +kernel) (by decide +kernel) (by decide +kernel) (by decide +kernel) (by decide +kernel) (by decide +kernel), hLE.kp hW tx tm q.1 (by decide +kernel) (by decide +kernel) (by decide +kernel) (by decide +kernel) (by decide +kernel) (by decide +kernel) (by decide +kernel) (by decide +kernel) (by decide +kernel) (by decide +kernel) (by decide +kernel) (by decide +kernel) (by decide +kernel) (by decide +kernel) (by decide +kernel) (by decide +kernel) (by decide +kernel) (by decide +kernel) (by decide +kernel) (by decide +kernel) (by decide +kernel) (by decide +kernel)⟩ h0 h1 h2 h3 h4 hls (by omega) (by omega))
                                              · skip
                                                by_cases q21 : v6.toInt = 21
                                                · skip
                                                  refine tr_tabIn (off := 893) 933 dL_law_40 (by omega) (by omega) (by rw [q21]; decide +kernel) (by decide) ?_
                                                  exact s_road21 hE hW tx tm tox hs ⟨by omega, by omega, by omega⟩ hn hw htp h0 h1 h2 h3 h4 (fun I2 R2 L2 q => inc X T cn K N I2 R2 L2 ls n w hE hs hZ hx ⟨q.1.1, q.1.rb hb (by decide +kernel), tx, tm, tox, q.2.1, hLT.kp q.1 hW tx tm (by decide +kernel) (by decide +kernel) (by decide +kernel) (by decide +kernel) (by decide +kernel) (by decide +kernel), hLE.kp hW tx tm q.1 (by decide +kernel) (by decide +kernel) (by decide +kernel) (by decide +kernel) (by decide +kernel) (by decide +kernel) (by decide +kernel) (by decide +kernel) (by decide +kernel) (by decide +kernel) (by decide +kernel) (by decide +kernel) (by decide +kernel) (by decide +kernel) (by decide +kernel) (by decide +kernel) (by decide +kernel) (by decide +kernel) (by decide +kernel) (by decide +kernel) (by decide +kernel) (by decide +kernel)⟩ h0 h1 h2 h3 h4 hls (by omega) (by omega))
                                                · skip
                                                  by_cases q22 : v6.toInt = 22
                                                  · skip
                                                    refine tr_tabIn (off := 906) 946 dL_law_40 (by omega) (by omega) (by rw [q22]; decide +kernel) (by decide) ?_
                                                    exact s_road22 hE hW tx tm tox hs ⟨by omega, by omega, by omega⟩ hn hw htp h0 h1 h2 h3 h4 (fun I2 R2 L2 q => inc X T cn K N I2 R2 L2 ls n w hE hs hZ hx ⟨q.1.1, q.1.rb hb (by decide +kernel), tx, tm, tox, q.2.1, hLT.kp q.1 hW tx tm (by decide +kernel) (by decide +kernel) (by decide +kernel) (by decide +kernel) (by decide +kernel) (by decide +kernel), hLE.kp hW tx tm q.1 (by decide +kernel) (by decide +kernel) (by decide +kernel) (by decide +kernel) (by decide +kernel) (by decide +kernel) (by decide +kernel) (by decide +kernel) (by decide +kernel) (by decide +kernel) (by decide +kernel) (by decide +kernel) (by decide +kernel) (by decide +kernel) (by decide +kernel) (by decide +kernel) (by decide +kernel) (by decide +kernel) (by decide +kernel) (by decide +kernel) (by decide +kernel) (by decide +kernel)⟩ h0 h1 h2 h3 h4 hls (by omega) (by omega))
                                                  · skip
                                                    by_cases q23 : v6.toInt = 23
                                                    · skip
                                                      refine tr_tabIn (off := 919) 959 dL_law_40 (by omega) (by omega) (by rw [q23]; decide +kernel) (by decide) ?_
                                                      exact s_road23 hE hW tx tm tox hs ⟨by omega, by omega, by omega⟩ hn hw htp h0 h1 h2 h3 h4 (fun I2 R2 L2 q => inc X T cn K N I2 R2 L2 ls n w hE hs hZ hx ⟨q.1.1, q.1.rb hb (by decide +kernel), tx, tm, tox, q.2.1, hLT.kp q.1 hW tx tm (by decide +kernel) (by decide +kernel) (by decide +kernel) (by decide +kernel) (by decide +kernel) (by decide +kernel), hLE.kp hW tx tm q.1 (by decide +kernel) (by decide +kernel) (by decide +kernel) (by decide +kernel) (by decide +kernel) (by decide +kernel) (by decide +kernel) (by decide +kernel) (by decide +kernel) (by decide +kernel) (by decide +kernel) (by decide +kernel) (by decide +kernel) (by decide +kernel) (by decide +kernel) (by decide +kernel) (by decide +kernel) (by decide +kernel) (by decide +kernel) (by decide +kernel) (by decide +kernel) (by decide +kernel)⟩ h0 h1 h2 h3 h4 hls (by omega) (by omega))
                                                    · skip
                                                      by_cases q24 : v6.toInt = 24
                                                      · skip
                                                        refine tr_tabIn (off := 932) 972 dL_law_40 (by omega) (by omega) (by rw [q24]; decide +kernel) (by decide) ?_
                                                        exact s_road24 hE hW tx tm tox hs ⟨by omega, by omega, by omega⟩ hn hw htp h0 h1 h2 h3 h4 (fun I2 R2 L2 q => inc X T cn K N I2 R2 L2 ls n w hE hs hZ hx ⟨q.1.1, q.1.rb hb (by decide +kernel), tx, tm, tox, q.2.1, hLT.kp q.1 hW tx tm (by decide +kernel) (by decide +kernel) (by decide +kernel) (by decide +kernel) (by decide +kernel) (by decide +kernel), hLE.kp hW tx tm q.1 (by decide +kernel) (by decide +kernel) (by decide +kernel) (by decide +kernel) (by decide +kernel) (by decide +kernel) (by decide +kernel) (by decide +kernel) (by decide +kernel) (by decide +kernel) (by decide +kernel) (by decide +kernel) (by decide +kernel) (by decide +kernel) (by decide +kernel) (by decide +kernel) (by decide +kernel) (by decide +kernel) (by decide +kernel) (by decide +kernel) (by decide +kernel) (by decide +kernel)⟩ h0 h1 h2 h3 h4 hls (by omega) (by omega))
                                                      · skip
                                                        by_cases q25 : v6.toInt = 25
                                                        · skip
                                                          refine tr_tabIn (off := 945) 985 dL_law_40 (by omega) (by omega) (by rw [q25]; decide +kernel) (by decide) ?_
                                                          exact s_road25 hE hW tx tm tox hs ⟨by omega, by omega, by omega⟩ hn hw htp h0 h1 h2 h3 h4 (fun I2 R2 L2 q => inc X T cn K N I2 R2 L2 ls n w hE hs hZ hx ⟨q.1.1, q.1.rb hb (by decide +kernel), tx, tm, tox, q.2.1, hLT.kp q.1 hW tx tm (by decide +kernel) (by decide +kernel) (by decide +kernel) (by decide +kernel) (by decide +kernel) (by decide +kernel), hLE.kp hW tx tm q.1 (by decide +kernel) (by decide +kernel) (by decide +kernel) (by decide +kernel) (by decide +kernel) (by decide +kernel) (by decide +kernel) (by decide +kernel) (by decide +kernel) (by decide +kernel) (by decide +kernel) (by decide +kernel) (by decide +kernel) (by decide +kernel) (by decide +kernel) (by decide +kernel) (by decide +kernel) (by decide +kernel) (by decide +kernel) (by decide +kernel) (by decide +kernel) (by decide +kernel)⟩ h0 h1 h2 h3 h4 hls (by omega) (by omega))
                                                        · skip
                                                          by_cases q26 : v6.toInt = 26
                                                          · skip
                                                            refine tr_tabIn (off := 970) 1010 dL_law_40 (by omega) (by omega) (by rw [q26]; decide +kernel) (by decide) ?_
                                                            exact s_road26 hE hW tx tm tox hs ⟨by omega, by omega, by omega⟩ hn hw htp h0 h1 h2 h3 h4 (fun I2 R2 L2 q => inc X T cn K N I2 R2 L2 ls n w hE hs hZ hx ⟨q.1.1, q.1.rb hb (by decide +kernel), tx, tm, tox, q.2.1, hLT.kp q.1 hW tx tm (by decide +kernel) (by decide +kernel) (by decide +kernel) (by decide +kernel) (by decide +kernel) (by decide +kernel), hLE.kp hW tx tm q.1 (by decide +kernel) (by decide +kernel) (by decide +kernel) (by decide +kernel) (by decide +kernel) (by decide +kernel) (by decide +kernel) (by decide +kernel) (by decide +kernel) (by decide +kernel) (by decide +kernel) (by decide +kernel) (by decide +kernel) (by decide +kernel) (by decide +kernel) (by decide +kernel) (by decide +kernel) (by decide +kernel) (by decide +kernel) (by decide +kernel) (by decide +kernel) (by decide +kernel)⟩ h0 h1 h2 h3 h4 hls (by omega) (by omega))
                                                          · skip
                                                            by_cases q27 : v6.toInt = 27
                                                            · skip
                                                              refine tr_tabIn (off := 995) 1035 dL_law_40 (by omega) (by omega) (by rw [q27]; decide +kernel) (by decide) ?_
                                                              have e7_1 : (i0 + 1).toInt = i0.toInt + 1 := by have z : (1 : Int32).toInt = 1 := rfl; rw [ti_add (by omega) (by omega), z]
                                                              obtain ⟨u1, hv1⟩ : ∃ v, xs (i0 + 1).toNatClampNeg = v := ⟨_, rfl⟩
                                                              have e7_2 : (i0 + 2).toInt = i0.toInt + 2 := by have z : (2 : Int32).toInt = 2 := rfl; rw [ti_add (by omega) (by omega), z]
                                                              obtain ⟨u2, hv2⟩ : ∃ v, xs (i0 + 2).toNatClampNeg = v := ⟨_, rfl⟩
                                                              have e7_3 : (i0 + 3).toInt = i0.toInt + 3 := by have z : (3 : Int32).toInt = 3 := rfl; rw [ti_add (by omega) (by omega), z]
                                                              obtain ⟨u3, hv3⟩ : ∃ v, xs (i0 + 3).toNatClampNeg = v := ⟨_, rfl⟩
                                                              refine tr_aload_n dL_law_1035 h1 ?_
                                                              refine tr_aload_nS dL_law_1036 h0 ?_
                                                              refine tr_iload dL_law_1037 h4 ?_
                                                              refine tr_iconst (v := 1) dL_law_1039 (by decide +kernel) ?_
                                                              refine tr_iadd dL_law_1040 ?_
                                                              refine q_sldE hs dL_law_1041 (by omega) (by omega) hv1 ?_
                                                              refine tr_aload_nS dL_law_1042 h0 ?_
                                                              refine tr_iload dL_law_1043 h4 ?_
                                                              refine tr_iconst (v := 2) dL_law_1045 (by decide +kernel) ?_
                                                              refine tr_iadd dL_law_1046 ?_
                                                              refine q_sldE hs dL_law_1047 (by omega) (by omega) hv2 ?_
                                                              refine tr_aload_nS dL_law_1048 h0 ?_
                                                              refine tr_iload dL_law_1049 h4 ?_
                                                              refine tr_iconst (v := 3) dL_law_1051 (by decide +kernel) ?_
                                                              refine tr_iadd dL_law_1052 ?_
                                                              refine q_sldE hs dL_law_1053 (by omega) (by omega) hv3 ?_
                                                              refine q_callVi hE (M' := mX10_nights) (as := [_, _, _]) dL_law_1054 lk13_133 inX10_nights seX10_nights myX10_nights (by decide) ⟨by decide, by decide⟩ rfl (kR1 hW tx) (Nat.le_of_ble_eq_true rfl) rfl rfl hn hw (k_X10_nights hW tx) ?_
                                                              rintro v8 cn8 K8 N8 I8 R8 L8 ⟨rfl, rfl, rfl, rfl, g8, -⟩
                                                              refine tr_pop dL_law_1057 rfl ?_
                                                              refine tr_aload_n dL_law_1058 h2 ?_
                                                              refine tr_aload_nS dL_law_1059 h0 ?_
                                                              refine tr_iload dL_law_1060 h4 ?_
                                                              refine tr_iconst (v := 1) dL_law_1062 (by decide +kernel) ?_
                                                              refine tr_iadd dL_law_1063 ?_
                                                              refine q_sldE hs dL_law_1064 (by omega) (by omega) hv1 ?_
                                                              refine tr_aload_nS dL_law_1065 h0 ?_
                                                              refine tr_iload dL_law_1066 h4 ?_
                                                              refine tr_iconst (v := 2) dL_law_1068 (by decide +kernel) ?_
                                                              refine tr_iadd dL_law_1069 ?_
                                                              refine q_sldE hs dL_law_1070 (by omega) (by omega) hv2 ?_
                                                              refine tr_aload_nS dL_law_1071 h0 ?_
                                                              refine tr_iload dL_law_1072 h4 ?_
                                                              refine tr_iconst (v := 3) dL_law_1074 (by decide +kernel) ?_
                                                              refine tr_iadd dL_law_1075 ?_
                                                              refine q_sldE hs dL_law_1076 (by omega) (by omega) hv3 ?_
                                                              refine q_callVi hE (M' := mX12_nights) (as := [_, _, _]) dL_law_1077 lk13_136 inX12_nights seX12_nights myX12_nights (by decide) ⟨by decide, by decide⟩ rfl (kR15 g8.1 tm) (Nat.le_of_ble_eq_true rfl) rfl rfl hn hw (fk_X12_nights g8.1 tm) ?_
                                                              rintro v9 cn9 K9 N9 I9 R9 L9 ⟨rfl, rfl, rfl, rfl, rfl, g9, d9, -⟩
                                                              have hLE8 := hLE.kp hW tx tm g8 (by decide +kernel) (by decide +kernel) (by decide +kernel) (by decide +kernel) (by decide +kernel) (by decide +kernel) (by decide +kernel) (by decide +kernel) (by decide +kernel) (by decide +kernel) (by decide +kernel) (by decide +kernel) (by decide +kernel) (by decide +kernel) (by decide +kernel) (by decide +kernel) (by decide +kernel) (by decide +kernel) (by decide +kernel) (by decide +kernel) (by decide +kernel) (by decide +kernel)
                                                              have hLE9 := lw_nights tx tm hLE8 g8.1 g9 d9
                                                              refine tr_pop dL_law_1080 rfl ?_
                                                              refine tr_goto 1392 dL_law_1081 (by decide) ?_
                                                              have c8 : I8 x 1 = I x 1 := g8.cell tx (by decide +kernel)
                                                              have c9 : I9 x 1 = I8 x 1 := g9.cell tx (by decide +kernel)
                                                              have c10 : I8 m 6 = I m 6 := g8.cell tm (by decide +kernel)
                                                              have c11 : I9 m 6 = I8 m 6 := g9.cell tm (by decide +kernel)
                                                              exact inc X T cn K N I9 R8 L ls n w hE hs hZ hx ⟨g9.1, g8.rb hb (by decide +kernel), tx, tm, tox, by rw [c9, c8, c11, c10]; exact htp, (hLT.kp g8 hW tx tm (by decide +kernel) (by decide +kernel) (by decide +kernel) (by decide +kernel) (by decide +kernel) (by decide +kernel)).kp g9 g8.1 tx tm (by decide +kernel) (by decide +kernel) (by decide +kernel) (by decide +kernel) (by decide +kernel) (by decide +kernel), hLE9⟩ h0 h1 h2 h3 h4 hls (by omega) (by omega)
                                                            · skip
                                                              by_cases q28 : v6.toInt = 28
                                                              · skip
                                                                refine tr_tabIn (off := 1044) 1084 dL_law_40 (by omega) (by omega) (by rw [q28]; decide +kernel) (by decide) ?_
                                                                have e7_1 : (i0 + 1).toInt = i0.toInt + 1 := by have z : (1 : Int32).toInt = 1 := rfl; rw [ti_add (by omega) (by omega), z]
                                                                obtain ⟨u1, hv1⟩ : ∃ v, xs (i0 + 1).toNatClampNeg = v := ⟨_, rfl⟩
                                                                have e7_2 : (i0 + 2).toInt = i0.toInt + 2 := by have z : (2 : Int32).toInt = 2 := rfl; rw [ti_add (by omega) (by omega), z]
                                                                obtain ⟨u2, hv2⟩ : ∃ v, xs (i0 + 2).toNatClampNeg = v := ⟨_, rfl⟩
                                                                by_cases qb : u2.toInt = 0
                                                                · skip
                                                                  refine tr_aload_n dL_law_1084 h1 ?_
                                                                  refine tr_aload_nS dL_law_1085 h0 ?_
                                                                  refine tr_iload dL_law_1086 h4 ?_
                                                                  refine tr_iconst (v := 1) dL_law_1088 (by decide +kernel) ?_
                                                                  refine tr_iadd dL_law_1089 ?_
                                                                  refine q_sldE hs dL_law_1090 (by omega) (by omega) hv1 ?_
                                                                  refine tr_aload_nS dL_law_1091 h0 ?_
                                                                  refine tr_iload dL_law_1092 h4 ?_
                                                                  refine tr_iconst (v := 2) dL_law_1094 (by decide +kernel) ?_
                                                                  refine tr_iadd dL_law_1095 ?_
                                                                  refine q_sldE hs dL_law_1096 (by omega) (by omega) hv2 ?_
                                                                  refine q_if_eq 1104 dL_law_1097 (by decide) (fun _ => ?_) (fun h => absurd qb h)
                                                                  refine q_iconst dL_law_1104 (by decide) ?_
                                                                  intro bb8 eb8
                                                                  refine q_callVi hE (M' := mX10_call) (as := [_, _]) dL_law_1105 lk13_137 inX10_call seX10_call myX10_call (by decide) ⟨by decide, by decide⟩ rfl (kR1 hW tx) (Nat.le_of_ble_eq_true rfl) rfl rfl hn hw (fk_X10_call hW tx (by omega) (fun b hb => (hLE.cb b hb).1) (fun b hb => (hLE.cb b hb).2)) ?_
                                                                  rintro v8 cn8 K8 N8 I8 R8 L8 ⟨rfl, rfl, rfl, rfl, g8, b8, d8, -⟩
                                                                  refine tr_pop dL_law_1108 rfl ?_
                                                                  refine tr_aload_n dL_law_1109 h2 ?_
                                                                  refine tr_aload_nS dL_law_1110 h0 ?_
                                                                  refine tr_iload dL_law_1111 h4 ?_
                                                                  refine tr_iconst (v := 1) dL_law_1113 (by decide +kernel) ?_
                                                                  refine tr_iadd dL_law_1114 ?_
                                                                  refine q_sldE hs dL_law_1115 (by omega) (by omega) hv1 ?_
                                                                  refine tr_aload_nS dL_law_1116 h0 ?_
                                                                  refine tr_iload dL_law_1117 h4 ?_
                                                                  refine tr_iconst (v := 2) dL_law_1119 (by decide +kernel) ?_
                                                                  refine tr_iadd dL_law_1120 ?_
                                                                  refine q_sldE hs dL_law_1121 (by omega) (by omega) hv2 ?_
                                                                  refine q_if_eq 1129 dL_law_1122 (by decide) (fun _ => ?_) (fun h => absurd qb h)
                                                                  refine q_iconst dL_law_1129 (by decide) ?_
                                                                  intro bb9 eb9
                                                                  refine q_callVi hE (M' := mX12_call) (as := [_, _]) dL_law_1130 lk13_141 inX12_call seX12_call myX12_call (by decide) ⟨by decide, by decide⟩ rfl (kR15 g8.1 tm) (Nat.le_of_ble_eq_true rfl) rfl rfl hn hw (fk_X12_call g8.1 tm (by omega) (fun b hb => by rw [g8.rcell tm (by decide +kernel)] at hb; rw [g8.cell (hW.rs tm rfl rfl hb : T b = 77) (wm_no (by decide +kernel))]; exact (hLE.wb b hb).1) (fun b hb => by rw [g8.rcell tm (by decide +kernel)] at hb; rw [g8.cell (hW.rs tm rfl rfl hb : T b = 77) (wm_no (by decide +kernel))]; exact (hLE.wb b hb).2)) ?_
                                                                  rintro v9 cn9 K9 N9 I9 R9 L9 ⟨rfl, rfl, rfl, rfl, rfl, g9, b9, d9, -⟩
                                                                  obtain ⟨hvv, hLE9⟩ := lw_call hLE hW tx tm g8 d8 g9 d9 (by omega)
                                                                  refine tr_pop dL_law_1133 rfl ?_
                                                                  refine tr_goto 1392 dL_law_1134 (by decide) ?_
                                                                  have c8 : I8 x 1 = I x 1 := g8.cell tx (by decide +kernel)
                                                                  have c9 : I9 x 1 = I8 x 1 := g9.cell tx (by decide +kernel)
                                                                  have c10 : I8 m 6 = I m 6 := g8.cell tm (by decide +kernel)
                                                                  have c11 : I9 m 6 = I8 m 6 := g9.cell tm (by decide +kernel)
                                                                  exact inc X T cn K N I9 R8 L ls n w hE hs hZ hx ⟨g9.1, g8.rb hb (by decide +kernel), tx, tm, tox, by rw [c9, c8, c11, c10]; exact htp, (hLT.kp g8 hW tx tm (by decide +kernel) (by decide +kernel) (by decide +kernel) (by decide +kernel) (by decide +kernel) (by decide +kernel)).kp g9 g8.1 tx tm (by decide +kernel) (by decide +kernel) (by decide +kernel) (by decide +kernel) (by decide +kernel) (by decide +kernel), hLE9⟩ h0 h1 h2 h3 h4 hls (by omega) (by omega)
                                                                · skip
                                                                  refine tr_aload_n dL_law_1084 h1 ?_
                                                                  refine tr_aload_nS dL_law_1085 h0 ?_
                                                                  refine tr_iload dL_law_1086 h4 ?_
                                                                  refine tr_iconst (v := 1) dL_law_1088 (by decide +kernel) ?_
                                                                  refine tr_iadd dL_law_1089 ?_
                                                                  refine q_sldE hs dL_law_1090 (by omega) (by omega) hv1 ?_
                                                                  refine tr_aload_nS dL_law_1091 h0 ?_
                                                                  refine tr_iload dL_law_1092 h4 ?_
                                                                  refine tr_iconst (v := 2) dL_law_1094 (by decide +kernel) ?_
                                                                  refine tr_iadd dL_law_1095 ?_
                                                                  refine q_sldE hs dL_law_1096 (by omega) (by omega) hv2 ?_
                                                                  refine q_if_eq 1104 dL_law_1097 (by decide) (fun h => absurd h qb) (fun _ => ?_)
                                                                  refine q_iconst dL_law_1100 (by decide) ?_
                                                                  intro bb8 eb8
                                                                  refine tr_goto 1105 dL_law_1101 (by decide) ?_
                                                                  refine q_callVi hE (M' := mX10_call) (as := [_, _]) dL_law_1105 lk13_137 inX10_call seX10_call myX10_call (by decide) ⟨by decide, by decide⟩ rfl (kR1 hW tx) (Nat.le_of_ble_eq_true rfl) rfl rfl hn hw (fk_X10_call hW tx (by omega) (fun b hb => (hLE.cb b hb).1) (fun b hb => (hLE.cb b hb).2)) ?_
                                                                  rintro v8 cn8 K8 N8 I8 R8 L8 ⟨rfl, rfl, rfl, rfl, g8, b8, d8, -⟩
                                                                  refine tr_pop dL_law_1108 rfl ?_
                                                                  refine tr_aload_n dL_law_1109 h2 ?_
                                                                  refine tr_aload_nS dL_law_1110 h0 ?_
                                                                  refine tr_iload dL_law_1111 h4 ?_
                                                                  refine tr_iconst (v := 1) dL_law_1113 (by decide +kernel) ?_
                                                                  refine tr_iadd dL_law_1114 ?_
                                                                  refine q_sldE hs dL_law_1115 (by omega) (by omega) hv1 ?_
                                                                  refine tr_aload_nS dL_law_1116 h0 ?_
                                                                  refine tr_iload dL_law_1117 h4 ?_
                                                                  refine tr_iconst (v := 2) dL_law_1119 (by decide +kernel) ?_
                                                                  refine tr_iadd dL_law_1120 ?_
                                                                  refine q_sldE hs dL_law_1121 (by omega) (by omega) hv2 ?_
                                                                  refine q_if_eq 1129 dL_law_1122 (by decide) (fun h => absurd h qb) (fun _ => ?_)
                                                                  refine q_iconst dL_law_1125 (by decide) ?_
                                                                  intro bb9 eb9
                                                                  refine tr_goto 1130 dL_law_1126 (by decide) ?_
                                                                  refine q_callVi hE (M' := mX12_call) (as := [_, _]) dL_law_1130 lk13_141 inX12_call seX12_call myX12_call (by decide) ⟨by decide, by decide⟩ rfl (kR15 g8.1 tm) (Nat.le_of_ble_eq_true rfl) rfl rfl hn hw (fk_X12_call g8.1 tm (by omega) (fun b hb => by rw [g8.rcell tm (by decide +kernel)] at hb; rw [g8.cell (hW.rs tm rfl rfl hb : T b = 77) (wm_no (by decide +kernel))]; exact (hLE.wb b hb).1) (fun b hb => by rw [g8.rcell tm (by decide +kernel)] at hb; rw [g8.cell (hW.rs tm rfl rfl hb : T b = 77) (wm_no (by decide +kernel))]; exact (hLE.wb b hb).2)) ?_
                                                                  rintro v9 cn9 K9 N9 I9 R9 L9 ⟨rfl, rfl, rfl, rfl, rfl, g9, b9, d9, -⟩
                                                                  obtain ⟨hvv, hLE9⟩ := lw_call hLE hW tx tm g8 d8 g9 d9 (by omega)
                                                                  refine tr_pop dL_law_1133 rfl ?_
                                                                  refine tr_goto 1392 dL_law_1134 (by decide) ?_
                                                                  have c8 : I8 x 1 = I x 1 := g8.cell tx (by decide +kernel)
                                                                  have c9 : I9 x 1 = I8 x 1 := g9.cell tx (by decide +kernel)
                                                                  have c10 : I8 m 6 = I m 6 := g8.cell tm (by decide +kernel)
                                                                  have c11 : I9 m 6 = I8 m 6 := g9.cell tm (by decide +kernel)
                                                                  exact inc X T cn K N I9 R8 L ls n w hE hs hZ hx ⟨g9.1, g8.rb hb (by decide +kernel), tx, tm, tox, by rw [c9, c8, c11, c10]; exact htp, (hLT.kp g8 hW tx tm (by decide +kernel) (by decide +kernel) (by decide +kernel) (by decide +kernel) (by decide +kernel) (by decide +kernel)).kp g9 g8.1 tx tm (by decide +kernel) (by decide +kernel) (by decide +kernel) (by decide +kernel) (by decide +kernel) (by decide +kernel), hLE9⟩ h0 h1 h2 h3 h4 hls (by omega) (by omega)
                                                              · skip
                                                                by_cases q29 : v6.toInt = 29
                                                                · skip
                                                                  refine tr_tabIn (off := 1097) 1137 dL_law_40 (by omega) (by omega) (by rw [q29]; decide +kernel) (by decide) ?_
                                                                  refine tr_aload_n dL_law_1137 h1 ?_
                                                                  refine q_callVi hE (M' := mX10_calls) (as := []) dL_law_1138 lk13_142 inX10_calls seX10_calls myX10_calls (by decide) ⟨by decide, by decide⟩ rfl (kR1 hW tx) (Nat.le_of_ble_eq_true rfl) rfl rfl hn hw (fk_X10_calls hW tx) ?_
                                                                  rintro v8 cn8 K8 N8 I8 R8 L8 ⟨rfl, rfl, rfl, rfl, rfl, g8, d8, -⟩
                                                                  refine tr_pop dL_law_1141 rfl ?_
                                                                  refine tr_aload_n dL_law_1142 h2 ?_
                                                                  refine q_callVi hE (M' := mX12_calls) (as := []) dL_law_1143 lk13_145 inX12_calls seX12_calls myX12_calls (by decide) ⟨by decide, by decide⟩ rfl (kR15 g8.1 tm) (Nat.le_of_ble_eq_true rfl) rfl rfl hn hw (fk_X12_calls g8.1 tm) ?_
                                                                  rintro v9 cn9 K9 N9 I9 R9 L9 ⟨rfl, rfl, rfl, rfl, rfl, g9, d9, -⟩
                                                                  obtain ⟨hvv, hLE9⟩ := lw_calls hLE hW tx tm g8 d8 g9 d9
                                                                  refine tr_pop dL_law_1146 rfl ?_
                                                                  refine tr_goto 1392 dL_law_1147 (by decide) ?_
                                                                  have c8 : I8 x 1 = I x 1 := g8.cell tx (by decide +kernel)
                                                                  have c9 : I9 x 1 = I8 x 1 := g9.cell tx (by decide +kernel)
                                                                  have c10 : I8 m 6 = I m 6 := g8.cell tm (by decide +kernel)
                                                                  have c11 : I9 m 6 = I8 m 6 := g9.cell tm (by decide +kernel)
                                                                  exact inc X T cn K N I9 R L ls n w hE hs hZ hx ⟨g9.1, hb, tx, tm, tox, by rw [c9, c8, c11, c10]; exact htp, (hLT.kp g8 hW tx tm (by decide +kernel) (by decide +kernel) (by decide +kernel) (by decide +kernel) (by decide +kernel) (by decide +kernel)).kp g9 g8.1 tx tm (by decide +kernel) (by decide +kernel) (by decide +kernel) (by decide +kernel) (by decide +kernel) (by decide +kernel), hLE9⟩ h0 h1 h2 h3 h4 hls (by omega) (by omega)
                                                                · skip
                                                                  by_cases q30 : v6.toInt = 30
                                                                  · skip
                                                                    refine tr_tabIn (off := 1110) 1150 dL_law_40 (by omega) (by omega) (by rw [q30]; decide +kernel) (by decide) ?_
                                                                    have e7_1 : (i0 + 1).toInt = i0.toInt + 1 := by have z : (1 : Int32).toInt = 1 := rfl; rw [ti_add (by omega) (by omega), z]
                                                                    obtain ⟨u1, hv1⟩ : ∃ v, xs (i0 + 1).toNatClampNeg = v := ⟨_, rfl⟩
                                                                    have e7_2 : (i0 + 2).toInt = i0.toInt + 2 := by have z : (2 : Int32).toInt = 2 := rfl; rw [ti_add (by omega) (by omega), z]
                                                                    obtain ⟨u2, hv2⟩ : ∃ v, xs (i0 + 2).toNatClampNeg = v := ⟨_, rfl⟩
                                                                    refine tr_aload_n dL_law_1150 h1 ?_
                                                                    refine tr_aload_nS dL_law_1151 h0 ?_
                                                                    refine tr_iload dL_law_1152 h4 ?_
                                                                    refine tr_iconst (v := 1) dL_law_1154 (by decide +kernel) ?_
                                                                    refine tr_iadd dL_law_1155 ?_
                                                                    refine q_sldE hs dL_law_1156 (by omega) (by omega) hv1 ?_
                                                                    refine tr_aload_nS dL_law_1157 h0 ?_
                                                                    refine tr_iload dL_law_1158 h4 ?_
                                                                    refine tr_iconst (v := 2) dL_law_1160 (by decide +kernel) ?_
                                                                    refine tr_iadd dL_law_1161 ?_
                                                                    refine q_sldE hs dL_law_1162 (by omega) (by omega) hv2 ?_
                                                                    refine q_callVi hE (M' := mX10_cloud) (as := [_, _]) dL_law_1163 lk13_146 inX10_cloud seX10_cloud myX10_cloud (by decide) ⟨by decide, by decide⟩ rfl (kR1 hW tx) (Nat.le_of_ble_eq_true rfl) rfl rfl hn hw (fk_X10_cloud hW tx) ?_
                                                                    rintro v8 cn8 K8 N8 I8 R8 L8 ⟨rfl, rfl, rfl, rfl, g8, b8, d8, -⟩
                                                                    refine tr_pop dL_law_1166 rfl ?_
                                                                    refine tr_aload_n dL_law_1167 h2 ?_
                                                                    refine tr_aload_nS dL_law_1168 h0 ?_
                                                                    refine tr_iload dL_law_1169 h4 ?_
                                                                    refine tr_iconst (v := 1) dL_law_1171 (by decide +kernel) ?_
                                                                    refine tr_iadd dL_law_1172 ?_
                                                                    refine q_sldE hs dL_law_1173 (by omega) (by omega) hv1 ?_
                                                                    refine tr_aload_nS dL_law_1174 h0 ?_
                                                                    refine tr_iload dL_law_1175 h4 ?_
                                                                    refine tr_iconst (v := 2) dL_law_1177 (by decide +kernel) ?_
                                                                    refine tr_iadd dL_law_1178 ?_
                                                                    refine q_sldE hs dL_law_1179 (by omega) (by omega) hv2 ?_
                                                                    refine q_callVi hE (M' := mX12_cloud) (as := [_, _]) dL_law_1180 lk13_150 inX12_cloud seX12_cloud myX12_cloud (by decide) ⟨by decide, by decide⟩ rfl (kR15 g8.1 tm) (Nat.le_of_ble_eq_true rfl) rfl rfl hn hw (fk_X12_cloud g8.1 tm) ?_
                                                                    rintro v9 cn9 K9 N9 I9 R9 L9 ⟨rfl, rfl, rfl, rfl, rfl, g9, b9, d9, -⟩
                                                                    obtain ⟨hvv, hLE9⟩ := lw_cloud hLE hW tx tm g8 d8 g9 d9
                                                                    refine tr_pop dL_law_1183 rfl ?_
                                                                    refine tr_goto 1392 dL_law_1184 (by decide) ?_
                                                                    have c8 : I8 x 1 = I x 1 := g8.cell tx (by decide +kernel)
                                                                    have c9 : I9 x 1 = I8 x 1 := g9.cell tx (by decide +kernel)
                                                                    have c10 : I8 m 6 = I m 6 := g8.cell tm (by decide +kernel)
                                                                    have c11 : I9 m 6 = I8 m 6 := g9.cell tm (by decide +kernel)
                                                                    exact inc X T cn K N I9 R8 L ls n w hE hs hZ hx ⟨g9.1, g8.rb hb (by decide +kernel), tx, tm, tox, by rw [c9, c8, c11, c10]; exact htp, (hLT.kp g8 hW tx tm (by decide +kernel) (by decide +kernel) (by decide +kernel) (by decide +kernel) (by decide +kernel) (by decide +kernel)).kp g9 g8.1 tx tm (by decide +kernel) (by decide +kernel) (by decide +kernel) (by decide +kernel) (by decide +kernel) (by decide +kernel), hLE9⟩ h0 h1 h2 h3 h4 hls (by omega) (by omega)
                                                                  · skip
                                                                    by_cases q31 : v6.toInt = 31
                                                                    · skip
                                                                      refine tr_tabIn (off := 1147) 1187 dL_law_40 (by omega) (by omega) (by rw [q31]; decide +kernel) (by decide) ?_
                                                                      refine tr_aload_n dL_law_1187 h1 ?_
                                                                      refine q_callVi hE (M' := mX10_draw) (as := []) dL_law_1188 lk13_151 inX10_draw seX10_draw myX10_draw (by decide) ⟨by decide, by decide⟩ rfl (kR1 hW tx) (Nat.le_of_ble_eq_true rfl) rfl rfl hn hw (fk_X10_draw hW tx (fun b hb h5 => hLE.mb hW tm b hb h5)) ?_
                                                                      rintro v8 cn8 K8 N8 I8 R8 L8 ⟨rfl, rfl, rfl, rfl, g8, d8, -⟩
                                                                      refine tr_pop dL_law_1191 rfl ?_
                                                                      refine tr_aload_n dL_law_1192 h2 ?_
                                                                      refine q_callVi hE (M' := mX12_draw) (as := []) dL_law_1193 lk13_154 inX12_draw seX12_draw myX12_draw (by decide) ⟨by decide, by decide⟩ rfl (kR15 g8.1 tm) (Nat.le_of_ble_eq_true rfl) rfl rfl hn hw (fk_X12_draw g8.1 tm) ?_
                                                                      rintro v9 cn9 K9 N9 I9 R9 L9 ⟨rfl, rfl, rfl, rfl, rfl, g9, d9, -⟩
                                                                      obtain ⟨hvv, hLE9⟩ := lw_draw hLE hW tx tm g8 d8 g9 d9
                                                                      refine tr_pop dL_law_1196 rfl ?_
                                                                      refine tr_goto 1392 dL_law_1197 (by decide) ?_
                                                                      have c8 : I8 x 1 = I x 1 := g8.cell tx (by decide +kernel)
                                                                      have c9 : I9 x 1 = I8 x 1 := g9.cell tx (by decide +kernel)
                                                                      have c10 : I8 m 6 = I m 6 := g8.cell tm (by decide +kernel)
                                                                      have c11 : I9 m 6 = I8 m 6 := g9.cell tm (by decide +kernel)
                                                                      exact inc X T cn K N I9 R8 L ls n w hE hs hZ hx ⟨g9.1, g8.rb hb (by decide +kernel), tx, tm, tox, by rw [c9, c8, c11, c10]; exact htp, (hLT.kp g8 hW tx tm (by decide +kernel) (by decide +kernel) (by decide +kernel) (by decide +kernel) (by decide +kernel) (by decide +kernel)).kp g9 g8.1 tx tm (by decide +kernel) (by decide +kernel) (by decide +kernel) (by decide +kernel) (by decide +kernel) (by decide +kernel), hLE9⟩ h0 h1 h2 h3 h4 hls (by omega) (by omega)
                                                                    · skip
                                                                      by_cases q32 : v6.toInt = 32
                                                                      · skip
                                                                        refine tr_tabIn (off := 1160) 1200 dL_law_40 (by omega) (by omega) (by rw [q32]; decide +kernel) (by decide) ?_
                                                                        refine tr_aload_n dL_law_1200 h1 ?_
                                                                        refine q_callVi hE (M' := mX10_lift) (as := []) dL_law_1201 lk13_155 inX10_lift seX10_lift myX10_lift (by decide) ⟨by decide, by decide⟩ rfl (kR1 hW tx) (Nat.le_of_ble_eq_true rfl) rfl rfl hn hw (fk_X10_lift hW tx) ?_
                                                                        rintro v8 cn8 K8 N8 I8 R8 L8 ⟨rfl, rfl, rfl, rfl, g8, b8, d8, -⟩
                                                                        refine tr_pop dL_law_1204 rfl ?_
                                                                        refine tr_aload_n dL_law_1205 h2 ?_
                                                                        refine q_callVi hE (M' := mX12_lift) (as := []) dL_law_1206 lk13_159 inX12_lift seX12_lift myX12_lift (by decide) ⟨by decide, by decide⟩ rfl (kR15 g8.1 tm) (Nat.le_of_ble_eq_true rfl) rfl rfl hn hw (fk_X12_lift g8.1 tm) ?_
                                                                        rintro v9 cn9 K9 N9 I9 R9 L9 ⟨rfl, rfl, rfl, rfl, rfl, g9, b9, d9, -⟩
                                                                        obtain ⟨hvv, hLE9⟩ := lw_lift hLE hW tx tm g8 d8 g9 d9
                                                                        refine tr_pop dL_law_1209 rfl ?_
                                                                        refine tr_goto 1392 dL_law_1210 (by decide) ?_
                                                                        have c8 : I8 x 1 = I x 1 := g8.cell tx (by decide +kernel)
                                                                        have c9 : I9 x 1 = I8 x 1 := g9.cell tx (by decide +kernel)
                                                                        have c10 : I8 m 6 = I m 6 := g8.cell tm (by decide +kernel)
                                                                        have c11 : I9 m 6 = I8 m 6 := g9.cell tm (by decide +kernel)
                                                                        exact inc X T cn K N I9 R8 L ls n w hE hs hZ hx ⟨g9.1, g8.rb hb (by decide +kernel), tx, tm, tox, by rw [c9, c8, c11, c10]; exact htp, (hLT.kp g8 hW tx tm (by decide +kernel) (by decide +kernel) (by decide +kernel) (by decide +kernel) (by decide +kernel) (by decide +kernel)).kp g9 g8.1 tx tm (by decide +kernel) (by decide +kernel) (by decide +kernel) (by decide +kernel) (by decide +kernel) (by decide +kernel), hLE9⟩ h0 h1 h2 h3 h4 hls (by omega) (by omega)
                                                                      · skip
                                                                        by_cases q33 : v6.toInt = 33
                                                                        · skip
                                                                          refine tr_tabIn (off := 1173) 1213 dL_law_40 (by omega) (by omega) (by rw [q33]; decide +kernel) (by decide) ?_
                                                                          have e7_1 : (i0 + 1).toInt = i0.toInt + 1 := by have z : (1 : Int32).toInt = 1 := rfl; rw [ti_add (by omega) (by omega), z]
                                                                          obtain ⟨u1, hv1⟩ : ∃ v, xs (i0 + 1).toNatClampNeg = v := ⟨_, rfl⟩
                                                                          refine tr_aload_n dL_law_1213 h1 ?_
                                                                          refine tr_aload_nS dL_law_1214 h0 ?_
                                                                          refine tr_iload dL_law_1215 h4 ?_
                                                                          refine tr_iconst (v := 1) dL_law_1217 (by decide +kernel) ?_
                                                                          refine tr_iadd dL_law_1218 ?_
                                                                          refine q_sldE hs dL_law_1219 (by omega) (by omega) hv1 ?_
                                                                          refine q_callVi hE (M' := mX10_seed) (as := [_]) dL_law_1220 lk13_160 inX10_seed seX10_seed myX10_seed (by decide) ⟨by decide, by decide⟩ rfl (kR1 hW tx) (Nat.le_of_ble_eq_true rfl) rfl rfl hn hw (fk_X10_seed hW tx) ?_
                                                                          rintro v8 cn8 K8 N8 I8 R8 L8 ⟨rfl, rfl, rfl, rfl, rfl, g8, b8, d8, -⟩
                                                                          refine tr_aload_n dL_law_1223 h2 ?_
                                                                          refine tr_aload_nS dL_law_1224 h0 ?_
                                                                          refine tr_iload dL_law_1225 h4 ?_
                                                                          refine tr_iconst (v := 1) dL_law_1227 (by decide +kernel) ?_
                                                                          refine tr_iadd dL_law_1228 ?_
                                                                          refine q_sldE hs dL_law_1229 (by omega) (by omega) hv1 ?_
                                                                          refine q_callVi hE (M' := mX12_seed) (as := [_]) dL_law_1230 lk13_164 inX12_seed seX12_seed myX12_seed (by decide) ⟨by decide, by decide⟩ rfl (kR15 g8.1 tm) (Nat.le_of_ble_eq_true rfl) rfl rfl hn hw (fk_X12_seed g8.1 tm) ?_
                                                                          rintro v9 cn9 K9 N9 I9 R9 L9 ⟨rfl, rfl, rfl, rfl, rfl, g9, b9, d9, -⟩
                                                                          obtain ⟨hvv, hLE9⟩ := lw_seed hLE hW tx tm g8 d8 g9 d9
                                                                          refine q_icmp_eq 1392 dL_law_1233 (by decide) (fun q => ?_) (fun q => absurd hvv q)
                                                                          have c8 : I8 x 1 = I x 1 := g8.cell tx (by decide +kernel)
                                                                          have c9 : I9 x 1 = I8 x 1 := g9.cell tx (by decide +kernel)
                                                                          have c10 : I8 m 6 = I m 6 := g8.cell tm (by decide +kernel)
                                                                          have c11 : I9 m 6 = I8 m 6 := g9.cell tm (by decide +kernel)
                                                                          exact inc X T cn K N I9 R L ls n w hE hs hZ hx ⟨g9.1, hb, tx, tm, tox, by rw [c9, c8, c11, c10]; exact htp, (hLT.kp g8 hW tx tm (by decide +kernel) (by decide +kernel) (by decide +kernel) (by decide +kernel) (by decide +kernel) (by decide +kernel)).kp g9 g8.1 tx tm (by decide +kernel) (by decide +kernel) (by decide +kernel) (by decide +kernel) (by decide +kernel) (by decide +kernel), hLE9⟩ h0 h1 h2 h3 h4 hls (by omega) (by omega)
                                                                        · skip
                                                                          by_cases q34 : v6.toInt = 34
                                                                          · skip
                                                                            refine tr_tabIn (off := 1198) 1238 dL_law_40 (by omega) (by omega) (by rw [q34]; decide +kernel) (by decide) ?_
                                                                            refine tr_aload_n dL_law_1238 h1 ?_
                                                                            refine q_callVi hE (M' := mX10_undo) (as := []) dL_law_1239 lk13_165 inX10_undo seX10_undo myX10_undo (by decide) ⟨by decide, by decide⟩ rfl (kR1 hW tx) (Nat.le_of_ble_eq_true rfl) rfl rfl hn hw (fk_X10_undo hW tx) ?_
                                                                            rintro v8 cn8 K8 N8 I8 R8 L8 ⟨rfl, rfl, rfl, rfl, rfl, g8, b8, d8, -⟩
                                                                            refine tr_pop dL_law_1242 rfl ?_
                                                                            refine tr_aload_n dL_law_1243 h2 ?_
                                                                            refine q_callVi hE (M' := mX12_undo) (as := []) dL_law_1244 lk13_168 inX12_undo seX12_undo myX12_undo (by decide) ⟨by decide, by decide⟩ rfl (kR15 g8.1 tm) (Nat.le_of_ble_eq_true rfl) rfl rfl hn hw (fk_X12_undo g8.1 tm) ?_
                                                                            rintro v9 cn9 K9 N9 I9 R9 L9 ⟨rfl, rfl, rfl, rfl, rfl, g9, b9, d9, -⟩
                                                                            obtain ⟨hvv, hLE9⟩ := lw_undo hLE hW tx tm g8 d8 g9 d9
                                                                            refine tr_pop dL_law_1247 rfl ?_
                                                                            refine tr_goto 1392 dL_law_1248 (by decide) ?_
                                                                            have c8 : I8 x 1 = I x 1 := g8.cell tx (by decide +kernel)
                                                                            have c9 : I9 x 1 = I8 x 1 := g9.cell tx (by decide +kernel)
                                                                            have c10 : I8 m 6 = I m 6 := g8.cell tm (by decide +kernel)
                                                                            have c11 : I9 m 6 = I8 m 6 := g9.cell tm (by decide +kernel)
                                                                            exact inc X T cn K N I9 R L ls n w hE hs hZ hx ⟨g9.1, hb, tx, tm, tox, by rw [c9, c8, c11, c10]; exact htp, (hLT.kp g8 hW tx tm (by decide +kernel) (by decide +kernel) (by decide +kernel) (by decide +kernel) (by decide +kernel) (by decide +kernel)).kp g9 g8.1 tx tm (by decide +kernel) (by decide +kernel) (by decide +kernel) (by decide +kernel) (by decide +kernel) (by decide +kernel), hLE9⟩ h0 h1 h2 h3 h4 hls (by omega) (by omega)
                                                                          · skip
                                                                            by_cases q35 : v6.toInt = 35
                                                                            · skip
                                                                              refine tr_tabIn (off := 1211) 1251 dL_law_40 (by omega) (by omega) (by rw [q35]; decide +kernel) (by decide) ?_
                                                                              refine tr_aload_n dL_law_1251 h1 ?_
                                                                              refine q_callVi hE (M' := mX10_mark) (as := []) dL_law_1252 lk13_169 inX10_mark seX10_mark myX10_mark (by decide) ⟨by decide, by decide⟩ rfl (kR1 hW tx) (Nat.le_of_ble_eq_true rfl) rfl rfl hn hw (fk_X10_mark hW tx) ?_
                                                                              rintro v8 cn8 K8 N8 I8 R8 L8 ⟨rfl, rfl, rfl, rfl, rfl, g8, d8, -⟩
                                                                              refine tr_pop dL_law_1255 rfl ?_
                                                                              refine tr_aload_n dL_law_1256 h2 ?_
                                                                              refine q_callVi hE (M' := mX12_mark) (as := []) dL_law_1257 lk13_172 inX12_mark seX12_mark myX12_mark (by decide) ⟨by decide, by decide⟩ rfl (kR15 g8.1 tm) (Nat.le_of_ble_eq_true rfl) rfl rfl hn hw (fk_X12_mark g8.1 tm) ?_
                                                                              rintro v9 cn9 K9 N9 I9 R9 L9 ⟨rfl, rfl, rfl, rfl, rfl, g9, d9, -⟩
                                                                              obtain ⟨hvv, hLE9⟩ := lw_mark hLE hW tx tm g8 d8 g9 d9
                                                                              refine tr_pop dL_law_1260 rfl ?_
                                                                              refine tr_goto 1392 dL_law_1261 (by decide) ?_
                                                                              have c8 : I8 x 1 = I x 1 := g8.cell tx (by decide +kernel)
                                                                              have c9 : I9 x 1 = I8 x 1 := g9.cell tx (by decide +kernel)
                                                                              have c10 : I8 m 6 = I m 6 := g8.cell tm (by decide +kernel)
                                                                              have c11 : I9 m 6 = I8 m 6 := g9.cell tm (by decide +kernel)
                                                                              exact inc X T cn K N I9 R L ls n w hE hs hZ hx ⟨g9.1, hb, tx, tm, tox, by rw [c9, c8, c11, c10]; exact htp, (hLT.kp g8 hW tx tm (by decide +kernel) (by decide +kernel) (by decide +kernel) (by decide +kernel) (by decide +kernel) (by decide +kernel)).kp g9 g8.1 tx tm (by decide +kernel) (by decide +kernel) (by decide +kernel) (by decide +kernel) (by decide +kernel) (by decide +kernel), hLE9⟩ h0 h1 h2 h3 h4 hls (by omega) (by omega)
                                                                            · skip
                                                                              by_cases q36 : v6.toInt = 36
                                                                              · skip
                                                                                refine tr_tabIn (off := 1224) 1264 dL_law_40 (by omega) (by omega) (by rw [q36]; decide +kernel) (by decide) ?_
                                                                                have e7_1 : (i0 + 1).toInt = i0.toInt + 1 := by have z : (1 : Int32).toInt = 1 := rfl; rw [ti_add (by omega) (by omega), z]
                                                                                obtain ⟨u1, hv1⟩ : ∃ v, xs (i0 + 1).toNatClampNeg = v := ⟨_, rfl⟩
                                                                                refine tr_aload_n dL_law_1264 h1 ?_
                                                                                refine tr_aload_nS dL_law_1265 h0 ?_
                                                                                refine tr_iload dL_law_1266 h4 ?_
                                                                                refine tr_iconst (v := 1) dL_law_1268 (by decide +kernel) ?_
                                                                                refine tr_iadd dL_law_1269 ?_
                                                                                refine q_sldE hs dL_law_1270 (by omega) (by omega) hv1 ?_
                                                                                refine q_callVi hE (M' := mX10_back) (as := [_]) dL_law_1271 lk13_173 inX10_back seX10_back myX10_back (by decide) ⟨by decide, by decide⟩ rfl (kR1 hW tx) (Nat.le_of_ble_eq_true rfl) rfl rfl hn hw (fk_X10_back hW tx) ?_
                                                                                rintro v8 cn8 K8 N8 I8 R8 L8 ⟨rfl, rfl, rfl, rfl, rfl, g8, b8, d8, -⟩
                                                                                refine tr_pop dL_law_1274 rfl ?_
                                                                                refine tr_aload_n dL_law_1275 h2 ?_
                                                                                refine tr_aload_nS dL_law_1276 h0 ?_
                                                                                refine tr_iload dL_law_1277 h4 ?_
                                                                                refine tr_iconst (v := 1) dL_law_1279 (by decide +kernel) ?_
                                                                                refine tr_iadd dL_law_1280 ?_
                                                                                refine q_sldE hs dL_law_1281 (by omega) (by omega) hv1 ?_
                                                                                refine q_callVi hE (M' := mX12_back) (as := [_]) dL_law_1282 lk13_176 inX12_back seX12_back myX12_back (by decide) ⟨by decide, by decide⟩ rfl (kR15 g8.1 tm) (Nat.le_of_ble_eq_true rfl) rfl rfl hn hw (fk_X12_back g8.1 tm) ?_
                                                                                rintro v9 cn9 K9 N9 I9 R9 L9 ⟨rfl, rfl, rfl, rfl, rfl, g9, b9, d9, -⟩
                                                                                obtain ⟨hvv, hLE9⟩ := lw_back hLE hW tx tm g8 d8 g9 d9
                                                                                refine tr_pop dL_law_1285 rfl ?_
                                                                                refine tr_goto 1392 dL_law_1286 (by decide) ?_
                                                                                have c8 : I8 x 1 = I x 1 := g8.cell tx (by decide +kernel)
                                                                                have c9 : I9 x 1 = I8 x 1 := g9.cell tx (by decide +kernel)
                                                                                have c10 : I8 m 6 = I m 6 := g8.cell tm (by decide +kernel)
                                                                                have c11 : I9 m 6 = I8 m 6 := g9.cell tm (by decide +kernel)
                                                                                exact inc X T cn K N I9 R L ls n w hE hs hZ hx ⟨g9.1, hb, tx, tm, tox, by rw [c9, c8, c11, c10]; exact htp, (hLT.kp g8 hW tx tm (by decide +kernel) (by decide +kernel) (by decide +kernel) (by decide +kernel) (by decide +kernel) (by decide +kernel)).kp g9 g8.1 tx tm (by decide +kernel) (by decide +kernel) (by decide +kernel) (by decide +kernel) (by decide +kernel) (by decide +kernel), hLE9⟩ h0 h1 h2 h3 h4 hls (by omega) (by omega)
                                                                              · skip
                                                                                by_cases q37 : v6.toInt = 37
                                                                                · skip
                                                                                  refine tr_tabIn (off := 1249) 1289 dL_law_40 (by omega) (by omega) (by rw [q37]; decide +kernel) (by decide) ?_
                                                                                  exact s_road37 hE hW tx tm tox hs ⟨by omega, by omega, by omega⟩ hn hw htp h0 h1 h2 h3 h4 (fun I2 R2 L2 q => inc X T cn K N I2 R2 L2 ls n w hE hs hZ hx ⟨q.1.1, q.1.rb hb (by decide +kernel), tx, tm, tox, q.2.1, hLT.kp q.1 hW tx tm (by decide +kernel) (by decide +kernel) (by decide +kernel) (by decide +kernel) (by decide +kernel) (by decide +kernel), hLE.kp hW tx tm q.1 (by decide +kernel) (by decide +kernel) (by decide +kernel) (by decide +kernel) (by decide +kernel) (by decide +kernel) (by decide +kernel) (by decide +kernel) (by decide +kernel) (by decide +kernel) (by decide +kernel) (by decide +kernel) (by decide +kernel) (by decide +kernel) (by decide +kernel) (by decide +kernel) (by decide +kernel) (by decide +kernel) (by decide +kernel) (by decide +kernel) (by decide +kernel) (by decide +kernel)⟩ h0 h1 h2 h3 h4 hls (by omega) (by omega))
                                                                                · skip
                                                                                  by_cases q38 : v6.toInt = 38
                                                                                  · skip
                                                                                    refine tr_tabIn (off := 1286) 1326 dL_law_40 (by omega) (by omega) (by rw [q38]; decide +kernel) (by decide) ?_
                                                                                    have e7 : (i0 + 1).toInt = i0.toInt + 1 := by have z : (1 : Int32).toInt = 1 := rfl; rw [ti_add (by omega) (by omega), z]
                                                                                    refine tr_aload_n dL_law_1326 h1 ?_
                                                                                    refine tr_aload_nS dL_law_1327 h0 ?_
                                                                                    refine tr_iload dL_law_1328 h4 ?_
                                                                                    refine tr_iconst (v := 1) dL_law_1330 (by decide +kernel) ?_
                                                                                    refine tr_iadd dL_law_1331 ?_
                                                                                    refine q_sld hs dL_law_1332 (by omega) (by omega) ?_
                                                                                    intro v8
                                                                                    refine tr_aload_n dL_law_1333 h3 ?_
                                                                                    refine tr_ledcall hE hx hW hb tx tox hls (by omega) (by omega) ?_
                                                                                    intro hs9 v9 I9 R9 L9 g9
                                                                                    have b9 : RB cn R9 := g9.rb hb (by decide +kernel)
                                                                                    have c9 : I9 m 6 = I m 6 := g9.cell tm (by decide +kernel)
                                                                                    have c10 : I9 x 1 = I x 1 := g9.cell tx (by decide +kernel)
                                                                                    refine tr_istore dL_law_1337 (by decide) (by decide) ?_
                                                                                    refine tr_aload_n dL_law_1339 h2 ?_
                                                                                    refine tr_aload_nS dL_law_1340 h0 ?_
                                                                                    refine tr_iload dL_law_1341 h4 ?_
                                                                                    refine tr_iconst (v := 1) dL_law_1343 (by decide +kernel) ?_
                                                                                    refine tr_iadd dL_law_1344 ?_
                                                                                    refine q_sld (cz_scrmv hs) dL_law_1345 (by omega) (by omega) ?_
                                                                                    intro v10
                                                                                    refine q_callVi (cz_envmv hE) (M' := mX12_led) (as := [_]) dL_law_1346 lk13_186 inX12_led seX12_led myX12_led (by decide) ⟨by decide, by decide⟩ rfl (kR15 g9.1 tm) (Nat.le_of_ble_eq_true rfl) rfl rfl (by show n + 1 ≤ 601024; omega) (by show w + 6 ≤ 7293034; omega) (k_X12_led g9.1 tm) ?_
                                                                                    rintro v11 cn11 K11 N11 I11 R11 L11 ⟨rfl, rfl, rfl, rfl, rfl, g11, -⟩
                                                                                    have c11 : I11 m 6 = I9 m 6 := g11.cell tm (by decide +kernel)
                                                                                    have c12 : I11 x 1 = I9 x 1 := g11.cell tx (by decide +kernel)
                                                                                    refine tr_istore dL_law_1349 (by decide) (by decide) ?_
                                                                                    refine tr_goto 1392 dL_law_1351 (by decide) ?_
                                                                                    exact inc _ T cn K N I11 R9 _ _ _ _ (cz_envmv hE) (cz_scrmv hs) (cz_LZmv hZ) (cz_LXmv hx) ⟨g11.1, g11.rb b9 (by decide +kernel), tx, tm, tox, by rw [c11, c12, c9, c10]; exact htp, (hLT.kp g9 hW tx tm (by decide +kernel) (by decide +kernel) (by decide +kernel) (by decide +kernel) (by decide +kernel) (by decide +kernel)).kp g11 g9.1 tx tm (by decide +kernel) (by decide +kernel) (by decide +kernel) (by decide +kernel) (by decide +kernel) (by decide +kernel), ((hLE.kp hW tx tm g9 (by decide +kernel) (by decide +kernel) (by decide +kernel) (by decide +kernel) (by decide +kernel) (by decide +kernel) (by decide +kernel) (by decide +kernel) (by decide +kernel) (by decide +kernel) (by decide +kernel) (by decide +kernel) (by decide +kernel) (by decide +kernel) (by decide +kernel) (by decide +kernel) (by decide +kernel) (by decide +kernel) (by decide +kernel) (by decide +kernel) (by decide +kernel) (by decide +kernel)).kp g9.1 tx tm g11 (by decide +kernel) (by decide +kernel) (by decide +kernel) (by decide +kernel) (by decide +kernel) (by decide +kernel) (by decide +kernel) (by decide +kernel) (by decide +kernel) (by decide +kernel) (by decide +kernel) (by decide +kernel) (by decide +kernel) (by decide +kernel) (by decide +kernel) (by decide +kernel) (by decide +kernel) (by decide +kernel) (by decide +kernel) (by decide +kernel) (by decide +kernel) (by decide +kernel))⟩ h0 h1 h2 h3 h4 (hls_up (hls_up hls)) (by omega) (by omega)
                                                                                  · skip
                                                                                    by_cases q39 : v6.toInt = 39
                                                                                    · skip
                                                                                      refine tr_tabIn (off := 1314) 1354 dL_law_40 (by omega) (by omega) (by rw [q39]; decide +kernel) (by decide) ?_
                                                                                      exact s_road39 hE hW tx tm tox hs ⟨by omega, by omega, by omega⟩ hn hw htp h0 h1 h2 h3 h4 (fun I2 R2 L2 q => inc X T cn K N I2 R2 L2 ls n w hE hs hZ hx ⟨q.1.1, q.1.rb hb (by decide +kernel), tx, tm, tox, q.2.1, hLT.kp q.1 hW tx tm (by decide +kernel) (by decide +kernel) (by decide +kernel) (by decide +kernel) (by decide +kernel) (by decide +kernel), hLE.kp hW tx tm q.1 (by decide +kernel) (by decide +kernel) (by decide +kernel) (by decide +kernel) (by decide +kernel) (by decide +kernel) (by decide +kernel) (by decide +kernel) (by decide +kernel) (by decide +kernel) (by decide +kernel) (by decide +kernel) (by decide +kernel) (by decide +kernel) (by decide +kernel) (by decide +kernel) (by decide +kernel) (by decide +kernel) (by decide +kernel) (by decide +kernel) (by decide +kernel) (by decide +kernel)⟩ h0 h1 h2 h3 h4 hls (by omega) (by omega))
                                                                                    · skip
                                                                                      by_cases q40 : v6.toInt = 40
                                                                                      · skip
                                                                                        refine tr_tabIn (off := 1339) 1379 dL_law_40 (by omega) (by omega) (by rw [q40]; decide +kernel) (by decide) ?_
                                                                                        exact s_road40 hE hW tx tm tox hs ⟨by omega, by omega, by omega⟩ hn hw htp h0 h1 h2 h3 h4 (fun I2 R2 L2 q => inc X T cn K N I2 R2 L2 ls n w hE hs hZ hx ⟨q.1.1, q.1.rb hb (by decide +kernel), tx, tm, tox, q.2.1, hLT.kp q.1 hW tx tm (by decide +kernel) (by decide +kernel) (by decide +kernel) (by decide +kernel) (by decide +kernel) (by decide +kernel), hLE.kp hW tx tm q.1 (by decide +kernel) (by decide +kernel) (by decide +kernel) (by decide +kernel) (by decide +kernel) (by decide +kernel) (by decide +kernel) (by decide +kernel) (by decide +kernel) (by decide +kernel) (by decide +kernel) (by decide +kernel) (by decide +kernel) (by decide +kernel) (by decide +kernel) (by decide +kernel) (by decide +kernel) (by decide +kernel) (by decide +kernel) (by decide +kernel) (by decide +kernel) (by decide +kernel)⟩ h0 h1 h2 h3 h4 hls (by omega) (by omega))
                                                                                      · skip
                                                                                        refine tr_tabOut 1392 dL_law_40 (by omega) (by decide) ?_
                                                                                        exact inc X T cn K N I R L ls n w hE hs hZ hx hI' h0 h1 h2 h3 h4 hls (by omega) (by omega)
