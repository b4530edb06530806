/-! ===== contracts over the store ===== -/
abbrev cz_Q : Type := Option Value → Nat → (Nat → Nat) → (Nat → Nat) → cz_I → cz_R → cz_L → Prop
def cz_Qc (g : cz_G) (A : Nat → Prop) (Q : cz_Q) : Array Value → State → Outcome → State → Prop := fun _ st oc t =>
  (∃ (r : Option Value) (cn : Nat) (K N : Nat → Nat) (I : cz_I) (R : cz_R) (L : cz_L), oc = .returned (r.map (cz_rn g)) ∧ Q r cn K N I R L ∧ cz_At g A cn K N I R L t.heap) ∧ va_F A st t
def cz_Pc (g : cz_G) (sz : Nat) (as : List Value) (cn : Nat) (K N : Nat → Nat) (I : cz_I) (R : cz_R) (L : cz_L) : Array Value → State → Prop :=
  va_Pc (as.map (cz_rn g)) (fun U => U.heap.size = sz ∧ cz_At g (va_A (cz_ws g cn K N I R L) sz) cn K N I R L U.heap ∧ cz_K g U)
/-- THE CONTRACT: the method M, with these arguments and this store, returns with Q -/
def Con (l : Launch) (M : cz_M) (as : List Value) (cn : Nat) (K N : Nat → Nat) (I : cz_I) (R : cz_R) (L : cz_L) (Q : cz_Q) : Prop :=
  ∀ (g : cz_G) (sz : Nat), Met l (cz_nm M) (cz_wd M) (cz_rm M) (cz_Pc g sz as cn K N I R L) (cz_Qc g (va_A (cz_ws g cn K N I R L) sz) Q) (cz_rm M).cells (cz_rm M).slots (va_A (cz_ws g cn K N I R L) sz)
/-- a body's end is its contract's -/
def cz_Z : cz_X → cz_M → cz_Q → Prop
  | (_, _, _, s, _, args, below, _, _, A, Z, g), M, Q => Z = MQ below (cz_Qc g A Q) args s (cz_rm M).cells (cz_rm M).slots A
/-- the locals at the entry -/
def cz_en (as : List Value) (i : Nat) : Option Value := ((lv_args 0 as).find? (fun q => q.1 == i)).map (fun q => q.2)
theorem cz_args (g : cz_G) : ∀ (as : List Value) (i : Nat), lv_args i (as.map (cz_rn g)) = (lv_args i as).map (fun q => (q.1, cz_rn g q.2))
  | [], _ => rfl
  | v :: vs, i => by
    rw [List.map_cons, lv_args, lv_args, List.map_cons, cz_rn_cat, cz_args g vs]
theorem cz_sl (g : cz_G) : ∀ (as : List Value), (lg_sl (as.map (cz_rn g))).length = (lg_sl as).length
  | [] => rfl
  | v :: vs => by
    have h := cz_sl g vs
    simp only [lg_sl, List.map_cons, List.flatMap_cons, List.length_append, cz_rn_cat] at h ⊢
    rw [h]
    split <;> rfl
theorem Con.of {l : Launch} {M : cz_M} {as : List Value} {cn : Nat} {K N : Nat → Nat} {I : cz_I} {R : cz_R} {L : cz_L} {Q : cz_Q} (hy : plainName (cz_nm M).cls = true) (ho : (cz_nm M).cls = cz_on M.1) (hlen : (lg_sl as).length ≤ cz_nL M) (hlg : (lv_args 0 as).all (fun q => !(q.2.category == 2) || (cz_lg M).contains q.1) = true)
    (body : ∀ X : cz_X, X.2.1 = l → cz_Z X M Q → Tr X M 0 (cz_en as) [] cn K N I R L 0 0) : Con l M as cn K N I R L Q := by
  intro g sz
  refine Met.ofW (cc := cz_cc M) (maxL := cz_nL M) (ret := cz_rt M) (ws' := cz_T) hy rfl ?_
  intro p e s m args below meth c s₁ B hml hv
  obtain ⟨rfl, hsz, hR, hK⟩ := hv
  have hts := atoms_spec (ws := cz_wd M) B.pre
  have hown : s.vm.findClass (cz_on M.1) = some m.cls := by rw [← ho]; exact findClass_of_methodNamed B.named
  have hb := body (p, l, e, s, m, (as.map (cz_rn g)).toArray, below, meth, c, va_A (cz_ws g cn K N I R L) sz, MQ below (cz_Qc g (va_A (cz_ws g cn K N I R L) sz) Q) (as.map (cz_rn g)).toArray s (cz_rm M).cells (cz_rm M).slots (va_A (cz_ws g cn K N I R L) sz), g) rfl rfl
  have hl := lv_entry (as.map (cz_rn g)) (n := cz_nL M) (by rw [cz_sl]; exact hlen)
  rw [lg_entry_eq]
  refine hb ⟨B.exec, B.bytes, hml, hown, fun w hw => hts w (List.mem_cons_of_mem _ hw), B.returns, B.notSynchronized, fun h => (name_of_methodNamed B.named B.method).1.trans h, hK, fun q hq => Or.inr (by rw [← hsz]; exact hq)⟩ s.heap [] _ hR va_S.rf ?_
  rw [cz_args] at hl
  have hmem : ∀ (i : Nat) (v : Value), cz_en as i = some v → (i, v) ∈ lv_args 0 as := by
    intro i v h
    unfold cz_en at h
    cases hq : (lv_args 0 as).find? (fun q => q.1 == i) with
    | none => rw [hq] at h; cases h
    | some q =>
      rw [hq] at h
      cases h
      have h1 : q.1 = i := by simpa using List.find?_some hq
      have h2 := List.mem_of_find?_eq_some hq
      rw [← h1]; exact h2
  refine ⟨hl.1, hl.2.1, fun i v h => hl.2.2 (i, cz_rn g v) (List.mem_map.mpr ⟨(i, v), hmem i v h, rfl⟩), fun i v h hc => ?_⟩
  have h1 := List.all_eq_true.mp hlg _ (hmem i v h)
  simpa [hc] using h1
theorem cz_Pc_blind {g : cz_G} {sz : Nat} {as : List Value} {cn : Nat} {K N : Nat → Nat} {I : cz_I} {R : cz_R} {L : cz_L} : FrameBlind (cz_Pc g sz as cn K N I R L) := fun a U fr mk q => ⟨q.1, q.2.1, q.2.2.1, cz_K.same (s := U) (U := U.calling fr mk a) rfl q.2.2.2⟩
theorem Con.mono {l : Launch} {M : cz_M} {as : List Value} {cn : Nat} {K N : Nat → Nat} {I : cz_I} {R : cz_R} {L : cz_L} {Q Q' : cz_Q} (h : Con l M as cn K N I R L Q) (hq : ∀ r cn K N I R L, Q r cn K N I R L → Q' r cn K N I R L) : Con l M as cn K N I R L Q' := by
  intro g sz p e ha hc hk s m args below hf hpre hP hT
  obtain ⟨k, o, h1, h2, h3, ⟨⟨⟨r, cn2, K2, N2, I2, R2, L2, e1, e2, e3⟩, h5⟩, h6⟩⟩ := h g sz p e ha hc hk s m args below hf hpre hP hT
  exact ⟨k, o, h1, h2, h3, ⟨⟨r, cn2, K2, N2, I2, R2, L2, e1, hq _ _ _ _ _ _ _ e2, e3⟩, h5⟩, h6⟩
section CzCalls
variable {X : cz_X} {M : cz_M} {pc : Nat} {ls : Nat → Option Value} {st : List Value} {cn : Nat} {K N : Nat → Nat} {I : cz_I} {R : cz_R} {L : cz_L} {n w : Nat} {Q : cz_Q}
theorem tr_iret {x : Int32} (hZ : cz_Z X M Q) (hd : decode (cz_cc M) pc = .ok (.ireturn, 1)) (hrt : cz_rt M = some .int) (hn : n ≤ (cz_rm M).cells) (hw : w ≤ (cz_rm M).slots) (hq : Q (some (.int x)) cn K N I R L) : Tr X M pc ls ([.int x]) cn K N I R L n w := by
  obtain ⟨p, l, e, s, m, args, below, meth, c, A, Z, g⟩ := X
  intro hC H locs arr hR hS hl
  have hZ : Z = _ := hZ
  subst hZ
  have hlocks : meth.locks = false := hC.2.2.2.2.2.2.1
  refine W.widen hn hw ?_
  exact W.iret (v := x) hC.1 hC.2.1 (hC.2.2.2.2.2.1.trans hrt) (fun t ht hW => ⟨⟨some (.int x), cn, K, N, I, R, L, rfl, hq, by rw [ht]; exact hR⟩, hS.F ht⟩) hS.2.2 hd
theorem tr_zret {x : Int32} (hZ : cz_Z X M Q) (hd : decode (cz_cc M) pc = .ok (.ireturn, 1)) (hrt : cz_rt M = some .boolean) (hx : x = 0 ∨ x = 1) (hn : n ≤ (cz_rm M).cells) (hw : w ≤ (cz_rm M).slots) (hq : Q (some (.int x)) cn K N I R L) : Tr X M pc ls ([.int x]) cn K N I R L n w := by
  obtain ⟨p, l, e, s, m, args, below, meth, c, A, Z, g⟩ := X
  intro hC H locs arr hR hS hl
  have hZ : Z = _ := hZ
  subst hZ
  have hlocks : meth.locks = false := hC.2.2.2.2.2.2.1
  refine W.widen hn hw ?_
  exact W.zret (v := x) hC.1 hC.2.1 (hC.2.2.2.2.2.1.trans hrt) (by rcases hx with rfl | rfl <;> decide +kernel) (fun t ht hW => ⟨⟨some (.int x), cn, K, N, I, R, L, rfl, hq, by rw [ht]; exact hR⟩, hS.F ht⟩) hS.2.2 hd
theorem tr_lret {x : Int64} (hZ : cz_Z X M Q) (hd : decode (cz_cc M) pc = .ok (.lreturn, 1)) (hrt : cz_rt M = some .long) (hn : n ≤ (cz_rm M).cells) (hw : w ≤ (cz_rm M).slots) (hq : Q (some (.long x)) cn K N I R L) : Tr X M pc ls ([.long x]) cn K N I R L n w := by
  obtain ⟨p, l, e, s, m, args, below, meth, c, A, Z, g⟩ := X
  intro hC H locs arr hR hS hl
  have hZ : Z = _ := hZ
  subst hZ
  have hlocks : meth.locks = false := hC.2.2.2.2.2.2.1
  refine W.widen hn hw ?_
  exact W.lret (v := x) hC.1 hC.2.1 (hC.2.2.2.2.2.1.trans hrt) (fun t ht hW => ⟨⟨some (.long x), cn, K, N, I, R, L, rfl, hq, by rw [ht]; exact hR⟩, hS.F ht⟩) hS.2.2 hd
theorem tr_aret {x : Nat} {C : String} (hZ : cz_Z X M Q) (hd : decode (cz_cc M) pc = .ok (.areturn, 1)) (hrt : cz_rt M = some (.object C)) (hn : n ≤ (cz_rm M).cells) (hw : w ≤ (cz_rm M).slots) (hq : Q (some (.ref x)) cn K N I R L) : Tr X M pc ls ([.ref x]) cn K N I R L n w := by
  obtain ⟨p, l, e, s, m, args, below, meth, c, A, Z, g⟩ := X
  intro hC H locs arr hR hS hl
  have hZ : Z = _ := hZ
  subst hZ
  have hlocks : meth.locks = false := hC.2.2.2.2.2.2.1
  refine W.widen hn hw ?_
  exact W.aret (v := .ref (cz_al g x)) hC.1 hC.2.1 (hC.2.2.2.2.2.1.trans hrt) (Or.inl ⟨_, rfl⟩) (Or.inr ⟨_, rfl⟩) (fun t ht hW => ⟨⟨some (.ref x), cn, K, N, I, R, L, rfl, hq, by rw [ht]; exact hR⟩, hS.F ht⟩) hS.2.2 hd
theorem tr_aretS {x : UInt32} {C : String} (hZ : cz_Z X M Q) (hd : decode (cz_cc M) pc = .ok (.areturn, 1)) (hrt : cz_rt M = some (.object C)) (hn : n ≤ (cz_rm M).cells) (hw : w ≤ (cz_rm M).slots) (hq : Q (some (.float x)) cn K N I R L) : Tr X M pc ls ([.float x]) cn K N I R L n w := by
  obtain ⟨p, l, e, s, m, args, below, meth, c, A, Z, g⟩ := X
  intro hC H locs arr hR hS hl
  have hZ : Z = _ := hZ
  subst hZ
  have hlocks : meth.locks = false := hC.2.2.2.2.2.2.1
  refine W.widen hn hw ?_
  exact W.aret (v := .ref (cz_sa g x.toNat)) hC.1 hC.2.1 (hC.2.2.2.2.2.1.trans hrt) (Or.inl ⟨_, rfl⟩) (Or.inr ⟨_, rfl⟩) (fun t ht hW => ⟨⟨some (.float x), cn, K, N, I, R, L, rfl, hq, by rw [ht]; exact hR⟩, hS.F ht⟩) hS.2.2 hd
theorem tr_vret (hZ : cz_Z X M Q) (hd : decode (cz_cc M) pc = .ok (.return_, 1)) (hrt : cz_rt M = none) (hn : n ≤ (cz_rm M).cells) (hw : w ≤ (cz_rm M).slots) (hq : Q (none) cn K N I R L) : Tr X M pc ls ([]) cn K N I R L n w := by
  obtain ⟨p, l, e, s, m, args, below, meth, c, A, Z, g⟩ := X
  intro hC H locs arr hR hS hl
  have hZ : Z = _ := hZ
  subst hZ
  have hlocks : meth.locks = false := hC.2.2.2.2.2.2.1
  refine W.widen hn hw ?_
  exact W.vret hC.1 hC.2.1 (hC.2.2.2.2.2.1.trans hrt) (fun t ht hW => ⟨⟨none, cn, K, N, I, R, L, rfl, hq, by rw [ht]; exact hR⟩, hS.F ht⟩) hS.2.2 hd
theorem tr_obj {k idx : Nat} (hd : decode (cz_cc M) pc = .ok (.invokespecial idx, 3)) (hl1 : Cond.methodLink (cz_on M.1) idx objectInit ∈ cz_T) (hl2 : Cond.instanceMethod objectInit ∈ cz_T) (hl3 : Cond.code objectInit ⟨#[0xb1]⟩ 1 none ∈ cz_T) (hf : 1 ≤ (cz_rm M).frames) (ho : (st.map fun v => v.category).sum + 12 ≤ (cz_rm M).locals) (kk : Tr X M (pc + 3) ls st cn K N I R L n w) : Tr X M pc ls (.ref k :: st) cn K N I R L n w := by
  obtain ⟨p, l, e, s, m, args, below, meth, c, A, Z, g⟩ := X
  intro hC H locs arr hR hS hl
  have hts := hC.2.2.2.2.1
  refine W.objInit hC.1 hC.2.1 hC.2.2.2.1 (hts _ hl1) (hts _ hl2) (hts _ hl3) rfl (by rw [hC.2.2.1]; exact hl.1) rfl hd hf ?_ ?_
  · have : 2 * (F0 m pc arr (List.map (cz_rn g) (Value.ref k :: st))).monitorRoom = 0 := rfl
    rw [this, cz_rn_sum]; exact om_66cf30a2 ho
  · exact kk hC H locs arr hR hS hl
/-! ===== calls ===== -/
def cz_room (M M' : cz_M) : Prop := (cz_rm M').frames + 1 ≤ (cz_rm M).frames ∧ 8 + (cz_nL M' + 11) + (cz_rm M').locals ≤ (cz_rm M).locals
/-- a method as the words know it: its class's number, its parameters -/
def cz_my (M' : cz_M) (ci np : Nat) : Prop := (cz_nm M').cls = cz_on ci ∧ Cond.code (cz_nm M') (cz_cc M') (cz_nL M') (cz_rt M') ∈ cz_T ∧ Cond.initialized (cz_on ci) ∈ cz_T ∧ ((cz_nm M').cls ≠ "java/lang/invoke/MethodHandle" ∧ (cz_nm M').cls ≠ "java/lang/invoke/VarHandle" ∧ (parseMethodDescriptor (cz_nm M').desc).map (fun d => d.parameters.length) = some np)
theorem cz_good {M' : cz_M} (h : Cond.code (cz_nm M') (cz_cc M') (cz_nL M') (cz_rt M') ∈ cz_T) : GoodIn cz_T (cz_wd M') := by
  intro w hw
  have h1 : w ∈ cz_T := by
    rcases List.mem_cons.mp hw with rfl | h2
    · exact h
    · exact h2
  exact ⟨h1, good_of_word (List.mem_filter.mp h1).2⟩
section CzBack
variable {p : Program} {l : Launch} {e : Env} {s : State} {m : MethodId} {args : Array Value} {below : List Frame} {meth : Method} {c : Code} {A : Nat → Prop} {Z : State → Prop} {g : cz_G} {H : Heap} {locs : List Loc} {arr : Array Slot} {fr : JFrame}
/-- behind a call -/
theorem cz_after {a : Array Value} {mc ms : Nat} {st0 : List Value} (hC : cz_ok (p, l, e, s, m, args, below, meth, c, A, Z, g) M) (hR : cz_At g A cn K N I R L H) (hS : va_S A s.heap H locs) (hl : cz_lc g M arr ls)
    (hr : va_Run p l e (cz_rm M) s m args below meth c H locs n w mc ms (F0 m pc arr st0) (st.map (cz_rn g)) (cz_Qc g (va_A (cz_ws g cn K N I R L) H.size) Q a) (va_A (cz_ws g cn K N I R L) H.size))
    (kk : ∀ r cn' K' N' I' R' L', Q r cn' K' N' I' R' L' → Tr (p, l, e, s, m, args, below, meth, c, A, Z, g) M (pc + 3) ls (r.toList ++ st) cn' K' N' I' R' L' (n + mc) (w + ms)) : W p l e (cz_rm M) s m args below meth c H locs n w Z (F0 m pc arr st0) := by
  have hfree : ∀ q, va_A (cz_ws g cn K N I R L) H.size q → A q := by
    intro q h
    rcases h with ⟨k, e, h⟩ | h
    · exact hR.2.1.2 k (q, e) h
    · exact hC.2.2.2.2.2.2.2.2.2 q (Nat.le_trans hS.1 h)
  intro T hT X
  obtain ⟨v, st₀, t, T', LL, h0, X', hL, e1, e2, ⟨⟨r, cn2, K2, N2, I2, R2, L2, hv, hq, hAt⟩, hz, hk⟩, stp⟩ := hr T hT X
  have hv : v = r.map (cz_rn g) := by cases hv; rfl
  subst hv
  rw [h0] at hz hk
  have hAt2 : cz_At g A cn2 K2 N2 I2 R2 L2 T'.heap := by
    rw [e1]; exact ⟨hAt.1, hAt.2.1.weaken (fun _ q _ h => hfree q.1 h), hAt.2.2⟩
  have hS2 : va_S A s.heap T'.heap (locs ++ LL) := ⟨Nat.le_trans hS.1 (by rw [e1]; exact hz), fun q h1 h2 => by rw [e1, hk q (Nat.lt_of_lt_of_le h1 hS.1) (fun z => h2 (hfree q z))]; exact hS.2.1 q h1 h2, fun q hq => by
      rcases List.mem_append.mp hq with h | h
      · exact hS.2.2 q h
      · exact hfree _ (hL q h)⟩
  have hw := kk r cn2 K2 N2 I2 R2 L2 hq hC T'.heap (locs ++ LL) arr hAt2 hS2 hl
  obtain ⟨t2, a1, b1⟩ := hw T' rfl X'
  refine ⟨t2, stp t2 ?_, b1⟩
  have he : (r.toList ++ st).map (cz_rn g) = (r.map (cz_rn g)).toList ++ st.map (cz_rn g) := by cases r <;> rfl
  rw [he] at a1
  exact a1
theorem cz_pre {as : List Value} (hC : cz_ok (p, l, e, s, m, args, below, meth, c, A, Z, g) M) (hR : cz_At g A cn K N I R L H) : ∀ U : State, U.heap = H → s.WarmedH U.vm → cz_Pc g H.size as cn K N I R L (as.map (cz_rn g)).toArray U := by
  intro U hU hW
  refine ⟨rfl, by rw [hU], ?_, cz_K.warm hW hC.2.2.2.2.2.2.2.2.1⟩
  rw [hU]
  exact ⟨hR.1, hR.2.1.self, hR.2.2⟩
end CzBack
theorem cz_rest {st : List Value} (g : cz_G) {m : MethodId} {arr : Array Slot} {stk : List Value} (h : (st.map fun v => v.category).sum ≤ 8) : 2 * (F0 m pc arr stk).monitorRoom + ((st.map (cz_rn g)).map fun v => v.category).sum ≤ 8 := by
  rw [cz_rn_sum]; exact lv_room h
theorem cz_stk (g : cz_G) (as st : List Value) : (as.reverse ++ st).map (cz_rn g) = (as.map (cz_rn g)).reverse ++ st.map (cz_rn g) := by rw [List.map_append, List.map_reverse]
theorem tr_callI {M' : cz_M} {as : List Value} {k ci np idx : Nat} (hd : decode (cz_cc M) pc = .ok (.invokespecial idx, 3)) (hlk : Cond.methodLink (cz_on M.1) idx (cz_nm M') ∈ cz_T) (hin : Cond.instanceMethod (cz_nm M') ∈ cz_T) (hnm : (cz_nm M').name = "<init>") (hrt : cz_rt M' = none) (hmy : cz_my M' ci np) (hrm : cz_room M M') (hnp : as.length = np) (hst : (st.map fun v => v.category).sum ≤ 8) (hn : n + (cz_rm M').cells ≤ (cz_rm M).cells) (hw : w + (cz_rm M').slots ≤ (cz_rm M).slots)
    (hCon : Con X.2.1 M' (.ref k :: as) cn K N I R L Q) (kk : ∀ r cn' K' N' I' R' L', Q r cn' K' N' I' R' L' → Tr X M (pc + 3) ls (r.toList ++ st) cn' K' N' I' R' L' (n + (cz_rm M').cells) (w + (cz_rm M').slots)) : Tr X M pc ls (as.reverse ++ .ref k :: st) cn K N I R L n w := by
  obtain ⟨p, l, e, s, m, args, below, meth, c, A, Z, g⟩ := X
  intro hC H locs arr hR hS hl
  have hts := hC.2.2.2.2.1
  obtain ⟨y1, y2, y3, y4⟩ := hmy
  have hcb := callB_of (R := cz_rm M) (own := cz_on M.1) (index := idx) np hts (cz_good y2) rfl rfl rfl (by rw [y1]; exact hts _ y3) (hts _ hlk) y4 ⟨hrm.1, hrm.2⟩
  rw [hrt] at hcb
  rw [cz_stk, List.map_cons]
  exact cz_after hC hR hS hl (va_runI (b := cz_al g k) (As := as.map (cz_rn g)) ⟨hC.1, hC.2.1, hC.2.2.1, hC.2.2.2.1, hts⟩ (hCon g H.size) ⟨hcb, hnm, hts _ hin⟩ ⟨cz_Pc_blind, cz_pre (as := .ref k :: as) hC hR⟩ rfl (by rw [List.length_map]; exact hnp) hl.1 rfl (cz_rest g hst) hd ⟨hn, hw⟩) kk
theorem tr_callIN {M' : cz_M} {as : List Value} {k ci np idx : Nat} {host : String} (hd : decode (cz_cc M) pc = .ok (.invokespecial idx, 3)) (hlk : (cz_on M.1, idx, cz_nm M', host) ∈ cz_NM) (hin : Cond.instanceMethod (cz_nm M') ∈ cz_T) (hnm : (cz_nm M').name = "<init>") (hrt : cz_rt M' = none) (hmy : cz_my M' ci np) (hrm : cz_room M M') (hnp : as.length = np) (hst : (st.map fun v => v.category).sum ≤ 8) (hn : n + (cz_rm M').cells ≤ (cz_rm M).cells) (hw : w + (cz_rm M').slots ≤ (cz_rm M).slots)
    (hCon : Con X.2.1 M' (.ref k :: as) cn K N I R L Q) (kk : ∀ r cn' K' N' I' R' L', Q r cn' K' N' I' R' L' → Tr X M (pc + 3) ls (r.toList ++ st) cn' K' N' I' R' L' (n + (cz_rm M').cells) (w + (cz_rm M').slots)) : Tr X M pc ls (as.reverse ++ .ref k :: st) cn K N I R L n w := by
  obtain ⟨p, l, e, s, m, args, below, meth, c, A, Z, g⟩ := X
  intro hC H locs arr hR hS hl
  have hts := hC.2.2.2.2.1
  have hKK : cz_K g s := hC.2.2.2.2.2.2.2.2.1
  obtain ⟨y1, y2, y3, y4⟩ := hmy
  have hcb := va_cnB (R := cz_rm M) (own := cz_on M.1) (host := host) (index := idx) np hts (cz_good y2) rfl rfl rfl (hKK.2.2.1 (cz_on M.1, idx, cz_nm M', host) hlk) (by rw [y1]; exact hts _ y3) y4 ⟨hrm.1, hrm.2⟩
  rw [hrt] at hcb
  rw [cz_stk, List.map_cons]
  exact cz_after hC hR hS hl (va_runIN (b := cz_al g k) (As := as.map (cz_rn g)) ⟨hC.1, hC.2.1, hC.2.2.1, hC.2.2.2.1, hts⟩ (hCon g H.size) ⟨hcb, hnm, hts _ hin⟩ ⟨cz_Pc_blind, cz_pre (as := .ref k :: as) hC hR⟩ rfl (by rw [List.length_map]; exact hnp) hl.1 rfl (cz_rest g hst) hd ⟨hn, hw⟩) kk
end CzCalls
