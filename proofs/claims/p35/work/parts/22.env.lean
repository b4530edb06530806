def cz_NS : Nat := 27
def cz_slen : List Nat := [7, 3, 2, 5, 4, 4, 6, 5, 5, 4, 4, 7, 3, 4, 5, 3, 4, 4, 7, 30, 6, 4, 7, 5, 5, 2, 6]
def cz_sbyt : List (List Int32) := [[97, 108, 109, 97, 110, 97, 99], [97, 108, 112], [97, 116], [98, 108, 105, 110, 100], [98, 111, 108, 116], [99, 97, 108, 108], [99, 104, 101, 101, 115, 101], [99, 108, 111, 117, 100], [99, 111, 115, 116, 115], [100, 101, 97, 102], [100, 111, 119, 110], [101, 99, 108, 105, 112, 115, 101], [102, 111, 114], [102, 114, 111, 109], [104, 97, 110, 100, 115], [104, 117, 116], [104, 117, 116, 115], [108, 97, 109, 112], [109, 105, 110, 117, 116, 101, 115], [110, 111, 32, 115, 117, 99, 104, 32, 99, 104, 101, 101, 115, 101, 32, 109, 105, 115, 115, 101, 100, 32, 97, 110, 121, 116, 104, 105, 110, 103], [112, 114, 105, 99, 101, 115], [115, 101, 101, 115], [115, 104, 117, 116, 116, 101, 114], [115, 108, 105, 99, 101], [116, 97, 107, 101, 115], [116, 111], [116, 117, 114, 110, 101, 114]]
/-! ===== what stands outside the store: texts, statics ===== -/
def cz_En (g : cz_G) (A : Nat → Prop) (U : State) (H : Heap) : Prop := vk_S cz_NS cz_slen cz_sbyt (cz_sa g) (fun i => cz_sa g (2000000 + i)) A U H ∧ va_Z "java/lang/String" "COMPACT_STRINGS" "Z" (.int 1) A U H ∧ (va_Z "jdk/internal/util/Preconditions" "SIOOBE_FORMATTER" "Ljava/util/function/BiFunction;" .null A U H ∨ va_Z "jdk/internal/util/Preconditions" "SIOOBE_FORMATTER" "Ljava/util/function/BiFunction;" (.ref (cz_sa g 3000000)) A U H)
theorem cz_En.moved {g : cz_G} {A : Nat → Prop} {u U : State} {H : Heap} (hvm : u.vm.Alike U.vm) (h : cz_En g A u H) : cz_En g A U H := ⟨vk_S.moved hvm h.1, va_Z.moved hvm h.2.1, h.2.2.imp (va_Z.moved hvm) (va_Z.moved hvm)⟩
theorem cz_En.kept {g : cz_G} {A : Nat → Prop} {U : State} {H H1 : Heap} (h : cz_En g A U H) (hq : ∀ a : Nat, a < H.size → ¬ A a → H1[a]? = H[a]?) : cz_En g A U H1 := ⟨vk_S.kept h.1 hq, va_Z.kept h.2.1 hq, h.2.2.imp (fun z => va_Z.kept z hq) (fun z => va_Z.kept z hq)⟩
theorem cz_En.narrow {g : cz_G} {A B : Nat → Prop} {U : State} {H : Heap} (h : cz_En g A U H) (hAB : ∀ q, B q → A q) : cz_En g B U H := ⟨vk_S.narrow h.1 hAB, va_Z.narrow h.2.1 hAB, h.2.2.imp (fun z => va_Z.narrow z hAB) (fun z => va_Z.narrow z hAB)⟩
def cz_env : cz_X → Prop
  | (_, _, _, s, _, _, _, _, _, A, _, g) => cz_En g A s s.heap
def cz_PcE (g : cz_G) (sz : Nat) (as : List Value) (cn : Nat) (K N : Nat → Nat) (I : cz_I) (R : cz_R) (L : cz_L) : Array Value → State → Prop := fun v U => cz_Pc g sz as cn K N I R L v U ∧ cz_En g (va_A (cz_ws g cn K N I R L) sz) U U.heap
def ConE (l : Launch) (M : cz_M) (as : List Value) (cn : Nat) (K N : Nat → Nat) (I : cz_I) (R : cz_R) (L : cz_L) (Q : cz_Q) : Prop :=
  ∀ (g : cz_G) (sz : Nat), Met l (cz_nm M) (cz_wd M) (cz_rm M) (cz_PcE g sz as cn K N I R L) (cz_Qc g (va_A (cz_ws g cn K N I R L) sz) Q) (cz_rm M).cells (cz_rm M).slots (va_A (cz_ws g cn K N I R L) sz)
theorem cz_enl {g : cz_G} {M : cz_M} {as : List Value} (hlen : (lg_sl as).length ≤ cz_nL M) (hlg : (lv_args 0 as).all (fun q => !(q.2.category == 2) || (cz_lg M).contains q.1) = true) : cz_lc g M ((lg_sl (as.map (cz_rn g)) ++ List.replicate (cz_nL M - (lg_sl (as.map (cz_rn g))).length) Slot.unset).toArray) (cz_en as) := by
  have hl := lv_entry (as.map (cz_rn g)) (n := cz_nL M) (by rw [cz_sl]; exact hlen)
  rw [cz_args] at hl
  have hmem : ∀ (i : Nat) (v : Value), cz_en as i = some v → (i, v) ∈ lv_args 0 as := by
    intro i v h
    unfold cz_en at h
    cases hq : (lv_args 0 as).find? (fun q => q.1 == i) with
    | none => rw [hq] at h; cases h
    | some q =>
      rw [hq] at h
      cases h
      have h1 : q.1 = i := by simpa using List.find?_some hq
      have h2 := List.mem_of_find?_eq_some hq
      rw [← h1]; exact h2
  refine ⟨hl.1, hl.2.1, fun i v h => hl.2.2 (i, cz_rn g v) (List.mem_map.mpr ⟨(i, v), hmem i v h, rfl⟩), fun i v h hc => ?_⟩
  have h1 := List.all_eq_true.mp hlg _ (hmem i v h)
  simpa [hc] using h1
theorem ConE.of {l : Launch} {M : cz_M} {as : List Value} {cn : Nat} {K N : Nat → Nat} {I : cz_I} {R : cz_R} {L : cz_L} {Q : cz_Q} (hy : plainName (cz_nm M).cls = true) (ho : (cz_nm M).cls = cz_on M.1) (hlen : (lg_sl as).length ≤ cz_nL M) (hlg : (lv_args 0 as).all (fun q => !(q.2.category == 2) || (cz_lg M).contains q.1) = true)
    (body : ∀ X : cz_X, X.2.1 = l → cz_Z X M Q → cz_env X → Tr X M 0 (cz_en as) [] cn K N I R L 0 0) : ConE l M as cn K N I R L Q := by
  intro g sz
  refine Met.ofW (cc := cz_cc M) (maxL := cz_nL M) (ret := cz_rt M) (ws' := cz_T) hy rfl ?_
  intro p e s m args below meth c s₁ B hml hv
  obtain ⟨⟨rfl, hsz, hR, hK⟩, hE⟩ := hv
  have hts := atoms_spec (ws := cz_wd M) B.pre
  have hown : s.vm.findClass (cz_on M.1) = some m.cls := by rw [← ho]; exact findClass_of_methodNamed B.named
  have hb := body (p, l, e, s, m, (as.map (cz_rn g)).toArray, below, meth, c, va_A (cz_ws g cn K N I R L) sz, MQ below (cz_Qc g (va_A (cz_ws g cn K N I R L) sz) Q) (as.map (cz_rn g)).toArray s (cz_rm M).cells (cz_rm M).slots (va_A (cz_ws g cn K N I R L) sz), g) rfl rfl hE
  rw [lg_entry_eq]
  exact hb ⟨B.exec, B.bytes, hml, hown, fun w hw => hts w (List.mem_cons_of_mem _ hw), B.returns, B.notSynchronized, fun h => (name_of_methodNamed B.named B.method).1.trans h, hK, fun q hq => Or.inr (by rw [← hsz]; exact hq)⟩ s.heap [] _ hR va_S.rf (cz_enl hlen hlg)
theorem cz_PcE_blind {g : cz_G} {sz : Nat} {as : List Value} {cn : Nat} {K N : Nat → Nat} {I : cz_I} {R : cz_R} {L : cz_L} : FrameBlind (cz_PcE g sz as cn K N I R L) := fun a U fr mk q => ⟨cz_Pc_blind a U fr mk q.1, cz_En.moved (u := U) (U := U.calling fr mk a) (Vm.Alike.refl U.vm) q.2⟩
theorem iokF {r j : Nat} {x : Int32} (h : riv r j = ivF) : iok r j x := by
  rw [iok, h]; exact ⟨Int32.le_toInt _, Int.le_of_lt_add_one (Int32.toInt_lt _)⟩
theorem iok_w {r r' j j' : Nat} {x : Int32} (h : riv r' j' = wiv (j' % 15)) (h2 : riv r j = wiv (j % 15)) (hj : j' % 15 = j % 15) (hx : iok r j x) : iok r' j' x := by
  rw [iok, h, hj, ← h2]; exact hx
theorem iok_w0 {r j : Nat} {x : Int32} (h : riv r j = wiv (j % 15)) (hx : x.toInt = 0) : iok r j x := by
  rw [iok, h, hx]
  unfold wiv
  cases Nat.beq (j % 15) 0 <;> cases Nat.beq (j % 15) 1 <;> cases Nat.beq (j % 15) 2 <;> decide
theorem iok_wF {r j : Nat} {x : Int32} (h : riv r j = wiv (j % 15)) (hj : j % 15 = 0) : iok r j x := iokF (by rw [h, hj]; rfl)
theorem iok_w1 {r j : Nat} {x : Int32} (h : riv r j = wiv (j % 15)) (hj : j % 15 = 1) (hx : 0 ≤ x.toInt ∧ x.toInt ≤ 6) : iok r j x := by rw [iok, h, hj]; exact hx
theorem iok_w2 {r j : Nat} {x : Int32} (h : riv r j = wiv (j % 15)) (hj : j % 15 = 2) (hx : 0 ≤ x.toInt ∧ x.toInt ≤ 65536) : iok r j x := by rw [iok, h, hj]; exact hx
theorem iok_w3 {r j : Nat} {x : Int32} (h : riv r j = wiv (j % 15)) (hj : 3 ≤ j % 15) (hx : 0 ≤ x.toInt ∧ x.toInt ≤ 240) : iok r j x := by
  rw [iok, h]
  have e2 : wiv (j % 15) = (0, 240) := by
    unfold wiv
    rw [beqF (show j % 15 ≠ 0 by exact om_e4ac86b1 hj), beqF (show j % 15 ≠ 1 by exact om_625f52c2 hj), beqF (show j % 15 ≠ 2 by exact om_fed275cf hj)]; rfl
  rw [e2]; exact hx
section CzQC
variable {X : cz_X} {M : cz_M} {pc : Nat} {ls : Nat → Option Value} {st : List Value} {cn : Nat} {K N : Nat → Nat} {I : cz_I} {R : cz_R} {L : cz_L} {n w : Nat} {Q : cz_Q}
theorem cz_preE {p : Program} {l : Launch} {e : Env} {s : State} {m : MethodId} {args : Array Value} {below : List Frame} {meth : Method} {c : Code} {A : Nat → Prop} {Z : State → Prop} {g : cz_G} {H : Heap} {locs : List Loc} {as : List Value} (hC : cz_ok (p, l, e, s, m, args, below, meth, c, A, Z, g) M) (hR : cz_At g A cn K N I R L H) (hS : va_S A s.heap H locs) (hE : cz_En g A s s.heap) : ∀ U : State, U.heap = H → s.WarmedH U.vm → cz_PcE g H.size as cn K N I R L (as.map (cz_rn g)).toArray U := by
  intro U hU hW
  refine ⟨cz_pre hC hR U hU hW, ?_⟩
  rw [hU]
  refine cz_En.moved hW.alike ((hE.kept hS.2.1).narrow fun q h => ?_)
  rcases h with ⟨k, e, h⟩ | h
  · exact hR.2.1.2 k (q, e) h
  · exact hC.2.2.2.2.2.2.2.2.2 q (Nat.le_trans hS.1 h)
theorem te_callV (hE : cz_env X) {M' : cz_M} {as : List Value} {k ci np idx : Nat} (hd : decode (cz_cc M) pc = .ok (.invokevirtual idx, 3)) (hlk : Cond.methodLink (cz_on M.1) idx (cz_nm M') ∈ cz_T) (hin : Cond.instanceMethod (cz_nm M') ∈ cz_T) (hse : Cond.selects (cz_on ci) (cz_nm M') (cz_nm M') ∈ cz_T) (hmy : cz_my M' ci np) (hci : ci < 13) (hrm : cz_room M M') (hnp : as.length = np) (hk : K k = ci) (hst : (st.map fun v => v.category).sum ≤ 8) (hn : n + (cz_rm M').cells ≤ (cz_rm M).cells) (hw : w + (cz_rm M').slots ≤ (cz_rm M).slots)
    (hCon : ConE X.2.1 M' (.ref k :: as) cn K N I R L Q) (kk : ∀ r cn' K' N' I' R' L', Q r cn' K' N' I' R' L' → Tr X M (pc + 3) ls (r.toList ++ st) cn' K' N' I' R' L' (n + (cz_rm M').cells) (w + (cz_rm M').slots)) : Tr X M pc ls (as.reverse ++ .ref k :: st) cn K N I R L n w := by
  obtain ⟨p, l, e, s, m, args, below, meth, c, A, Z, g⟩ := X
  intro hC H locs arr hR hS hl
  have hts := hC.2.2.2.2.1
  obtain ⟨y1, y2, y3, y4⟩ := hmy
  have hcb := callB_of (R := cz_rm M) (own := cz_on M.1) (index := idx) np hts (cz_good y2) rfl rfl rfl (by rw [y1]; exact hts _ y3) (hts _ hlk) y4 ⟨hrm.1, hrm.2⟩
  have hg := cz_getO (g := g) (N := N) (I := I) (R := R) (L := L) hR.2.2.2 hk hci
  have hre := va_recv hC.2.2.2.2.2.2.2.2.1.1 hR.1 (cz_cls hci).1 hg
  rw [cz_stk, List.map_cons]
  exact cz_after hC hR hS hl (va_runV (C := cz_on ci) (b := cz_al g k) (As := as.map (cz_rn g)) ⟨hC.1, hC.2.1, hC.2.2.1, hC.2.2.2.1, hts⟩ (hCon g H.size) ⟨hcb, hts _ hin, hts _ hse⟩ ⟨cz_PcE_blind, hre, cz_preE (as := .ref k :: as) hC hR hS hE⟩ rfl (by rw [List.length_map]; exact hnp) hl.1 rfl (cz_rest g hst) hd ⟨hn, hw⟩) kk
theorem te_callS (hE : cz_env X) {M' : cz_M} {as : List Value} {ci np idx : Nat} (hd : decode (cz_cc M) pc = .ok (.invokestatic idx, 3)) (hlk : Cond.methodLink (cz_on M.1) idx (cz_nm M') ∈ cz_T) (hin : Cond.static (cz_nm M') ∈ cz_T) (hmy : cz_my M' ci np) (hrm : cz_room M M') (hnp : as.length = np) (hst : (st.map fun v => v.category).sum ≤ 8) (hn : n + (cz_rm M').cells ≤ (cz_rm M).cells) (hw : w + (cz_rm M').slots ≤ (cz_rm M).slots)
    (hCon : ConE X.2.1 M' as cn K N I R L Q) (kk : ∀ r cn' K' N' I' R' L', Q r cn' K' N' I' R' L' → Tr X M (pc + 3) ls (r.toList ++ st) cn' K' N' I' R' L' (n + (cz_rm M').cells) (w + (cz_rm M').slots)) : Tr X M pc ls (as.reverse ++ st) cn K N I R L n w := by
  obtain ⟨p, l, e, s, m, args, below, meth, c, A, Z, g⟩ := X
  intro hC H locs arr hR hS hl
  have hts := hC.2.2.2.2.1
  obtain ⟨y1, y2, y3, y4⟩ := hmy
  have hcb := callB_of (R := cz_rm M) (own := cz_on M.1) (index := idx) np hts (cz_good y2) rfl rfl rfl (by rw [y1]; exact hts _ y3) (hts _ hlk) y4 ⟨hrm.1, hrm.2⟩
  rw [cz_stk]
  exact cz_after hC hR hS hl (va_runS (As := as.map (cz_rn g)) ⟨hC.1, hC.2.1, hC.2.2.1, hC.2.2.2.1, hts⟩ (hCon g H.size) ⟨hcb, hts _ hin⟩ ⟨cz_PcE_blind, cz_preE (as := as) hC hR hS hE⟩ rfl (by rw [List.length_map]; exact hnp) hl.1 rfl (cz_rest g hst) hd ⟨hn, hw⟩) kk
theorem te_callSN (hE : cz_env X) {M' : cz_M} {as : List Value} {ci np idx : Nat} {host : String} (hd : decode (cz_cc M) pc = .ok (.invokestatic idx, 3)) (hlk : (cz_on M.1, idx, cz_nm M', host) ∈ cz_NM) (hin : Cond.static (cz_nm M') ∈ cz_T) (hmy : cz_my M' ci np) (hrm : cz_room M M') (hnp : as.length = np) (hst : (st.map fun v => v.category).sum ≤ 8) (hn : n + (cz_rm M').cells ≤ (cz_rm M).cells) (hw : w + (cz_rm M').slots ≤ (cz_rm M).slots)
    (hCon : ConE X.2.1 M' as cn K N I R L Q) (kk : ∀ r cn' K' N' I' R' L', Q r cn' K' N' I' R' L' → Tr X M (pc + 3) ls (r.toList ++ st) cn' K' N' I' R' L' (n + (cz_rm M').cells) (w + (cz_rm M').slots)) : Tr X M pc ls (as.reverse ++ st) cn K N I R L n w := by
  obtain ⟨p, l, e, s, m, args, below, meth, c, A, Z, g⟩ := X
  intro hC H locs arr hR hS hl
  have hts := hC.2.2.2.2.1
  have hKK : cz_K g s := hC.2.2.2.2.2.2.2.2.1
  obtain ⟨y1, y2, y3, y4⟩ := hmy
  have hcb := va_cnB (R := cz_rm M) (own := cz_on M.1) (host := host) (index := idx) np hts (cz_good y2) rfl rfl rfl (hKK.2.2.1 (cz_on M.1, idx, cz_nm M', host) hlk) (by rw [y1]; exact hts _ y3) y4 ⟨hrm.1, hrm.2⟩
  rw [cz_stk]
  exact cz_after hC hR hS hl (va_runSN (As := as.map (cz_rn g)) ⟨hC.1, hC.2.1, hC.2.2.1, hC.2.2.2.1, hts⟩ (hCon g H.size) ⟨hcb, hts _ hin, trivial⟩ ⟨cz_PcE_blind, cz_preE (as := as) hC hR hS hE⟩ rfl (by rw [List.length_map]; exact hnp) hl.1 rfl (cz_rest g hst) hd ⟨hn, hw⟩) kk
theorem te_callIN (hE : cz_env X) {M' : cz_M} {as : List Value} {k ci np idx : Nat} {host : String} (hd : decode (cz_cc M) pc = .ok (.invokespecial idx, 3)) (hlk : (cz_on M.1, idx, cz_nm M', host) ∈ cz_NM) (hin : Cond.instanceMethod (cz_nm M') ∈ cz_T) (hnm : (cz_nm M').name = "<init>") (hrt : cz_rt M' = none) (hmy : cz_my M' ci np) (hrm : cz_room M M') (hnp : as.length = np) (hst : (st.map fun v => v.category).sum ≤ 8) (hn : n + (cz_rm M').cells ≤ (cz_rm M).cells) (hw : w + (cz_rm M').slots ≤ (cz_rm M).slots)
    (hCon : ConE X.2.1 M' (.ref k :: as) cn K N I R L Q) (kk : ∀ r cn' K' N' I' R' L', Q r cn' K' N' I' R' L' → Tr X M (pc + 3) ls (r.toList ++ st) cn' K' N' I' R' L' (n + (cz_rm M').cells) (w + (cz_rm M').slots)) : Tr X M pc ls (as.reverse ++ .ref k :: st) cn K N I R L n w := by
  obtain ⟨p, l, e, s, m, args, below, meth, c, A, Z, g⟩ := X
  intro hC H locs arr hR hS hl
  have hts := hC.2.2.2.2.1
  have hKK : cz_K g s := hC.2.2.2.2.2.2.2.2.1
  obtain ⟨y1, y2, y3, y4⟩ := hmy
  have hcb := va_cnB (R := cz_rm M) (own := cz_on M.1) (host := host) (index := idx) np hts (cz_good y2) rfl rfl rfl (hKK.2.2.1 (cz_on M.1, idx, cz_nm M', host) hlk) (by rw [y1]; exact hts _ y3) y4 ⟨hrm.1, hrm.2⟩
  rw [hrt] at hcb
  rw [cz_stk, List.map_cons]
  exact cz_after hC hR hS hl (va_runIN (b := cz_al g k) (As := as.map (cz_rn g)) ⟨hC.1, hC.2.1, hC.2.2.1, hC.2.2.2.1, hts⟩ (hCon g H.size) ⟨hcb, hnm, hts _ hin⟩ ⟨cz_PcE_blind, cz_preE (as := .ref k :: as) hC hR hS hE⟩ rfl (by rw [List.length_map]; exact hnp) hl.1 rfl (cz_rest g hst) hd ⟨hn, hw⟩) kk
abbrev ca_i (P : Int32 → Nat → (Nat → Nat) → (Nat → Nat) → cz_I → cz_R → cz_L → Prop) : cz_Q := fun r cn K N I R L => ∃ v : Int32, r = some (.int v) ∧ P v cn K N I R L
abbrev ca_l (P : Int64 → Nat → (Nat → Nat) → (Nat → Nat) → cz_I → cz_R → cz_L → Prop) : cz_Q := fun r cn K N I R L => ∃ v : Int64, r = some (.long v) ∧ P v cn K N I R L
abbrev ca_r (P : Nat → Nat → (Nat → Nat) → (Nat → Nat) → cz_I → cz_R → cz_L → Prop) : cz_Q := fun r cn K N I R L => ∃ v : Nat, r = some (.ref v) ∧ P v cn K N I R L
abbrev ca_s (P : UInt32 → Nat → (Nat → Nat) → (Nat → Nat) → cz_I → cz_R → cz_L → Prop) : cz_Q := fun r cn K N I R L => ∃ v : UInt32, r = some (.float v) ∧ P v cn K N I R L
abbrev ca_v (P : Nat → (Nat → Nat) → (Nat → Nat) → cz_I → cz_R → cz_L → Prop) : cz_Q := fun r cn K N I R L => r = none ∧ P cn K N I R L
theorem q_callVi (hE : cz_env X) {M' : cz_M} {P : Int32 → Nat → (Nat → Nat) → (Nat → Nat) → cz_I → cz_R → cz_L → Prop} {as : List Value} {k ci np idx : Nat} (hd : decode (cz_cc M) pc = .ok (.invokevirtual idx, 3)) (hlk : Cond.methodLink (cz_on M.1) idx (cz_nm M') ∈ cz_T) (hin : Cond.instanceMethod (cz_nm M') ∈ cz_T) (hse : Cond.selects (cz_on ci) (cz_nm M') (cz_nm M') ∈ cz_T) (hmy : cz_my M' ci np) (hci : ci < 13) (hrm : cz_room M M') (hnp : as.length = np) (hk : K k = ci) (hst : (st.map fun v => v.category).sum ≤ 8) (hc0 : (cz_rm M').cells = 0) (hs0 : (cz_rm M').slots = 0) (hn : n ≤ (cz_rm M).cells) (hw : w ≤ (cz_rm M).slots) (hCon : ConE X.2.1 M' (.ref k :: as) cn K N I R L (ca_i P)) (kk : ∀ (v : Int32) (cn' : Nat) (K' N' : Nat → Nat) (I' : cz_I) (R' : cz_R) (L' : cz_L), P v cn' K' N' I' R' L' → Tr X M (pc + 3) ls (.int v :: st) cn' K' N' I' R' L' n w) : Tr X M pc ls (as.reverse ++ .ref k :: st) cn K N I R L n w :=
  te_callV hE hd hlk hin hse hmy hci hrm hnp hk hst (by rw [hc0]; exact hn) (by rw [hs0]; exact hw) hCon (fun r cn' K' N' I' R' L' h => by rw [hc0, hs0]; obtain ⟨v, rfl, hq⟩ := h; exact kk _ _ _ _ _ _ _ hq)
theorem q_callVl (hE : cz_env X) {M' : cz_M} {P : Int64 → Nat → (Nat → Nat) → (Nat → Nat) → cz_I → cz_R → cz_L → Prop} {as : List Value} {k ci np idx : Nat} (hd : decode (cz_cc M) pc = .ok (.invokevirtual idx, 3)) (hlk : Cond.methodLink (cz_on M.1) idx (cz_nm M') ∈ cz_T) (hin : Cond.instanceMethod (cz_nm M') ∈ cz_T) (hse : Cond.selects (cz_on ci) (cz_nm M') (cz_nm M') ∈ cz_T) (hmy : cz_my M' ci np) (hci : ci < 13) (hrm : cz_room M M') (hnp : as.length = np) (hk : K k = ci) (hst : (st.map fun v => v.category).sum ≤ 8) (hc0 : (cz_rm M').cells = 0) (hs0 : (cz_rm M').slots = 0) (hn : n ≤ (cz_rm M).cells) (hw : w ≤ (cz_rm M).slots) (hCon : ConE X.2.1 M' (.ref k :: as) cn K N I R L (ca_l P)) (kk : ∀ (v : Int64) (cn' : Nat) (K' N' : Nat → Nat) (I' : cz_I) (R' : cz_R) (L' : cz_L), P v cn' K' N' I' R' L' → Tr X M (pc + 3) ls (.long v :: st) cn' K' N' I' R' L' n w) : Tr X M pc ls (as.reverse ++ .ref k :: st) cn K N I R L n w :=
  te_callV hE hd hlk hin hse hmy hci hrm hnp hk hst (by rw [hc0]; exact hn) (by rw [hs0]; exact hw) hCon (fun r cn' K' N' I' R' L' h => by rw [hc0, hs0]; obtain ⟨v, rfl, hq⟩ := h; exact kk _ _ _ _ _ _ _ hq)
theorem q_callVr (hE : cz_env X) {M' : cz_M} {P : Nat → Nat → (Nat → Nat) → (Nat → Nat) → cz_I → cz_R → cz_L → Prop} {as : List Value} {k ci np idx : Nat} (hd : decode (cz_cc M) pc = .ok (.invokevirtual idx, 3)) (hlk : Cond.methodLink (cz_on M.1) idx (cz_nm M') ∈ cz_T) (hin : Cond.instanceMethod (cz_nm M') ∈ cz_T) (hse : Cond.selects (cz_on ci) (cz_nm M') (cz_nm M') ∈ cz_T) (hmy : cz_my M' ci np) (hci : ci < 13) (hrm : cz_room M M') (hnp : as.length = np) (hk : K k = ci) (hst : (st.map fun v => v.category).sum ≤ 8) (hc0 : (cz_rm M').cells = 0) (hs0 : (cz_rm M').slots = 0) (hn : n ≤ (cz_rm M).cells) (hw : w ≤ (cz_rm M).slots) (hCon : ConE X.2.1 M' (.ref k :: as) cn K N I R L (ca_r P)) (kk : ∀ (v : Nat) (cn' : Nat) (K' N' : Nat → Nat) (I' : cz_I) (R' : cz_R) (L' : cz_L), P v cn' K' N' I' R' L' → Tr X M (pc + 3) ls (.ref v :: st) cn' K' N' I' R' L' n w) : Tr X M pc ls (as.reverse ++ .ref k :: st) cn K N I R L n w :=
  te_callV hE hd hlk hin hse hmy hci hrm hnp hk hst (by rw [hc0]; exact hn) (by rw [hs0]; exact hw) hCon (fun r cn' K' N' I' R' L' h => by rw [hc0, hs0]; obtain ⟨v, rfl, hq⟩ := h; exact kk _ _ _ _ _ _ _ hq)
theorem q_callVv (hE : cz_env X) {M' : cz_M} {P : Nat → (Nat → Nat) → (Nat → Nat) → cz_I → cz_R → cz_L → Prop} {as : List Value} {k ci np idx : Nat} (hd : decode (cz_cc M) pc = .ok (.invokevirtual idx, 3)) (hlk : Cond.methodLink (cz_on M.1) idx (cz_nm M') ∈ cz_T) (hin : Cond.instanceMethod (cz_nm M') ∈ cz_T) (hse : Cond.selects (cz_on ci) (cz_nm M') (cz_nm M') ∈ cz_T) (hmy : cz_my M' ci np) (hci : ci < 13) (hrm : cz_room M M') (hnp : as.length = np) (hk : K k = ci) (hst : (st.map fun v => v.category).sum ≤ 8) (hc0 : (cz_rm M').cells = 0) (hs0 : (cz_rm M').slots = 0) (hn : n ≤ (cz_rm M).cells) (hw : w ≤ (cz_rm M).slots) (hCon : ConE X.2.1 M' (.ref k :: as) cn K N I R L (ca_v P)) (kk : ∀ (cn' : Nat) (K' N' : Nat → Nat) (I' : cz_I) (R' : cz_R) (L' : cz_L), P cn' K' N' I' R' L' → Tr X M (pc + 3) ls (st) cn' K' N' I' R' L' n w) : Tr X M pc ls (as.reverse ++ .ref k :: st) cn K N I R L n w :=
  te_callV hE hd hlk hin hse hmy hci hrm hnp hk hst (by rw [hc0]; exact hn) (by rw [hs0]; exact hw) hCon (fun r cn' K' N' I' R' L' h => by rw [hc0, hs0]; obtain ⟨rfl, hq⟩ := h; exact kk _ _ _ _ _ _ hq)
theorem q_callSi (hE : cz_env X) {M' : cz_M} {P : Int32 → Nat → (Nat → Nat) → (Nat → Nat) → cz_I → cz_R → cz_L → Prop} {as : List Value} {ci np idx : Nat} (hd : decode (cz_cc M) pc = .ok (.invokestatic idx, 3)) (hlk : Cond.methodLink (cz_on M.1) idx (cz_nm M') ∈ cz_T) (hin : Cond.static (cz_nm M') ∈ cz_T) (hmy : cz_my M' ci np) (hrm : cz_room M M') (hnp : as.length = np)  (hst : (st.map fun v => v.category).sum ≤ 8) (hc0 : (cz_rm M').cells = 0) (hs0 : (cz_rm M').slots = 0) (hn : n ≤ (cz_rm M).cells) (hw : w ≤ (cz_rm M).slots) (hCon : ConE X.2.1 M' (as) cn K N I R L (ca_i P)) (kk : ∀ (v : Int32) (cn' : Nat) (K' N' : Nat → Nat) (I' : cz_I) (R' : cz_R) (L' : cz_L), P v cn' K' N' I' R' L' → Tr X M (pc + 3) ls (.int v :: st) cn' K' N' I' R' L' n w) : Tr X M pc ls (as.reverse ++ st) cn K N I R L n w :=
  te_callS hE hd hlk hin hmy hrm hnp  hst (by rw [hc0]; exact hn) (by rw [hs0]; exact hw) hCon (fun r cn' K' N' I' R' L' h => by rw [hc0, hs0]; obtain ⟨v, rfl, hq⟩ := h; exact kk _ _ _ _ _ _ _ hq)
theorem q_callSl (hE : cz_env X) {M' : cz_M} {P : Int64 → Nat → (Nat → Nat) → (Nat → Nat) → cz_I → cz_R → cz_L → Prop} {as : List Value} {ci np idx : Nat} (hd : decode (cz_cc M) pc = .ok (.invokestatic idx, 3)) (hlk : Cond.methodLink (cz_on M.1) idx (cz_nm M') ∈ cz_T) (hin : Cond.static (cz_nm M') ∈ cz_T) (hmy : cz_my M' ci np) (hrm : cz_room M M') (hnp : as.length = np)  (hst : (st.map fun v => v.category).sum ≤ 8) (hc0 : (cz_rm M').cells = 0) (hs0 : (cz_rm M').slots = 0) (hn : n ≤ (cz_rm M).cells) (hw : w ≤ (cz_rm M).slots) (hCon : ConE X.2.1 M' (as) cn K N I R L (ca_l P)) (kk : ∀ (v : Int64) (cn' : Nat) (K' N' : Nat → Nat) (I' : cz_I) (R' : cz_R) (L' : cz_L), P v cn' K' N' I' R' L' → Tr X M (pc + 3) ls (.long v :: st) cn' K' N' I' R' L' n w) : Tr X M pc ls (as.reverse ++ st) cn K N I R L n w :=
  te_callS hE hd hlk hin hmy hrm hnp  hst (by rw [hc0]; exact hn) (by rw [hs0]; exact hw) hCon (fun r cn' K' N' I' R' L' h => by rw [hc0, hs0]; obtain ⟨v, rfl, hq⟩ := h; exact kk _ _ _ _ _ _ _ hq)
theorem q_callSs (hE : cz_env X) {M' : cz_M} {P : UInt32 → Nat → (Nat → Nat) → (Nat → Nat) → cz_I → cz_R → cz_L → Prop} {as : List Value} {ci np idx : Nat} (hd : decode (cz_cc M) pc = .ok (.invokestatic idx, 3)) (hlk : Cond.methodLink (cz_on M.1) idx (cz_nm M') ∈ cz_T) (hin : Cond.static (cz_nm M') ∈ cz_T) (hmy : cz_my M' ci np) (hrm : cz_room M M') (hnp : as.length = np)  (hst : (st.map fun v => v.category).sum ≤ 8) (hc0 : (cz_rm M').cells = 0) (hs0 : (cz_rm M').slots = 0) (hn : n ≤ (cz_rm M).cells) (hw : w ≤ (cz_rm M).slots) (hCon : ConE X.2.1 M' (as) cn K N I R L (ca_s P)) (kk : ∀ (v : UInt32) (cn' : Nat) (K' N' : Nat → Nat) (I' : cz_I) (R' : cz_R) (L' : cz_L), P v cn' K' N' I' R' L' → Tr X M (pc + 3) ls (.float v :: st) cn' K' N' I' R' L' n w) : Tr X M pc ls (as.reverse ++ st) cn K N I R L n w :=
  te_callS hE hd hlk hin hmy hrm hnp  hst (by rw [hc0]; exact hn) (by rw [hs0]; exact hw) hCon (fun r cn' K' N' I' R' L' h => by rw [hc0, hs0]; obtain ⟨v, rfl, hq⟩ := h; exact kk _ _ _ _ _ _ _ hq)
theorem q_callSv (hE : cz_env X) {M' : cz_M} {P : Nat → (Nat → Nat) → (Nat → Nat) → cz_I → cz_R → cz_L → Prop} {as : List Value} {ci np idx : Nat} (hd : decode (cz_cc M) pc = .ok (.invokestatic idx, 3)) (hlk : Cond.methodLink (cz_on M.1) idx (cz_nm M') ∈ cz_T) (hin : Cond.static (cz_nm M') ∈ cz_T) (hmy : cz_my M' ci np) (hrm : cz_room M M') (hnp : as.length = np)  (hst : (st.map fun v => v.category).sum ≤ 8) (hc0 : (cz_rm M').cells = 0) (hs0 : (cz_rm M').slots = 0) (hn : n ≤ (cz_rm M).cells) (hw : w ≤ (cz_rm M).slots) (hCon : ConE X.2.1 M' (as) cn K N I R L (ca_v P)) (kk : ∀ (cn' : Nat) (K' N' : Nat → Nat) (I' : cz_I) (R' : cz_R) (L' : cz_L), P cn' K' N' I' R' L' → Tr X M (pc + 3) ls (st) cn' K' N' I' R' L' n w) : Tr X M pc ls (as.reverse ++ st) cn K N I R L n w :=
  te_callS hE hd hlk hin hmy hrm hnp  hst (by rw [hc0]; exact hn) (by rw [hs0]; exact hw) hCon (fun r cn' K' N' I' R' L' h => by rw [hc0, hs0]; obtain ⟨rfl, hq⟩ := h; exact kk _ _ _ _ _ _ hq)
theorem q_callSNi (hE : cz_env X) {M' : cz_M} {P : Int32 → Nat → (Nat → Nat) → (Nat → Nat) → cz_I → cz_R → cz_L → Prop} {as : List Value} {ci np idx : Nat} {host : String} (hd : decode (cz_cc M) pc = .ok (.invokestatic idx, 3)) (hlk : (cz_on M.1, idx, cz_nm M', host) ∈ cz_NM) (hin : Cond.static (cz_nm M') ∈ cz_T) (hmy : cz_my M' ci np) (hrm : cz_room M M') (hnp : as.length = np)  (hst : (st.map fun v => v.category).sum ≤ 8) (hc0 : (cz_rm M').cells = 0) (hs0 : (cz_rm M').slots = 0) (hn : n ≤ (cz_rm M).cells) (hw : w ≤ (cz_rm M).slots) (hCon : ConE X.2.1 M' (as) cn K N I R L (ca_i P)) (kk : ∀ (v : Int32) (cn' : Nat) (K' N' : Nat → Nat) (I' : cz_I) (R' : cz_R) (L' : cz_L), P v cn' K' N' I' R' L' → Tr X M (pc + 3) ls (.int v :: st) cn' K' N' I' R' L' n w) : Tr X M pc ls (as.reverse ++ st) cn K N I R L n w :=
  te_callSN hE hd hlk hin hmy hrm hnp  hst (by rw [hc0]; exact hn) (by rw [hs0]; exact hw) hCon (fun r cn' K' N' I' R' L' h => by rw [hc0, hs0]; obtain ⟨v, rfl, hq⟩ := h; exact kk _ _ _ _ _ _ _ hq)
end CzQC
