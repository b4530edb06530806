theorem dL_law_1326 : decode cL_law 1326 = .ok (.aload_n 1, 1) := by decide +kernel
theorem dL_law_1327 : decode cL_law 1327 = .ok (.aload_n 0, 1) := by decide +kernel
theorem dL_law_1328 : decode cL_law 1328 = .ok (.iload 4, 2) := by decide +kernel
theorem dL_law_1330 : decode cL_law 1330 = .ok (.iconst 1, 1) := by decide +kernel
theorem dL_law_1331 : decode cL_law 1331 = .ok (.iadd, 1) := by decide +kernel
theorem dL_law_1332 : decode cL_law 1332 = .ok (.iaload, 1) := by decide +kernel
theorem dL_law_1333 : decode cL_law 1333 = .ok (.aload_n 3, 1) := by decide +kernel
theorem dL_law_1334 : decode cL_law 1334 = .ok (.invokestatic 181, 3) := by decide +kernel
theorem dL_law_1337 : decode cL_law 1337 = .ok (.istore 5, 2) := by decide +kernel
theorem dL_law_1339 : decode cL_law 1339 = .ok (.aload_n 2, 1) := by decide +kernel
theorem dL_law_1340 : decode cL_law 1340 = .ok (.aload_n 0, 1) := by decide +kernel
theorem dL_law_1341 : decode cL_law 1341 = .ok (.iload 4, 2) := by decide +kernel
theorem dL_law_1343 : decode cL_law 1343 = .ok (.iconst 1, 1) := by decide +kernel
theorem dL_law_1344 : decode cL_law 1344 = .ok (.iadd, 1) := by decide +kernel
theorem dL_law_1345 : decode cL_law 1345 = .ok (.iaload, 1) := by decide +kernel
theorem dL_law_1346 : decode cL_law 1346 = .ok (.invokevirtual 186, 3) := by decide +kernel
theorem dL_law_1349 : decode cL_law 1349 = .ok (.istore 6, 2) := by decide +kernel
theorem dL_law_1351 : decode cL_law 1351 = .ok (.aload_n 2, 1) := by decide +kernel
theorem dL_law_1352 : decode cL_law 1352 = .ok (.invokevirtual 187, 3) := by decide +kernel
theorem dL_law_1355 : decode cL_law 1355 = .ok (.iload 5, 2) := by decide +kernel
theorem dL_law_1357 : decode cL_law 1357 = .ok (.if_icmp .eq 5, 3) := by decide +kernel
theorem dL_law_1362 : decode cL_law 1362 = .ok (.iload 5, 2) := by decide +kernel
theorem dL_law_1364 : decode cL_law 1364 = .ok (.ifCond .ne 15, 3) := by decide +kernel
theorem dL_law_1379 : decode cL_law 1379 = .ok (.goto 41, 3) := by decide +kernel
theorem dL_led_0 : decode cL_led 0 = .ok (.aload_n 2, 1) := by decide +kernel
theorem dL_led_1 : decode cL_led 1 = .ok (.iconst 0, 1) := by decide +kernel
theorem dL_led_2 : decode cL_led 2 = .ok (.aload_n 0, 1) := by decide +kernel
theorem dL_led_3 : decode cL_led 3 = .ok (.iload_n 1, 1) := by decide +kernel
theorem dL_led_4 : decode cL_led 4 = .ok (.invokevirtual 7, 3) := by decide +kernel
theorem dL_led_12 : decode cL_led 12 = .ok (.astore_n 3, 1) := by decide +kernel
theorem dL_led_13 : decode cL_led 13 = .ok (.iconst 1, 1) := by decide +kernel
theorem dL_led_14 : decode cL_led 14 = .ok (.ireturn, 1) := by decide +kernel
/-! ===== an exception that the one row of a table catches ===== -/
theorem cz_caught {p : Program} {l : Launch} {e : Env} {Rm : Room} {s : State} {m : MethodId} {args : Array Value} {below : List Frame} {meth : Method} {c : Code} {T : State} {locs : List Loc} {cells slots : Nat} (X : Stand p l e Rm s m args below meth c T locs cells slots) {q : Addr} {g : JFrame} (hg : g.method = m) {ce : Cell} (hcell : T.heap[q]? = some ce) (hv : ce.vm = .none)
    {own name E : String} {x : ExceptionTableEntry} (hown : s.vm.findClass own = some m.cls) (htab : c.exceptionTable.toList = [x]) (hx : covers x g.pc = true) (h0 : x.catchType ≠ 0) (hlink : (Cond.classLink own x.catchType name).before args s = true) (hcast : (Cond.castable E name).before args s = true) (hcl : s.vm.findClass E = some ce.cls) :
    ∃ vm', Stand p l e Rm s m args below meth c (T.setVm vm') locs cells slots ∧ ∀ target, Steps p.tables e below ((T.setVm vm').setTop { g with pc := x.handlerPc, stack := [.ref q] }) target → Steps p.tables e below ((T.setTop g).pushFrame (.throwing q)) target := by
  subst hg
  have hpl : e.platform.magicAccessors = ({} : Platform).magicAccessors := by rw [X.admits.platform]
  obtain ⟨c3, c4, hc3, hc4, hasg⟩ := Cond.castable_spec hcast
  cases Option.some.inj (hc3.symm.trans hcl)
  obtain ⟨c5, hc5, hl5⟩ := Cond.classLink_spec hown hlink e.platform hpl
  cases Option.some.inj (hc4.symm.trans hc5)
  obtain ⟨dk, _, _, kt, hd, _, _, _, _, hkt, _, hop⟩ := hl5.here
  obtain ⟨k9, h9, -⟩ := Vm.findClass_spec hcl
  have hW : s.WarmedH (T.vm.noted g.method.cls x.catchType (.cls c4)) := X.warmed.noted hd hop (State.rightAt_cls hl5)
  refine ⟨T.vm.noted g.method.cls x.catchType (.cls c4), X.noted hW, fun target hrest => ?_⟩
  have hfind : ∀ (Q : Handler → Pre) (E : CtlPost) (d : Bool) (acts : List Action), wp (findHandler g q) Q E e d acts ((T.setTop g).pushFrame (.throwing q)) ↔ Q (.found x.handlerPc) d acts (((T.setTop g).pushFrame (.throwing q)).setVm (T.vm.noted g.method.cls x.catchType (.cls c4))) := by
    intro Q E d acts
    have hm : ((T.setTop g).pushFrame (.throwing q)).vm.method? g.method = some meth := X.method'
    rw [W.findHandler_eq hm X.code, htab]
    have hl6 : ((T.setTop g).pushFrame (.throwing q)).vm.ClassLinks e.platform g.method.cls x.catchType c4 := X.warmed.classLinks hl5
    have hal : T.vm.Alike (T.vm.noted g.method.cls x.catchType (.cls c4)) := (Vm.Alike.refl T.vm).noted _ _ _
    obtain ⟨ha, ht⟩ := (resolveClass_links e.toSetting hl6).op (op := VmOp.resolveClass g.method.cls x.catchType) rfl
    obtain ⟨k1, hk1, -⟩ := X.warmed.alike.2.2 _ _ h9
    obtain ⟨k2, hk2, -⟩ := X.warmed.alike.2.2 _ _ hkt
    obtain ⟨k1', hk1', -⟩ := hal.2.2 _ _ hk1
    obtain ⟨k2', hk2', -⟩ := hal.2.2 _ _ hk2
    have hfit : (T.vm.noted g.method.cls x.catchType (.cls c4)).assignable ce.cls c4 = true := by rw [hal.assignable, X.warmed.alike.assignable]; exact hasg
    have hobj : ∀ k, ce.vm ≠ .statics k := fun k h => by rw [hv] at h; cases h
    have hcell' : ((T.setTop g).pushFrame (.throwing q)).heap[q]? = some ce := hcell
    have hx' := hx
    simp only [covers] at hx'
    have hk1'' : (((T.setTop g).pushFrame (.throwing q)).vm.noted g.method.cls x.catchType (.cls c4)).classes[ce.cls]? = some k1' := hk1'
    have hk2'' : (((T.setTop g).pushFrame (.throwing q)).vm.noted g.method.cls x.catchType (.cls c4)).classes[c4]? = some k2' := hk2'
    have hfit'' : (((T.setTop g).pushFrame (.throwing q)).vm.noted g.method.cls x.catchType (.cls c4)).assignable ce.cls c4 = true := hfit
    have hvm : (T.vm.noted g.method.cls x.catchType (.cls c4)) = (((T.setTop g).pushFrame (.throwing q)).vm.noted g.method.cls x.catchType (.cls c4)) := rfl
    rw [hvm]
    simp [findHandler.go, hx', h0, ha, ht, hcell', hobj, hk1'', hk2'', hfit'', VmOp.dirties, VmOp.acts]
  obtain ⟨hgo, hw⟩ := X.here.throwing q
  refine Steps.head hgo hw ?_
  have hst : (stepThrowing e ((T.setTop g).pushFrame (.throwing q)) q (.java g :: below)).Is ((((T.setTop g).pushFrame (.throwing q)).setVm (T.vm.noted g.method.cls x.catchType (.cls c4))).setFrames (.java { g with pc := x.handlerPc, stack := [.ref q] } :: below)) [] := by
    simp only [stepThrowing, searchFrame, vmDo]
    generalize hr : Sem.go _ e false [] ((T.setTop g).pushFrame (.throwing q)) = res
    obtain ⟨as, rfl, ha⟩ := Sem.eq_ok_of hr (a := Handler.found x.handlerPc) (s' := ((T.setTop g).pushFrame (.throwing q)).setVm (T.vm.noted g.method.cls x.catchType (.cls c4))) (acts' := []) (by simp [hfind _ _ _ _])
    exact ⟨rfl, ha⟩
  obtain ⟨g₀, hr⟩ := X.frames_eq
  rw [stepThread_throwing (frames_entered X.here.top _)]
  have hr' : (T.setVm (T.vm.noted g.method.cls x.catchType (.cls c4))).frames = .java g₀ :: below := hr
  rw [State.setTop_of_frames _ hr'] at hrest
  rw [hr, List.tail_cons, hst.1]
  have e1 : (((T.setTop g).pushFrame (.throwing q)).setVm (T.vm.noted g.method.cls x.catchType (.cls c4))).setFrames (.java { g with pc := x.handlerPc, stack := [.ref q] } :: below) = (T.setVm (T.vm.noted g.method.cls x.catchType (.cls c4))).setFrames (.java { g with pc := x.handlerPc, stack := [.ref q] } :: below) := by
    rw [State.pushFrame, State.setTop_of_frames _ hr]
    have h2 : ∀ (u : State) (vm' : Vm) (F G : List Frame), ((u.setFrames F).setVm vm').setFrames G = (u.setVm vm').setFrames G := fun u vm' F G => by
      have h1 : (u.setFrames F).setVm vm' = (u.setVm vm').setFrames F := rfl
      rw [h1, State.setFrames_setFrames]
    rw [h2, h2]
  rw [e1]
  exact hrest
/-! ===== led's contract, and the law's own led ===== -/
def cz_PX (I : cz_I) (R : cz_R) : cz_I → cz_R → Prop := fun I' R' => (∀ k : Nat, 183 ≤ k → I' k = I k ∧ R' k = R k) ∧ ∀ k j x : Nat, R' k j = some x → x < 203
def cz_PL (g : cz_G) (sz : Nat) (as : List Value) (cn : Nat) (K N : Nat → Nat) (I : cz_I) (R : cz_R) (L : cz_L) : Array Value → State → Prop := fun v U =>
  cz_Pc g sz as cn K N I R L v U ∧ vx_Zq Bundle.tN "UNASSIGNED_STACK" Bundle.steD (va_A (cz_ws g cn K N I R L) sz) U U.heap ∧ vx_Zq Bundle.tN "SUPPRESSED_SENTINEL" Bundle.listD (va_A (cz_ws g cn K N I R L) sz) U U.heap
theorem cz_PL_blind {g : cz_G} {sz : Nat} {as : List Value} {cn : Nat} {K N : Nat → Nat} {I : cz_I} {R : cz_R} {L : cz_L} : FrameBlind (cz_PL g sz as cn K N I R L) := fun a U fr mk q => ⟨cz_Pc_blind a U fr mk q.1, vx_Zq.moved (u := U) (U := U.calling fr mk a) (Vm.Alike.refl U.vm) q.2.1, vx_Zq.moved (u := U) (U := U.calling fr mk a) (Vm.Alike.refl U.vm) q.2.2⟩
theorem cz_enl {g : cz_G} {M : cz_M} {as : List Value} (hlen : (lg_sl as).length ≤ cz_nL M) (hlg : (lv_args 0 as).all (fun q => !(q.2.category == 2) || (cz_lg M).contains q.1) = true) : cz_lc g M ((lg_sl (as.map (cz_rn g)) ++ List.replicate (cz_nL M - (lg_sl (as.map (cz_rn g))).length) Slot.unset).toArray) (cz_en as) := by
  have hl := lv_entry (as.map (cz_rn g)) (n := cz_nL M) (by rw [cz_sl]; exact hlen)
  rw [cz_args] at hl
  have hmem : ∀ (i : Nat) (v : Value), cz_en as i = some v → (i, v) ∈ lv_args 0 as := by
    intro i v h
    unfold cz_en at h
    cases hq : (lv_args 0 as).find? (fun q => q.1 == i) with
    | none => rw [hq] at h; cases h
    | some q =>
      rw [hq] at h
      cases h
      have h1 : q.1 = i := by simpa using List.find?_some hq
      have h2 := List.mem_of_find?_eq_some hq
      rw [← h1]; exact h2
  refine ⟨hl.1, hl.2.1, fun i v h => hl.2.2 (i, cz_rn g v) (List.mem_map.mpr ⟨(i, v), hmem i v h, rfl⟩), fun i v h hc => ?_⟩
  have h1 := List.all_eq_true.mp hlg _ (hmem i v h)
  simpa [hc] using h1
theorem c_led {l : Launch} (hfl : l.stackTraces = false) {a : Int32} {K N : Nat → Nat} {I : cz_I} {R : cz_R} {L : cz_L} (hf : cz_f1 K N I R) (hw : ∀ k j x : Nat, R k j = some x → x < 203) (g : cz_G) (sz : Nat) :
    vx_Met l (cz_nm mX10_led) (cz_wd mX10_led) (cz_rm mX10_led) (cz_PL g sz [.ref 0, .int a] 203 K N I R L) (fun _ _ _ _ => False) (cz_XC g (va_A (cz_ws g 203 K N I R L) sz) (cz_PX I R) 203 K N L) 1 6 (va_A (cz_ws g 203 K N I R L) sz) := by
  refine vx_ofW (cc := cz_cc mX10_led) (maxL := cz_nL mX10_led) (ret := cz_rt mX10_led) (ws' := cz_T) (by decide +kernel) rfl ?_
  intro p e s m args below meth c s₁ B hml ht hv
  obtain ⟨⟨rfl, hsz, hR, hK⟩, hz1, hz2⟩ := hv
  have hts := atoms_spec (ws := cz_wd mX10_led) B.pre
  have hown : s.vm.findClass (cz_on mX10_led.1) = some m.cls := findClass_of_methodNamed B.named
  have hb := led_tr (X := (p, l, e, s, m, (([.ref 0, .int a] : List Value).map (cz_rn g)).toArray, below, meth, c, va_A (cz_ws g 203 K N I R L) sz, vx_MQ below (fun _ _ _ _ => False) (cz_XC g (va_A (cz_ws g 203 K N I R L) sz) (cz_PX I R) 203 K N L) (([.ref 0, .int a] : List Value).map (cz_rn g)).toArray s 1 6 (va_A (cz_ws g 203 K N I R L) sz), g)) (a := a) (L := L) ⟨rfl, ht⟩ ⟨hfl, hz1, hz2⟩ hf hw
  rw [lg_entry_eq]
  exact hb ⟨B.exec, B.bytes, hml, hown, fun w hw => hts w (List.mem_cons_of_mem _ hw), B.returns, B.notSynchronized, fun h => (name_of_methodNamed B.named B.method).1.trans h, hK, fun q hq => Or.inr (by rw [← hsz]; exact hq)⟩ s.heap [] _ hR va_S.rf (cz_enl (Nat.le_of_ble_eq_true rfl) rfl)
def mL_led9 : List Cond := .codeWith yL_led cL_led 4 (some .int) [(0, 9, 12, 13)] :: cz_T
theorem cz_lcw : Cond.codeWith yL_led cL_led 4 (some .int) [(0, 9, 12, 13)] ∈ cz_T := cz_in (i := 1281) (by decide +kernel) rfl
theorem cz_lcl : Cond.classLink RL 13 cz_NSE ∈ cz_T := cz_in (i := 1282) (by decide +kernel) rfl
def cz_QL (g : cz_G) (A : Nat → Prop) (PX : cz_I → cz_R → Prop) (cn : Nat) (K N : Nat → Nat) (L : cz_L) : Array Value → State → Outcome → State → Prop := fun _ st oc t =>
  oc = .returned (some (.int 1)) ∧ (∃ (I : cz_I) (R : cz_R), PX I R ∧ va_P g.1 vwCl (cz_ws g cn K N I R L) t.heap ∧ va_D A (cz_ws g cn K N I R L)) ∧ va_F A st t
set_option maxHeartbeats 4000000 in
theorem c_Lled {l : Launch} (hfl : l.stackTraces = false) {a : Int32} {K N : Nat → Nat} {I : cz_I} {R : cz_R} {L : cz_L} (hf : cz_f1 K N I R) (hw : ∀ k j x : Nat, R k j = some x → x < 203) (g : cz_G) (sz : Nat) :
    vx_Met l yL_led mL_led9 (cz_rm mL_led) (cz_PL g sz [.ref 0, .int a, .ref 202] 203 K N I R L) (cz_QL g (va_A (cz_ws g 203 K N I R L) sz) (cz_PX I R) 203 K N L) (fun _ _ _ => False) 1 6 (va_A (cz_ws g 203 K N I R L) sz) := by
  refine vx_ofWH (cc := cL_led) (maxL := 4) (ret := some .int) (hh := [(0, 9, 12, 13)]) (ws' := cz_T) (by decide +kernel) rfl ?_
  intro p e s m args below meth c s₁ B hml hv
  obtain ⟨⟨rfl, hsz, hR, hK⟩, hz1, hz2⟩ := hv
  have hts0 := atoms_spec (ws := mL_led9) B.pre
  have hts : ∀ w ∈ cz_T, w.before _ s = true := fun w hw => hts0 w (List.mem_cons_of_mem _ hw)
  have htab := vx_table (x := yL_led) B (hts _ cz_lcw)
  have hown : s.vm.findClass RL = some m.cls := findClass_of_methodNamed B.named
  have hC : cz_ok (p, l, e, s, m, (([.ref 0, .int a, .ref 202] : List Value).map (cz_rn g)).toArray, below, meth, c, va_A (cz_ws g 203 K N I R L) sz, vx_MQ below (cz_QL g (va_A (cz_ws g 203 K N I R L) sz) (cz_PX I R) 203 K N L) (fun _ _ _ => False) (([.ref 0, .int a, .ref 202] : List Value).map (cz_rn g)).toArray s 1 6 (va_A (cz_ws g 203 K N I R L) sz), g) mL_led :=
    ⟨B.exec, B.bytes, hml, hown, hts, B.returns, B.notSynchronized, fun h => (name_of_methodNamed B.named B.method).1.trans h, hK, fun q hq => Or.inr (by rw [← hsz]; exact hq)⟩
  rw [lg_entry_eq]
  have hl0 := cz_enl (g := g) (M := mL_led) (as := [.ref 0, .int a, .ref 202]) (Nat.le_of_ble_eq_true rfl) rfl
  have hlocks := B.notSynchronized
  have key : Tr (p, l, e, s, m, (([.ref 0, .int a, .ref 202] : List Value).map (cz_rn g)).toArray, below, meth, c, va_A (cz_ws g 203 K N I R L) sz, vx_MQ below (cz_QL g (va_A (cz_ws g 203 K N I R L) sz) (cz_PX I R) 203 K N L) (fun _ _ _ => False) (([.ref 0, .int a, .ref 202] : List Value).map (cz_rn g)).toArray s 1 6 (va_A (cz_ws g 203 K N I R L) sz), g) mL_led 0 (cz_en [.ref 0, .int a, .ref 202]) [] 203 K N I R L 0 0 := by
    refine tr_aload_n dL_led_0 rfl ?_
    refine tr_iconst (v := 0) dL_led_1 (by decide +kernel) ?_
    refine tr_aload_n dL_led_2 rfl ?_
    refine tr_iload_n dL_led_3 rfl ?_
    intro _ H locs arr hR hS hl
    obtain ⟨y1, y2, y3, y4⟩ := myX10_led
    have hcb := callB_of (rm := cz_rm mX10_led) (mc := 1) (ms := 6) (R := cz_rm mL_led) (own := RL) (index := 7) 1 hts (cz_good y2) rfl rfl rfl (hts _ y3) (hts _ lk13_7) y4 ⟨by decide, by decide⟩
    have hg := cz_getO (g := g) (N := N) (I := I) (R := R) (L := L) hR.2.2.2 (hf.1 0 10 (by decide) kd_0) (by decide)
    have hre := va_recv hK.1 hR.1 (cz_cls (ci := 10) (by decide)).1 hg
    have hfree : ∀ q, va_A (cz_ws g 203 K N I R L) H.size q → va_A (cz_ws g 203 K N I R L) sz q := by
      intro q h
      rcases h with ⟨k, e, h⟩ | h
      · exact Or.inl ⟨k, e, h⟩
      · exact Or.inr (by rw [← hsz]; exact Nat.le_trans hS.1 h)
    have hzk : ∀ b : Nat, b < s.heap.size → ¬ va_A (cz_ws g 203 K N I R L) sz b → H[b]? = s.heap[b]? := hS.2.1
    have hrun := vx_runV (C := RX10) (b := cz_al g 0) (As := [.int a]) (rest := [.int 0, .ref (cz_al g 202)]) (p := p) (e := e) (R := cz_rm mL_led) (below := below) (meth := meth) (locs := locs) (cells := 0) (slots := 0) (g := F0 m 4 arr [.int a, .ref (cz_al g 0), .int 0, .ref (cz_al g 202)]) ⟨hC.1, hC.2.1, hC.2.2.1, hown, hts⟩ (c_led hfl (a := a) hf hw g H.size) ⟨hcb, hts _ inX10_led, hts _ seX10_led⟩
      ⟨cz_PL_blind, hre, fun U hU hWU => ⟨cz_pre (as := [.ref 0, .int a]) hC hR U hU hWU, (by rw [hU]; exact ((hz1.kept hzk).narrow hfree).moved hWU.alike), (by rw [hU]; exact ((hz2.kept hzk).narrow hfree).moved hWU.alike)⟩⟩ rfl rfl hl.1 rfl (lv_room (Nat.le_of_ble_eq_true rfl)) dL_led_4 ⟨by decide, by decide⟩
    intro T hT XS
    rcases hrun T hT XS with ⟨v, st₀, t, T', LL, -, -, -, -, -, hF, -⟩ | ⟨q, st₀, t, T', LL, E, ce, h0, X', hL, e1, e2, ⟨hE, ⟨I', R', hPX, hP', hD'⟩, hz, hk⟩, hce, hcv, hcl, stp⟩
    · exact hF.elim
    · subst hE
      rw [h0] at hz hk
      obtain ⟨vm', X2, st2⟩ := cz_caught X' (g := { F0 m 4 arr [.int a, .ref (cz_al g 0), .int 0, .ref (cz_al g 202)] with stack := [.int 0, .ref (cz_al g 202)] }) rfl (by rw [e1]; exact hce) hcv hown htab rfl (by decide) (hts _ cz_lcl) (cz_cast (hts _ cz_nse3)) hcl
      have hS2 : va_S (va_A (cz_ws g 203 K N I R L) sz) s.heap T'.heap (locs ++ LL) := ⟨Nat.le_trans hS.1 (by rw [e1]; exact hz), fun q h1 h2 => by rw [e1, hk q (Nat.lt_of_lt_of_le h1 hS.1) (fun z => h2 (hfree q z))]; exact hS.2.1 q h1 h2, fun q hq => by
        rcases List.mem_append.mp hq with h | h
        · exact hS.2.2 q h
        · exact hfree _ (hL q h)⟩
      have fin : W p l e (cz_rm mL_led) s m (([.ref 0, .int a, .ref 202] : List Value).map (cz_rn g)).toArray below meth c T'.heap (locs ++ LL) 1 6 (vx_MQ below (cz_QL g (va_A (cz_ws g 203 K N I R L) sz) (cz_PX I R) 203 K N L) (fun _ _ _ => False) (([.ref 0, .int a, .ref 202] : List Value).map (cz_rn g)).toArray s 1 6 (va_A (cz_ws g 203 K N I R L) sz)) (F0 m 12 arr [.ref q]) := by
        refine lv_astore_n hC.1 hC.2.1 dL_led_12 rfl (cz_has hl) (by decide) rfl (fun arr' _ => ?_)
        refine lv_iconst (v := 1) hC.1 hC.2.1 dL_led_13 (by decide +kernel) ?_
        refine vx_ret ?_
        exact W.iret (v := 1) hC.1 hC.2.1 B.returns (fun t' ht' hW' => ⟨rfl, ⟨I', R', hPX, by rw [ht', e1]; exact hP', hD'.weaken (fun _ q _ h => hfree q.1 h)⟩, hS2.F ht'⟩) hS2.2.2 dL_led_14
      obtain ⟨t2, a1, b1⟩ := fin (T'.setVm vm') rfl X2
      exact ⟨t2, stp.trans (st2 t2 a1), b1⟩
  exact key hC s.heap [] _ hR va_S.rf hl0
/-! ===== behind an allocation that the store doesn't know: the places that come are moved ===== -/
def cz_mv (g : cz_G) (cn hs : Nat) : cz_G := (g.1, g.2.1, (fun k => if k < cn then cz_al g k else hs + (k - cn)), g.2.2.2)
theorem cz_mv_lt {g : cz_G} {cn hs k : Nat} (h : k < cn) : cz_al (cz_mv g cn hs) k = cz_al g k := by show (if k < cn then _ else _) = _; rw [if_pos h]
theorem cz_mv_ws {g : cz_G} {cn hs : Nat} {K N : Nat → Nat} {I : cz_I} {R : cz_R} {L : cz_L} (hw : ∀ k j x : Nat, R k j = some x → x < cn) : cz_ws (cz_mv g cn hs) cn K N I R L = cz_ws g cn K N I R L := by
  have hm : ∀ k j : Nat, (R k j).map (cz_al (cz_mv g cn hs)) = (R k j).map (cz_al g) := by
    intro k j
    cases h : R k j with
    | none => rfl
    | some x => rw [Option.map_some, Option.map_some, cz_mv_lt (hw k j x h)]
  unfold cz_ws
  apply List.map_congr_left
  intro k hk
  rw [cz_mv_lt (List.mem_range.mp hk)]
  congr 1
  simp only [cz_ce, cz_fs, cz_fv, cz_ac, hm]
  rfl
theorem cz_mv_at {g : cz_G} {A : Nat → Prop} {cn : Nat} {K N : Nat → Nat} {I : cz_I} {R : cz_R} {L : cz_L} {H : Heap} (hw : ∀ k j x : Nat, R k j = some x → x < cn) (hP : va_P g.1 vwCl (cz_ws g cn K N I R L) H) (hD : va_D A (cz_ws g cn K N I R L)) (h99 : ∀ k : Nat, cn ≤ k → K k = 99) : cz_At (cz_mv g cn H.size) A cn K N I R L H := by
  refine ⟨?_, ?_, fun i => ?_, h99⟩
  · rw [cz_mv_ws hw]; exact hP
  · rw [cz_mv_ws hw]; exact hD
  · show (if cn + i < cn then _ else _) = _
    rw [if_neg (by omega)]; omega
theorem cz_mv_rn {g : cz_G} {cn hs : Nat} {v : Value} (h : ∀ k, v = .ref k → k < cn) : cz_rn (cz_mv g cn hs) v = cz_rn g v := by
  cases v with
  | ref k => show Value.ref (cz_al (cz_mv g cn hs) k) = .ref (cz_al g k); rw [cz_mv_lt (h k rfl)]
  | _ => rfl
def cz_Xmv : cz_X → Nat → Nat → cz_X
  | (p, l, e, s, m, args, below, meth, c, A, Z, g), cn, hs => (p, l, e, s, m, args, below, meth, c, A, Z, cz_mv g cn hs)
theorem cz_LZmv {X : cz_X} {cn hs : Nat} (h : cz_LZ X) : cz_LZ (cz_Xmv X cn hs) := by
  obtain ⟨p, l, e, s, m, args, below, meth, c, A, Z, g⟩ := X
  exact h
theorem cz_scrmv {X : cz_X} {cn hs Ln : Nat} {xs : Nat → Int32} (h : cz_scr X Ln xs) : cz_scr (cz_Xmv X cn hs) Ln xs := by
  obtain ⟨p, l, e, s, m, args, below, meth, c, A, Z, g⟩ := X
  exact h
theorem lk13_led : Cond.methodLink RL 181 yL_led ∈ cz_T := cz_in (i := 1279) (by decide +kernel) rfl
theorem st13_led : Cond.static yL_led ∈ cz_T := cz_in (i := 1280) (by decide +kernel) rfl
set_option maxHeartbeats 4000000 in
theorem tr_ledcall {X : cz_X} {a : Int32} {K N : Nat → Nat} {I : cz_I} {R : cz_R} {L : cz_L} {ls : Nat → Option Value} (hx : cz_LX X) (hf : cz_f1 K N I R) (hF : cz_Fr 203 I R L) (hls : ∀ i k : Nat, ls i = some (.ref k) → k < 203)
    (kk : ∀ (hs : Nat) (I' : cz_I) (R' : cz_R), cz_PX I R I' R' → Tr (cz_Xmv X 203 hs) mL_law 1337 ls [.int 1] 203 K N I' R' L 204 15317) : Tr X mL_law 1334 ls [.ref 202, .int a, .ref 0] 203 K N I R L 203 15311 := by
  obtain ⟨p, l, e, s, m, args, below, meth, c, A, Z, g⟩ := X
  intro hC H locs arr hR hS hl
  obtain ⟨hfl, hz1, hz2⟩ := hx
  have hts := hC.2.2.2.2.1
  have hK : cz_K g s := hC.2.2.2.2.2.2.2.2.1
  have hcw := vx_cwSW (R := cz_rm mL_law) (own := RL) (index := 181) (y := yL_led) (bytes := cL_led) (maxL := 4) (ret := some .int) (hh := [(0, 9, 12, 13)]) (ws := mL_led9) (ws' := cz_T) (rm := cz_rm mL_led) (mc := 1) (ms := 6) 3 hts (fun w hw => by
    have h1 : w ∈ cz_T := by
      rcases List.mem_append.mp hw with h | h
      · rcases List.mem_cons.mp h with rfl | h
        · exact lk13_led
        · rcases List.mem_cons.mp h with rfl | h
          · exact st13_led
          · rcases List.mem_cons.mp h with rfl | h
            · exact ini13
            · cases h
      · rcases List.mem_cons.mp h with rfl | h
        · exact cz_lcw
        · exact h
    exact ⟨h1, good_of_word (List.mem_filter.mp h1).2⟩) rfl rfl rfl ⟨by decide +kernel, by decide +kernel, by decide +kernel⟩ ⟨by decide, by decide⟩
  have hfree : ∀ q, va_A (cz_ws g 203 K N I R L) H.size q → A q := by
    intro q h
    rcases h with ⟨k, e, h⟩ | h
    · exact hR.2.1.2 k (q, e) h
    · exact hC.2.2.2.2.2.2.2.2.2 q (Nat.le_trans hS.1 h)
  have hrun := vx_runSX (As := [.ref (cz_al g 0), .int a, .ref (cz_al g 202)]) (rest := []) (p := p) (e := e) (below := below) (meth := meth) (locs := locs) (cells := 203) (slots := 15311) (g := F0 m 1334 arr [.ref (cz_al g 202), .int a, .ref (cz_al g 0)]) ⟨hC.1, hC.2.1, hC.2.2.1, hC.2.2.2.1, hts⟩ (c_Lled hfl (a := a) hf hF.2 g H.size) hcw
    ⟨cz_PL_blind, fun U hU hWU => ⟨cz_pre (as := [.ref 0, .int a, .ref 202]) hC hR U hU hWU, (by rw [hU]; exact ((hz1.kept hS.2.1).narrow hfree).moved hWU.alike), (by rw [hU]; exact ((hz2.kept hS.2.1).narrow hfree).moved hWU.alike)⟩⟩ rfl rfl hl.1 rfl (lv_room (Nat.le_of_ble_eq_true rfl)) dL_law_1334 ⟨by decide, by decide⟩
  intro T hT XS
  rcases hrun T hT XS with ⟨v, st₀, t, T', LL, h0, X', hL, e1, e2, ⟨hv, ⟨I', R', hPX, hP', hD'⟩, hz, hk⟩, stp⟩ | ⟨q, st₀, t, T', LL, E, ce, -, -, -, -, -, hE, -⟩
  · cases hv
    rw [h0] at hz hk
    have hAt : cz_At (cz_mv g 203 T'.heap.size) A 203 K N I' R' L T'.heap := cz_mv_at hPX.2 (by rw [e1]; exact hP') (hD'.weaken (fun _ q _ h => hfree q.1 h)) hR.2.2.2
    have hS2 : va_S A s.heap T'.heap (locs ++ LL) := ⟨Nat.le_trans hS.1 (by rw [e1]; exact hz), fun q h1 h2 => by rw [e1, hk q (Nat.lt_of_lt_of_le h1 hS.1) (fun z => h2 (hfree q z))]; exact hS.2.1 q h1 h2, fun q hq => by
      rcases List.mem_append.mp hq with h | h
      · exact hS.2.2 q h
      · exact hfree _ (hL q h)⟩
    have hl2 : cz_lc (cz_mv g 203 T'.heap.size) mL_law arr ls := ⟨hl.1, hl.2.1, fun i v hv => by rw [cz_mv_rn (fun k hk => hls i k (hv.trans (congrArg some hk)))]; exact hl.2.2.1 i v hv, hl.2.2.2⟩
    have hC2 : cz_ok (p, l, e, s, m, args, below, meth, c, A, Z, cz_mv g 203 T'.heap.size) mL_law := hC
    obtain ⟨t2, a1, b1⟩ := kk T'.heap.size I' R' hPX hC2 T'.heap (locs ++ LL) arr hAt hS2 hl2 T' rfl X'
    exact ⟨t2, stp t2 a1, b1⟩
  · exact hE.elim
set_option maxHeartbeats 4000000 in
set_option maxRecDepth 100000 in
theorem law_c38 {X : cz_X} {xs : Nat → Int32} {K N : Nat → Nat} {I : cz_I} {R : cz_R} {L : cz_L} (hZ : cz_LZ X) (hs : cz_scr X 6 xs) (hx : cz_LX X) (hF : cz_Fr 203 I R L) (hf1 : cz_f1 K N I R) (hf2 : cz_f2 K N I R) : Tr X mL_law 1326 law_ls [] 203 K N I R L 203 15311 := by
  refine tr_aload_n dL_law_1326 rfl ?_
  refine tr_aload_nS dL_law_1327 rfl ?_
  refine tr_iload dL_law_1328 rfl ?_
  refine tr_iconst (v := 1) dL_law_1330 (by decide +kernel) ?_
  refine tr_iadd dL_law_1331 ?_
  refine tr_topi 1 (by decide +kernel) ?_
  refine tr_sld hs dL_law_1332 (cz_inl 6 rfl (by decide +kernel)) ?_
  refine tr_aload_n dL_law_1333 rfl ?_
  refine tr_ledcall hx hf1 hF ?_ (fun hs9 I9 R9 hp9 => ?_)
  · intro i k h
    by_cases h4 : i = 4
    · subst h4; cases h
    · by_cases h3 : i = 3
      · subst h3; cases h; decide
      · by_cases h2 : i = 2
        · subst h2; cases h; decide
        · by_cases h1 : i = 1
          · subst h1; cases h; decide
          · simp only [law_ls, va_up, if_neg h4, if_neg h3, if_neg h2, if_neg h1] at h
            by_cases h0 : i = 0
            · subst h0; cases h
            · have hz : ((0 : Nat) == i) = false := by simpa using fun q : 0 = i => h0 q.symm
              simp [cz_en, lv_args, hz] at h
  replace hf2 := hf2.kept hp9.1
  replace hZ := cz_LZmv (cn := 203) (hs := hs9) hZ
  replace hs := cz_scrmv (cn := 203) (hs := hs9) hs
  refine tr_istore dL_law_1337 (by decide) (by decide) ?_
  refine tr_aload_n dL_law_1339 rfl ?_
  refine tr_aload_nS dL_law_1340 rfl ?_
  refine tr_iload dL_law_1341 rfl ?_
  refine tr_iconst (v := 1) dL_law_1343 (by decide +kernel) ?_
  refine tr_iadd dL_law_1344 ?_
  refine tr_topi 1 (by decide +kernel) ?_
  refine tr_sld hs dL_law_1345 (cz_inl 6 rfl (by decide +kernel)) ?_
  refine tr_ctr (M' := mX12_led) (as := [_]) dL_law_1346 lk13_186 inX12_led seX12_led myX12_led (by decide) ⟨by decide, by decide⟩ rfl (hf2.1 183 12 (by decide) kd_183) (Nat.le_of_ble_eq_true rfl) (by decide) (by decide) (fX12_led _ hf2) ?_
  rintro _ cn9 K9 N9 I9 R9 L9 ⟨rfl, rfl, hk9, hi9⟩
  show Tr _ _ _ _ (.int _ :: _) _ _ _ _ _ _ _ _
  refine tr_istore dL_law_1349 (by decide) (by decide) ?_
  refine tr_aload_n dL_law_1351 rfl ?_
  refine tr_ctr (M' := mX12_thrown) (as := []) dL_law_1352 lk13_187 inX12_thrown seX12_thrown myX12_thrown (by decide) ⟨by decide, by decide⟩ rfl hk9 (Nat.le_of_ble_eq_true rfl) (by decide) (by decide) (fX12_thrown hk9 hi9) ?_
  rintro _ cn9 K9 N9 I9 R9 L9 rfl
  show Tr _ _ _ _ (.int _ :: _) _ _ _ _ _ _ _ _
  refine tr_iload dL_law_1355 rfl ?_
  refine tr_icmp_eq 1362 dL_law_1357 (by decide) (fun _ => ?_) (fun h => absurd (by decide +kernel) h)
  refine tr_iload dL_law_1362 rfl ?_
  refine tr_if_ne 1379 dL_law_1364 (by decide) (fun _ => ?_) (fun h => absurd h (by decide +kernel))
  refine tr_goto 1420 dL_law_1379 (by decide) ?_
  exact law_nx hZ hs rfl rfl (by decide) (by decide)
