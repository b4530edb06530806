/-! ===== a throw whose exception's constructor calls its parent's by entry 13 ===== -/
abbrev cz_NSE : String := "java/util/NoSuchElementException"
abbrev cz_RE : String := "java/lang/RuntimeException"
def lzddNSE_0 : List (Nat × Instr × Nat) := [(0, .aload_n 0, 1), (1, .aload_n 1, 1), (2, .invokespecial 13, 3), (5, .return_, 1)]
theorem zddNSE_0 : dqW lzddNSE_0 (prog_29_method_4_code.data.toList.drop 0) 0 = true := by decide +kernel
theorem dNSE_0 : decode prog_29_method_4_code 0 = .ok (.aload_n 0, 1) := dq_get (L := lzddNSE_0) 0 rfl zddNSE_0 rfl
theorem dNSE_1 : decode prog_29_method_4_code 1 = .ok (.aload_n 1, 1) := dq_get (L := lzddNSE_0) 1 rfl zddNSE_0 rfl
theorem dNSE_2 : decode prog_29_method_4_code 2 = .ok (.invokespecial 13, 3) := dq_get (L := lzddNSE_0) 2 rfl zddNSE_0 rfl
theorem dNSE_5 : decode prog_29_method_4_code 5 = .ok (.return_, 1) := dq_get (L := lzddNSE_0) 3 rfl zddNSE_0 rfl
/-- the words that led's throw rests on: the printed ones but two, and the two by which this class passes its text on -/
def cz_oN : List Cond := Bundle.passSAtoms cz_NSE cz_RE 13 prog_29_method_4_code ++ (Bundle.ownAtoms RX10 329 cz_NSE [cz_RE, "java/lang/Exception"]).filter (fun w => decide (w ≠ .methodLink cz_NSE 7 (Bundle.initS cz_RE)) && decide (w ≠ .code (Bundle.initS cz_NSE) Bundle.six 2 none))
theorem cz_o1 : ∀ w ∈ Bundle.throwableAtoms, w ∈ cz_oN := by decide +kernel
theorem cz_o2 : ∀ w ∈ Bundle.throwableSAtoms, w ∈ cz_oN := by decide +kernel
theorem cz_o3 : ∀ w ∈ Bundle.passSAtoms cz_NSE cz_RE 13 prog_29_method_4_code, w ∈ cz_oN := by decide +kernel
theorem cz_o4 : ∀ w ∈ Bundle.chainSAtoms cz_RE ["java/lang/Exception"], w ∈ cz_oN := by decide +kernel
set_option maxHeartbeats 1000000 in
theorem cz_mkT {p : Program} {l : Launch} {e : Env} {R : Room} {s : State} {m : MethodId} {args : Array Value} {below : List Frame} {meth : Method} {c : Code} {V : State} {cells slots : Nat}
    (X : Stand p l e R s m args below meth c V [] cells slots) (hexec : p.tables.exec = Jvm.exec) (htr : e.platform.stackTraces = false) (hown : s.vm.findClass RX10 = some m.cls) (h : ∀ w ∈ cz_oN, w.before args s = true)
    {a : Addr} {cX : ClassId} {kX : Class} (hfX : s.vm.findClass cz_NSE = some cX) (hkX : s.vm.classes[cX]? = some kX) (hcell : V.heap[a]? = some (freshCell cX kX)) (hnew : s.heap.size ≤ a) {msg : Value} (hmsg : msg.isRef = true)
    {g : JFrame} (hg : g.method = m) (hsize : g.locals.size = c.maxLocals) (hlocked : g.locked = none) (hentered : g.entered = []) (hstack : g.stack = [msg, .ref a, .ref a])
    (d6 : decode c.code g.pc = .ok (.invokespecial 329, 3)) (d9 : decode c.code (g.pc + 3) = .ok (.athrow, 1)) (hout : ∀ x ∈ c.exceptionTable.toList, covers x (g.pc + 3) = false)
    (hRf : 5 < R.frames) (hRl : 2 * g.monitorRoom + 82 ≤ R.locals) (hlocks : meth.locks = false) :
    ∃ U : State, Steps p.tables e below (V.setTop g) U ∧ U.status = .running ∧ Ended U below (.threw a) ∧ s.WarmedH U.vm ∧ s.sameButNew ({ U with vm := s.vm } : State) [] cells slots ∧
      ∃ ce, U.heap[a]? = some ce ∧ s.vm.findClass cz_NSE = some ce.cls ∧ ce.vm = .none := by
  have hmon : e.platform.frameOwnsMonitors = true := by rw [X.admits.platform]
  have hfin : e.platform.finalization = false := by rw [X.admits.platform]
  have hpl : e.platform.magicAccessors = ({} : Platform).magicAccessors := by rw [X.admits.platform]
  have q : ∀ w, w ∈ cz_oN → w.holds args s none s [] = true := fun w hw => h w hw
  obtain ⟨T, Z0, L, -, Y⟩ := ThrowableC.of_atoms (args := args) hmon hfin hpl (fun w hw => h w (cz_o1 w hw))
  obtain ⟨Z, M, LZ, LM, hnZ⟩ := Init0T.ofS_atoms (args := args) hpl L Y (fun w hw => h w (cz_o2 w hw))
  obtain ⟨P1, L1, hP1, hP1s⟩ := PassC.ofS_atoms (args := args) hpl (X := cz_NSE) (Y := cz_RE) (by decide +kernel) (by decide) dNSE_0 dNSE_1 dNSE_2 dNSE_5 (fun w hw => h w (cz_o3 w hw))
  obtain ⟨P2, Ps, hlen, L2, hL, hP2, hk1, hk2⟩ := Bundle.chainS (args := args) hpl hnZ ["java/lang/Exception"] cz_RE (by decide +kernel) (by decide +kernel) (fun w hw => h w (cz_o4 w hw))
  have hfound : s.vm.findClass cz_NSE = some P1.m.cls := findClass_of_methodNamed hP1
  cases Option.some.inj (hfX.symm.trans hfound)
  obtain ⟨c1, k1, hc1, hk, hord, -, -, -⟩ := Cond.instantiable_spec (q (.instantiable cz_NSE 6) (by decide +kernel))
  cases Option.some.inj (hc1.symm.trans hfound)
  cases Option.some.inj (hkX.symm.trans hk)
  have s0 : selectMethod e.platform s.vm P1.m.cls T.fill0 = .method T.fill0 := by
    obtain ⟨c2, r2, m2, q1, q2, q3, q4, -⟩ := Cond.selects_spec (q (.selects cz_NSE Bundle.tFill0 Bundle.tFill0) (by decide +kernel))
    cases Option.some.inj (q1.symm.trans hfound)
    cases Option.some.inj (q2.symm.trans (State.methodFound?_of_named Y.fill0 (by decide)))
    cases Option.some.inj (q3.symm.trans Y.fill0)
    rw [Launch.admits_selectMethod X.admits]; exact q4
  have sF : selectMethod e.platform s.vm P1.m.cls T.fill = .method T.fill := by
    obtain ⟨c2, r2, m2, q1, q2, q3, q4, -⟩ := Cond.selects_spec (q (.selects cz_NSE Bundle.tFill Bundle.tFill) (by decide +kernel))
    cases Option.some.inj (q1.symm.trans hfound)
    cases Option.some.inj (q2.symm.trans (State.methodFound?_of_named Y.fill (by decide)))
    cases Option.some.inj (q3.symm.trans Y.fill)
    rw [Launch.admits_selectMethod X.admits]; exact q4
  obtain ⟨cs, hcs, his⟩ := Y.statics
  obtain ⟨u0, hu0⟩ := Cond.staticRefV Y.unassigned L.unassignedStatic L.statics hcs his (q (.isRef (.static Bundle.tN "UNASSIGNED_STACK" Bundle.steD)) (by decide +kernel))
  obtain ⟨sen, hsen⟩ := Cond.staticRefV Y.sentinel L.sentinelStatic L.statics hcs his (q (.isRef (.static Bundle.tN "SUPPRESSED_SENTINEL" Bundle.listD)) (by decide +kernel))
  obtain ⟨ci, ib, fB, b1, b2, b3, b4, -, hnB, htB, hfB⟩ := Cond.ownField (t := .object "java/lang/Object") Y.found L.cls (by decide +kernel) (q (.fieldLink Bundle.tN 198 Bundle.tN "backtrace" "Ljava/lang/Object;") (by decide +kernel)) (q (.lays Bundle.tN Bundle.tN "backtrace" "Ljava/lang/Object;") (by decide +kernel)) e.platform hpl
  obtain ⟨cellS, hcS, heS, -, hkeep⟩ := X.same.2.2.2.2.2 T.aS cs hcs
  have hcellS : V.heap[T.aS]? = some cellS := hcS
  have hfree : ∀ i, (⟨T.aS, i⟩ : Loc) ∉ ([] : List Loc) := fun i hm => nomatch hm
  have hknownS : cellS.vm ≠ .unknown := by
    rw [heS]
    intro hu
    rw [show cs.vm = .unknown from hu] at his
    cases his
  have hneS : T.aS ≠ a := Nat.ne_of_lt (Nat.lt_of_lt_of_le (Array.getElem?_eq_some_iff.mp hcs).1 hnew)
  obtain ⟨iM, hfM⟩ := Y.msg
  obtain ⟨tyC, dC, hdC, hnC⟩ := Cond.laysAt hfound hk Y.cause (q (.lays cz_NSE Bundle.tN "cause" "Ljava/lang/Throwable;") (by decide +kernel))
  obtain ⟨tyS, dS, hdS, hnS⟩ := Cond.laysAt hfound hk Y.stack (q (.lays cz_NSE Bundle.tN "stackTrace" Bundle.steD) (by decide +kernel))
  obtain ⟨tyP, dP, hdP, hnP⟩ := Cond.laysAt hfound hk Y.supp (q (.lays cz_NSE Bundle.tN "suppressedExceptions" Bundle.listD) (by decide +kernel))
  obtain ⟨tyM, dM, hdM, hnM⟩ := Cond.laysAt hfound hk hfM (q (.lays cz_NSE Bundle.tN "detailMessage" "Ljava/lang/String;") (by decide +kernel))
  obtain ⟨tyB, dB, hdB, hnB'⟩ := Cond.laysAt hfound hk hfB (q (.lays cz_NSE Bundle.tN "backtrace" "Ljava/lang/Object;") (by decide +kernel))
  have bC := Cond.laysApart hdB hdC hnB' hnC (by rw [hnB, Y.causeName]; decide)
  have bS := Cond.laysApart hdB hdS hnB' hnS (by rw [hnB, Y.stackName]; decide)
  have bP := Cond.laysApart hdB hdP hnB' hnP (by rw [hnB, Y.suppName]; decide)
  have hskip : SkipFacts T e.platform s (fun u => u) u0 ((preparedCellV T.toThrowableT (freshCell P1.m.cls kX) a u0 sen).withEntry V.cur) :=
    ⟨{ ci198 := ci, i198 := ib, fBack := fB }, ⟨b1, b2, b3, b4⟩, by
      have hz := fresh_default (c := P1.m.cls) tyB
      rw [htB] at hz
      simpa [preparedCellV, Cell.setSlot, Cell.withEntry, Array.getElem?_setIfInBounds, bC, bS, bP, bC.symm, bS.symm, bP.symm, defaultValue] using hz, fun _ _ => rfl⟩
  obtain ⟨tm, mC, cC, kC, vm₁, hnI, -, -, -, -, -, -, -, hW₁, st1⟩ := Steps.initColdS (tb := p.tables) (e := e) (below := below) (s := s) (U := V) X.here hexec X.warmed hpl hown (t := Bundle.initS cz_NSE) rfl rfl (by decide)
    (q (.methodLink RX10 329 (Bundle.initS cz_NSE)) (by decide +kernel)) (h (.instanceMethod (Bundle.initS cz_NSE)) (by decide +kernel)) (bytes := prog_29_method_4_code) (maxL := 2) (h (.code (Bundle.initS cz_NSE) prog_29_method_4_code 2 none) (by decide +kernel))
    (f := g) hg (a := a) (msg := msg) (rest := [.ref a]) hstack d6
  cases Option.some.inj (hnI.symm.trans hP1)
  have X₁ := X.noted hW₁
  have hls : (P1 :: P2 :: Ps).length = 3 := by simp [hlen]
  have hsum : ([Value.ref a].map fun v => v.category).sum = 1 := rfl
  obtain ⟨vm₂, X₂, st2⟩ := X₁.ctorMessageOffV hexec (g := { g with stack := [.ref a] }) hg hsize T L Z LZ M LM (P1 :: P2 :: Ps)
    (fun P hP => by
      rcases List.mem_cons.mp hP with rfl | hP
      · exact L1
      · rcases List.mem_cons.mp hP with rfl | hP
        · exact L2
        · exact hL P hP) ⟨Option.some.inj (hP1s.symm.trans hP2), hk1, hk2⟩ (u0 := u0) (sen := sen) (self := a) hmsg (cell := freshCell P1.m.cls kX) (cellS := cellS)
    hcell (fun _ => by simp) (by simp) rfl rfl s0 sF hcellS hneS hknownS (by rw [hkeep _ (hfree _)]; exact hu0) (by rw [hkeep _ (hfree _)]; exact hsen)
    (Takes.of_laid hk hord tyC (by rw [Y.causeType]; rfl)) (Takes.of_laid hk hord tyS (by rw [Y.stackType]; exact fits_refV_array _ u0)) (Takes.of_laid hk hord tyP (by rw [Y.suppType]; exact fits_refV_object _ sen))
    (Takes.of_laid hk hord tyM (by rw [Y.msgType]; exact fits_refV_object _ ⟨msg, hmsg⟩)) Y.objLocals hskip htr [] d6 (by rw [hls]; exact hRf) (by rw [hls, hsum]; exact Nat.le_trans (by show 2 * g.monitorRoom + 1 + (13 * 3 + 42) ≤ 2 * g.monitorRoom + 82; exact om_6679043b) hRl)
  obtain ⟨hwalk, hrun, hended, hWU, hsame⟩ := X₂.athrowLeaves hexec (g := { g with stack := [.ref a], pc := g.pc + 3 }) hg hlocked hentered hout (a := a) (rest := []) rfl d9 hlocks
  have hlt : a < ((V.setVm vm₁).setVm vm₂).heap.size := (Array.getElem?_eq_some_iff.mp hcell).1
  have hU := heapAt_setCell_self (s := (V.setVm vm₁).setVm vm₂) (plainBareV T.toThrowableT (freshCell P1.m.cls kX) a u0 sen msg) hlt
  refine ⟨_, st1 _ (fun acts => ?_), hrun, hended, hWU, hsame.weaken (fun y hy hy' => ?_) (Nat.le_refl _) (Nat.le_refl _), _, hU, hfound, rfl⟩
  · rw [doInvoke_state]
    exact st2 _ hwalk
  · exfalso
    have hb : y.base = a := by
      simp only [List.nil_append, List.mem_cons, List.not_mem_nil, or_false] at hy
      rcases hy with rfl | rfl | rfl | rfl | rfl <;> rfl
    rw [hb] at hy'
    exact Nat.not_lt.mpr hnew hy'
theorem cz_nse3 : Cond.instantiable cz_NSE 6 ∈ cz_T := cz_in (i := 1288) (by decide +kernel) rfl
theorem cz_cast {args args' : Array Value} {s : State} (h : (Cond.instantiable cz_NSE 6).before args s = true) : (Cond.castable cz_NSE cz_NSE).before args' s = true := by
  obtain ⟨c, k, h1, -⟩ := Cond.instantiable_spec h
  simp only [Cond.before, Cond.holds, Cond.value, h1, va_asg]
  rfl
theorem cz_atS0 : ∀ w ∈ cz_oN.filter vx_no, (w = .castable cz_NSE cz_NSE ∨ w = .declares ⟨"java/lang/RuntimeException", "<init>", "(Ljava/lang/String;)V"⟩ ∨ w = .declares ⟨"java/lang/Exception", "<init>", "(Ljava/lang/String;)V"⟩ ∨ w = .declares ⟨"java/lang/Throwable", "<init>", "(Ljava/lang/String;)V"⟩) ∨ (w ∈ (lw_tbl.drop 1278).take 90 ++ (lw_tbl.drop 138).take 40 ∧ goodWord w = true) := by decide +kernel
theorem cz_atS : ∀ w ∈ cz_oN.filter vx_no, (w = .castable cz_NSE cz_NSE ∨ w = .declares ⟨"java/lang/RuntimeException", "<init>", "(Ljava/lang/String;)V"⟩ ∨ w = .declares ⟨"java/lang/Exception", "<init>", "(Ljava/lang/String;)V"⟩ ∨ w = .declares ⟨"java/lang/Throwable", "<init>", "(Ljava/lang/String;)V"⟩) ∨ (w ∈ lw_tbl ∧ goodWord w = true) := fun w hw => (cz_atS0 w hw).imp id (fun h => ⟨(List.mem_append.mp h.1).elim (fun z => List.mem_of_mem_drop (List.mem_of_mem_take z)) (fun z => List.mem_of_mem_drop (List.mem_of_mem_take z)), h.2⟩)
theorem cz_goodS : ∀ w ∈ Cond.classLink RX10 325 cz_NSE :: Cond.initialized cz_NSE :: cz_oN.filter vx_no, vx_ot w = true := by decide +kernel
theorem cz_insN : Cond.instantiable cz_NSE 6 ∈ cz_oN := by decide +kernel
/-- the throw in led, at its place -/
theorem cz_thrown {p : Program} {l : Launch} {e : Env} {R : Room} {s : State} {m : MethodId} {args : Array Value} {below : List Frame} {meth : Method} {c : Code} {H : Heap} {locs : List Loc} {cells slots : Nat} {ls : Array Slot}
    {Qc : Array Value → State → Outcome → State → Prop} {XC : String → State → State → Prop} {free : Addr → Prop} {cc : ByteArray} {pc : Nat} (hexec : p.tables.exec = Jvm.exec) (hb : c.code = cc) (hl : l.stackTraces = false) {text : String} {ik is mc ms sa : Nat} {A : Nat → Prop}
    (hown : s.vm.findClass RX10 = some m.cls) (hk : (Cond.classLink RX10 ik cz_NSE).before args s = true) (hini : (Cond.initialized cz_NSE).before args s = true) (hstr : vk_R RX10 is text sa s) (hat : ∀ w ∈ cz_oN.filter vx_no, w.before args s = true)
    (hgood : ∀ w ∈ Cond.classLink RX10 ik cz_NSE :: Cond.initialized cz_NSE :: cz_oN.filter vx_no, vx_ot w = true)
    (hU : vx_Zq Bundle.tN "UNASSIGNED_STACK" Bundle.steD A s s.heap) (hN : vx_Zq Bundle.tN "SUPPRESSED_SENTINEL" Bundle.listD A s s.heap) (hS : va_S A s.heap H locs) (hsize : ls.size = c.maxLocals)
    (d0 : decode cc pc = .ok (.new ik, 3)) (d3 : decode cc (pc + 3) = .ok (.dup, 1)) (d4 : decode cc (pc + 4) = .ok (.ldc_w is, 3)) (d7 : decode cc (pc + 7) = .ok (.invokespecial 329, 3)) (d10 : decode cc (pc + 10) = .ok (.athrow, 1))
    (hout : ∀ x ∈ c.exceptionTable.toList, covers x (pc + 10) = false) (hRf : 5 < R.frames) (hRl : 82 ≤ R.locals) (hRc : cells + 1 ≤ R.cells) (hRs : slots + 6 ≤ R.slots) (hlocks : meth.locks = false)
    (hx : ∀ t : State, s.vm.Alike t.vm → H.size ≤ t.heap.size → (∀ q : Nat, q < H.size → t.heap[q]? = H[q]?) → XC cz_NSE s t) (hf : ∀ z ∈ locs, free z.base) (hc : cells + 1 ≤ mc) (hs : slots + 6 ≤ ms) :
    W p l e R s m args below meth c H locs cells slots (vx_MQ below Qc XC args s mc ms free) (F0 m pc ls []) := by
  intro T hT X
  have htr : e.platform.stackTraces = false := (show e.platform.stackTraces = l.stackTraces by rw [X.admits.platform]).trans hl
  have Y := vx_rebase X (R' := { frames := R.frames, locals := R.locals, cells := 1, slots := 6 }) (Nat.le_refl _) (Nat.le_refl _) hRc hRs
  obtain ⟨s', hA⟩ : ∃ z, z = (T.setVm s.vm).setFrames (.invoking m args :: below) := ⟨_, rfl⟩
  rw [← hA] at Y
  have hvm : s'.vm = s.vm := by rw [hA]; rfl
  have hhp : s'.heap = H := by rw [hA]; exact hT
  have hW0 : s.WarmedH s'.vm := by rw [hvm]; exact State.WarmedH.refl s
  have hat' : ∀ w ∈ cz_oN.filter vx_no, w.before args s' = true := fun w hw => vx_ot_at hW0 hvm.symm (hgood w (List.mem_cons_of_mem _ (List.mem_cons_of_mem _ hw))) (hat w hw)
  have hk' : (Cond.classLink RX10 ik cz_NSE).before args s' = true := vx_ot_at hW0 hvm.symm (hgood _ List.mem_cons_self) hk
  have hini' : (Cond.initialized cz_NSE).before args s' = true := vx_ot_at hW0 hvm.symm (hgood _ (List.mem_cons_of_mem _ List.mem_cons_self)) hini
  have hU' : vx_Zq Bundle.tN "UNASSIGNED_STACK" Bundle.steD A s' s'.heap := by rw [hhp]; exact vx_Zq.moved hW0.alike (hU.kept hS.2.1)
  have hN' : vx_Zq Bundle.tN "SUPPRESSED_SENTINEL" Bundle.listD A s' s'.heap := by rw [hhp]; exact vx_Zq.moved hW0.alike (hN.kept hS.2.1)
  have h : ∀ w ∈ cz_oN, w.before args s' = true := vx_own hat' (vx_isRefq hU'.1) (vx_isRefq hN'.1) hU'.2.word hN'.2.word
  have hown' : s'.vm.findClass RX10 = some m.cls := by rw [hvm]; exact hown
  obtain ⟨vm₁, cX, kX, hfX, hkX, -, -, X₁, st1⟩ := Y.newCold hexec (own := RX10) (C := cz_NSE) (index := ik) (n := 6) hown' hk' (h _ cz_insN) hini'
    (g := F0 m pc ls []) rfl (by rw [hb]; exact d0) (Nat.le_refl _) (Nat.le_refl _)
  generalize hT1 : (T.setVm vm₁).pushCell { cls := cX, slots := kX.instanceTypes.map defaultValue, vm := .none } = T1 at X₁ st1
  have hcellA : T1.heap[T.heap.size]? = some (freshCell cX kX) := by rw [← hT1]; exact State.heap_pushCell_size _ _
  have d3' : decode c.code (pc + 3) = .ok (.dup, 1) := by rw [hb]; exact d3
  have d4' : decode c.code (pc + 4) = .ok (.ldc_w is, 3) := by rw [hb]; exact d4
  have hstr' : vk_R RX10 is text sa s' := vk_R.warm hW0 hstr
  obtain ⟨U, hsteps, hrun, hend, hW, hsame, ce, hce, hO, hOv⟩ := cz_mkT X₁ hexec htr hown' h hfX hkX hcellA (by rw [hhp, hT]; exact Nat.le_refl _) (msg := .ref sa) rfl
    (g := { method := m, pc := pc + 7, locals := ls, stack := [.ref sa, .ref T.heap.size, .ref T.heap.size], locked := none }) rfl hsize rfl rfl rfl
    (by rw [hb]; exact d7) (by rw [hb]; exact d10) hout hRf (Nat.le_trans (Nat.le_of_eq (Nat.zero_add 82)) hRl) hlocks
  obtain ⟨f1, f2⟩ := vx_frame hsame
  rw [hhp] at f1 f2
  have hWs : s.WarmedH U.vm := State.WarmedH.trans hW0 hW
  have hcl : s.vm.findClass cz_NSE = some ce.cls := by rw [← hvm]; exact hO
  have hall : s.sameButNew ({ U with vm := s.vm } : State) locs mc ms := by
    subst hA
    obtain ⟨e1, e2⟩ := hsame
    rw [State.setFrames_setFrames] at e1
    have h2 : (T.setVm s.vm).sameButNew ({ U with vm := s.vm } : State) [] (0 + 1) (0 + 6) := ⟨e1, e2⟩
    have h3 := X.same.trans h2
    rw [List.append_nil] at h3
    exact h3.mono hc hs
  refine ⟨U, ?_, .threw T.heap.size, hrun, hend, Or.inr ⟨T.heap.size, rfl, cz_NSE, ce, locs, hx U hWs.alike f1 (fun q hq => f2 q hq (fun z hz => nomatch hz)), hce, hOv, hcl, hWs, hall, hf⟩⟩
  refine st1 _ ?_
  show Steps p.tables e below (T1.setTop { method := m, pc := pc + 3, locals := ls, stack := [.ref T.heap.size], locked := none }) _
  jvm_step X₁.here [X₁.here.top, hexec, d3', Value.category]
  exact X₁.ldcStringW hexec (own := RX10) (text := text) (index := is) (a := sa) hown' hstr'.1 hstr'.2
    (g := { method := m, pc := pc + 4, locals := ls, stack := [.ref T.heap.size, .ref T.heap.size], locked := none }) rfl d4' _ hsteps
