def lzddX10_led_0 : List (Nat × Instr × Nat) := [(0, .aload_n 0, 1), (1, .invokevirtual 155, 3), (4, .astore_n 2, 1), (5, .iconst 0, 1), (6, .istore_n 3, 1), (7, .iconst 0, 1), (8, .istore 4, 2), (10, .iload 4, 2), (12, .aload_n 0, 1), (13, .getfield 16, 3), (16, .getfield 106, 3), (19, .if_icmp .ge 30, 3), (22, .aload_n 2, 1), (23, .getfield 213, 3), (26, .iload 4, 2), (28, .iaload, 1), (29, .ifCond .le 14, 3), (32, .iload_n 3, 1), (33, .iload_n 1, 1), (34, .if_icmp .ne 6, 3)]
theorem zddX10_led_0 : dqW lzddX10_led_0 (cX10_led.data.toList.drop 0) 0 = true := by decide +kernel
theorem dX10_led_0 : decode cX10_led 0 = .ok (.aload_n 0, 1) := dq_get (L := lzddX10_led_0) 0 rfl zddX10_led_0 rfl
theorem dX10_led_1 : decode cX10_led 1 = .ok (.invokevirtual 155, 3) := dq_get (L := lzddX10_led_0) 1 rfl zddX10_led_0 rfl
theorem dX10_led_4 : decode cX10_led 4 = .ok (.astore_n 2, 1) := dq_get (L := lzddX10_led_0) 2 rfl zddX10_led_0 rfl
theorem dX10_led_5 : decode cX10_led 5 = .ok (.iconst 0, 1) := dq_get (L := lzddX10_led_0) 3 rfl zddX10_led_0 rfl
theorem dX10_led_6 : decode cX10_led 6 = .ok (.istore_n 3, 1) := dq_get (L := lzddX10_led_0) 4 rfl zddX10_led_0 rfl
theorem dX10_led_7 : decode cX10_led 7 = .ok (.iconst 0, 1) := dq_get (L := lzddX10_led_0) 5 rfl zddX10_led_0 rfl
theorem dX10_led_8 : decode cX10_led 8 = .ok (.istore 4, 2) := dq_get (L := lzddX10_led_0) 6 rfl zddX10_led_0 rfl
theorem dX10_led_10 : decode cX10_led 10 = .ok (.iload 4, 2) := dq_get (L := lzddX10_led_0) 7 rfl zddX10_led_0 rfl
theorem dX10_led_12 : decode cX10_led 12 = .ok (.aload_n 0, 1) := dq_get (L := lzddX10_led_0) 8 rfl zddX10_led_0 rfl
theorem dX10_led_13 : decode cX10_led 13 = .ok (.getfield 16, 3) := dq_get (L := lzddX10_led_0) 9 rfl zddX10_led_0 rfl
theorem dX10_led_16 : decode cX10_led 16 = .ok (.getfield 106, 3) := dq_get (L := lzddX10_led_0) 10 rfl zddX10_led_0 rfl
theorem dX10_led_19 : decode cX10_led 19 = .ok (.if_icmp .ge 30, 3) := dq_get (L := lzddX10_led_0) 11 rfl zddX10_led_0 rfl
theorem dX10_led_22 : decode cX10_led 22 = .ok (.aload_n 2, 1) := dq_get (L := lzddX10_led_0) 12 rfl zddX10_led_0 rfl
theorem dX10_led_23 : decode cX10_led 23 = .ok (.getfield 213, 3) := dq_get (L := lzddX10_led_0) 13 rfl zddX10_led_0 rfl
theorem dX10_led_26 : decode cX10_led 26 = .ok (.iload 4, 2) := dq_get (L := lzddX10_led_0) 14 rfl zddX10_led_0 rfl
theorem dX10_led_28 : decode cX10_led 28 = .ok (.iaload, 1) := dq_get (L := lzddX10_led_0) 15 rfl zddX10_led_0 rfl
theorem dX10_led_29 : decode cX10_led 29 = .ok (.ifCond .le 14, 3) := dq_get (L := lzddX10_led_0) 16 rfl zddX10_led_0 rfl
theorem dX10_led_32 : decode cX10_led 32 = .ok (.iload_n 3, 1) := dq_get (L := lzddX10_led_0) 17 rfl zddX10_led_0 rfl
theorem dX10_led_33 : decode cX10_led 33 = .ok (.iload_n 1, 1) := dq_get (L := lzddX10_led_0) 18 rfl zddX10_led_0 rfl
theorem dX10_led_34 : decode cX10_led 34 = .ok (.if_icmp .ne 6, 3) := dq_get (L := lzddX10_led_0) 19 rfl zddX10_led_0 rfl
def lzddX10_led_37 : List (Nat × Instr × Nat) := [(37, .iload 4, 2), (39, .ireturn, 1), (40, .iinc 3 1, 3), (43, .iinc 4 1, 3), (46, .goto (-36), 3), (49, .new 325, 3), (52, .dup, 1), (53, .ldc_w 327, 3), (56, .invokespecial 329, 3), (59, .athrow, 1)]
theorem zddX10_led_37 : dqW lzddX10_led_37 (cX10_led.data.toList.drop 37) 37 = true := by decide +kernel
theorem dX10_led_37 : decode cX10_led 37 = .ok (.iload 4, 2) := dq_get (L := lzddX10_led_37) 0 rfl zddX10_led_37 rfl
theorem dX10_led_39 : decode cX10_led 39 = .ok (.ireturn, 1) := dq_get (L := lzddX10_led_37) 1 rfl zddX10_led_37 rfl
theorem dX10_led_40 : decode cX10_led 40 = .ok (.iinc 3 1, 3) := dq_get (L := lzddX10_led_37) 2 rfl zddX10_led_37 rfl
theorem dX10_led_43 : decode cX10_led 43 = .ok (.iinc 4 1, 3) := dq_get (L := lzddX10_led_37) 3 rfl zddX10_led_37 rfl
theorem dX10_led_46 : decode cX10_led 46 = .ok (.goto (-36), 3) := dq_get (L := lzddX10_led_37) 4 rfl zddX10_led_37 rfl
theorem dX10_led_49 : decode cX10_led 49 = .ok (.new 325, 3) := dq_get (L := lzddX10_led_37) 5 rfl zddX10_led_37 rfl
theorem dX10_led_52 : decode cX10_led 52 = .ok (.dup, 1) := dq_get (L := lzddX10_led_37) 6 rfl zddX10_led_37 rfl
theorem dX10_led_53 : decode cX10_led 53 = .ok (.ldc_w 327, 3) := dq_get (L := lzddX10_led_37) 7 rfl zddX10_led_37 rfl
theorem dX10_led_56 : decode cX10_led 56 = .ok (.invokespecial 329, 3) := dq_get (L := lzddX10_led_37) 8 rfl zddX10_led_37 rfl
theorem dX10_led_59 : decode cX10_led 59 = .ok (.athrow, 1) := dq_get (L := lzddX10_led_37) 9 rfl zddX10_led_37 rfl
def lzddL_led_0 : List (Nat × Instr × Nat) := [(0, .aload_n 2, 1), (1, .iconst 0, 1), (2, .aload_n 0, 1), (3, .iload_n 1, 1), (4, .invokevirtual 7, 3), (7, .i2l, 1), (8, .lastore, 1), (9, .goto 6, 3), (12, .astore_n 3, 1), (13, .iconst 1, 1), (14, .ireturn, 1), (15, .iconst 0, 1), (16, .ireturn, 1)]
theorem zddL_led_0 : dqW lzddL_led_0 (cL_led.data.toList.drop 0) 0 = true := by decide +kernel
theorem dL_led_0 : decode cL_led 0 = .ok (.aload_n 2, 1) := dq_get (L := lzddL_led_0) 0 rfl zddL_led_0 rfl
theorem dL_led_1 : decode cL_led 1 = .ok (.iconst 0, 1) := dq_get (L := lzddL_led_0) 1 rfl zddL_led_0 rfl
theorem dL_led_2 : decode cL_led 2 = .ok (.aload_n 0, 1) := dq_get (L := lzddL_led_0) 2 rfl zddL_led_0 rfl
theorem dL_led_3 : decode cL_led 3 = .ok (.iload_n 1, 1) := dq_get (L := lzddL_led_0) 3 rfl zddL_led_0 rfl
theorem dL_led_4 : decode cL_led 4 = .ok (.invokevirtual 7, 3) := dq_get (L := lzddL_led_0) 4 rfl zddL_led_0 rfl
theorem dL_led_7 : decode cL_led 7 = .ok (.i2l, 1) := dq_get (L := lzddL_led_0) 5 rfl zddL_led_0 rfl
theorem dL_led_8 : decode cL_led 8 = .ok (.lastore, 1) := dq_get (L := lzddL_led_0) 6 rfl zddL_led_0 rfl
theorem dL_led_9 : decode cL_led 9 = .ok (.goto 6, 3) := dq_get (L := lzddL_led_0) 7 rfl zddL_led_0 rfl
theorem dL_led_12 : decode cL_led 12 = .ok (.astore_n 3, 1) := dq_get (L := lzddL_led_0) 8 rfl zddL_led_0 rfl
theorem dL_led_13 : decode cL_led 13 = .ok (.iconst 1, 1) := dq_get (L := lzddL_led_0) 9 rfl zddL_led_0 rfl
theorem dL_led_14 : decode cL_led 14 = .ok (.ireturn, 1) := dq_get (L := lzddL_led_0) 10 rfl zddL_led_0 rfl
theorem dL_led_15 : decode cL_led 15 = .ok (.iconst 0, 1) := dq_get (L := lzddL_led_0) 11 rfl zddL_led_0 rfl
theorem dL_led_16 : decode cL_led 16 = .ok (.ireturn, 1) := dq_get (L := lzddL_led_0) 12 rfl zddL_led_0 rfl
theorem cz_decl {args args' : Array Value} {s : State} {y : MethodName} {bb : ByteArray} {nn : Nat} {rr : Option FieldType} (hi : (Cond.instanceMethod y).before args s = true) (hc : (Cond.code y bb nn rr).before args s = true) : (Cond.declares y).before args' s = true := by
  obtain ⟨m1, meth1, g1, g2, g3, -⟩ := Cond.instanceMethod_spec hi
  obtain ⟨meth2, c2, g4, -, -, -, -, -, -, g5⟩ := Cond.code_spec g1 hc
  cases Option.some.inj (g2.symm.trans g4)
  simp [Cond.before, Cond.holds, Cond.value, g1, g2, g3, g5]
theorem cz_dm0 : Cond.instanceMethod ⟨"java/lang/RuntimeException", "<init>", "(Ljava/lang/String;)V"⟩ ∈ cz_T := cz_in (i := 1331) (by decide +kernel) rfl
theorem cz_dwa0 : lw_tbl[1332]? = some (Cond.code ⟨"java/lang/RuntimeException", "<init>", "(Ljava/lang/String;)V"⟩ prog_21_method_2_code 2 none) := by decide +kernel
theorem cz_dwb0 : goodWord (Cond.code ⟨"java/lang/RuntimeException", "<init>", "(Ljava/lang/String;)V"⟩ prog_21_method_2_code 2 none) = true := rfl
theorem cz_dw0 : Cond.code ⟨"java/lang/RuntimeException", "<init>", "(Ljava/lang/String;)V"⟩ prog_21_method_2_code 2 none ∈ cz_T := cz_in cz_dwa0 cz_dwb0
theorem cz_dc0 {args args' : Array Value} {s : State} (hts : ∀ w ∈ cz_T, w.before args s = true) : (Cond.declares ⟨"java/lang/RuntimeException", "<init>", "(Ljava/lang/String;)V"⟩).before args' s = true := cz_decl (hts _ cz_dm0) (hts _ cz_dw0)
theorem cz_dm1 : Cond.instanceMethod ⟨"java/lang/Exception", "<init>", "(Ljava/lang/String;)V"⟩ ∈ cz_T := cz_in (i := 1334) (by decide +kernel) rfl
theorem cz_dwa1 : lw_tbl[1335]? = some (Cond.code ⟨"java/lang/Exception", "<init>", "(Ljava/lang/String;)V"⟩ prog_18_method_2_code 2 none) := by decide +kernel
theorem cz_dwb1 : goodWord (Cond.code ⟨"java/lang/Exception", "<init>", "(Ljava/lang/String;)V"⟩ prog_18_method_2_code 2 none) = true := rfl
theorem cz_dw1 : Cond.code ⟨"java/lang/Exception", "<init>", "(Ljava/lang/String;)V"⟩ prog_18_method_2_code 2 none ∈ cz_T := cz_in cz_dwa1 cz_dwb1
theorem cz_dc1 {args args' : Array Value} {s : State} (hts : ∀ w ∈ cz_T, w.before args s = true) : (Cond.declares ⟨"java/lang/Exception", "<init>", "(Ljava/lang/String;)V"⟩).before args' s = true := cz_decl (hts _ cz_dm1) (hts _ cz_dw1)
theorem cz_dm2 : Cond.instanceMethod ⟨"java/lang/Throwable", "<init>", "(Ljava/lang/String;)V"⟩ ∈ cz_T := cz_in (i := 1337) (by decide +kernel) rfl
theorem cz_dwa2 : lw_tbl[1338]? = some (Cond.code ⟨"java/lang/Throwable", "<init>", "(Ljava/lang/String;)V"⟩ prog_25_method_2_code 2 none) := by decide +kernel
theorem cz_dwb2 : goodWord (Cond.code ⟨"java/lang/Throwable", "<init>", "(Ljava/lang/String;)V"⟩ prog_25_method_2_code 2 none) = true := rfl
theorem cz_dw2 : Cond.code ⟨"java/lang/Throwable", "<init>", "(Ljava/lang/String;)V"⟩ prog_25_method_2_code 2 none ∈ cz_T := cz_in cz_dwa2 cz_dwb2
theorem cz_dc2 {args args' : Array Value} {s : State} (hts : ∀ w ∈ cz_T, w.before args s = true) : (Cond.declares ⟨"java/lang/Throwable", "<init>", "(Ljava/lang/String;)V"⟩).before args' s = true := cz_decl (hts _ cz_dm2) (hts _ cz_dw2)
theorem cz_nse1 : Cond.classLink RX10 325 cz_NSE ∈ cz_T := cz_in (i := 1287) (by decide +kernel) rfl
theorem cz_nse2 : Cond.initialized cz_NSE ∈ cz_T := cz_in (i := 153) (by decide +kernel) rfl
/-- what the throw in led rests on -/
def cz_LX : cz_X → Prop
  | (_, l, _, s, _, _, _, _, _, A, _, _) => l.stackTraces = false ∧ vx_Zq Bundle.tN "UNASSIGNED_STACK" Bundle.steD A s s.heap ∧ vx_Zq Bundle.tN "SUPPRESSED_SENTINEL" Bundle.listD A s s.heap
def cz_XY (g : cz_G) (A : Nat → Prop) (PX : cz_I → cz_R → cz_L → Prop) (cn : Nat) (K N : Nat → Nat) : String → State → State → Prop := fun E st t =>
  E = cz_NSE ∧ (∃ (I : cz_I) (R : cz_R) (L : cz_L), PX I R L ∧ va_P g.1 vwCl (cz_ws g cn K N I R L) t.heap ∧ va_D A (cz_ws g cn K N I R L)) ∧ va_F A st t
def cz_ZY : cz_X → cz_M → cz_Q → (cz_I → cz_R → cz_L → Prop) → Nat → (Nat → Nat) → (Nat → Nat) → Prop
  | (_, _, _, s, _, args, below, _, c, A, Z, g), M, Qr, PX, cn, K, N => Z = vx_MQ below (cz_Qc g A Qr) (cz_XY g A PX cn K N) args s (cz_rm M).cells (cz_rm M).slots A ∧ ∀ x ∈ c.exceptionTable.toList, False
theorem tr_iretX {X : cz_X} {M : cz_M} {pc : Nat} {ls : Nat → Option Value} {cn cn2 : Nat} {K N K2 N2 : Nat → Nat} {I : cz_I} {R : cz_R} {L : cz_L} {n w : Nat} {Qr : cz_Q} {PX : cz_I → cz_R → cz_L → Prop} {x : Int32} (hZ : cz_ZY X M Qr PX cn2 K2 N2) (hd : decode (cz_cc M) pc = .ok (.ireturn, 1)) (hrt : cz_rt M = some .int) (hn : n ≤ (cz_rm M).cells) (hw : w ≤ (cz_rm M).slots) (hq : Qr (some (.int x)) cn K N I R L) : Tr X M pc ls ([.int x]) cn K N I R L n w := by
  obtain ⟨p, l, e, s, m, args, below, meth, c, A, Z, g⟩ := X
  intro hC H locs arr hR hS hl
  obtain ⟨rfl, -⟩ := hZ
  have hlocks : meth.locks = false := hC.2.2.2.2.2.2.1
  refine W.widen hn hw ?_
  refine vx_ret ?_
  exact W.iret (v := x) hC.1 hC.2.1 (hC.2.2.2.2.2.1.trans hrt) (fun t ht hW => ⟨⟨some (.int x), cn, K, N, I, R, L, rfl, hq, by rw [ht]; exact hR⟩, hS.F ht⟩) hS.2.2 hd
theorem tr_throw {X : cz_X} {Qr : cz_Q} {PX : cz_I → cz_R → cz_L → Prop} {ls : Nat → Option Value} {cn : Nat} {K N : Nat → Nat} {I : cz_I} {R : cz_R} {L : cz_L} (hZ : cz_ZY X mX10_led Qr PX cn K N) (hx : cz_LX X) (hP : PX I R L) : Tr X mX10_led 49 ls [] cn K N I R L 0 0 := by
  obtain ⟨p, l, e, s, m, args, below, meth, c, A, Z, g⟩ := X
  intro hC H locs arr hR hS hl
  obtain ⟨rfl, hout⟩ := hZ
  have hts := hC.2.2.2.2.1
  have hKK : cz_K g s := hC.2.2.2.2.2.2.2.2.1
  have hstr : vk_R RX10 327 "no such cheese missed anything" (cz_sa g 19) s := hKK.2.2.2.2 (RX10, 327, "no such cheese missed anything", 19) (List.mem_of_getElem? (i := 26) (by decide +kernel))
  refine cz_thrown hC.1 hC.2.1 hx.1 hC.2.2.2.1 (hts _ cz_nse1) (hts _ cz_nse2) hstr (fun w hw => by
      rcases cz_atS w hw with (q | q | q | q) | q
      · rw [q]; exact cz_cast (hts _ cz_nse3)
      · rw [q]; exact cz_dc0 hts
      · rw [q]; exact cz_dc1 hts
      · rw [q]; exact cz_dc2 hts
      · exact hts w (List.mem_filter.mpr q)) cz_goodS hx.2.1 hx.2.2 hS (by rw [hC.2.2.1]; exact hl.1)
    dX10_led_49 dX10_led_52 dX10_led_53 dX10_led_56 dX10_led_59 (fun x h => (hout x h).elim) (by decide) (Nat.le_of_ble_eq_true rfl) (by decide) (by decide) hC.2.2.2.2.2.2.1 (fun t hvm hz hq => ⟨rfl, ⟨I, R, L, hP, hR.1.kept (fun k x hx => hq x.1 ((hR.1 k x hx).lt)), hR.2.1⟩, Nat.le_trans hS.1 hz, fun q h1 h2 => (hq q (Nat.lt_of_lt_of_le h1 hS.1)).trans (hS.2.1 q h1 h2)⟩) hS.2.2 (by decide) (by decide)
def wi_led : List Nat := [73, 75, 768, 769, 778, 834, 2303, 2367, 2431, 2495, 2559, 2623, 2687, 2751, 2815, 2879, 2943, 3007, 3071, 3135, 3199, 3263, 3327, 3391]
def wr_led : List Nat := [832, 833]
set_option maxHeartbeats 4000000 in
theorem s_led {X : cz_X} (hE : cz_env X) {T : Nat → Nat} {cn : Nat} {K N : Nat → Nat} {I0 : cz_I} {R0 : cz_R} {L0 : cz_L} {Qr : cz_Q} {PX : cz_I → cz_R → cz_L → Prop} (hZ : cz_ZY X mX10_led Qr PX cn K N) {d : Int} (hW0 : Wf T cn K N I0 R0 d) {a0 : Nat} (ta0 : T a0 = 1) {x1 : Int32} {ls : Nat → Option Value} (hl0 : ls 0 = some (.ref a0)) (hl1 : ls 1 = some (.int x1)) (hq : ∀ (v : Int32) (I' : cz_I) (R' : cz_R) (L' : cz_L), St T cn K N d wi_led wr_led I0 R0 I' R' ∧ True → Qr (some (.int v)) cn K N I' R' L') (hk : ∀ (ls' : Nat → Option Value) (I' : cz_I) (R' : cz_R) (L' : cz_L), ls' 0 = ls 0 → ls' 1 = ls 1 → St T cn K N d wi_led wr_led I0 R0 I' R' ∧ True → Tr X mX10_led 49 ls' [] cn K N I' R' L' 0 0) : Tr X mX10_led 0 ls [] cn K N I0 R0 L0 0 0 := by
  have hS0 : St T cn K N d wi_led wr_led I0 R0 I0 R0 := St.rf0 hW0
  refine tr_aload_n dX10_led_0 hl0 ?_
  refine q_callVr hE (M' := mX10_presentNight) (as := []) dX10_led_1 lk10_155 inX10_presentNight seX10_presentNight myX10_presentNight (by decide) ⟨by decide, by decide⟩ rfl (kR1 hS0.1 ta0) (Nat.le_of_ble_eq_true rfl) rfl rfl (by decide) (by decide) (k_X10_presentNight hS0.1 ta0) ?_
  rintro a5 cn' K' N' I1 R2 L3 ⟨rfl, rfl, rfl, rfl, g4, ta5, -⟩
  have hS6 := hS0.tr g4 (by decide +kernel) (by decide +kernel)
  refine tr_astore_n dX10_led_4 (by decide) (by decide) ?_
  refine q_iconst dX10_led_5 (by decide) ?_
  intro v7 h8
  refine tr_istore_n dX10_led_6 (by decide) (by decide) ?_
  refine q_iconst dX10_led_7 (by decide) ?_
  intro v9 h10
  refine tr_istore dX10_led_8 (by decide) (by decide) ?_
  have lp22 : ∀ (fu : Nat) (ls : Nat → Option Value) (v11 : Int32) (v12 : Int32) (I18 : cz_I) (R19 : cz_R), ls 0 = some (.ref a0) → ls 1 = some (.int x1) → ls 2 = some (.ref a5) → ls 3 = some (.int v11) → ls 4 = some (.int v12) → St T cn K N d wi_led wr_led I0 R0 I18 R19 → 0 ≤ v12.toInt → (-v12.toInt + 2147483647).toNat < fu → Tr X mX10_led 10 ls [] cn K N I18 R19 L0 0 0 := by
    intro fu
    induction fu with
    | zero => intros; rename_i hz; exact absurd hz (Nat.not_lt_zero _)
    | succ fu ih22 =>
      intro ls v11 v12 I18 R19 hl13 hl14 hl15 hl16 hl17 hS20 g21 hm22
      refine tr_iload dX10_led_10 hl17 ?_
      refine tr_aload_n dX10_led_12 hl13 ?_
      obtain ⟨a24, d25, ta24⟩ := rf1_2 hW0 ta0
      refine tr_getR dX10_led_13 fl10_16 (kR1 hS20.1 ta0) ((hS20.rcell ta0 (by decide +kernel)).trans d25) ?_
      obtain ⟨v26, c27⟩ : ∃ v, I0 a24 5 = v := ⟨_, rfl⟩
      have b28 := iv2_5 hW0 ta24 c27
      refine q_getI dX10_led_16 fl10_106 (kR2 hS20.1 ta24) ((hS20.cell ta24 (by decide +kernel)).trans c27) ?_
      refine q_icmp_ge 49 dX10_led_19 (by decide) (fun h29 => ?_) (fun h29 => ?_)
      · skip
        exact hk _ _ _ _ (hl13.trans hl0.symm) (hl14.trans hl1.symm) ⟨hS20, trivial⟩
      · skip
        refine tr_aload_n dX10_led_22 hl15 ?_
        obtain ⟨a30, d31, ta30⟩ := rf13_6 hW0 ta5
        refine tr_getR dX10_led_23 fl10_213 (kR13 hS20.1 ta5) ((hS20.rcell ta5 (by decide +kernel)).trans d31) ?_
        refine tr_iload dX10_led_26 hl17 ?_
        refine q_iald dX10_led_28 (kR47 hS20.1 ta30) (ti_in (nR47 hS20.1 ta30) (by exact om_2cfcd5a5 g21) (by exact om_5f13cc30 b28.2 b28.1 h29)) ?_
        intro v32 c33
        refine q_if_le 43 dX10_led_29 (by decide) (fun h34 => ?_) (fun h34 => ?_)
        · skip
          refine q_iincE dX10_led_43 hl17 (by decide) (by decide) (by intro j1 j2; exact om_4034714d g21 b28.2 b28.1 h29 j2) ?_
          intro v35 h36
          refine tr_goto 10 dX10_led_46 (by decide) ?_
          exact ih22 _ v11 v35 I18 R19 hl13 hl14 hl15 hl16 rfl hS20 (by exact om_68881c41 g21 h36) (by exact om_fc025699 g21 hm22 b28.2 b28.1 h29 h36)
        · skip
          refine tr_iload_n dX10_led_32 hl16 ?_
          refine tr_iload_n dX10_led_33 hl14 ?_
          refine q_icmp_ne 40 dX10_led_34 (by decide) (fun h37 => ?_) (fun h37 => ?_)
          · skip
            refine q_iinc dX10_led_40 hl16 (by decide) ?_
            intro v38
            refine q_iincE dX10_led_43 hl17 (by decide) (by decide) (by intro j1 j2; exact om_4034714d g21 b28.2 b28.1 h29 j2) ?_
            intro v39 h40
            refine tr_goto 10 dX10_led_46 (by decide) ?_
            exact ih22 _ v38 v39 I18 R19 hl13 hl14 hl15 rfl rfl hS20 (by exact om_68881c41 g21 h40) (by exact om_8ec43a4b g21 hm22 b28.2 b28.1 h29 h37 h40)
          · skip
            refine tr_iload dX10_led_37 hl17 ?_
            exact tr_iretX hZ dX10_led_39 rfl (by decide) (by decide) (hq _ _ _ _ ⟨hS20, trivial⟩)
  exact lp22 _ _ v7 v9 I1 R2 hl0 hl1 rfl rfl rfl hS6 (by exact om_d99fa9e4 h10) (Nat.lt_succ_self _)
/-! ===== an exception that the one row of a table catches ===== -/
theorem cz_caught {p : Program} {l : Launch} {e : Env} {Rm : Room} {s : State} {m : MethodId} {args : Array Value} {below : List Frame} {meth : Method} {c : Code} {T : State} {locs : List Loc} {cells slots : Nat} (X : Stand p l e Rm s m args below meth c T locs cells slots) {q : Addr} {g : JFrame} (hg : g.method = m) {ce : Cell} (hcell : T.heap[q]? = some ce) (hv : ce.vm = .none)
    {own name E : String} {x : ExceptionTableEntry} (hown : s.vm.findClass own = some m.cls) (htab : c.exceptionTable.toList = [x]) (hx : covers x g.pc = true) (h0 : x.catchType ≠ 0) (hlink : (Cond.classLink own x.catchType name).before args s = true) (hcast : (Cond.castable E name).before args s = true) (hcl : s.vm.findClass E = some ce.cls) :
    ∃ vm', Stand p l e Rm s m args below meth c (T.setVm vm') locs cells slots ∧ ∀ target, Steps p.tables e below ((T.setVm vm').setTop { g with pc := x.handlerPc, stack := [.ref q] }) target → Steps p.tables e below ((T.setTop g).pushFrame (.throwing q)) target := by
  subst hg
  have hpl : e.platform.magicAccessors = ({} : Platform).magicAccessors := by rw [X.admits.platform]
  obtain ⟨c3, c4, hc3, hc4, hasg⟩ := Cond.castable_spec hcast
  cases Option.some.inj (hc3.symm.trans hcl)
  obtain ⟨c5, hc5, hl5⟩ := Cond.classLink_spec hown hlink e.platform hpl
  cases Option.some.inj (hc4.symm.trans hc5)
  obtain ⟨dk, _, _, kt, hd, _, _, _, _, hkt, _, hop⟩ := hl5.here
  obtain ⟨k9, h9, -⟩ := Vm.findClass_spec hcl
  have hW : s.WarmedH (T.vm.noted g.method.cls x.catchType (.cls c4)) := X.warmed.noted hd hop (State.rightAt_cls hl5)
  refine ⟨T.vm.noted g.method.cls x.catchType (.cls c4), X.noted hW, fun target hrest => ?_⟩
  have hfind : ∀ (Q : Handler → Pre) (E : CtlPost) (d : Bool) (acts : List Action), wp (findHandler g q) Q E e d acts ((T.setTop g).pushFrame (.throwing q)) ↔ Q (.found x.handlerPc) d acts (((T.setTop g).pushFrame (.throwing q)).setVm (T.vm.noted g.method.cls x.catchType (.cls c4))) := by
    intro Q E d acts
    have hm : ((T.setTop g).pushFrame (.throwing q)).vm.method? g.method = some meth := X.method'
    rw [W.findHandler_eq hm X.code, htab]
    have hl6 : ((T.setTop g).pushFrame (.throwing q)).vm.ClassLinks e.platform g.method.cls x.catchType c4 := X.warmed.classLinks hl5
    have hal : T.vm.Alike (T.vm.noted g.method.cls x.catchType (.cls c4)) := (Vm.Alike.refl T.vm).noted _ _ _
    obtain ⟨ha, ht⟩ := (resolveClass_links e.toSetting hl6).op (op := VmOp.resolveClass g.method.cls x.catchType) rfl
    obtain ⟨k1, hk1, -⟩ := X.warmed.alike.2.2 _ _ h9
    obtain ⟨k2, hk2, -⟩ := X.warmed.alike.2.2 _ _ hkt
    obtain ⟨k1', hk1', -⟩ := hal.2.2 _ _ hk1
    obtain ⟨k2', hk2', -⟩ := hal.2.2 _ _ hk2
    have hfit : (T.vm.noted g.method.cls x.catchType (.cls c4)).assignable ce.cls c4 = true := by rw [hal.assignable, X.warmed.alike.assignable]; exact hasg
    have hobj : ∀ k, ce.vm ≠ .statics k := fun k h => by rw [hv] at h; cases h
    have hcell' : ((T.setTop g).pushFrame (.throwing q)).heap[q]? = some ce := hcell
    have hx' := hx
    simp only [covers] at hx'
    have hk1'' : (((T.setTop g).pushFrame (.throwing q)).vm.noted g.method.cls x.catchType (.cls c4)).classes[ce.cls]? = some k1' := hk1'
    have hk2'' : (((T.setTop g).pushFrame (.throwing q)).vm.noted g.method.cls x.catchType (.cls c4)).classes[c4]? = some k2' := hk2'
    have hfit'' : (((T.setTop g).pushFrame (.throwing q)).vm.noted g.method.cls x.catchType (.cls c4)).assignable ce.cls c4 = true := hfit
    have hvm : (T.vm.noted g.method.cls x.catchType (.cls c4)) = (((T.setTop g).pushFrame (.throwing q)).vm.noted g.method.cls x.catchType (.cls c4)) := rfl
    rw [hvm]
    simp [findHandler.go, hx', h0, ha, ht, hcell', hobj, hk1'', hk2'', hfit'', VmOp.dirties, VmOp.acts]
  obtain ⟨hgo, hw⟩ := X.here.throwing q
  refine Steps.head hgo hw ?_
  have hst : (stepThrowing e ((T.setTop g).pushFrame (.throwing q)) q (.java g :: below)).Is ((((T.setTop g).pushFrame (.throwing q)).setVm (T.vm.noted g.method.cls x.catchType (.cls c4))).setFrames (.java { g with pc := x.handlerPc, stack := [.ref q] } :: below)) [] := by
    simp only [stepThrowing, searchFrame, vmDo]
    generalize hr : Sem.go _ e false [] ((T.setTop g).pushFrame (.throwing q)) = res
    obtain ⟨as, rfl, ha⟩ := Sem.eq_ok_of hr (a := Handler.found x.handlerPc) (s' := ((T.setTop g).pushFrame (.throwing q)).setVm (T.vm.noted g.method.cls x.catchType (.cls c4))) (acts' := []) (by simp [hfind _ _ _ _])
    exact ⟨rfl, ha⟩
  obtain ⟨g₀, hr⟩ := X.frames_eq
  rw [stepThread_throwing (frames_entered X.here.top _)]
  have hr' : (T.setVm (T.vm.noted g.method.cls x.catchType (.cls c4))).frames = .java g₀ :: below := hr
  rw [State.setTop_of_frames _ hr'] at hrest
  rw [hr, List.tail_cons, hst.1]
  have e1 : (((T.setTop g).pushFrame (.throwing q)).setVm (T.vm.noted g.method.cls x.catchType (.cls c4))).setFrames (.java { g with pc := x.handlerPc, stack := [.ref q] } :: below) = (T.setVm (T.vm.noted g.method.cls x.catchType (.cls c4))).setFrames (.java { g with pc := x.handlerPc, stack := [.ref q] } :: below) := by
    rw [State.pushFrame, State.setTop_of_frames _ hr]
    have h2 : ∀ (u : State) (vm' : Vm) (F G : List Frame), ((u.setFrames F).setVm vm').setFrames G = (u.setVm vm').setFrames G := fun u vm' F G => by
      have h1 : (u.setFrames F).setVm vm' = (u.setVm vm').setFrames F := rfl
      rw [h1, State.setFrames_setFrames]
    rw [h2, h2]
  rw [e1]
  exact hrest
/-! ===== behind an allocation that the store doesn't know: the places that come are moved ===== -/
def cz_mv (g : cz_G) (cn hs : Nat) : cz_G := (g.1, g.2.1, (fun k => if k < cn then cz_al g k else hs + (k - cn)), g.2.2.2)
theorem cz_mv_lt {g : cz_G} {cn hs k : Nat} (h : k < cn) : cz_al (cz_mv g cn hs) k = cz_al g k := by show (if k < cn then _ else _) = _; rw [if_pos h]
theorem cz_mv_ws {g : cz_G} {cn hs : Nat} {K N : Nat → Nat} {I : cz_I} {R : cz_R} {L : cz_L} (hw : ∀ k j x : Nat, R k j = some x → x < cn) : cz_ws (cz_mv g cn hs) cn K N I R L = cz_ws g cn K N I R L := by
  have hm : ∀ k j : Nat, (R k j).map (cz_al (cz_mv g cn hs)) = (R k j).map (cz_al g) := by
    intro k j
    cases h : R k j with
    | none => rfl
    | some x => rw [Option.map_some, Option.map_some, cz_mv_lt (hw k j x h)]
  unfold cz_ws
  apply List.map_congr_left
  intro k hk
  rw [cz_mv_lt (List.mem_range.mp hk)]
  congr 1
  simp only [cz_ce, cz_fs, cz_fv, cz_ac, hm]
  rfl
theorem cz_mv_at {g : cz_G} {A : Nat → Prop} {cn : Nat} {K N : Nat → Nat} {I : cz_I} {R : cz_R} {L : cz_L} {H : Heap} (hw : ∀ k j x : Nat, R k j = some x → x < cn) (hP : va_P g.1 vwCl (cz_ws g cn K N I R L) H) (hD : va_D A (cz_ws g cn K N I R L)) (h99 : ∀ k : Nat, cn ≤ k → K k = 99) : cz_At (cz_mv g cn H.size) A cn K N I R L H := by
  refine ⟨?_, ?_, fun i => ?_, h99⟩
  · rw [cz_mv_ws hw]; exact hP
  · rw [cz_mv_ws hw]; exact hD
  · show (if cn + i < cn then _ else _) = _
    rw [if_neg (by exact om_6b504e5a)]; exact om_8211d13f
theorem cz_mv_rn {g : cz_G} {cn hs : Nat} {v : Value} (h : ∀ k, v = .ref k → k < cn) : cz_rn (cz_mv g cn hs) v = cz_rn g v := by
  cases v with
  | ref k => show Value.ref (cz_al (cz_mv g cn hs) k) = .ref (cz_al g k); rw [cz_mv_lt (h k rfl)]
  | _ => rfl
--  "(LEclipseCheese;I[J)I" } : Jvm.MethodName) method_3_code (4 : Nat) (Option.some Jvm.ClassFile.FieldType.int) [((0 : Nat), (9 : Nat), (12 : Nat), (13 : Nat))])
/-! ===== led's contract, and the law's own led ===== -/
def cz_PL (g : cz_G) (sz : Nat) (as : List Value) (cn : Nat) (K N : Nat → Nat) (I : cz_I) (R : cz_R) (L : cz_L) : Array Value → State → Prop := fun v U =>
  cz_PcE g sz as cn K N I R L v U ∧ vx_Zq Bundle.tN "UNASSIGNED_STACK" Bundle.steD (va_A (cz_ws g cn K N I R L) sz) U U.heap ∧ vx_Zq Bundle.tN "SUPPRESSED_SENTINEL" Bundle.listD (va_A (cz_ws g cn K N I R L) sz) U U.heap
theorem cz_PL_blind {g : cz_G} {sz : Nat} {as : List Value} {cn : Nat} {K N : Nat → Nat} {I : cz_I} {R : cz_R} {L : cz_L} : FrameBlind (cz_PL g sz as cn K N I R L) := fun a U fr mk q => ⟨cz_PcE_blind a U fr mk q.1, vx_Zq.moved (u := U) (U := U.calling fr mk a) (Vm.Alike.refl U.vm) q.2.1, vx_Zq.moved (u := U) (U := U.calling fr mk a) (Vm.Alike.refl U.vm) q.2.2⟩
/-- what led may leave -/
def LedS (T : Nat → Nat) (cn : Nat) (K N : Nat → Nat) (I : cz_I) (R : cz_R) : cz_I → cz_R → cz_L → Prop := fun I' R' _ => St T cn K N 0 wi_led wr_led I R I' R'
def LedQ (T : Nat → Nat) (cn : Nat) (K N : Nat → Nat) (I : cz_I) (R : cz_R) : cz_Q := fun r cn' K' N' I' R' _ => cn = cn' ∧ K = K' ∧ N = N' ∧ (∃ v : Int32, r = some (.int v)) ∧ St T cn K N 0 wi_led wr_led I R I' R'
set_option maxHeartbeats 4000000 in
theorem c_led {l : Launch} (hfl : l.stackTraces = false) {T : Nat → Nat} {cn : Nat} {K N : Nat → Nat} {I : cz_I} {R : cz_R} {L : cz_L} (hW0 : Wf T cn K N I R 0) {a0 : Nat} (ta0 : T a0 = 1) {a : Int32} (g : cz_G) (sz : Nat) :
    vx_Met l (cz_nm mX10_led) (cz_wd mX10_led) (cz_rm mX10_led) (cz_PL g sz [.ref a0, .int a] cn K N I R L) (cz_Qc g (va_A (cz_ws g cn K N I R L) sz) (LedQ T cn K N I R)) (cz_XY g (va_A (cz_ws g cn K N I R L) sz) (LedS T cn K N I R) cn K N) 1 6 (va_A (cz_ws g cn K N I R L) sz) := by
  refine vx_ofW (cc := cz_cc mX10_led) (maxL := cz_nL mX10_led) (ret := cz_rt mX10_led) (ws' := cz_T) (by decide +kernel) rfl ?_
  intro p e s m args below meth c s₁ B hml ht hv
  obtain ⟨⟨⟨rfl, hsz, hR, hK⟩, hE⟩, hz1, hz2⟩ := hv
  have hts := atoms_spec (ws := cz_wd mX10_led) B.pre
  have hown : s.vm.findClass (cz_on mX10_led.1) = some m.cls := findClass_of_methodNamed B.named
  have hb := s_led (X := (p, l, e, s, m, (([.ref a0, .int a] : List Value).map (cz_rn g)).toArray, below, meth, c, va_A (cz_ws g cn K N I R L) sz, vx_MQ below (cz_Qc g (va_A (cz_ws g cn K N I R L) sz) (LedQ T cn K N I R)) (cz_XY g (va_A (cz_ws g cn K N I R L) sz) (LedS T cn K N I R) cn K N) (([.ref a0, .int a] : List Value).map (cz_rn g)).toArray s 1 6 (va_A (cz_ws g cn K N I R L) sz), g)) (L0 := L) (x1 := a) (ls := cz_en [.ref a0, .int a]) hE (Qr := LedQ T cn K N I R) (PX := LedS T cn K N I R) ⟨rfl, ht⟩ hW0 ta0 rfl rfl
    (fun v I' R' L' q => ⟨rfl, rfl, rfl, ⟨v, rfl⟩, q.1⟩) (fun ls' I' R' L' _ _ q => tr_throw (Qr := LedQ T cn K N I R) (PX := LedS T cn K N I R) ⟨rfl, ht⟩ ⟨hfl, hz1, hz2⟩ q.1)
  rw [lg_entry_eq]
  exact hb ⟨B.exec, B.bytes, hml, hown, fun w hw => hts w (List.mem_cons_of_mem _ hw), B.returns, B.notSynchronized, fun h => (name_of_methodNamed B.named B.method).1.trans h, hK, fun q hq => Or.inr (by rw [← hsz]; exact hq)⟩ s.heap [] _ hR va_S.rf (cz_enl (Nat.le_of_ble_eq_true rfl) rfl)
def mL_led9 : List Cond := .codeWith yL_led cL_led 4 (some .int) [(0, 9, 12, 13)] :: cz_T
theorem cz_lcw : Cond.codeWith yL_led cL_led 4 (some .int) [(0, 9, 12, 13)] ∈ cz_T := cz_in (i := 1281) (by decide +kernel) rfl
theorem cz_lcl : Cond.classLink RL 13 cz_NSE ∈ cz_T := cz_in (i := 1282) (by decide +kernel) rfl
def cz_QL (g : cz_G) (A : Nat → Prop) (PX : cz_I → cz_R → cz_L → Prop) (cn : Nat) (K N : Nat → Nat) : Array Value → State → Outcome → State → Prop := fun _ st oc t =>
  (∃ v : Int32, oc = .returned (some (.int v))) ∧ (∃ (I : cz_I) (R : cz_R) (L : cz_L), PX I R L ∧ va_P g.1 vwCl (cz_ws g cn K N I R L) t.heap ∧ va_D A (cz_ws g cn K N I R L)) ∧ va_F A st t
set_option maxHeartbeats 4000000 in
theorem c_Lled {l : Launch} (hfl : l.stackTraces = false) {T : Nat → Nat} {cn : Nat} {K N : Nat → Nat} {I : cz_I} {R : cz_R} {L : cz_L} (hW0 : Wf T cn K N I R 0) {a0 o0 : Nat} (ta0 : T a0 = 1) (to0 : T o0 = 94) {a : Int32} (g : cz_G) (sz : Nat) :
    vx_Met l yL_led mL_led9 (cz_rm mL_led) (cz_PL g sz [.ref a0, .int a, .ref o0] cn K N I R L) (cz_QL g (va_A (cz_ws g cn K N I R L) sz) (LedS T cn K N I R) cn K N) (fun _ _ _ => False) 1 6 (va_A (cz_ws g cn K N I R L) sz) := by
  refine vx_ofWH (cc := cL_led) (maxL := 4) (ret := some .int) (hh := [(0, 9, 12, 13)]) (ws' := cz_T) (by decide +kernel) rfl ?_
  intro p e s m args below meth c s₁ B hml hv
  obtain ⟨⟨⟨rfl, hsz, hR, hK⟩, hEn⟩, hz1, hz2⟩ := hv
  have hts0 := atoms_spec (ws := mL_led9) B.pre
  have hts : ∀ w ∈ cz_T, w.before _ s = true := fun w hw => hts0 w (List.mem_cons_of_mem _ hw)
  have htab := vx_table (x := yL_led) B (hts _ cz_lcw)
  have hown : s.vm.findClass RL = some m.cls := findClass_of_methodNamed B.named
  have hC : cz_ok (p, l, e, s, m, (([.ref a0, .int a, .ref o0] : List Value).map (cz_rn g)).toArray, below, meth, c, va_A (cz_ws g cn K N I R L) sz, vx_MQ below (cz_QL g (va_A (cz_ws g cn K N I R L) sz) (LedS T cn K N I R) cn K N) (fun _ _ _ => False) (([.ref a0, .int a, .ref o0] : List Value).map (cz_rn g)).toArray s 1 6 (va_A (cz_ws g cn K N I R L) sz), g) mL_led :=
    ⟨B.exec, B.bytes, hml, hown, hts, B.returns, B.notSynchronized, fun h => (name_of_methodNamed B.named B.method).1.trans h, hK, fun q hq => Or.inr (by rw [← hsz]; exact hq)⟩
  rw [lg_entry_eq]
  have hl0 := cz_enl (g := g) (M := mL_led) (as := [.ref a0, .int a, .ref o0]) (Nat.le_of_ble_eq_true rfl) rfl
  have hlocks := B.notSynchronized
  have key : Tr (p, l, e, s, m, (([.ref a0, .int a, .ref o0] : List Value).map (cz_rn g)).toArray, below, meth, c, va_A (cz_ws g cn K N I R L) sz, vx_MQ below (cz_QL g (va_A (cz_ws g cn K N I R L) sz) (LedS T cn K N I R) cn K N) (fun _ _ _ => False) (([.ref a0, .int a, .ref o0] : List Value).map (cz_rn g)).toArray s 1 6 (va_A (cz_ws g cn K N I R L) sz), g) mL_led 0 (cz_en [.ref a0, .int a, .ref o0]) [] cn K N I R L 0 0 := by
    refine tr_aload_n dL_led_0 rfl ?_
    refine tr_iconst (v := 0) dL_led_1 (by decide +kernel) ?_
    refine tr_aload_n dL_led_2 rfl ?_
    refine tr_iload_n dL_led_3 rfl ?_
    intro _ H locs arr hR hS hl
    obtain ⟨y1, y2, y3, y4⟩ := myX10_led
    have hcb := callB_of (rm := cz_rm mX10_led) (mc := 1) (ms := 6) (R := cz_rm mL_led) (own := RL) (index := 7) 1 hts (cz_good y2) rfl rfl rfl (hts _ y3) (hts _ lk13_7) y4 ⟨by decide, by decide⟩
    have hg := cz_getO (g := g) (N := N) (I := I) (R := R) (L := L) hR.2.2.2 (kR1 hW0 ta0) (by decide)
    have hre := va_recv hK.1 hR.1 (cz_cls (ci := 10) (by decide)).1 hg
    have hfree : ∀ q, va_A (cz_ws g cn K N I R L) H.size q → va_A (cz_ws g cn K N I R L) sz q := by
      intro q h
      rcases h with ⟨k, e, h⟩ | h
      · exact Or.inl ⟨k, e, h⟩
      · exact Or.inr (by rw [← hsz]; exact Nat.le_trans hS.1 h)
    have hzk : ∀ b : Nat, b < s.heap.size → ¬ va_A (cz_ws g cn K N I R L) sz b → H[b]? = s.heap[b]? := hS.2.1
    have hrun := vx_runV (C := RX10) (b := cz_al g a0) (As := [.int a]) (rest := [.int 0, .ref (cz_al g o0)]) (p := p) (e := e) (R := cz_rm mL_led) (below := below) (meth := meth) (locs := locs) (cells := 0) (slots := 0) (g := F0 m 4 arr [.int a, .ref (cz_al g a0), .int 0, .ref (cz_al g o0)]) ⟨hC.1, hC.2.1, hC.2.2.1, hown, hts⟩ (c_led hfl (L := L) (a := a) hW0 ta0 g H.size) ⟨hcb, hts _ inX10_led, hts _ seX10_led⟩
      ⟨cz_PL_blind, hre, fun U hU hWU => ⟨cz_preE (as := [.ref a0, .int a]) hC hR hS hEn U hU hWU, (by rw [hU]; exact ((hz1.kept hzk).narrow hfree).moved hWU.alike), (by rw [hU]; exact ((hz2.kept hzk).narrow hfree).moved hWU.alike)⟩⟩ rfl rfl hl.1 rfl (lv_room (Nat.le_of_ble_eq_true rfl)) dL_led_4 ⟨by decide, by decide⟩
    intro T' hT XS
    rcases hrun T' hT XS with ⟨v, st₀, t, T2, LL, h0, X', hL, e1, e2, ⟨⟨r, cn2, K2, N2, I2, R2, L2, hv, ⟨rfl, rfl, rfl, ⟨x, rfl⟩, hSt⟩, hAt⟩, hz, hk⟩, stp⟩ | ⟨q, st₀, t, T2, LL, E, ce, h0, X', hL, e1, e2, ⟨hE, ⟨I', R', L', hPX, hP', hD'⟩, hz, hk⟩, hce, hcv, hcl, stp⟩
    · have hv : v = some (.int x) := by cases hv; rfl
      subst hv
      rw [h0] at hz hk
      have hAt2 : cz_At g (va_A (cz_ws g cn K N I R L) sz) cn K N I2 R2 L2 T2.heap := by
        rw [e1]; exact ⟨hAt.1, hAt.2.1.weaken (fun _ q _ h => hfree q.1 h), hAt.2.2⟩
      have hS2 : va_S (va_A (cz_ws g cn K N I R L) sz) s.heap T2.heap (locs ++ LL) := ⟨Nat.le_trans hS.1 (by rw [e1]; exact hz), fun q h1 h2 => by rw [e1, hk q (Nat.lt_of_lt_of_le h1 hS.1) (fun z => h2 (hfree q z))]; exact hS.2.1 q h1 h2, fun q hq => by
        rcases List.mem_append.mp hq with h | h
        · exact hS.2.2 q h
        · exact hfree _ (hL q h)⟩
      have go : Tr (p, l, e, s, m, (([.ref a0, .int a, .ref o0] : List Value).map (cz_rn g)).toArray, below, meth, c, va_A (cz_ws g cn K N I R L) sz, vx_MQ below (cz_QL g (va_A (cz_ws g cn K N I R L) sz) (LedS T cn K N I R) cn K N) (fun _ _ _ => False) (([.ref a0, .int a, .ref o0] : List Value).map (cz_rn g)).toArray s 1 6 (va_A (cz_ws g cn K N I R L) sz), g) mL_led 7 (cz_en [.ref a0, .int a, .ref o0]) [.int x, .int 0, .ref o0] cn K N I2 R2 L2 1 6 := by
        refine q_i2l dL_led_7 ?_
        intro y
        refine q_last dL_led_8 (kR94 hSt.1 to0) (ti_in (nR94 hSt.1 to0) (by decide) (by decide)) ?_
        intro L3
        refine tr_goto 15 dL_led_9 (by decide) ?_
        refine tr_iconst (v := 0) dL_led_15 (by decide +kernel) ?_
        intro _ H3 locs3 arr3 hR3 hS3 hl3
        refine vx_ret ?_
        exact W.iret (v := 0) hC.1 hC.2.1 B.returns (fun t' ht' hW' => ⟨⟨0, rfl⟩, ⟨I2, R2, L3, hSt, by rw [ht']; exact hR3.1, hR3.2.1⟩, hS3.F ht'⟩) hS3.2.2 dL_led_16
      obtain ⟨t2, a1, b1⟩ := go hC T2.heap (locs ++ LL) arr hAt2 hS2 hl T2 rfl X'
      exact ⟨t2, stp t2 a1, b1⟩
    · subst hE
      rw [h0] at hz hk
      obtain ⟨vm', X2, st2⟩ := cz_caught X' (g := { F0 m 4 arr [.int a, .ref (cz_al g a0), .int 0, .ref (cz_al g o0)] with stack := [.int 0, .ref (cz_al g o0)] }) rfl (by rw [e1]; exact hce) hcv hown htab rfl (by decide) (hts _ cz_lcl) (cz_cast (hts _ cz_nse3)) hcl
      have hS2 : va_S (va_A (cz_ws g cn K N I R L) sz) s.heap T2.heap (locs ++ LL) := ⟨Nat.le_trans hS.1 (by rw [e1]; exact hz), fun q h1 h2 => by rw [e1, hk q (Nat.lt_of_lt_of_le h1 hS.1) (fun z => h2 (hfree q z))]; exact hS.2.1 q h1 h2, fun q hq => by
        rcases List.mem_append.mp hq with h | h
        · exact hS.2.2 q h
        · exact hfree _ (hL q h)⟩
      have fin : W p l e (cz_rm mL_led) s m (([.ref a0, .int a, .ref o0] : List Value).map (cz_rn g)).toArray below meth c T2.heap (locs ++ LL) 1 6 (vx_MQ below (cz_QL g (va_A (cz_ws g cn K N I R L) sz) (LedS T cn K N I R) cn K N) (fun _ _ _ => False) (([.ref a0, .int a, .ref o0] : List Value).map (cz_rn g)).toArray s 1 6 (va_A (cz_ws g cn K N I R L) sz)) (F0 m 12 arr [.ref q]) := by
        refine lv_astore_n hC.1 hC.2.1 dL_led_12 rfl (cz_has hl) (by decide) rfl (fun arr' _ => ?_)
        refine lv_iconst (v := 1) hC.1 hC.2.1 dL_led_13 (by decide +kernel) ?_
        refine vx_ret ?_
        exact W.iret (v := 1) hC.1 hC.2.1 B.returns (fun t' ht' hW' => ⟨⟨1, rfl⟩, ⟨I', R', L', hPX, by rw [ht', e1]; exact hP', hD'.weaken (fun _ q _ h => hfree q.1 h)⟩, hS2.F ht'⟩) hS2.2.2 dL_led_14
      obtain ⟨t2, a1, b1⟩ := fin (T2.setVm vm') rfl X2
      exact ⟨t2, stp.trans (st2 t2 a1), b1⟩
  exact key hC s.heap [] _ hR va_S.rf hl0
def cz_Xmv : cz_X → Nat → Nat → cz_X
  | (p, l, e, s, m, args, below, meth, c, A, Z, g), cn, hs => (p, l, e, s, m, args, below, meth, c, A, Z, cz_mv g cn hs)
section CzMv
variable {p : Program} {l : Launch} {e : Env} {s : State} {m : MethodId} {args : Array Value} {below : List Frame} {meth : Method} {c : Code} {A : Nat → Prop} {Z : State → Prop} {g g' : cz_G}
theorem cz_Xmv_e {cn hs : Nat} : cz_Xmv (p, l, e, s, m, args, below, meth, c, A, Z, g) cn hs = (p, l, e, s, m, args, below, meth, c, A, Z, cz_mv g cn hs) := rfl
theorem cz_mv_sa {cn hs : Nat} : cz_sa (cz_mv g cn hs) = cz_sa g := rfl
theorem cz_scr_g {Ln : Nat} {xs : Nat → Int32} (q : cz_sa g' = cz_sa g) (h : cz_scr (p, l, e, s, m, args, below, meth, c, A, Z, g) Ln xs) : cz_scr (p, l, e, s, m, args, below, meth, c, A, Z, g') Ln xs := by
  simp only [cz_scr] at h ⊢
  rw [q]; exact h
theorem cz_env_g (q : cz_sa g' = cz_sa g) (h : cz_env (p, l, e, s, m, args, below, meth, c, A, Z, g)) : cz_env (p, l, e, s, m, args, below, meth, c, A, Z, g') := by
  simp only [cz_env, cz_En] at h ⊢
  rw [q]; exact h
theorem cz_LX_g (h : cz_LX (p, l, e, s, m, args, below, meth, c, A, Z, g)) : cz_LX (p, l, e, s, m, args, below, meth, c, A, Z, g') := h
theorem cz_K_g (q1 : g'.1 = g.1) (q2 : g'.2.1 = g.2.1) (q : cz_sa g' = cz_sa g) (h : cz_K g s) : cz_K g' s := by
  simp only [cz_K, cz_tys] at h ⊢
  rw [q1, q2, q]; exact h
theorem cz_ok_g {M : cz_M} (q1 : g'.1 = g.1) (q2 : g'.2.1 = g.2.1) (q : cz_sa g' = cz_sa g) (h : cz_ok (p, l, e, s, m, args, below, meth, c, A, Z, g) M) : cz_ok (p, l, e, s, m, args, below, meth, c, A, Z, g') M := by
  simp only [cz_ok] at h ⊢
  obtain ⟨a1, a2, a3, a4, a5, a6, a7, a8, a9, a10⟩ := h
  exact ⟨a1, a2, a3, a4, a5, a6, a7, a8, cz_K_g q1 q2 q a9, a10⟩
end CzMv
theorem cz_scrmv {X : cz_X} {cn hs Ln : Nat} {xs : Nat → Int32} (h : cz_scr X Ln xs) : cz_scr (cz_Xmv X cn hs) Ln xs := by
  obtain ⟨p, l, e, s, m, args, below, meth, c, A, Z, g⟩ := X
  rw [cz_Xmv_e]; exact cz_scr_g cz_mv_sa h
theorem cz_envmv {X : cz_X} {cn hs : Nat} (h : cz_env X) : cz_env (cz_Xmv X cn hs) := by
  obtain ⟨p, l, e, s, m, args, below, meth, c, A, Z, g⟩ := X
  rw [cz_Xmv_e]; exact cz_env_g cz_mv_sa h
theorem cz_LXmv {X : cz_X} {cn hs : Nat} (h : cz_LX X) : cz_LX (cz_Xmv X cn hs) := by
  obtain ⟨p, l, e, s, m, args, below, meth, c, A, Z, g⟩ := X
  rw [cz_Xmv_e]; exact cz_LX_g h
theorem lk13_led : Cond.methodLink RL 181 yL_led ∈ cz_T := cz_in (i := 1279) (by decide +kernel) rfl
theorem st13_led : Cond.static yL_led ∈ cz_T := cz_in (i := 1280) (by decide +kernel) rfl
