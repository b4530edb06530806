section CzAlq
variable {X : cz_X} {M : cz_M} {pc : Nat} {ls : Nat → Option Value} {st : List Value} {cn : Nat} {K N : Nat → Nat} {I : cz_I} {R : cz_R} {L : cz_L} {n w : Nat} {T : Nat → Nat} {d : Int} {wi wr : List Nat} {I0 : cz_I} {R0 : cz_R} {a0 : Nat}
theorem q_putRA {idx ci j k r y : Nat} {b : Bool} (hd : decode (cz_cc M) pc = .ok (.putfield idx, 3)) (hf : cz_fl M.1 idx = some (ci, j, 1, b)) (hk : K k = ci) (hw : (cz_TT ci j).2.2.2 = false ∨ ((cz_nm M).name = "<init>" ∧ b = false ∧ (cz_TT ci j).1 = cz_on M.1)) (hS : St T cn K N d wi wr I0 R0 I R) (t : T k = r) (hwi : wm wr r j = true) (hW : Wf T cn K N I (cz_uR R k j (some y)) d)
    (kk : ∀ R' : cz_R, St T cn K N d wi wr I0 R0 I R' → R' k j = some y → (∀ a i, ¬ (a = k ∧ i = j) → R' a i = R a i) → Tr X M (pc + 3) ls st cn K N I R' L n w) : Tr X M pc ls (.ref y :: .ref k :: st) cn K N I R L n w := by
  refine tr_putR hd hf hk hw (kk _ ⟨hW, hS.2.1, fun b i hb => ?_⟩ uR_at (fun _ _ q => uR_ne q))
  rw [uR_ne]
  · exact hS.2.2 b i hb
  · rintro ⟨rfl, rfl⟩
    rw [t, hwi] at hb; cases hb
end CzAlq
/-! ===== no FAULT is below 0 ===== -/
section CzGe
variable {B : cz_B} {Q : Nat → Int} {s : Int}
theorem spF_ge (B : cz_B) (Q : Nat → Int) (s : Int) : 0 ≤ spF B Q s := by unfold spF; repeat' (first | split | omega)
theorem riF_ge : ∀ (k : Nat) (lo s : Int), 0 ≤ riF B Q k lo s := by
  intro k
  induction k with
  | zero => intro lo s; rw [riF]; repeat' (first | split | omega)
  | succ k ih =>
    intro lo s; rw [riF]
    have h3 := ih (tkV B s + 1) (tkN B (tkN B s))
    repeat' (first | split | omega)
theorem huF_ge : ∀ (k : Nat) (h s : Int), 0 ≤ huF B Q k h s := by
  intro k
  induction k with
  | zero => intro h s; rw [huF]; decide
  | succ k ih =>
    intro h s; rw [huF]
    have h3 := ih (h + pw (tkV B s)) (tkN B (tkN B s))
    repeat' (first | split | omega)
theorem bdF_ge (B : cz_B) (Q : Nat → Int) (k s : Int) : 0 ≤ bdF B Q k s := by
  have a1 := spF_ge B Q s
  have a2 := spF_ge B Q (tkN B s)
  have a3 := spF_ge B Q (tkN B (tkN B (tkN B s)))
  have a4 := riF_ge (B := B) (Q := Q) 8 0 s
  have a5 := huF_ge (B := B) (Q := Q) 901 0 (tkN B (tkN B (tkN B (tkN B (tkN B (tkN B (tkN B (tkN B (tkN B (tkN B (tkN B s)))))))))))
  have e1 : 0 ≤ alF B Q s := by unfold alF; repeat' (first | split | exact om_9a380fa8)
  have e2 : 0 ≤ chF B Q s := by unfold chF; repeat' (first | split | omega)
  have e3 : 0 ≤ caF B Q s := by unfold caF; repeat' (first | split | omega)
  have e4 : 0 ≤ tuF B Q s := by unfold tuF; repeat' (first | split | exact om_378eef0f a3 a5)
  have e5 : 0 ≤ evF B Q k s := by unfold evF; repeat' (first | split | omega)
  unfold bdF
  repeat' (first | split | omega)
theorem lnF_ge (B : cz_B) (Q : Nat → Int) (s : Int) : 0 ≤ lnF B Q s := by
  have h := bdF_ge B Q (srt B s) (tkN B s)
  unfold lnF
  repeat' (first | split | omega)
theorem lsF_ge (B : cz_B) : ∀ (k : Nat) (s : Int) (Q : Nat → Int), 0 ≤ lsF B k s Q := by
  intro k
  induction k with
  | zero => intro s Q; rw [lsF]; decide
  | succ k ih =>
    intro s Q; rw [lsF]
    have h1 := lnF_ge B Q s
    have h2 := ih (tkN B (lnS B Q s)) (lnQ B Q s)
    repeat' (first | split | omega)
end CzGe
def lzddX12_alp_0 : List (Nat × Instr × Nat) := [(0, .aload_n 0, 1), (1, .iconst 0, 1), (2, .putfield 70, 3), (5, .iload_n 1, 1), (6, .ifCond .lt 11, 3), (9, .iload_n 1, 1), (10, .aload_n 0, 1), (11, .getfield 378, 3), (14, .if_icmp .le 9, 3), (17, .aload_n 0, 1), (18, .iconst 2, 1), (19, .invokevirtual 76, 3), (22, .ireturn, 1), (23, .aload_n 0, 1), (24, .iload_n 1, 1), (25, .putfield 84, 3), (28, .aload_n 0, 1), (29, .iconst 0, 1), (30, .putfield 378, 3), (33, .aload_n 0, 1)]
theorem zddX12_alp_0 : dqW lzddX12_alp_0 (cX12_alp.data.toList.drop 0) 0 = true := by decide +kernel
theorem dX12_alp_0 : decode cX12_alp 0 = .ok (.aload_n 0, 1) := dq_get (L := lzddX12_alp_0) 0 rfl zddX12_alp_0 rfl
theorem dX12_alp_1 : decode cX12_alp 1 = .ok (.iconst 0, 1) := dq_get (L := lzddX12_alp_0) 1 rfl zddX12_alp_0 rfl
theorem dX12_alp_2 : decode cX12_alp 2 = .ok (.putfield 70, 3) := dq_get (L := lzddX12_alp_0) 2 rfl zddX12_alp_0 rfl
theorem dX12_alp_5 : decode cX12_alp 5 = .ok (.iload_n 1, 1) := dq_get (L := lzddX12_alp_0) 3 rfl zddX12_alp_0 rfl
theorem dX12_alp_6 : decode cX12_alp 6 = .ok (.ifCond .lt 11, 3) := dq_get (L := lzddX12_alp_0) 4 rfl zddX12_alp_0 rfl
theorem dX12_alp_9 : decode cX12_alp 9 = .ok (.iload_n 1, 1) := dq_get (L := lzddX12_alp_0) 5 rfl zddX12_alp_0 rfl
theorem dX12_alp_10 : decode cX12_alp 10 = .ok (.aload_n 0, 1) := dq_get (L := lzddX12_alp_0) 6 rfl zddX12_alp_0 rfl
theorem dX12_alp_11 : decode cX12_alp 11 = .ok (.getfield 378, 3) := dq_get (L := lzddX12_alp_0) 7 rfl zddX12_alp_0 rfl
theorem dX12_alp_14 : decode cX12_alp 14 = .ok (.if_icmp .le 9, 3) := dq_get (L := lzddX12_alp_0) 8 rfl zddX12_alp_0 rfl
theorem dX12_alp_17 : decode cX12_alp 17 = .ok (.aload_n 0, 1) := dq_get (L := lzddX12_alp_0) 9 rfl zddX12_alp_0 rfl
theorem dX12_alp_18 : decode cX12_alp 18 = .ok (.iconst 2, 1) := dq_get (L := lzddX12_alp_0) 10 rfl zddX12_alp_0 rfl
theorem dX12_alp_19 : decode cX12_alp 19 = .ok (.invokevirtual 76, 3) := dq_get (L := lzddX12_alp_0) 11 rfl zddX12_alp_0 rfl
theorem dX12_alp_22 : decode cX12_alp 22 = .ok (.ireturn, 1) := dq_get (L := lzddX12_alp_0) 12 rfl zddX12_alp_0 rfl
theorem dX12_alp_23 : decode cX12_alp 23 = .ok (.aload_n 0, 1) := dq_get (L := lzddX12_alp_0) 13 rfl zddX12_alp_0 rfl
theorem dX12_alp_24 : decode cX12_alp 24 = .ok (.iload_n 1, 1) := dq_get (L := lzddX12_alp_0) 14 rfl zddX12_alp_0 rfl
theorem dX12_alp_25 : decode cX12_alp 25 = .ok (.putfield 84, 3) := dq_get (L := lzddX12_alp_0) 15 rfl zddX12_alp_0 rfl
theorem dX12_alp_28 : decode cX12_alp 28 = .ok (.aload_n 0, 1) := dq_get (L := lzddX12_alp_0) 16 rfl zddX12_alp_0 rfl
theorem dX12_alp_29 : decode cX12_alp 29 = .ok (.iconst 0, 1) := dq_get (L := lzddX12_alp_0) 17 rfl zddX12_alp_0 rfl
theorem dX12_alp_30 : decode cX12_alp 30 = .ok (.putfield 378, 3) := dq_get (L := lzddX12_alp_0) 18 rfl zddX12_alp_0 rfl
theorem dX12_alp_33 : decode cX12_alp 33 = .ok (.aload_n 0, 1) := dq_get (L := lzddX12_alp_0) 19 rfl zddX12_alp_0 rfl
def lzddX12_alp_34 : List (Nat × Instr × Nat) := [(34, .iconst 0, 1), (35, .putfield 102, 3), (38, .aload_n 0, 1), (39, .iconst 0, 1), (40, .putfield 128, 3), (43, .aload_n 0, 1), (44, .new 193, 3), (47, .dup, 1), (48, .invokespecial 381, 3), (51, .putfield 188, 3), (54, .aload_n 0, 1), (55, .iconst 0, 1), (56, .putfield 99, 3), (59, .aload_n 0, 1), (60, .invokevirtual 142, 3), (63, .aload_n 0, 1), (64, .invokevirtual 382, 3), (67, .aload_n 0, 1), (68, .getfield 128, 3), (71, .ifCond .le 18, 3)]
theorem zddX12_alp_34 : dqW lzddX12_alp_34 (cX12_alp.data.toList.drop 34) 34 = true := by decide +kernel
theorem dX12_alp_34 : decode cX12_alp 34 = .ok (.iconst 0, 1) := dq_get (L := lzddX12_alp_34) 0 rfl zddX12_alp_34 rfl
theorem dX12_alp_35 : decode cX12_alp 35 = .ok (.putfield 102, 3) := dq_get (L := lzddX12_alp_34) 1 rfl zddX12_alp_34 rfl
theorem dX12_alp_38 : decode cX12_alp 38 = .ok (.aload_n 0, 1) := dq_get (L := lzddX12_alp_34) 2 rfl zddX12_alp_34 rfl
theorem dX12_alp_39 : decode cX12_alp 39 = .ok (.iconst 0, 1) := dq_get (L := lzddX12_alp_34) 3 rfl zddX12_alp_34 rfl
theorem dX12_alp_40 : decode cX12_alp 40 = .ok (.putfield 128, 3) := dq_get (L := lzddX12_alp_34) 4 rfl zddX12_alp_34 rfl
theorem dX12_alp_43 : decode cX12_alp 43 = .ok (.aload_n 0, 1) := dq_get (L := lzddX12_alp_34) 5 rfl zddX12_alp_34 rfl
theorem dX12_alp_44 : decode cX12_alp 44 = .ok (.new 193, 3) := dq_get (L := lzddX12_alp_34) 6 rfl zddX12_alp_34 rfl
theorem dX12_alp_47 : decode cX12_alp 47 = .ok (.dup, 1) := dq_get (L := lzddX12_alp_34) 7 rfl zddX12_alp_34 rfl
theorem dX12_alp_48 : decode cX12_alp 48 = .ok (.invokespecial 381, 3) := dq_get (L := lzddX12_alp_34) 8 rfl zddX12_alp_34 rfl
theorem dX12_alp_51 : decode cX12_alp 51 = .ok (.putfield 188, 3) := dq_get (L := lzddX12_alp_34) 9 rfl zddX12_alp_34 rfl
theorem dX12_alp_54 : decode cX12_alp 54 = .ok (.aload_n 0, 1) := dq_get (L := lzddX12_alp_34) 10 rfl zddX12_alp_34 rfl
theorem dX12_alp_55 : decode cX12_alp 55 = .ok (.iconst 0, 1) := dq_get (L := lzddX12_alp_34) 11 rfl zddX12_alp_34 rfl
theorem dX12_alp_56 : decode cX12_alp 56 = .ok (.putfield 99, 3) := dq_get (L := lzddX12_alp_34) 12 rfl zddX12_alp_34 rfl
theorem dX12_alp_59 : decode cX12_alp 59 = .ok (.aload_n 0, 1) := dq_get (L := lzddX12_alp_34) 13 rfl zddX12_alp_34 rfl
theorem dX12_alp_60 : decode cX12_alp 60 = .ok (.invokevirtual 142, 3) := dq_get (L := lzddX12_alp_34) 14 rfl zddX12_alp_34 rfl
theorem dX12_alp_63 : decode cX12_alp 63 = .ok (.aload_n 0, 1) := dq_get (L := lzddX12_alp_34) 15 rfl zddX12_alp_34 rfl
theorem dX12_alp_64 : decode cX12_alp 64 = .ok (.invokevirtual 382, 3) := dq_get (L := lzddX12_alp_34) 16 rfl zddX12_alp_34 rfl
theorem dX12_alp_67 : decode cX12_alp 67 = .ok (.aload_n 0, 1) := dq_get (L := lzddX12_alp_34) 17 rfl zddX12_alp_34 rfl
theorem dX12_alp_68 : decode cX12_alp 68 = .ok (.getfield 128, 3) := dq_get (L := lzddX12_alp_34) 18 rfl zddX12_alp_34 rfl
theorem dX12_alp_71 : decode cX12_alp 71 = .ok (.ifCond .le 18, 3) := dq_get (L := lzddX12_alp_34) 19 rfl zddX12_alp_34 rfl
def lzddX12_alp_74 : List (Nat × Instr × Nat) := [(74, .aload_n 0, 1), (75, .iconst 4, 1), (76, .putfield 73, 3), (79, .aload_n 0, 1), (80, .aload_n 0, 1), (81, .getfield 131, 3), (84, .putfield 9, 3), (87, .iconst (-1), 1), (88, .ireturn, 1), (89, .aload_n 0, 1), (90, .aload_n 0, 1), (91, .getfield 188, 3), (94, .putfield 385, 3), (97, .iconst 0, 1), (98, .istore_n 2, 1), (99, .iload_n 2, 1), (100, .bipush 15, 2), (102, .if_icmp .ge 16, 3), (105, .aload_n 0, 1), (106, .getfield 17, 3)]
theorem zddX12_alp_74 : dqW lzddX12_alp_74 (cX12_alp.data.toList.drop 74) 74 = true := by decide +kernel
theorem dX12_alp_74 : decode cX12_alp 74 = .ok (.aload_n 0, 1) := dq_get (L := lzddX12_alp_74) 0 rfl zddX12_alp_74 rfl
theorem dX12_alp_75 : decode cX12_alp 75 = .ok (.iconst 4, 1) := dq_get (L := lzddX12_alp_74) 1 rfl zddX12_alp_74 rfl
theorem dX12_alp_76 : decode cX12_alp 76 = .ok (.putfield 73, 3) := dq_get (L := lzddX12_alp_74) 2 rfl zddX12_alp_74 rfl
theorem dX12_alp_79 : decode cX12_alp 79 = .ok (.aload_n 0, 1) := dq_get (L := lzddX12_alp_74) 3 rfl zddX12_alp_74 rfl
theorem dX12_alp_80 : decode cX12_alp 80 = .ok (.aload_n 0, 1) := dq_get (L := lzddX12_alp_74) 4 rfl zddX12_alp_74 rfl
theorem dX12_alp_81 : decode cX12_alp 81 = .ok (.getfield 131, 3) := dq_get (L := lzddX12_alp_74) 5 rfl zddX12_alp_74 rfl
theorem dX12_alp_84 : decode cX12_alp 84 = .ok (.putfield 9, 3) := dq_get (L := lzddX12_alp_74) 6 rfl zddX12_alp_74 rfl
theorem dX12_alp_87 : decode cX12_alp 87 = .ok (.iconst (-1), 1) := dq_get (L := lzddX12_alp_74) 7 rfl zddX12_alp_74 rfl
theorem dX12_alp_88 : decode cX12_alp 88 = .ok (.ireturn, 1) := dq_get (L := lzddX12_alp_74) 8 rfl zddX12_alp_74 rfl
theorem dX12_alp_89 : decode cX12_alp 89 = .ok (.aload_n 0, 1) := dq_get (L := lzddX12_alp_74) 9 rfl zddX12_alp_74 rfl
theorem dX12_alp_90 : decode cX12_alp 90 = .ok (.aload_n 0, 1) := dq_get (L := lzddX12_alp_74) 10 rfl zddX12_alp_74 rfl
theorem dX12_alp_91 : decode cX12_alp 91 = .ok (.getfield 188, 3) := dq_get (L := lzddX12_alp_74) 11 rfl zddX12_alp_74 rfl
theorem dX12_alp_94 : decode cX12_alp 94 = .ok (.putfield 385, 3) := dq_get (L := lzddX12_alp_74) 12 rfl zddX12_alp_74 rfl
theorem dX12_alp_97 : decode cX12_alp 97 = .ok (.iconst 0, 1) := dq_get (L := lzddX12_alp_74) 13 rfl zddX12_alp_74 rfl
theorem dX12_alp_98 : decode cX12_alp 98 = .ok (.istore_n 2, 1) := dq_get (L := lzddX12_alp_74) 14 rfl zddX12_alp_74 rfl
theorem dX12_alp_99 : decode cX12_alp 99 = .ok (.iload_n 2, 1) := dq_get (L := lzddX12_alp_74) 15 rfl zddX12_alp_74 rfl
theorem dX12_alp_100 : decode cX12_alp 100 = .ok (.bipush 15, 2) := dq_get (L := lzddX12_alp_74) 16 rfl zddX12_alp_74 rfl
theorem dX12_alp_102 : decode cX12_alp 102 = .ok (.if_icmp .ge 16, 3) := dq_get (L := lzddX12_alp_74) 17 rfl zddX12_alp_74 rfl
theorem dX12_alp_105 : decode cX12_alp 105 = .ok (.aload_n 0, 1) := dq_get (L := lzddX12_alp_74) 18 rfl zddX12_alp_74 rfl
theorem dX12_alp_106 : decode cX12_alp 106 = .ok (.getfield 17, 3) := dq_get (L := lzddX12_alp_74) 19 rfl zddX12_alp_74 rfl
def lzddX12_alp_109 : List (Nat × Instr × Nat) := [(109, .iload_n 2, 1), (110, .iconst 0, 1), (111, .iastore, 1), (112, .iinc 2 1, 3), (115, .goto (-16), 3), (118, .aload_n 0, 1), (119, .iconst 0, 1), (120, .putfield 387, 3), (123, .aload_n 0, 1), (124, .iconst 0, 1), (125, .putfield 390, 3), (128, .aload_n 0, 1), (129, .aload_n 0, 1), (130, .getfield 385, 3), (133, .getfield 224, 3), (136, .invokevirtual 81, 3), (139, .ireturn, 1)]
theorem zddX12_alp_109 : dqW lzddX12_alp_109 (cX12_alp.data.toList.drop 109) 109 = true := by decide +kernel
theorem dX12_alp_109 : decode cX12_alp 109 = .ok (.iload_n 2, 1) := dq_get (L := lzddX12_alp_109) 0 rfl zddX12_alp_109 rfl
theorem dX12_alp_110 : decode cX12_alp 110 = .ok (.iconst 0, 1) := dq_get (L := lzddX12_alp_109) 1 rfl zddX12_alp_109 rfl
theorem dX12_alp_111 : decode cX12_alp 111 = .ok (.iastore, 1) := dq_get (L := lzddX12_alp_109) 2 rfl zddX12_alp_109 rfl
theorem dX12_alp_112 : decode cX12_alp 112 = .ok (.iinc 2 1, 3) := dq_get (L := lzddX12_alp_109) 3 rfl zddX12_alp_109 rfl
theorem dX12_alp_115 : decode cX12_alp 115 = .ok (.goto (-16), 3) := dq_get (L := lzddX12_alp_109) 4 rfl zddX12_alp_109 rfl
theorem dX12_alp_118 : decode cX12_alp 118 = .ok (.aload_n 0, 1) := dq_get (L := lzddX12_alp_109) 5 rfl zddX12_alp_109 rfl
theorem dX12_alp_119 : decode cX12_alp 119 = .ok (.iconst 0, 1) := dq_get (L := lzddX12_alp_109) 6 rfl zddX12_alp_109 rfl
theorem dX12_alp_120 : decode cX12_alp 120 = .ok (.putfield 387, 3) := dq_get (L := lzddX12_alp_109) 7 rfl zddX12_alp_109 rfl
theorem dX12_alp_123 : decode cX12_alp 123 = .ok (.aload_n 0, 1) := dq_get (L := lzddX12_alp_109) 8 rfl zddX12_alp_109 rfl
theorem dX12_alp_124 : decode cX12_alp 124 = .ok (.iconst 0, 1) := dq_get (L := lzddX12_alp_109) 9 rfl zddX12_alp_109 rfl
theorem dX12_alp_125 : decode cX12_alp 125 = .ok (.putfield 390, 3) := dq_get (L := lzddX12_alp_109) 10 rfl zddX12_alp_109 rfl
theorem dX12_alp_128 : decode cX12_alp 128 = .ok (.aload_n 0, 1) := dq_get (L := lzddX12_alp_109) 11 rfl zddX12_alp_109 rfl
theorem dX12_alp_129 : decode cX12_alp 129 = .ok (.aload_n 0, 1) := dq_get (L := lzddX12_alp_109) 12 rfl zddX12_alp_109 rfl
theorem dX12_alp_130 : decode cX12_alp 130 = .ok (.getfield 385, 3) := dq_get (L := lzddX12_alp_109) 13 rfl zddX12_alp_109 rfl
theorem dX12_alp_133 : decode cX12_alp 133 = .ok (.getfield 224, 3) := dq_get (L := lzddX12_alp_109) 14 rfl zddX12_alp_109 rfl
theorem dX12_alp_136 : decode cX12_alp 136 = .ok (.invokevirtual 81, 3) := dq_get (L := lzddX12_alp_109) 15 rfl zddX12_alp_109 rfl
theorem dX12_alp_139 : decode cX12_alp 139 = .ok (.ireturn, 1) := dq_get (L := lzddX12_alp_109) 16 rfl zddX12_alp_109 rfl
