def dcN {α : Type} : List (Nat × α) → Nat → Option (Nat × α)
  | [], _ => none
  | q :: _, 0 => some q
  | _ :: r, i + 1 => dcN r i
/-! ===== instructions by their bytes, one pass a method ===== -/
/-- what the decoder does behind an opcode -/
def dqF (pc : Nat) : { F : Nat → Decoder Instr // Decoder.instr pc = Reader.u1 >>= F } := ⟨_, rfl⟩
section CzDq
variable {c : ByteArray} {p p1 p2 o a b n : Nat} {i : Instr}
theorem dq_u1 {x : UInt8} {l : List UInt8} (h : c.data.toList.drop p = x :: l) : (Reader.u1 : Decoder Nat) c p = .ok (x.toNat, p + 1) ∧ c.data.toList.drop (p + 1) = l := by
  have hl : p < c.data.toList.length := by
    by_cases z : p < c.data.toList.length
    · exact z
    · rw [List.drop_eq_nil_of_le (by exact om_2c776c18 z)] at h; cases h
  have e := List.drop_eq_getElem_cons hl
  rw [h] at e
  obtain ⟨e1, e2⟩ := List.cons.inj e
  have hs : p < c.size := hl
  have e3 : (Reader.u1 : Decoder Nat) c p = (dite (p < c.size) (fun h => (do set (p + 1); pure c[p].toNat : Decoder Nat)) (fun _ => throw (HasTruncated.truncated p))) c p := rfl
  refine ⟨?_, e2.symm⟩
  rw [e3, dif_pos hs, e1]; rfl
theorem dq_bd {α : Type} {m : Decoder α} {f : α → Decoder Instr} {x : α} (h : m c p = .ok (x, p1)) : (m >>= f) c p = f x c p1 := by
  have e : (m >>= f) c p = Except.bind (m c p) (fun x => f x.1 c x.2) := rfl
  rw [e, h]; rfl
theorem dq_u2 (h1 : (Reader.u1 : Decoder Nat) c p = .ok (a, p1)) (h2 : (Reader.u1 : Decoder Nat) c p1 = .ok (b, p2)) : (Reader.u2 : Decoder Nat) c p = .ok (a * 256 + b, p2) := by
  have e : (Reader.u2 : Decoder Nat) c p = Except.bind ((Reader.u1 : Decoder Nat) c p) (fun x => Except.bind ((Reader.u1 : Decoder Nat) c x.2) (fun y => .ok (x.1 * 256 + y.1, y.2))) := rfl
  rw [e, h1]
  show Except.bind ((Reader.u1 : Decoder Nat) c p1) _ = _
  rw [h2]; rfl
theorem dq_s2 (h : (Reader.u2 : Decoder Nat) c p = .ok (a, p1)) : (Reader.s2 : Decoder Int) c p = .ok (Reader.signed 16 a, p1) := by
  have e : (Reader.s2 : Decoder Int) c p = Except.bind ((Reader.u2 : Decoder Nat) c p) (fun x => .ok (Reader.signed 16 x.1, x.2)) := rfl
  rw [e, h]; rfl
theorem dq_s1 (h : (Reader.u1 : Decoder Nat) c p = .ok (a, p1)) : (Reader.s1 : Decoder Int) c p = .ok (Reader.signed 8 a, p1) := by
  have e : (Reader.s1 : Decoder Int) c p = Except.bind ((Reader.u1 : Decoder Nat) c p) (fun x => .ok (Reader.signed 8 x.1, x.2)) := rfl
  rw [e, h]; rfl
theorem dq_run (h : (Reader.u1 : Decoder Nat) c p = .ok (o, p1)) (hF : (dqF p).1 o c p1 = .ok (i, p + n)) : decode c p = .ok (i, n) := by
  have e0 : Decoder.instr p c p = (Reader.u1 >>= (dqF p).1 : Decoder Instr) c p := congrFun (congrFun (dqF p).2 c) p
  have e1 : Decoder.instr p c p = .ok (i, p + n) := e0.trans ((dq_bd h).trans hF)
  have e : decode c p = Except.bind (Decoder.instr p c p) (fun x => .ok (x.1, x.2 - p)) := rfl
  rw [e, e1]
  show Except.ok (i, p + n - p) = _
  rw [Nat.add_sub_cancel_left]
end CzDq
/-- an opcode, how many bytes follow, the instruction they make -/
abbrev dqT : Type := Nat × Nat × (Nat → Nat → Instr)
def dqG (q : dqT) : Prop := ∀ (c : ByteArray) (p a b : Nat), (Reader.u1 : Decoder Nat) c p = .ok (q.1, p + 1) → (1 ≤ q.2.1 → (Reader.u1 : Decoder Nat) c (p + 1) = .ok (a, p + 2)) → (2 ≤ q.2.1 → (Reader.u1 : Decoder Nat) c (p + 2) = .ok (b, p + 3)) → decode c p = .ok (q.2.2 a b, q.2.1 + 1)
theorem dq_0 {o : Nat} {i : Instr} (hF : ∀ p, (dqF p).1 o = Pure.pure i) : dqG (o, 0, fun _ _ => i) := fun c p a b h _ _ => dq_run h (by rw [hF]; rfl)
theorem dq_1 {o : Nat} {g : Nat → Instr} (hF : ∀ p, (dqF p).1 o = (Reader.u1 >>= fun z => Pure.pure (g z))) : dqG (o, 1, fun a _ => g a) := fun c p a b h h1 _ => dq_run h (by rw [hF, dq_bd (h1 (Nat.le_refl 1))]; rfl)
theorem dq_1s {o : Nat} {g : Int → Instr} (hF : ∀ p, (dqF p).1 o = (Reader.s1 >>= fun z => Pure.pure (g z))) : dqG (o, 1, fun a _ => g (Reader.signed 8 a)) := fun c p a b h h1 _ => dq_run h (by rw [hF, dq_bd (dq_s1 (h1 (Nat.le_refl 1)))]; rfl)
theorem dq_2 {o : Nat} {g : Nat → Instr} (hF : ∀ p, (dqF p).1 o = (Reader.u2 >>= fun z => Pure.pure (g z))) : dqG (o, 2, fun a b => g (a * 256 + b)) := fun c p a b h h1 h2 => dq_run h (by rw [hF, dq_bd (dq_u2 (h1 (Nat.le_succ 1)) (h2 (Nat.le_refl 2)))]; rfl)
theorem dq_2s {o : Nat} {g : Int → Instr} (hF : ∀ p, (dqF p).1 o = (Reader.s2 >>= fun z => Pure.pure (g z))) : dqG (o, 2, fun a b => g (Reader.signed 16 (a * 256 + b))) := fun c p a b h h1 h2 => dq_run h (by rw [hF, dq_bd (dq_s2 (dq_u2 (h1 (Nat.le_succ 1)) (h2 (Nat.le_refl 2))))]; rfl)
theorem dq_2i {o : Nat} {g : Nat → Int → Instr} (hF : ∀ p, (dqF p).1 o = (Reader.u1 >>= fun y => Reader.s1 >>= fun z => Pure.pure (g y z))) : dqG (o, 2, fun a b => g a (Reader.signed 8 b)) := fun c p a b h h1 h2 => dq_run h (by rw [hF, dq_bd (h1 (Nat.le_succ 1)), dq_bd (dq_s1 (h2 (Nat.le_refl 2)))]; rfl)
def dqA : List dqT → Prop
  | [] => True
  | q :: r => dqG q ∧ dqA r
def dqX (o : Nat) : List dqT → Option dqT
  | [] => none
  | q :: r => bif Nat.beq q.1 o then some q else dqX o r
theorem dq_X {o : Nat} : ∀ {L : List dqT} {q : dqT}, dqA L → dqX o L = some q → dqG q ∧ q.1 = o
  | [], _, _, h => by cases h
  | x :: r, q, hA, h => by
    have h : (bif Nat.beq x.1 o then some x else dqX o r) = some q := h
    cases z : Nat.beq x.1 o with
    | true => rw [z] at h; cases h; exact ⟨hA.1, Nat.eq_of_beq_eq_true z⟩
    | false => rw [z] at h; exact dq_X hA.2 h
def dqL0 : List dqT := [(42, 0, fun _ _ => .aload_n 0), (180, 2, fun a b => .getfield (a * 256 + b)), (182, 2, fun a b => .invokevirtual (a * 256 + b)), (27, 0, fun _ _ => .iload_n 1), (4, 0, fun _ _ => .iconst 1), (3, 0, fun _ _ => .iconst 0), (172, 0, fun _ _ => .ireturn), (167, 2, fun a b => .goto (Reader.signed 16 (a * 256 + b))), (21, 1, fun a _ => .iload a), (181, 2, fun a b => .putfield (a * 256 + b)), (46, 0, fun _ _ => .iaload), (28, 0, fun _ _ => .iload_n 2)]
theorem dqL0_ok : dqA dqL0 := ⟨dq_0 (fun _ => rfl), dq_2 (g := fun z => .getfield z) (fun _ => rfl), dq_2 (g := fun z => .invokevirtual z) (fun _ => rfl), dq_0 (fun _ => rfl), dq_0 (fun _ => rfl), dq_0 (fun _ => rfl), dq_0 (fun _ => rfl), dq_2s (g := fun z => .goto z) (fun _ => rfl), dq_1 (g := fun z => .iload z) (fun _ => rfl), dq_2 (g := fun z => .putfield z) (fun _ => rfl), dq_0 (fun _ => rfl), dq_0 (fun _ => rfl), trivial⟩
def dqL1 : List dqT := [(96, 0, fun _ _ => .iadd), (16, 1, fun a _ => .bipush (Reader.signed 8 a)), (154, 2, fun a b => .ifCond .ne (Reader.signed 16 (a * 256 + b))), (29, 0, fun _ _ => .iload_n 3), (153, 2, fun a b => .ifCond .eq (Reader.signed 16 (a * 256 + b))), (162, 2, fun a b => .if_icmp .ge (Reader.signed 16 (a * 256 + b))), (132, 2, fun a b => .iinc a (Reader.signed 8 b)), (87, 0, fun _ _ => .pop), (54, 1, fun a _ => .istore a), (160, 2, fun a b => .if_icmp .ne (Reader.signed 16 (a * 256 + b))), (43, 0, fun _ _ => .aload_n 1), (184, 2, fun a b => .invokestatic (a * 256 + b))]
theorem dqL1_ok : dqA dqL1 := ⟨dq_0 (fun _ => rfl), dq_1s (g := fun z => .bipush z) (fun _ => rfl), dq_2s (g := fun z => .ifCond .ne z) (fun _ => rfl), dq_0 (fun _ => rfl), dq_2s (g := fun z => .ifCond .eq z) (fun _ => rfl), dq_2s (g := fun z => .if_icmp .ge z) (fun _ => rfl), dq_2i (g := .iinc) (fun _ => rfl), dq_0 (fun _ => rfl), dq_1 (g := fun z => .istore z) (fun _ => rfl), dq_2s (g := fun z => .if_icmp .ne z) (fun _ => rfl), dq_0 (fun _ => rfl), dq_2 (g := fun z => .invokestatic z) (fun _ => rfl), trivial⟩
def dqL2 : List dqT := [(44, 0, fun _ _ => .aload_n 2), (45, 0, fun _ _ => .aload_n 3), (26, 0, fun _ _ => .iload_n 0), (5, 0, fun _ _ => .iconst 2), (79, 0, fun _ _ => .iastore), (177, 0, fun _ _ => .return_), (100, 0, fun _ _ => .isub), (89, 0, fun _ _ => .dup), (62, 0, fun _ _ => .istore_n 3), (2, 0, fun _ _ => .iconst (-1)), (61, 0, fun _ _ => .istore_n 2), (104, 0, fun _ _ => .imul)]
theorem dqL2_ok : dqA dqL2 := ⟨dq_0 (fun _ => rfl), dq_0 (fun _ => rfl), dq_0 (fun _ => rfl), dq_0 (fun _ => rfl), dq_0 (fun _ => rfl), dq_0 (fun _ => rfl), dq_0 (fun _ => rfl), dq_0 (fun _ => rfl), dq_0 (fun _ => rfl), dq_0 (fun _ => rfl), dq_0 (fun _ => rfl), dq_0 (fun _ => rfl), trivial⟩
def dqL3 : List dqT := [(60, 0, fun _ _ => .istore_n 1), (8, 0, fun _ _ => .iconst 5), (6, 0, fun _ _ => .iconst 3), (51, 0, fun _ _ => .baload), (7, 0, fun _ _ => .iconst 4), (84, 0, fun _ _ => .bastore), (126, 0, fun _ _ => .iand), (50, 0, fun _ _ => .aaload), (120, 0, fun _ _ => .ishl), (92, 0, fun _ _ => .dup2), (176, 0, fun _ _ => .areturn), (128, 0, fun _ _ => .ior)]
theorem dqL3_ok : dqA dqL3 := ⟨dq_0 (fun _ => rfl), dq_0 (fun _ => rfl), dq_0 (fun _ => rfl), dq_0 (fun _ => rfl), dq_0 (fun _ => rfl), dq_0 (fun _ => rfl), dq_0 (fun _ => rfl), dq_0 (fun _ => rfl), dq_0 (fun _ => rfl), dq_0 (fun _ => rfl), dq_0 (fun _ => rfl), dq_0 (fun _ => rfl), trivial⟩
def dqL4 : List dqT := [(130, 0, fun _ _ => .ixor), (31, 0, fun _ _ => .lload_n 1), (83, 0, fun _ _ => .aastore), (78, 0, fun _ _ => .astore_n 3), (97, 0, fun _ _ => .ladd), (124, 0, fun _ _ => .iushr), (64, 0, fun _ _ => .lstore_n 1), (190, 0, fun _ _ => .arraylength), (133, 0, fun _ _ => .i2l), (148, 0, fun _ _ => .lcmp), (122, 0, fun _ _ => .ishr), (77, 0, fun _ _ => .astore_n 2)]
theorem dqL4_ok : dqA dqL4 := ⟨dq_0 (fun _ => rfl), dq_0 (fun _ => rfl), dq_0 (fun _ => rfl), dq_0 (fun _ => rfl), dq_0 (fun _ => rfl), dq_0 (fun _ => rfl), dq_0 (fun _ => rfl), dq_0 (fun _ => rfl), dq_0 (fun _ => rfl), dq_0 (fun _ => rfl), dq_0 (fun _ => rfl), dq_0 (fun _ => rfl), trivial⟩
def dqL5 : List dqT := [(59, 0, fun _ _ => .istore_n 0), (105, 0, fun _ _ => .lmul), (112, 0, fun _ _ => .irem), (76, 0, fun _ _ => .astore_n 1), (80, 0, fun _ _ => .lastore), (9, 0, fun _ _ => .lconst 0), (191, 0, fun _ _ => .athrow), (47, 0, fun _ _ => .laload), (173, 0, fun _ _ => .lreturn), (145, 0, fun _ _ => .i2b), (146, 0, fun _ _ => .i2c), (10, 0, fun _ _ => .lconst 1)]
theorem dqL5_ok : dqA dqL5 := ⟨dq_0 (fun _ => rfl), dq_0 (fun _ => rfl), dq_0 (fun _ => rfl), dq_0 (fun _ => rfl), dq_0 (fun _ => rfl), dq_0 (fun _ => rfl), dq_0 (fun _ => rfl), dq_0 (fun _ => rfl), dq_0 (fun _ => rfl), dq_0 (fun _ => rfl), dq_0 (fun _ => rfl), dq_0 (fun _ => rfl), trivial⟩
def dqL6 : List dqT := [(101, 0, fun _ _ => .lsub), (116, 0, fun _ _ => .ineg), (136, 0, fun _ _ => .l2i), (113, 0, fun _ _ => .lrem), (18, 1, fun a _ => .ldc a), (25, 1, fun a _ => .aload a), (58, 1, fun a _ => .astore a), (183, 2, fun a b => .invokespecial (a * 256 + b)), (19, 2, fun a b => .ldc_w (a * 256 + b)), (187, 2, fun a b => .new (a * 256 + b)), (20, 2, fun a b => .ldc2_w (a * 256 + b)), (189, 2, fun a b => .anewarray (a * 256 + b))]
theorem dqL6_ok : dqA dqL6 := ⟨dq_0 (fun _ => rfl), dq_0 (fun _ => rfl), dq_0 (fun _ => rfl), dq_0 (fun _ => rfl), dq_1 (g := fun z => .ldc z) (fun _ => rfl), dq_1 (g := fun z => .aload z) (fun _ => rfl), dq_1 (g := fun z => .astore z) (fun _ => rfl), dq_2 (g := fun z => .invokespecial z) (fun _ => rfl), dq_2 (g := fun z => .ldc_w z) (fun _ => rfl), dq_2 (g := fun z => .new z) (fun _ => rfl), dq_2 (g := fun z => .ldc2_w z) (fun _ => rfl), dq_2 (g := fun z => .anewarray z) (fun _ => rfl), trivial⟩
def dqL7 : List dqT := [(178, 2, fun a b => .getstatic (a * 256 + b)), (17, 2, fun a b => .sipush (Reader.signed 16 (a * 256 + b))), (159, 2, fun a b => .if_icmp .eq (Reader.signed 16 (a * 256 + b))), (161, 2, fun a b => .if_icmp .lt (Reader.signed 16 (a * 256 + b))), (163, 2, fun a b => .if_icmp .gt (Reader.signed 16 (a * 256 + b))), (155, 2, fun a b => .ifCond .lt (Reader.signed 16 (a * 256 + b))), (199, 2, fun a b => .ifnonnull (Reader.signed 16 (a * 256 + b))), (158, 2, fun a b => .ifCond .le (Reader.signed 16 (a * 256 + b))), (157, 2, fun a b => .ifCond .gt (Reader.signed 16 (a * 256 + b))), (198, 2, fun a b => .ifnull (Reader.signed 16 (a * 256 + b))), (164, 2, fun a b => .if_icmp .le (Reader.signed 16 (a * 256 + b))), (156, 2, fun a b => .ifCond .ge (Reader.signed 16 (a * 256 + b)))]
theorem dqL7_ok : dqA dqL7 := ⟨dq_2 (g := fun z => .getstatic z) (fun _ => rfl), dq_2s (g := fun z => .sipush z) (fun _ => rfl), dq_2s (g := fun z => .if_icmp .eq z) (fun _ => rfl), dq_2s (g := fun z => .if_icmp .lt z) (fun _ => rfl), dq_2s (g := fun z => .if_icmp .gt z) (fun _ => rfl), dq_2s (g := fun z => .ifCond .lt z) (fun _ => rfl), dq_2s (g := fun z => .ifnonnull z) (fun _ => rfl), dq_2s (g := fun z => .ifCond .le z) (fun _ => rfl), dq_2s (g := fun z => .ifCond .gt z) (fun _ => rfl), dq_2s (g := fun z => .ifnull z) (fun _ => rfl), dq_2s (g := fun z => .if_icmp .le z) (fun _ => rfl), dq_2s (g := fun z => .ifCond .ge z) (fun _ => rfl), trivial⟩
theorem dqA_ap {R : List dqT} (hR : dqA R) : ∀ L : List dqT, dqA L → dqA (L ++ R)
  | [], _ => hR
  | _ :: L, h => ⟨h.1, dqA_ap hR L h.2⟩
def dqL : List dqT := dqL0 ++ (dqL1 ++ (dqL2 ++ (dqL3 ++ (dqL4 ++ (dqL5 ++ (dqL6 ++ (dqL7)))))))
theorem dqL_ok : dqA dqL := (dqA_ap (dqA_ap (dqA_ap (dqA_ap (dqA_ap (dqA_ap (dqA_ap dqL7_ok _ dqL6_ok) _ dqL5_ok) _ dqL4_ok) _ dqL3_ok) _ dqL2_ok) _ dqL1_ok) _ dqL0_ok)
/-- n bytes -/
def dqO : Nat → List UInt8 → Option (Nat × Nat × List UInt8)
  | 0, l => some (0, 0, l)
  | 1, a :: l => some (a.toNat, 0, l)
  | 2, a :: b :: l => some (a.toNat, b.toNat, l)
  | _, _ => none
def dqW : List (Nat × Instr × Nat) → List UInt8 → Nat → Bool
  | [], _, _ => true
  | _ :: _, [], _ => false
  | q :: r, o :: l, pc => match dqX o.toNat dqL with
    | none => false
    | some k => match dqO k.2.1 l with
      | none => false
      | some (a, b, l') => Nat.beq q.1 pc && (Nat.beq q.2.2 (k.2.1 + 1) && (decide (k.2.2 a b = q.2.1) && dqW r l' (pc + (k.2.1 + 1))))
theorem dqO_ok {c : ByteArray} {p n a b : Nat} {l l' : List UInt8} (h : c.data.toList.drop p = l) (e : dqO n l = some (a, b, l')) : (1 ≤ n → (Reader.u1 : Decoder Nat) c p = .ok (a, p + 1)) ∧ (2 ≤ n → (Reader.u1 : Decoder Nat) c (p + 1) = .ok (b, p + 2)) ∧ c.data.toList.drop (p + n) = l' := by
  match n, l, h, e with
  | 0, l, h, e => cases e; exact ⟨fun z => absurd z (by decide), fun z => absurd z (by decide), h⟩
  | 1, x :: l, h, e => cases e; obtain ⟨h1, h2⟩ := dq_u1 h; exact ⟨fun _ => h1, fun z => absurd z (by decide), h2⟩
  | 2, x :: y :: l, h, e => cases e; obtain ⟨h1, h2⟩ := dq_u1 h; obtain ⟨h3, h4⟩ := dq_u1 h2; exact ⟨fun _ => h1, fun _ => h3, h4⟩
theorem dq_get {c : ByteArray} : ∀ {L : List (Nat × Instr × Nat)} {l : List UInt8} {p : Nat} (i : Nat) {pc : Nat} {x : Instr × Nat}, c.data.toList.drop p = l → dqW L l p = true → dcN L i = some (pc, x) → decode c pc = .ok x
  | [], _, _, _, _, _, _, _, h => by cases h
  | q :: r, [], _, _, _, _, _, hb, _ => by cases hb
  | q :: r, o :: l, p, i, pc, x, hl, hb, h => by
    obtain ⟨h1, h2⟩ := dq_u1 hl
    have hb : (match dqX o.toNat dqL with
      | none => false
      | some k => match dqO k.2.1 l with
        | none => false
        | some (a, b, l') => Nat.beq q.1 p && (Nat.beq q.2.2 (k.2.1 + 1) && (decide (k.2.2 a b = q.2.1) && dqW r l' (p + (k.2.1 + 1))))) = true := hb
    cases hk : dqX o.toNat dqL with
    | none => rw [hk] at hb; cases hb
    | some k =>
      rw [hk] at hb
      have hb : (match dqO k.2.1 l with
        | none => false
        | some (a, b, l') => Nat.beq q.1 p && (Nat.beq q.2.2 (k.2.1 + 1) && (decide (k.2.2 a b = q.2.1) && dqW r l' (p + (k.2.1 + 1))))) = true := hb
      obtain ⟨hG, ho⟩ := dq_X dqL_ok hk
      cases he : dqO k.2.1 l with
      | none => rw [he] at hb; cases hb
      | some z =>
        obtain ⟨a, b, l'⟩ := z
        rw [he] at hb
        have hb : (Nat.beq q.1 p && (Nat.beq q.2.2 (k.2.1 + 1) && (decide (k.2.2 a b = q.2.1) && dqW r l' (p + (k.2.1 + 1))))) = true := hb
        rw [Bool.and_eq_true, Bool.and_eq_true, Bool.and_eq_true] at hb
        obtain ⟨b1, b2, b3, b4⟩ := hb
        obtain ⟨o1, o2, o3⟩ := dqO_ok h2 he
        match i, h with
        | 0, h =>
          have h : some q = some (pc, x) := h
          cases h
          have e1 : pc = p := Nat.eq_of_beq_eq_true b1
          have e2 : x.2 = k.2.1 + 1 := Nat.eq_of_beq_eq_true b2
          have e3 : k.2.2 a b = x.1 := of_decide_eq_true b3
          rw [e1, hG c p a b (by rw [ho]; exact h1) o1 o2, e3, ← e2]
        | i + 1, h => exact dq_get (L := r) i (by rw [show p + (k.2.1 + 1) = p + 1 + k.2.1 by exact om_4935d6b3]; exact o3) b4 h
/-- one instruction, by its bytes where that is quick -/
def dqV (c : ByteArray) (p : Nat) : Option (Instr × Nat) := match c.data.toList.drop p with
  | [] => none
  | o :: l => match dqX o.toNat dqL with
    | none => none
    | some k => match dqO k.2.1 l with
      | none => none
      | some (a, b, _) => some (k.2.2 a b, k.2.1 + 1)
def dqD (c : ByteArray) (p : Nat) : Except DecodeError (Instr × Nat) := match dqV c p with
  | some x => .ok x
  | none => decode c p
theorem dqV_ok {c : ByteArray} {p : Nat} {x : Instr × Nat} (h : dqV c p = some x) : decode c p = .ok x := by
  unfold dqV at h
  cases hl : c.data.toList.drop p with
  | nil => rw [hl] at h; cases h
  | cons o l =>
    rw [hl] at h
    obtain ⟨h1, h2⟩ := dq_u1 hl
    have h : (match dqX o.toNat dqL with
      | none => none
      | some k => match dqO k.2.1 l with
        | none => none
        | some (a, b, _) => some (k.2.2 a b, k.2.1 + 1)) = some x := h
    cases hk : dqX o.toNat dqL with
    | none => rw [hk] at h; cases h
    | some k =>
      rw [hk] at h
      have h : (match dqO k.2.1 l with
        | none => none
        | some (a, b, _) => some (k.2.2 a b, k.2.1 + 1)) = some x := h
      obtain ⟨hG, ho⟩ := dq_X dqL_ok hk
      cases he : dqO k.2.1 l with
      | none => rw [he] at h; cases h
      | some z =>
        obtain ⟨a, b, l'⟩ := z
        rw [he] at h
        have h : some (k.2.2 a b, k.2.1 + 1) = some x := h
        cases h
        obtain ⟨o1, o2, o3⟩ := dqO_ok h2 he
        exact hG c p a b (by rw [ho]; exact h1) o1 o2
theorem dqD_eq (c : ByteArray) (p : Nat) : dqD c p = decode c p := by
  unfold dqD
  cases h : dqV c p with
  | none => rfl
  | some x => exact (dqV_ok h).symm

/-! ===== the store: kinds 0..12 objects (as vwCl), 13 byte[], 14 int[], 15 long[], 16 boolean[], 17 Call[], 18 Event[], 19 Held[], 20 Minutes[], 21 Turner[]; 99 nothing there ===== -/
abbrev cz_G : Type := va_G × (Nat → ClassId) × (Nat → Nat) × (Nat → Nat)
abbrev cz_al (g : cz_G) : Nat → Nat := g.2.2.1
abbrev cz_sa (g : cz_G) : Nat → Nat := g.2.2.2
/-- a value of the store's machine as the machine has it: a place is an address, a float stands for a String constant (or the script) -/
def cz_rn (g : cz_G) : Value → Value
  | .ref k => .ref (cz_al g k)
  | .float u => .ref (cz_sa g u.toNat)
  | .int x => .int x
  | .long x => .long x
  | .null => .null
  | .double x => .double x
  | .retAddr x => .retAddr x
theorem cz_rn_cat (g : cz_G) (v : Value) : (cz_rn g v).category = v.category := by cases v <;> rfl
theorem cz_rn_sum (g : cz_G) (st : List Value) : ((st.map (cz_rn g)).map fun v => v.category).sum = (st.map fun v => v.category).sum := by
  rw [List.map_map]
  congr 1
  apply List.map_congr_left
  intro v _
  exact cz_rn_cat g v
def cz_on : Nat → String
  | 0 => RX0
  | 1 => RX1
  | 2 => RX2
  | 3 => RX3
  | 4 => RX4
  | 5 => RX5
  | 6 => RX6
  | 7 => RX7
  | 8 => RX8
  | 9 => RX9
  | 10 => RX10
  | 11 => RX11
  | 12 => RX12
  | 13 => RL
  | 14 => RJ6
  | 15 => RJ9
  | 16 => RJ7
  | 17 => RJ0
  | 18 => RJ1
  | 19 => RJ3
  | _ => ""
def cz_TT : Nat → u_T
  | 0 => TX0
  | 1 => TX1
  | 2 => TX2
  | 3 => TX3
  | 4 => TX4
  | 5 => TX5
  | 6 => TX6
  | 7 => TX7
  | 8 => TX8
  | 9 => TX9
  | 10 => TX10
  | 11 => TX11
  | 12 => TX12
  | _ => TX0
def cz_tf : Nat → Nat → FieldType
  | 0 => tyX0
  | 1 => tyX1
  | 2 => tyX2
  | 3 => tyX3
  | 4 => tyX4
  | 5 => tyX5
  | 6 => tyX6
  | 7 => tyX7
  | 8 => tyX8
  | 9 => tyX9
  | 10 => tyX10
  | 11 => tyX11
  | 12 => tyX12
  | _ => tyX0
def cz_nf : Nat → Nat
  | 0 => 15
  | 1 => 4
  | 2 => 4
  | 3 => 5
  | 4 => 2
  | 5 => 12
  | 6 => 4
  | 7 => 17
  | 8 => 12
  | 9 => 6
  | 10 => 18
  | 11 => 33
  | 12 => 36
  | _ => 0
/-- the kind of each field: 0 int, 1 reference, 2 long, 3 boolean -/
def cz_fk : Nat → List Nat
  | 0 => [0, 0, 1, 0, 1, 0, 1, 0, 1, 0, 1, 0, 1, 0, 1]
  | 1 => [0, 0, 0, 0]
  | 2 => [0, 0, 0, 0]
  | 3 => [0, 0, 0, 1, 1]
  | 4 => [0, 1]
  | 5 => [1, 1, 0, 1, 1, 1, 1, 1, 1, 1, 1, 1]
  | 6 => [0, 1, 0, 1]
  | 7 => [1, 0, 0, 0, 0, 2, 0, 0, 0, 0, 1, 3, 3, 1, 1, 0, 0]
  | 8 => [0, 0, 1, 1, 1, 1, 1, 1, 1, 1, 0, 1]
  | 9 => [0, 0, 0, 0, 0, 0]
  | 10 => [1, 0, 1, 1, 1, 3, 1, 1, 1, 3, 1, 3, 1, 1, 1, 0, 0, 0]
  | 11 => [0, 0, 0, 0, 0, 0, 0, 0, 0, 3, 1, 1, 1, 1, 1, 1, 1, 1, 1, 1, 1, 1, 1, 1, 1, 1, 1, 1, 1, 1, 1, 1, 1]
  | 12 => [0, 0, 0, 1, 1, 1, 0, 0, 0, 0, 0, 0, 0, 0, 0, 2, 1, 1, 1, 0, 0, 1, 1, 1, 1, 1, 1, 1, 1, 1, 1, 1, 1, 1, 0, 1]
  | _ => []
def cz_ty : Nat → FieldType
  | 13 => .byte
  | 14 => .int
  | 15 => .long
  | 16 => .boolean
  | 17 => .object RX1
  | 18 => .object RX2
  | 19 => .object RX3
  | 20 => .object RX4
  | _ => .object RX9
/-- the class of what an array of references holds -/
def cz_el : Nat → Nat
  | 17 => 1
  | 18 => 2
  | 19 => 3
  | 20 => 4
  | _ => 9
def cz_tys (g : cz_G) : List (ClassId × FieldType) := (List.range 9).map (fun i => (g.2.1 (13 + i), cz_ty (13 + i)))
abbrev cz_I : Type := Nat → Nat → Int32
abbrev cz_R : Type := Nat → Nat → Option Nat
abbrev cz_L : Type := Nat → Nat → Int64
def cz_uI (I : cz_I) (k j : Nat) (x : Int32) : cz_I := fun a => if a = k then upd (I k) j x else I a
def cz_uR (R : cz_R) (k j : Nat) (x : Option Nat) : cz_R := fun a => if a = k then va_up (R k) j x else R a
def cz_uL (L : cz_L) (k j : Nat) (x : Int64) : cz_L := fun a => if a = k then vp_updL (L k) j x else L a
def cz_fv (g : cz_G) (I : cz_I) (R : cz_R) (L : cz_L) (k j kd : Nat) : Value := if kd = 1 then va_rf ((R k j).map (cz_al g)) else if kd = 2 then .long (L k j) else .int (I k j)
def cz_fs (g : cz_G) (I : cz_I) (R : cz_R) (L : cz_L) (k ci : Nat) : List Value := (cz_fk ci).mapIdx (fun j kd => cz_fv g I R L k j kd)
def cz_ac (g : cz_G) (I : cz_I) (R : cz_R) (L : cz_L) (k kd : Nat) : (Nat → Int32) ⊕ (Nat → Int64) ⊕ (Nat → UInt32) ⊕ (Nat → UInt64) ⊕ (Nat → Option Nat) :=
  if kd = 15 then .inr (.inl (L k)) else if kd < 17 then .inl (I k) else .inr (.inr (.inr (.inr (fun j => (R k j).map (cz_al g)))))
def cz_ce (g : cz_G) (K N : Nat → Nat) (I : cz_I) (R : cz_R) (L : cz_L) (k : Nat) : va_E := if K k < 13 then .inr (K k, cz_fs g I R L k (K k)) else .inl (g.2.1 (K k), N k, cz_ac g I R L k (K k))
def cz_ws (g : cz_G) (c : Nat) (K N : Nat → Nat) (I : cz_I) (R : cz_R) (L : cz_L) : va_W := (List.range c).map (fun k => (cz_al g k, cz_ce g K N I R L k))
/-- the store's picture of the heap; the places that come get the addresses that come -/
def cz_At (g : cz_G) (A : Nat → Prop) (c : Nat) (K N : Nat → Nat) (I : cz_I) (R : cz_R) (L : cz_L) (H : Heap) : Prop :=
  va_P g.1 vwCl (cz_ws g c K N I R L) H ∧ va_D A (cz_ws g c K N I R L) ∧ (∀ i : Nat, cz_al g (c + i) = H.size + i) ∧ ∀ k : Nat, c ≤ k → K k = 99
theorem cz_lt {c : Nat} {K : Nat → Nat} {k kd : Nat} (h99 : ∀ k : Nat, c ≤ k → K k = 99) (hk : K k = kd) (hn : kd ≠ 99) : k < c := by
  rcases Nat.lt_or_ge k c with h | h
  · exact h
  · exact absurd (hk.symm.trans (h99 k h)) hn
theorem cz_get {g : cz_G} {c : Nat} {K N : Nat → Nat} {I : cz_I} {R : cz_R} {L : cz_L} {k : Nat} (hk : k < c) : (cz_ws g c K N I R L)[k]? = some (cz_al g k, cz_ce g K N I R L k) := by
  rw [cz_ws, List.getElem?_map, List.getElem?_range hk]; rfl
theorem cz_len {g : cz_G} {c : Nat} {K N : Nat → Nat} {I : cz_I} {R : cz_R} {L : cz_L} : (cz_ws g c K N I R L).length = c := by simp [cz_ws]
theorem cz_getO {g : cz_G} {c : Nat} {K N : Nat → Nat} {I : cz_I} {R : cz_R} {L : cz_L} {k ci : Nat} (h99 : ∀ k : Nat, c ≤ k → K k = 99) (hK : K k = ci) (hc : ci < 13) : (cz_ws g c K N I R L)[k]? = some (cz_al g k, .inr (ci, cz_fs g I R L k ci)) := by
  rw [cz_get (cz_lt h99 hK (by exact om_9d9864f0 hK hc)), cz_ce, hK, if_pos hc]
theorem cz_getA {g : cz_G} {c : Nat} {K N : Nat → Nat} {I : cz_I} {R : cz_R} {L : cz_L} {k kd : Nat} (h99 : ∀ k : Nat, c ≤ k → K k = 99) (hK : K k = kd) (h1 : 13 ≤ kd) (h2 : kd < 22) : (cz_ws g c K N I R L)[k]? = some (cz_al g k, .inl (g.2.1 kd, N k, cz_ac g I R L k kd)) := by
  rw [cz_get (cz_lt h99 hK (by exact om_bbc25918 h1 h2)), cz_ce, hK, if_neg (by exact om_189aba84 h1 h2)]
theorem cz_tyat (g : cz_G) {kd : Nat} (h1 : 13 ≤ kd) (h2 : kd < 22) : (cz_tys g)[kd - 13]? = some (g.2.1 kd, cz_ty kd) := by
  rw [cz_tys, List.getElem?_map, List.getElem?_range (by exact om_63f218d4 h1 h2), Option.map_some, show 13 + (kd - 13) = kd by exact om_7d324609 h1 h2]
/-- one cell changes -/
theorem cz_set {g : cz_G} {c : Nat} {K N : Nat → Nat} {I I' : cz_I} {R R' : cz_R} {L L' : cz_L} {k : Nat} {e : va_E} (hk : k < c) (he : cz_ce g K N I' R' L' k = e) (ho : ∀ j : Nat, j ≠ k → cz_ce g K N I' R' L' j = cz_ce g K N I R L j) : (cz_ws g c K N I R L).set k (cz_al g k, e) = cz_ws g c K N I' R' L' := by
  apply List.ext_getElem?
  intro i
  rw [List.getElem?_set, cz_len]
  by_cases hi : k = i
  · subst hi
    rw [if_pos rfl, if_pos hk, cz_get hk, he]
  · rw [if_neg hi]
    by_cases hc : i < c
    · rw [cz_get hc, cz_get hc, ho i (Ne.symm hi)]
    · rw [List.getElem?_eq_none (by rw [cz_len]; exact om_2c776c18 hc), List.getElem?_eq_none (by rw [cz_len]; exact om_2c776c18 hc)]
theorem cz_uIn {I : cz_I} {k j a : Nat} {x : Int32} (h : a ≠ k) : cz_uI I k j x a = I a := by simp [cz_uI, h]
theorem cz_uRn {R : cz_R} {k j a : Nat} {x : Option Nat} (h : a ≠ k) : cz_uR R k j x a = R a := by simp [cz_uR, h]
theorem cz_uLn {L : cz_L} {k j a : Nat} {x : Int64} (h : a ≠ k) : cz_uL L k j x a = L a := by simp [cz_uL, h]
theorem cz_uIs {I : cz_I} {k j : Nat} {x : Int32} : cz_uI I k j x k = upd (I k) j x := by simp [cz_uI]
theorem cz_uRs {R : cz_R} {k j : Nat} {x : Option Nat} : cz_uR R k j x k = va_up (R k) j x := by simp [cz_uR]
theorem cz_uLs {L : cz_L} {k j : Nat} {x : Int64} : cz_uL L k j x k = vp_updL (L k) j x := by simp [cz_uL]
/-- other cells stay -/
theorem cz_ceI {g : cz_G} {K N : Nat → Nat} {I I' : cz_I} {R R' : cz_R} {L L' : cz_L} {k : Nat} (h1 : I' k = I k) (h2 : R' k = R k) (h3 : L' k = L k) : cz_ce g K N I' R' L' k = cz_ce g K N I R L k := by
  simp only [cz_ce, cz_fs, cz_fv, cz_ac, h1, h2, h3]
theorem cz_fsI {g : cz_G} {I : cz_I} {R : cz_R} {L : cz_L} {k ci j kd : Nat} {x : Int32} (hk : (cz_fk ci)[j]? = some kd) (h1 : kd ≠ 1) (h2 : kd ≠ 2) : (cz_fs g I R L k ci).set j (.int x) = cz_fs g (cz_uI I k j x) R L k ci := by
  apply List.ext_getElem?
  intro i
  have hj : j < (cz_fk ci).length := (List.getElem?_eq_some_iff.mp hk).1
  rw [List.getElem?_set]
  simp only [cz_fs, List.length_mapIdx, List.getElem?_mapIdx]
  by_cases hi : j = i
  · subst hi
    rw [if_pos rfl, if_pos hj, hk, Option.map_some, cz_fv, if_neg h1, if_neg h2, cz_uIs]
    simp [upd]
  · rw [if_neg hi]
    congr 1
    funext q
    simp only [cz_fv, cz_uIs, upd, if_neg (Ne.symm hi)]
theorem cz_fsR {g : cz_G} {I : cz_I} {R : cz_R} {L : cz_L} {k ci j : Nat} {x : Option Nat} (hk : (cz_fk ci)[j]? = some 1) : (cz_fs g I R L k ci).set j (va_rf (x.map (cz_al g))) = cz_fs g I (cz_uR R k j x) L k ci := by
  apply List.ext_getElem?
  intro i
  have hj : j < (cz_fk ci).length := (List.getElem?_eq_some_iff.mp hk).1
  rw [List.getElem?_set]
  simp only [cz_fs, List.length_mapIdx, List.getElem?_mapIdx]
  by_cases hi : j = i
  · subst hi
    rw [if_pos rfl, if_pos hj, hk, Option.map_some, cz_fv, if_pos rfl, cz_uRs]
    simp [va_up]
  · rw [if_neg hi]
    congr 1
    funext q
    simp only [cz_fv, cz_uRs, va_up, if_neg (Ne.symm hi)]
theorem cz_fsL {g : cz_G} {I : cz_I} {R : cz_R} {L : cz_L} {k ci j : Nat} {x : Int64} (hk : (cz_fk ci)[j]? = some 2) : (cz_fs g I R L k ci).set j (.long x) = cz_fs g I R (cz_uL L k j x) k ci := by
  apply List.ext_getElem?
  intro i
  have hj : j < (cz_fk ci).length := (List.getElem?_eq_some_iff.mp hk).1
  rw [List.getElem?_set]
  simp only [cz_fs, List.length_mapIdx, List.getElem?_mapIdx]
  by_cases hi : j = i
  · subst hi
    rw [if_pos rfl, if_pos hj, hk, Option.map_some, cz_fv, if_neg (by decide), if_pos rfl, cz_uLs]
    simp [vp_updL]
  · rw [if_neg hi]
    congr 1
    funext q
    simp only [cz_fv, cz_uLs, vp_updL, if_neg (Ne.symm hi)]
/-- a new cell -/
theorem cz_push {g : cz_G} {c : Nat} {K N K' N' : Nat → Nat} {I I' : cz_I} {R R' : cz_R} {L L' : cz_L} {e : va_E} (he : cz_ce g K' N' I' R' L' c = e) (ho : ∀ j : Nat, j < c → cz_ce g K' N' I' R' L' j = cz_ce g K N I R L j) : cz_ws g c K N I R L ++ [(cz_al g c, e)] = cz_ws g (c + 1) K' N' I' R' L' := by
  rw [cz_ws, cz_ws, List.range_succ, List.map_append, List.map_cons, List.map_nil, he]
  congr 1
  apply List.map_congr_left
  intro j hj
  rw [ho j (List.mem_range.mp hj)]
/-! ===== words, context, judgement ===== -/
def cz_T : List Cond := lw_tbl.filter goodWord
/-- a method: its class's number, bytes, locals, room, name, result, the places of its longs -/
abbrev cz_M : Type := Nat × ByteArray × Nat × Room × MethodName × Option FieldType × List Nat
abbrev cz_cc (M : cz_M) : ByteArray := M.2.1
abbrev cz_nL (M : cz_M) : Nat := M.2.2.1
abbrev cz_rm (M : cz_M) : Room := M.2.2.2.1
abbrev cz_nm (M : cz_M) : MethodName := M.2.2.2.2.1
abbrev cz_rt (M : cz_M) : Option FieldType := M.2.2.2.2.2.1
abbrev cz_lg (M : cz_M) : List Nat := M.2.2.2.2.2.2
abbrev cz_wd (M : cz_M) : List Cond := .code (cz_nm M) (cz_cc M) (cz_nL M) (cz_rt M) :: cz_T
def cz_NF : List (String × Nat × String × String × String × String) := [("EclipseCheeseModel", 192, "EclipseCheeseModel$Alp", "minutes", "I", "EclipseCheeseModel"), ("EclipseCheeseModel", 263, "EclipseCheeseModel$Alp", "huts", "I", "EclipseCheeseModel"), ("EclipseCheeseModel", 265, "EclipseCheeseModel$Alp", "events", "I", "EclipseCheeseModel"), ("EclipseCheeseModel", 224, "EclipseCheeseModel$Alp", "cheeses", "I", "EclipseCheeseModel"), ("EclipseCheeseModel", 315, "EclipseCheeseModel$Alp", "turners", "I", "EclipseCheeseModel"), ("EclipseCheeseModel", 349, "EclipseCheeseModel$Alp", "calls", "I", "EclipseCheeseModel"), ("EclipseCheeseModel", 370, "EclipseCheeseModel$Alp", "slices", "I", "EclipseCheeseModel"), ("EclipseCheeseModel", 209, "EclipseCheeseModel$Alp", "names", "I", "EclipseCheeseModel"), ("EclipseCheeseModel", 312, "EclipseCheeseModel$Alp", "almanacMany", "I", "EclipseCheeseModel"), ("EclipseCheeseModel", 302, "EclipseCheeseModel$Alp", "hasAlmanac", "Z", "EclipseCheeseModel"), ("EclipseCheeseModel", 260, "EclipseCheeseModel$Alp", "price", "[I", "EclipseCheeseModel"), ("EclipseCheeseModel", 274, "EclipseCheeseModel$Alp", "kind", "[I", "EclipseCheeseModel"), ("EclipseCheeseModel", 277, "EclipseCheeseModel$Alp", "hut", "[I", "EclipseCheeseModel"), ("EclipseCheeseModel", 280, "EclipseCheeseModel$Alp", "from", "[I", "EclipseCheeseModel"), ("EclipseCheeseModel", 283, "EclipseCheeseModel$Alp", "to", "[I", "EclipseCheeseModel"), ("EclipseCheeseModel", 296, "EclipseCheeseModel$Alp", "cheeseHut", "[I", "EclipseCheeseModel"), ("EclipseCheeseModel", 306, "EclipseCheeseModel$Alp", "almanac", "[I", "EclipseCheeseModel"), ("EclipseCheeseModel", 375, "EclipseCheeseModel$Alp", "sliceMany", "[I", "EclipseCheeseModel"), ("EclipseCheeseModel", 373, "EclipseCheeseModel$Alp", "slice", "[I", "EclipseCheeseModel"), ("EclipseCheeseModel", 299, "EclipseCheeseModel$Alp", "isDown", "[Z", "EclipseCheeseModel"), ("EclipseCheeseModel", 333, "EclipseCheeseModel$Alp", "turnerKind", "[I", "EclipseCheeseModel"), ("EclipseCheeseModel", 336, "EclipseCheeseModel$Alp", "turnerFrom", "[I", "EclipseCheeseModel"), ("EclipseCheeseModel", 339, "EclipseCheeseModel$Alp", "turnerTo", "[I", "EclipseCheeseModel"), ("EclipseCheeseModel", 342, "EclipseCheeseModel$Alp", "hands", "[I", "EclipseCheeseModel"), ("EclipseCheeseModel", 344, "EclipseCheeseModel$Alp", "takes", "[I", "EclipseCheeseModel"), ("EclipseCheeseModel", 346, "EclipseCheeseModel$Alp", "turnerHuts", "[I", "EclipseCheeseModel"), ("EclipseCheeseModel", 358, "EclipseCheeseModel$Alp", "callTurner", "[I", "EclipseCheeseModel"), ("EclipseCheeseModel", 361, "EclipseCheeseModel$Alp", "callAt", "[I", "EclipseCheeseModel"), ("EclipseCheeseModel", 364, "EclipseCheeseModel$Alp", "callFor", "[I", "EclipseCheeseModel"), ("EclipseCheeseModel", 367, "EclipseCheeseModel$Alp", "callCosts", "[I", "EclipseCheeseModel"), ("EclipseCheeseModel", 205, "EclipseCheeseModel$Alp", "name", "[J", "EclipseCheeseModel"), ("EclipseCheeseModel", 212, "EclipseCheeseModel$Alp", "nameSort", "[I", "EclipseCheeseModel"), ("EclipseCheeseModel", 215, "EclipseCheeseModel$Alp", "nameNumber", "[I", "EclipseCheeseModel")]
def cz_NM : List (String × Nat × MethodName × String) := [("EclipseCheese$Alp", 26, ⟨"EclipseCheese$Minutes", "<init>", "()V"⟩, "EclipseCheese"), ("EclipseCheese$Alp", 47, ⟨"EclipseCheese$Event", "<init>", "()V"⟩, "EclipseCheese"), ("EclipseCheese$Alp", 48, ⟨"EclipseCheese$Turner", "<init>", "()V"⟩, "EclipseCheese"), ("EclipseCheese$Alp", 49, ⟨"EclipseCheese$Call", "<init>", "()V"⟩, "EclipseCheese"), ("EclipseCheese", 34, ⟨"EclipseCheese$Held", "<init>", "()V"⟩, "EclipseCheese"), ("EclipseCheese$Past", 20, ⟨"EclipseCheese$Held", "<init>", "()V"⟩, "EclipseCheese"), ("EclipseCheese", 48, ⟨"EclipseCheese$Sky", "<init>", "()V"⟩, "EclipseCheese"), ("EclipseCheese$Reader", 275, ⟨"EclipseCheese", "bit", "(II)I"⟩, "EclipseCheese"), ("EclipseCheese$Alp", 78, ⟨"EclipseCheese", "bit", "(II)I"⟩, "EclipseCheese"), ("EclipseCheese$Night", 84, ⟨"EclipseCheese", "bit", "(II)I"⟩, "EclipseCheese"), ("EclipseCheeseModel", 381, ⟨"EclipseCheeseModel$Alp", "<init>", "()V"⟩, "EclipseCheeseModel")]
def cz_AO : List String := ["EclipseCheese$Event", "EclipseCheese$Turner", "EclipseCheese$Call", "EclipseCheese$Minutes", "EclipseCheese$Held"]
/-- String constants: class, entry, text, number of the text -/
def cz_SR : List (String × Nat × String × Nat) := [("EclipseCheese$Reader", 131, "cloud", 7), ("EclipseCheese$Reader", 133, "eclipse", 11), ("EclipseCheese$Reader", 135, "lamp", 17), ("EclipseCheese$Reader", 137, "shutter", 22), ("EclipseCheese$Reader", 139, "bolt", 4), ("EclipseCheese$Reader", 141, "cheese", 6), ("EclipseCheese$Reader", 143, "almanac", 0), ("EclipseCheese$Reader", 145, "turner", 26), ("EclipseCheese$Reader", 147, "call", 5), ("EclipseCheese$Reader", 149, "slice", 23), ("EclipseCheese$Reader", 151, "alp", 1), ("EclipseCheese$Reader", 203, "minutes", 18), ("EclipseCheese$Reader", 204, "huts", 16), ("EclipseCheese$Reader", 205, "prices", 20), ("EclipseCheese$Reader", 238, "down", 10), ("EclipseCheese$Reader", 234, "hut", 15), ("EclipseCheese$Reader", 268, "sees", 21), ("EclipseCheese$Reader", 270, "blind", 3), ("EclipseCheese$Reader", 272, "deaf", 9), ("EclipseCheese$Reader", 253, "from", 13), ("EclipseCheese$Reader", 124, "to", 25), ("EclipseCheese$Reader", 256, "hands", 14), ("EclipseCheese$Reader", 260, "takes", 24), ("EclipseCheese$Reader", 293, "at", 2), ("EclipseCheese$Reader", 297, "for", 12), ("EclipseCheese$Reader", 302, "costs", 8), ("EclipseCheese", 327, "no such cheese missed anything", 19), ("EclipseCheeseModel", 164, "alp", 1), ("EclipseCheeseModel", 248, "minutes", 18), ("EclipseCheeseModel", 253, "huts", 16), ("EclipseCheeseModel", 255, "prices", 20), ("EclipseCheeseModel", 166, "cloud", 7), ("EclipseCheeseModel", 272, "to", 25), ("EclipseCheeseModel", 168, "eclipse", 11), ("EclipseCheeseModel", 170, "lamp", 17), ("EclipseCheeseModel", 172, "shutter", 22), ("EclipseCheeseModel", 174, "bolt", 4), ("EclipseCheeseModel", 176, "cheese", 6), ("EclipseCheeseModel", 178, "almanac", 0), ("EclipseCheeseModel", 180, "turner", 26), ("EclipseCheeseModel", 182, "call", 5), ("EclipseCheeseModel", 184, "slice", 23), ("EclipseCheeseModel", 186, "down", 10), ("EclipseCheeseModel", 289, "hut", 15), ("EclipseCheeseModel", 318, "sees", 21), ("EclipseCheeseModel", 320, "blind", 3), ("EclipseCheeseModel", 322, "deaf", 9), ("EclipseCheeseModel", 324, "from", 13), ("EclipseCheeseModel", 325, "hands", 14), ("EclipseCheeseModel", 327, "takes", 24), ("EclipseCheeseModel", 352, "at", 2), ("EclipseCheeseModel", 354, "for", 12), ("EclipseCheeseModel", 356, "costs", 8)]
def cz_K (g : cz_G) (U : State) : Prop := va_K g.1 vwCl (cz_tys g) U ∧ (∀ q ∈ cz_NF, va_Nw (.fieldLinkNest q.1 q.2.1 q.2.2.1 q.2.2.2.1 q.2.2.2.2.1 q.2.2.2.2.2) U) ∧ (∀ q ∈ cz_NM, va_Nw (.methodLinkNest q.1 q.2.1 q.2.2.1 q.2.2.2) U) ∧ (∀ C ∈ cz_AO, va_AO C U) ∧ ∀ q ∈ cz_SR, vk_R q.1 q.2.1 q.2.2.1 (cz_sa g q.2.2.2) U
theorem cz_K.warm {g : cz_G} {s U : State} (hW : s.WarmedH U.vm) (h : cz_K g s) : cz_K g U :=
  ⟨va_K.moved hW.alike h.1, fun q hq => va_Nw.warmF hW (h.2.1 q hq), fun q hq => va_Nw.warmM hW (h.2.2.1 q hq), fun C hC => va_AO.moved hW.alike (h.2.2.2.1 C hC), fun q hq => vk_R.warm hW (h.2.2.2.2 q hq)⟩
theorem cz_K.same {g : cz_G} {s U : State} (hv : U.vm = s.vm) (h : cz_K g s) : cz_K g U :=
  ⟨va_K.moved (by rw [hv]; exact Vm.Alike.refl s.vm) h.1, fun q hq => va_tabs rfl hv.symm (h.2.1 q hq), fun q hq => va_tabs rfl hv.symm (h.2.2.1 q hq), fun C hC => va_AO.moved (by rw [hv]; exact Vm.Alike.refl s.vm) (h.2.2.2.1 C hC), fun q hq => vk_R.same hv (h.2.2.2.2 q hq)⟩
abbrev cz_X : Type := Program × Launch × Env × State × MethodId × Array Value × List Frame × Method × Code × (Nat → Prop) × (State → Prop) × cz_G
/-- what holds all through a body -/
def cz_ok : cz_X → cz_M → Prop
  | (p, _, _, s, m, args, _, meth, c, A, _, g), M => p.tables.exec = Jvm.exec ∧ c.code = cz_cc M ∧ c.maxLocals = cz_nL M ∧ s.vm.findClass (cz_on M.1) = some m.cls ∧ (∀ w ∈ cz_T, w.before args s = true) ∧ meth.sig.returnType = cz_rt M ∧ meth.locks = false ∧ ((cz_nm M).name = "<init>" → meth.name = "<init>") ∧ cz_K g s ∧ ∀ q : Nat, s.heap.size ≤ q → A q
/-- the locals: unknown where none -/
def cz_lc (g : cz_G) (M : cz_M) (arr : Array Slot) (ls : Nat → Option Value) : Prop := arr.size = cz_nL M ∧ lv_wf arr ∧ (∀ (i : Nat) (v : Value), ls i = some v → arr[i]? = some (.val (cz_rn g v))) ∧ ∀ (i : Nat) (v : Value), ls i = some v → v.category = 2 → i ∈ cz_lg M
/-- THE JUDGEMENT: from here the machine comes to a state with the context's end -/
def Tr : cz_X → cz_M → Nat → (Nat → Option Value) → List Value → Nat → (Nat → Nat) → (Nat → Nat) → cz_I → cz_R → cz_L → Nat → Nat → Prop
  | (p, l, e, s, m, args, below, meth, c, A, Z, g), M, pc, ls, st, cn, K, N, I, R, L, n, w =>
    cz_ok (p, l, e, s, m, args, below, meth, c, A, Z, g) M → ∀ (H : Heap) (locs : List Loc) (arr : Array Slot), cz_At g A cn K N I R L H → va_S A s.heap H locs → cz_lc g M arr ls →
      W p l e (cz_rm M) s m args below meth c H locs n w Z (F0 m pc arr (st.map (cz_rn g)))
section CzRules
variable {X : cz_X} {M : cz_M} {pc : Nat} {ls : Nat → Option Value} {st : List Value} {cn : Nat} {K N : Nat → Nat} {I : cz_I} {R : cz_R} {L : cz_L} {n w : Nat}
theorem tr_iadd {x y : Int32} (hd : decode (cz_cc M) pc = .ok (.iadd, 1)) (k : Tr X M (pc + 1) ls (.int (x + y) :: st) cn K N I R L n w) : Tr X M pc ls (.int y :: .int x :: st) cn K N I R L n w := by
  obtain ⟨p, l, e, s, m, args, below, meth, c, A, Z, g⟩ := X
  intro hC H locs arr hR hS hl
  exact lv_iadd hC.1 hC.2.1 hd (k hC H locs arr hR hS hl)
theorem tr_isub {x y : Int32} (hd : decode (cz_cc M) pc = .ok (.isub, 1)) (k : Tr X M (pc + 1) ls (.int (x - y) :: st) cn K N I R L n w) : Tr X M pc ls (.int y :: .int x :: st) cn K N I R L n w := by
  obtain ⟨p, l, e, s, m, args, below, meth, c, A, Z, g⟩ := X
  intro hC H locs arr hR hS hl
  exact lv_isub hC.1 hC.2.1 hd (k hC H locs arr hR hS hl)
theorem tr_imul {x y : Int32} (hd : decode (cz_cc M) pc = .ok (.imul, 1)) (k : Tr X M (pc + 1) ls (.int (x * y) :: st) cn K N I R L n w) : Tr X M pc ls (.int y :: .int x :: st) cn K N I R L n w := by
  obtain ⟨p, l, e, s, m, args, below, meth, c, A, Z, g⟩ := X
  intro hC H locs arr hR hS hl
  exact lv_imul hC.1 hC.2.1 hd (k hC H locs arr hR hS hl)
theorem tr_iand {x y : Int32} (hd : decode (cz_cc M) pc = .ok (.iand, 1)) (k : Tr X M (pc + 1) ls (.int (x &&& y) :: st) cn K N I R L n w) : Tr X M pc ls (.int y :: .int x :: st) cn K N I R L n w := by
  obtain ⟨p, l, e, s, m, args, below, meth, c, A, Z, g⟩ := X
  intro hC H locs arr hR hS hl
  exact lv_iand hC.1 hC.2.1 hd (k hC H locs arr hR hS hl)
theorem tr_ior {x y : Int32} (hd : decode (cz_cc M) pc = .ok (.ior, 1)) (k : Tr X M (pc + 1) ls (.int (x ||| y) :: st) cn K N I R L n w) : Tr X M pc ls (.int y :: .int x :: st) cn K N I R L n w := by
  obtain ⟨p, l, e, s, m, args, below, meth, c, A, Z, g⟩ := X
  intro hC H locs arr hR hS hl
  exact lv_ior hC.1 hC.2.1 hd (k hC H locs arr hR hS hl)
theorem tr_ixor {x y : Int32} (hd : decode (cz_cc M) pc = .ok (.ixor, 1)) (k : Tr X M (pc + 1) ls (.int (x ^^^ y) :: st) cn K N I R L n w) : Tr X M pc ls (.int y :: .int x :: st) cn K N I R L n w := by
  obtain ⟨p, l, e, s, m, args, below, meth, c, A, Z, g⟩ := X
  intro hC H locs arr hR hS hl
  exact lv_ixor hC.1 hC.2.1 hd (k hC H locs arr hR hS hl)
theorem tr_ishl {x y : Int32} (hd : decode (cz_cc M) pc = .ok (.ishl, 1)) (k : Tr X M (pc + 1) ls (.int (x <<< (y &&& 31)) :: st) cn K N I R L n w) : Tr X M pc ls (.int y :: .int x :: st) cn K N I R L n w := by
  obtain ⟨p, l, e, s, m, args, below, meth, c, A, Z, g⟩ := X
  intro hC H locs arr hR hS hl
  exact lv_ishl hC.1 hC.2.1 hd (k hC H locs arr hR hS hl)
theorem tr_ishr {x y : Int32} (hd : decode (cz_cc M) pc = .ok (.ishr, 1)) (k : Tr X M (pc + 1) ls (.int (x >>> (y &&& 31)) :: st) cn K N I R L n w) : Tr X M pc ls (.int y :: .int x :: st) cn K N I R L n w := by
  obtain ⟨p, l, e, s, m, args, below, meth, c, A, Z, g⟩ := X
  intro hC H locs arr hR hS hl
  exact lv_ishr hC.1 hC.2.1 hd (k hC H locs arr hR hS hl)
theorem tr_iushr {x y : Int32} (hd : decode (cz_cc M) pc = .ok (.iushr, 1)) (k : Tr X M (pc + 1) ls (.int ((x.toUInt32 >>> (y.toUInt32 &&& Int32.toUInt32 31)).toInt32) :: st) cn K N I R L n w) : Tr X M pc ls (.int y :: .int x :: st) cn K N I R L n w := by
  obtain ⟨p, l, e, s, m, args, below, meth, c, A, Z, g⟩ := X
  intro hC H locs arr hR hS hl
  exact lv_iushr hC.1 hC.2.1 hd rfl (k hC H locs arr hR hS hl)
theorem tr_irem {x y : Int32} (hd : decode (cz_cc M) pc = .ok (.irem, 1)) (h0 : ¬ y = 0) (k : Tr X M (pc + 1) ls (.int (x - x / y * y) :: st) cn K N I R L n w) : Tr X M pc ls (.int y :: .int x :: st) cn K N I R L n w := by
  obtain ⟨p, l, e, s, m, args, below, meth, c, A, Z, g⟩ := X
  intro hC H locs arr hR hS hl
  exact lv_irem hC.1 hC.2.1 hd h0 (k hC H locs arr hR hS hl)
theorem tr_ineg {x : Int32} (hd : decode (cz_cc M) pc = .ok (.ineg, 1)) (k : Tr X M (pc + 1) ls (.int (-x) :: st) cn K N I R L n w) : Tr X M pc ls (.int x :: st) cn K N I R L n w := by
  obtain ⟨p, l, e, s, m, args, below, meth, c, A, Z, g⟩ := X
  intro hC H locs arr hR hS hl
  exact lv_ineg hC.1 hC.2.1 hd (k hC H locs arr hR hS hl)
theorem tr_ladd {x y : Int64} (hd : decode (cz_cc M) pc = .ok (.ladd, 1)) (k : Tr X M (pc + 1) ls (.long (x + y) :: st) cn K N I R L n w) : Tr X M pc ls (.long y :: .long x :: st) cn K N I R L n w := by
  obtain ⟨p, l, e, s, m, args, below, meth, c, A, Z, g⟩ := X
  intro hC H locs arr hR hS hl
  exact lv_ladd hC.1 hC.2.1 hd (k hC H locs arr hR hS hl)
theorem tr_lsub {x y : Int64} (hd : decode (cz_cc M) pc = .ok (.lsub, 1)) (k : Tr X M (pc + 1) ls (.long (x - y) :: st) cn K N I R L n w) : Tr X M pc ls (.long y :: .long x :: st) cn K N I R L n w := by
  obtain ⟨p, l, e, s, m, args, below, meth, c, A, Z, g⟩ := X
  intro hC H locs arr hR hS hl
  exact lv_lsub hC.1 hC.2.1 hd (k hC H locs arr hR hS hl)
theorem tr_lmul {x y : Int64} (hd : decode (cz_cc M) pc = .ok (.lmul, 1)) (k : Tr X M (pc + 1) ls (.long (x * y) :: st) cn K N I R L n w) : Tr X M pc ls (.long y :: .long x :: st) cn K N I R L n w := by
  obtain ⟨p, l, e, s, m, args, below, meth, c, A, Z, g⟩ := X
  intro hC H locs arr hR hS hl
  exact lv_lmul hC.1 hC.2.1 hd (k hC H locs arr hR hS hl)
theorem tr_lrem {x y : Int64} (hd : decode (cz_cc M) pc = .ok (.lrem, 1)) (h0 : ¬ y = 0) (k : Tr X M (pc + 1) ls (.long (x - x / y * y) :: st) cn K N I R L n w) : Tr X M pc ls (.long y :: .long x :: st) cn K N I R L n w := by
  obtain ⟨p, l, e, s, m, args, below, meth, c, A, Z, g⟩ := X
  intro hC H locs arr hR hS hl
  exact lv_lrem hC.1 hC.2.1 hd h0 (k hC H locs arr hR hS hl)
theorem tr_lcmp {x y : Int64} (hd : decode (cz_cc M) pc = .ok (.lcmp, 1)) (k : Tr X M (pc + 1) ls (.int (lg_cmp x y) :: st) cn K N I R L n w) : Tr X M pc ls (.long y :: .long x :: st) cn K N I R L n w := by
  obtain ⟨p, l, e, s, m, args, below, meth, c, A, Z, g⟩ := X
  intro hC H locs arr hR hS hl
  exact W.lcmp hC.1 hC.2.1 hd (k hC H locs arr hR hS hl)
theorem tr_i2l {x : Int32} (hd : decode (cz_cc M) pc = .ok (.i2l, 1)) (k : Tr X M (pc + 1) ls (.long x.toInt64 :: st) cn K N I R L n w) : Tr X M pc ls (.int x :: st) cn K N I R L n w := by
  obtain ⟨p, l, e, s, m, args, below, meth, c, A, Z, g⟩ := X
  intro hC H locs arr hR hS hl
  exact lv_i2l hC.1 hC.2.1 hd rfl (k hC H locs arr hR hS hl)
theorem tr_l2i {x : Int64} (hd : decode (cz_cc M) pc = .ok (.l2i, 1)) (k : Tr X M (pc + 1) ls (.int x.toInt32 :: st) cn K N I R L n w) : Tr X M pc ls (.long x :: st) cn K N I R L n w := by
  obtain ⟨p, l, e, s, m, args, below, meth, c, A, Z, g⟩ := X
  intro hC H locs arr hR hS hl
  exact lv_l2i hC.1 hC.2.1 hd rfl (k hC H locs arr hR hS hl)
theorem tr_i2b {x : Int32} (hd : decode (cz_cc M) pc = .ok (.i2b, 1)) (k : Tr X M (pc + 1) ls (.int x.toInt8.toInt32 :: st) cn K N I R L n w) : Tr X M pc ls (.int x :: st) cn K N I R L n w := by
  obtain ⟨p, l, e, s, m, args, below, meth, c, A, Z, g⟩ := X
  intro hC H locs arr hR hS hl
  exact lv_i2b hC.1 hC.2.1 hd rfl (k hC H locs arr hR hS hl)
theorem tr_i2c {x : Int32} (hd : decode (cz_cc M) pc = .ok (.i2c, 1)) (k : Tr X M (pc + 1) ls (.int (x.toUInt32 % 65536).toInt32 :: st) cn K N I R L n w) : Tr X M pc ls (.int x :: st) cn K N I R L n w := by
  obtain ⟨p, l, e, s, m, args, below, meth, c, A, Z, g⟩ := X
  intro hC H locs arr hR hS hl
  exact lv_i2c hC.1 hC.2.1 hd rfl (k hC H locs arr hR hS hl)
theorem tr_iconst {z : Int} {v : Int32} (hd : decode (cz_cc M) pc = .ok (.iconst z, 1)) (hv : Int32.ofInt z = v) (k : Tr X M (pc + 1) ls (.int v :: st) cn K N I R L n w) : Tr X M pc ls (st) cn K N I R L n w := by
  obtain ⟨p, l, e, s, m, args, below, meth, c, A, Z, g⟩ := X
  intro hC H locs arr hR hS hl
  exact lv_iconst hC.1 hC.2.1 hd hv (k hC H locs arr hR hS hl)
theorem tr_bipush {z : Int} {v : Int32} (hd : decode (cz_cc M) pc = .ok (.bipush z, 2)) (hv : (Int8.ofInt z).toInt32 = v) (k : Tr X M (pc + 2) ls (.int v :: st) cn K N I R L n w) : Tr X M pc ls (st) cn K N I R L n w := by
  obtain ⟨p, l, e, s, m, args, below, meth, c, A, Z, g⟩ := X
  intro hC H locs arr hR hS hl
  exact lv_bipush hC.1 hC.2.1 hd hv (k hC H locs arr hR hS hl)
theorem tr_sipush {z : Int} {v : Int32} (hd : decode (cz_cc M) pc = .ok (.sipush z, 3)) (hv : (Int16.ofInt z).toInt32 = v) (k : Tr X M (pc + 3) ls (.int v :: st) cn K N I R L n w) : Tr X M pc ls (st) cn K N I R L n w := by
  obtain ⟨p, l, e, s, m, args, below, meth, c, A, Z, g⟩ := X
  intro hC H locs arr hR hS hl
  exact lv_sipush hC.1 hC.2.1 hd hv (k hC H locs arr hR hS hl)
theorem tr_lconst {z : Fin 2} {v : Int64} (hd : decode (cz_cc M) pc = .ok (.lconst z, 1)) (hv : Int64.ofNat (z : Nat) = v) (k : Tr X M (pc + 1) ls (.long v :: st) cn K N I R L n w) : Tr X M pc ls (st) cn K N I R L n w := by
  obtain ⟨p, l, e, s, m, args, below, meth, c, A, Z, g⟩ := X
  intro hC H locs arr hR hS hl
  exact lv_lconst hC.1 hC.2.1 hd hv (k hC H locs arr hR hS hl)
theorem tr_dup {v : Value} (hd : decode (cz_cc M) pc = .ok (.dup, 1)) (hv : v.category = 1) (k : Tr X M (pc + 1) ls (v :: v :: st) cn K N I R L n w) : Tr X M pc ls (v :: st) cn K N I R L n w := by
  obtain ⟨p, l, e, s, m, args, below, meth, c, A, Z, g⟩ := X
  intro hC H locs arr hR hS hl
  exact lv_dup hC.1 hC.2.1 hd ((cz_rn_cat g v).trans hv) (k hC H locs arr hR hS hl)
theorem tr_pop {v : Value} (hd : decode (cz_cc M) pc = .ok (.pop, 1)) (hv : v.category = 1) (k : Tr X M (pc + 1) ls (st) cn K N I R L n w) : Tr X M pc ls (v :: st) cn K N I R L n w := by
  obtain ⟨p, l, e, s, m, args, below, meth, c, A, Z, g⟩ := X
  intro hC H locs arr hR hS hl
  exact lv_pop hC.1 hC.2.1 hd ((cz_rn_cat g v).trans hv) (k hC H locs arr hR hS hl)
theorem tr_dup2 {v u : Value} (hd : decode (cz_cc M) pc = .ok (.dup2, 1)) (hv : v.category = 1) (hu : u.category = 1) (k : Tr X M (pc + 1) ls (v :: u :: v :: u :: st) cn K N I R L n w) : Tr X M pc ls (v :: u :: st) cn K N I R L n w := by
  obtain ⟨p, l, e, s, m, args, below, meth, c, A, Z, g⟩ := X
  intro hC H locs arr hR hS hl
  exact lv_dup2_11 hC.1 hC.2.1 hd ((cz_rn_cat g v).trans hv) ((cz_rn_cat g u).trans hu) (k hC H locs arr hR hS hl)
theorem tr_iload_n {i : Fin 4} {x : Int32} (hd : decode (cz_cc M) pc = .ok (.iload_n i, 1)) (hv : ls i = some (.int x)) (k : Tr X M (pc + 1) ls (.int x :: st) cn K N I R L n w) : Tr X M pc ls (st) cn K N I R L n w := by
  obtain ⟨p, l, e, s, m, args, below, meth, c, A, Z, g⟩ := X
  intro hC H locs arr hR hS hl
  exact lv_iload_n hC.1 hC.2.1 hd rfl (hl.2.2.1 _ _ hv) (k hC H locs arr hR hS hl)
theorem tr_iload {i : Nat} {x : Int32} (hd : decode (cz_cc M) pc = .ok (.iload i, 2)) (hv : ls i = some (.int x)) (k : Tr X M (pc + 2) ls (.int x :: st) cn K N I R L n w) : Tr X M pc ls (st) cn K N I R L n w := by
  obtain ⟨p, l, e, s, m, args, below, meth, c, A, Z, g⟩ := X
  intro hC H locs arr hR hS hl
  exact lv_iload hC.1 hC.2.1 hd (hl.2.2.1 _ _ hv) (k hC H locs arr hR hS hl)
theorem tr_lload_n {i : Fin 4} {x : Int64} (hd : decode (cz_cc M) pc = .ok (.lload_n i, 1)) (hv : ls i = some (.long x)) (k : Tr X M (pc + 1) ls (.long x :: st) cn K N I R L n w) : Tr X M pc ls (st) cn K N I R L n w := by
  obtain ⟨p, l, e, s, m, args, below, meth, c, A, Z, g⟩ := X
  intro hC H locs arr hR hS hl
  exact lv_lload_n hC.1 hC.2.1 hd rfl (hl.2.2.1 _ _ hv) (k hC H locs arr hR hS hl)
theorem tr_aload_n {i : Fin 4} {x : Nat} (hd : decode (cz_cc M) pc = .ok (.aload_n i, 1)) (hv : ls i = some (.ref x)) (k : Tr X M (pc + 1) ls (.ref x :: st) cn K N I R L n w) : Tr X M pc ls (st) cn K N I R L n w := by
  obtain ⟨p, l, e, s, m, args, below, meth, c, A, Z, g⟩ := X
  intro hC H locs arr hR hS hl
  exact lv_aload_n hC.1 hC.2.1 hd rfl (hl.2.2.1 _ _ hv) (k hC H locs arr hR hS hl)
theorem tr_aload {i x : Nat} (hd : decode (cz_cc M) pc = .ok (.aload i, 2)) (hv : ls i = some (.ref x)) (k : Tr X M (pc + 2) ls (.ref x :: st) cn K N I R L n w) : Tr X M pc ls (st) cn K N I R L n w := by
  obtain ⟨p, l, e, s, m, args, below, meth, c, A, Z, g⟩ := X
  intro hC H locs arr hR hS hl
  exact lv_aload hC.1 hC.2.1 hd (hl.2.2.1 _ _ hv) (k hC H locs arr hR hS hl)
theorem tr_aload_nS {i : Fin 4} {x : UInt32} (hd : decode (cz_cc M) pc = .ok (.aload_n i, 1)) (hv : ls i = some (.float x)) (k : Tr X M (pc + 1) ls (.float x :: st) cn K N I R L n w) : Tr X M pc ls (st) cn K N I R L n w := by
  obtain ⟨p, l, e, s, m, args, below, meth, c, A, Z, g⟩ := X
  intro hC H locs arr hR hS hl
  exact lv_aload_n hC.1 hC.2.1 hd rfl (hl.2.2.1 _ _ hv) (k hC H locs arr hR hS hl)
theorem tr_if_eq {x : Int32} {off : Int} (tgt : Nat) (hd : decode (cz_cc M) pc = .ok (.ifCond .eq off, 3)) (ht : (pc : Int) + off = (tgt : Int)) (kt : x = 0 → Tr X M tgt ls st cn K N I R L n w) (kf : ¬ x = 0 → Tr X M (pc + 3) ls st cn K N I R L n w) : Tr X M pc ls (.int x :: st) cn K N I R L n w := by
  obtain ⟨p, l, e, s, m, args, below, meth, c, A, Z, g⟩ := X
  intro hC H locs arr hR hS hl
  exact lv_if_eq hC.1 hC.2.1 hd ht (fun q => kt q hC H locs arr hR hS hl) (fun q => kf q hC H locs arr hR hS hl)
theorem tr_icmp_eq {x y : Int32} {off : Int} (tgt : Nat) (hd : decode (cz_cc M) pc = .ok (.if_icmp .eq off, 3)) (ht : (pc : Int) + off = (tgt : Int)) (kt : x = y → Tr X M tgt ls st cn K N I R L n w) (kf : ¬ x = y → Tr X M (pc + 3) ls st cn K N I R L n w) : Tr X M pc ls (.int y :: .int x :: st) cn K N I R L n w := by
  obtain ⟨p, l, e, s, m, args, below, meth, c, A, Z, g⟩ := X
  intro hC H locs arr hR hS hl
  exact lv_icmp_eq hC.1 hC.2.1 hd ht (fun q => kt q hC H locs arr hR hS hl) (fun q => kf q hC H locs arr hR hS hl)
theorem tr_if_ne {x : Int32} {off : Int} (tgt : Nat) (hd : decode (cz_cc M) pc = .ok (.ifCond .ne off, 3)) (ht : (pc : Int) + off = (tgt : Int)) (kt : ¬ x = 0 → Tr X M tgt ls st cn K N I R L n w) (kf : x = 0 → Tr X M (pc + 3) ls st cn K N I R L n w) : Tr X M pc ls (.int x :: st) cn K N I R L n w := by
  obtain ⟨p, l, e, s, m, args, below, meth, c, A, Z, g⟩ := X
  intro hC H locs arr hR hS hl
  exact lv_if_ne hC.1 hC.2.1 hd ht (fun q => kt q hC H locs arr hR hS hl) (fun q => kf q hC H locs arr hR hS hl)
theorem tr_icmp_ne {x y : Int32} {off : Int} (tgt : Nat) (hd : decode (cz_cc M) pc = .ok (.if_icmp .ne off, 3)) (ht : (pc : Int) + off = (tgt : Int)) (kt : ¬ x = y → Tr X M tgt ls st cn K N I R L n w) (kf : x = y → Tr X M (pc + 3) ls st cn K N I R L n w) : Tr X M pc ls (.int y :: .int x :: st) cn K N I R L n w := by
  obtain ⟨p, l, e, s, m, args, below, meth, c, A, Z, g⟩ := X
  intro hC H locs arr hR hS hl
  exact lv_icmp_ne hC.1 hC.2.1 hd ht (fun q => kt q hC H locs arr hR hS hl) (fun q => kf q hC H locs arr hR hS hl)
theorem tr_if_lt {x : Int32} {off : Int} (tgt : Nat) (hd : decode (cz_cc M) pc = .ok (.ifCond .lt off, 3)) (ht : (pc : Int) + off = (tgt : Int)) (kt : x < 0 → Tr X M tgt ls st cn K N I R L n w) (kf : ¬ x < 0 → Tr X M (pc + 3) ls st cn K N I R L n w) : Tr X M pc ls (.int x :: st) cn K N I R L n w := by
  obtain ⟨p, l, e, s, m, args, below, meth, c, A, Z, g⟩ := X
  intro hC H locs arr hR hS hl
  exact lv_if_lt hC.1 hC.2.1 hd ht (fun q => kt q hC H locs arr hR hS hl) (fun q => kf q hC H locs arr hR hS hl)
theorem tr_icmp_lt {x y : Int32} {off : Int} (tgt : Nat) (hd : decode (cz_cc M) pc = .ok (.if_icmp .lt off, 3)) (ht : (pc : Int) + off = (tgt : Int)) (kt : x < y → Tr X M tgt ls st cn K N I R L n w) (kf : ¬ x < y → Tr X M (pc + 3) ls st cn K N I R L n w) : Tr X M pc ls (.int y :: .int x :: st) cn K N I R L n w := by
  obtain ⟨p, l, e, s, m, args, below, meth, c, A, Z, g⟩ := X
  intro hC H locs arr hR hS hl
  exact lv_icmp_lt hC.1 hC.2.1 hd ht (fun q => kt q hC H locs arr hR hS hl) (fun q => kf q hC H locs arr hR hS hl)
theorem tr_if_ge {x : Int32} {off : Int} (tgt : Nat) (hd : decode (cz_cc M) pc = .ok (.ifCond .ge off, 3)) (ht : (pc : Int) + off = (tgt : Int)) (kt : 0 ≤ x → Tr X M tgt ls st cn K N I R L n w) (kf : ¬ 0 ≤ x → Tr X M (pc + 3) ls st cn K N I R L n w) : Tr X M pc ls (.int x :: st) cn K N I R L n w := by
  obtain ⟨p, l, e, s, m, args, below, meth, c, A, Z, g⟩ := X
  intro hC H locs arr hR hS hl
  exact lv_if_ge hC.1 hC.2.1 hd ht (fun q => kt q hC H locs arr hR hS hl) (fun q => kf q hC H locs arr hR hS hl)
theorem tr_icmp_ge {x y : Int32} {off : Int} (tgt : Nat) (hd : decode (cz_cc M) pc = .ok (.if_icmp .ge off, 3)) (ht : (pc : Int) + off = (tgt : Int)) (kt : y ≤ x → Tr X M tgt ls st cn K N I R L n w) (kf : ¬ y ≤ x → Tr X M (pc + 3) ls st cn K N I R L n w) : Tr X M pc ls (.int y :: .int x :: st) cn K N I R L n w := by
  obtain ⟨p, l, e, s, m, args, below, meth, c, A, Z, g⟩ := X
  intro hC H locs arr hR hS hl
  exact lv_icmp_ge hC.1 hC.2.1 hd ht (fun q => kt q hC H locs arr hR hS hl) (fun q => kf q hC H locs arr hR hS hl)
theorem tr_if_gt {x : Int32} {off : Int} (tgt : Nat) (hd : decode (cz_cc M) pc = .ok (.ifCond .gt off, 3)) (ht : (pc : Int) + off = (tgt : Int)) (kt : 0 < x → Tr X M tgt ls st cn K N I R L n w) (kf : ¬ 0 < x → Tr X M (pc + 3) ls st cn K N I R L n w) : Tr X M pc ls (.int x :: st) cn K N I R L n w := by
  obtain ⟨p, l, e, s, m, args, below, meth, c, A, Z, g⟩ := X
  intro hC H locs arr hR hS hl
  exact lv_if_gt hC.1 hC.2.1 hd ht (fun q => kt q hC H locs arr hR hS hl) (fun q => kf q hC H locs arr hR hS hl)
theorem tr_icmp_gt {x y : Int32} {off : Int} (tgt : Nat) (hd : decode (cz_cc M) pc = .ok (.if_icmp .gt off, 3)) (ht : (pc : Int) + off = (tgt : Int)) (kt : y < x → Tr X M tgt ls st cn K N I R L n w) (kf : ¬ y < x → Tr X M (pc + 3) ls st cn K N I R L n w) : Tr X M pc ls (.int y :: .int x :: st) cn K N I R L n w := by
  obtain ⟨p, l, e, s, m, args, below, meth, c, A, Z, g⟩ := X
  intro hC H locs arr hR hS hl
  exact lv_icmp_gt hC.1 hC.2.1 hd ht (fun q => kt q hC H locs arr hR hS hl) (fun q => kf q hC H locs arr hR hS hl)
theorem tr_if_le {x : Int32} {off : Int} (tgt : Nat) (hd : decode (cz_cc M) pc = .ok (.ifCond .le off, 3)) (ht : (pc : Int) + off = (tgt : Int)) (kt : x ≤ 0 → Tr X M tgt ls st cn K N I R L n w) (kf : ¬ x ≤ 0 → Tr X M (pc + 3) ls st cn K N I R L n w) : Tr X M pc ls (.int x :: st) cn K N I R L n w := by
  obtain ⟨p, l, e, s, m, args, below, meth, c, A, Z, g⟩ := X
  intro hC H locs arr hR hS hl
  exact lv_if_le hC.1 hC.2.1 hd ht (fun q => kt q hC H locs arr hR hS hl) (fun q => kf q hC H locs arr hR hS hl)
theorem tr_icmp_le {x y : Int32} {off : Int} (tgt : Nat) (hd : decode (cz_cc M) pc = .ok (.if_icmp .le off, 3)) (ht : (pc : Int) + off = (tgt : Int)) (kt : x ≤ y → Tr X M tgt ls st cn K N I R L n w) (kf : ¬ x ≤ y → Tr X M (pc + 3) ls st cn K N I R L n w) : Tr X M pc ls (.int y :: .int x :: st) cn K N I R L n w := by
  obtain ⟨p, l, e, s, m, args, below, meth, c, A, Z, g⟩ := X
  intro hC H locs arr hR hS hl
  exact lv_icmp_le hC.1 hC.2.1 hd ht (fun q => kt q hC H locs arr hR hS hl) (fun q => kf q hC H locs arr hR hS hl)
theorem tr_goto {off : Int} (tgt : Nat) (hd : decode (cz_cc M) pc = .ok (.goto off, 3)) (ht : (pc : Int) + off = (tgt : Int)) (k : Tr X M tgt ls st cn K N I R L n w) : Tr X M pc ls (st) cn K N I R L n w := by
  obtain ⟨p, l, e, s, m, args, below, meth, c, A, Z, g⟩ := X
  intro hC H locs arr hR hS hl
  exact lv_goto hC.1 hC.2.1 hd ht (k hC H locs arr hR hS hl)
theorem tr_ifnonnull {off : Int} {x : Nat} (tgt : Nat) (hd : decode (cz_cc M) pc = .ok (.ifnonnull off, 3)) (ht : (pc : Int) + off = (tgt : Int)) (k : Tr X M tgt ls st cn K N I R L n w) : Tr X M pc ls (.ref x :: st) cn K N I R L n w := by
  obtain ⟨p, l, e, s, m, args, below, meth, c, A, Z, g⟩ := X
  intro hC H locs arr hR hS hl
  exact lv_ifnonnull hC.1 hC.2.1 hd ht (k hC H locs arr hR hS hl)
theorem tr_ifnonnullN {off : Int} (hd : decode (cz_cc M) pc = .ok (.ifnonnull off, 3)) (k : Tr X M (pc + 3) ls (st) cn K N I R L n w) : Tr X M pc ls (.null :: st) cn K N I R L n w := by
  obtain ⟨p, l, e, s, m, args, below, meth, c, A, Z, g⟩ := X
  intro hC H locs arr hR hS hl
  exact lv_ifnonnullN hC.1 hC.2.1 hd (k hC H locs arr hR hS hl)
theorem tr_ifnull {off : Int} {x : Nat} (hd : decode (cz_cc M) pc = .ok (.ifnull off, 3)) (k : Tr X M (pc + 3) ls (st) cn K N I R L n w) : Tr X M pc ls (.ref x :: st) cn K N I R L n w := by
  obtain ⟨p, l, e, s, m, args, below, meth, c, A, Z, g⟩ := X
  intro hC H locs arr hR hS hl
  exact lv_ifnull hC.1 hC.2.1 hd (k hC H locs arr hR hS hl)
theorem tr_ifnullN {off : Int} (tgt : Nat) (hd : decode (cz_cc M) pc = .ok (.ifnull off, 3)) (ht : (pc : Int) + off = (tgt : Int)) (k : Tr X M tgt ls st cn K N I R L n w) : Tr X M pc ls (.null :: st) cn K N I R L n w := by
  obtain ⟨p, l, e, s, m, args, below, meth, c, A, Z, g⟩ := X
  intro hC H locs arr hR hS hl
  exact lv_ifnullN hC.1 hC.2.1 hd ht (k hC H locs arr hR hS hl)
theorem tr_lookup {dflt off : Int} {ps : Array (Int × Int)} {len : Nat} {x : Int32} (tgt : Nat) (hd : decode (cz_cc M) pc = .ok (.lookupswitch dflt ps, len)) (hp : (ps.toList.zip (ps.toList.drop 1)).all (fun (a, next) => a.1 < next.1) = true) (ho : Op.lookupswitch.offset ps.toList dflt x.toInt = off) (ht : (pc : Int) + off = (tgt : Int)) (k : Tr X M tgt ls st cn K N I R L n w) : Tr X M pc ls (.int x :: st) cn K N I R L n w := by
  obtain ⟨p, l, e, s, m, args, below, meth, c, A, Z, g⟩ := X
  intro hC H locs arr hR hS hl
  exact lv_lookup hC.1 hC.2.1 hd hp ho ht (k hC H locs arr hR hS hl)
theorem tr_tabOut {dflt lo hi : Int} {offs : Array Int} {len : Nat} {x : Int32} (tgt : Nat) (hd : decode (cz_cc M) pc = .ok (.tableswitch dflt lo hi offs, len)) (h : x.toInt < lo ∨ hi < x.toInt) (ht : (pc : Int) + dflt = (tgt : Int)) (k : Tr X M tgt ls st cn K N I R L n w) : Tr X M pc ls (.int x :: st) cn K N I R L n w := by
  obtain ⟨p, l, e, s, m, args, below, meth, c, A, Z, g⟩ := X
  intro hC H locs arr hR hS hl
  exact lv_tableOut hC.1 hC.2.1 hd h ht (k hC H locs arr hR hS hl)
theorem tr_tabIn {dflt lo hi off : Int} {offs : Array Int} {len : Nat} {x : Int32} (tgt : Nat) (hd : decode (cz_cc M) pc = .ok (.tableswitch dflt lo hi offs, len)) (h1 : ¬ x.toInt < lo) (h2 : ¬ hi < x.toInt) (ho : offs[(x.toInt - lo).toNat]? = some off) (ht : (pc : Int) + off = (tgt : Int)) (k : Tr X M tgt ls st cn K N I R L n w) : Tr X M pc ls (.int x :: st) cn K N I R L n w := by
  obtain ⟨p, l, e, s, m, args, below, meth, c, A, Z, g⟩ := X
  intro hC H locs arr hR hS hl
  exact lv_tableIn hC.1 hC.2.1 hd h1 h2 ho ht (k hC H locs arr hR hS hl)
end CzRules
