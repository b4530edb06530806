/-- instructions by their places, many in one go -/
def dcB {ε α : Type} [DecidableEq (Except ε α)] (f : Nat → Except ε α) : List (Nat × α) → Bool
  | [] => true
  | q :: r => decide (f q.1 = .ok q.2) && dcB f r
def dcN {α : Type} : List (Nat × α) → Nat → Option (Nat × α)
  | [], _ => none
  | q :: _, 0 => some q
  | _ :: r, i + 1 => dcN r i
theorem dc_get {ε α : Type} [DecidableEq (Except ε α)] {f : Nat → Except ε α} : ∀ {l : List (Nat × α)} (i : Nat) {pc : Nat} {x : α}, dcB f l = true → dcN l i = some (pc, x) → f pc = .ok x
  | [], _, _, _, _, h => by cases h
  | q :: r, 0, pc, x, hb, h => by
    cases h
    have hb : (decide (f pc = .ok x) && dcB f r) = true := hb
    rw [Bool.and_eq_true] at hb
    exact of_decide_eq_true hb.1
  | q :: r, i + 1, pc, x, hb, h => by
    have hb : (decide (f q.1 = .ok q.2) && dcB f r) = true := hb
    rw [Bool.and_eq_true] at hb
    exact dc_get (l := r) i hb.2 h
/-! ===== the store: kinds 0..12 objects (as vwCl), 13 byte[], 14 int[], 15 long[], 16 boolean[], 17 Call[], 18 Event[], 19 Held[], 20 Minutes[], 21 Turner[]; 99 nothing there ===== -/
abbrev cz_G : Type := va_G × (Nat → ClassId) × (Nat → Nat) × (Nat → Nat)
abbrev cz_al (g : cz_G) : Nat → Nat := g.2.2.1
abbrev cz_sa (g : cz_G) : Nat → Nat := g.2.2.2
/-- a value of the store's machine as the machine has it: a place is an address, a float stands for a String constant (or the script) -/
def cz_rn (g : cz_G) : Value → Value
  | .ref k => .ref (cz_al g k)
  | .float u => .ref (cz_sa g u.toNat)
  | .int x => .int x
  | .long x => .long x
  | .null => .null
  | .double x => .double x
  | .retAddr x => .retAddr x
theorem cz_rn_cat (g : cz_G) (v : Value) : (cz_rn g v).category = v.category := by cases v <;> rfl
theorem cz_rn_sum (g : cz_G) (st : List Value) : ((st.map (cz_rn g)).map fun v => v.category).sum = (st.map fun v => v.category).sum := by
  rw [List.map_map]
  congr 1
  apply List.map_congr_left
  intro v _
  exact cz_rn_cat g v
def cz_on : Nat → String
  | 0 => RX0
  | 1 => RX1
  | 2 => RX2
  | 3 => RX3
  | 4 => RX4
  | 5 => RX5
  | 6 => RX6
  | 7 => RX7
  | 8 => RX8
  | 9 => RX9
  | 10 => RX10
  | 11 => RX11
  | 12 => RX12
  | 13 => RL
  | 14 => RJ6
  | 15 => RJ9
  | 16 => RJ7
  | 17 => RJ0
  | 18 => RJ1
  | 19 => RJ3
  | _ => ""
def cz_TT : Nat → u_T
  | 0 => TX0
  | 1 => TX1
  | 2 => TX2
  | 3 => TX3
  | 4 => TX4
  | 5 => TX5
  | 6 => TX6
  | 7 => TX7
  | 8 => TX8
  | 9 => TX9
  | 10 => TX10
  | 11 => TX11
  | 12 => TX12
  | _ => TX0
def cz_tf : Nat → Nat → FieldType
  | 0 => tyX0
  | 1 => tyX1
  | 2 => tyX2
  | 3 => tyX3
  | 4 => tyX4
  | 5 => tyX5
  | 6 => tyX6
  | 7 => tyX7
  | 8 => tyX8
  | 9 => tyX9
  | 10 => tyX10
  | 11 => tyX11
  | 12 => tyX12
  | _ => tyX0
def cz_nf : Nat → Nat
  | 0 => 15
  | 1 => 4
  | 2 => 4
  | 3 => 5
  | 4 => 2
  | 5 => 12
  | 6 => 4
  | 7 => 17
  | 8 => 12
  | 9 => 6
  | 10 => 18
  | 11 => 33
  | 12 => 36
  | _ => 0
/-- the kind of each field: 0 int, 1 reference, 2 long, 3 boolean -/
def cz_fk : Nat → List Nat
  | 0 => [0, 0, 1, 0, 1, 0, 1, 0, 1, 0, 1, 0, 1, 0, 1]
  | 1 => [0, 0, 0, 0]
  | 2 => [0, 0, 0, 0]
  | 3 => [0, 0, 0, 1, 1]
  | 4 => [0, 1]
  | 5 => [1, 1, 0, 1, 1, 1, 1, 1, 1, 1, 1, 1]
  | 6 => [0, 1, 0, 1]
  | 7 => [1, 0, 0, 0, 0, 2, 0, 0, 0, 0, 1, 3, 3, 1, 1, 0, 0]
  | 8 => [0, 0, 1, 1, 1, 1, 1, 1, 1, 1, 0, 1]
  | 9 => [0, 0, 0, 0, 0, 0]
  | 10 => [1, 0, 1, 1, 1, 3, 1, 1, 1, 3, 1, 3, 1, 1, 1, 0, 0, 0]
  | 11 => [0, 0, 0, 0, 0, 0, 0, 0, 0, 3, 1, 1, 1, 1, 1, 1, 1, 1, 1, 1, 1, 1, 1, 1, 1, 1, 1, 1, 1, 1, 1, 1, 1]
  | 12 => [0, 0, 0, 1, 1, 1, 0, 0, 0, 0, 0, 0, 0, 0, 0, 2, 1, 1, 1, 0, 0, 1, 1, 1, 1, 1, 1, 1, 1, 1, 1, 1, 1, 1, 0, 1]
  | _ => []
def cz_ty : Nat → FieldType
  | 13 => .byte
  | 14 => .int
  | 15 => .long
  | 16 => .boolean
  | 17 => .object RX1
  | 18 => .object RX2
  | 19 => .object RX3
  | 20 => .object RX4
  | _ => .object RX9
/-- the class of what an array of references holds -/
def cz_el : Nat → Nat
  | 17 => 1
  | 18 => 2
  | 19 => 3
  | 20 => 4
  | _ => 9
def cz_tys (g : cz_G) : List (ClassId × FieldType) := (List.range 9).map (fun i => (g.2.1 (13 + i), cz_ty (13 + i)))
abbrev cz_I : Type := Nat → Nat → Int32
abbrev cz_R : Type := Nat → Nat → Option Nat
abbrev cz_L : Type := Nat → Nat → Int64
def cz_uI (I : cz_I) (k j : Nat) (x : Int32) : cz_I := fun a => if a = k then upd (I k) j x else I a
def cz_uR (R : cz_R) (k j : Nat) (x : Option Nat) : cz_R := fun a => if a = k then va_up (R k) j x else R a
def cz_uL (L : cz_L) (k j : Nat) (x : Int64) : cz_L := fun a => if a = k then vp_updL (L k) j x else L a
def cz_fv (g : cz_G) (I : cz_I) (R : cz_R) (L : cz_L) (k j kd : Nat) : Value := if kd = 1 then va_rf ((R k j).map (cz_al g)) else if kd = 2 then .long (L k j) else .int (I k j)
def cz_fs (g : cz_G) (I : cz_I) (R : cz_R) (L : cz_L) (k ci : Nat) : List Value := (cz_fk ci).mapIdx (fun j kd => cz_fv g I R L k j kd)
def cz_ac (g : cz_G) (I : cz_I) (R : cz_R) (L : cz_L) (k kd : Nat) : (Nat → Int32) ⊕ (Nat → Int64) ⊕ (Nat → UInt32) ⊕ (Nat → UInt64) ⊕ (Nat → Option Nat) :=
  if kd = 15 then .inr (.inl (L k)) else if kd < 17 then .inl (I k) else .inr (.inr (.inr (.inr (fun j => (R k j).map (cz_al g)))))
def cz_ce (g : cz_G) (K N : Nat → Nat) (I : cz_I) (R : cz_R) (L : cz_L) (k : Nat) : va_E := if K k < 13 then .inr (K k, cz_fs g I R L k (K k)) else .inl (g.2.1 (K k), N k, cz_ac g I R L k (K k))
def cz_ws (g : cz_G) (c : Nat) (K N : Nat → Nat) (I : cz_I) (R : cz_R) (L : cz_L) : va_W := (List.range c).map (fun k => (cz_al g k, cz_ce g K N I R L k))
/-- the store's picture of the heap; the places that come get the addresses that come -/
def cz_At (g : cz_G) (A : Nat → Prop) (c : Nat) (K N : Nat → Nat) (I : cz_I) (R : cz_R) (L : cz_L) (H : Heap) : Prop :=
  va_P g.1 vwCl (cz_ws g c K N I R L) H ∧ va_D A (cz_ws g c K N I R L) ∧ (∀ i : Nat, cz_al g (c + i) = H.size + i) ∧ ∀ k : Nat, c ≤ k → K k = 99
theorem cz_lt {c : Nat} {K : Nat → Nat} {k kd : Nat} (h99 : ∀ k : Nat, c ≤ k → K k = 99) (hk : K k = kd) (hn : kd ≠ 99) : k < c := by
  rcases Nat.lt_or_ge k c with h | h
  · exact h
  · exact absurd (hk.symm.trans (h99 k h)) hn
theorem cz_get {g : cz_G} {c : Nat} {K N : Nat → Nat} {I : cz_I} {R : cz_R} {L : cz_L} {k : Nat} (hk : k < c) : (cz_ws g c K N I R L)[k]? = some (cz_al g k, cz_ce g K N I R L k) := by
  rw [cz_ws, List.getElem?_map, List.getElem?_range hk]; rfl
theorem cz_len {g : cz_G} {c : Nat} {K N : Nat → Nat} {I : cz_I} {R : cz_R} {L : cz_L} : (cz_ws g c K N I R L).length = c := by simp [cz_ws]
theorem cz_getO {g : cz_G} {c : Nat} {K N : Nat → Nat} {I : cz_I} {R : cz_R} {L : cz_L} {k ci : Nat} (h99 : ∀ k : Nat, c ≤ k → K k = 99) (hK : K k = ci) (hc : ci < 13) : (cz_ws g c K N I R L)[k]? = some (cz_al g k, .inr (ci, cz_fs g I R L k ci)) := by
  rw [cz_get (cz_lt h99 hK (by omega)), cz_ce, hK, if_pos hc]
theorem cz_getA {g : cz_G} {c : Nat} {K N : Nat → Nat} {I : cz_I} {R : cz_R} {L : cz_L} {k kd : Nat} (h99 : ∀ k : Nat, c ≤ k → K k = 99) (hK : K k = kd) (h1 : 13 ≤ kd) (h2 : kd < 22) : (cz_ws g c K N I R L)[k]? = some (cz_al g k, .inl (g.2.1 kd, N k, cz_ac g I R L k kd)) := by
  rw [cz_get (cz_lt h99 hK (by omega)), cz_ce, hK, if_neg (by omega)]
theorem cz_tyat (g : cz_G) {kd : Nat} (h1 : 13 ≤ kd) (h2 : kd < 22) : (cz_tys g)[kd - 13]? = some (g.2.1 kd, cz_ty kd) := by
  rw [cz_tys, List.getElem?_map, List.getElem?_range (by omega), Option.map_some, show 13 + (kd - 13) = kd by omega]
/-- one cell changes -/
theorem cz_set {g : cz_G} {c : Nat} {K N : Nat → Nat} {I I' : cz_I} {R R' : cz_R} {L L' : cz_L} {k : Nat} {e : va_E} (hk : k < c) (he : cz_ce g K N I' R' L' k = e) (ho : ∀ j : Nat, j ≠ k → cz_ce g K N I' R' L' j = cz_ce g K N I R L j) : (cz_ws g c K N I R L).set k (cz_al g k, e) = cz_ws g c K N I' R' L' := by
  apply List.ext_getElem?
  intro i
  rw [List.getElem?_set, cz_len]
  by_cases hi : k = i
  · subst hi
    rw [if_pos rfl, if_pos hk, cz_get hk, he]
  · rw [if_neg hi]
    by_cases hc : i < c
    · rw [cz_get hc, cz_get hc, ho i (Ne.symm hi)]
    · rw [List.getElem?_eq_none (by rw [cz_len]; omega), List.getElem?_eq_none (by rw [cz_len]; omega)]
theorem cz_uIn {I : cz_I} {k j a : Nat} {x : Int32} (h : a ≠ k) : cz_uI I k j x a = I a := by simp [cz_uI, h]
theorem cz_uRn {R : cz_R} {k j a : Nat} {x : Option Nat} (h : a ≠ k) : cz_uR R k j x a = R a := by simp [cz_uR, h]
theorem cz_uLn {L : cz_L} {k j a : Nat} {x : Int64} (h : a ≠ k) : cz_uL L k j x a = L a := by simp [cz_uL, h]
theorem cz_uIs {I : cz_I} {k j : Nat} {x : Int32} : cz_uI I k j x k = upd (I k) j x := by simp [cz_uI]
theorem cz_uRs {R : cz_R} {k j : Nat} {x : Option Nat} : cz_uR R k j x k = va_up (R k) j x := by simp [cz_uR]
theorem cz_uLs {L : cz_L} {k j : Nat} {x : Int64} : cz_uL L k j x k = vp_updL (L k) j x := by simp [cz_uL]
/-- other cells stay -/
theorem cz_ceI {g : cz_G} {K N : Nat → Nat} {I I' : cz_I} {R R' : cz_R} {L L' : cz_L} {k : Nat} (h1 : I' k = I k) (h2 : R' k = R k) (h3 : L' k = L k) : cz_ce g K N I' R' L' k = cz_ce g K N I R L k := by
  simp only [cz_ce, cz_fs, cz_fv, cz_ac, h1, h2, h3]
theorem cz_fsI {g : cz_G} {I : cz_I} {R : cz_R} {L : cz_L} {k ci j kd : Nat} {x : Int32} (hk : (cz_fk ci)[j]? = some kd) (h1 : kd ≠ 1) (h2 : kd ≠ 2) : (cz_fs g I R L k ci).set j (.int x) = cz_fs g (cz_uI I k j x) R L k ci := by
  apply List.ext_getElem?
  intro i
  have hj : j < (cz_fk ci).length := (List.getElem?_eq_some_iff.mp hk).1
  rw [List.getElem?_set]
  simp only [cz_fs, List.length_mapIdx, List.getElem?_mapIdx]
  by_cases hi : j = i
  · subst hi
    rw [if_pos rfl, if_pos hj, hk, Option.map_some, cz_fv, if_neg h1, if_neg h2, cz_uIs]
    simp [upd]
  · rw [if_neg hi]
    congr 1
    funext q
    simp only [cz_fv, cz_uIs, upd, if_neg (Ne.symm hi)]
theorem cz_fsR {g : cz_G} {I : cz_I} {R : cz_R} {L : cz_L} {k ci j : Nat} {x : Option Nat} (hk : (cz_fk ci)[j]? = some 1) : (cz_fs g I R L k ci).set j (va_rf (x.map (cz_al g))) = cz_fs g I (cz_uR R k j x) L k ci := by
  apply List.ext_getElem?
  intro i
  have hj : j < (cz_fk ci).length := (List.getElem?_eq_some_iff.mp hk).1
  rw [List.getElem?_set]
  simp only [cz_fs, List.length_mapIdx, List.getElem?_mapIdx]
  by_cases hi : j = i
  · subst hi
    rw [if_pos rfl, if_pos hj, hk, Option.map_some, cz_fv, if_pos rfl, cz_uRs]
    simp [va_up]
  · rw [if_neg hi]
    congr 1
    funext q
    simp only [cz_fv, cz_uRs, va_up, if_neg (Ne.symm hi)]
theorem cz_fsL {g : cz_G} {I : cz_I} {R : cz_R} {L : cz_L} {k ci j : Nat} {x : Int64} (hk : (cz_fk ci)[j]? = some 2) : (cz_fs g I R L k ci).set j (.long x) = cz_fs g I R (cz_uL L k j x) k ci := by
  apply List.ext_getElem?
  intro i
  have hj : j < (cz_fk ci).length := (List.getElem?_eq_some_iff.mp hk).1
  rw [List.getElem?_set]
  simp only [cz_fs, List.length_mapIdx, List.getElem?_mapIdx]
  by_cases hi : j = i
  · subst hi
    rw [if_pos rfl, if_pos hj, hk, Option.map_some, cz_fv, if_neg (by decide), if_pos rfl, cz_uLs]
    simp [vp_updL]
  · rw [if_neg hi]
    congr 1
    funext q
    simp only [cz_fv, cz_uLs, vp_updL, if_neg (Ne.symm hi)]
/-- a new cell -/
theorem cz_push {g : cz_G} {c : Nat} {K N K' N' : Nat → Nat} {I I' : cz_I} {R R' : cz_R} {L L' : cz_L} {e : va_E} (he : cz_ce g K' N' I' R' L' c = e) (ho : ∀ j : Nat, j < c → cz_ce g K' N' I' R' L' j = cz_ce g K N I R L j) : cz_ws g c K N I R L ++ [(cz_al g c, e)] = cz_ws g (c + 1) K' N' I' R' L' := by
  rw [cz_ws, cz_ws, List.range_succ, List.map_append, List.map_cons, List.map_nil, he]
  congr 1
  apply List.map_congr_left
  intro j hj
  rw [ho j (List.mem_range.mp hj)]
/-! ===== words, context, judgement ===== -/
def cz_T : List Cond := lw_tbl.filter goodWord
/-- a method: its class's number, bytes, locals, room, name, result, the places of its longs -/
abbrev cz_M : Type := Nat × ByteArray × Nat × Room × MethodName × Option FieldType × List Nat
abbrev cz_cc (M : cz_M) : ByteArray := M.2.1
abbrev cz_nL (M : cz_M) : Nat := M.2.2.1
abbrev cz_rm (M : cz_M) : Room := M.2.2.2.1
abbrev cz_nm (M : cz_M) : MethodName := M.2.2.2.2.1
abbrev cz_rt (M : cz_M) : Option FieldType := M.2.2.2.2.2.1
abbrev cz_lg (M : cz_M) : List Nat := M.2.2.2.2.2.2
abbrev cz_wd (M : cz_M) : List Cond := .code (cz_nm M) (cz_cc M) (cz_nL M) (cz_rt M) :: cz_T
def cz_NF : List (String × Nat × String × String × String × String) := [("EclipseCheeseModel", 192, "EclipseCheeseModel$Alp", "minutes", "I", "EclipseCheeseModel"), ("EclipseCheeseModel", 263, "EclipseCheeseModel$Alp", "huts", "I", "EclipseCheeseModel"), ("EclipseCheeseModel", 265, "EclipseCheeseModel$Alp", "events", "I", "EclipseCheeseModel"), ("EclipseCheeseModel", 224, "EclipseCheeseModel$Alp", "cheeses", "I", "EclipseCheeseModel"), ("EclipseCheeseModel", 315, "EclipseCheeseModel$Alp", "turners", "I", "EclipseCheeseModel"), ("EclipseCheeseModel", 349, "EclipseCheeseModel$Alp", "calls", "I", "EclipseCheeseModel"), ("EclipseCheeseModel", 370, "EclipseCheeseModel$Alp", "slices", "I", "EclipseCheeseModel"), ("EclipseCheeseModel", 209, "EclipseCheeseModel$Alp", "names", "I", "EclipseCheeseModel"), ("EclipseCheeseModel", 312, "EclipseCheeseModel$Alp", "almanacMany", "I", "EclipseCheeseModel"), ("EclipseCheeseModel", 302, "EclipseCheeseModel$Alp", "hasAlmanac", "Z", "EclipseCheeseModel"), ("EclipseCheeseModel", 260, "EclipseCheeseModel$Alp", "price", "[I", "EclipseCheeseModel"), ("EclipseCheeseModel", 274, "EclipseCheeseModel$Alp", "kind", "[I", "EclipseCheeseModel"), ("EclipseCheeseModel", 277, "EclipseCheeseModel$Alp", "hut", "[I", "EclipseCheeseModel"), ("EclipseCheeseModel", 280, "EclipseCheeseModel$Alp", "from", "[I", "EclipseCheeseModel"), ("EclipseCheeseModel", 283, "EclipseCheeseModel$Alp", "to", "[I", "EclipseCheeseModel"), ("EclipseCheeseModel", 296, "EclipseCheeseModel$Alp", "cheeseHut", "[I", "EclipseCheeseModel"), ("EclipseCheeseModel", 306, "EclipseCheeseModel$Alp", "almanac", "[I", "EclipseCheeseModel"), ("EclipseCheeseModel", 375, "EclipseCheeseModel$Alp", "sliceMany", "[I", "EclipseCheeseModel"), ("EclipseCheeseModel", 373, "EclipseCheeseModel$Alp", "slice", "[I", "EclipseCheeseModel"), ("EclipseCheeseModel", 299, "EclipseCheeseModel$Alp", "isDown", "[Z", "EclipseCheeseModel"), ("EclipseCheeseModel", 333, "EclipseCheeseModel$Alp", "turnerKind", "[I", "EclipseCheeseModel"), ("EclipseCheeseModel", 336, "EclipseCheeseModel$Alp", "turnerFrom", "[I", "EclipseCheeseModel"), ("EclipseCheeseModel", 339, "EclipseCheeseModel$Alp", "turnerTo", "[I", "EclipseCheeseModel"), ("EclipseCheeseModel", 342, "EclipseCheeseModel$Alp", "hands", "[I", "EclipseCheeseModel"), ("EclipseCheeseModel", 344, "EclipseCheeseModel$Alp", "takes", "[I", "EclipseCheeseModel"), ("EclipseCheeseModel", 346, "EclipseCheeseModel$Alp", "turnerHuts", "[I", "EclipseCheeseModel"), ("EclipseCheeseModel", 358, "EclipseCheeseModel$Alp", "callTurner", "[I", "EclipseCheeseModel"), ("EclipseCheeseModel", 361, "EclipseCheeseModel$Alp", "callAt", "[I", "EclipseCheeseModel"), ("EclipseCheeseModel", 364, "EclipseCheeseModel$Alp", "callFor", "[I", "EclipseCheeseModel"), ("EclipseCheeseModel", 367, "EclipseCheeseModel$Alp", "callCosts", "[I", "EclipseCheeseModel"), ("EclipseCheeseModel", 205, "EclipseCheeseModel$Alp", "name", "[J", "EclipseCheeseModel"), ("EclipseCheeseModel", 212, "EclipseCheeseModel$Alp", "nameSort", "[I", "EclipseCheeseModel"), ("EclipseCheeseModel", 215, "EclipseCheeseModel$Alp", "nameNumber", "[I", "EclipseCheeseModel")]
def cz_NM : List (String × Nat × MethodName × String) := [("EclipseCheese$Alp", 26, ⟨"EclipseCheese$Minutes", "<init>", "()V"⟩, "EclipseCheese"), ("EclipseCheese$Alp", 47, ⟨"EclipseCheese$Event", "<init>", "()V"⟩, "EclipseCheese"), ("EclipseCheese$Alp", 48, ⟨"EclipseCheese$Turner", "<init>", "()V"⟩, "EclipseCheese"), ("EclipseCheese$Alp", 49, ⟨"EclipseCheese$Call", "<init>", "()V"⟩, "EclipseCheese"), ("EclipseCheese", 34, ⟨"EclipseCheese$Held", "<init>", "()V"⟩, "EclipseCheese"), ("EclipseCheese$Past", 20, ⟨"EclipseCheese$Held", "<init>", "()V"⟩, "EclipseCheese"), ("EclipseCheese", 48, ⟨"EclipseCheese$Sky", "<init>", "()V"⟩, "EclipseCheese"), ("EclipseCheese$Reader", 275, ⟨"EclipseCheese", "bit", "(II)I"⟩, "EclipseCheese"), ("EclipseCheese$Alp", 78, ⟨"EclipseCheese", "bit", "(II)I"⟩, "EclipseCheese"), ("EclipseCheese$Night", 84, ⟨"EclipseCheese", "bit", "(II)I"⟩, "EclipseCheese"), ("EclipseCheeseModel", 381, ⟨"EclipseCheeseModel$Alp", "<init>", "()V"⟩, "EclipseCheeseModel")]
def cz_AO : List String := ["EclipseCheese$Event", "EclipseCheese$Turner", "EclipseCheese$Call", "EclipseCheese$Minutes", "EclipseCheese$Held"]
/-- String constants: class, entry, text, number of the text -/
def cz_SR : List (String × Nat × String × Nat) := [("EclipseCheese$Reader", 131, "cloud", 7), ("EclipseCheese$Reader", 133, "eclipse", 11), ("EclipseCheese$Reader", 135, "lamp", 17), ("EclipseCheese$Reader", 137, "shutter", 22), ("EclipseCheese$Reader", 139, "bolt", 4), ("EclipseCheese$Reader", 141, "cheese", 6), ("EclipseCheese$Reader", 143, "almanac", 0), ("EclipseCheese$Reader", 145, "turner", 26), ("EclipseCheese$Reader", 147, "call", 5), ("EclipseCheese$Reader", 149, "slice", 23), ("EclipseCheese$Reader", 151, "alp", 1), ("EclipseCheese$Reader", 203, "minutes", 18), ("EclipseCheese$Reader", 204, "huts", 16), ("EclipseCheese$Reader", 205, "prices", 20), ("EclipseCheese$Reader", 238, "down", 10), ("EclipseCheese$Reader", 234, "hut", 15), ("EclipseCheese$Reader", 268, "sees", 21), ("EclipseCheese$Reader", 270, "blind", 3), ("EclipseCheese$Reader", 272, "deaf", 9), ("EclipseCheese$Reader", 253, "from", 13), ("EclipseCheese$Reader", 124, "to", 25), ("EclipseCheese$Reader", 256, "hands", 14), ("EclipseCheese$Reader", 260, "takes", 24), ("EclipseCheese$Reader", 293, "at", 2), ("EclipseCheese$Reader", 297, "for", 12), ("EclipseCheese$Reader", 302, "costs", 8), ("EclipseCheese", 327, "no such cheese missed anything", 19), ("EclipseCheeseModel", 164, "alp", 1), ("EclipseCheeseModel", 248, "minutes", 18), ("EclipseCheeseModel", 253, "huts", 16), ("EclipseCheeseModel", 255, "prices", 20), ("EclipseCheeseModel", 166, "cloud", 7), ("EclipseCheeseModel", 272, "to", 25), ("EclipseCheeseModel", 168, "eclipse", 11), ("EclipseCheeseModel", 170, "lamp", 17), ("EclipseCheeseModel", 172, "shutter", 22), ("EclipseCheeseModel", 174, "bolt", 4), ("EclipseCheeseModel", 176, "cheese", 6), ("EclipseCheeseModel", 178, "almanac", 0), ("EclipseCheeseModel", 180, "turner", 26), ("EclipseCheeseModel", 182, "call", 5), ("EclipseCheeseModel", 184, "slice", 23), ("EclipseCheeseModel", 186, "down", 10), ("EclipseCheeseModel", 289, "hut", 15), ("EclipseCheeseModel", 318, "sees", 21), ("EclipseCheeseModel", 320, "blind", 3), ("EclipseCheeseModel", 322, "deaf", 9), ("EclipseCheeseModel", 324, "from", 13), ("EclipseCheeseModel", 325, "hands", 14), ("EclipseCheeseModel", 327, "takes", 24), ("EclipseCheeseModel", 352, "at", 2), ("EclipseCheeseModel", 354, "for", 12), ("EclipseCheeseModel", 356, "costs", 8)]
def cz_K (g : cz_G) (U : State) : Prop := va_K g.1 vwCl (cz_tys g) U ∧ (∀ q ∈ cz_NF, va_Nw (.fieldLinkNest q.1 q.2.1 q.2.2.1 q.2.2.2.1 q.2.2.2.2.1 q.2.2.2.2.2) U) ∧ (∀ q ∈ cz_NM, va_Nw (.methodLinkNest q.1 q.2.1 q.2.2.1 q.2.2.2) U) ∧ (∀ C ∈ cz_AO, va_AO C U) ∧ ∀ q ∈ cz_SR, vk_R q.1 q.2.1 q.2.2.1 (cz_sa g q.2.2.2) U
theorem cz_K.warm {g : cz_G} {s U : State} (hW : s.WarmedH U.vm) (h : cz_K g s) : cz_K g U :=
  ⟨va_K.moved hW.alike h.1, fun q hq => va_Nw.warmF hW (h.2.1 q hq), fun q hq => va_Nw.warmM hW (h.2.2.1 q hq), fun C hC => va_AO.moved hW.alike (h.2.2.2.1 C hC), fun q hq => vk_R.warm hW (h.2.2.2.2 q hq)⟩
theorem cz_K.same {g : cz_G} {s U : State} (hv : U.vm = s.vm) (h : cz_K g s) : cz_K g U :=
  ⟨va_K.moved (by rw [hv]; exact Vm.Alike.refl s.vm) h.1, fun q hq => va_tabs rfl hv.symm (h.2.1 q hq), fun q hq => va_tabs rfl hv.symm (h.2.2.1 q hq), fun C hC => va_AO.moved (by rw [hv]; exact Vm.Alike.refl s.vm) (h.2.2.2.1 C hC), fun q hq => vk_R.same hv (h.2.2.2.2 q hq)⟩
abbrev cz_X : Type := Program × Launch × Env × State × MethodId × Array Value × List Frame × Method × Code × (Nat → Prop) × (State → Prop) × cz_G
/-- what holds all through a body -/
def cz_ok : cz_X → cz_M → Prop
  | (p, _, _, s, m, args, _, meth, c, A, _, g), M => p.tables.exec = Jvm.exec ∧ c.code = cz_cc M ∧ c.maxLocals = cz_nL M ∧ s.vm.findClass (cz_on M.1) = some m.cls ∧ (∀ w ∈ cz_T, w.before args s = true) ∧ meth.sig.returnType = cz_rt M ∧ meth.locks = false ∧ ((cz_nm M).name = "<init>" → meth.name = "<init>") ∧ cz_K g s ∧ ∀ q : Nat, s.heap.size ≤ q → A q
/-- the locals: unknown where none -/
def cz_lc (g : cz_G) (M : cz_M) (arr : Array Slot) (ls : Nat → Option Value) : Prop := arr.size = cz_nL M ∧ lv_wf arr ∧ (∀ (i : Nat) (v : Value), ls i = some v → arr[i]? = some (.val (cz_rn g v))) ∧ ∀ (i : Nat) (v : Value), ls i = some v → v.category = 2 → i ∈ cz_lg M
/-- THE JUDGEMENT: from here the machine comes to a state with the context's end -/
def Tr : cz_X → cz_M → Nat → (Nat → Option Value) → List Value → Nat → (Nat → Nat) → (Nat → Nat) → cz_I → cz_R → cz_L → Nat → Nat → Prop
  | (p, l, e, s, m, args, below, meth, c, A, Z, g), M, pc, ls, st, cn, K, N, I, R, L, n, w =>
    cz_ok (p, l, e, s, m, args, below, meth, c, A, Z, g) M → ∀ (H : Heap) (locs : List Loc) (arr : Array Slot), cz_At g A cn K N I R L H → va_S A s.heap H locs → cz_lc g M arr ls →
      W p l e (cz_rm M) s m args below meth c H locs n w Z (F0 m pc arr (st.map (cz_rn g)))
section CzRules
variable {X : cz_X} {M : cz_M} {pc : Nat} {ls : Nat → Option Value} {st : List Value} {cn : Nat} {K N : Nat → Nat} {I : cz_I} {R : cz_R} {L : cz_L} {n w : Nat}
theorem tr_iadd {x y : Int32} (hd : decode (cz_cc M) pc = .ok (.iadd, 1)) (k : Tr X M (pc + 1) ls (.int (x + y) :: st) cn K N I R L n w) : Tr X M pc ls (.int y :: .int x :: st) cn K N I R L n w := by
  obtain ⟨p, l, e, s, m, args, below, meth, c, A, Z, g⟩ := X
  intro hC H locs arr hR hS hl
  exact lv_iadd hC.1 hC.2.1 hd (k hC H locs arr hR hS hl)
theorem tr_isub {x y : Int32} (hd : decode (cz_cc M) pc = .ok (.isub, 1)) (k : Tr X M (pc + 1) ls (.int (x - y) :: st) cn K N I R L n w) : Tr X M pc ls (.int y :: .int x :: st) cn K N I R L n w := by
  obtain ⟨p, l, e, s, m, args, below, meth, c, A, Z, g⟩ := X
  intro hC H locs arr hR hS hl
  exact lv_isub hC.1 hC.2.1 hd (k hC H locs arr hR hS hl)
theorem tr_imul {x y : Int32} (hd : decode (cz_cc M) pc = .ok (.imul, 1)) (k : Tr X M (pc + 1) ls (.int (x * y) :: st) cn K N I R L n w) : Tr X M pc ls (.int y :: .int x :: st) cn K N I R L n w := by
  obtain ⟨p, l, e, s, m, args, below, meth, c, A, Z, g⟩ := X
  intro hC H locs arr hR hS hl
  exact lv_imul hC.1 hC.2.1 hd (k hC H locs arr hR hS hl)
theorem tr_iand {x y : Int32} (hd : decode (cz_cc M) pc = .ok (.iand, 1)) (k : Tr X M (pc + 1) ls (.int (x &&& y) :: st) cn K N I R L n w) : Tr X M pc ls (.int y :: .int x :: st) cn K N I R L n w := by
  obtain ⟨p, l, e, s, m, args, below, meth, c, A, Z, g⟩ := X
  intro hC H locs arr hR hS hl
  exact lv_iand hC.1 hC.2.1 hd (k hC H locs arr hR hS hl)
theorem tr_ior {x y : Int32} (hd : decode (cz_cc M) pc = .ok (.ior, 1)) (k : Tr X M (pc + 1) ls (.int (x ||| y) :: st) cn K N I R L n w) : Tr X M pc ls (.int y :: .int x :: st) cn K N I R L n w := by
  obtain ⟨p, l, e, s, m, args, below, meth, c, A, Z, g⟩ := X
  intro hC H locs arr hR hS hl
  exact lv_ior hC.1 hC.2.1 hd (k hC H locs arr hR hS hl)
theorem tr_ixor {x y : Int32} (hd : decode (cz_cc M) pc = .ok (.ixor, 1)) (k : Tr X M (pc + 1) ls (.int (x ^^^ y) :: st) cn K N I R L n w) : Tr X M pc ls (.int y :: .int x :: st) cn K N I R L n w := by
  obtain ⟨p, l, e, s, m, args, below, meth, c, A, Z, g⟩ := X
  intro hC H locs arr hR hS hl
  exact lv_ixor hC.1 hC.2.1 hd (k hC H locs arr hR hS hl)
theorem tr_ishl {x y : Int32} (hd : decode (cz_cc M) pc = .ok (.ishl, 1)) (k : Tr X M (pc + 1) ls (.int (x <<< (y &&& 31)) :: st) cn K N I R L n w) : Tr X M pc ls (.int y :: .int x :: st) cn K N I R L n w := by
  obtain ⟨p, l, e, s, m, args, below, meth, c, A, Z, g⟩ := X
  intro hC H locs arr hR hS hl
  exact lv_ishl hC.1 hC.2.1 hd (k hC H locs arr hR hS hl)
theorem tr_ishr {x y : Int32} (hd : decode (cz_cc M) pc = .ok (.ishr, 1)) (k : Tr X M (pc + 1) ls (.int (x >>> (y &&& 31)) :: st) cn K N I R L n w) : Tr X M pc ls (.int y :: .int x :: st) cn K N I R L n w := by
  obtain ⟨p, l, e, s, m, args, below, meth, c, A, Z, g⟩ := X
  intro hC H locs arr hR hS hl
  exact lv_ishr hC.1 hC.2.1 hd (k hC H locs arr hR hS hl)
theorem tr_iushr {x y : Int32} (hd : decode (cz_cc M) pc = .ok (.iushr, 1)) (k : Tr X M (pc + 1) ls (.int ((x.toUInt32 >>> (y.toUInt32 &&& Int32.toUInt32 31)).toInt32) :: st) cn K N I R L n w) : Tr X M pc ls (.int y :: .int x :: st) cn K N I R L n w := by
  obtain ⟨p, l, e, s, m, args, below, meth, c, A, Z, g⟩ := X
  intro hC H locs arr hR hS hl
  exact lv_iushr hC.1 hC.2.1 hd rfl (k hC H locs arr hR hS hl)
theorem tr_irem {x y : Int32} (hd : decode (cz_cc M) pc = .ok (.irem, 1)) (h0 : ¬ y = 0) (k : Tr X M (pc + 1) ls (.int (x - x / y * y) :: st) cn K N I R L n w) : Tr X M pc ls (.int y :: .int x :: st) cn K N I R L n w := by
  obtain ⟨p, l, e, s, m, args, below, meth, c, A, Z, g⟩ := X
  intro hC H locs arr hR hS hl
  exact lv_irem hC.1 hC.2.1 hd h0 (k hC H locs arr hR hS hl)
theorem tr_ineg {x : Int32} (hd : decode (cz_cc M) pc = .ok (.ineg, 1)) (k : Tr X M (pc + 1) ls (.int (-x) :: st) cn K N I R L n w) : Tr X M pc ls (.int x :: st) cn K N I R L n w := by
  obtain ⟨p, l, e, s, m, args, below, meth, c, A, Z, g⟩ := X
  intro hC H locs arr hR hS hl
  exact lv_ineg hC.1 hC.2.1 hd (k hC H locs arr hR hS hl)
theorem tr_ladd {x y : Int64} (hd : decode (cz_cc M) pc = .ok (.ladd, 1)) (k : Tr X M (pc + 1) ls (.long (x + y) :: st) cn K N I R L n w) : Tr X M pc ls (.long y :: .long x :: st) cn K N I R L n w := by
  obtain ⟨p, l, e, s, m, args, below, meth, c, A, Z, g⟩ := X
  intro hC H locs arr hR hS hl
  exact lv_ladd hC.1 hC.2.1 hd (k hC H locs arr hR hS hl)
theorem tr_lsub {x y : Int64} (hd : decode (cz_cc M) pc = .ok (.lsub, 1)) (k : Tr X M (pc + 1) ls (.long (x - y) :: st) cn K N I R L n w) : Tr X M pc ls (.long y :: .long x :: st) cn K N I R L n w := by
  obtain ⟨p, l, e, s, m, args, below, meth, c, A, Z, g⟩ := X
  intro hC H locs arr hR hS hl
  exact lv_lsub hC.1 hC.2.1 hd (k hC H locs arr hR hS hl)
theorem tr_lmul {x y : Int64} (hd : decode (cz_cc M) pc = .ok (.lmul, 1)) (k : Tr X M (pc + 1) ls (.long (x * y) :: st) cn K N I R L n w) : Tr X M pc ls (.long y :: .long x :: st) cn K N I R L n w := by
  obtain ⟨p, l, e, s, m, args, below, meth, c, A, Z, g⟩ := X
  intro hC H locs arr hR hS hl
  exact lv_lmul hC.1 hC.2.1 hd (k hC H locs arr hR hS hl)
theorem tr_lrem {x y : Int64} (hd : decode (cz_cc M) pc = .ok (.lrem, 1)) (h0 : ¬ y = 0) (k : Tr X M (pc + 1) ls (.long (x - x / y * y) :: st) cn K N I R L n w) : Tr X M pc ls (.long y :: .long x :: st) cn K N I R L n w := by
  obtain ⟨p, l, e, s, m, args, below, meth, c, A, Z, g⟩ := X
  intro hC H locs arr hR hS hl
  exact lv_lrem hC.1 hC.2.1 hd h0 (k hC H locs arr hR hS hl)
theorem tr_lcmp {x y : Int64} (hd : decode (cz_cc M) pc = .ok (.lcmp, 1)) (k : Tr X M (pc + 1) ls (.int (lg_cmp x y) :: st) cn K N I R L n w) : Tr X M pc ls (.long y :: .long x :: st) cn K N I R L n w := by
  obtain ⟨p, l, e, s, m, args, below, meth, c, A, Z, g⟩ := X
  intro hC H locs arr hR hS hl
  exact W.lcmp hC.1 hC.2.1 hd (k hC H locs arr hR hS hl)
theorem tr_i2l {x : Int32} (hd : decode (cz_cc M) pc = .ok (.i2l, 1)) (k : Tr X M (pc + 1) ls (.long x.toInt64 :: st) cn K N I R L n w) : Tr X M pc ls (.int x :: st) cn K N I R L n w := by
  obtain ⟨p, l, e, s, m, args, below, meth, c, A, Z, g⟩ := X
  intro hC H locs arr hR hS hl
  exact lv_i2l hC.1 hC.2.1 hd rfl (k hC H locs arr hR hS hl)
theorem tr_l2i {x : Int64} (hd : decode (cz_cc M) pc = .ok (.l2i, 1)) (k : Tr X M (pc + 1) ls (.int x.toInt32 :: st) cn K N I R L n w) : Tr X M pc ls (.long x :: st) cn K N I R L n w := by
  obtain ⟨p, l, e, s, m, args, below, meth, c, A, Z, g⟩ := X
  intro hC H locs arr hR hS hl
  exact lv_l2i hC.1 hC.2.1 hd rfl (k hC H locs arr hR hS hl)
theorem tr_i2b {x : Int32} (hd : decode (cz_cc M) pc = .ok (.i2b, 1)) (k : Tr X M (pc + 1) ls (.int x.toInt8.toInt32 :: st) cn K N I R L n w) : Tr X M pc ls (.int x :: st) cn K N I R L n w := by
  obtain ⟨p, l, e, s, m, args, below, meth, c, A, Z, g⟩ := X
  intro hC H locs arr hR hS hl
  exact lv_i2b hC.1 hC.2.1 hd rfl (k hC H locs arr hR hS hl)
theorem tr_i2c {x : Int32} (hd : decode (cz_cc M) pc = .ok (.i2c, 1)) (k : Tr X M (pc + 1) ls (.int (x.toUInt32 % 65536).toInt32 :: st) cn K N I R L n w) : Tr X M pc ls (.int x :: st) cn K N I R L n w := by
  obtain ⟨p, l, e, s, m, args, below, meth, c, A, Z, g⟩ := X
  intro hC H locs arr hR hS hl
  exact lv_i2c hC.1 hC.2.1 hd rfl (k hC H locs arr hR hS hl)
theorem tr_iconst {z : Int} {v : Int32} (hd : decode (cz_cc M) pc = .ok (.iconst z, 1)) (hv : Int32.ofInt z = v) (k : Tr X M (pc + 1) ls (.int v :: st) cn K N I R L n w) : Tr X M pc ls (st) cn K N I R L n w := by
  obtain ⟨p, l, e, s, m, args, below, meth, c, A, Z, g⟩ := X
  intro hC H locs arr hR hS hl
  exact lv_iconst hC.1 hC.2.1 hd hv (k hC H locs arr hR hS hl)
theorem tr_bipush {z : Int} {v : Int32} (hd : decode (cz_cc M) pc = .ok (.bipush z, 2)) (hv : (Int8.ofInt z).toInt32 = v) (k : Tr X M (pc + 2) ls (.int v :: st) cn K N I R L n w) : Tr X M pc ls (st) cn K N I R L n w := by
  obtain ⟨p, l, e, s, m, args, below, meth, c, A, Z, g⟩ := X
  intro hC H locs arr hR hS hl
  exact lv_bipush hC.1 hC.2.1 hd hv (k hC H locs arr hR hS hl)
theorem tr_sipush {z : Int} {v : Int32} (hd : decode (cz_cc M) pc = .ok (.sipush z, 3)) (hv : (Int16.ofInt z).toInt32 = v) (k : Tr X M (pc + 3) ls (.int v :: st) cn K N I R L n w) : Tr X M pc ls (st) cn K N I R L n w := by
  obtain ⟨p, l, e, s, m, args, below, meth, c, A, Z, g⟩ := X
  intro hC H locs arr hR hS hl
  exact lv_sipush hC.1 hC.2.1 hd hv (k hC H locs arr hR hS hl)
theorem tr_lconst {z : Fin 2} {v : Int64} (hd : decode (cz_cc M) pc = .ok (.lconst z, 1)) (hv : Int64.ofNat (z : Nat) = v) (k : Tr X M (pc + 1) ls (.long v :: st) cn K N I R L n w) : Tr X M pc ls (st) cn K N I R L n w := by
  obtain ⟨p, l, e, s, m, args, below, meth, c, A, Z, g⟩ := X
  intro hC H locs arr hR hS hl
  exact lv_lconst hC.1 hC.2.1 hd hv (k hC H locs arr hR hS hl)
theorem tr_dup {v : Value} (hd : decode (cz_cc M) pc = .ok (.dup, 1)) (hv : v.category = 1) (k : Tr X M (pc + 1) ls (v :: v :: st) cn K N I R L n w) : Tr X M pc ls (v :: st) cn K N I R L n w := by
  obtain ⟨p, l, e, s, m, args, below, meth, c, A, Z, g⟩ := X
  intro hC H locs arr hR hS hl
  exact lv_dup hC.1 hC.2.1 hd ((cz_rn_cat g v).trans hv) (k hC H locs arr hR hS hl)
theorem tr_pop {v : Value} (hd : decode (cz_cc M) pc = .ok (.pop, 1)) (hv : v.category = 1) (k : Tr X M (pc + 1) ls (st) cn K N I R L n w) : Tr X M pc ls (v :: st) cn K N I R L n w := by
  obtain ⟨p, l, e, s, m, args, below, meth, c, A, Z, g⟩ := X
  intro hC H locs arr hR hS hl
  exact lv_pop hC.1 hC.2.1 hd ((cz_rn_cat g v).trans hv) (k hC H locs arr hR hS hl)
theorem tr_dup2 {v u : Value} (hd : decode (cz_cc M) pc = .ok (.dup2, 1)) (hv : v.category = 1) (hu : u.category = 1) (k : Tr X M (pc + 1) ls (v :: u :: v :: u :: st) cn K N I R L n w) : Tr X M pc ls (v :: u :: st) cn K N I R L n w := by
  obtain ⟨p, l, e, s, m, args, below, meth, c, A, Z, g⟩ := X
  intro hC H locs arr hR hS hl
  exact lv_dup2_11 hC.1 hC.2.1 hd ((cz_rn_cat g v).trans hv) ((cz_rn_cat g u).trans hu) (k hC H locs arr hR hS hl)
theorem tr_iload_n {i : Fin 4} {x : Int32} (hd : decode (cz_cc M) pc = .ok (.iload_n i, 1)) (hv : ls i = some (.int x)) (k : Tr X M (pc + 1) ls (.int x :: st) cn K N I R L n w) : Tr X M pc ls (st) cn K N I R L n w := by
  obtain ⟨p, l, e, s, m, args, below, meth, c, A, Z, g⟩ := X
  intro hC H locs arr hR hS hl
  exact lv_iload_n hC.1 hC.2.1 hd rfl (hl.2.2.1 _ _ hv) (k hC H locs arr hR hS hl)
theorem tr_iload {i : Nat} {x : Int32} (hd : decode (cz_cc M) pc = .ok (.iload i, 2)) (hv : ls i = some (.int x)) (k : Tr X M (pc + 2) ls (.int x :: st) cn K N I R L n w) : Tr X M pc ls (st) cn K N I R L n w := by
  obtain ⟨p, l, e, s, m, args, below, meth, c, A, Z, g⟩ := X
  intro hC H locs arr hR hS hl
  exact lv_iload hC.1 hC.2.1 hd (hl.2.2.1 _ _ hv) (k hC H locs arr hR hS hl)
theorem tr_lload_n {i : Fin 4} {x : Int64} (hd : decode (cz_cc M) pc = .ok (.lload_n i, 1)) (hv : ls i = some (.long x)) (k : Tr X M (pc + 1) ls (.long x :: st) cn K N I R L n w) : Tr X M pc ls (st) cn K N I R L n w := by
  obtain ⟨p, l, e, s, m, args, below, meth, c, A, Z, g⟩ := X
  intro hC H locs arr hR hS hl
  exact lv_lload_n hC.1 hC.2.1 hd rfl (hl.2.2.1 _ _ hv) (k hC H locs arr hR hS hl)
theorem tr_aload_n {i : Fin 4} {x : Nat} (hd : decode (cz_cc M) pc = .ok (.aload_n i, 1)) (hv : ls i = some (.ref x)) (k : Tr X M (pc + 1) ls (.ref x :: st) cn K N I R L n w) : Tr X M pc ls (st) cn K N I R L n w := by
  obtain ⟨p, l, e, s, m, args, below, meth, c, A, Z, g⟩ := X
  intro hC H locs arr hR hS hl
  exact lv_aload_n hC.1 hC.2.1 hd rfl (hl.2.2.1 _ _ hv) (k hC H locs arr hR hS hl)
theorem tr_aload {i x : Nat} (hd : decode (cz_cc M) pc = .ok (.aload i, 2)) (hv : ls i = some (.ref x)) (k : Tr X M (pc + 2) ls (.ref x :: st) cn K N I R L n w) : Tr X M pc ls (st) cn K N I R L n w := by
  obtain ⟨p, l, e, s, m, args, below, meth, c, A, Z, g⟩ := X
  intro hC H locs arr hR hS hl
  exact lv_aload hC.1 hC.2.1 hd (hl.2.2.1 _ _ hv) (k hC H locs arr hR hS hl)
theorem tr_aload_nS {i : Fin 4} {x : UInt32} (hd : decode (cz_cc M) pc = .ok (.aload_n i, 1)) (hv : ls i = some (.float x)) (k : Tr X M (pc + 1) ls (.float x :: st) cn K N I R L n w) : Tr X M pc ls (st) cn K N I R L n w := by
  obtain ⟨p, l, e, s, m, args, below, meth, c, A, Z, g⟩ := X
  intro hC H locs arr hR hS hl
  exact lv_aload_n hC.1 hC.2.1 hd rfl (hl.2.2.1 _ _ hv) (k hC H locs arr hR hS hl)
theorem tr_aloadS {i : Nat} {x : UInt32} (hd : decode (cz_cc M) pc = .ok (.aload i, 2)) (hv : ls i = some (.float x)) (k : Tr X M (pc + 2) ls (.float x :: st) cn K N I R L n w) : Tr X M pc ls (st) cn K N I R L n w := by
  obtain ⟨p, l, e, s, m, args, below, meth, c, A, Z, g⟩ := X
  intro hC H locs arr hR hS hl
  exact lv_aload hC.1 hC.2.1 hd (hl.2.2.1 _ _ hv) (k hC H locs arr hR hS hl)
theorem tr_if_eq {x : Int32} {off : Int} (tgt : Nat) (hd : decode (cz_cc M) pc = .ok (.ifCond .eq off, 3)) (ht : (pc : Int) + off = (tgt : Int)) (kt : x = 0 → Tr X M tgt ls st cn K N I R L n w) (kf : ¬ x = 0 → Tr X M (pc + 3) ls st cn K N I R L n w) : Tr X M pc ls (.int x :: st) cn K N I R L n w := by
  obtain ⟨p, l, e, s, m, args, below, meth, c, A, Z, g⟩ := X
  intro hC H locs arr hR hS hl
  exact lv_if_eq hC.1 hC.2.1 hd ht (fun q => kt q hC H locs arr hR hS hl) (fun q => kf q hC H locs arr hR hS hl)
theorem tr_icmp_eq {x y : Int32} {off : Int} (tgt : Nat) (hd : decode (cz_cc M) pc = .ok (.if_icmp .eq off, 3)) (ht : (pc : Int) + off = (tgt : Int)) (kt : x = y → Tr X M tgt ls st cn K N I R L n w) (kf : ¬ x = y → Tr X M (pc + 3) ls st cn K N I R L n w) : Tr X M pc ls (.int y :: .int x :: st) cn K N I R L n w := by
  obtain ⟨p, l, e, s, m, args, below, meth, c, A, Z, g⟩ := X
  intro hC H locs arr hR hS hl
  exact lv_icmp_eq hC.1 hC.2.1 hd ht (fun q => kt q hC H locs arr hR hS hl) (fun q => kf q hC H locs arr hR hS hl)
theorem tr_if_ne {x : Int32} {off : Int} (tgt : Nat) (hd : decode (cz_cc M) pc = .ok (.ifCond .ne off, 3)) (ht : (pc : Int) + off = (tgt : Int)) (kt : ¬ x = 0 → Tr X M tgt ls st cn K N I R L n w) (kf : x = 0 → Tr X M (pc + 3) ls st cn K N I R L n w) : Tr X M pc ls (.int x :: st) cn K N I R L n w := by
  obtain ⟨p, l, e, s, m, args, below, meth, c, A, Z, g⟩ := X
  intro hC H locs arr hR hS hl
  exact lv_if_ne hC.1 hC.2.1 hd ht (fun q => kt q hC H locs arr hR hS hl) (fun q => kf q hC H locs arr hR hS hl)
theorem tr_icmp_ne {x y : Int32} {off : Int} (tgt : Nat) (hd : decode (cz_cc M) pc = .ok (.if_icmp .ne off, 3)) (ht : (pc : Int) + off = (tgt : Int)) (kt : ¬ x = y → Tr X M tgt ls st cn K N I R L n w) (kf : x = y → Tr X M (pc + 3) ls st cn K N I R L n w) : Tr X M pc ls (.int y :: .int x :: st) cn K N I R L n w := by
  obtain ⟨p, l, e, s, m, args, below, meth, c, A, Z, g⟩ := X
  intro hC H locs arr hR hS hl
  exact lv_icmp_ne hC.1 hC.2.1 hd ht (fun q => kt q hC H locs arr hR hS hl) (fun q => kf q hC H locs arr hR hS hl)
theorem tr_if_lt {x : Int32} {off : Int} (tgt : Nat) (hd : decode (cz_cc M) pc = .ok (.ifCond .lt off, 3)) (ht : (pc : Int) + off = (tgt : Int)) (kt : x < 0 → Tr X M tgt ls st cn K N I R L n w) (kf : ¬ x < 0 → Tr X M (pc + 3) ls st cn K N I R L n w) : Tr X M pc ls (.int x :: st) cn K N I R L n w := by
  obtain ⟨p, l, e, s, m, args, below, meth, c, A, Z, g⟩ := X
  intro hC H locs arr hR hS hl
  exact lv_if_lt hC.1 hC.2.1 hd ht (fun q => kt q hC H locs arr hR hS hl) (fun q => kf q hC H locs arr hR hS hl)
theorem tr_icmp_lt {x y : Int32} {off : Int} (tgt : Nat) (hd : decode (cz_cc M) pc = .ok (.if_icmp .lt off, 3)) (ht : (pc : Int) + off = (tgt : Int)) (kt : x < y → Tr X M tgt ls st cn K N I R L n w) (kf : ¬ x < y → Tr X M (pc + 3) ls st cn K N I R L n w) : Tr X M pc ls (.int y :: .int x :: st) cn K N I R L n w := by
  obtain ⟨p, l, e, s, m, args, below, meth, c, A, Z, g⟩ := X
  intro hC H locs arr hR hS hl
  exact lv_icmp_lt hC.1 hC.2.1 hd ht (fun q => kt q hC H locs arr hR hS hl) (fun q => kf q hC H locs arr hR hS hl)
theorem tr_if_ge {x : Int32} {off : Int} (tgt : Nat) (hd : decode (cz_cc M) pc = .ok (.ifCond .ge off, 3)) (ht : (pc : Int) + off = (tgt : Int)) (kt : 0 ≤ x → Tr X M tgt ls st cn K N I R L n w) (kf : ¬ 0 ≤ x → Tr X M (pc + 3) ls st cn K N I R L n w) : Tr X M pc ls (.int x :: st) cn K N I R L n w := by
  obtain ⟨p, l, e, s, m, args, below, meth, c, A, Z, g⟩ := X
  intro hC H locs arr hR hS hl
  exact lv_if_ge hC.1 hC.2.1 hd ht (fun q => kt q hC H locs arr hR hS hl) (fun q => kf q hC H locs arr hR hS hl)
theorem tr_icmp_ge {x y : Int32} {off : Int} (tgt : Nat) (hd : decode (cz_cc M) pc = .ok (.if_icmp .ge off, 3)) (ht : (pc : Int) + off = (tgt : Int)) (kt : y ≤ x → Tr X M tgt ls st cn K N I R L n w) (kf : ¬ y ≤ x → Tr X M (pc + 3) ls st cn K N I R L n w) : Tr X M pc ls (.int y :: .int x :: st) cn K N I R L n w := by
  obtain ⟨p, l, e, s, m, args, below, meth, c, A, Z, g⟩ := X
  intro hC H locs arr hR hS hl
  exact lv_icmp_ge hC.1 hC.2.1 hd ht (fun q => kt q hC H locs arr hR hS hl) (fun q => kf q hC H locs arr hR hS hl)
theorem tr_if_gt {x : Int32} {off : Int} (tgt : Nat) (hd : decode (cz_cc M) pc = .ok (.ifCond .gt off, 3)) (ht : (pc : Int) + off = (tgt : Int)) (kt : 0 < x → Tr X M tgt ls st cn K N I R L n w) (kf : ¬ 0 < x → Tr X M (pc + 3) ls st cn K N I R L n w) : Tr X M pc ls (.int x :: st) cn K N I R L n w := by
  obtain ⟨p, l, e, s, m, args, below, meth, c, A, Z, g⟩ := X
  intro hC H locs arr hR hS hl
  exact lv_if_gt hC.1 hC.2.1 hd ht (fun q => kt q hC H locs arr hR hS hl) (fun q => kf q hC H locs arr hR hS hl)
theorem tr_icmp_gt {x y : Int32} {off : Int} (tgt : Nat) (hd : decode (cz_cc M) pc = .ok (.if_icmp .gt off, 3)) (ht : (pc : Int) + off = (tgt : Int)) (kt : y < x → Tr X M tgt ls st cn K N I R L n w) (kf : ¬ y < x → Tr X M (pc + 3) ls st cn K N I R L n w) : Tr X M pc ls (.int y :: .int x :: st) cn K N I R L n w := by
  obtain ⟨p, l, e, s, m, args, below, meth, c, A, Z, g⟩ := X
  intro hC H locs arr hR hS hl
  exact lv_icmp_gt hC.1 hC.2.1 hd ht (fun q => kt q hC H locs arr hR hS hl) (fun q => kf q hC H locs arr hR hS hl)
theorem tr_if_le {x : Int32} {off : Int} (tgt : Nat) (hd : decode (cz_cc M) pc = .ok (.ifCond .le off, 3)) (ht : (pc : Int) + off = (tgt : Int)) (kt : x ≤ 0 → Tr X M tgt ls st cn K N I R L n w) (kf : ¬ x ≤ 0 → Tr X M (pc + 3) ls st cn K N I R L n w) : Tr X M pc ls (.int x :: st) cn K N I R L n w := by
  obtain ⟨p, l, e, s, m, args, below, meth, c, A, Z, g⟩ := X
  intro hC H locs arr hR hS hl
  exact lv_if_le hC.1 hC.2.1 hd ht (fun q => kt q hC H locs arr hR hS hl) (fun q => kf q hC H locs arr hR hS hl)
theorem tr_icmp_le {x y : Int32} {off : Int} (tgt : Nat) (hd : decode (cz_cc M) pc = .ok (.if_icmp .le off, 3)) (ht : (pc : Int) + off = (tgt : Int)) (kt : x ≤ y → Tr X M tgt ls st cn K N I R L n w) (kf : ¬ x ≤ y → Tr X M (pc + 3) ls st cn K N I R L n w) : Tr X M pc ls (.int y :: .int x :: st) cn K N I R L n w := by
  obtain ⟨p, l, e, s, m, args, below, meth, c, A, Z, g⟩ := X
  intro hC H locs arr hR hS hl
  exact lv_icmp_le hC.1 hC.2.1 hd ht (fun q => kt q hC H locs arr hR hS hl) (fun q => kf q hC H locs arr hR hS hl)
theorem tr_goto {off : Int} (tgt : Nat) (hd : decode (cz_cc M) pc = .ok (.goto off, 3)) (ht : (pc : Int) + off = (tgt : Int)) (k : Tr X M tgt ls st cn K N I R L n w) : Tr X M pc ls (st) cn K N I R L n w := by
  obtain ⟨p, l, e, s, m, args, below, meth, c, A, Z, g⟩ := X
  intro hC H locs arr hR hS hl
  exact lv_goto hC.1 hC.2.1 hd ht (k hC H locs arr hR hS hl)
theorem tr_ifnonnull {off : Int} {x : Nat} (tgt : Nat) (hd : decode (cz_cc M) pc = .ok (.ifnonnull off, 3)) (ht : (pc : Int) + off = (tgt : Int)) (k : Tr X M tgt ls st cn K N I R L n w) : Tr X M pc ls (.ref x :: st) cn K N I R L n w := by
  obtain ⟨p, l, e, s, m, args, below, meth, c, A, Z, g⟩ := X
  intro hC H locs arr hR hS hl
  exact lv_ifnonnull hC.1 hC.2.1 hd ht (k hC H locs arr hR hS hl)
theorem tr_ifnonnullN {off : Int} (hd : decode (cz_cc M) pc = .ok (.ifnonnull off, 3)) (k : Tr X M (pc + 3) ls (st) cn K N I R L n w) : Tr X M pc ls (.null :: st) cn K N I R L n w := by
  obtain ⟨p, l, e, s, m, args, below, meth, c, A, Z, g⟩ := X
  intro hC H locs arr hR hS hl
  exact lv_ifnonnullN hC.1 hC.2.1 hd (k hC H locs arr hR hS hl)
theorem tr_ifnull {off : Int} {x : Nat} (hd : decode (cz_cc M) pc = .ok (.ifnull off, 3)) (k : Tr X M (pc + 3) ls (st) cn K N I R L n w) : Tr X M pc ls (.ref x :: st) cn K N I R L n w := by
  obtain ⟨p, l, e, s, m, args, below, meth, c, A, Z, g⟩ := X
  intro hC H locs arr hR hS hl
  exact lv_ifnull hC.1 hC.2.1 hd (k hC H locs arr hR hS hl)
theorem tr_ifnullN {off : Int} (tgt : Nat) (hd : decode (cz_cc M) pc = .ok (.ifnull off, 3)) (ht : (pc : Int) + off = (tgt : Int)) (k : Tr X M tgt ls st cn K N I R L n w) : Tr X M pc ls (.null :: st) cn K N I R L n w := by
  obtain ⟨p, l, e, s, m, args, below, meth, c, A, Z, g⟩ := X
  intro hC H locs arr hR hS hl
  exact lv_ifnullN hC.1 hC.2.1 hd ht (k hC H locs arr hR hS hl)
theorem tr_lookup {dflt off : Int} {ps : Array (Int × Int)} {len : Nat} {x : Int32} (tgt : Nat) (hd : decode (cz_cc M) pc = .ok (.lookupswitch dflt ps, len)) (hp : (ps.toList.zip (ps.toList.drop 1)).all (fun (a, next) => a.1 < next.1) = true) (ho : Op.lookupswitch.offset ps.toList dflt x.toInt = off) (ht : (pc : Int) + off = (tgt : Int)) (k : Tr X M tgt ls st cn K N I R L n w) : Tr X M pc ls (.int x :: st) cn K N I R L n w := by
  obtain ⟨p, l, e, s, m, args, below, meth, c, A, Z, g⟩ := X
  intro hC H locs arr hR hS hl
  exact lv_lookup hC.1 hC.2.1 hd hp ho ht (k hC H locs arr hR hS hl)
theorem tr_tabOut {dflt lo hi : Int} {offs : Array Int} {len : Nat} {x : Int32} (tgt : Nat) (hd : decode (cz_cc M) pc = .ok (.tableswitch dflt lo hi offs, len)) (h : x.toInt < lo ∨ hi < x.toInt) (ht : (pc : Int) + dflt = (tgt : Int)) (k : Tr X M tgt ls st cn K N I R L n w) : Tr X M pc ls (.int x :: st) cn K N I R L n w := by
  obtain ⟨p, l, e, s, m, args, below, meth, c, A, Z, g⟩ := X
  intro hC H locs arr hR hS hl
  exact lv_tableOut hC.1 hC.2.1 hd h ht (k hC H locs arr hR hS hl)
theorem tr_tabIn {dflt lo hi off : Int} {offs : Array Int} {len : Nat} {x : Int32} (tgt : Nat) (hd : decode (cz_cc M) pc = .ok (.tableswitch dflt lo hi offs, len)) (h1 : ¬ x.toInt < lo) (h2 : ¬ hi < x.toInt) (ho : offs[(x.toInt - lo).toNat]? = some off) (ht : (pc : Int) + off = (tgt : Int)) (k : Tr X M tgt ls st cn K N I R L n w) : Tr X M pc ls (.int x :: st) cn K N I R L n w := by
  obtain ⟨p, l, e, s, m, args, below, meth, c, A, Z, g⟩ := X
  intro hC H locs arr hR hS hl
  exact lv_tableIn hC.1 hC.2.1 hd h1 h2 ho ht (k hC H locs arr hR hS hl)
end CzRules
