/-! ===== the object graph behind both constructors: kinds, lengths, references, ints ===== -/
def kdL : List Nat := [10, 13, 0, 14, 18, 14, 4, 14, 21, 17, 20, 2, 2, 2, 2, 2, 2, 2, 2, 2, 2, 2, 2, 2, 2, 9, 9, 9, 9, 9, 1, 1, 1, 1, 1, 1, 4, 14, 4, 14, 4, 14, 4, 14, 0, 14, 18, 14, 4, 14, 21, 17, 20, 2, 2, 2, 2, 2, 2, 2, 2, 2, 2, 2, 2, 2, 2, 9, 9, 9, 9, 9, 1, 1, 1, 1, 1, 1, 4, 14, 4, 14, 4, 14, 4, 14, 7, 15, 15, 3, 14, 14, 6, 19, 19, 3, 14, 14, 3, 14, 14, 3, 14, 14, 3, 14, 14, 3, 14, 14, 3, 14, 14, 3, 14, 14, 3, 14, 14, 3, 14, 14, 3, 14, 14, 3, 14, 14, 3, 14, 14, 3, 14, 14, 3, 14, 14, 3, 14, 14, 8, 16, 16, 16, 14, 14, 14, 14, 14, 14, 5, 14, 14, 14, 14, 14, 14, 14, 14, 14, 3, 14, 14, 8, 16, 16, 16, 14, 14, 14, 14, 14, 14, 5, 14, 14, 14, 14, 14, 14, 14, 14, 14, 12, 13, 14, 14, 14, 16, 16, 16, 16, 16, 16, 14, 14, 14, 14, 14, 14, 16, 14]
def lnL : List Nat := [0, 900, 0, 5, 14, 8, 0, 8, 5, 6, 4, 0, 0, 0, 0, 0, 0, 0, 0, 0, 0, 0, 0, 0, 0, 0, 0, 0, 0, 0, 0, 0, 0, 0, 0, 0, 0, 8, 0, 8, 0, 8, 0, 8, 0, 5, 14, 8, 0, 8, 5, 6, 4, 0, 0, 0, 0, 0, 0, 0, 0, 0, 0, 0, 0, 0, 0, 0, 0, 0, 0, 0, 0, 0, 0, 0, 0, 0, 0, 8, 0, 8, 0, 8, 0, 8, 0, 8, 5, 0, 6, 6, 0, 12, 3, 0, 6, 6, 0, 6, 6, 0, 6, 6, 0, 6, 6, 0, 6, 6, 0, 6, 6, 0, 6, 6, 0, 6, 6, 0, 6, 6, 0, 6, 6, 0, 6, 6, 0, 6, 6, 0, 6, 6, 0, 6, 6, 0, 6, 6, 0, 240, 240, 240, 240, 240, 240, 240, 240, 240, 0, 240, 8, 8, 8, 8, 5, 5, 5, 5, 0, 6, 6, 0, 240, 240, 240, 240, 240, 240, 240, 240, 240, 0, 240, 8, 8, 8, 8, 5, 5, 5, 5, 0, 900, 15, 180, 45, 240, 960, 960, 240, 240, 960, 1920, 5, 8, 8, 8, 8, 1920, 15]
def rfL : List (List (Option Nat)) := [[some 1, none, some 2, some 44, some 86, none, some 89, some 92, some 140, none, some 150, none, some 160, some 163, some 173], [], [none, none, some 3, none, some 4, none, some 5, none, some 6, none, some 8, none, some 9, none, some 10], [], [some 11, some 12, some 13, some 14, some 15, some 16, some 17, some 18, some 19, some 20, some 21, some 22, some 23, some 24], [], [none, some 7], [], [some 25, some 26, some 27, some 28, some 29], [some 30, some 31, some 32, some 33, some 34, some 35], [some 36, some 38, some 40, some 42], [], [], [], [], [], [], [], [], [], [], [], [], [], [], [], [], [], [], [], [], [], [], [], [], [], [none, some 37], [], [none, some 39], [], [none, some 41], [], [none, some 43], [], [none, none, some 45, none, some 46, none, some 47, none, some 48, none, some 50, none, some 51, none, some 52], [], [some 53, some 54, some 55, some 56, some 57, some 58, some 59, some 60, some 61, some 62, some 63, some 64, some 65, some 66], [], [none, some 49], [], [some 67, some 68, some 69, some 70, some 71], [some 72, some 73, some 74, some 75, some 76, some 77], [some 78, some 80, some 82, some 84], [], [], [], [], [], [], [], [], [], [], [], [], [], [], [], [], [], [], [], [], [], [], [], [], [], [none, some 79], [], [none, some 81], [], [none, some 83], [], [none, some 85], [], [some 1, none, none, none, none, none, none, none, none, none, some 44, none, none, some 87, some 88], [], [], [none, none, none, some 90, some 91], [], [], [none, some 93, none, some 94], [some 95, some 98, some 101, some 104, some 107, some 110, some 113, some 116, some 119, some 122, some 125, some 128], [some 131, some 134, some 137], [none, none, none, some 96, some 97], [], [], [none, none, none, some 99, some 100], [], [], [none, none, none, some 102, some 103], [], [], [none, none, none, some 105, some 106], [], [], [none, none, none, some 108, some 109], [], [], [none, none, none, some 111, some 112], [], [], [none, none, none, some 114, some 115], [], [], [none, none, none, some 117, some 118], [], [], [none, none, none, some 120, some 121], [], [], [none, none, none, some 123, some 124], [], [], [none, none, none, some 126, some 127], [], [], [none, none, none, some 129, some 130], [], [], [none, none, none, some 132, some 133], [], [], [none, none, none, some 135, some 136], [], [], [none, none, none, some 138, some 139], [], [], [none, none, some 141, some 142, some 143, some 144, some 145, some 146, some 147, some 148, none, some 149], [], [], [], [], [], [], [], [], [], [some 2, some 140, none, some 151, some 152, some 153, some 154, some 155, some 156, some 157, some 158, some 159], [], [], [], [], [], [], [], [], [], [none, none, none, some 161, some 162], [], [], [none, none, some 164, some 165, some 166, some 167, some 168, some 169, some 170, some 171, none, some 172], [], [], [], [], [], [], [], [], [], [some 2, some 163, none, some 174, some 175, some 176, some 177, some 178, some 179, some 180, some 181, some 182], [], [], [], [], [], [], [], [], [], [none, none, none, none, none, some 184, none, none, none, none, none, none, none, none, none, none, some 185, some 186, some 187, none, none, some 188, some 189, some 190, some 191, some 192, some 193, some 194, some 195, some 196, some 197, some 198, some 199, some 200, none, some 201], [], [], [], [], [], [], [], [], [], [], [], [], [], [], [], [], [], []]
def kd0 (k : Nat) : Nat := kdL.getD k 99
def ln0 (k : Nat) : Nat := lnL.getD k 0
def rf0 (k j : Nat) : Option Nat := (rfL.getD k []).getD j none
def in0 (k j : Nat) : Int32 := if k = 183 ∧ j = 2 then -1 else 0
def cz_run1 : Option cz_S := cz_go 1000 mX10_init 0 (cz_en [.ref 0]) [] 1 (va_up (fun _ => 99) 0 10) (va_up (fun _ => 0) 0 0) (fun _ _ => 0) (fun _ _ => none) 0 0
def cz_run2 (S : cz_S) : Option cz_S := match S with
  | (cn, K, N, I, R) => cz_go 1000 mX12_init 0 (cz_en [.ref cn]) [] (cn + 1) (va_up K cn 12) (va_up N cn 0) I R 0 0
def cz_chk (S : cz_S) : Bool := match S with
  | (cn, K, N, I, R) => cn == 202 && (List.range 202).all (fun k => K k == kd0 k && N k == ln0 k && (List.range (rfL.getD k []).length).all (fun j => R k j == rf0 k j) && (List.range (max (ln0 k) 36)).all (fun j => I k j == in0 k j))
def cz_chk2 : Bool := match cz_run1 with
  | some S => S.1 == 183 && (match cz_run2 S with
    | some S2 => cz_chk S2
    | none => false)
  | none => false
theorem cz_chk2_ok : cz_chk2 = true := by decide +kernel
/-- a store as it stands behind both constructors -/
def cz_new0 (cn : Nat) (K N : Nat → Nat) (I : cz_I) (R : cz_R) (L : cz_L) : Prop :=
  202 ≤ cn ∧ (∀ k : Nat, k < 202 → K k = kd0 k) ∧ (∀ k : Nat, k < 202 → N k = ln0 k) ∧ (∀ k j : Nat, k < 202 → j < (rfL.getD k []).length → R k j = rf0 k j) ∧ (∀ k j : Nat, k < 202 → j < max (ln0 k) 36 → I k j = in0 k j) ∧ cz_Fr cn I R L
theorem cz_made : ∃ (K1 N1 : Nat → Nat) (I1 : cz_I) (R1 : cz_R) (K N : Nat → Nat) (I : cz_I) (R : cz_R), cz_go 1000 mX10_init 0 (cz_en [.ref 0]) [] 1 (va_up (fun _ => 99) 0 10) (va_up (fun _ => 0) 0 0) (fun _ _ => 0) (fun _ _ => none) 0 0 = some (183, K1, N1, I1, R1) ∧
    cz_go 1000 mX12_init 0 (cz_en [.ref 183]) [] 184 (va_up K1 183 12) (va_up N1 183 0) I1 R1 0 0 = some (202, K, N, I, R) ∧ cz_new0 202 K N I R (fun _ _ => 0) := by
  have h := cz_chk2_ok
  unfold cz_chk2 at h
  split at h
  · rename_i S1 h1
    obtain ⟨cn1, K1, N1, I1, R1⟩ := S1
    rw [Bool.and_eq_true] at h
    obtain ⟨h2, h3⟩ := h
    have h2 : cn1 = 183 := by simpa using h2
    subst h2
    split at h3
    · rename_i S2 h4
      obtain ⟨cn, K, N, I, R⟩ := S2
      unfold cz_chk at h3
      simp only [Bool.and_eq_true, beq_iff_eq, List.all_eq_true, List.mem_range] at h3
      obtain ⟨rfl, h5⟩ := h3
      obtain ⟨f1, -⟩ := cz_go_ok (fun _ _ => 0) _ _ _ _ _ _ _ _ _ _ _ _ _ _ _ _ _ h1 ⟨fun k _ => ⟨rfl, rfl, rfl⟩, fun k j x h => by cases h⟩
      obtain ⟨f2, -⟩ := cz_go_ok (fun _ _ => 0) _ _ _ _ _ _ _ _ _ _ _ _ _ _ _ _ _ h4 f1.more
      exact ⟨K1, N1, I1, R1, K, N, I, R, h1, h4, Nat.le_refl _, fun k hk => (h5 k hk).1.1.1, fun k hk => (h5 k hk).1.1.2, fun k j hk hj => (h5 k hk).1.2 j hj, fun k j hk hj => (h5 k hk).2 j hj, f2⟩
    · cases h3
  · cases h
