/-! ===== the object graph behind both constructors: kinds, lengths, references, ints ===== -/
def kdL : List Nat := [10, 13, 0, 14, 18, 14, 4, 14, 21, 17, 20, 2, 2, 2, 2, 2, 2, 2, 2, 2, 2, 2, 2, 2, 2, 9, 9, 9, 9, 9, 1, 1, 1, 1, 1, 1, 4, 14, 4, 14, 4, 14, 4, 14, 0, 14, 18, 14, 4, 14, 21, 17, 20, 2, 2, 2, 2, 2, 2, 2, 2, 2, 2, 2, 2, 2, 2, 9, 9, 9, 9, 9, 1, 1, 1, 1, 1, 1, 4, 14, 4, 14, 4, 14, 4, 14, 7, 15, 15, 3, 14, 14, 6, 19, 19, 3, 14, 14, 3, 14, 14, 3, 14, 14, 3, 14, 14, 3, 14, 14, 3, 14, 14, 3, 14, 14, 3, 14, 14, 3, 14, 14, 3, 14, 14, 3, 14, 14, 3, 14, 14, 3, 14, 14, 3, 14, 14, 3, 14, 14, 8, 16, 16, 16, 14, 14, 14, 14, 14, 14, 5, 14, 14, 14, 14, 14, 14, 14, 14, 14, 3, 14, 14, 8, 16, 16, 16, 14, 14, 14, 14, 14, 14, 5, 14, 14, 14, 14, 14, 14, 14, 14, 14, 12, 13, 14, 14, 14, 16, 16, 16, 16, 16, 16, 14, 14, 14, 14, 14, 14, 16, 14]
def lnL : List Nat := [0, 900, 0, 5, 14, 8, 0, 8, 5, 6, 4, 0, 0, 0, 0, 0, 0, 0, 0, 0, 0, 0, 0, 0, 0, 0, 0, 0, 0, 0, 0, 0, 0, 0, 0, 0, 0, 8, 0, 8, 0, 8, 0, 8, 0, 5, 14, 8, 0, 8, 5, 6, 4, 0, 0, 0, 0, 0, 0, 0, 0, 0, 0, 0, 0, 0, 0, 0, 0, 0, 0, 0, 0, 0, 0, 0, 0, 0, 0, 8, 0, 8, 0, 8, 0, 8, 0, 8, 5, 0, 6, 6, 0, 12, 3, 0, 6, 6, 0, 6, 6, 0, 6, 6, 0, 6, 6, 0, 6, 6, 0, 6, 6, 0, 6, 6, 0, 6, 6, 0, 6, 6, 0, 6, 6, 0, 6, 6, 0, 6, 6, 0, 6, 6, 0, 6, 6, 0, 6, 6, 0, 240, 240, 240, 240, 240, 240, 240, 240, 240, 0, 240, 8, 8, 8, 8, 5, 5, 5, 5, 0, 6, 6, 0, 240, 240, 240, 240, 240, 240, 240, 240, 240, 0, 240, 8, 8, 8, 8, 5, 5, 5, 5, 0, 900, 15, 180, 45, 240, 960, 960, 240, 240, 960, 1920, 5, 8, 8, 8, 8, 1920, 15]
def rfL : List (List (Option Nat)) := [[some 1, none, some 2, some 44, some 86, none, some 89, some 92, some 140, none, some 150, none, some 160, some 163, some 173], [], [none, none, some 3, none, some 4, none, some 5, none, some 6, none, some 8, none, some 9, none, some 10], [], [some 11, some 12, some 13, some 14, some 15, some 16, some 17, some 18, some 19, some 20, some 21, some 22, some 23, some 24], [], [none, some 7], [], [some 25, some 26, some 27, some 28, some 29], [some 30, some 31, some 32, some 33, some 34, some 35], [some 36, some 38, some 40, some 42], [], [], [], [], [], [], [], [], [], [], [], [], [], [], [], [], [], [], [], [], [], [], [], [], [], [none, some 37], [], [none, some 39], [], [none, some 41], [], [none, some 43], [], [none, none, some 45, none, some 46, none, some 47, none, some 48, none, some 50, none, some 51, none, some 52], [], [some 53, some 54, some 55, some 56, some 57, some 58, some 59, some 60, some 61, some 62, some 63, some 64, some 65, some 66], [], [none, some 49], [], [some 67, some 68, some 69, some 70, some 71], [some 72, some 73, some 74, some 75, some 76, some 77], [some 78, some 80, some 82, some 84], [], [], [], [], [], [], [], [], [], [], [], [], [], [], [], [], [], [], [], [], [], [], [], [], [], [none, some 79], [], [none, some 81], [], [none, some 83], [], [none, some 85], [], [some 1, none, none, none, none, none, none, none, none, none, some 44, none, none, some 87, some 88], [], [], [none, none, none, some 90, some 91], [], [], [none, some 93, none, some 94], [some 95, some 98, some 101, some 104, some 107, some 110, some 113, some 116, some 119, some 122, some 125, some 128], [some 131, some 134, some 137], [none, none, none, some 96, some 97], [], [], [none, none, none, some 99, some 100], [], [], [none, none, none, some 102, some 103], [], [], [none, none, none, some 105, some 106], [], [], [none, none, none, some 108, some 109], [], [], [none, none, none, some 111, some 112], [], [], [none, none, none, some 114, some 115], [], [], [none, none, none, some 117, some 118], [], [], [none, none, none, some 120, some 121], [], [], [none, none, none, some 123, some 124], [], [], [none, none, none, some 126, some 127], [], [], [none, none, none, some 129, some 130], [], [], [none, none, none, some 132, some 133], [], [], [none, none, none, some 135, some 136], [], [], [none, none, none, some 138, some 139], [], [], [none, none, some 141, some 142, some 143, some 144, some 145, some 146, some 147, some 148, none, some 149], [], [], [], [], [], [], [], [], [], [some 2, some 140, none, some 151, some 152, some 153, some 154, some 155, some 156, some 157, some 158, some 159], [], [], [], [], [], [], [], [], [], [none, none, none, some 161, some 162], [], [], [none, none, some 164, some 165, some 166, some 167, some 168, some 169, some 170, some 171, none, some 172], [], [], [], [], [], [], [], [], [], [some 2, some 163, none, some 174, some 175, some 176, some 177, some 178, some 179, some 180, some 181, some 182], [], [], [], [], [], [], [], [], [], [none, none, none, none, none, some 184, none, none, none, none, none, none, none, none, none, none, some 185, some 186, some 187, none, none, some 188, some 189, some 190, some 191, some 192, some 193, some 194, some 195, some 196, some 197, some 198, some 199, some 200, none, some 201], [], [], [], [], [], [], [], [], [], [], [], [], [], [], [], [], [], []]
def kd0 (k : Nat) : Nat := kdL.getD k 99
def ln0 (k : Nat) : Nat := lnL.getD k 0
def rf0 (k j : Nat) : Option Nat := (rfL.getD k []).getD j none
def in0 (k j : Nat) : Int32 := if k = 183 ∧ j = 2 then -1 else 0
def cz_run1 : Option cz_S := cz_go 1000 mX10_init 0 (cz_en [.ref 0]) [] 1 (va_up (fun _ => 99) 0 10) (va_up (fun _ => 0) 0 0) (fun _ _ => 0) (fun _ _ => none) 0 0
def cz_run2 (S : cz_S) : Option cz_S := match S with
  | (cn, K, N, I, R) => cz_go 1000 mX12_init 0 (cz_en [.ref cn]) [] (cn + 1) (va_up K cn 12) (va_up N cn 0) I R 0 0
def cz_chk (S : cz_S) : Bool := match S with
  | (cn, K, N, I, R) => cn == 202 && (List.range 202).all (fun k => K k == kd0 k && N k == ln0 k && (List.range (rfL.getD k []).length).all (fun j => R k j == rf0 k j) && (List.range (max (ln0 k) 36)).all (fun j => I k j == in0 k j))
def cz_chk2 : Bool := match cz_run1 with
  | some S => S.1 == 183 && (match cz_run2 S with
    | some S2 => cz_chk S2
    | none => false)
  | none => false
theorem cz_chk2_ok : cz_chk2 = true := by decide +kernel
/-- a store as it stands behind both constructors -/
def cz_new0 (cn : Nat) (K N : Nat → Nat) (I : cz_I) (R : cz_R) (L : cz_L) : Prop :=
  202 ≤ cn ∧ (∀ k : Nat, k < 202 → K k = kd0 k) ∧ (∀ k : Nat, k < 202 → N k = ln0 k) ∧ (∀ k j : Nat, k < 202 → j < (rfL.getD k []).length → R k j = rf0 k j) ∧ (∀ k j : Nat, k < 202 → j < max (ln0 k) 36 → I k j = in0 k j) ∧ cz_Fr cn I R L
theorem cz_made : ∃ (K1 N1 : Nat → Nat) (I1 : cz_I) (R1 : cz_R) (K N : Nat → Nat) (I : cz_I) (R : cz_R), cz_go 1000 mX10_init 0 (cz_en [.ref 0]) [] 1 (va_up (fun _ => 99) 0 10) (va_up (fun _ => 0) 0 0) (fun _ _ => 0) (fun _ _ => none) 0 0 = some (183, K1, N1, I1, R1) ∧
    cz_go 1000 mX12_init 0 (cz_en [.ref 183]) [] 184 (va_up K1 183 12) (va_up N1 183 0) I1 R1 0 0 = some (202, K, N, I, R) ∧ cz_new0 202 K N I R (fun _ _ => 0) := by
  have h := cz_chk2_ok
  unfold cz_chk2 at h
  split at h
  · rename_i S1 h1
    obtain ⟨cn1, K1, N1, I1, R1⟩ := S1
    rw [Bool.and_eq_true] at h
    obtain ⟨h2, h3⟩ := h
    have h2 : cn1 = 183 := by simpa using h2
    subst h2
    split at h3
    · rename_i S2 h4
      obtain ⟨cn, K, N, I, R⟩ := S2
      unfold cz_chk at h3
      simp only [Bool.and_eq_true, beq_iff_eq, List.all_eq_true, List.mem_range] at h3
      obtain ⟨rfl, h5⟩ := h3
      obtain ⟨f1, -⟩ := cz_go_ok (fun _ _ => 0) _ _ _ _ _ _ _ _ _ _ _ _ _ _ _ _ _ h1 ⟨fun k _ => ⟨rfl, rfl, rfl⟩, fun k j x h => by cases h⟩
      obtain ⟨f2, -⟩ := cz_go_ok (fun _ _ => 0) _ _ _ _ _ _ _ _ _ _ _ _ _ _ _ _ _ h4 f1.more
      exact ⟨K1, N1, I1, R1, K, N, I, R, h1, h4, Nat.le_refl _, fun k hk => (h5 k hk).1.1.1, fun k hk => (h5 k hk).1.1.2, fun k j hk hj => (h5 k hk).1.2 j hj, fun k j hk hj => (h5 k hk).2 j hj, f2⟩
    · cases h3
  · cases h
theorem kd_0 : kd0 0 = 10 := by decide +kernel
theorem kd_1 : kd0 1 = 13 := by decide +kernel
theorem kd_2 : kd0 2 = 0 := by decide +kernel
theorem kd_3 : kd0 3 = 14 := by decide +kernel
theorem kd_4 : kd0 4 = 18 := by decide +kernel
theorem kd_5 : kd0 5 = 14 := by decide +kernel
theorem kd_6 : kd0 6 = 4 := by decide +kernel
theorem kd_7 : kd0 7 = 14 := by decide +kernel
theorem kd_8 : kd0 8 = 21 := by decide +kernel
theorem kd_9 : kd0 9 = 17 := by decide +kernel
theorem kd_10 : kd0 10 = 20 := by decide +kernel
theorem kd_11 : kd0 11 = 2 := by decide +kernel
theorem kd_12 : kd0 12 = 2 := by decide +kernel
theorem kd_13 : kd0 13 = 2 := by decide +kernel
theorem kd_14 : kd0 14 = 2 := by decide +kernel
theorem kd_15 : kd0 15 = 2 := by decide +kernel
theorem kd_16 : kd0 16 = 2 := by decide +kernel
theorem kd_17 : kd0 17 = 2 := by decide +kernel
theorem kd_18 : kd0 18 = 2 := by decide +kernel
theorem kd_19 : kd0 19 = 2 := by decide +kernel
theorem kd_20 : kd0 20 = 2 := by decide +kernel
theorem kd_21 : kd0 21 = 2 := by decide +kernel
theorem kd_22 : kd0 22 = 2 := by decide +kernel
theorem kd_23 : kd0 23 = 2 := by decide +kernel
theorem kd_24 : kd0 24 = 2 := by decide +kernel
theorem kd_25 : kd0 25 = 9 := by decide +kernel
theorem kd_26 : kd0 26 = 9 := by decide +kernel
theorem kd_27 : kd0 27 = 9 := by decide +kernel
theorem kd_28 : kd0 28 = 9 := by decide +kernel
theorem kd_29 : kd0 29 = 9 := by decide +kernel
theorem kd_30 : kd0 30 = 1 := by decide +kernel
theorem kd_31 : kd0 31 = 1 := by decide +kernel
theorem kd_32 : kd0 32 = 1 := by decide +kernel
theorem kd_33 : kd0 33 = 1 := by decide +kernel
theorem kd_34 : kd0 34 = 1 := by decide +kernel
theorem kd_35 : kd0 35 = 1 := by decide +kernel
theorem kd_36 : kd0 36 = 4 := by decide +kernel
theorem kd_37 : kd0 37 = 14 := by decide +kernel
theorem kd_38 : kd0 38 = 4 := by decide +kernel
theorem kd_39 : kd0 39 = 14 := by decide +kernel
theorem kd_40 : kd0 40 = 4 := by decide +kernel
theorem kd_41 : kd0 41 = 14 := by decide +kernel
theorem kd_42 : kd0 42 = 4 := by decide +kernel
theorem kd_43 : kd0 43 = 14 := by decide +kernel
theorem kd_44 : kd0 44 = 0 := by decide +kernel
theorem kd_45 : kd0 45 = 14 := by decide +kernel
theorem kd_46 : kd0 46 = 18 := by decide +kernel
theorem kd_47 : kd0 47 = 14 := by decide +kernel
theorem kd_48 : kd0 48 = 4 := by decide +kernel
theorem kd_49 : kd0 49 = 14 := by decide +kernel
theorem kd_50 : kd0 50 = 21 := by decide +kernel
theorem kd_51 : kd0 51 = 17 := by decide +kernel
theorem kd_52 : kd0 52 = 20 := by decide +kernel
theorem kd_53 : kd0 53 = 2 := by decide +kernel
theorem kd_54 : kd0 54 = 2 := by decide +kernel
theorem kd_55 : kd0 55 = 2 := by decide +kernel
theorem kd_56 : kd0 56 = 2 := by decide +kernel
theorem kd_57 : kd0 57 = 2 := by decide +kernel
theorem kd_58 : kd0 58 = 2 := by decide +kernel
theorem kd_59 : kd0 59 = 2 := by decide +kernel
theorem kd_60 : kd0 60 = 2 := by decide +kernel
theorem kd_61 : kd0 61 = 2 := by decide +kernel
theorem kd_62 : kd0 62 = 2 := by decide +kernel
theorem kd_63 : kd0 63 = 2 := by decide +kernel
theorem kd_64 : kd0 64 = 2 := by decide +kernel
theorem kd_65 : kd0 65 = 2 := by decide +kernel
theorem kd_66 : kd0 66 = 2 := by decide +kernel
theorem kd_67 : kd0 67 = 9 := by decide +kernel
theorem kd_68 : kd0 68 = 9 := by decide +kernel
theorem kd_69 : kd0 69 = 9 := by decide +kernel
theorem kd_70 : kd0 70 = 9 := by decide +kernel
theorem kd_71 : kd0 71 = 9 := by decide +kernel
theorem kd_72 : kd0 72 = 1 := by decide +kernel
theorem kd_73 : kd0 73 = 1 := by decide +kernel
theorem kd_74 : kd0 74 = 1 := by decide +kernel
theorem kd_75 : kd0 75 = 1 := by decide +kernel
theorem kd_76 : kd0 76 = 1 := by decide +kernel
theorem kd_77 : kd0 77 = 1 := by decide +kernel
theorem kd_78 : kd0 78 = 4 := by decide +kernel
theorem kd_79 : kd0 79 = 14 := by decide +kernel
theorem kd_80 : kd0 80 = 4 := by decide +kernel
theorem kd_81 : kd0 81 = 14 := by decide +kernel
theorem kd_82 : kd0 82 = 4 := by decide +kernel
theorem kd_83 : kd0 83 = 14 := by decide +kernel
theorem kd_84 : kd0 84 = 4 := by decide +kernel
theorem kd_85 : kd0 85 = 14 := by decide +kernel
theorem kd_86 : kd0 86 = 7 := by decide +kernel
theorem kd_87 : kd0 87 = 15 := by decide +kernel
theorem kd_88 : kd0 88 = 15 := by decide +kernel
theorem kd_89 : kd0 89 = 3 := by decide +kernel
theorem kd_90 : kd0 90 = 14 := by decide +kernel
theorem kd_91 : kd0 91 = 14 := by decide +kernel
theorem kd_92 : kd0 92 = 6 := by decide +kernel
theorem kd_93 : kd0 93 = 19 := by decide +kernel
theorem kd_94 : kd0 94 = 19 := by decide +kernel
theorem kd_95 : kd0 95 = 3 := by decide +kernel
theorem kd_96 : kd0 96 = 14 := by decide +kernel
theorem kd_97 : kd0 97 = 14 := by decide +kernel
theorem kd_98 : kd0 98 = 3 := by decide +kernel
theorem kd_99 : kd0 99 = 14 := by decide +kernel
theorem kd_100 : kd0 100 = 14 := by decide +kernel
theorem kd_101 : kd0 101 = 3 := by decide +kernel
theorem kd_102 : kd0 102 = 14 := by decide +kernel
theorem kd_103 : kd0 103 = 14 := by decide +kernel
theorem kd_104 : kd0 104 = 3 := by decide +kernel
theorem kd_105 : kd0 105 = 14 := by decide +kernel
theorem kd_106 : kd0 106 = 14 := by decide +kernel
theorem kd_107 : kd0 107 = 3 := by decide +kernel
theorem kd_108 : kd0 108 = 14 := by decide +kernel
theorem kd_109 : kd0 109 = 14 := by decide +kernel
theorem kd_110 : kd0 110 = 3 := by decide +kernel
theorem kd_111 : kd0 111 = 14 := by decide +kernel
theorem kd_112 : kd0 112 = 14 := by decide +kernel
theorem kd_113 : kd0 113 = 3 := by decide +kernel
theorem kd_114 : kd0 114 = 14 := by decide +kernel
theorem kd_115 : kd0 115 = 14 := by decide +kernel
theorem kd_116 : kd0 116 = 3 := by decide +kernel
theorem kd_117 : kd0 117 = 14 := by decide +kernel
theorem kd_118 : kd0 118 = 14 := by decide +kernel
theorem kd_119 : kd0 119 = 3 := by decide +kernel
theorem kd_120 : kd0 120 = 14 := by decide +kernel
theorem kd_121 : kd0 121 = 14 := by decide +kernel
theorem kd_122 : kd0 122 = 3 := by decide +kernel
theorem kd_123 : kd0 123 = 14 := by decide +kernel
theorem kd_124 : kd0 124 = 14 := by decide +kernel
theorem kd_125 : kd0 125 = 3 := by decide +kernel
theorem kd_126 : kd0 126 = 14 := by decide +kernel
theorem kd_127 : kd0 127 = 14 := by decide +kernel
theorem kd_128 : kd0 128 = 3 := by decide +kernel
theorem kd_129 : kd0 129 = 14 := by decide +kernel
theorem kd_130 : kd0 130 = 14 := by decide +kernel
theorem kd_131 : kd0 131 = 3 := by decide +kernel
theorem kd_132 : kd0 132 = 14 := by decide +kernel
theorem kd_133 : kd0 133 = 14 := by decide +kernel
theorem kd_134 : kd0 134 = 3 := by decide +kernel
theorem kd_135 : kd0 135 = 14 := by decide +kernel
theorem kd_136 : kd0 136 = 14 := by decide +kernel
theorem kd_137 : kd0 137 = 3 := by decide +kernel
theorem kd_138 : kd0 138 = 14 := by decide +kernel
theorem kd_139 : kd0 139 = 14 := by decide +kernel
theorem kd_140 : kd0 140 = 8 := by decide +kernel
theorem kd_141 : kd0 141 = 16 := by decide +kernel
theorem kd_142 : kd0 142 = 16 := by decide +kernel
theorem kd_143 : kd0 143 = 16 := by decide +kernel
theorem kd_144 : kd0 144 = 14 := by decide +kernel
theorem kd_145 : kd0 145 = 14 := by decide +kernel
theorem kd_146 : kd0 146 = 14 := by decide +kernel
theorem kd_147 : kd0 147 = 14 := by decide +kernel
theorem kd_148 : kd0 148 = 14 := by decide +kernel
theorem kd_149 : kd0 149 = 14 := by decide +kernel
theorem kd_150 : kd0 150 = 5 := by decide +kernel
theorem kd_151 : kd0 151 = 14 := by decide +kernel
theorem kd_152 : kd0 152 = 14 := by decide +kernel
theorem kd_153 : kd0 153 = 14 := by decide +kernel
theorem kd_154 : kd0 154 = 14 := by decide +kernel
theorem kd_155 : kd0 155 = 14 := by decide +kernel
theorem kd_156 : kd0 156 = 14 := by decide +kernel
theorem kd_157 : kd0 157 = 14 := by decide +kernel
theorem kd_158 : kd0 158 = 14 := by decide +kernel
theorem kd_159 : kd0 159 = 14 := by decide +kernel
theorem kd_160 : kd0 160 = 3 := by decide +kernel
theorem kd_161 : kd0 161 = 14 := by decide +kernel
theorem kd_162 : kd0 162 = 14 := by decide +kernel
theorem kd_163 : kd0 163 = 8 := by decide +kernel
theorem kd_164 : kd0 164 = 16 := by decide +kernel
theorem kd_165 : kd0 165 = 16 := by decide +kernel
theorem kd_166 : kd0 166 = 16 := by decide +kernel
theorem kd_167 : kd0 167 = 14 := by decide +kernel
theorem kd_168 : kd0 168 = 14 := by decide +kernel
theorem kd_169 : kd0 169 = 14 := by decide +kernel
theorem kd_170 : kd0 170 = 14 := by decide +kernel
theorem kd_171 : kd0 171 = 14 := by decide +kernel
theorem kd_172 : kd0 172 = 14 := by decide +kernel
theorem kd_173 : kd0 173 = 5 := by decide +kernel
theorem kd_174 : kd0 174 = 14 := by decide +kernel
theorem kd_175 : kd0 175 = 14 := by decide +kernel
theorem kd_176 : kd0 176 = 14 := by decide +kernel
theorem kd_177 : kd0 177 = 14 := by decide +kernel
theorem kd_178 : kd0 178 = 14 := by decide +kernel
theorem kd_179 : kd0 179 = 14 := by decide +kernel
theorem kd_180 : kd0 180 = 14 := by decide +kernel
theorem kd_181 : kd0 181 = 14 := by decide +kernel
theorem kd_182 : kd0 182 = 14 := by decide +kernel
theorem kd_183 : kd0 183 = 12 := by decide +kernel
theorem kd_184 : kd0 184 = 13 := by decide +kernel
theorem kd_185 : kd0 185 = 14 := by decide +kernel
theorem kd_186 : kd0 186 = 14 := by decide +kernel
theorem kd_187 : kd0 187 = 14 := by decide +kernel
theorem kd_188 : kd0 188 = 16 := by decide +kernel
theorem kd_189 : kd0 189 = 16 := by decide +kernel
theorem kd_190 : kd0 190 = 16 := by decide +kernel
theorem kd_191 : kd0 191 = 16 := by decide +kernel
theorem kd_192 : kd0 192 = 16 := by decide +kernel
theorem kd_193 : kd0 193 = 16 := by decide +kernel
theorem kd_194 : kd0 194 = 14 := by decide +kernel
theorem kd_195 : kd0 195 = 14 := by decide +kernel
theorem kd_196 : kd0 196 = 14 := by decide +kernel
theorem kd_197 : kd0 197 = 14 := by decide +kernel
theorem kd_198 : kd0 198 = 14 := by decide +kernel
theorem kd_199 : kd0 199 = 14 := by decide +kernel
theorem kd_200 : kd0 200 = 16 := by decide +kernel
theorem kd_201 : kd0 201 = 14 := by decide +kernel
theorem ln_1 : ln0 1 = 900 := by decide +kernel
theorem ln_3 : ln0 3 = 5 := by decide +kernel
theorem ln_4 : ln0 4 = 14 := by decide +kernel
theorem ln_5 : ln0 5 = 8 := by decide +kernel
theorem ln_7 : ln0 7 = 8 := by decide +kernel
theorem ln_8 : ln0 8 = 5 := by decide +kernel
theorem ln_9 : ln0 9 = 6 := by decide +kernel
theorem ln_10 : ln0 10 = 4 := by decide +kernel
theorem ln_37 : ln0 37 = 8 := by decide +kernel
theorem ln_39 : ln0 39 = 8 := by decide +kernel
theorem ln_41 : ln0 41 = 8 := by decide +kernel
theorem ln_43 : ln0 43 = 8 := by decide +kernel
theorem ln_45 : ln0 45 = 5 := by decide +kernel
theorem ln_46 : ln0 46 = 14 := by decide +kernel
theorem ln_47 : ln0 47 = 8 := by decide +kernel
theorem ln_49 : ln0 49 = 8 := by decide +kernel
theorem ln_50 : ln0 50 = 5 := by decide +kernel
theorem ln_51 : ln0 51 = 6 := by decide +kernel
theorem ln_52 : ln0 52 = 4 := by decide +kernel
theorem ln_79 : ln0 79 = 8 := by decide +kernel
theorem ln_81 : ln0 81 = 8 := by decide +kernel
theorem ln_83 : ln0 83 = 8 := by decide +kernel
theorem ln_85 : ln0 85 = 8 := by decide +kernel
theorem ln_87 : ln0 87 = 8 := by decide +kernel
theorem ln_88 : ln0 88 = 5 := by decide +kernel
theorem ln_90 : ln0 90 = 6 := by decide +kernel
theorem ln_91 : ln0 91 = 6 := by decide +kernel
theorem ln_93 : ln0 93 = 12 := by decide +kernel
theorem ln_94 : ln0 94 = 3 := by decide +kernel
theorem ln_96 : ln0 96 = 6 := by decide +kernel
theorem ln_97 : ln0 97 = 6 := by decide +kernel
theorem ln_99 : ln0 99 = 6 := by decide +kernel
theorem ln_100 : ln0 100 = 6 := by decide +kernel
theorem ln_102 : ln0 102 = 6 := by decide +kernel
theorem ln_103 : ln0 103 = 6 := by decide +kernel
theorem ln_105 : ln0 105 = 6 := by decide +kernel
theorem ln_106 : ln0 106 = 6 := by decide +kernel
theorem ln_108 : ln0 108 = 6 := by decide +kernel
theorem ln_109 : ln0 109 = 6 := by decide +kernel
theorem ln_111 : ln0 111 = 6 := by decide +kernel
theorem ln_112 : ln0 112 = 6 := by decide +kernel
theorem ln_114 : ln0 114 = 6 := by decide +kernel
theorem ln_115 : ln0 115 = 6 := by decide +kernel
theorem ln_117 : ln0 117 = 6 := by decide +kernel
theorem ln_118 : ln0 118 = 6 := by decide +kernel
theorem ln_120 : ln0 120 = 6 := by decide +kernel
theorem ln_121 : ln0 121 = 6 := by decide +kernel
theorem ln_123 : ln0 123 = 6 := by decide +kernel
theorem ln_124 : ln0 124 = 6 := by decide +kernel
theorem ln_126 : ln0 126 = 6 := by decide +kernel
theorem ln_127 : ln0 127 = 6 := by decide +kernel
theorem ln_129 : ln0 129 = 6 := by decide +kernel
theorem ln_130 : ln0 130 = 6 := by decide +kernel
theorem ln_132 : ln0 132 = 6 := by decide +kernel
theorem ln_133 : ln0 133 = 6 := by decide +kernel
theorem ln_135 : ln0 135 = 6 := by decide +kernel
theorem ln_136 : ln0 136 = 6 := by decide +kernel
theorem ln_138 : ln0 138 = 6 := by decide +kernel
theorem ln_139 : ln0 139 = 6 := by decide +kernel
theorem ln_141 : ln0 141 = 240 := by decide +kernel
theorem ln_142 : ln0 142 = 240 := by decide +kernel
theorem ln_143 : ln0 143 = 240 := by decide +kernel
theorem ln_144 : ln0 144 = 240 := by decide +kernel
theorem ln_145 : ln0 145 = 240 := by decide +kernel
theorem ln_146 : ln0 146 = 240 := by decide +kernel
theorem ln_147 : ln0 147 = 240 := by decide +kernel
theorem ln_148 : ln0 148 = 240 := by decide +kernel
theorem ln_149 : ln0 149 = 240 := by decide +kernel
theorem ln_151 : ln0 151 = 240 := by decide +kernel
theorem ln_152 : ln0 152 = 8 := by decide +kernel
theorem ln_153 : ln0 153 = 8 := by decide +kernel
theorem ln_154 : ln0 154 = 8 := by decide +kernel
theorem ln_155 : ln0 155 = 8 := by decide +kernel
theorem ln_156 : ln0 156 = 5 := by decide +kernel
theorem ln_157 : ln0 157 = 5 := by decide +kernel
theorem ln_158 : ln0 158 = 5 := by decide +kernel
theorem ln_159 : ln0 159 = 5 := by decide +kernel
theorem ln_161 : ln0 161 = 6 := by decide +kernel
theorem ln_162 : ln0 162 = 6 := by decide +kernel
theorem ln_164 : ln0 164 = 240 := by decide +kernel
theorem ln_165 : ln0 165 = 240 := by decide +kernel
theorem ln_166 : ln0 166 = 240 := by decide +kernel
theorem ln_167 : ln0 167 = 240 := by decide +kernel
theorem ln_168 : ln0 168 = 240 := by decide +kernel
theorem ln_169 : ln0 169 = 240 := by decide +kernel
theorem ln_170 : ln0 170 = 240 := by decide +kernel
theorem ln_171 : ln0 171 = 240 := by decide +kernel
theorem ln_172 : ln0 172 = 240 := by decide +kernel
theorem ln_174 : ln0 174 = 240 := by decide +kernel
theorem ln_175 : ln0 175 = 8 := by decide +kernel
theorem ln_176 : ln0 176 = 8 := by decide +kernel
theorem ln_177 : ln0 177 = 8 := by decide +kernel
theorem ln_178 : ln0 178 = 8 := by decide +kernel
theorem ln_179 : ln0 179 = 5 := by decide +kernel
theorem ln_180 : ln0 180 = 5 := by decide +kernel
theorem ln_181 : ln0 181 = 5 := by decide +kernel
theorem ln_182 : ln0 182 = 5 := by decide +kernel
theorem ln_184 : ln0 184 = 900 := by decide +kernel
theorem ln_185 : ln0 185 = 15 := by decide +kernel
theorem ln_186 : ln0 186 = 180 := by decide +kernel
theorem ln_187 : ln0 187 = 45 := by decide +kernel
theorem ln_188 : ln0 188 = 240 := by decide +kernel
theorem ln_189 : ln0 189 = 960 := by decide +kernel
theorem ln_190 : ln0 190 = 960 := by decide +kernel
theorem ln_191 : ln0 191 = 240 := by decide +kernel
theorem ln_192 : ln0 192 = 240 := by decide +kernel
theorem ln_193 : ln0 193 = 960 := by decide +kernel
theorem ln_194 : ln0 194 = 1920 := by decide +kernel
theorem ln_195 : ln0 195 = 5 := by decide +kernel
theorem ln_196 : ln0 196 = 8 := by decide +kernel
theorem ln_197 : ln0 197 = 8 := by decide +kernel
theorem ln_198 : ln0 198 = 8 := by decide +kernel
theorem ln_199 : ln0 199 = 8 := by decide +kernel
theorem ln_200 : ln0 200 = 1920 := by decide +kernel
theorem ln_201 : ln0 201 = 15 := by decide +kernel
theorem rf_0_0 : rf0 0 0 = some 1 := by decide +kernel
theorem rf_0_2 : rf0 0 2 = some 2 := by decide +kernel
theorem rf_0_3 : rf0 0 3 = some 44 := by decide +kernel
theorem rf_0_4 : rf0 0 4 = some 86 := by decide +kernel
theorem rf_0_6 : rf0 0 6 = some 89 := by decide +kernel
theorem rf_0_7 : rf0 0 7 = some 92 := by decide +kernel
theorem rf_0_8 : rf0 0 8 = some 140 := by decide +kernel
theorem rf_0_10 : rf0 0 10 = some 150 := by decide +kernel
theorem rf_0_12 : rf0 0 12 = some 160 := by decide +kernel
theorem rf_0_13 : rf0 0 13 = some 163 := by decide +kernel
theorem rf_0_14 : rf0 0 14 = some 173 := by decide +kernel
theorem rf_2_2 : rf0 2 2 = some 3 := by decide +kernel
theorem rf_2_4 : rf0 2 4 = some 4 := by decide +kernel
theorem rf_2_6 : rf0 2 6 = some 5 := by decide +kernel
theorem rf_2_8 : rf0 2 8 = some 6 := by decide +kernel
theorem rf_2_10 : rf0 2 10 = some 8 := by decide +kernel
theorem rf_2_12 : rf0 2 12 = some 9 := by decide +kernel
theorem rf_2_14 : rf0 2 14 = some 10 := by decide +kernel
theorem rf_4_0 : rf0 4 0 = some 11 := by decide +kernel
theorem rf_4_1 : rf0 4 1 = some 12 := by decide +kernel
theorem rf_4_2 : rf0 4 2 = some 13 := by decide +kernel
theorem rf_4_3 : rf0 4 3 = some 14 := by decide +kernel
theorem rf_4_4 : rf0 4 4 = some 15 := by decide +kernel
theorem rf_4_5 : rf0 4 5 = some 16 := by decide +kernel
theorem rf_4_6 : rf0 4 6 = some 17 := by decide +kernel
theorem rf_4_7 : rf0 4 7 = some 18 := by decide +kernel
theorem rf_4_8 : rf0 4 8 = some 19 := by decide +kernel
theorem rf_4_9 : rf0 4 9 = some 20 := by decide +kernel
theorem rf_4_10 : rf0 4 10 = some 21 := by decide +kernel
theorem rf_4_11 : rf0 4 11 = some 22 := by decide +kernel
theorem rf_4_12 : rf0 4 12 = some 23 := by decide +kernel
theorem rf_4_13 : rf0 4 13 = some 24 := by decide +kernel
theorem rf_6_1 : rf0 6 1 = some 7 := by decide +kernel
theorem rf_8_0 : rf0 8 0 = some 25 := by decide +kernel
theorem rf_8_1 : rf0 8 1 = some 26 := by decide +kernel
theorem rf_8_2 : rf0 8 2 = some 27 := by decide +kernel
theorem rf_8_3 : rf0 8 3 = some 28 := by decide +kernel
theorem rf_8_4 : rf0 8 4 = some 29 := by decide +kernel
theorem rf_9_0 : rf0 9 0 = some 30 := by decide +kernel
theorem rf_9_1 : rf0 9 1 = some 31 := by decide +kernel
theorem rf_9_2 : rf0 9 2 = some 32 := by decide +kernel
theorem rf_9_3 : rf0 9 3 = some 33 := by decide +kernel
theorem rf_9_4 : rf0 9 4 = some 34 := by decide +kernel
theorem rf_9_5 : rf0 9 5 = some 35 := by decide +kernel
theorem rf_10_0 : rf0 10 0 = some 36 := by decide +kernel
theorem rf_10_1 : rf0 10 1 = some 38 := by decide +kernel
theorem rf_10_2 : rf0 10 2 = some 40 := by decide +kernel
theorem rf_10_3 : rf0 10 3 = some 42 := by decide +kernel
theorem rf_36_1 : rf0 36 1 = some 37 := by decide +kernel
theorem rf_38_1 : rf0 38 1 = some 39 := by decide +kernel
theorem rf_40_1 : rf0 40 1 = some 41 := by decide +kernel
theorem rf_42_1 : rf0 42 1 = some 43 := by decide +kernel
theorem rf_44_2 : rf0 44 2 = some 45 := by decide +kernel
theorem rf_44_4 : rf0 44 4 = some 46 := by decide +kernel
theorem rf_44_6 : rf0 44 6 = some 47 := by decide +kernel
theorem rf_44_8 : rf0 44 8 = some 48 := by decide +kernel
theorem rf_44_10 : rf0 44 10 = some 50 := by decide +kernel
theorem rf_44_12 : rf0 44 12 = some 51 := by decide +kernel
theorem rf_44_14 : rf0 44 14 = some 52 := by decide +kernel
theorem rf_46_0 : rf0 46 0 = some 53 := by decide +kernel
theorem rf_46_1 : rf0 46 1 = some 54 := by decide +kernel
theorem rf_46_2 : rf0 46 2 = some 55 := by decide +kernel
theorem rf_46_3 : rf0 46 3 = some 56 := by decide +kernel
theorem rf_46_4 : rf0 46 4 = some 57 := by decide +kernel
theorem rf_46_5 : rf0 46 5 = some 58 := by decide +kernel
theorem rf_46_6 : rf0 46 6 = some 59 := by decide +kernel
theorem rf_46_7 : rf0 46 7 = some 60 := by decide +kernel
theorem rf_46_8 : rf0 46 8 = some 61 := by decide +kernel
theorem rf_46_9 : rf0 46 9 = some 62 := by decide +kernel
theorem rf_46_10 : rf0 46 10 = some 63 := by decide +kernel
theorem rf_46_11 : rf0 46 11 = some 64 := by decide +kernel
theorem rf_46_12 : rf0 46 12 = some 65 := by decide +kernel
theorem rf_46_13 : rf0 46 13 = some 66 := by decide +kernel
theorem rf_48_1 : rf0 48 1 = some 49 := by decide +kernel
theorem rf_50_0 : rf0 50 0 = some 67 := by decide +kernel
theorem rf_50_1 : rf0 50 1 = some 68 := by decide +kernel
theorem rf_50_2 : rf0 50 2 = some 69 := by decide +kernel
theorem rf_50_3 : rf0 50 3 = some 70 := by decide +kernel
theorem rf_50_4 : rf0 50 4 = some 71 := by decide +kernel
theorem rf_51_0 : rf0 51 0 = some 72 := by decide +kernel
theorem rf_51_1 : rf0 51 1 = some 73 := by decide +kernel
theorem rf_51_2 : rf0 51 2 = some 74 := by decide +kernel
theorem rf_51_3 : rf0 51 3 = some 75 := by decide +kernel
theorem rf_51_4 : rf0 51 4 = some 76 := by decide +kernel
theorem rf_51_5 : rf0 51 5 = some 77 := by decide +kernel
theorem rf_52_0 : rf0 52 0 = some 78 := by decide +kernel
theorem rf_52_1 : rf0 52 1 = some 80 := by decide +kernel
theorem rf_52_2 : rf0 52 2 = some 82 := by decide +kernel
theorem rf_52_3 : rf0 52 3 = some 84 := by decide +kernel
theorem rf_78_1 : rf0 78 1 = some 79 := by decide +kernel
theorem rf_80_1 : rf0 80 1 = some 81 := by decide +kernel
theorem rf_82_1 : rf0 82 1 = some 83 := by decide +kernel
theorem rf_84_1 : rf0 84 1 = some 85 := by decide +kernel
theorem rf_86_0 : rf0 86 0 = some 1 := by decide +kernel
theorem rf_86_10 : rf0 86 10 = some 44 := by decide +kernel
theorem rf_86_13 : rf0 86 13 = some 87 := by decide +kernel
theorem rf_86_14 : rf0 86 14 = some 88 := by decide +kernel
theorem rf_89_3 : rf0 89 3 = some 90 := by decide +kernel
theorem rf_89_4 : rf0 89 4 = some 91 := by decide +kernel
theorem rf_92_1 : rf0 92 1 = some 93 := by decide +kernel
theorem rf_92_3 : rf0 92 3 = some 94 := by decide +kernel
theorem rf_93_0 : rf0 93 0 = some 95 := by decide +kernel
theorem rf_93_1 : rf0 93 1 = some 98 := by decide +kernel
theorem rf_93_2 : rf0 93 2 = some 101 := by decide +kernel
theorem rf_93_3 : rf0 93 3 = some 104 := by decide +kernel
theorem rf_93_4 : rf0 93 4 = some 107 := by decide +kernel
theorem rf_93_5 : rf0 93 5 = some 110 := by decide +kernel
theorem rf_93_6 : rf0 93 6 = some 113 := by decide +kernel
theorem rf_93_7 : rf0 93 7 = some 116 := by decide +kernel
theorem rf_93_8 : rf0 93 8 = some 119 := by decide +kernel
theorem rf_93_9 : rf0 93 9 = some 122 := by decide +kernel
theorem rf_93_10 : rf0 93 10 = some 125 := by decide +kernel
theorem rf_93_11 : rf0 93 11 = some 128 := by decide +kernel
theorem rf_94_0 : rf0 94 0 = some 131 := by decide +kernel
theorem rf_94_1 : rf0 94 1 = some 134 := by decide +kernel
theorem rf_94_2 : rf0 94 2 = some 137 := by decide +kernel
theorem rf_95_3 : rf0 95 3 = some 96 := by decide +kernel
theorem rf_95_4 : rf0 95 4 = some 97 := by decide +kernel
theorem rf_98_3 : rf0 98 3 = some 99 := by decide +kernel
theorem rf_98_4 : rf0 98 4 = some 100 := by decide +kernel
theorem rf_101_3 : rf0 101 3 = some 102 := by decide +kernel
theorem rf_101_4 : rf0 101 4 = some 103 := by decide +kernel
theorem rf_104_3 : rf0 104 3 = some 105 := by decide +kernel
theorem rf_104_4 : rf0 104 4 = some 106 := by decide +kernel
theorem rf_107_3 : rf0 107 3 = some 108 := by decide +kernel
theorem rf_107_4 : rf0 107 4 = some 109 := by decide +kernel
theorem rf_110_3 : rf0 110 3 = some 111 := by decide +kernel
theorem rf_110_4 : rf0 110 4 = some 112 := by decide +kernel
theorem rf_113_3 : rf0 113 3 = some 114 := by decide +kernel
theorem rf_113_4 : rf0 113 4 = some 115 := by decide +kernel
theorem rf_116_3 : rf0 116 3 = some 117 := by decide +kernel
theorem rf_116_4 : rf0 116 4 = some 118 := by decide +kernel
theorem rf_119_3 : rf0 119 3 = some 120 := by decide +kernel
theorem rf_119_4 : rf0 119 4 = some 121 := by decide +kernel
theorem rf_122_3 : rf0 122 3 = some 123 := by decide +kernel
theorem rf_122_4 : rf0 122 4 = some 124 := by decide +kernel
theorem rf_125_3 : rf0 125 3 = some 126 := by decide +kernel
theorem rf_125_4 : rf0 125 4 = some 127 := by decide +kernel
theorem rf_128_3 : rf0 128 3 = some 129 := by decide +kernel
theorem rf_128_4 : rf0 128 4 = some 130 := by decide +kernel
theorem rf_131_3 : rf0 131 3 = some 132 := by decide +kernel
theorem rf_131_4 : rf0 131 4 = some 133 := by decide +kernel
theorem rf_134_3 : rf0 134 3 = some 135 := by decide +kernel
theorem rf_134_4 : rf0 134 4 = some 136 := by decide +kernel
theorem rf_137_3 : rf0 137 3 = some 138 := by decide +kernel
theorem rf_137_4 : rf0 137 4 = some 139 := by decide +kernel
theorem rf_140_2 : rf0 140 2 = some 141 := by decide +kernel
theorem rf_140_3 : rf0 140 3 = some 142 := by decide +kernel
theorem rf_140_4 : rf0 140 4 = some 143 := by decide +kernel
theorem rf_140_5 : rf0 140 5 = some 144 := by decide +kernel
theorem rf_140_6 : rf0 140 6 = some 145 := by decide +kernel
theorem rf_140_7 : rf0 140 7 = some 146 := by decide +kernel
theorem rf_140_8 : rf0 140 8 = some 147 := by decide +kernel
theorem rf_140_9 : rf0 140 9 = some 148 := by decide +kernel
theorem rf_140_11 : rf0 140 11 = some 149 := by decide +kernel
theorem rf_150_0 : rf0 150 0 = some 2 := by decide +kernel
theorem rf_150_1 : rf0 150 1 = some 140 := by decide +kernel
theorem rf_150_3 : rf0 150 3 = some 151 := by decide +kernel
theorem rf_150_4 : rf0 150 4 = some 152 := by decide +kernel
theorem rf_150_5 : rf0 150 5 = some 153 := by decide +kernel
theorem rf_150_6 : rf0 150 6 = some 154 := by decide +kernel
theorem rf_150_7 : rf0 150 7 = some 155 := by decide +kernel
theorem rf_150_8 : rf0 150 8 = some 156 := by decide +kernel
theorem rf_150_9 : rf0 150 9 = some 157 := by decide +kernel
theorem rf_150_10 : rf0 150 10 = some 158 := by decide +kernel
theorem rf_150_11 : rf0 150 11 = some 159 := by decide +kernel
theorem rf_160_3 : rf0 160 3 = some 161 := by decide +kernel
theorem rf_160_4 : rf0 160 4 = some 162 := by decide +kernel
theorem rf_163_2 : rf0 163 2 = some 164 := by decide +kernel
theorem rf_163_3 : rf0 163 3 = some 165 := by decide +kernel
theorem rf_163_4 : rf0 163 4 = some 166 := by decide +kernel
theorem rf_163_5 : rf0 163 5 = some 167 := by decide +kernel
theorem rf_163_6 : rf0 163 6 = some 168 := by decide +kernel
theorem rf_163_7 : rf0 163 7 = some 169 := by decide +kernel
theorem rf_163_8 : rf0 163 8 = some 170 := by decide +kernel
theorem rf_163_9 : rf0 163 9 = some 171 := by decide +kernel
theorem rf_163_11 : rf0 163 11 = some 172 := by decide +kernel
theorem rf_173_0 : rf0 173 0 = some 2 := by decide +kernel
theorem rf_173_1 : rf0 173 1 = some 163 := by decide +kernel
theorem rf_173_3 : rf0 173 3 = some 174 := by decide +kernel
theorem rf_173_4 : rf0 173 4 = some 175 := by decide +kernel
theorem rf_173_5 : rf0 173 5 = some 176 := by decide +kernel
theorem rf_173_6 : rf0 173 6 = some 177 := by decide +kernel
theorem rf_173_7 : rf0 173 7 = some 178 := by decide +kernel
theorem rf_173_8 : rf0 173 8 = some 179 := by decide +kernel
theorem rf_173_9 : rf0 173 9 = some 180 := by decide +kernel
theorem rf_173_10 : rf0 173 10 = some 181 := by decide +kernel
theorem rf_173_11 : rf0 173 11 = some 182 := by decide +kernel
theorem rf_183_5 : rf0 183 5 = some 184 := by decide +kernel
theorem rf_183_16 : rf0 183 16 = some 185 := by decide +kernel
theorem rf_183_17 : rf0 183 17 = some 186 := by decide +kernel
theorem rf_183_18 : rf0 183 18 = some 187 := by decide +kernel
theorem rf_183_21 : rf0 183 21 = some 188 := by decide +kernel
theorem rf_183_22 : rf0 183 22 = some 189 := by decide +kernel
theorem rf_183_23 : rf0 183 23 = some 190 := by decide +kernel
theorem rf_183_24 : rf0 183 24 = some 191 := by decide +kernel
theorem rf_183_25 : rf0 183 25 = some 192 := by decide +kernel
theorem rf_183_26 : rf0 183 26 = some 193 := by decide +kernel
theorem rf_183_27 : rf0 183 27 = some 194 := by decide +kernel
theorem rf_183_28 : rf0 183 28 = some 195 := by decide +kernel
theorem rf_183_29 : rf0 183 29 = some 196 := by decide +kernel
theorem rf_183_30 : rf0 183 30 = some 197 := by decide +kernel
theorem rf_183_31 : rf0 183 31 = some 198 := by decide +kernel
theorem rf_183_32 : rf0 183 32 = some 199 := by decide +kernel
theorem rf_183_33 : rf0 183 33 = some 200 := by decide +kernel
theorem rf_183_35 : rf0 183 35 = some 201 := by decide +kernel
