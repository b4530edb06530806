section CzInl
variable {X : cz_X} {M : cz_M} {pc : Nat} {ls : Nat → Option Value} {st : List Value} {cn : Nat} {K N : Nat → Nat} {I : cz_I} {R : cz_R} {L : cz_L} {n w : Nat}
/-! ===== the script ===== -/
def cz_scr : cz_X → Nat → (Nat → Int32) → Prop
  | (_, _, _, s, _, _, _, _, _, A, _, g), Ln, xs => va_X (cz_sa g 1000000) Ln xs s s.heap ∧ cz_sa g 1000000 < s.heap.size ∧ ¬ A (cz_sa g 1000000)
theorem tr_sld {Ln : Nat} {xs : Nat → Int32} {i : Int32} (hs : cz_scr X Ln xs) (hd : decode (cz_cc M) pc = .ok (.iaload, 1)) (hi : vp_in i Ln) (k : Tr X M (pc + 1) ls (.int (xs i.toNatClampNeg) :: st) cn K N I R L n w) : Tr X M pc ls (.int i :: .float 1000000 :: st) cn K N I R L n w := by
  obtain ⟨p, l, e, s, m, args, below, meth, c, A, Z, g⟩ := X
  intro hC H locs arr hR hS hl
  have hk := k hC H locs arr hR hS hl
  exact va_sld hC.1 hC.2.1 hs.1 hs.2.1 hs.2.2 hS hi hd hk
theorem tr_slen {Ln : Nat} {xs : Nat → Int32} (hs : cz_scr X Ln xs) (hd : decode (cz_cc M) pc = .ok (.arraylength, 1)) (k : Tr X M (pc + 1) ls (.int (Int32.ofNat Ln) :: st) cn K N I R L n w) : Tr X M pc ls (.float 1000000 :: st) cn K N I R L n w := by
  obtain ⟨p, l, e, s, m, args, below, meth, c, A, Z, g⟩ := X
  intro hC H locs arr hR hS hl
  have hk := k hC H locs arr hR hS hl
  exact va_slen hC.1 hC.2.1 hs.1 hs.2.1 hs.2.2 hS hd hk
end CzInl
