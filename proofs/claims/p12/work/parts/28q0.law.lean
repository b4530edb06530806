section CzN16
variable {Z : cz_N} {k m t : Nat} {mi w : Int} {f : Nat → Int}
theorem mB_lt : ∀ u : Nat, mB Z mi f u k = -2 ∨ (0 ≤ mB Z mi f u k ∧ mB Z mi f u k < (u : Int))
  | 0 => Or.inl rfl
  | u + 1 => by
    have ih := mB_lt u
    rw [mBi_s]
    by_cases a : akZ Z mi f u = 1
    · rw [if_pos a]; unfold tqB
      by_cases b : tqG (mB Z mi f u) (nzT Z (14 + u) 3) (elZ Z u mi) k = 1
      · rw [if_pos b]; exact Or.inr ⟨by omega, by omega⟩
      · rw [if_neg b]; rcases ih with h | h
        · exact Or.inl h
        · exact Or.inr ⟨h.1, by omega⟩
    · rw [if_neg a]; rcases ih with h | h
      · exact Or.inl h
      · exact Or.inr ⟨h.1, by omega⟩
theorem mB_is : ∀ d : Nat, mB Z mi f (t + 1 + d) k = (t : Int) ↔ mG Z mi f t k = 1
  | 0 => by
    have z := mB_lt (Z := Z) (k := k) (mi := mi) (f := f) t
    show mB Z mi f (t + 1) k = (t : Int) ↔ _
    rw [mBi_s]; unfold mG
    by_cases a : akZ Z mi f t = 1
    · rw [if_pos a, if_pos a]; unfold tqB
      by_cases b : tqG (mB Z mi f t) (nzT Z (14 + t) 3) (elZ Z t mi) k = 1
      · rw [if_pos b]; exact ⟨fun _ => b, fun _ => rfl⟩
      · rw [if_neg b]; exact ⟨fun h => by omega, fun h => absurd h b⟩
    · rw [if_neg a, if_neg a]; exact ⟨fun h => by omega, fun h => by omega⟩
  | d + 1 => by
    have ih := mB_is d
    rw [show t + 1 + (d + 1) = t + 1 + d + 1 by omega, mBi_s]
    by_cases a : akZ Z mi f (t + 1 + d) = 1
    · rw [if_pos a]; unfold tqB
      by_cases b : tqG (mB Z mi f (t + 1 + d)) (nzT Z (14 + (t + 1 + d)) 3) (elZ Z (t + 1 + d) mi) k = 1
      · rw [if_pos b]
        have q : mB Z mi f (t + 1 + d) k = -2 := by
          unfold tqG at b
          by_cases y : tqN (mB Z mi f (t + 1 + d)) (nzT Z (14 + (t + 1 + d)) 3) (elZ Z (t + 1 + d) mi) k < nzT Z (14 + (t + 1 + d)) 3 ∧ mB Z mi f (t + 1 + d) k = -2 ∧ elZ Z (t + 1 + d) mi k = 1
          · exact y.2.1
          · rw [if_neg y] at b; omega
        exact ⟨fun h => by omega, fun h => by have := ih.mpr h; omega⟩
      · rw [if_neg b]; exact ih
    · rw [if_neg a]; exact ih
theorem nB_is (h : 0 < m) (ht : (t : Int) < nzc Z 4) : nB Z m k = (t : Int) ↔ mG Z (m : Int) (nF Z m) t k = 1 := by
  rw [nB_pos h]
  have z := mB_is (Z := Z) (k := k) (t := t) (mi := (m : Int)) (f := nF Z m) ((nzc Z 4).toNat - (t + 1))
  rw [show t + 1 + ((nzc Z 4).toNat - (t + 1)) = (nzc Z 4).toNat by omega] at z; exact z
theorem wkC_pos (h : 0 < m) (ht : (t : Int) < nzc Z 4) : cnM (wkC Z m t) (nzc Z 3).toNat = mK Z (m : Int) (nF Z m) t := by
  unfold mK
  refine cnM_cg _ (fun k _ => ?_)
  have z := nB_is (k := k) h ht
  have y := mG_01 (Z := Z) (mi := (m : Int)) (f := nF Z m) t k
  unfold wkC
  by_cases q : nB Z m k = (t : Int)
  · rw [if_pos q]; exact (z.mp q).symm
  · rw [if_neg q]
    have := fun w => q (z.mpr w)
    omega
theorem wkR_pos (h : 0 < m) (ht : (t : Int) < nzc Z 4) : cnM (wkR Z m t) (nzc Z 3).toNat = mS Z (m : Int) (nF Z m) t := by
  unfold mS
  refine cnM_cg _ (fun k _ => ?_)
  have z := nB_is (k := k) h ht
  unfold wkR
  by_cases q : nB Z m k = (t : Int) ∧ nzC Z (nzT Z 35 k) m = 1
  · rw [if_pos q, if_pos ⟨z.mp q.1, q.2⟩]
  · rw [if_neg q, if_neg (fun w => q ⟨z.mpr w.1, w.2⟩)]
theorem wkC_0 : cnM (wkC Z 0 t) (nzc Z 3).toNat = 0 := cnM_0 _ (fun k _ => if_neg (by rw [nB_z]; omega))
theorem wkR_0 : cnM (wkR Z 0 t) (nzc Z 3).toNat = 0 := cnM_0 _ (fun k _ => if_neg (fun q => by have z := q.1; rw [nB_z] at z; omega))
theorem mK_nn (h8 : nzc Z 3 ≤ 8) : 0 ≤ mK Z mi f t := by
  unfold mK; exact (cnM_b _ (fun _ _ => mG_01 _ _)).1
/-- what both say of a turner's work -/
theorem wk_eq (ht : (t : Int) < nzc Z 4) (w0 : 0 ≤ w) (w3 : w ≤ 3) : cnM (wmZ Z t w) (nzc Z 0).toNat = wkZ Z t w := by
  have e : w = 0 ∨ w = 1 ∨ w = 2 ∨ w = 3 := by omega
  rcases e with rfl | rfl | rfl | rfl
  · unfold wkZ; rw [if_pos rfl]; unfold qT
    refine cnM_cg _ (fun m _ => ?_)
    unfold wmZ; rw [if_pos rfl]
    by_cases q : 0 < m
    · rw [if_pos q]; exact wkC_pos q ht
    · rw [if_neg q]; obtain rfl : m = 0 := (by omega); exact wkC_0
  · unfold wkZ; rw [if_neg (by decide), if_pos rfl]; unfold qS
    refine cnM_cg _ (fun m _ => ?_)
    unfold wmZ; rw [if_neg (by decide), if_pos rfl]
    by_cases q : 0 < m
    · rw [if_pos q]; exact wkR_pos q ht
    · rw [if_neg q]; obtain rfl : m = 0 := (by omega); exact wkR_0
  · unfold wkZ; rw [if_neg (by decide), if_neg (by decide), if_pos rfl]; unfold qN
    refine cnM_cg _ (fun m _ => ?_)
    unfold wmZ; rw [if_neg (by decide), if_neg (by decide), if_pos rfl]
    by_cases q : 0 < m
    · rw [wkC_pos q ht]
      by_cases y : 0 < mK Z (m : Int) (nF Z m) t
      · rw [if_pos y, if_pos ⟨q, y⟩]
      · rw [if_neg y, if_neg (fun w => y w.2)]
    · obtain rfl : m = 0 := (by omega)
      rw [wkC_0, if_neg (by decide), if_neg (fun w => absurd w.1 (by decide))]
  · unfold wkZ; rw [if_neg (by decide), if_neg (by decide), if_neg (by decide)]
    refine cnM_cg _ (fun m _ => ?_)
    unfold wmZ; rw [if_neg (by decide), if_neg (by decide), if_neg (by decide)]
end CzN16
