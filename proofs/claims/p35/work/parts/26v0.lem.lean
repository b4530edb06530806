/-! ===== LINES go on ===== -/
section CzLg
variable {B : cz_B} {Q : Nat → Int} {s : Int}
theorem tkN_ge (B : cz_B) (s : Int) : s ≤ tkN B s := (tkN_go B s).1
theorem riS_ge : ∀ (k : Nat) (lo s : Int), s ≤ riS B Q k lo s := by
  intro k
  induction k with
  | zero => intro lo s; rw [riS]; exact Int.le_refl _
  | succ k ih =>
    intro lo s; rw [riS]
    have h1 := tkN_ge B s
    have h2 := tkN_ge B (tkN B s)
    have h3 := ih (tkV B s + 1) (tkN B (tkN B s))
    split <;> omega
theorem huS_ge : ∀ (k : Nat) (h s : Int), s ≤ huS B Q k h s := by
  intro k
  induction k with
  | zero => intro h s; rw [huS]; exact Int.le_refl _
  | succ k ih =>
    intro h s; rw [huS]
    have h1 := tkN_ge B s
    have h2 := tkN_ge B (tkN B s)
    have h3 := ih (h + pw (tkV B s)) (tkN B (tkN B s))
    split <;> omega
theorem nk_ge (B : cz_B) (s : Int) : s ≤ tkN B (tkN B (tkN B (tkN B s))) ∧ s ≤ tkN B (tkN B (tkN B s)) := by
  have h1 := tkN_ge B s
  have h2 := tkN_ge B (tkN B s)
  have h3 := tkN_ge B (tkN B (tkN B s))
  have h4 := tkN_ge B (tkN B (tkN B (tkN B s)))
  exact om_93f743ca h1 h2 h3 h4
theorem bdS_ge (B : cz_B) (Q : Nat → Int) (k s : Int) : s ≤ bdS B Q k s := by
  have a0 := tkN_ge B s
  have a1 := nk_ge B s
  have a2 := nk_ge B (tkN B (tkN B (tkN B (tkN B s))))
  have a3 := nk_ge B (tkN B (tkN B (tkN B (tkN B (tkN B (tkN B (tkN B (tkN B s))))))))
  have a4 := nk_ge B (tkN B (tkN B (tkN B s)))
  have b1 := tkN_ge B (tkN B (tkN B (tkN B (tkN B (tkN B (tkN B (tkN B (tkN B (tkN B (tkN B (tkN B (tkN B s))))))))))))
  have b2 := tkN_ge B (tkN B (tkN B (tkN B (tkN B (tkN B (tkN B (tkN B (tkN B (tkN B (tkN B (tkN B (tkN B (tkN B s)))))))))))))
  have r := riS_ge (B := B) (Q := Q) 8 0 s
  have u := huS_ge (B := B) (Q := Q) 901 0 (tkN B (tkN B (tkN B (tkN B (tkN B (tkN B (tkN B (tkN B (tkN B (tkN B (tkN B s)))))))))))
  have u3 := nk_ge B (tkN B (tkN B (tkN B (tkN B (tkN B (tkN B (tkN B (tkN B s))))))))
  have c7 := nk_ge B (tkN B (tkN B (tkN B (tkN B s))))
  simp only [bdS, chS, tuS, evS]
  repeat' (first | split | omega)
theorem srt_K (h : ¬ srt B s = -1) : tkK B s = 1 := by
  apply Classical.byContradiction
  intro q; exact h (srt_nk q)
theorem lnF_srt (h : lnF B Q s = 0) : ¬ srt B s = -1 := by
  intro q; rw [lnF, if_pos q] at h; cases h
theorem ls_go (h : lnF B Q s = 0) : tkS B s + 1 ≤ tkS B (tkN B (lnS B Q s)) := by
  have hK := srt_K (lnF_srt h)
  have h1 := tkS_nx B s (by exact om_21cdfca3 hK)
  have h2 := bdS_ge B Q (srt B s) (tkN B s)
  have h3 : lnS B Q s = bdS B Q (srt B s) (tkN B s) := rfl
  have h4 := tkN_ge B (lnS B Q s)
  have h5 := (tkS_le B (tkN B (lnS B Q s))).1
  have h6 : tkS B s + 1 ≤ tkN B s := by
    have z := tkN_go B s
    have h2 := tkE_le B (tkS B s + 1)
    have h3 := tkD_le B (tkS B s + 1)
    have h4 := tkE_eq B (tkS B s)
    have h5 := tkD_eq B (tkS B s)
    unfold tkN
    by_cases c1 : B.2 ≤ tkS B s
    · have : tkK B s = 0 := by rw [tkK, if_pos c1]
      exact om_845d6ff5 hK this
    · rw [if_neg c1]
      by_cases c2 : 97 ≤ tkb B (tkS B s) ∧ tkb B (tkS B s) ≤ 122
      · rw [if_pos c2] at h4 ⊢; exact om_02cbf5b2 h2.1 h4
      · rw [if_neg c2]
        by_cases c3 : 48 ≤ tkb B (tkS B s) ∧ tkb B (tkS B s) ≤ 57
        · rw [if_pos c3] at h5 ⊢; exact om_02cbf5b2 h3.1 h5
        · rw [if_neg c3]; exact om_cb17a878
  exact om_a2f23548 h2 h3 h4 h5 h6
theorem alF_mi (h : alF B Q s = 0) : 10 ≤ tkV B (tkN B s) := by
  apply Classical.byContradiction
  intro q
  have e := alF_ch B Q s
  have e1 : alF B Q s = 1 ∨ alF B Q s = 4 := by
    by_cases c1 : ¬ (tkK B s = 1 ∧ tkW B s = 14276022451)
    · exact Or.inl (e.pos c1)
    · have e := e.neg c1
      by_cases c2 : ¬ tkK B (tkN B s) = 2
      · exact Or.inl (e.pos c2)
      · have e := e.neg c2
        exact Or.inr (e.pos (by exact om_fc96bc73 q))
  exact om_aea0523d h e1
theorem Q7M.ln (h : lnF B Q s = 0) (h7 : Q7M (Q 0) (Q 7)) : Q7M (lnQ B Q s 0) (lnQ B Q s 7) ∧ lnQ B Q s 7 = 1 ∧ 10 ≤ lnQ B Q s 0 := by
  by_cases hk : srt B s = 10
  · obtain ⟨w0, w1, w2, q0, q1, q2, q3, q4, q5, q6, q7, q8⟩ := lnl_10 (B := B) (Q := Q) (s := s) hk
    have e := lnF_ch B Q s
    have hb : lnF B Q s = bdF B Q (srt B s) (tkN B s) := by
      have e := e.neg (by exact om_c465422e hk)
      by_cases c : (srt B s = 10 ∧ Q 7 = 1) ∨ (srt B s = 6 ∧ Q 8 = 1)
      · have := e.pos c; unfold ChE at this; exact om_7c87b99f h this
      · have e := (e.neg c).neg (by exact om_a2747490 hk)
        exact e.neg (by exact om_76457f53 hk)
    have hm := alF_mi (B := B) (Q := Q) (s := tkN B s) (by exact om_865135b4 h w0 hb)
    refine ⟨Or.inr ⟨q7, by exact om_896ff54b q0 hm⟩, q7, by exact om_896ff54b q0 hm⟩
  · have e := lnF_ch B Q s
    have h71 : Q 7 = 1 := by
      apply Classical.byContradiction
      intro hn
      have e := e.neg (lnF_srt h)
      by_cases c : (srt B s = 10 ∧ Q 7 = 1) ∨ (srt B s = 6 ∧ Q 8 = 1)
      · have := e.pos c; unfold ChE at this; exact om_e78263e7 h this
      · have e := e.neg c
        by_cases c2 : ((srt B s = 5 ∧ 8 ≤ Q 3) ∨ (srt B s = 7 ∧ 5 ≤ Q 4) ∨ (srt B s = 8 ∧ 6 ≤ Q 5) ∨ (srt B s = 9 ∧ 4 ≤ Q 6) ∨ (0 ≤ srt B s ∧ srt B s ≤ 4 ∧ 14 ≤ Q 2))
        · have := e.pos c2; unfold ChE at this; exact om_e2eee087 h this
        · have e := e.neg c2
          have := e.pos ⟨hk, hn⟩; unfold ChE at this; exact om_2050f4ea h this
    have e0 : lnQ B Q s 0 = Q 0 := by simp only [lnQ, bdQ]; exact om_0a6e37cc hk
    have e7 : lnQ B Q s 7 = Q 7 := by simp only [lnQ, bdQ]; exact om_a63e4a92 h71
    unfold Q7M at *
    exact om_ae9f9a0c h7 hk h71 e0 e7
end CzLg
