theorem stepD {t : Nat} {z w z2 w2 z1 w1' : Sg} {b going : Int32} (ht : t < 2 ^ 30) (hb : b = -1 ∨ ∃ n : Nat, n < 256 ∧ b = nI n) (hC : Ct t z2 w2 z w b) (hQ : Qt t z1 w1') (hz1 : gI z2 1 = gI z1 1) (hg : (going = -1 ∧ gL w2 1 = gL w1' 1) ∨ (¬ going = -1 ∧ gL w2 1 = lN t)) : Rel (t + 1) (f_X4_passTick_85 z b going) (f_X5_pass_257 w b) := by
  obtain ⟨hB, hT, hR, hW, c1, c2, c3⟩ := hC
  obtain ⟨q, q1, q2, q3, q4⟩ := hQ
  have w12 : gI w 12 = nI t := hB.2.1.symm.trans hT.1
  -- the end, for a quiet count x and a latest tick y
  have fin : ∀ (x : Int32) (y : Int64), (∃ q : Nat, q ≤ t + 1 ∧ x = nI q ∧ y = lN (t + 1 - q) - 1 ∧ (0 < q → gI w 9 = 0 ∧ gI w 10 = 0)) → Rel (t + 1) (pI (pI z 1 x) 0 (gI (pI z 1 x) 0 + 1)) (pI (pL w 1 y) 12 (gI (pL w 1 y) 12 + 1)) := by
    intro x y ⟨q', e1, e2, e3, e4⟩
    obtain ⟨g0, g1, g2, g3, g4, g5, g6, g7, g8, g9, g10⟩ := hB
    obtain ⟨t0, t1, t2⟩ := hT
    have hn : gI z 0 + 1 = nI (t + 1) := by rw [t0, nI_1]
    refine ⟨⟨g0, ?_, g2, g3, g4, g5, g6, g7, g8, g9, g10⟩, ⟨hn, t1, t2⟩, rd_keep (z := z) (w := w) rfl rfl rfl rfl rfl rfl rfl rfl rfl rfl rfl rfl hR, ?_, q', e1, e2, e3, e4⟩
    · show gI z 0 + 1 = gI w 12 + 1; rw [g1]
    · rcases hW with h | h
      · exact Or.inl h
      · exact Or.inr h
  have l1 : lN (t + 1 - 0) - 1 = lN t := lN_sub (a := t + 1) (b := 1) (by omega)
  rw [f_X5_pass_257, f_X4_passTick_85, f_X4_passTick_105]
  simp only [f_X4_passTick_106, f_X5_pass_275, bd_q]
  by_cases h1 : b = -1
  · rw [if_pos h1, if_pos h1]
    rcases hg with ⟨h2, h3⟩ | ⟨h2, h3⟩
    · rw [if_pos h2]
      refine fin _ _ ⟨q + 1, by omega, ?_, ?_, fun _ => c3 h1⟩
      · rw [c1, hz1, q2, nI_1]
      · rw [c2, h3, q3, show t + 1 - (q + 1) = t - q by omega]
    · rw [if_neg h2]
      refine fin _ _ ⟨0, by omega, rfl, ?_, fun u => absurd u (by omega)⟩
      rw [c2, h3, l1]
  · rw [if_neg h1, if_neg h1]
    refine fin _ _ ⟨0, by omega, rfl, ?_, fun u => absurd u (by omega)⟩
    rw [w12, nI_l (by omega), l1]
/-- ONE TICK -/
theorem tick_eq {t : Nat} {z w : Sg} {b : Int32} (ht : t < 2 ^ 30) (hb : b = -1 ∨ ∃ n : Nat, n < 256 ∧ b = nI n) (h : Rel t z w) : Rel (t + 1) (f_X4_passTick z b) (f_X5_pass w b) ∧ s_X4_passTick z b ∧ s_X5_pass w b := by
  obtain ⟨z1, w1, y, a1, a2, a3, a4, hB1, hT1, hR1, hQ1, hY⟩ := stepA ht b h
  obtain ⟨z2, w2, going, b1, b2, b3, b4, hB2, hT2, hR2, hW2, hW0, e1, -, -, hg⟩ := stepB ht b hB1 hT1 hR1 hY
  obtain ⟨z3, w3, c1, c2, c3, c4, hC⟩ := stepC (going := going) (y := y) ht hb hB2 hT2 hR2 hW2 hW0
  have hD := stepD ht hb hC hQ1 e1 hg
  refine ⟨?_, a2 (b2 c2), a4 (b4 c4)⟩
  rw [a1, b1, c1, a3, b3, c3]
  exact hD
