/-! an answer, on both sides -/
def mst (x : Int32) : Int32 := if x ≤ 127 then 1 else 0
theorem m_mst (u : Sg) : f_X5_master u = (mst (gA u 5 1), u) := by
  rw [f_X5_master, clamp1, mst]
  by_cases h : gA u 5 1 ≤ 127
  · rw [if_pos h, if_pos h]
  · rw [if_neg h, if_neg h]
theorem mst01 (x : Int32) : mst x = 0 ∨ mst x = 1 := by
  unfold mst
  by_cases h : x ≤ 127
  · rw [if_pos h]; exact Or.inr rfl
  · rw [if_neg h]; exact Or.inl rfl
theorem c_mst {z w : Sg} {k : Nat} (h : Ef z w k) : f_X0_master z = (mst (gA w 5 1), z) := by
  obtain ⟨mm, -, h1, h2⟩ := master_eq h
  rw [m_mst] at h2
  rw [h1, (Prod.mk.inj h2).1]
theorem ef_keep {z w z' w' : Sg} {k : Nat} (hz : Kz z' z) (hw : Kw w' w) (h : Ef z w k) : Ef z' w' k := by
  obtain ⟨⟨h1, h2, h3, h4⟩, h5, h6, h7, h8⟩ := h
  have g5 : gA w' 5 = gA w 5 := hw.2.2 5 (by decide)
  have as : asz w' = asz w := by unfold asz; rw [g5]
  have z21 := hz.1 21 (by decide)
  have z19 := hz.1 19 (by decide)
  have z20 := hz.1 20 (by decide)
  have r2 := hz.2 2 (by decide)
  have r3 := hz.2 3 (by decide)
  refine ⟨⟨h1, by rw [z21]; exact h2, by rw [g5, as]; exact h3, fun j hj => by rw [r3, g5, as]; exact h4 j hj⟩, by rw [z19, g5]; exact h5, by rw [z20, g5, as]; exact h6, fun j hj => by rw [r2, g5]; exact h7 j (by rw [as] at hj; exact hj), fun j => by rw [g5]; exact h8 j⟩
theorem dt_of {z w : Sg} {k : Nat} {c : Int32} (hE : Ec z w k) (hG : Gd w c k) : Dt z w c := by
  rcases hG with h | h | h | h | h | h | h | h | h | h | h | h | h
  · exact Or.inl h
  · exact Or.inr (Or.inl h)
  · exact Or.inr (Or.inr (Or.inl h))
  · exact Or.inr (Or.inr (Or.inr (Or.inl h)))
  · exact Or.inr (Or.inr (Or.inr (Or.inr (Or.inr (Or.inl h)))))
  · exact Or.inr (Or.inr (Or.inr (Or.inr (Or.inr (Or.inr (Or.inl h))))))
  · exact Or.inr (Or.inr (Or.inr (Or.inr (Or.inr (Or.inr (Or.inr (Or.inl h)))))))
  · exact Or.inr (Or.inr (Or.inr (Or.inr (Or.inr (Or.inr (Or.inr (Or.inr ⟨Or.inl h.1, k, by omega, hE⟩)))))))
  · exact Or.inr (Or.inr (Or.inr (Or.inr (Or.inl h.1))))
  · exact Or.inr (Or.inr (Or.inr (Or.inr (Or.inr (Or.inr (Or.inr (Or.inr ⟨Or.inr (Or.inl h.1), k, by omega, hE⟩)))))))
  · exact Or.inr (Or.inr (Or.inr (Or.inr (Or.inr (Or.inr (Or.inr (Or.inr ⟨Or.inr (Or.inr (Or.inl h.1)), k, by omega, hE⟩)))))))
  · exact Or.inr (Or.inr (Or.inr (Or.inr (Or.inr (Or.inr (Or.inr (Or.inr ⟨Or.inr (Or.inr (Or.inr (Or.inl h.1))), k, by omega, hE⟩)))))))
  · exact Or.inr (Or.inr (Or.inr (Or.inr (Or.inr (Or.inr (Or.inr (Or.inr ⟨Or.inr (Or.inr (Or.inr (Or.inr h.1))), k, by omega, hE⟩)))))))
theorem ob_id {z w : Sg} (hC : Cm z w) (hb : gI z 18 = gI w 7) (hb2 : gI z 18 = 1 ∨ gI z 18 = 2 ∨ gI z 18 = 3) : Ob z w (pI z 2 (gI z 2 + 1)) (pI w 13 (gI w 13 + 1)) := by
  obtain ⟨c2, c10, c11, c12, c13, c16, c17, cA0, cA1, cA4, hI, f14, f15, hs, hlt⟩ := hC
  have a2 : gI z 2 + 1 = gI w 13 + 1 := by rw [c2]
  exact ⟨⟨fun k hk => by simp only [List.mem_cons, List.not_mem_nil, or_false, not_or] at hk; simp [gI, pI, upd, hk], fun r hr => rfl⟩, ⟨fun k hk => by simp only [List.mem_cons, List.not_mem_nil, or_false, not_or] at hk; simp [gI, pI, upd, hk], fun k => rfl, fun r hr => rfl⟩, ⟨a2, c10, c11, c12, c13, c16, c17, cA0, cA1, cA4, hI, f14, f15, hs, hlt⟩, hb, hb2⟩
def An (z w z' w' : Sg) : Prop := (Ro (gA z 4) → Ro (gA z' 4)) ∧ Cm z' w' ∧ gI z' 18 = gI w' 7 ∧ (gI z' 18 = 1 ∨ gI z' 18 = 2 ∨ gI z' 18 = 3) ∧ (∀ k, k ∉ [2, 10, 11, 12, 13, 14, 15, 17, 18, 27, 28, 29, 30] → gI z' k = gI z k) ∧ (∀ r, r ∉ [0, 4] → gA z' r = gA z r) ∧ (∀ k, k ∉ [1, 2, 3, 4, 6, 7, 11, 13] → gI w' k = gI w k) ∧ gL w' 1 = gL w 1 ∧ (∀ r, r ∉ [1, 3, 4, 6] → gA w' r = gA w r) ∧ ((gI z' 27 = gI z 27 ∧ gI z' 28 = gI z 28 ∧ gI z' 30 = gI z 30 ∧ gI w' 11 = gI w 11 ∧ gL w' 0 = gL w 0) ∨ (∃ N : Nat, 0 < N ∧ N ≤ 36 ∧ gI z' 27 = nI N ∧ gI w' 11 = nI N ∧ gI z' 28 = 0 ∧ gI z' 30 = 1 ∧ gL w' 0 = Int32.toInt64 (gI w 12) + 2))
/-- the frame's writing and what follows, out of states that agree -/
theorem ans_w {z w z2 w2 : Sg} {k : Nat} {cd c : Int32} (hO : Ob z w z2 w2) (hE : Ef z w k) (hc : gI z 20 = c) (hcd : cd = 0 → Dt z2 w2 c) : ∃ z' w' : Sg, f_X4_answerFrame_51 z2 cd (mst (gA w 5 1)) = z' ∧ s_X4_answerFrame_51 z2 cd (mst (gA w 5 1)) ∧ bd (f_X5_addressSize w2) (fun r33 => (if r33.1 = 5 then f_X5_answer_62 r33.2 cd 134 else f_X5_answer_62 r33.2 cd 6)) = w' ∧ bd (f_X5_addressSize w2) (fun r33 => (r33.1 = 5 → s_X5_answer_62 r33.2 cd 134) ∧ (¬ r33.1 = 5 → s_X5_answer_62 r33.2 cd 6)) ∧ An z w z' w' := by
  obtain ⟨hz, hw, hC, hb, hb2⟩ := hO
  have hE2 := ef_keep hz hw hE
  have g5 : gA w2 5 = gA w 5 := hw.2.2 5 (by decide)
  have z20 : gI z2 20 = c := (hz.1 20 (by decide)).trans hc
  have hmw : f_X5_master w2 = (mst (gA w 5 1), w2) := by rw [m_mst, g5]
  have hm := mst01 (gA w 5 1)
  have cmd : f_X5_command w2 = (c, w2) := by rw [(m_cmd w2).1, ← hE2.2.2.1, z20]
  have w12 : gI w2 12 = gI w 12 := hw.1 12 (by decide)
  generalize mst (gA w 5 1) = mm at hmw hm
  -- one mark, both sides
  have key : ∀ mark : Int32, ∃ z' w' : Sg, f_X4_answerFrame_70 z2 cd mm mark = z' ∧ s_X4_answerFrame_70 z2 cd mm mark ∧ f_X5_answer_62 w2 cd mark = w' ∧ s_X5_answer_62 w2 cd mark ∧ An z w z' w' := by
    intro mark
    obtain ⟨N, cp, row, n1, n2, i1, i2, i3, i4, i5⟩ := compose_eq hC (mark := mark) (c := c) (cd := cd) (Int32.toInt64 (gI w2 12) + 2) hm hcd
    have hmw2 : ∀ n fr r, f_X5_master (Wc w2 n fr r) = (mm, Wc w2 n fr r) := by
      intro n fr r
      rw [m_mst] at hmw ⊢
      rw [← (Prod.mk.inj hmw).1]
      rfl
    rw [f_X4_answerFrame_70, s_X4_answerFrame_70, f_X5_answer_62, s_X5_answer_62, z20]
    simp only [bd_q, hmw, cmd, i1, i3, hmw2, nar0, f_X1_waitOneTick]
    refine ⟨_, _, rfl, ⟨i2, trivial⟩, rfl, ⟨(m_cmd w2).2, i4, in2 hm, trivial⟩, ?_⟩
    obtain ⟨c2, c10, c11, c12, c13, c16, c17, cA0, cA1, cA4, hI, f14, f15, hs, hlt⟩ := hC
    refine ⟨fun h => i5 (by rw [hz.2 4 (by decide)]; exact h), ⟨c2, c10, c11, c12, c13, c16, c17, cA0, cA1, rfl, hI, f14, flg_clr f15 hm, hs, hlt⟩, hb, hb2, ?_, ?_, ?_, ?_, ?_, ?_⟩
    · intro k hk
      have hk2 := hk
      simp only [List.mem_cons, List.not_mem_nil, or_false, not_or] at hk
      have e1 : gI z2 k = gI z k := hz.1 k (by simp only [List.mem_cons, List.not_mem_nil, or_false, not_or]; simp [hk])
      rw [← e1]
      simp [gI, pI, upd, Zc, hk]
    · intro r hr
      simp only [List.mem_cons, List.not_mem_nil, or_false, not_or] at hr
      rw [← hz.2 r hr.1]
      simp [gA, pI, Zc, hr]
    · intro k hk
      simp only [List.mem_cons, List.not_mem_nil, or_false, not_or] at hk
      have e1 : gI w2 k = gI w k := hw.1 k (by simp only [List.mem_cons, List.not_mem_nil, or_false, not_or]; simp [hk])
      rw [← e1]
      simp [gI, pA, Wc, hk]
    · exact hw.2.1 1
    · intro r hr
      simp only [List.mem_cons, List.not_mem_nil, or_false, not_or] at hr
      have e1 : gA w2 r = gA w r := hw.2.2 r (by simp only [List.mem_cons, List.not_mem_nil, or_false, not_or]; simp [hr])
      rw [← e1]
      simp [gA, pA, Wc, hr]
    · right
      exact ⟨N, n1, n2, rfl, rfl, rfl, rfl, by rw [← w12]; rfl⟩
  have z19 : gI z2 19 = gI z 19 := hz.1 19 (by decide)
  rw [f_X4_answerFrame_51, s_X4_answerFrame_51]
  simp only [bd_q, m_as]
  rcases asz_of hE2 with ⟨h1, h2⟩ | ⟨h1, h2⟩
  · obtain ⟨z', w', j1, j2, j3, j4, j5⟩ := key 6
    have n5 : ¬ (nI 1 = 5) := by decide
    rw [h1, h2, if_pos rfl, if_neg n5]
    exact ⟨z', w', j1, ⟨fun _ => j2, fun h => absurd rfl h⟩, j3, ⟨fun h => absurd h n5, fun _ => j4⟩, j5⟩
  · obtain ⟨z', w', j1, j2, j3, j4, j5⟩ := key 134
    have n0 : ¬ ((1 : Int32) = 0) := by decide
    have y5 : nI 5 = 5 := rfl
    rw [h1, h2, if_neg n0, if_pos y5]
    exact ⟨z', w', j1, ⟨fun h => absurd h n0, fun _ => j2⟩, j3, ⟨fun _ => j4, fun h => absurd y5 h⟩, j5⟩
theorem ans_27 {z w : Sg} {k : Nat} {cd : Int32} (hE : Ef z w k) (hC : Cm z w) (hb : gI z 18 = gI w 7) (hb2 : gI z 18 = 1 ∨ gI z 18 = 2 ∨ gI z 18 = 3) (hG : cd = 0 → Gd w (gI z 20) k) : ∃ z' w' : Sg, f_X4_answerFrame_17 z cd = z' ∧ s_X4_answerFrame_17 z cd ∧ f_X5_answer_27 w cd = w' ∧ s_X5_answer_27 w cd ∧ An z w z' w' := by
  have hE1 : Ef (pI z 2 (gI z 2 + 1)) w k := hE
  have z20 : gI (pI z 2 (gI z 2 + 1)) 20 = gI z 20 := rfl
  rw [f_X4_answerFrame_17, s_X4_answerFrame_17, f_X5_answer_27, s_X5_answer_27]
  simp only [bd_q, c_mst hE1, z20]
  by_cases h : cd = 0
  · obtain ⟨hO, hso⟩ := obey_eq (mm := mst (gA w 5 1)) hE hC hb hb2 (hG h) (mst01 _) (m_mst w)
    have hE2 := ef_keep hO.1 hO.2.1 hE
    have g5 : gA (pI (f_X5_obey w) 13 (gI (f_X5_obey w) 13 + 1)) 5 = gA w 5 := hO.2.1.2.2 5 (by decide)
    have hd : Dt (f_X4_carryOut (pI z 2 (gI z 2 + 1)) (gI z 20) (mst (gA w 5 1))) (pI (f_X5_obey w) 13 (gI (f_X5_obey w) 13 + 1)) (gI z 20) := by
      refine dt_of hE2.1 ?_
      have hG2 := hG h
      have hdv : dv (pI (f_X5_obey w) 13 (gI (f_X5_obey w) 13 + 1)) = dv w := by unfold dv asz; rw [g5]
      unfold Gd at hG2 ⊢
      rw [hdv]
      exact hG2
    obtain ⟨z', w', j1, j2, j3, j4, j5⟩ := ans_w (cd := cd) hO hE rfl (fun _ => hd)
    rw [f_X5_answer_35, s_X5_answer_35, if_pos h, if_pos h, bd_q, bd_q]
    exact ⟨z', w', j1, ⟨fun _ => j2, fun q => absurd h q⟩, j3, ⟨fun _ => ⟨hso, j4⟩, fun q => absurd h q⟩, j5⟩
  · obtain ⟨z', w', j1, j2, j3, j4, j5⟩ := ans_w (cd := cd) (ob_id hC hb hb2) hE rfl (fun q => absurd q h)
    rw [if_neg h, if_neg h]
    refine ⟨z', w', j1, ⟨fun q => absurd q h, fun _ => j2⟩, ?_, ⟨fun q => absurd q h, fun _ => ?_⟩, j5⟩
    · rw [f_X5_answer_35, bd_q]; exact j3
    · rw [s_X5_answer_35, bd_q]; exact j4
theorem answer_eq {z w : Sg} {k : Nat} (hE : Ef z w k) (hC : Cm z w) (hb : gI z 18 = gI w 7) (hb2 : gI z 18 = 1 ∨ gI z 18 = 2 ∨ gI z 18 = 3) : ∃ z' w' : Sg, f_X4_answerFrame z = z' ∧ s_X4_answerFrame z ∧ f_X5_answer w = w' ∧ s_X5_answer w ∧ An z (pI w 14 (gI w 14 + 1)) z' w' := by
  have hE0 : Ef z (pI w 14 (gI w 14 + 1)) k := hE
  have hC0 : Cm z (pI w 14 (gI w 14 + 1)) := hC
  have hb0 : gI z 18 = gI (pI w 14 (gI w 14 + 1)) 7 := hb
  obtain ⟨cd, i1, i2, i3, i4⟩ := code_eq hE0 hC0.2.2.2.2.2.2.2.1
  obtain ⟨b, hb01, k1, k2, k3, -⟩ := isB_eq hE0
  obtain ⟨z', w', j1, j2, j3, j4, j5⟩ := ans_27 (cd := cd) hE0 hC0 hb0 hb2 i4
  rw [f_X4_answerFrame, s_X4_answerFrame, f_X5_answer, s_X5_answer]
  simp only [bd_q, i1, i2, k1, k2]
  by_cases h : cd = 0
  · rw [if_pos h, if_pos h]
    refine ⟨z', w', j1, ⟨fun _ => j2, fun q => absurd h q⟩, ?_, ⟨i3, k3, fun _ => j4, fun _ => ⟨fun _ => j4, fun q => absurd h q⟩⟩, j5⟩
    by_cases q : b = 0
    · rw [if_pos q]; exact j3
    · rw [if_neg q]; exact j3
  · rw [if_neg h, if_neg h]
    by_cases q : b = 0
    · rw [if_pos q, if_pos q]
      exact ⟨z', w', j1, ⟨fun y => absurd y h, fun _ => ⟨fun _ => j2, fun y => absurd q y⟩⟩, j3, ⟨i3, k3, fun _ => j4, fun y => absurd q y⟩, j5⟩
    · rw [if_neg q, if_neg q]
      refine ⟨z, pI w 14 (gI w 14 + 1), rfl, ⟨fun y => absurd y h, fun _ => ⟨fun y => absurd y q, fun _ => trivial⟩⟩, rfl, ⟨i3, k3, fun y => absurd y q, fun _ => ⟨fun y => absurd y h, fun _ => trivial⟩⟩, ?_⟩
      exact ⟨id, hC0, hb0, hb2, fun _ _ => rfl, fun _ _ => rfl, fun _ _ => rfl, rfl, fun _ _ => rfl, Or.inl ⟨rfl, rfl, rfl, rfl, rfl⟩⟩
