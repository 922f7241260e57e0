/-! what a command does, on both sides -/
def Kz (z' z : Sg) : Prop := (∀ k, k ∉ [2, 10, 11, 12, 13, 14, 17, 18] → gI z' k = gI z k) ∧ (∀ r, r ≠ 0 → gA z' r = gA z r)
def Kw (w' w : Sg) : Prop := (∀ k, k ∉ [1, 2, 3, 4, 6, 7, 13] → gI w' k = gI w k) ∧ (∀ k, gL w' k = gL w k) ∧ (∀ r, r ∉ [1, 3] → gA w' r = gA w r)
theorem nar0 : vp_nar .boolean 0 = 0 := by decide
theorem nar1 : vp_nar .boolean 1 = 1 := by decide
def Ob (z w z' w' : Sg) : Prop := Kz z' z ∧ Kw w' w ∧ Cm z' w' ∧ gI z' 18 = gI w' 7 ∧ (gI z' 18 = 1 ∨ gI z' 18 = 2 ∨ gI z' 18 = 3)
theorem set_tag (z : Sg) {k : Nat} (hk : k < 6) (v : Int32) : f_X2_setTagByte z (nI k) v = pA z 0 k v := by
  unfold f_X2_setTagByte
  rw [if_neg (nI_pos (by omega)), if_neg (show ¬ (6 : Int32) ≤ nI k from nI_ge (b := 6) (by omega) (by omega)), nI_clamp (by omega)]
  exact bd_q _ _
theorem flg_clr {v mm : Int32} {f : Nat → Int32} (h : Flg v f) (hm : mm = 0 ∨ mm = 1) : Flg (v &&& ((1 <<< (mm &&& 31)) ^^^ (-1))) (upd f (Int32.toNatClampNeg mm) 0) := by
  rcases hm with rfl | rfl
  · rw [clamp0]
    rcases h with ⟨rfl, h0, h1⟩ | ⟨rfl, h0, h1⟩ | ⟨rfl, h0, h1⟩ | ⟨rfl, h0, h1⟩
    · exact Or.inl ⟨by decide, rfl, h1⟩
    · exact Or.inl ⟨by decide, rfl, h1⟩
    · exact Or.inr (Or.inr (Or.inl ⟨by decide, rfl, h1⟩))
    · exact Or.inr (Or.inr (Or.inl ⟨by decide, rfl, h1⟩))
  · rw [clamp1]
    rcases h with ⟨rfl, h0, h1⟩ | ⟨rfl, h0, h1⟩ | ⟨rfl, h0, h1⟩ | ⟨rfl, h0, h1⟩
    · exact Or.inl ⟨by decide, h0, rfl⟩
    · exact Or.inr (Or.inl ⟨by decide, h0, rfl⟩)
    · exact Or.inl ⟨by decide, h0, rfl⟩
    · exact Or.inr (Or.inl ⟨by decide, h0, rfl⟩)
theorem flg3 (f : Nat → Int32) : Flg 3 (upd (upd f 0 1) 1 1) := Or.inr (Or.inr (Or.inr ⟨rfl, rfl, rfl⟩))
theorem o181 (w : Sg) : f_X5_obey_181 w = pA (pA w 3 0 1) 3 1 1 := by
  rw [f_X5_obey_181]
  simp only [bd_q, clamp0, clamp1, nar1]
theorem sets1 (z : Sg) {c : Int32} (h : c = 6 ∨ c = 18 ∨ c = 35 ∨ c = 108 ∨ c = 109) : f_X4_carryOut_224 z c = pI z 14 3 := by
  rw [f_X4_carryOut_224]
  simp only [bd_q]
  rcases h with rfl | rfl | rfl | rfl | rfl <;> rfl
theorem sets0 (z : Sg) {c : Int32} (h : ¬ c = 6 ∧ ¬ c = 18 ∧ ¬ c = 35 ∧ ¬ c = 108 ∧ ¬ c = 109) : f_X4_carryOut_224 z c = z := by
  obtain ⟨h1, h2, h3, h4, h5⟩ := h
  rw [f_X4_carryOut_224]
  simp only [bd_q, f_X4_setsSomething, if_neg h1, if_neg h2, if_neg h3, if_neg h4, if_neg h5, if_true]
theorem o151_1 (w : Sg) {c : Int32} (h : c = 6 ∨ c = 18 ∨ c = 35 ∨ c = 108 ∨ c = 109) : f_X5_obey_151 w c = pA (pA w 3 0 1) 3 1 1 := by
  rw [f_X5_obey_151, o181]
  rcases h with rfl | rfl | rfl | rfl | rfl <;> rfl
theorem o151_0 (w : Sg) {c : Int32} (h : ¬ c = 6 ∧ ¬ c = 18 ∧ ¬ c = 35 ∧ ¬ c = 108 ∧ ¬ c = 109) : f_X5_obey_151 w c = w := by
  obtain ⟨h1, h2, h3, h4, h5⟩ := h
  rw [f_X5_obey_151, if_neg h1, if_neg h2, if_neg h3, if_neg h4, if_neg h5]
theorem obey_eq {z w : Sg} {k : Nat} {mm : Int32} (hE : Ef z w k) (hC : Cm z w) (hb : gI z 18 = gI w 7) (hb2 : gI z 18 = 1 ∨ gI z 18 = 2 ∨ gI z 18 = 3) (hG : Gd w (gI z 20) k) (hm : mm = 0 ∨ mm = 1) (hmw : f_X5_master w = (mm, w)) : Ob z w (f_X4_carryOut (pI z 2 (gI z 2 + 1)) (gI z 20) mm) (pI (f_X5_obey w) 13 (gI (f_X5_obey w) 13 + 1)) ∧ s_X5_obey w := by
  obtain ⟨hEc, -, hc, -, hy⟩ := id hE
  obtain ⟨c2, c10, c11, c12, c13, c16, c17, cA0, cA1, cA4, hI, f14, f15, hs, hlt⟩ := hC
  have v2 := in2 hm
  have ms1 := (m_cmd w).2
  have a2 : gI z 2 + 1 = gI w 13 + 1 := by rw [c2]
  obtain ⟨d0, ld0, ed0⟩ := hy (3 + asz w + 0)
  have ed0 : dv w 0 = nI d0 := ed0
  have m0 : ∀ u : Sg, f_X5_data u 0 = (dv u 0, u) ∧ s_X5_data u 0 := fun u => m_dv u (j := 0) (by omega)
  rw [f_X5_obey, s_X5_obey]
  simp only [bd_q, (m_cmd w).1, ← hc, hmw, nar0]
  rcases hG with hG | hG | hG | hG | hG | hG | hG | hG | hG | hG | hG | hG | hG
  · have e : gI z 20 = 0 := hG
    rw [e]
    rw [f_X4_carryOut, if_neg (show ¬ ((0 : Int32) = 6) by decide), if_neg (show ¬ ((0 : Int32) = 18) by decide), if_neg (show ¬ ((0 : Int32) = 35) by decide), if_neg (show ¬ ((0 : Int32) = 38) by decide), if_neg (show ¬ ((0 : Int32) = 108) by decide), if_neg (show ¬ ((0 : Int32) = 109) by decide), sets0 _ ⟨by decide, by decide, by decide, by decide, by decide⟩]
    rw [if_neg (show ¬ ((0 : Int32) = 38) by decide), f_X5_obey_21, if_neg (show ¬ ((0 : Int32) = 6) by decide), if_neg (show ¬ ((0 : Int32) = 18) by decide), if_neg (show ¬ ((0 : Int32) = 35) by decide), if_neg (show ¬ ((0 : Int32) = 108) by decide), if_neg (show ¬ ((0 : Int32) = 109) by decide), o151_0 _ ⟨by decide, by decide, by decide, by decide, by decide⟩]
    exact ⟨⟨⟨fun k hk => by simp only [List.mem_cons, List.not_mem_nil, or_false, not_or] at hk; simp [gI, pI, pA, upd, hk], fun r hr => by simp [gA, pI, pA, hr]⟩, ⟨fun k hk => by simp only [List.mem_cons, List.not_mem_nil, or_false, not_or] at hk; simp [gI, pI, pA, upd, hk], fun k => rfl, fun r hr => by simp only [List.mem_cons, List.not_mem_nil, or_false, not_or] at hr; simp [gA, pI, pA, hr]⟩, ⟨a2, c10, c11, c12, c13, c16, c17, cA0, cA1, cA4, hI, f14, f15, hs, hlt⟩, hb, hb2⟩, by simp [s_X5_obey_21, ms1]⟩
  · have e : gI z 20 = 1 := hG
    rw [e]
    rw [f_X4_carryOut, if_neg (show ¬ ((1 : Int32) = 6) by decide), if_neg (show ¬ ((1 : Int32) = 18) by decide), if_neg (show ¬ ((1 : Int32) = 35) by decide), if_neg (show ¬ ((1 : Int32) = 38) by decide), if_neg (show ¬ ((1 : Int32) = 108) by decide), if_neg (show ¬ ((1 : Int32) = 109) by decide), sets0 _ ⟨by decide, by decide, by decide, by decide, by decide⟩]
    rw [if_neg (show ¬ ((1 : Int32) = 38) by decide), f_X5_obey_21, if_neg (show ¬ ((1 : Int32) = 6) by decide), if_neg (show ¬ ((1 : Int32) = 18) by decide), if_neg (show ¬ ((1 : Int32) = 35) by decide), if_neg (show ¬ ((1 : Int32) = 108) by decide), if_neg (show ¬ ((1 : Int32) = 109) by decide), o151_0 _ ⟨by decide, by decide, by decide, by decide, by decide⟩]
    exact ⟨⟨⟨fun k hk => by simp only [List.mem_cons, List.not_mem_nil, or_false, not_or] at hk; simp [gI, pI, pA, upd, hk], fun r hr => by simp [gA, pI, pA, hr]⟩, ⟨fun k hk => by simp only [List.mem_cons, List.not_mem_nil, or_false, not_or] at hk; simp [gI, pI, pA, upd, hk], fun k => rfl, fun r hr => by simp only [List.mem_cons, List.not_mem_nil, or_false, not_or] at hr; simp [gA, pI, pA, hr]⟩, ⟨a2, c10, c11, c12, c13, c16, c17, cA0, cA1, cA4, hI, f14, f15, hs, hlt⟩, hb, hb2⟩, by simp [s_X5_obey_21, ms1]⟩
  · have e : gI z 20 = 2 := hG
    rw [e]
    rw [f_X4_carryOut, if_neg (show ¬ ((2 : Int32) = 6) by decide), if_neg (show ¬ ((2 : Int32) = 18) by decide), if_neg (show ¬ ((2 : Int32) = 35) by decide), if_neg (show ¬ ((2 : Int32) = 38) by decide), if_neg (show ¬ ((2 : Int32) = 108) by decide), if_neg (show ¬ ((2 : Int32) = 109) by decide), sets0 _ ⟨by decide, by decide, by decide, by decide, by decide⟩]
    rw [if_neg (show ¬ ((2 : Int32) = 38) by decide), f_X5_obey_21, if_neg (show ¬ ((2 : Int32) = 6) by decide), if_neg (show ¬ ((2 : Int32) = 18) by decide), if_neg (show ¬ ((2 : Int32) = 35) by decide), if_neg (show ¬ ((2 : Int32) = 108) by decide), if_neg (show ¬ ((2 : Int32) = 109) by decide), o151_0 _ ⟨by decide, by decide, by decide, by decide, by decide⟩]
    exact ⟨⟨⟨fun k hk => by simp only [List.mem_cons, List.not_mem_nil, or_false, not_or] at hk; simp [gI, pI, pA, upd, hk], fun r hr => by simp [gA, pI, pA, hr]⟩, ⟨fun k hk => by simp only [List.mem_cons, List.not_mem_nil, or_false, not_or] at hk; simp [gI, pI, pA, upd, hk], fun k => rfl, fun r hr => by simp only [List.mem_cons, List.not_mem_nil, or_false, not_or] at hr; simp [gA, pI, pA, hr]⟩, ⟨a2, c10, c11, c12, c13, c16, c17, cA0, cA1, cA4, hI, f14, f15, hs, hlt⟩, hb, hb2⟩, by simp [s_X5_obey_21, ms1]⟩
  · have e : gI z 20 = 3 := hG
    rw [e]
    rw [f_X4_carryOut, if_neg (show ¬ ((3 : Int32) = 6) by decide), if_neg (show ¬ ((3 : Int32) = 18) by decide), if_neg (show ¬ ((3 : Int32) = 35) by decide), if_neg (show ¬ ((3 : Int32) = 38) by decide), if_neg (show ¬ ((3 : Int32) = 108) by decide), if_neg (show ¬ ((3 : Int32) = 109) by decide), sets0 _ ⟨by decide, by decide, by decide, by decide, by decide⟩]
    rw [if_neg (show ¬ ((3 : Int32) = 38) by decide), f_X5_obey_21, if_neg (show ¬ ((3 : Int32) = 6) by decide), if_neg (show ¬ ((3 : Int32) = 18) by decide), if_neg (show ¬ ((3 : Int32) = 35) by decide), if_neg (show ¬ ((3 : Int32) = 108) by decide), if_neg (show ¬ ((3 : Int32) = 109) by decide), o151_0 _ ⟨by decide, by decide, by decide, by decide, by decide⟩]
    exact ⟨⟨⟨fun k hk => by simp only [List.mem_cons, List.not_mem_nil, or_false, not_or] at hk; simp [gI, pI, pA, upd, hk], fun r hr => by simp [gA, pI, pA, hr]⟩, ⟨fun k hk => by simp only [List.mem_cons, List.not_mem_nil, or_false, not_or] at hk; simp [gI, pI, pA, upd, hk], fun k => rfl, fun r hr => by simp only [List.mem_cons, List.not_mem_nil, or_false, not_or] at hr; simp [gA, pI, pA, hr]⟩, ⟨a2, c10, c11, c12, c13, c16, c17, cA0, cA1, cA4, hI, f14, f15, hs, hlt⟩, hb, hb2⟩, by simp [s_X5_obey_21, ms1]⟩
  · have e : gI z 20 = 13 := hG
    rw [e]
    rw [f_X4_carryOut, if_neg (show ¬ ((13 : Int32) = 6) by decide), if_neg (show ¬ ((13 : Int32) = 18) by decide), if_neg (show ¬ ((13 : Int32) = 35) by decide), if_neg (show ¬ ((13 : Int32) = 38) by decide), if_neg (show ¬ ((13 : Int32) = 108) by decide), if_neg (show ¬ ((13 : Int32) = 109) by decide), sets0 _ ⟨by decide, by decide, by decide, by decide, by decide⟩]
    rw [if_neg (show ¬ ((13 : Int32) = 38) by decide), f_X5_obey_21, if_neg (show ¬ ((13 : Int32) = 6) by decide), if_neg (show ¬ ((13 : Int32) = 18) by decide), if_neg (show ¬ ((13 : Int32) = 35) by decide), if_neg (show ¬ ((13 : Int32) = 108) by decide), if_neg (show ¬ ((13 : Int32) = 109) by decide), o151_0 _ ⟨by decide, by decide, by decide, by decide, by decide⟩]
    exact ⟨⟨⟨fun k hk => by simp only [List.mem_cons, List.not_mem_nil, or_false, not_or] at hk; simp [gI, pI, pA, upd, hk], fun r hr => by simp [gA, pI, pA, hr]⟩, ⟨fun k hk => by simp only [List.mem_cons, List.not_mem_nil, or_false, not_or] at hk; simp [gI, pI, pA, upd, hk], fun k => rfl, fun r hr => by simp only [List.mem_cons, List.not_mem_nil, or_false, not_or] at hr; simp [gA, pI, pA, hr]⟩, ⟨a2, c10, c11, c12, c13, c16, c17, cA0, cA1, cA4, hI, f14, f15, hs, hlt⟩, hb, hb2⟩, by simp [s_X5_obey_21, ms1]⟩
  · have e : gI z 20 = 48 := hG
    rw [e]
    rw [f_X4_carryOut, if_neg (show ¬ ((48 : Int32) = 6) by decide), if_neg (show ¬ ((48 : Int32) = 18) by decide), if_neg (show ¬ ((48 : Int32) = 35) by decide), if_neg (show ¬ ((48 : Int32) = 38) by decide), if_neg (show ¬ ((48 : Int32) = 108) by decide), if_neg (show ¬ ((48 : Int32) = 109) by decide), sets0 _ ⟨by decide, by decide, by decide, by decide, by decide⟩]
    rw [if_neg (show ¬ ((48 : Int32) = 38) by decide), f_X5_obey_21, if_neg (show ¬ ((48 : Int32) = 6) by decide), if_neg (show ¬ ((48 : Int32) = 18) by decide), if_neg (show ¬ ((48 : Int32) = 35) by decide), if_neg (show ¬ ((48 : Int32) = 108) by decide), if_neg (show ¬ ((48 : Int32) = 109) by decide), o151_0 _ ⟨by decide, by decide, by decide, by decide, by decide⟩]
    exact ⟨⟨⟨fun k hk => by simp only [List.mem_cons, List.not_mem_nil, or_false, not_or] at hk; simp [gI, pI, pA, upd, hk], fun r hr => by simp [gA, pI, pA, hr]⟩, ⟨fun k hk => by simp only [List.mem_cons, List.not_mem_nil, or_false, not_or] at hk; simp [gI, pI, pA, upd, hk], fun k => rfl, fun r hr => by simp only [List.mem_cons, List.not_mem_nil, or_false, not_or] at hr; simp [gA, pI, pA, hr]⟩, ⟨a2, c10, c11, c12, c13, c16, c17, cA0, cA1, cA4, hI, f14, f15, hs, hlt⟩, hb, hb2⟩, by simp [s_X5_obey_21, ms1]⟩
  · have e : gI z 20 = 38 := hG
    rw [e]
    rw [f_X4_carryOut, if_neg (show ¬ ((38 : Int32) = 6) by decide), if_neg (show ¬ ((38 : Int32) = 18) by decide), if_neg (show ¬ ((38 : Int32) = 35) by decide), if_pos rfl, bd_q, sets0 _ ⟨by decide, by decide, by decide, by decide, by decide⟩]
    rw [if_pos rfl, f_X5_obey_21, if_neg (show ¬ ((38 : Int32) = 6) by decide), if_neg (show ¬ ((38 : Int32) = 18) by decide), if_neg (show ¬ ((38 : Int32) = 35) by decide), if_neg (show ¬ ((38 : Int32) = 108) by decide), if_neg (show ¬ ((38 : Int32) = 109) by decide), o151_0 _ ⟨by decide, by decide, by decide, by decide, by decide⟩]
    exact ⟨⟨⟨fun k hk => by simp only [List.mem_cons, List.not_mem_nil, or_false, not_or] at hk; simp [gI, pI, pA, upd, hk], fun r hr => by simp [gA, pI, pA, hr]⟩, ⟨fun k hk => by simp only [List.mem_cons, List.not_mem_nil, or_false, not_or] at hk; simp [gI, pI, pA, upd, hk], fun k => rfl, fun r hr => by simp only [List.mem_cons, List.not_mem_nil, or_false, not_or] at hr; simp [gA, pI, pA, hr]⟩, ⟨a2, c10, c11, c12, c13, c16, c17, cA0, cA1, cA4, hI, flg_clr f14 hm, f15, hs, hlt⟩, hb, hb2⟩, by simp [s_X5_obey_21, ms1, v2]⟩
  · obtain ⟨e, hk, h15⟩ := hG
    have q0 : f_X0_dataAt (pI z 2 (gI z 2 + 1)) 0 = (dv w 0, pI z 2 (gI z 2 + 1)) := c_dv (z := pI z 2 (gI z 2 + 1)) hEc (j := 0) (by omega)
    rw [e]
    rw [f_X4_carryOut, if_pos rfl, q0, bd_q]
    try dsimp only
    rw [bd_q, sets1 _ (by decide)]
    rw [if_neg (show ¬ ((6 : Int32) = 38) by decide), f_X5_obey_21, if_pos rfl, (m0 w).1, bd_q]
    try dsimp only
    rw [bd_q, o151_1 _ (by decide)]
    have hs' : ∃ k : Nat, k < 16 ∧ dv w 0 = nI k := ⟨d0, by rw [ed0] at h15; have := (nI_leI (b := 15) (by omega) (by omega)).mp h15; omega, ed0⟩
    exact ⟨⟨⟨fun k hk => by simp only [List.mem_cons, List.not_mem_nil, or_false, not_or] at hk; simp [gI, pI, pA, upd, hk], fun r hr => by simp [gA, pI, pA, hr]⟩, ⟨fun k hk => by simp only [List.mem_cons, List.not_mem_nil, or_false, not_or] at hk; simp [gI, pI, pA, upd, hk], fun k => rfl, fun r hr => by simp only [List.mem_cons, List.not_mem_nil, or_false, not_or] at hr; simp [gA, pI, pA, hr]⟩, ⟨a2, rfl, c11, c12, c13, c16, c17, cA0, cA1, cA4, hI, flg3 _, f15, hs', hlt⟩, hb, hb2⟩, by simp [s_X5_obey_21, ms1, bd_q, (m0 w).2]⟩
  · have e : gI z 20 = 11 := hG.1
    rw [e]
    rw [f_X4_carryOut, if_neg (show ¬ ((11 : Int32) = 6) by decide), if_neg (show ¬ ((11 : Int32) = 18) by decide), if_neg (show ¬ ((11 : Int32) = 35) by decide), if_neg (show ¬ ((11 : Int32) = 38) by decide), if_neg (show ¬ ((11 : Int32) = 108) by decide), if_neg (show ¬ ((11 : Int32) = 109) by decide), sets0 _ ⟨by decide, by decide, by decide, by decide, by decide⟩]
    rw [if_neg (show ¬ ((11 : Int32) = 38) by decide), f_X5_obey_21, if_neg (show ¬ ((11 : Int32) = 6) by decide), if_neg (show ¬ ((11 : Int32) = 18) by decide), if_neg (show ¬ ((11 : Int32) = 35) by decide), if_neg (show ¬ ((11 : Int32) = 108) by decide), if_neg (show ¬ ((11 : Int32) = 109) by decide), o151_0 _ ⟨by decide, by decide, by decide, by decide, by decide⟩]
    exact ⟨⟨⟨fun k hk => by simp only [List.mem_cons, List.not_mem_nil, or_false, not_or] at hk; simp [gI, pI, pA, upd, hk], fun r hr => by simp [gA, pI, pA, hr]⟩, ⟨fun k hk => by simp only [List.mem_cons, List.not_mem_nil, or_false, not_or] at hk; simp [gI, pI, pA, upd, hk], fun k => rfl, fun r hr => by simp only [List.mem_cons, List.not_mem_nil, or_false, not_or] at hr; simp [gA, pI, pA, hr]⟩, ⟨a2, c10, c11, c12, c13, c16, c17, cA0, cA1, cA4, hI, f14, f15, hs, hlt⟩, hb, hb2⟩, by simp [s_X5_obey_21, ms1]⟩
  · obtain ⟨e, hk⟩ := hG
    subst hk
    have q : ∀ (u : Sg) (i : Int32) (j : Nat), j < 6 → i = nI j → Ec u w 6 → f_X0_dataAt u i = (dv w j, u) := fun u i j hj hi hu => by rw [hi]; exact c_dv hu hj
    have t : ∀ (u : Sg) (i : Int32) (j : Nat) (v : Int32), j < 6 → i = nI j → f_X2_setTagByte u i v = pA u 0 j v := fun u i j v hj hi => by rw [hi]; exact set_tag u hj v
    have n : ∀ (u : Sg) (i : Int32) (j : Nat), j < 6 → i = nI j → gA u 5 = gA w 5 → f_X5_data u i = (dv w j, u) ∧ s_X5_data u i := fun u i j hj hi hu => by
      have h := m_dv u (j := j) (by omega)
      rw [show dv u j = dv w j by unfold dv asz; rw [hu]] at h
      rw [hi]
      exact h
    rw [e]
    rw [f_X4_carryOut, if_neg (show ¬ ((18 : Int32) = 6) by decide), if_pos rfl]
    rw [if_neg (show ¬ ((18 : Int32) = 38) by decide), f_X5_obey_21, if_neg (show ¬ ((18 : Int32) = 6) by decide), if_pos rfl]
    rw [q (pI z 2 (gI z 2 + 1)) 0 0 (by omega) rfl hEc, bd_q]
    try dsimp only
    rw [t (pI z 2 (gI z 2 + 1)) 0 0 _ (by omega) rfl, bd_q]
    have n0 := n w 0 0 (by omega) rfl rfl
    rw [q (pA (pI z 2 (gI z 2 + 1)) 0 0 (dv w 0)) 1 1 (by omega) rfl hEc, bd_q]
    try dsimp only
    rw [t (pA (pI z 2 (gI z 2 + 1)) 0 0 (dv w 0)) 1 1 _ (by omega) rfl, bd_q]
    have n1 := n (pA w 1 0 (dv w 0)) 1 1 (by omega) rfl rfl
    rw [q (pA (pA (pI z 2 (gI z 2 + 1)) 0 0 (dv w 0)) 0 1 (dv w 1)) 2 2 (by omega) rfl hEc, bd_q]
    try dsimp only
    rw [t (pA (pA (pI z 2 (gI z 2 + 1)) 0 0 (dv w 0)) 0 1 (dv w 1)) 2 2 _ (by omega) rfl, bd_q]
    have n2 := n (pA (pA w 1 0 (dv w 0)) 1 1 (dv w 1)) 2 2 (by omega) rfl rfl
    rw [q (pA (pA (pA (pI z 2 (gI z 2 + 1)) 0 0 (dv w 0)) 0 1 (dv w 1)) 0 2 (dv w 2)) 3 3 (by omega) rfl hEc, bd_q]
    try dsimp only
    rw [t (pA (pA (pA (pI z 2 (gI z 2 + 1)) 0 0 (dv w 0)) 0 1 (dv w 1)) 0 2 (dv w 2)) 3 3 _ (by omega) rfl, bd_q]
    have n3 := n (pA (pA (pA w 1 0 (dv w 0)) 1 1 (dv w 1)) 1 2 (dv w 2)) 3 3 (by omega) rfl rfl
    rw [q (pA (pA (pA (pA (pI z 2 (gI z 2 + 1)) 0 0 (dv w 0)) 0 1 (dv w 1)) 0 2 (dv w 2)) 0 3 (dv w 3)) 4 4 (by omega) rfl hEc, bd_q]
    try dsimp only
    rw [t (pA (pA (pA (pA (pI z 2 (gI z 2 + 1)) 0 0 (dv w 0)) 0 1 (dv w 1)) 0 2 (dv w 2)) 0 3 (dv w 3)) 4 4 _ (by omega) rfl, bd_q]
    have n4 := n (pA (pA (pA (pA w 1 0 (dv w 0)) 1 1 (dv w 1)) 1 2 (dv w 2)) 1 3 (dv w 3)) 4 4 (by omega) rfl rfl
    rw [q (pA (pA (pA (pA (pA (pI z 2 (gI z 2 + 1)) 0 0 (dv w 0)) 0 1 (dv w 1)) 0 2 (dv w 2)) 0 3 (dv w 3)) 0 4 (dv w 4)) 5 5 (by omega) rfl hEc, bd_q]
    try dsimp only
    rw [t (pA (pA (pA (pA (pA (pI z 2 (gI z 2 + 1)) 0 0 (dv w 0)) 0 1 (dv w 1)) 0 2 (dv w 2)) 0 3 (dv w 3)) 0 4 (dv w 4)) 5 5 _ (by omega) rfl, bd_q]
    have n5 := n (pA (pA (pA (pA (pA w 1 0 (dv w 0)) 1 1 (dv w 1)) 1 2 (dv w 2)) 1 3 (dv w 3)) 1 4 (dv w 4)) 5 5 (by omega) rfl rfl
    have hs21 : s_X5_obey_21 w 18 := by
      rw [s_X5_obey_21]
      simp [bd_q, n0.1, n0.2, n1.1, n1.2, n2.1, n2.2, n3.1, n3.2, n4.1, n4.2, n5.1, n5.2, clamp0, clamp1, clamp2, clamp3, clamp4, clamp5]
    simp only [bd_q, n0.1, n1.1, n2.1, n3.1, n4.1, n5.1, clamp0, clamp1, clamp2, clamp3, clamp4, clamp5]
    rw [sets1 _ (by decide), o151_1 _ (by decide)]
    have cA0' : upd (upd (upd (upd (upd (upd (gA z 0) 0 (dv w 0)) 1 (dv w 1)) 2 (dv w 2)) 3 (dv w 3)) 4 (dv w 4)) 5 (dv w 5) = upd (upd (upd (upd (upd (upd (gA w 1) 0 (dv w 0)) 1 (dv w 1)) 2 (dv w 2)) 3 (dv w 3)) 4 (dv w 4)) 5 (dv w 5) := by rw [cA0]
    exact ⟨⟨⟨fun k hk => by simp only [List.mem_cons, List.not_mem_nil, or_false, not_or] at hk; simp [gI, pI, pA, upd, hk], fun r hr => by simp [gA, pI, pA, hr]⟩, ⟨fun k hk => by simp only [List.mem_cons, List.not_mem_nil, or_false, not_or] at hk; simp [gI, pI, pA, upd, hk], fun k => rfl, fun r hr => by simp only [List.mem_cons, List.not_mem_nil, or_false, not_or] at hr; simp [gA, pI, pA, hr]⟩, ⟨a2, c10, c11, c12, c13, c16, c17, cA0', cA1, cA4, hI, flg3 _, f15, hs, hlt⟩, hb, hb2⟩, by simp [ms1, hs21]⟩
  · obtain ⟨e, hk, hw5⟩ := hG
    subst hk
    have q0 : ∀ u : Sg, Ec u w 9 → f_X0_dataAt u 0 = (dv w 0, u) := fun u hu => c_dv hu (j := 0) (by omega)
    have q1 : ∀ u : Sg, Ec u w 9 → f_X0_fourAt u 1 = (wd4 (dv w) 1, u) := fun u hu => c_four hu (i := 1) (by omega)
    have q5 : ∀ u : Sg, Ec u w 9 → f_X0_fourAt u 5 = (wd4 (dv w) 5, u) := fun u hu => c_four hu (i := 5) (by omega)
    have w1 : ∀ u : Sg, f_X5_word u 1 = (wd4 (dv u) 1, u) ∧ s_X5_word u 1 := fun u => m_word u (i := 1) (by omega)
    have w5 : ∀ u : Sg, f_X5_word u 5 = (wd4 (dv u) 5, u) ∧ s_X5_word u 5 := fun u => m_word u (i := 5) (by omega)
    have x1 : ∀ u : Sg, gA u 5 = gA w 5 → wd4 (dv u) 1 = wd4 (dv w) 1 := fun u hu => by unfold dv asz; rw [hu]
    have x5 : ∀ u : Sg, gA u 5 = gA w 5 → wd4 (dv u) 5 = wd4 (dv w) 5 := fun u hu => by unfold dv asz; rw [hu]
    rw [e]
    rw [f_X4_carryOut, if_neg (show ¬ ((35 : Int32) = 6) by decide), if_neg (show ¬ ((35 : Int32) = 18) by decide), if_pos rfl, q0 (pI z 2 (gI z 2 + 1)) hEc, bd_q]
    try dsimp only
    rw [bd_q, q1 (pI (pI z 2 (gI z 2 + 1)) 11 (dv w 0)) hEc, bd_q]
    try dsimp only
    rw [bd_q, q5 (pI (pI (pI z 2 (gI z 2 + 1)) 11 (dv w 0)) 13 (wd4 (dv w) 1)) hEc, bd_q]
    try dsimp only
    rw [bd_q, sets1 _ (by decide)]
    rw [if_neg (show ¬ ((35 : Int32) = 38) by decide), f_X5_obey_21, if_neg (show ¬ ((35 : Int32) = 6) by decide), if_neg (show ¬ ((35 : Int32) = 18) by decide), if_pos rfl]
    have hs21 : s_X5_obey_21 w 35 := by
      rw [s_X5_obey_21]
      simp [bd_q, (m0 w).1, (w1 _).1, (w5 _).1, (m0 w).2, (w1 _).2, (w5 _).2]
    simp only [bd_q, (m0 w).1, (w1 _).1, (w5 _).1]
    rw [o151_1 _ (by decide), x1 _ rfl, x5 _ rfl]
    exact ⟨⟨⟨fun k hk => by simp only [List.mem_cons, List.not_mem_nil, or_false, not_or] at hk; simp [gI, pI, pA, upd, hk], fun r hr => by simp [gA, pI, pA, hr]⟩, ⟨fun k hk => by simp only [List.mem_cons, List.not_mem_nil, or_false, not_or] at hk; simp [gI, pI, pA, upd, hk], fun k => rfl, fun r hr => by simp only [List.mem_cons, List.not_mem_nil, or_false, not_or] at hr; simp [gA, pI, pA, hr]⟩, ⟨a2, c10, rfl, rfl, rfl, c16, c17, cA0, cA1, cA4, hI, flg3 _, f15, hs, hw5⟩, hb, hb2⟩, by simp [ms1, hs21]⟩
  · obtain ⟨e, hk, h3⟩ := hG
    have q0 : f_X0_dataAt (pI z 2 (gI z 2 + 1)) 0 = (dv w 0, pI z 2 (gI z 2 + 1)) := c_dv (z := pI z 2 (gI z 2 + 1)) hEc (j := 0) (by omega)
    rw [e]
    rw [f_X4_carryOut, if_neg (show ¬ ((108 : Int32) = 6) by decide), if_neg (show ¬ ((108 : Int32) = 18) by decide), if_neg (show ¬ ((108 : Int32) = 35) by decide), if_neg (show ¬ ((108 : Int32) = 38) by decide), if_pos rfl, q0, bd_q]
    try dsimp only
    rw [bd_q, sets1 _ (by decide)]
    rw [if_neg (show ¬ ((108 : Int32) = 38) by decide), f_X5_obey_21, if_neg (show ¬ ((108 : Int32) = 6) by decide), if_neg (show ¬ ((108 : Int32) = 18) by decide), if_neg (show ¬ ((108 : Int32) = 35) by decide), if_pos rfl, (m0 w).1, bd_q]
    try dsimp only
    rw [bd_q, o151_1 _ (by decide)]
    exact ⟨⟨⟨fun k hk => by simp only [List.mem_cons, List.not_mem_nil, or_false, not_or] at hk; simp [gI, pI, pA, upd, hk], fun r hr => by simp [gA, pI, pA, hr]⟩, ⟨fun k hk => by simp only [List.mem_cons, List.not_mem_nil, or_false, not_or] at hk; simp [gI, pI, pA, upd, hk], fun k => rfl, fun r hr => by simp only [List.mem_cons, List.not_mem_nil, or_false, not_or] at hr; simp [gA, pI, pA, hr]⟩, ⟨a2, c10, c11, c12, c13, c16, c17, cA0, cA1, cA4, hI, flg3 _, f15, hs, hlt⟩, rfl, h3⟩, by simp [s_X5_obey_21, ms1, bd_q, (m0 w).2]⟩
  · obtain ⟨e, hk⟩ := hG
    have q0 : f_X0_dataAt (pI z 2 (gI z 2 + 1)) 0 = (dv w 0, pI z 2 (gI z 2 + 1)) := c_dv (z := pI z 2 (gI z 2 + 1)) hEc (j := 0) (by omega)
    rw [e]
    rw [f_X4_carryOut, if_neg (show ¬ ((109 : Int32) = 6) by decide), if_neg (show ¬ ((109 : Int32) = 18) by decide), if_neg (show ¬ ((109 : Int32) = 35) by decide), if_neg (show ¬ ((109 : Int32) = 38) by decide), if_neg (show ¬ ((109 : Int32) = 108) by decide), if_pos rfl, q0]
    rw [if_neg (show ¬ ((109 : Int32) = 38) by decide), f_X5_obey_21, if_neg (show ¬ ((109 : Int32) = 6) by decide), if_neg (show ¬ ((109 : Int32) = 18) by decide), if_neg (show ¬ ((109 : Int32) = 35) by decide), if_neg (show ¬ ((109 : Int32) = 108) by decide), if_pos rfl, (m0 w).1]
    simp only [bd_q]
    by_cases q : dv w 0 = 1
    · rw [if_pos q, if_pos q, sets1 _ (by decide), f_X5_obey_148, bd_q, o151_1 _ (by decide)]
      exact ⟨⟨⟨fun k hk => by simp only [List.mem_cons, List.not_mem_nil, or_false, not_or] at hk; simp [gI, pI, pA, upd, hk], fun r hr => by simp [gA, pI, pA, hr]⟩, ⟨fun k hk => by simp only [List.mem_cons, List.not_mem_nil, or_false, not_or] at hk; simp [gI, pI, pA, upd, hk], fun k => rfl, fun r hr => by simp only [List.mem_cons, List.not_mem_nil, or_false, not_or] at hr; simp [gA, pI, pA, hr]⟩, ⟨a2, c10, c11, c12, c13, c16, rfl, cA0, cA1, cA4, hI, flg3 _, f15, hs, hlt⟩, hb, hb2⟩, by simp [s_X5_obey_21, s_X5_obey_148, ms1, bd_q, (m0 w).1, (m0 w).2]⟩
    · rw [if_neg q, if_neg q, sets1 _ (by decide), f_X5_obey_148, bd_q, o151_1 _ (by decide)]
      exact ⟨⟨⟨fun k hk => by simp only [List.mem_cons, List.not_mem_nil, or_false, not_or] at hk; simp [gI, pI, pA, upd, hk], fun r hr => by simp [gA, pI, pA, hr]⟩, ⟨fun k hk => by simp only [List.mem_cons, List.not_mem_nil, or_false, not_or] at hk; simp [gI, pI, pA, upd, hk], fun k => rfl, fun r hr => by simp only [List.mem_cons, List.not_mem_nil, or_false, not_or] at hr; simp [gA, pI, pA, hr]⟩, ⟨a2, c10, c11, c12, c13, c16, rfl, cA0, cA1, cA4, hI, flg3 _, f15, hs, hlt⟩, hb, hb2⟩, by simp [s_X5_obey_21, s_X5_obey_148, ms1, bd_q, (m0 w).1, (m0 w).2]⟩
