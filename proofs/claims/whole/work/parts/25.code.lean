/-! the code of a frame -/
def cntf (c : Int32) : Int32 := if c = 0 then 0 else if c = 1 then 0 else if c = 2 then 0 else if c = 3 then 0 else if c = 6 then 1 else if c = 11 then 6 else if c = 13 then 0 else if c = 18 then 6 else if c = 35 then 9 else if c = 38 then 0 else if c = 48 then 0 else if c = 108 then 1 else if c = 109 then 1 else -1
def kn (c : Int32) : Prop := c = 0 ∨ c = 1 ∨ c = 2 ∨ c = 3 ∨ c = 6 ∨ c = 11 ∨ c = 13 ∨ c = 18 ∨ c = 35 ∨ c = 38 ∨ c = 48 ∨ c = 108 ∨ c = 109
theorem cnt_c (z : Sg) (c : Int32) : f_X4_countOfCommand z c = (cntf c, z) := by
  unfold f_X4_countOfCommand cntf
  by_cases h : kn c
  · rcases h with rfl | rfl | rfl | rfl | rfl | rfl | rfl | rfl | rfl | rfl | rfl | rfl | rfl <;> rfl
  · simp only [kn, not_or] at h
    simp only [h, if_false]
theorem cnt_m (w : Sg) {b : Nat} (hb : b < 256) : f_X5_countWanted w (nI b) = (cntf (nI b), w) := by
  generalize hc : nI b = c
  by_cases h : kn c
  · unfold f_X5_countWanted f_X5_countWanted_9 cntf
    rcases h with rfl | rfl | rfl | rfl | rfl | rfl | rfl | rfl | rfl | rfl | rfl | rfl | rfl <;> rfl
  · have h9 := h
    simp only [kn, not_or] at h
    have h1 : ¬ c < 0 := by rw [← hc]; exact nI_pos (by omega)
    have h2 : ¬ c ≤ 3 := by
      rw [← hc]
      intro q
      have q : b ≤ 3 := (nI_leI (b := 3) (by omega) (by omega)).mp q
      apply h9
      rw [← hc]
      rcases (show b = 0 ∨ b = 1 ∨ b = 2 ∨ b = 3 by omega) with rfl | rfl | rfl | rfl <;> unfold kn <;> decide
    unfold f_X5_countWanted f_X5_countWanted_9 cntf
    simp only [h, h1, h2, if_false]
def wd4 (f : Nat → Int32) (i : Nat) : Int32 := (((f i <<< ((24 : Int32) &&& 31)) ||| (f (i + 1) <<< ((16 : Int32) &&& 31))) ||| (f (i + 2) <<< ((8 : Int32) &&& 31))) ||| f (i + 3)
def dv (w : Sg) : Nat → Int32 := fun j => gA w 5 (3 + asz w + j)
theorem c_dv {z w : Sg} {k j : Nat} (h : Ec z w k) (hj : j < k) : f_X0_dataAt z (nI j) = (dv w j, z) := by
  rw [c_data h.2.1 h.1 hj, h.2.2.2 j hj]
  rfl
theorem c_four {z w : Sg} {k i : Nat} (h : Ec z w k) (hi : i + 3 < k) : f_X0_fourAt z (nI i) = (wd4 (dv w) i, z) := by
  have hk := h.1
  rw [f_X0_fourAt]
  simp only [bd_q]
  rw [show nI i + 1 = nI (i + 1) from nI_add i 1, show nI i + 2 = nI (i + 2) from nI_add i 2, show nI i + 3 = nI (i + 3) from nI_add i 3]
  simp only [c_dv h (show i < k by omega), c_dv h (show i + 1 < k by omega), c_dv h (show i + 2 < k by omega), c_dv h (show i + 3 < k by omega)]
  rfl
theorem m_dv (w : Sg) {j : Nat} (hj : j ≤ 31) : f_X5_data w (nI j) = (dv w j, w) ∧ s_X5_data w (nI j) := m_data w hj
theorem m_word (w : Sg) {i : Nat} (hi : i ≤ 28) : f_X5_word w (nI i) = (wd4 (dv w) i, w) ∧ s_X5_word w (nI i) := by
  rw [f_X5_word, s_X5_word]
  simp only [bd_q]
  rw [show nI i + 1 = nI (i + 1) from nI_add i 1, show nI i + 2 = nI (i + 2) from nI_add i 2, show nI i + 3 = nI (i + 3) from nI_add i 3]
  simp only [(m_dv w (show i ≤ 31 by omega)).1, (m_dv w (show i + 1 ≤ 31 by omega)).1, (m_dv w (show i + 2 ≤ 31 by omega)).1, (m_dv w (show i + 3 ≤ 31 by omega)).1]
  exact ⟨rfl, (m_dv w (by omega)).2, (m_dv w (by omega)).2, (m_dv w (by omega)).2, (m_dv w (by omega)).2, trivial⟩
/-- a command that is done, with its data -/
def Gd (w : Sg) (c : Int32) (k : Nat) : Prop := c = 0 ∨ c = 1 ∨ c = 2 ∨ c = 3 ∨ c = 13 ∨ c = 48 ∨ c = 38 ∨ (c = 6 ∧ k = 1 ∧ dv w 0 ≤ 15) ∨ (c = 11 ∧ k = 6) ∨ (c = 18 ∧ k = 6) ∨ (c = 35 ∧ k = 9 ∧ wd4 (dv w) 5 < wd4 (dv w) 1) ∨ (c = 108 ∧ k = 1 ∧ (dv w 0 = 1 ∨ dv w 0 = 2 ∨ dv w 0 = 3)) ∨ (c = 109 ∧ k = 1)
theorem tag_eq {z w : Sg} (h : Ec z w 6) (hT : gA z 0 = gA w 1) : ∃ t : Int32, f_X4_tagIsInFrame z = (t, z) ∧ f_X5_hasTag w = (t, w) ∧ s_X5_hasTag w := by
  have c0 : f_X0_dataAt z 0 = (dv w 0, z) := c_dv h (j := 0) (by omega)
  have c1 : f_X0_dataAt z 1 = (dv w 1, z) := c_dv h (j := 1) (by omega)
  have c2 : f_X0_dataAt z 2 = (dv w 2, z) := c_dv h (j := 2) (by omega)
  have c3 : f_X0_dataAt z 3 = (dv w 3, z) := c_dv h (j := 3) (by omega)
  have c4 : f_X0_dataAt z 4 = (dv w 4, z) := c_dv h (j := 4) (by omega)
  have c5 : f_X0_dataAt z 5 = (dv w 5, z) := c_dv h (j := 5) (by omega)
  have t : ∀ (i : Int32) (k : Nat), k < 6 → i = nI k → f_X2_tagByte z i = (gA w 1 k, z) := by
    intro i k hk hi
    subst hi
    unfold f_X2_tagByte
    rw [if_neg (nI_pos (by omega)), if_neg (show ¬ (6 : Int32) ≤ nI k from nI_ge (b := 6) (by omega) (by omega)), nI_clamp (by omega), ← hT]
  have t0 := t 0 0 (by omega) rfl
  have t1 := t 1 1 (by omega) rfl
  have t2 := t 2 2 (by omega) rfl
  have t3 := t 3 3 (by omega) rfl
  have t4 := t 4 4 (by omega) rfl
  have t5 := t 5 5 (by omega) rfl
  have m0 : f_X5_data w 0 = (dv w 0, w) ∧ s_X5_data w 0 := m_dv w (j := 0) (by omega)
  have m1 : f_X5_data w 1 = (dv w 1, w) ∧ s_X5_data w 1 := m_dv w (j := 1) (by omega)
  have m2 : f_X5_data w 2 = (dv w 2, w) ∧ s_X5_data w 2 := m_dv w (j := 2) (by omega)
  have m3 : f_X5_data w 3 = (dv w 3, w) ∧ s_X5_data w 3 := m_dv w (j := 3) (by omega)
  have m4 : f_X5_data w 4 = (dv w 4, w) ∧ s_X5_data w 4 := m_dv w (j := 4) (by omega)
  have m5 : f_X5_data w 5 = (dv w 5, w) ∧ s_X5_data w 5 := m_dv w (j := 5) (by omega)
  rw [f_X4_tagIsInFrame, f_X5_hasTag, s_X5_hasTag]
  simp only [bd_q, c0, c1, c2, c3, c4, c5, t0, t1, t2, t3, t4, t5, m0.1, m1.1, m2.1, m3.1, m4.1, m5.1, clamp0, clamp1, clamp2, clamp3, clamp4, clamp5]
  have s0 := m0.2
  have s1 := m1.2
  have s2 := m2.2
  have s3 := m3.2
  have s4 := m4.2
  have s5 := m5.2
  by_cases q0 : dv w 0 = gA w 1 0
  · by_cases q1 : dv w 1 = gA w 1 1
    · by_cases q2 : dv w 2 = gA w 1 2
      · by_cases q3 : dv w 3 = gA w 1 3
        · by_cases q4 : dv w 4 = gA w 1 4
          · by_cases q5 : dv w 5 = gA w 1 5
            · exact ⟨1, by simp only [q0, q1, q2, q3, q4, q5, if_true], by simp only [q0, q1, q2, q3, q4, q5, if_true], by simp [*]⟩
            · exact ⟨0, by simp only [q0, q1, q2, q3, q4, q5, if_true, if_false], by simp only [q0, q1, q2, q3, q4, q5, if_true, if_false], by simp [*]⟩
          · exact ⟨0, by simp only [q0, q1, q2, q3, q4, if_true, if_false], by simp only [q0, q1, q2, q3, q4, if_true, if_false], by simp [*]⟩
        · exact ⟨0, by simp only [q0, q1, q2, q3, if_true, if_false], by simp only [q0, q1, q2, q3, if_true, if_false], by simp [*]⟩
      · exact ⟨0, by simp only [q0, q1, q2, if_true, if_false], by simp only [q0, q1, q2, if_true, if_false], by simp [*]⟩
    · exact ⟨0, by simp only [q0, q1, if_true, if_false], by simp only [q0, q1, if_true, if_false], by simp [*]⟩
  · exact ⟨0, by simp only [q0, if_false], by simp only [q0, if_false], by simp [*]⟩
theorem code_eq {z w : Sg} {k : Nat} (h : Ef z w k) (hT : gA z 0 = gA w 1) : ∃ cd : Int32, f_X4_codeOfFrame z = (cd, z) ∧ f_X5_codeOf w = (cd, w) ∧ s_X5_codeOf w ∧ (cd = 0 → Gd w (gI z 20) k) := by
  obtain ⟨hE, -, hc, -, hy⟩ := h
  obtain ⟨b, hb, eb⟩ := hy (1 + asz w)
  have hk20 := hE.1
  have cm : f_X5_countWanted w (gI z 20) = (cntf (gI z 20), w) := by rw [hc, eb]; exact cnt_m w hb
  have k1 := hE.2.1
  have k2 := hE.2.2.1
  have ms1 := (m_cmd w).2
  have ms2 := (m_cnt w).2
  have m0 : f_X5_data w 0 = (dv w 0, w) ∧ s_X5_data w 0 := m_dv w (j := 0) (by omega)
  have w1 : f_X5_word w 1 = (wd4 (dv w) 1, w) ∧ s_X5_word w 1 := m_word w (i := 1) (by omega)
  have w5 : f_X5_word w 5 = (wd4 (dv w) 5, w) ∧ s_X5_word w 5 := m_word w (i := 5) (by omega)
  obtain ⟨d0, ld0, ed0⟩ := hy (3 + asz w + 0)
  have ed0 : dv w 0 = nI d0 := ed0
  rw [f_X4_codeOfFrame, f_X5_codeOf, s_X5_codeOf]
  simp only [bd_q, cnt_c, (m_cmd w).1, (m_cnt w).1, ← hc, cm, k1, k2, m0.1, w1.1, w5.1]
  by_cases hk : kn (gI z 20)
  · have hne : ¬ cntf (gI z 20) = -1 := by
      rcases hk with e | e | e | e | e | e | e | e | e | e | e | e | e <;> rw [e] <;> decide
    rw [if_neg hne, if_neg hne]
    by_cases hq : nI k = cntf (gI z 20)
    · rw [if_pos hq, if_pos hq.symm]
      obtain ⟨v0, e0, hv0⟩ : ∃ v, f_X0_dataAt z 0 = (v, z) ∧ (0 < k → v = dv w 0) := by
        by_cases hk0 : 0 < k
        · exact ⟨dv w 0, c_dv hE (j := 0) hk0, fun _ => rfl⟩
        · refine ⟨(f_X0_dataAt z 0).1, ?_, fun q => absurd q hk0⟩
          unfold f_X0_dataAt
          by_cases a1 : (0 : Int32) < 0
          · exact absurd a1 (by decide)
          · rw [if_neg a1, k1, if_pos (show nI k ≤ 0 by rw [show k = 0 by omega]; decide)]
      rw [e0]
      dsimp only
      rcases hk with e | e | e | e | e | e | e | e | e | e | e | e | e
      · have hkk : k = 0 := (nI_eq (b := 0) (by omega) (by omega)).mp (by rw [hq, e]; rfl)
        subst hkk
        rw [e]
        rw [if_neg (show ¬ ((0 : Int32) = 6) by decide), if_neg (show ¬ ((0 : Int32) = 6) by decide), if_neg (show ¬ ((0 : Int32) = 11) by decide), if_neg (show ¬ ((0 : Int32) = 11) by decide), if_neg (show ¬ ((0 : Int32) = 35) by decide), if_neg (show ¬ ((0 : Int32) = 35) by decide), if_neg (show ¬ ((0 : Int32) = 108) by decide), if_neg (show ¬ ((0 : Int32) = 108) by decide), if_neg (show ¬ ((0 : Int32) = 109) by decide), if_neg (show ¬ ((0 : Int32) = 109) by decide)]
        exact ⟨0, rfl, rfl, by simp [ms1, ms2, m0.2, w1.2, w5.2, cntf], fun _ => Or.inl (rfl)⟩
      · have hkk : k = 0 := (nI_eq (b := 0) (by omega) (by omega)).mp (by rw [hq, e]; rfl)
        subst hkk
        rw [e]
        rw [if_neg (show ¬ ((1 : Int32) = 6) by decide), if_neg (show ¬ ((1 : Int32) = 6) by decide), if_neg (show ¬ ((1 : Int32) = 11) by decide), if_neg (show ¬ ((1 : Int32) = 11) by decide), if_neg (show ¬ ((1 : Int32) = 35) by decide), if_neg (show ¬ ((1 : Int32) = 35) by decide), if_neg (show ¬ ((1 : Int32) = 108) by decide), if_neg (show ¬ ((1 : Int32) = 108) by decide), if_neg (show ¬ ((1 : Int32) = 109) by decide), if_neg (show ¬ ((1 : Int32) = 109) by decide)]
        exact ⟨0, rfl, rfl, by simp [ms1, ms2, m0.2, w1.2, w5.2, cntf], fun _ => Or.inr (Or.inl (rfl))⟩
      · have hkk : k = 0 := (nI_eq (b := 0) (by omega) (by omega)).mp (by rw [hq, e]; rfl)
        subst hkk
        rw [e]
        rw [if_neg (show ¬ ((2 : Int32) = 6) by decide), if_neg (show ¬ ((2 : Int32) = 6) by decide), if_neg (show ¬ ((2 : Int32) = 11) by decide), if_neg (show ¬ ((2 : Int32) = 11) by decide), if_neg (show ¬ ((2 : Int32) = 35) by decide), if_neg (show ¬ ((2 : Int32) = 35) by decide), if_neg (show ¬ ((2 : Int32) = 108) by decide), if_neg (show ¬ ((2 : Int32) = 108) by decide), if_neg (show ¬ ((2 : Int32) = 109) by decide), if_neg (show ¬ ((2 : Int32) = 109) by decide)]
        exact ⟨0, rfl, rfl, by simp [ms1, ms2, m0.2, w1.2, w5.2, cntf], fun _ => Or.inr (Or.inr (Or.inl (rfl)))⟩
      · have hkk : k = 0 := (nI_eq (b := 0) (by omega) (by omega)).mp (by rw [hq, e]; rfl)
        subst hkk
        rw [e]
        rw [if_neg (show ¬ ((3 : Int32) = 6) by decide), if_neg (show ¬ ((3 : Int32) = 6) by decide), if_neg (show ¬ ((3 : Int32) = 11) by decide), if_neg (show ¬ ((3 : Int32) = 11) by decide), if_neg (show ¬ ((3 : Int32) = 35) by decide), if_neg (show ¬ ((3 : Int32) = 35) by decide), if_neg (show ¬ ((3 : Int32) = 108) by decide), if_neg (show ¬ ((3 : Int32) = 108) by decide), if_neg (show ¬ ((3 : Int32) = 109) by decide), if_neg (show ¬ ((3 : Int32) = 109) by decide)]
        exact ⟨0, rfl, rfl, by simp [ms1, ms2, m0.2, w1.2, w5.2, cntf], fun _ => Or.inr (Or.inr (Or.inr (Or.inl (rfl))))⟩
      · have hkk : k = 1 := (nI_eq (b := 1) (by omega) (by omega)).mp (by rw [hq, e]; rfl)
        subst hkk
        rw [e]
        rw [if_pos rfl, if_pos rfl]
        rw [hv0 (by omega)]
        by_cases q : dv w 0 ≤ 15
        · rw [if_pos q, if_pos q]
          exact ⟨0, rfl, rfl, by simp [ms1, ms2, m0.2, w1.2, w5.2, cntf], fun _ => Or.inr (Or.inr (Or.inr (Or.inr (Or.inr (Or.inr (Or.inr (Or.inl (⟨rfl, rfl, q⟩))))))))⟩
        · rw [if_neg q, if_neg q]
          exact ⟨2, rfl, rfl, by simp [ms1, ms2, m0.2, w1.2, w5.2, cntf], fun y => absurd y (by decide)⟩
      · have hkk : k = 6 := (nI_eq (b := 6) (by omega) (by omega)).mp (by rw [hq, e]; rfl)
        subst hkk
        rw [e]
        rw [if_neg (show ¬ ((11 : Int32) = 6) by decide), if_neg (show ¬ ((11 : Int32) = 6) by decide), if_pos rfl, if_pos rfl]
        obtain ⟨t, i1, i2, i3⟩ := tag_eq hE hT
        rw [i1, i2]
        dsimp only
        by_cases q : t = 0
        · rw [if_pos q, if_pos q]
          exact ⟨65, rfl, rfl, by simp [ms1, ms2, i3, cntf], fun y => absurd y (by decide)⟩
        · rw [if_neg q, if_neg q]
          exact ⟨0, rfl, rfl, by simp [ms1, ms2, i3, cntf], fun _ => Or.inr (Or.inr (Or.inr (Or.inr (Or.inr (Or.inr (Or.inr (Or.inr (Or.inl (⟨rfl, rfl⟩)))))))))⟩
      · have hkk : k = 0 := (nI_eq (b := 0) (by omega) (by omega)).mp (by rw [hq, e]; rfl)
        subst hkk
        rw [e]
        rw [if_neg (show ¬ ((13 : Int32) = 6) by decide), if_neg (show ¬ ((13 : Int32) = 6) by decide), if_neg (show ¬ ((13 : Int32) = 11) by decide), if_neg (show ¬ ((13 : Int32) = 11) by decide), if_neg (show ¬ ((13 : Int32) = 35) by decide), if_neg (show ¬ ((13 : Int32) = 35) by decide), if_neg (show ¬ ((13 : Int32) = 108) by decide), if_neg (show ¬ ((13 : Int32) = 108) by decide), if_neg (show ¬ ((13 : Int32) = 109) by decide), if_neg (show ¬ ((13 : Int32) = 109) by decide)]
        exact ⟨0, rfl, rfl, by simp [ms1, ms2, m0.2, w1.2, w5.2, cntf], fun _ => Or.inr (Or.inr (Or.inr (Or.inr (Or.inl (rfl)))))⟩
      · have hkk : k = 6 := (nI_eq (b := 6) (by omega) (by omega)).mp (by rw [hq, e]; rfl)
        subst hkk
        rw [e]
        rw [if_neg (show ¬ ((18 : Int32) = 6) by decide), if_neg (show ¬ ((18 : Int32) = 6) by decide), if_neg (show ¬ ((18 : Int32) = 11) by decide), if_neg (show ¬ ((18 : Int32) = 11) by decide), if_neg (show ¬ ((18 : Int32) = 35) by decide), if_neg (show ¬ ((18 : Int32) = 35) by decide), if_neg (show ¬ ((18 : Int32) = 108) by decide), if_neg (show ¬ ((18 : Int32) = 108) by decide), if_neg (show ¬ ((18 : Int32) = 109) by decide), if_neg (show ¬ ((18 : Int32) = 109) by decide)]
        exact ⟨0, rfl, rfl, by simp [ms1, ms2, m0.2, w1.2, w5.2, cntf], fun _ => Or.inr (Or.inr (Or.inr (Or.inr (Or.inr (Or.inr (Or.inr (Or.inr (Or.inr (Or.inl (⟨rfl, rfl⟩))))))))))⟩
      · have hkk : k = 9 := (nI_eq (b := 9) (by omega) (by omega)).mp (by rw [hq, e]; rfl)
        subst hkk
        rw [e]
        rw [if_neg (show ¬ ((35 : Int32) = 6) by decide), if_neg (show ¬ ((35 : Int32) = 6) by decide), if_neg (show ¬ ((35 : Int32) = 11) by decide), if_neg (show ¬ ((35 : Int32) = 11) by decide), if_pos rfl, if_pos rfl]
        have c1 : f_X0_fourAt z 1 = (wd4 (dv w) 1, z) := c_four hE (i := 1) (by omega)
        have c5 : f_X0_fourAt z 5 = (wd4 (dv w) 5, z) := c_four hE (i := 5) (by omega)
        rw [c1]
        dsimp only
        rw [c5, f_X4_codeOfEnds]
        dsimp only
        by_cases q : wd4 (dv w) 1 = wd4 (dv w) 5
        · rw [if_pos q, if_pos q]
          exact ⟨9, rfl, rfl, by simp [ms1, ms2, m0.2, w1.2, w5.2, cntf], fun y => absurd y (by decide)⟩
        · rw [if_neg q, if_neg q]
          by_cases q2 : wd4 (dv w) 5 ≤ wd4 (dv w) 1
          · rw [if_pos q2, if_pos q2]
            have q3 : wd4 (dv w) 5 < wd4 (dv w) 1 := by
              rw [Int32.lt_iff_toInt_lt]
              rw [Int32.le_iff_toInt_le] at q2
              have q4 : ¬ (wd4 (dv w) 1).toInt = (wd4 (dv w) 5).toInt := fun y => q (Int32.toInt_inj.mp y)
              omega
            exact ⟨0, rfl, rfl, by simp [ms1, ms2, m0.2, w1.2, w5.2, cntf], fun _ => Or.inr (Or.inr (Or.inr (Or.inr (Or.inr (Or.inr (Or.inr (Or.inr (Or.inr (Or.inr (Or.inl (⟨rfl, rfl, q3⟩)))))))))))⟩
          · rw [if_neg q2, if_neg q2]
            exact ⟨11, rfl, rfl, by simp [ms1, ms2, m0.2, w1.2, w5.2, cntf], fun y => absurd y (by decide)⟩
      · have hkk : k = 0 := (nI_eq (b := 0) (by omega) (by omega)).mp (by rw [hq, e]; rfl)
        subst hkk
        rw [e]
        rw [if_neg (show ¬ ((38 : Int32) = 6) by decide), if_neg (show ¬ ((38 : Int32) = 6) by decide), if_neg (show ¬ ((38 : Int32) = 11) by decide), if_neg (show ¬ ((38 : Int32) = 11) by decide), if_neg (show ¬ ((38 : Int32) = 35) by decide), if_neg (show ¬ ((38 : Int32) = 35) by decide), if_neg (show ¬ ((38 : Int32) = 108) by decide), if_neg (show ¬ ((38 : Int32) = 108) by decide), if_neg (show ¬ ((38 : Int32) = 109) by decide), if_neg (show ¬ ((38 : Int32) = 109) by decide)]
        exact ⟨0, rfl, rfl, by simp [ms1, ms2, m0.2, w1.2, w5.2, cntf], fun _ => Or.inr (Or.inr (Or.inr (Or.inr (Or.inr (Or.inr (Or.inl (rfl)))))))⟩
      · have hkk : k = 0 := (nI_eq (b := 0) (by omega) (by omega)).mp (by rw [hq, e]; rfl)
        subst hkk
        rw [e]
        rw [if_neg (show ¬ ((48 : Int32) = 6) by decide), if_neg (show ¬ ((48 : Int32) = 6) by decide), if_neg (show ¬ ((48 : Int32) = 11) by decide), if_neg (show ¬ ((48 : Int32) = 11) by decide), if_neg (show ¬ ((48 : Int32) = 35) by decide), if_neg (show ¬ ((48 : Int32) = 35) by decide), if_neg (show ¬ ((48 : Int32) = 108) by decide), if_neg (show ¬ ((48 : Int32) = 108) by decide), if_neg (show ¬ ((48 : Int32) = 109) by decide), if_neg (show ¬ ((48 : Int32) = 109) by decide)]
        exact ⟨0, rfl, rfl, by simp [ms1, ms2, m0.2, w1.2, w5.2, cntf], fun _ => Or.inr (Or.inr (Or.inr (Or.inr (Or.inr (Or.inl (rfl))))))⟩
      · have hkk : k = 1 := (nI_eq (b := 1) (by omega) (by omega)).mp (by rw [hq, e]; rfl)
        subst hkk
        rw [e]
        rw [if_neg (show ¬ ((108 : Int32) = 6) by decide), if_neg (show ¬ ((108 : Int32) = 6) by decide), if_neg (show ¬ ((108 : Int32) = 11) by decide), if_neg (show ¬ ((108 : Int32) = 11) by decide), if_neg (show ¬ ((108 : Int32) = 35) by decide), if_neg (show ¬ ((108 : Int32) = 35) by decide), if_pos rfl, if_pos rfl]
        rw [hv0 (by omega), ed0]
        have y1 : nI d0 < 1 ↔ d0 < 1 := nI_ltI (b := 1) (by omega) (by omega)
        have y0 : nI d0 = 0 ↔ d0 = 0 := nI_eq (b := 0) (by omega) (by omega)
        have y3 : nI d0 ≤ 3 ↔ d0 ≤ 3 := nI_leI (b := 3) (by omega) (by omega)
        by_cases q : d0 = 0
        · rw [if_pos (y1.mpr (by omega)), if_pos (y0.mpr q)]
          exact ⟨2, rfl, rfl, by simp [ms1, ms2, m0.2, w1.2, w5.2, cntf], fun y => absurd y (by decide)⟩
        · rw [if_neg (fun y => q (by have := y1.mp y; omega)), if_neg (fun y => q (y0.mp y))]
          by_cases q2 : nI d0 ≤ 3
          · rw [if_pos q2, if_pos q2]
            have q3 := y3.mp q2
            have q4 : dv w 0 = 1 ∨ dv w 0 = 2 ∨ dv w 0 = 3 := by
              rw [ed0]
              rcases (show d0 = 1 ∨ d0 = 2 ∨ d0 = 3 by omega) with rfl | rfl | rfl
              · exact Or.inl rfl
              · exact Or.inr (Or.inl rfl)
              · exact Or.inr (Or.inr rfl)
            exact ⟨0, rfl, rfl, by simp [ms1, ms2, m0.2, w1.2, w5.2, cntf], fun _ => Or.inr (Or.inr (Or.inr (Or.inr (Or.inr (Or.inr (Or.inr (Or.inr (Or.inr (Or.inr (Or.inr (Or.inl (⟨rfl, rfl, q4⟩))))))))))))⟩
          · rw [if_neg q2, if_neg q2]
            exact ⟨2, rfl, rfl, by simp [ms1, ms2, m0.2, w1.2, w5.2, cntf], fun y => absurd y (by decide)⟩
      · have hkk : k = 1 := (nI_eq (b := 1) (by omega) (by omega)).mp (by rw [hq, e]; rfl)
        subst hkk
        rw [e]
        rw [if_neg (show ¬ ((109 : Int32) = 6) by decide), if_neg (show ¬ ((109 : Int32) = 6) by decide), if_neg (show ¬ ((109 : Int32) = 11) by decide), if_neg (show ¬ ((109 : Int32) = 11) by decide), if_neg (show ¬ ((109 : Int32) = 35) by decide), if_neg (show ¬ ((109 : Int32) = 35) by decide), if_neg (show ¬ ((109 : Int32) = 108) by decide), if_neg (show ¬ ((109 : Int32) = 108) by decide), if_pos rfl, if_pos rfl]
        rw [hv0 (by omega)]
        by_cases q : dv w 0 ≤ 1
        · rw [if_pos q, if_pos q]
          exact ⟨0, rfl, rfl, by simp [ms1, ms2, m0.2, w1.2, w5.2, cntf], fun _ => Or.inr (Or.inr (Or.inr (Or.inr (Or.inr (Or.inr (Or.inr (Or.inr (Or.inr (Or.inr (Or.inr (Or.inr (⟨rfl, rfl⟩))))))))))))⟩
        · rw [if_neg q, if_neg q]
          exact ⟨2, rfl, rfl, by simp [ms1, ms2, m0.2, w1.2, w5.2, cntf], fun y => absurd y (by decide)⟩
    · rw [if_neg hq, if_neg (fun y => hq y.symm)]
      exact ⟨5, rfl, rfl, ⟨ms1, fun y => absurd y hne, fun _ => ⟨ms2, fun y => absurd y.symm hq, fun _ => trivial⟩⟩, fun y => absurd y (by decide)⟩
  · have e : cntf (gI z 20) = -1 := by
      unfold cntf
      simp only [kn, not_or] at hk
      simp only [hk, if_false]
    rw [e, if_pos rfl, if_pos rfl]
    exact ⟨64, rfl, rfl, ⟨ms1, fun _ => trivial, fun q => absurd rfl q⟩, fun q => absurd q (by decide)⟩
