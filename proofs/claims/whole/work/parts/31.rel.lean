/-! the relation between the class's state z and the reference's w, with t ticks over -/
def Bg (z w : Sg) : Prop := Cm z w ∧ gI z 0 = gI w 12 ∧ gI z 3 = gI w 8 ∧ gI z 4 = gI w 14 ∧ gI z 5 = gI w 15 ∧ gI z 18 = gI w 7 ∧ (gI z 18 = 1 ∨ gI z 18 = 2 ∨ gI z 18 = 3) ∧ gI z 31 = gI w 16 ∧ gA z 5 = gA w 7 ∧ gA z 6 = gA w 8 ∧ Ro (gA z 4)
def Tm (t u v : Nat) (z : Sg) : Prop := gI z 0 = nI t ∧ (∃ b : Nat, b ≤ u ∧ gI z 3 = nI b ∧ gI z 6 = nI (b % 2)) ∧ (∃ n : Nat, n ≤ v ∧ gI z 31 = nI n)
def Wi (z w : Sg) : Prop := gI z 27 = gI w 11 ∧ ∃ n k : Nat, n ≤ 36 ∧ k ≤ 36 ∧ gI z 27 = nI n ∧ gI z 28 = nI k ∧ n ≤ k ∧ gI z 30 = 0 ∧ gL w 0 = -1
def Wb (t : Nat) (z w : Sg) : Prop := gI z 27 = gI w 11 ∧ ∃ n k : Nat, n ≤ 36 ∧ gI z 27 = nI n ∧ gI z 28 = nI k ∧ k < n ∧ ((k ≤ t ∧ gI z 30 = 0 ∧ gL w 0 = lN (t - k)) ∨ (k = 0 ∧ gI z 30 = 1 ∧ gL w 0 = lN (t + 1)))
def Qt (t : Nat) (z w : Sg) : Prop := ∃ q : Nat, q ≤ t ∧ gI z 1 = nI q ∧ gL w 1 = lN (t - q) - 1 ∧ (0 < q → gI w 9 = 0 ∧ gI w 10 = 0)
def Rel (t : Nat) (z w : Sg) : Prop := Bg z w ∧ Tm t t t z ∧ Rd t z w ∧ (Wi z w ∨ Wb t z w) ∧ Qt t z w
theorem rd_keep {t : Nat} {z w z' w' : Sg} (h19 : gI z' 19 = gI z 19) (h20 : gI z' 20 = gI z 20) (h21 : gI z' 21 = gI z 21) (h23 : gI z' 23 = gI z 23) (h24 : gI z' 24 = gI z 24) (h25 : gI z' 25 = gI z 25) (h26 : gI z' 26 = gI z 26) (r2 : gA z' 2 = gA z 2) (r3 : gA z' 3 = gA z 3) (w9 : gI w' 9 = gI w 9) (w10 : gI w' 10 = gI w 10) (a5 : gA w' 5 = gA w 5) (h : Rd t z w) : Rd t z' w' := by
  have as : asz w' = asz w := by unfold asz; rw [a5]
  simp only [Rd, By, Rw, P1, P2, P3, P4, P5, Ri, Mk, Ad, Ec, h19, h20, h21, h23, h24, h25, h26, r2, r3, w9, w10, a5, as] at h ⊢
  exact h
theorem l_cmp0 (x : Int64) : (lg_cmp x (-1) = 0) ↔ x = -1 := lg_cmp_eq x (-1)
theorem lN_m1 {n : Nat} (h : n < 2 ^ 31) : ¬ lN n = -1 := by
  intro q
  have h1 := lN_toInt h
  rw [q] at h1
  have h2 : (-1 : Int64).toInt = -1 := by decide
  rw [h2] at h1
  omega
theorem m_busy (w : Sg) : f_X5_isBusy w = (if gL w 0 = -1 then 0 else 1, w) := by
  rw [f_X5_isBusy]
  by_cases h : gL w 0 = -1
  · rw [if_pos h, if_pos ((l_cmp0 _).mpr h)]
  · rw [if_neg h, if_neg (fun q => h ((l_cmp0 _).mp q))]
theorem quiet_eq {t q : Nat} (hq : q ≤ t) (ht : t < 2 ^ 31) : (lN t - 1) - (lN (t - q) - 1) = lN q := by
  have e : lN t = lN (t - q) + lN q := by rw [lN_add]; congr 1; omega
  rw [e]
  generalize lN (t - q) = x
  generalize lN q = y
  apply Int64.toBitVec_inj.1
  simp only [Int64.toBitVec_sub, Int64.toBitVec_add]
  generalize Int64.toBitVec x = a
  generalize Int64.toBitVec y = b
  generalize Int64.toBitVec 1 = c
  bv_omega
theorem c_busyI {z w : Sg} (h : Wi z w) : f_X1_isBusy z = (0, z) ∧ gL w 0 = -1 := by
  obtain ⟨-, n, k, h1, h2, h27, h28, h3, -, h5⟩ := h
  refine ⟨?_, h5⟩
  rw [f_X1_isBusy, h27, h28, if_pos (nI_le h3 (by omega))]
theorem c_busyB {t : Nat} {z w : Sg} (ht : t < 2 ^ 30) (h : Wb t z w) : f_X1_isBusy z = (1, z) ∧ ¬ gL w 0 = -1 := by
  obtain ⟨-, n, k, h1, h27, h28, h3, h4⟩ := h
  refine ⟨?_, ?_⟩
  · rw [f_X1_isBusy, h27, h28, if_neg (nI_ge h3 (by omega))]
  · rcases h4 with ⟨-, -, h5⟩ | ⟨-, -, h5⟩
    · rw [h5]; exact lN_m1 (by omega)
    · rw [h5]; exact lN_m1 (by omega)
/-- step A: a burst begins, or none -/
theorem stepA {t : Nat} {z w : Sg} (ht : t < 2 ^ 30) (b : Int32) (h : Rel t z w) : ∃ (z1 w1 : Sg) (y : Int32), f_X4_passTick z b = f_X4_passTick_11 z1 b ∧ (s_X4_passTick_11 z1 b → s_X4_passTick z b) ∧ f_X5_pass w b = f_X5_pass_78 w1 b y ∧ (s_X5_pass_78 w1 b y → s_X5_pass w b) ∧ Bg z1 w1 ∧ Tm t (t + 1) t z1 ∧ Rd t z1 w1 ∧ Qt t z1 w1 ∧ ((y = 0 ∧ Wi z1 w1) ∨ (y = 1 ∧ Wb t z1 w1)) := by
  obtain ⟨hB, hT, hR, hW, hQ⟩ := id h
  have hT1 : Tm t (t + 1) t z := ⟨hT.1, by obtain ⟨q, h1, h2⟩ := hT.2.1; exact ⟨q, by omega, h2⟩, hT.2.2⟩
  have h17 : gI z 17 = gI w 6 := hB.1.2.2.2.2.2.2.1
  rw [f_X4_passTick, s_X4_passTick, f_X5_pass, s_X5_pass, f_X4_burstIsDue]
  simp only [bd_q, m_busy, h17]
  rcases hW with hW | hW
  · obtain ⟨b1, b2⟩ := c_busyI hW
    rw [b1, if_pos b2]
    simp only [if_true]
    by_cases c1 : gI w 6 = 0
    · rw [if_pos c1, if_pos c1]
      simp only [if_true]
      exact ⟨z, w, 0, rfl, fun q => ⟨fun _ => q, fun y => absurd trivial y⟩, rfl, fun q => by simp [c1, q], hB, hT1, hR, hQ, Or.inl ⟨rfl, hW⟩⟩
    · rw [if_neg c1, if_neg c1]
      obtain ⟨q, q1, q2, q3, q4⟩ := id hQ
      have w12 : gI w 12 = nI t := hB.2.1.symm.trans hT.1
      have hq : f_X5_quiet w = (lN q, w) := by
        rw [f_X5_quiet, w12, nI_l (by omega), q3, quiet_eq q1 (by omega)]
      have lq : lg_cmp (lN q) 8 < 0 ↔ q < 8 := (lg_cmp_lt (lN q) 8).trans (lN_lt (b := 8) (by omega) (by omega))
      have cq : gI z 1 < 8 ↔ q < 8 := by rw [q2]; exact nI_ltI (b := 8) (by omega) (by omega)
      by_cases h8 : q < 8
      · rw [if_pos (cq.mpr h8), hq]
        simp only [if_true, if_pos (lq.mpr h8)]
        have e : (if gI w 9 = 0 then (if gI w 10 = 0 then f_X5_pass_78 w b 0 else f_X5_pass_78 w b 0) else f_X5_pass_78 w b 0) = f_X5_pass_78 w b 0 := by
          by_cases a1 : gI w 9 = 0
          · rw [if_pos a1]
            by_cases a2 : gI w 10 = 0
            · rw [if_pos a2]
            · rw [if_neg a2]
          · rw [if_neg a1]
        rw [e]
        refine ⟨z, w, 0, rfl, fun y => ⟨fun _ => y, fun u => absurd trivial u⟩, rfl, fun y => ?_, hB, hT1, hR, hQ, Or.inl ⟨rfl, hW⟩⟩
        simp [c1, lq.mpr h8, y]
      · have n8 : ¬ gI z 1 < 8 := fun y => h8 (cq.mp y)
        have m8 : ¬ lg_cmp (lN q) 8 < 0 := fun y => h8 (lq.mp y)
        obtain ⟨a1, a2⟩ := q4 (by omega)
        have n10 : ¬ ((1 : Int32) = 0) := by decide
        rw [if_neg n8, hq, if_pos a1, if_pos a2]
        simp only [if_neg m8, n10, if_false]
        obtain ⟨bb, e1, e2, e3⟩ := hT.2.1
        have w8 : gI w 8 = nI bb := hB.2.2.1.symm.trans e2
        have hrem : gI w 8 - gI w 8 / 2 * 2 = nI (bb % 2) := by rw [w8]; exact pk_rem (d := 2) (by omega) (by omega) (by omega)
        have hmm : nI (bb % 2) = 0 ∨ nI (bb % 2) = 1 := by
          rcases (show bb % 2 = 0 ∨ bb % 2 = 1 by omega) with u | u <;> rw [u]
          · exact Or.inl rfl
          · exact Or.inr rfl
        have hC : Cm (pI z 3 (gI z 3 + 1)) (pI w 8 (gI w 8 + 1)) := hB.1
        have h18 : gI z 18 = gI w 7 := hB.2.2.2.2.2.1
        have hd : Dt (pI z 3 (gI z 3 + 1)) (pI w 8 (gI w 8 + 1)) (gI w 7) := by
          rw [← h18]
          rcases hB.2.2.2.2.2.2.1 with u | u | u
          · exact Or.inr (Or.inl u)
          · exact Or.inr (Or.inr (Or.inl u))
          · exact Or.inr (Or.inr (Or.inr (Or.inl u)))
        obtain ⟨N, cp, row, n1, n2, i1, i2, i3, i4, i5⟩ := compose_eq hC (mark := 129) (mm := nI (bb % 2)) (c := gI w 7) (cd := 0) (lN t) hmm (fun _ => hd)
        have x6 : gI (pI z 3 (gI z 3 + 1)) 6 = nI (bb % 2) := e3
        have x18 : gI (pI z 3 (gI z 3 + 1)) 18 = gI w 7 := h18
        have y7 : gI (pI w 8 (gI w 8 + 1)) 7 = gI w 7 := rfl
        have y12 : Int32.toInt64 (gI (pI w 8 (gI w 8 + 1)) 12) = lN t := by
          show Int32.toInt64 (gI w 12) = lN t
          rw [w12, nI_l (by omega)]
        rw [f_X4_beginBurst, s_X4_beginBurst, hrem]
        simp only [bd_q, x6, x18, y7, y12, i1, i3]
        have g6 : gI (Zc (pI z 3 (gI z 3 + 1)) (nI N) cp row) 6 = nI (bb % 2) := e3
        rw [g6]
        have hpar : (1 : Int32) - nI (bb % 2) = nI ((bb + 1) % 2) := by
          rcases (show bb % 2 = 0 ∨ bb % 2 = 1 by omega) with u | u
          · rw [u, show (bb + 1) % 2 = 1 by omega]; decide
          · rw [u, show (bb + 1) % 2 = 0 by omega]; decide
        refine ⟨_, _, 1, rfl, fun y => ⟨fun u => absurd u id, fun _ => ⟨⟨i2, trivial⟩, y⟩⟩, rfl, fun y => ?_, ?_, ?_, ?_, ?_, Or.inr ⟨rfl, ?_⟩⟩
        · simp [c1, a1, a2, m8, i4, y]
        · obtain ⟨⟨c2, c10, c11, c12, c13, c16, c17, cA0, cA1, cA4, hI, f14, f15, hs, hlt⟩, g1, g2, g3, g4, g5, g6', g7, g8, g9, g10⟩ := hB
          exact ⟨⟨c2, c10, c11, c12, c13, c16, c17, cA0, cA1, rfl, hI, f14, f15, hs, hlt⟩, g1, by show gI z 3 + 1 = gI w 8 + 1; rw [g2], g3, g4, g5, g6', g7, g8, g9, i5 g10⟩
        · refine ⟨hT.1, ⟨bb + 1, by omega, ?_, ?_⟩, hT.2.2⟩
          · show gI z 3 + 1 = nI (bb + 1); rw [e2, nI_1]
          · show (1 : Int32) - nI (bb % 2) = _; exact hpar
        · exact rd_keep (z := z) (w := w) rfl rfl rfl rfl rfl rfl rfl rfl rfl rfl rfl rfl hR
        · exact ⟨q, q1, q2, q3, q4⟩
        · exact ⟨rfl, N, 0, n2, rfl, rfl, n1, Or.inl ⟨by omega, rfl, rfl⟩⟩
  · obtain ⟨b1, b2⟩ := c_busyB ht hW
    have n10 : ¬ ((1 : Int32) = 0) := by decide
    rw [b1, if_neg b2]
    simp only [n10, if_false]
    have e : (if gI w 6 = 0 then ((0 : Int32), z) else (if gI z 1 < 8 then (0, z) else (0, z))) = (0, z) := by
      by_cases c1 : gI w 6 = 0
      · rw [if_pos c1]
      · rw [if_neg c1]
        by_cases c2 : gI z 1 < 8
        · rw [if_pos c2]
        · rw [if_neg c2]
    rw [e]
    simp only [if_true]
    exact ⟨z, w, 1, rfl, fun q => ⟨fun _ => q, fun y => absurd trivial y⟩, rfl, fun q => ⟨fun y => absurd y id, fun _ => q⟩, hB, hT1, hR, hQ, Or.inr ⟨rfl, hW⟩⟩
