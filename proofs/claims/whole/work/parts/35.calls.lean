/-! every call answers alike, and the relation stays -/
def Kc {α : Type} (t : Nat) (p q : α × Sg) : Prop := p.1 = q.1 ∧ ∃ t', t' ≤ t + 1000 ∧ Rel t' p.2 q.2
theorem rel_0 {t : Nat} {z w : Sg} (h : Rel t z w) : Rel t z (pI w 0 0) := by
  obtain ⟨hB, hT, hR, hW, hQ⟩ := h
  exact ⟨hB, hT, rd_keep (z := z) (w := w) rfl rfl rfl rfl rfl rfl rfl rfl rfl rfl rfl rfl hR, hW, hQ⟩
theorem r31 {t : Nat} {z w : Sg} (h : Rel t z w) : gI z 31 = gI w 16 := h.1.2.2.2.2.2.2.2.1
theorem byteE (x : Int32) : x &&& 255 = -1 ∨ ∃ n : Nat, n < 256 ∧ x &&& 255 = nI n := Or.inr (pk_andE x 8 (by decide))
theorem k_octet {t : Nat} {z w : Sg} (ht : t < 2 ^ 30) (x : Int32) (h : Rel t z w) : Kc t (f_X4_octet z x) (f_X5_octet w x) ∧ s_X4_octet z x ∧ s_X5_octet w x := by
  obtain ⟨h1, h2, h3⟩ := tick_eq ht (byteE x) (rel_0 h)
  rw [f_X4_octet, f_X5_octet, s_X4_octet, s_X5_octet]
  simp only [bd_q]
  exact ⟨⟨r31 h1, t + 1, by omega, h1⟩, ⟨h2, trivial⟩, h3, trivial⟩
theorem bv_sh0 (v : Int32) : (v.toUInt32 >>> (Int32.toUInt32 0 &&& Int32.toUInt32 31)).toInt32 &&& 255 = (v >>> ((0 : Int32) &&& 31)) &&& 255 := by
  apply b_ext
  intro i hi
  rw [b_and, b_and, b_255]
  have h1 : bt ((v.toUInt32 >>> (Int32.toUInt32 0 &&& Int32.toUInt32 31)).toInt32) i = bt v (0 + i) := b_ushr 0 (by omega) v i
  have h2 : bt (v >>> ((0 : Int32) &&& 31)) i = if 0 + i < 32 then bt v (0 + i) else bt v 31 := b_sshr 0 (by omega) v hi
  rw [h1, h2, if_pos (by omega)]
theorem four_t {t : Nat} {z w : Sg} (ht : t + 4 < 2 ^ 30) (x1 x2 x3 x4 : Int32) (h : Rel t z w) : ∃ z1 z2 z3 z4 w1 w2 w3 w4 : Sg, f_X4_passTick z (x1 &&& 255) = z1 ∧ f_X4_passTick z1 (x2 &&& 255) = z2 ∧ f_X4_passTick z2 (x3 &&& 255) = z3 ∧ f_X4_passTick z3 (x4 &&& 255) = z4 ∧ f_X5_pass w (x1 &&& 255) = w1 ∧ f_X5_pass w1 (x2 &&& 255) = w2 ∧ f_X5_pass w2 (x3 &&& 255) = w3 ∧ f_X5_pass w3 (x4 &&& 255) = w4 ∧ s_X4_passTick z (x1 &&& 255) ∧ s_X4_passTick z1 (x2 &&& 255) ∧ s_X4_passTick z2 (x3 &&& 255) ∧ s_X4_passTick z3 (x4 &&& 255) ∧ s_X5_pass w (x1 &&& 255) ∧ s_X5_pass w1 (x2 &&& 255) ∧ s_X5_pass w2 (x3 &&& 255) ∧ s_X5_pass w3 (x4 &&& 255) ∧ Rel (t + 4) z4 w4 := by
  obtain ⟨a1, a2, a3⟩ := tick_eq (by omega) (byteE x1) h
  obtain ⟨b1, b2, b3⟩ := tick_eq (by omega) (byteE x2) a1
  obtain ⟨c1, c2, c3⟩ := tick_eq (by omega) (byteE x3) b1
  obtain ⟨d1, d2, d3⟩ := tick_eq (by omega) (byteE x4) c1
  exact ⟨_, _, _, _, _, _, _, _, rfl, rfl, rfl, rfl, rfl, rfl, rfl, rfl, a2, b2, c2, d2, a3, b3, c3, d3, d1⟩
theorem k_octets {t : Nat} {z w : Sg} (ht : t + 4 < 2 ^ 30) (x : Int32) (h : Rel t z w) : Kc t (f_X4_octets z x) (f_X5_octets w x) ∧ s_X4_octets z x ∧ s_X5_octets w x := by
  obtain ⟨z1, z2, z3, z4, w1, w2, w3, w4, e1, e2, e3, e4, e5, e6, e7, e8, a2, b2, c2, d2, a3, b3, c3, d3, d1⟩ := four_t ht (x >>> ((24 : Int32) &&& 31)) (x >>> ((16 : Int32) &&& 31)) (x >>> ((8 : Int32) &&& 31)) (x >>> ((0 : Int32) &&& 31)) (rel_0 h)
  rw [f_X4_octets, f_X5_octets, s_X4_octets, s_X5_octets]
  simp only [bd_q, bv_sh24, bv_sh16, bv_sh8, bv_sh0, e1, e2, e3, e4, e5, e6, e7, e8]
  exact ⟨⟨r31 d1, t + 4, by omega, d1⟩, ⟨a2, b2, c2, d2, trivial⟩, a3, b3, c3, d3, trivial⟩
theorem tick_l {n : Nat} (hn : n ≤ 1000) : ∀ (j m i t : Nat) (z w : Sg), i + j = n → j < m → t + j < 2 ^ 30 → Rel t z w → Kc t (f_X4_tick_16 m z (nI n) (nI i)) (f_X5_tick_21 m w (nI n) (nI i)) ∧ s_X4_tick_16 m z (nI n) (nI i) ∧ s_X5_tick_21 m w (nI n) (nI i) ∧ ∃ t', t' ≤ t + j ∧ Rel t' (f_X4_tick_16 m z (nI n) (nI i)).2 (f_X5_tick_21 m w (nI n) (nI i)).2 := by
  intro j
  induction j with
  | zero =>
    intro m i t z w hi hm ht h
    obtain ⟨m, rfl⟩ : ∃ m', m = m' + 1 := ⟨m - 1, by omega⟩
    have h2 : nI n ≤ nI i := nI_le (by omega) (by omega)
    rw [f_X4_tick_16, f_X5_tick_21, s_X4_tick_16, s_X5_tick_21, if_pos h2, if_pos h2]
    exact ⟨⟨r31 h, t, by omega, h⟩, ⟨fun _ => trivial, fun q => absurd h2 q⟩, ⟨fun _ => trivial, fun q => absurd h2 q⟩, t, by omega, h⟩
  | succ j ih =>
    intro m i t z w hi hm ht h
    obtain ⟨m, rfl⟩ : ∃ m', m = m' + 1 := ⟨m - 1, by omega⟩
    have h2 : ¬ nI n ≤ nI i := nI_ge (by omega) (by omega)
    obtain ⟨a1, a2, a3⟩ := tick_eq (by omega) (Or.inl rfl) h
    obtain ⟨⟨i1, -⟩, i2, i3, t', i4, i5⟩ := ih m (i + 1) (t + 1) _ _ (by omega) (by omega) (by omega) a1
    rw [f_X4_tick_16, f_X5_tick_21, s_X4_tick_16, s_X5_tick_21, if_neg h2, if_neg h2]
    simp only [bd_q, nI_1]
    exact ⟨⟨i1, t', by omega, i5⟩, ⟨fun q => absurd q h2, fun _ => ⟨a2, i2⟩⟩, ⟨fun q => absurd q h2, fun _ => ⟨a3, i3⟩⟩, t', by omega, i5⟩
theorem k_tick {t : Nat} {z w : Sg} (ht : t + 1000 < 2 ^ 30) (x : Int32) (h : Rel t z w) : Kc t (f_X4_tick z x) (f_X5_tick w x) ∧ s_X4_tick z x ∧ s_X5_tick w x := by
  rw [f_X4_tick, f_X5_tick, s_X4_tick, s_X5_tick]
  simp only [bd_q]
  by_cases h1 : x < 1
  · rw [if_pos h1, if_pos h1]
    exact ⟨⟨rfl, t, by omega, rel_0 h⟩, ⟨fun _ => trivial, fun q => absurd h1 q⟩, ⟨fun _ => trivial, fun q => absurd h1 q⟩⟩
  · rw [if_neg h1, if_neg h1]
    by_cases h2 : x ≤ 1000
    · rw [if_pos h2, if_pos h2]
      have h0 : ¬ x < 0 := by
        rw [Int32.lt_iff_toInt_lt] at h1 ⊢
        have e1 : (1 : Int32).toInt = 1 := rfl
        have e0 : (0 : Int32).toInt = 0 := rfl
        omega
      obtain ⟨n, hn, rfl⟩ := nI_of2 (M := 1000) (n := 1000) (by decide) h0 h2
      obtain ⟨a1, a2, a3, -⟩ := tick_l hn n 1001 0 t z (pI w 0 0) (by omega) (by omega) (by omega) (rel_0 h)
      exact ⟨a1, ⟨fun q => absurd q h1, fun _ => ⟨fun _ => a2, fun q => absurd h2 q⟩⟩, ⟨fun q => absurd q h1, fun _ => ⟨fun _ => a3, fun q => absurd h2 q⟩⟩⟩
    · rw [if_neg h2, if_neg h2]
      exact ⟨⟨rfl, t, by omega, rel_0 h⟩, ⟨fun q => absurd q h1, fun _ => ⟨fun q => absurd q h2, fun _ => trivial⟩⟩, ⟨fun q => absurd q h1, fun _ => ⟨fun q => absurd q h2, fun _ => trivial⟩⟩⟩
/-- which bytes are kept -/
theorem kept_eq {t : Nat} {z w : Sg} (ht : t < 2 ^ 30) (x : Int32) (h : Rel t z w) : (f_X3_placeOf z x = (-1, z) ∧ f_X5_isKept w x = (0, w)) ∨ (∃ j : Nat, x - x / 2000 * 2000 = nI (j % 2000) ∧ f_X3_placeOf z x = (nI (j % 2000), z) ∧ f_X5_isKept w x = (1, w)) := by
  obtain ⟨n, hn, e31⟩ := h.2.1.2.2
  have e16 : gI w 16 = nI n := (r31 h).symm.trans e31
  rw [f_X3_placeOf, f_X5_isKept, e31, e16]
  by_cases h0 : x < 0
  · rw [if_pos h0, if_pos h0]; exact Or.inl ⟨rfl, rfl⟩
  · rw [if_neg h0, if_neg h0]
    by_cases h1 : nI n ≤ x
    · rw [if_pos h1, if_pos h1]; exact Or.inl ⟨rfl, rfl⟩
    · rw [if_neg h1, if_neg h1]
      obtain ⟨j, hj, rfl⟩ := nI_of h0
      have hjn : j < n := by
        rcases Nat.lt_or_ge j n with q | q
        · exact q
        · exact absurd (nI_le q hj) h1
      have e1 : (nI n - 2000).toInt = (n : Int) - 2000 := pk_sub_toInt (b := 2000) (by omega) (by omega)
      have e2 : (nI n - nI j).toInt = (n : Int) - j := pk_sub_toInt (by omega) (by omega)
      have e3 : (nI j).toInt = (j : Int) := nI_toInt hj
      have e4 : (2000 : Int32).toInt = 2000 := by decide
      have c1 : nI n - 2000 ≤ nI j ↔ n ≤ j + 2000 := by rw [Int32.le_iff_toInt_le, e1, e3]; omega
      have c2 : 2000 < nI n - nI j ↔ ¬ n ≤ j + 2000 := by rw [Int32.lt_iff_toInt_lt, e2, e4]; omega
      have e5 : nI j - nI j / 2000 * 2000 = nI (j % 2000) := pk_rem (d := 2000) (by omega) (by omega) (by omega)
      by_cases q : n ≤ j + 2000
      · rw [if_pos (c1.mpr q), if_neg (fun y => (c2.mp y) q), e5]
        exact Or.inr ⟨j, rfl, rfl, rfl⟩
      · rw [if_neg (fun y => q (c1.mp y)), if_pos (c2.mpr q)]
        exact Or.inl ⟨rfl, rfl⟩
theorem k_sent {t : Nat} {z w : Sg} (ht : t < 2 ^ 30) (x : Int32) (h : Rel t z w) : Kc t (f_X4_sent z x) (f_X5_sent w x) ∧ s_X5_sent w x := by
  rw [f_X4_sent, f_X5_sent, s_X5_sent, f_X3_byteAt]
  simp only [bd_q]
  rcases kept_eq ht x (rel_0 h) with ⟨h1, h2⟩ | ⟨j, h0, h1, h2⟩
  · simp only [h1, h2, if_true]
    rw [if_pos (show (-1 : Int32) < 0 by decide)]
    exact ⟨⟨rfl, t, by omega, rel_0 h⟩, fun _ => trivial, fun q => absurd trivial q⟩
  · have n10 : ¬ ((1 : Int32) = 0) := by decide
    have nl : ¬ (2000 : Int32) ≤ nI (j % 2000) := nI_ge (b := 2000) (by omega) (by omega)
    simp only [h0, h1, h2, n10, if_false, if_neg (nI_pos (show j % 2000 < 2 ^ 31 by omega)), if_neg nl]
    have g5 : gA z 5 = gA w 7 := h.1.2.2.2.2.2.2.2.2.1
    refine ⟨⟨?_, t, by omega, rel_0 h⟩, fun q => absurd q id, fun _ => ⟨vp_in_nI (by omega) (by omega), trivial⟩⟩
    show gA z 5 _ = gA w 7 _
    rw [g5]
theorem k_when {t : Nat} {z w : Sg} (ht : t < 2 ^ 30) (x : Int32) (h : Rel t z w) : Kc t (f_X4_when z x) (f_X5_when w x) ∧ s_X5_when w x := by
  rw [f_X4_when, f_X5_when, s_X5_when, f_X3_tickAt]
  simp only [bd_q]
  rcases kept_eq ht x (rel_0 h) with ⟨h1, h2⟩ | ⟨j, h0, h1, h2⟩
  · simp only [h1, h2, if_true]
    rw [if_pos (show (-1 : Int32) < 0 by decide)]
    exact ⟨⟨rfl, t, by omega, rel_0 h⟩, fun _ => trivial, fun q => absurd trivial q⟩
  · have n10 : ¬ ((1 : Int32) = 0) := by decide
    have nl : ¬ (2000 : Int32) ≤ nI (j % 2000) := nI_ge (b := 2000) (by omega) (by omega)
    simp only [h0, h1, h2, n10, if_false, if_neg (nI_pos (show j % 2000 < 2 ^ 31 by omega)), if_neg nl]
    have g6 : gA z 6 = gA w 8 := h.1.2.2.2.2.2.2.2.2.2.1
    refine ⟨⟨?_, t, by omega, rel_0 h⟩, fun q => absurd q id, fun _ => ⟨vp_in_nI (by omega) (by omega), trivial⟩⟩
    show gA z 6 _ = gA w 8 _
    rw [g6]
theorem k_variable {t : Nat} {z w : Sg} (x v : Int32) (h : Rel t z w) : Kc t (f_X4_variable z x v) (f_X5_variable w x v) ∧ s_X5_variable w x v := by
  rw [f_X4_variable, f_X5_variable, s_X5_variable]
  simp only [bd_q]
  by_cases h0 : x < 0
  · rw [if_pos h0, if_pos h0]
    exact ⟨⟨rfl, t, by omega, rel_0 h⟩, fun _ => trivial, fun q => absurd h0 q⟩
  · rw [if_neg h0, if_neg h0]
    obtain ⟨j, hj, rfl⟩ := nI_of h0
    have c1 : nI j < 4 ↔ j < 4 := nI_ltI (b := 4) hj (by omega)
    have c2 : nI j ≤ 3 ↔ j ≤ 3 := nI_leI (b := 3) hj (by omega)
    by_cases q : j < 4
    · have nl : ¬ (4 : Int32) ≤ nI j := nI_ge (b := 4) (by omega) (by omega)
      have e1 : f_X2_variableAt z (nI j) = (gA z 1 j, z) := by
        unfold f_X2_variableAt
        rw [if_neg h0, if_neg nl, nI_clamp hj]
      have e2 : f_X2_setVariable z (nI j) v = pA z 1 j v := by
        unfold f_X2_setVariable
        rw [if_neg h0, if_neg nl, nI_clamp hj]
        exact bd_q _ _
      rw [if_pos (c1.mpr q), if_pos (c2.mpr (by omega)), e1]
      simp only [e2, nI_clamp hj]
      have hin : vp_in (nI j) 4 := vp_in_nI q (by omega)
      obtain ⟨⟨⟨c2', c10, c11, c12, c13, c16, c17, cA0, cA1, cA4, hI, f14, f15, hs, hlt⟩, g1, g2, g3, g4, g5, g6, g7, g8, g9, g10⟩, hT, hR, hW, hQ⟩ := h
      refine ⟨⟨?_, t, by omega, ⟨⟨c2', c10, c11, c12, c13, c16, c17, cA0, ?_, cA4, hI, f14, f15, hs, hlt⟩, g1, g2, g3, g4, g5, g6, g7, g8, g9, g10⟩, hT, rd_keep (z := z) (w := w) rfl rfl rfl rfl rfl rfl rfl rfl rfl rfl rfl rfl hR, hW, hQ⟩, fun q => absurd q h0, fun _ => ⟨fun _ => ⟨hin, hin, trivial⟩, fun y => absurd (c2.mpr (by omega)) y⟩⟩
      · show Int32.toInt64 (gA z 1 j) = Int32.toInt64 (gA w 2 j); rw [cA1]
      · show upd (gA z 1) j v = upd (gA w 2) j v; rw [cA1]
    · rw [if_neg (fun y => q (c1.mp y)), if_neg (fun y => q (by have := c2.mp y; omega))]
      exact ⟨⟨rfl, t, by omega, rel_0 h⟩, fun q => absurd q h0, fun _ => ⟨fun y => absurd (c2.mp y) (by omega), fun _ => trivial⟩⟩
theorem k_failure {t : Nat} {z w : Sg} {x : Int32} (hx : x = 0 ∨ x = 1) (h : Rel t z w) : Kc t (f_X4_failure z x) (f_X5_failure w x) ∧ s_X4_failure z x ∧ s_X5_failure w x := by
  rw [f_X4_failure, f_X5_failure, s_X4_failure, s_X5_failure]
  simp only [bd_q]
  obtain ⟨⟨⟨c2, c10, c11, c12, c13, c16, c17, cA0, cA1, cA4, hI, f14, f15, hs, hlt⟩, g1, g2, g3, g4, g5, g6, g7, g8, g9, g10⟩, hT, hR, hW, hQ⟩ := h
  have e5 : gI (pI w 0 0) 5 = gI w 5 := rfl
  rw [e5, c16]
  by_cases q : gI w 5 = x
  · rw [if_pos q, if_pos q]
    refine ⟨⟨rfl, t, by omega, ⟨⟨c2, c10, c11, c12, c13, ?_, c17, cA0, cA1, cA4, hI, f14, f15, hs, hlt⟩, g1, g2, g3, g4, g5, g6, g7, g8, g9, g10⟩, hT, rd_keep (z := z) (w := w) rfl rfl rfl rfl rfl rfl rfl rfl rfl rfl rfl rfl hR, hW, hQ⟩, ⟨fun _ => trivial, fun y => absurd q y⟩, hx, trivial⟩
    show gI z 16 = x
    rw [c16, q]
  · rw [if_neg q, if_neg q]
    exact ⟨⟨rfl, t, by omega, ⟨⟨c2, c10, c11, c12, c13, rfl, c17, cA0, cA1, cA4, hI, f14, f15, hs, hlt⟩, g1, g2, g3, g4, g5, g6, g7, g8, g9, g10⟩, hT, rd_keep (z := z) (w := w) rfl rfl rfl rfl rfl rfl rfl rfl rfl rfl rfl rfl hR, hW, hQ⟩, ⟨fun y => absurd y q, fun _ => ⟨hx, trivial⟩⟩, hx, trivial⟩
theorem k_now {t : Nat} {z w : Sg} (h : Rel t z w) : Kc t (f_X4_now z) (f_X5_now w) := by
  rw [f_X4_now, f_X5_now]
  simp only [bd_q]
  exact ⟨h.1.2.1, t, by omega, rel_0 h⟩
theorem k_tag {t : Nat} {z w : Sg} (x : Int32) (h : Rel t z w) : Kc t (f_X4_tag z x) (f_X5_tag w x) := by
  have cA0 : gA z 0 = gA w 1 := h.1.1.2.2.2.2.2.2.2.1
  rw [f_X4_tag, f_X5_tag, f_X2_tagByte]
  simp only [bd_q]
  by_cases h0 : x < 0
  · simp only [if_pos h0]
    exact ⟨rfl, t, by omega, rel_0 h⟩
  · by_cases h6 : 6 ≤ x
    · simp only [if_neg h0, if_pos h6]
      exact ⟨rfl, t, by omega, rel_0 h⟩
    · simp only [if_neg h0, if_neg h6]
      refine ⟨?_, t, by omega, rel_0 h⟩
      show gA z 0 _ = gA w 1 _
      rw [cA0]
theorem k_has {t : Nat} {z w : Sg} (x : Int32) (h : Rel t z w) : Kc t (f_X4_has z x) (f_X5_has w x) := by
  have h0 := rel_0 h
  obtain ⟨⟨⟨c2, c10, c11, c12, c13, c16, c17, cA0, cA1, cA4, hI, f14, f15, hs, hlt⟩, g1, g2, g3, g4, g5, g6, g7, g8, g9, g10⟩, hT, hR, hW, hQ⟩ := h
  have p1 : gI (pI w 0 0) 1 = gI z 10 := c10.symm
  have p2 : gI (pI w 0 0) 2 = gI z 11 := c11.symm
  have p3 : gI (pI w 0 0) 3 = gI z 12 := c12.symm
  have p4 : gI (pI w 0 0) 4 = gI z 13 := c13.symm
  have p6 : gI (pI w 0 0) 6 = gI z 17 := c17.symm
  have p7 : gI (pI w 0 0) 7 = gI z 18 := g5.symm
  have p13 : gI (pI w 0 0) 13 = gI z 2 := c2.symm
  have p8 : gI (pI w 0 0) 8 = gI z 3 := g2.symm
  have p14 : gI (pI w 0 0) 14 = gI z 4 := g3.symm
  have p15 : gI (pI w 0 0) 15 = gI z 5 := g4.symm
  rw [f_X4_has, f_X5_has]
  simp only [bd_q, p1, p2, p3, p4, p6, p7, p13, p8, p14, p15]
  have fin : ∀ v : Int64, Kc t ((v, z) : Int64 × Sg) (v, pI w 0 0) := fun v => ⟨rfl, t, by omega, h0⟩
  by_cases hk : x = 0 ∨ x = 1 ∨ x = 2 ∨ x = 3 ∨ x = 4 ∨ x = 5 ∨ x = 6 ∨ x = 7 ∨ x = 8 ∨ x = 9
  · rcases hk with rfl | rfl | rfl | rfl | rfl | rfl | rfl | rfl | rfl | rfl
    · exact fin _
    · exact fin _
    · exact fin _
    · exact fin _
    · show Kc t (if gI z 17 = 0 then ((0 : Int64), z) else (1, z)) (if gI z 17 = 0 then ((0 : Int64), pI w 0 0) else (1, pI w 0 0))
      by_cases q : gI z 17 = 0
      · rw [if_pos q, if_pos q]; exact fin _
      · rw [if_neg q, if_neg q]; exact fin _
    · exact fin _
    · exact fin _
    · exact fin _
    · exact fin _
    · exact fin _
  · simp only [not_or] at hk
    obtain ⟨k0, k1, k2, k3, k4, k5, k6, k7, k8, k9⟩ := hk
    rw [if_neg k0, if_neg k1, if_neg k2, if_neg k3, if_neg k4, if_neg k5, if_neg k6, if_neg k7, if_neg k8, if_neg k9]
    by_cases q : x < 0
    · rw [if_pos q]; exact fin _
    · rw [if_neg q]
      have q9 : ¬ x ≤ 9 := by
        obtain ⟨j, hj, rfl⟩ := nI_of q
        intro y
        have y : j ≤ 9 := (nI_leI (b := 9) hj (by omega)).mp y
        rcases (show j = 0 ∨ j = 1 ∨ j = 2 ∨ j = 3 ∨ j = 4 ∨ j = 5 ∨ j = 6 ∨ j = 7 ∨ j = 8 ∨ j = 9 by omega) with rfl | rfl | rfl | rfl | rfl | rfl | rfl | rfl | rfl | rfl
        · exact k0 rfl
        · exact k1 rfl
        · exact k2 rfl
        · exact k3 rfl
        · exact k4 rfl
        · exact k5 rfl
        · exact k6 rfl
        · exact k7 rfl
        · exact k8 rfl
        · exact k9 rfl
      rw [if_neg q9]
      exact fin _
