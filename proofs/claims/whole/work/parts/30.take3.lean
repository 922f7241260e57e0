theorem keep51 (w : Sg) (b y k : Int32) : f_X5_keep_51 w b y k = (if y = 0 then (0, pI w 9 k) else (0, pI (pA (pI w 9 k) 5 0 b) 10 1)) := by
  rw [f_X5_keep_51]
  simp only [bd_q, clamp0]
theorem fw_9 (w : Sg) (v : Int32) : Fw (pI w 9 v) w := ⟨fun k hk => by simp only [List.mem_cons, List.not_mem_nil, or_false, not_or] at hk; simp [gI, pI, upd, hk], fun k => rfl, fun r hr => rfl⟩
theorem fw_0 (w : Sg) (b : Int32) : Fw (pI (pA (pI w 9 0) 5 0 b) 10 1) w := ⟨fun k hk => by simp only [List.mem_cons, List.not_mem_nil, or_false, not_or] at hk; simp [gI, pI, pA, upd, hk], fun k => rfl, fun r hr => by simp [gA, pI, pA, hr]⟩
theorem tk0 {t : Nat} {z w : Sg} {b : Nat} (ht : t < 2 ^ 30) (hy : By w) (hb : b < 256) (h : Rw t z w) : Tk t z w (nI b) := by
  obtain ⟨p, r10, n, hn, r9, r24⟩ := h
  have n5 : ¬ gI z 23 = 5 := by rw [p]; decide
  have e23 : ∀ x, gI (pI z 26 x) 23 = 0 := fun _ => p
  have e24 : ∀ x, gI (pI z 26 x) 24 = nI (min n 3) := fun _ => r24
  have hc0 : f_X0_take z (nI b) = (0, f_X0_takePreamble (pI z 26 (gI z 26 ^^^ nI b)) (nI b)) := by
    rw [f_X0_take, if_neg n5]
    simp only [bd_q]
    rw [e23, if_neg (by decide), if_neg (by decide), if_neg (by decide), if_neg (by decide)]
  have sk : s_X5_keep w (nI b) := by
    rw [s_X5_keep, r10]
    refine ⟨fun _ => ⟨fun _ => ⟨fun _ => trivial, fun _ => trivial⟩, fun _ => ⟨fun _ => ⟨fun _ => trivial, fun _ => trivial⟩, fun _ => ⟨fun _ => ⟨fun _ => trivial, fun _ => trivial⟩, fun _ => ⟨fun _ => trivial, fun _ => trivial⟩⟩⟩⟩, fun q => absurd rfl q⟩
  have n2i : nI n ≤ 2 ↔ n ≤ 2 := nI_leI (b := 2) (by omega) (by omega)
  by_cases h255 : b = 255
  · -- one more 255
    subst h255
    have y : nI 255 = 255 := rfl
    have hx : (if 3 < nI (min n 3) + 1 then 3 else nI (min n 3) + 1) = nI (min (n + 1) 3) := by
      rw [nI_1]
      by_cases q : 3 ≤ n
      · rw [show min n 3 = 3 by omega, show min (n + 1) 3 = 3 by omega]; decide
      · rw [show min n 3 = n by omega, show min (n + 1) 3 = n + 1 by omega]
        rw [if_neg (show ¬ (3 : Int32) < nI (n + 1) from nI_nlt (b := n + 1) (a := 3) (by omega) (by omega))]
    have hc : f_X0_take z (nI 255) = (0, pI (pI z 26 (gI z 26 ^^^ nI 255)) 24 (nI (min (n + 1) 3))) := by
      rw [hc0, f_X0_takePreamble, if_pos y, e24, hx]
      simp only [bd_q]
    have hm : f_X5_keep w (nI 255) = (0, pI w 9 (nI (n + 1))) := by
      rw [f_X5_keep, r10, if_pos rfl, r9, nI_1, if_neg (show ¬ nI 255 = 2 by decide), if_neg (show ¬ nI 255 = 130 by decide), if_pos y, keep51, if_pos rfl]
      by_cases q : nI n ≤ 2
      · rw [if_pos q]
      · rw [if_neg q]
    exact ⟨0, _, _, hc, hm, sk, fz_s z [(26, _), (24, _)] (by simp), fw_9 _ _, Or.inl ⟨rfl, hy, Or.inl ⟨p, r10, n + 1, by omega, rfl, rfl⟩⟩⟩
  · have nb : ¬ nI b = 255 := fun q => h255 ((nI_eq (b := 255) (by omega) (by omega)).mp q)
    by_cases q3 : 3 ≤ n
    · have h3 : ¬ nI (min n 3) < 3 := nI_nlt (b := 3) (by omega) (by omega)
      have n2 : ¬ nI n ≤ 2 := fun q => by have := n2i.mp q; omega
      by_cases b2 : b = 2
      · subst b2
        have hc : f_X0_take z (nI 2) = (0, pI (pI (pI (pI (pI (pI (pI z 26 (gI z 26 ^^^ nI 2)) 23 0) 24 0) 19 0) 26 (nI 2)) 25 0) 23 1) := by
          rw [hc0, f_X0_takePreamble, if_neg nb, e24, if_neg h3, f_X0_takePreamble_35]
          simp only [bd_q, f_X0_beginAnew]
          rw [if_neg (show ¬ ((1 : Int32) = 0) by decide), if_pos (show nI 2 = 2 from rfl), f_X0_takePreamble_56, if_neg (show ¬ nI 2 = 130 by decide)]
          simp only [bd_q]
        have hm : f_X5_keep w (nI 2) = (0, pI (pA (pI w 9 0) 5 0 (nI 2)) 10 1) := by
          rw [f_X5_keep, r10, if_pos rfl, r9, if_neg n2, if_pos (show nI 2 = 2 from rfl), if_neg nb, keep51, if_neg (show ¬ ((1 : Int32) = 0) by decide)]
        refine ⟨0, _, _, hc, hm, sk, fz_s z [(26, _), (23, _), (24, _), (19, _), (26, _), (25, _), (23, _)] (by simp), fw_0 _ _, Or.inl ⟨rfl, by_upd hy hb 0, Or.inr (Or.inl ⟨rfl, 0, (asz_le _).2, ⟨rfl, rfl, Or.inl ⟨rfl, rfl⟩, rfl, ?_⟩, rfl, fun j hj => absurd hj (by omega)⟩)⟩⟩
        show nI 2 = xf (upd (gA w 5) 0 (nI 2)) (0 + 1)
        rw [xf_next]
        exact (zero_xor' _).symm
      · by_cases b130 : b = 130
        · subst b130
          have hc : f_X0_take z (nI 130) = (0, pI (pI (pI (pI (pI (pI (pI z 26 (gI z 26 ^^^ nI 130)) 23 0) 24 0) 19 1) 26 (nI 130)) 25 0) 23 1) := by
            rw [hc0, f_X0_takePreamble, if_neg nb, e24, if_neg h3, f_X0_takePreamble_35]
            simp only [bd_q, f_X0_beginAnew]
            rw [if_neg (show ¬ ((1 : Int32) = 0) by decide), if_neg (show ¬ nI 130 = 2 by decide), if_pos (show nI 130 = 130 from rfl), f_X0_takePreamble_56, if_pos (show nI 130 = 130 from rfl)]
            simp only [bd_q]
          have hm : f_X5_keep w (nI 130) = (0, pI (pA (pI w 9 0) 5 0 (nI 130)) 10 1) := by
            rw [f_X5_keep, r10, if_pos rfl, r9, if_neg n2, if_neg (show ¬ nI 130 = 2 by decide), if_pos (show nI 130 = 130 from rfl), if_neg nb, keep51, if_neg (show ¬ ((1 : Int32) = 0) by decide)]
          refine ⟨0, _, _, hc, hm, sk, fz_s z [(26, _), (23, _), (24, _), (19, _), (26, _), (25, _), (23, _)] (by simp), fw_0 _ _, Or.inl ⟨rfl, by_upd hy hb 0, Or.inr (Or.inl ⟨rfl, 0, (asz_le _).2, ⟨rfl, rfl, Or.inr ⟨rfl, rfl⟩, rfl, ?_⟩, rfl, fun j hj => absurd hj (by omega)⟩)⟩⟩
          show nI 130 = xf (upd (gA w 5) 0 (nI 130)) (0 + 1)
          rw [xf_next]
          exact (zero_xor' _).symm
        · have n2b : ¬ nI b = 2 := fun q => b2 ((nI_eq (b := 2) (by omega) (by omega)).mp q)
          have n130 : ¬ nI b = 130 := fun q => b130 ((nI_eq (b := 130) (by omega) (by omega)).mp q)
          have hc : f_X0_take z (nI b) = (0, pI (pI (pI z 26 (gI z 26 ^^^ nI b)) 23 0) 24 0) := by
            rw [hc0, f_X0_takePreamble, if_neg nb, e24, if_neg h3, f_X0_takePreamble_35]
            simp only [bd_q, f_X0_beginAnew]
            rw [if_neg (show ¬ ((1 : Int32) = 0) by decide), if_neg n2b, if_neg n130]
          have hm : f_X5_keep w (nI b) = (0, pI w 9 0) := by
            rw [f_X5_keep, r10, if_pos rfl, r9, if_neg n2, if_neg n2b, if_neg n130, if_neg nb, keep51, if_pos rfl]
          exact ⟨0, _, _, hc, hm, sk, fz_s z [(26, _), (23, _), (24, _)] (by simp), fw_9 _ _, Or.inl ⟨rfl, hy, Or.inl ⟨rfl, r10, 0, by omega, rfl, rfl⟩⟩⟩
    · have h3 : nI (min n 3) < 3 := nI_lt (b := 3) (by omega) (by omega)
      have n2 : nI n ≤ 2 := n2i.mpr (by omega)
      have hc : f_X0_take z (nI b) = (0, pI (pI (pI z 26 (gI z 26 ^^^ nI b)) 23 0) 24 0) := by
        rw [hc0, f_X0_takePreamble, if_neg nb, e24, if_pos h3, f_X0_takePreamble_35]
        simp only [bd_q, f_X0_beginAnew, if_true]
      have hm : f_X5_keep w (nI b) = (0, pI w 9 0) := by
        rw [f_X5_keep, r10, if_pos rfl, r9, if_pos n2, if_neg nb, keep51, if_pos rfl]
      exact ⟨0, _, _, hc, hm, sk, fz_s z [(26, _), (23, _), (24, _)] (by simp), fw_9 _ _, Or.inl ⟨rfl, hy, Or.inl ⟨rfl, r10, 0, by omega, rfl, rfl⟩⟩⟩
theorem take_eq {t : Nat} {z w : Sg} {b : Nat} (ht : t < 2 ^ 30) (hb : b < 256) (h : Rd t z w) : Tk t z w (nI b) := by
  obtain ⟨hy, h | h | h | h | h | h⟩ := h
  · exact tk0 ht hy hb h
  · exact tk1 hy hb h
  · exact tk2 hy hb h
  · exact tk3 hy hb h
  · exact tk4 hy hb h
  · exact tk5 hy hb h
/-- whether the sum is right -/
theorem right_4 (w : Sg) {c : Nat} (hc : gI w 10 = nI c) (h30 : c ≤ 39) : ∀ (j m k : Nat), k + j = c → j < m → f_X5_isRight_4 m w (xf (gA w 5) k) (nI k) = ((if xf (gA w 5) c = 0 then 1 else 0), w) ∧ s_X5_isRight_4 m w (xf (gA w 5) k) (nI k) := by
  intro j
  induction j with
  | zero =>
    intro m k hk hm
    obtain ⟨m, rfl⟩ : ∃ m', m = m' + 1 := ⟨m - 1, by omega⟩
    have h2 : nI c ≤ nI k := nI_le (by omega) (by omega)
    have e : k = c := by omega
    rw [f_X5_isRight_4, s_X5_isRight_4, hc, if_pos h2, e]
    refine ⟨?_, fun _ => trivial, fun h => absurd (nI_le (by omega) (by omega)) h⟩
    by_cases q : xf (gA w 5) c = 0
    · rw [if_pos q, if_pos q]
    · rw [if_neg q, if_neg q]
  | succ j ih =>
    intro m k hk hm
    obtain ⟨m, rfl⟩ : ∃ m', m = m' + 1 := ⟨m - 1, by omega⟩
    have h2 : ¬ nI c ≤ nI k := nI_ge (by omega) (by omega)
    have h5 := ih m (k + 1) (by omega) (by omega)
    have e : xf (gA w 5) k ^^^ gA w 5 (Int32.toNatClampNeg (nI k)) = xf (gA w 5) (k + 1) := by rw [nI_clamp (by omega)]; rfl
    rw [f_X5_isRight_4, s_X5_isRight_4, hc, if_neg h2]
    simp only [bd_q, e, nI_1]
    exact ⟨h5.1, fun h => absurd h h2, fun _ => ⟨vp_in_nI (by omega) (by omega), h5.2⟩⟩
theorem right_eq (w : Sg) {c : Nat} (hc : gI w 10 = nI c) (h30 : c ≤ 39) : f_X5_isRight w = ((if xf (gA w 5) c = 0 then 1 else 0), w) ∧ s_X5_isRight w := by
  rw [f_X5_isRight, s_X5_isRight]
  exact right_4 w hc h30 c 64 0 (by omega) (by omega)
