theorem mk_w1 {z w z' : Sg} {c : Nat} (hc : 1 ≤ c) (b : Int32) (h : Mk z w) (hz : gI z' 19 = gI z 19) : Mk z' (w1 w c b) := by
  unfold Mk
  rw [hz, w1_row, pk_un (show (0 : Nat) ≠ c by omega)]
  exact h
theorem ad_w1 {z w z' : Sg} {c n : Nat} (hc : n < c) (b : Int32) (h : Ad z w n) (hz : gA z' 2 = gA z 2) : Ad z' (w1 w c b) n := by
  intro j hj
  rw [hz, w1_row, pk_un (by omega)]
  exact h j hj
theorem tk2 {t : Nat} {z w : Sg} {b : Nat} (hy : By w) (hb : b < 256) (h : P2 z w) : Tk t z w (nI b) := by
  obtain ⟨p, ⟨r9, r24, rm, r10, r26⟩, hA⟩ := h
  have hL := asz_le w
  obtain ⟨k1, k2⟩ := keep_lo w (c := 1 + asz w) (by omega) (by omega) r10 (nI b)
  have n5 : ¬ gI z 23 = 5 := by rw [p]; decide
  have e23 : ∀ x, gI (pI z 26 x) 23 = 2 := fun _ => p
  have hc : f_X0_take z (nI b) = (0, pI (pI (pI z 26 (gI z 26 ^^^ nI b)) 20 (nI b)) 23 3) := by
    rw [f_X0_take, if_neg n5]
    simp only [bd_q]
    rw [e23, if_neg (by decide), if_pos rfl]
  have was := w1_as w (show 1 ≤ 1 + asz w by omega) (nI b)
  have rx : gI z 26 ^^^ nI b = xf (gA (w1 w (1 + asz w) (nI b)) 5) (1 + asz w + 1) := by rw [w1_row, xf_next, r26]
  have hby : By (w1 w (1 + asz w) (nI b)) := by_upd hy hb _
  refine ⟨0, _, _, hc, k1, k2, fz_s z [(26, _), (20, _), (23, _)] (by simp), w1_F _ _ _, Or.inl ⟨rfl, hby, Or.inr (Or.inr (Or.inr (Or.inl ⟨rfl, ⟨r9, r24, mk_w1 (by omega) _ rm rfl, ?_, ?_⟩, ?_, ?_⟩)))⟩⟩
  · rw [was]; show nI (1 + asz w + 1) = _; rw [show 1 + asz w + 1 = 2 + asz w by omega]
  · rw [was]; show gI z 26 ^^^ nI b = _; rw [rx, show 1 + asz w + 1 = 2 + asz w by omega]
  · rw [was]; exact ad_w1 (by omega) _ hA rfl
  · rw [was, w1_row, pk_us]; rfl
theorem tk3 {t : Nat} {z w : Sg} {b : Nat} (hy : By w) (hb : b < 256) (h : P3 z w) : Tk t z w (nI b) := by
  obtain ⟨p, ⟨r9, r24, rm, r10, r26⟩, hA, h20⟩ := h
  have hL := asz_le w
  obtain ⟨i1, i2⟩ := keep_in w (c := 2 + asz w) (by omega) (by omega) r10 (nI b)
  have n5 : ¬ gI z 23 = 5 := by rw [p]; decide
  have e23 : ∀ x, gI (pI z 26 x) 23 = 3 := fun _ => p
  have was := w1_as w (show 1 ≤ 2 + asz w by omega) (nI b)
  have rx : gI z 26 ^^^ nI b = xf (gA (w1 w (2 + asz w) (nI b)) 5) (2 + asz w + 1) := by rw [w1_row, xf_next, r26]
  have hby : By (w1 w (2 + asz w) (nI b)) := by_upd hy hb _
  have e3 : gI (w1 w (2 + asz w) (nI b)) 10 = nI (2 + asz w + 1) := rfl
  have eb : gA (w1 w (2 + asz w) (nI b)) 5 (2 + asz w) = nI b := by rw [w1_row, pk_us]
  rw [if_pos (show nI (2 + asz w + 1) = nI (3 + asz w) by rw [show 2 + asz w + 1 = 3 + asz w by omega]), eb, (k122 _ _).1, e3, if_pos (nI_le (by omega) (by omega))] at i1
  have e21 : ∀ x y q, gI (pI (pI (pI z 26 x) 21 y) 25 q) 21 = y := fun _ _ _ => rfl
  by_cases h20b : nI b ≤ 20
  · have hb20 : b ≤ 20 := (nI_leI (b := 20) (by omega) (by omega)).mp h20b
    rw [if_pos h20b] at i1
    by_cases q : b = 0
    · have hc : f_X0_take z (nI b) = (0, pI (pI (pI (pI z 26 (gI z 26 ^^^ nI b)) 21 (nI b)) 25 0) 23 5) := by
        rw [f_X0_take, if_neg n5]
        simp only [bd_q]
        rw [e23, if_neg (by decide), if_neg (by decide), if_pos rfl, f_X0_takeCount, if_pos h20b]
        simp only [bd_q]
        rw [e21, if_pos (show nI b = 0 by rw [q]; rfl)]
      refine ⟨0, _, _, hc, i1, i2, fz_s z [(26, _), (21, _), (25, _), (23, _)] (by simp), w1_F _ _ _, Or.inl ⟨rfl, hby, Or.inr (Or.inr (Or.inr (Or.inr (Or.inr ⟨rfl, 0, ⟨r9, r24, mk_w1 (by omega) _ rm rfl, ?_, ?_⟩, ?_, ?_, ?_⟩))))⟩⟩
      · rw [was]; show nI (2 + asz w + 1) = _; rw [show 2 + asz w + 1 = 3 + asz w + 0 by omega]
      · rw [was]; show gI z 26 ^^^ nI b = _; rw [rx, show 2 + asz w + 1 = 3 + asz w + 0 by omega]
      · rw [was]; exact ad_w1 (by omega) _ hA rfl
      · rw [was, w1_row, pk_un (by omega)]; exact h20
      · refine ⟨by omega, ?_, ?_, fun j hj => absurd hj (by omega)⟩
        · show nI b = nI 0; rw [q]
        · rw [was, eb, q]
    · have hc : f_X0_take z (nI b) = (0, pI (pI (pI (pI z 26 (gI z 26 ^^^ nI b)) 21 (nI b)) 25 0) 23 4) := by
        rw [f_X0_take, if_neg n5]
        simp only [bd_q]
        rw [e23, if_neg (by decide), if_neg (by decide), if_pos rfl, f_X0_takeCount, if_pos h20b]
        simp only [bd_q]
        rw [e21, if_neg (nI_ne0 (by omega) (by omega))]
      refine ⟨0, _, _, hc, i1, i2, fz_s z [(26, _), (21, _), (25, _), (23, _)] (by simp), w1_F _ _ _, Or.inl ⟨rfl, hby, Or.inr (Or.inr (Or.inr (Or.inr (Or.inl ⟨rfl, b, 0, hb20, by omega, ⟨r9, r24, mk_w1 (by omega) _ rm rfl, ?_, ?_⟩, ?_, ?_, rfl, ?_, rfl, fun j hj => absurd hj (by omega)⟩))))⟩⟩
      · rw [was]; show nI (2 + asz w + 1) = _; rw [show 2 + asz w + 1 = 3 + asz w + 0 by omega]
      · rw [was]; show gI z 26 ^^^ nI b = _; rw [rx, show 2 + asz w + 1 = 3 + asz w + 0 by omega]
      · rw [was]; exact ad_w1 (by omega) _ hA rfl
      · rw [was, w1_row, pk_un (by omega)]; exact h20
      · rw [was, eb]
  · rw [if_neg h20b] at i1
    have hc : f_X0_take z (nI b) = (0, pI (pI (pI z 26 (gI z 26 ^^^ nI b)) 23 0) 24 0) := by
      rw [f_X0_take, if_neg n5]
      simp only [bd_q]
      rw [e23, if_neg (by decide), if_neg (by decide), if_pos rfl, f_X0_takeCount, if_neg h20b]
      simp only [bd_q, f_X0_beginAnew]
    refine ⟨0, _, _, hc, i1, i2, fz_s z [(26, _), (23, _), (24, _)] (by simp), ?_, Or.inl ⟨rfl, hby, Or.inl ⟨rfl, rfl, 0, by omega, rfl, rfl⟩⟩⟩
    refine ⟨fun k hk => ?_, fun k => rfl, fun r hr => (w1_F w (2 + asz w) (nI b)).2.2 r hr⟩
    have h1 := (w1_F w (2 + asz w) (nI b)).1 k hk
    simp only [List.mem_cons, List.not_mem_nil, or_false, not_or] at hk
    rw [← h1]
    simp [gI, pI, upd, hk]
theorem tk4 {t : Nat} {z w : Sg} {b : Nat} (hy : By w) (hb : b < 256) (h : P4 z w) : Tk t z w (nI b) := by
  obtain ⟨p, k, a, hk, ha, ⟨r9, r24, rm, r10, r26⟩, hA, h20, h21, hcnt, h25, hD⟩ := h
  have hL := asz_le w
  obtain ⟨i1, i2⟩ := keep_in w (c := 3 + asz w + a) (by omega) (by omega) r10 (nI b)
  have n5 : ¬ gI z 23 = 5 := by rw [p]; decide
  have e23 : ∀ x, gI (pI z 26 x) 23 = 4 := fun _ => p
  have was := w1_as w (show 1 ≤ 3 + asz w + a by omega) (nI b)
  have rx : gI z 26 ^^^ nI b = xf (gA (w1 w (3 + asz w + a) (nI b)) 5) (3 + asz w + a + 1) := by rw [w1_row, xf_next, r26]
  have hby : By (w1 w (3 + asz w + a) (nI b)) := by_upd hy hb _
  have e3 : gI (w1 w (3 + asz w + a) (nI b)) 10 = nI (3 + asz w + a + 1) := rfl
  have eb : gA (w1 w (3 + asz w + a) (nI b)) 5 (2 + asz w) = nI k := by rw [w1_row, pk_un (by omega)]; exact hcnt
  have n1 : ¬ nI (3 + asz w + a + 1) = nI (3 + asz w) := fun q => by have := (nI_eq (by omega) (by omega)).mp q; omega
  have n2 : ¬ nI (3 + asz w + a + 1) ≤ nI (3 + asz w) := nI_ge (by omega) (by omega)
  have n3 : ¬ nI (3 + asz w + a + 1) = nI (3 + asz w) + nI k + 1 := by
    rw [nI_add, nI_1]
    intro q
    have := (nI_eq (by omega) (by omega)).mp q
    omega
  rw [if_neg n1, (k122 _ _).1, e3, was, eb, if_neg n2, if_neg n3] at i1
  have m0 : ¬ nI a < 0 := nI_pos (by omega)
  have m20 : ¬ (20 : Int32) ≤ nI a := nI_ge (b := 20) (by omega) (by omega)
  have e25 : ∀ x, gI (pI z 26 x) 25 = nI a := fun _ => h25
  have e25b : ∀ x, gI (pA (pI z 26 x) 3 a (nI b)) 25 = nI a := fun _ => h25
  have e25c : ∀ x, gI (pI (pA (pI z 26 x) 3 a (nI b)) 25 (nI (a + 1))) 25 = nI (a + 1) := fun _ => rfl
  have e21 : ∀ x, gI (pI (pA (pI z 26 x) 3 a (nI b)) 25 (nI (a + 1))) 21 = nI k := fun _ => h21
  have hD' : ∀ j, j < a + 1 → upd (gA z 3) a (nI b) j = gA (w1 w (3 + asz w + a) (nI b)) 5 (3 + asz w + j) := by
    intro j hj
    rw [w1_row]
    by_cases q : j = a
    · subst q; rw [pk_us, pk_us]
    · rw [pk_un q, pk_un (by omega)]; exact hD j (by omega)
  have hc : f_X0_take z (nI b) = (0, if a + 1 < k then pI (pA (pI z 26 (gI z 26 ^^^ nI b)) 3 a (nI b)) 25 (nI (a + 1)) else pI (pI (pA (pI z 26 (gI z 26 ^^^ nI b)) 3 a (nI b)) 25 (nI (a + 1))) 23 5) := by
    rw [f_X0_take, if_neg n5]
    simp only [bd_q]
    rw [e23, if_neg (by decide), if_neg (by decide), if_neg (by decide), if_pos rfl, f_X0_takeData, e25, if_neg m0, if_neg m20, nI_clamp (by omega), bd_q, f_X0_takeData_29, bd_q, e25b, nI_1, e25c, e21]
    by_cases q : a + 1 < k
    · rw [if_pos (nI_lt q (by omega)), if_pos q]
    · rw [if_neg (nI_nlt (by omega) (by omega)), if_neg q, bd_q]
  refine ⟨0, _, _, hc, i1, i2, ?_, w1_F _ _ _, Or.inl ⟨rfl, hby, ?_⟩⟩
  · by_cases q : a + 1 < k
    · rw [if_pos q]
      exact fz_t (fz_t (fz_i z _ (by decide)) (fz_a _ _ _ (Or.inr rfl))) (fz_i _ _ (by decide))
    · rw [if_neg q]
      exact fz_t (fz_t (fz_t (fz_i z _ (by decide)) (fz_a _ _ _ (Or.inr rfl))) (fz_i _ _ (by decide))) (fz_i _ _ (by decide))
  · by_cases q : a + 1 < k
    · rw [if_pos q]
      refine Or.inr (Or.inr (Or.inr (Or.inr (Or.inl ⟨p, k, a + 1, hk, q, ⟨r9, r24, mk_w1 (by omega) _ rm rfl, ?_, ?_⟩, ?_, ?_, h21, ?_, rfl, ?_⟩))))
      · rw [was]; show nI (3 + asz w + a + 1) = _; rw [show 3 + asz w + a + 1 = 3 + asz w + (a + 1) by omega]
      · rw [was]; show gI z 26 ^^^ nI b = _; rw [rx, show 3 + asz w + a + 1 = 3 + asz w + (a + 1) by omega]
      · rw [was]; exact ad_w1 (by omega) _ hA rfl
      · rw [was, w1_row, pk_un (by omega)]; exact h20
      · rw [was]; exact eb
      · rw [was]; exact hD'
    · rw [if_neg q]
      have q2 : k = a + 1 := by omega
      refine Or.inr (Or.inr (Or.inr (Or.inr (Or.inr ⟨rfl, k, ⟨r9, r24, mk_w1 (by omega) _ rm rfl, ?_, ?_⟩, ?_, ?_, hk, h21, ?_, ?_⟩))))
      · rw [was, q2]; show nI (3 + asz w + a + 1) = _; rw [show 3 + asz w + a + 1 = 3 + asz w + (a + 1) by omega]
      · rw [was, q2]; show gI z 26 ^^^ nI b = _; rw [rx, show 3 + asz w + a + 1 = 3 + asz w + (a + 1) by omega]
      · rw [was]; exact ad_w1 (by omega) _ hA rfl
      · rw [was, w1_row, pk_un (by omega)]; exact h20
      · rw [was]; exact eb
      · rw [was, q2]; exact hD'
theorem tk5 {t : Nat} {z w : Sg} {b : Nat} (hy : By w) (hb : b < 256) (h : P5 z w) : Tk t z w (nI b) := by
  obtain ⟨p, k, ⟨r9, r24, rm, r10, r26⟩, hA, h20, hk, h21, hcnt, hD⟩ := h
  have hL := asz_le w
  obtain ⟨i1, i2⟩ := keep_in w (c := 3 + asz w + k) (by omega) (by omega) r10 (nI b)
  have was := w1_as w (show 1 ≤ 3 + asz w + k by omega) (nI b)
  have hby : By (w1 w (3 + asz w + k) (nI b)) := by_upd hy hb _
  have e3 : gI (w1 w (3 + asz w + k) (nI b)) 10 = nI (3 + asz w + k + 1) := rfl
  have eb : gA (w1 w (3 + asz w + k) (nI b)) 5 (2 + asz w) = nI k := by rw [w1_row, pk_un (by omega)]; exact hcnt
  have n1 : ¬ nI (3 + asz w + k + 1) = nI (3 + asz w) := fun q => by have := (nI_eq (by omega) (by omega)).mp q; omega
  have n2 : ¬ nI (3 + asz w + k + 1) ≤ nI (3 + asz w) := nI_ge (by omega) (by omega)
  have n3 : nI (3 + asz w + k + 1) = nI (3 + asz w) + nI k + 1 := by rw [nI_add, nI_1]
  rw [if_neg n1, (k122 _ _).1, e3, was, eb, if_neg n2, if_pos n3] at i1
  have hx : xf (gA (w1 w (3 + asz w + k) (nI b)) 5) (3 + asz w + k + 1) = gI z 26 ^^^ nI b := by rw [w1_row, xf_next, r26]
  have hEf : ∀ z', gI z' 19 = gI z 19 → gI z' 20 = gI z 20 → gI z' 21 = gI z 21 → gA z' 2 = gA z 2 → gA z' 3 = gA z 3 → Ef z' (w1 w (3 + asz w + k) (nI b)) k := by
    intro z' q19 q20 q21 q2 q3
    refine ⟨⟨hk, q21.trans h21, by rw [was]; exact eb, fun j hj => ?_⟩, mk_w1 (by omega) _ rm q19, ?_, ?_, hby⟩
    · rw [was, q3, w1_row, pk_un (by omega)]; exact hD j hj
    · rw [q20, was, w1_row, pk_un (by omega)]; exact h20
    · rw [was]; exact ad_w1 (by omega) _ hA q2
  by_cases q : nI b = gI z 26
  · have hc : f_X0_take z (nI b) = (1, pI (pI (pI z 22 1) 23 0) 24 0) := by
      rw [f_X0_take, if_pos p, if_pos q]
      simp only [bd_q, f_X0_beginAnew]
    refine ⟨1, _, _, hc, i1, i2, fz_s z [(22, _), (23, _), (24, _)] (by simp), w1_F _ _ _, Or.inr ⟨rfl, rfl, rfl, k, 3 + asz w + k + 1, hEf _ rfl rfl rfl rfl rfl, rfl, by omega, ?_⟩⟩
    rw [hx, if_pos (xor_eq0.mpr q)]
    rfl
  · have hc : f_X0_take z (nI b) = (1, pI (pI (pI z 22 0) 23 0) 24 0) := by
      rw [f_X0_take, if_pos p, if_neg q]
      simp only [bd_q, f_X0_beginAnew]
    refine ⟨1, _, _, hc, i1, i2, fz_s z [(22, _), (23, _), (24, _)] (by simp), w1_F _ _ _, Or.inr ⟨rfl, rfl, rfl, k, 3 + asz w + k + 1, hEf _ rfl rfl rfl rfl rfl, rfl, by omega, ?_⟩⟩
    rw [hx, if_neg (fun y => q (xor_eq0.mp y))]
    rfl
