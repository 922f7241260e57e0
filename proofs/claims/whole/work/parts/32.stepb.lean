/-- step B: a byte goes out, or none -/
def Bt (t : Nat) (z1 w1 z2 w2 : Sg) (y going : Int32) : Prop := Bg z2 w2 ∧ Tm t (t + 1) (t + 1) z2 ∧ Rd t z2 w2 ∧ (Wi z2 w2 ∨ Wb (t + 1) z2 w2) ∧ (y = 0 → Wi z2 w2) ∧ gI z2 1 = gI z1 1 ∧ gI w2 9 = gI w1 9 ∧ gI w2 10 = gI w1 10 ∧ ((going = -1 ∧ gL w2 1 = gL w1 1) ∨ (¬ going = -1 ∧ gL w2 1 = lN t))
theorem tm_up {t u v : Nat} {z : Sg} (h : Tm t u v z) : Tm t u (v + 1) z := ⟨h.1, h.2.1, by obtain ⟨n, h1, h2⟩ := h.2.2; exact ⟨n, by omega, h2⟩⟩
theorem stepB {t : Nat} {z w : Sg} {y : Int32} (ht : t < 2 ^ 30) (b : Int32) (hB : Bg z w) (hT : Tm t (t + 1) t z) (hR : Rd t z w) (hY : (y = 0 ∧ Wi z w) ∨ (y = 1 ∧ Wb t z w)) : ∃ (z2 w2 : Sg) (going : Int32), f_X4_passTick_11 z b = f_X4_passTick_44 z2 b y going ∧ (s_X4_passTick_44 z2 b y going → s_X4_passTick_11 z b) ∧ f_X5_pass_78 w b y = f_X5_pass_198 w2 b y ∧ (s_X5_pass_198 w2 b y → s_X5_pass_78 w b y) ∧ Bt t z w z2 w2 y going := by
  rw [f_X4_passTick_11, s_X4_passTick_11, f_X5_pass_78, s_X5_pass_78]
  simp only [bd_q, m_busy]
  rcases hY with ⟨rfl, hW⟩ | ⟨rfl, hW⟩
  · obtain ⟨b1, b2⟩ := c_busyI hW
    obtain ⟨-, n, k, h1, h2, h27, h28, h3, h30, -⟩ := id hW
    have htk : f_X1_takeNext z = (-1, z) := by
      rw [f_X1_takeNext, h30, if_pos rfl, h27, h28, if_neg (nI_pos (by omega)), if_pos (nI_le h3 (by omega))]
    rw [b1, if_pos b2, if_pos rfl]
    simp only [htk, if_true]
    exact ⟨z, w, -1, rfl, fun q => ⟨fun _ => q, fun u => absurd trivial u⟩, rfl, fun q => ⟨fun _ => q, fun u => absurd trivial u⟩, hB, tm_up hT, hR, Or.inl hW, fun _ => hW, rfl, rfl, rfl, Or.inl ⟨rfl, rfl⟩⟩
  · obtain ⟨b1, b2⟩ := c_busyB ht hW
    obtain ⟨h11, n, k, hn, h27, h28, hk, hW2⟩ := id hW
    have n10 : ¬ ((1 : Int32) = 0) := by decide
    have w12 : gI w 12 = nI t := hB.2.1.symm.trans hT.1
    rw [b1, if_neg b2]
    simp only [n10, if_false, w12, nI_l (show t < 2 ^ 31 by omega)]
    rcases hW2 with ⟨hkt, h30, hfr⟩ | ⟨rfl, h30, hfr⟩
    · -- a byte goes
      have lt : ¬ lg_cmp (lN t) (lN (t - k)) < 0 := fun q => by
        have := (lN_lt (by omega) (by omega)).mp ((lg_cmp_lt _ _).mp q)
        omega
      have hne : ¬ gA z 4 k = -1 := hB.2.2.2.2.2.2.2.2.2.2 k
      have htk : f_X1_takeNext z = (gA z 4 k, pI z 28 (nI (k + 1))) := by
        rw [f_X1_takeNext, h30, if_pos rfl, h27, h28, if_neg (nI_pos (by omega)), if_neg (nI_ge hk (by omega)), if_pos (show nI k < 36 from nI_lt (b := 36) (by omega) (by omega)), nI_clamp (by omega), nI_1]
        simp only [bd_q]
      obtain ⟨m, hm, h31⟩ := hT.2.2
      have w16 : gI w 16 = nI m := hB.2.2.2.2.2.2.2.1.symm.trans h31
      have hrem : nI m - nI m / 2000 * 2000 = nI (m % 2000) := pk_rem (d := 2000) (by omega) (by omega) (by omega)
      have g31 : gI (pI z 28 (nI (k + 1))) 31 = nI m := h31
      have hadd : f_X3_add (pI z 28 (nI (k + 1))) (gA z 4 k) (nI t) = pI (pA (pA (pI z 28 (nI (k + 1))) 5 (m % 2000) (gA z 4 k)) 6 (m % 2000) (nI t)) 31 (nI (m + 1)) := by
        have g31b : gI (pA (pA (pI z 28 (nI (k + 1))) 5 (m % 2000) (gA z 4 k)) 6 (m % 2000) (nI t)) 31 = nI m := h31
        have nl : ¬ (2000 : Int32) ≤ nI (m % 2000) := nI_ge (b := 2000) (by omega) (by omega)
        rw [f_X3_add]
        simp only [bd_q, g31, hrem]
        rw [if_neg (nI_pos (by omega)), if_neg nl, if_neg nl, nI_clamp (by omega), g31b, nI_1]
      have x0 : gI (pI z 28 (nI (k + 1))) 0 = nI t := hT.1
      have hrow : gA z 4 = gA w 6 := hB.1.2.2.2.2.2.2.2.2.2.1
      have hix : Int32.toNatClampNeg (Int64.toInt32 (lN t - lN (t - k))) = k := by
        rw [lN_sub (by omega), lN_i, nI_clamp (by omega)]; omega
      have hix2 : vp_in (Int64.toInt32 (lN t - lN (t - k))) 64 := by
        rw [lN_sub (by omega), lN_i]; exact vp_in_nI (by omega) (by omega)
      have hin2 : vp_in (nI (m % 2000)) 2000 := vp_in_nI (by omega) (by omega)
      have hcl : Int32.toNatClampNeg (nI (m % 2000)) = m % 2000 := nI_clamp (by omega)
      have u16 : gI (pA w 7 (m % 2000) (gA w 6 k)) 16 = nI m := w16
      have u12 : gI (pA w 7 (m % 2000) (gA w 6 k)) 12 = nI t := w12
      have u16b : gI (pA (pA w 7 (m % 2000) (gA w 6 k)) 8 (m % 2000) (nI t)) 16 = nI m := w16
      have u12b : gI (pI (pA (pA w 7 (m % 2000) (gA w 6 k)) 8 (m % 2000) (nI t)) 16 (nI (m + 1))) 12 = nI t := w12
      have u12c : gI (pL (pI (pA (pA w 7 (m % 2000) (gA w 6 k)) 8 (m % 2000) (nI t)) 16 (nI (m + 1))) 1 (lN t)) 12 = nI t := w12
      have u11 : gI (pL (pI (pA (pA w 7 (m % 2000) (gA w 6 k)) 8 (m % 2000) (nI t)) 16 (nI (m + 1))) 1 (lN t)) 11 = nI n := h11.symm.trans h27
      have uf : gL (pL (pI (pA (pA w 7 (m % 2000) (gA w 6 k)) 8 (m % 2000) (nI t)) 16 (nI (m + 1))) 1 (lN t)) 0 = lN (t - k) := hfr
      have hcmp : (lg_cmp (lN t - lN (t - k) + 1) (lN n) = 0) ↔ k + 1 = n := by
        rw [lN_sub (by omega), lN_1, lg_cmp_eq, lN_eq (by omega) (by omega)]
        omega
      simp only [htk, hne, if_false, x0, hadd, hfr, if_neg lt, hix, hix2, w16, hrem, hin2, hcl, u16, u12, u16b, nI_1, u12b, u12c, u11, uf, nI_l (show t < 2 ^ 31 by omega), nI_l (show n < 2 ^ 31 by omega), hcmp, f_X5_pass_195, s_X5_pass_195, bd_q]
      have hBg : ∀ f0, Bg (pI (pA (pA (pI z 28 (nI (k + 1))) 5 (m % 2000) (gA z 4 k)) 6 (m % 2000) (nI t)) 31 (nI (m + 1))) (pL (pL (pI (pA (pA w 7 (m % 2000) (gA w 6 k)) 8 (m % 2000) (nI t)) 16 (nI (m + 1))) 1 (lN t)) 0 f0) := by
        intro f0
        obtain ⟨g0, g1, g2, g3, g4, g5, g6, g7, g8, g9, g10⟩ := hB
        refine ⟨g0, g1, g2, g3, g4, g5, g6, rfl, ?_, ?_, g10⟩
        · show upd (gA z 5) (m % 2000) (gA z 4 k) = upd (gA w 7) (m % 2000) (gA w 6 k); rw [g8, hrow]
        · show upd (gA z 6) (m % 2000) (nI t) = upd (gA w 8) (m % 2000) (nI t); rw [g9]
      have hTm : Tm t (t + 1) (t + 1) (pI (pA (pA (pI z 28 (nI (k + 1))) 5 (m % 2000) (gA z 4 k)) 6 (m % 2000) (nI t)) 31 (nI (m + 1))) := ⟨hT.1, hT.2.1, m + 1, by omega, rfl⟩
      have hRd : ∀ f0, Rd t (pI (pA (pA (pI z 28 (nI (k + 1))) 5 (m % 2000) (gA z 4 k)) 6 (m % 2000) (nI t)) 31 (nI (m + 1))) (pL (pL (pI (pA (pA w 7 (m % 2000) (gA w 6 k)) 8 (m % 2000) (nI t)) 16 (nI (m + 1))) 1 (lN t)) 0 f0) := fun f0 => rd_keep (z := z) (w := w) rfl rfl rfl rfl rfl rfl rfl rfl rfl rfl rfl rfl hR
      by_cases he : k + 1 = n
      · rw [if_pos he]
        refine ⟨_, _, gA z 4 k, rfl, fun q => ⟨fun u => absurd u id, fun _ => q⟩, rfl, fun q => ⟨fun u => absurd u id, fun _ => ⟨fun u => absurd u lt, fun _ => ⟨trivial, trivial, trivial, fun _ => q, fun u => absurd he u⟩⟩⟩, hBg _, hTm, hRd _, Or.inl ?_, fun q => absurd q n10, rfl, rfl, rfl, Or.inr ⟨hne, rfl⟩⟩
        exact ⟨h11, n, k + 1, hn, by omega, h27, rfl, by omega, h30, rfl⟩
      · rw [if_neg he]
        refine ⟨_, _, gA z 4 k, rfl, fun q => ⟨fun u => absurd u id, fun _ => q⟩, rfl, fun q => ⟨fun u => absurd u id, fun _ => ⟨fun u => absurd u lt, fun _ => ⟨trivial, trivial, trivial, fun u => absurd u he, fun _ => q⟩⟩⟩, hBg _, hTm, hRd _, Or.inr ?_, fun q => absurd q n10, rfl, rfl, rfl, Or.inr ⟨hne, rfl⟩⟩
        refine ⟨h11, n, k + 1, hn, h27, rfl, by omega, Or.inl ⟨by omega, h30, ?_⟩⟩
        show lN (t - k) = lN (t + 1 - (k + 1)); congr 1; omega
    · -- it waits
      have lt : lg_cmp (lN t) (lN (t + 1)) < 0 := (lg_cmp_lt _ _).mpr ((lN_lt (by omega) (by omega)).mpr (by omega))
      have htk : f_X1_takeNext z = (-1, pI z 30 0) := by
        rw [f_X1_takeNext, h30, if_neg (by decide)]
        simp only [bd_q]
      simp only [htk, if_true, hfr, if_pos lt]
      refine ⟨pI z 30 0, w, -1, rfl, fun q => ⟨fun _ => q, fun u => absurd trivial u⟩, rfl, fun q => ⟨fun u => absurd u id, fun _ => ⟨fun _ => q, fun u => absurd lt u⟩⟩, hB, tm_up hT, rd_keep (z := z) (w := w) rfl rfl rfl rfl rfl rfl rfl rfl rfl rfl rfl rfl hR, Or.inr ?_, fun q => absurd q n10, rfl, rfl, rfl, Or.inl ⟨rfl, rfl⟩⟩
      exact ⟨h11, n, 0, hn, h27, h28, hk, Or.inl ⟨by omega, rfl, hfr⟩⟩
