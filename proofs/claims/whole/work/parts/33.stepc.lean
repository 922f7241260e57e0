/-! step C: a byte comes, or none; step D: the tick is over -/
theorem bg_F {z w z' w' : Sg} (hz : Fz z' z) (hw : Fw w' w) (h : Bg z w) : Bg z' w' := by
  have z0 := hz.1 0 (by decide)
  have z2 := hz.1 2 (by decide)
  have z3 := hz.1 3 (by decide)
  have z4 := hz.1 4 (by decide)
  have z5 := hz.1 5 (by decide)
  have z7 := hz.1 7 (by decide)
  have z8 := hz.1 8 (by decide)
  have z9 := hz.1 9 (by decide)
  have z10 := hz.1 10 (by decide)
  have z11 := hz.1 11 (by decide)
  have z12 := hz.1 12 (by decide)
  have z13 := hz.1 13 (by decide)
  have z14 := hz.1 14 (by decide)
  have z15 := hz.1 15 (by decide)
  have z16 := hz.1 16 (by decide)
  have z17 := hz.1 17 (by decide)
  have z18 := hz.1 18 (by decide)
  have z31 := hz.1 31 (by decide)
  have zr0 := hz.2 0 (by decide)
  have zr1 := hz.2 1 (by decide)
  have zr4 := hz.2 4 (by decide)
  have zr5 := hz.2 5 (by decide)
  have zr6 := hz.2 6 (by decide)
  have w1 := hw.1 1 (by decide)
  have w2 := hw.1 2 (by decide)
  have w3 := hw.1 3 (by decide)
  have w4 := hw.1 4 (by decide)
  have w5 := hw.1 5 (by decide)
  have w6 := hw.1 6 (by decide)
  have w7 := hw.1 7 (by decide)
  have w8 := hw.1 8 (by decide)
  have w12 := hw.1 12 (by decide)
  have w13 := hw.1 13 (by decide)
  have w14 := hw.1 14 (by decide)
  have w15 := hw.1 15 (by decide)
  have w16 := hw.1 16 (by decide)
  have wr0 := hw.2.2 0 (by decide)
  have wr1 := hw.2.2 1 (by decide)
  have wr2 := hw.2.2 2 (by decide)
  have wr3 := hw.2.2 3 (by decide)
  have wr4 := hw.2.2 4 (by decide)
  have wr6 := hw.2.2 6 (by decide)
  have wr7 := hw.2.2 7 (by decide)
  have wr8 := hw.2.2 8 (by decide)
  simp only [Bg, Cm, Idn, z0, z2, z3, z4, z5, z7, z8, z9, z10, z11, z12, z13, z14, z15, z16, z17, z18, z31, zr0, zr1, zr4, zr5, zr6, w1, w2, w3, w4, w5, w6, w7, w8, w12, w13, w14, w15, w16, wr0, wr1, wr2, wr3, wr4, wr6, wr7, wr8] at h ⊢
  exact h
theorem tm_F {t u v : Nat} {z z' : Sg} (hz : Fz z' z) (h : Tm t u v z) : Tm t u v z' := by
  have z0 := hz.1 0 (by decide)
  have z3 := hz.1 3 (by decide)
  have z6 := hz.1 6 (by decide)
  have z31 := hz.1 31 (by decide)
  simp only [Tm, z0, z3, z6, z31] at h ⊢
  exact h
theorem wi_F {z w z' w' : Sg} (hz : Fz z' z) (hw : Fw w' w) (h : Wi z w) : Wi z' w' := by
  have z27 := hz.1 27 (by decide)
  have z28 := hz.1 28 (by decide)
  have z30 := hz.1 30 (by decide)
  have w11 := hw.1 11 (by decide)
  have l0 := hw.2.1 0
  simp only [Wi, z27, z28, z30, w11, l0] at h ⊢
  exact h
theorem fz_rf (z : Sg) : Fz (pI (pI z 23 0) 24 0) z := fz_s z [(23, 0), (24, 0)] (by simp)
theorem fw_rf (w : Sg) : Fw (pI (pI w 9 0) 10 0) w := ⟨fun k hk => by simp only [List.mem_cons, List.not_mem_nil, or_false, not_or] at hk; simp [gI, pI, upd, hk], fun k => rfl, fun r hr => rfl⟩
theorem wb_F {t : Nat} {z w z' w' : Sg} (hz : Fz z' z) (hw : Fw w' w) (h : Wb t z w) : Wb t z' w' := by
  have z27 := hz.1 27 (by decide)
  have z28 := hz.1 28 (by decide)
  have z30 := hz.1 30 (by decide)
  have w11 := hw.1 11 (by decide)
  have l0 := hw.2.1 0
  simp only [Wb, z27, z28, z30, w11, l0] at h ⊢
  exact h
def Ct (t : Nat) (z2 w2 z3 w3 : Sg) (b : Int32) : Prop := Bg z3 w3 ∧ Tm t (t + 1) (t + 1) z3 ∧ Rd (t + 1) z3 w3 ∧ (Wi z3 w3 ∨ Wb (t + 1) z3 w3) ∧ gI z3 1 = gI z2 1 ∧ gL w3 1 = gL w2 1 ∧ (b = -1 → gI w3 9 = 0 ∧ gI w3 10 = 0)
theorem ct_forget {t : Nat} {z w : Sg} {b : Int32} (hB : Bg z w) (hT : Tm t (t + 1) (t + 1) z) (hy : By w) (hW : Wi z w ∨ Wb (t + 1) z w) : Ct t z w (pI (pI z 23 0) 24 0) (pI (pI w 9 0) 10 0) b := by
  refine ⟨bg_F (fz_rf z) (fw_rf w) hB, tm_F (fz_rf z) hT, ⟨hy, Or.inl ⟨rfl, rfl, 0, by omega, rfl, rfl⟩⟩, ?_, rfl, rfl, fun _ => ⟨rfl, rfl⟩⟩
  rcases hW with h | h
  · exact Or.inl (wi_F (fz_rf z) (fw_rf w) h)
  · exact Or.inr (wb_F (fz_rf z) (fw_rf w) h)
theorem stepC {t : Nat} {z w : Sg} {y b going : Int32} (ht : t < 2 ^ 30) (hb : b = -1 ∨ ∃ n : Nat, n < 256 ∧ b = nI n) (hB : Bg z w) (hT : Tm t (t + 1) (t + 1) z) (hR : Rd t z w) (hW : Wi z w ∨ Wb (t + 1) z w) (hW0 : y = 0 → Wi z w) : ∃ z3 w3 : Sg, f_X4_passTick_44 z b y going = f_X4_passTick_85 z3 b going ∧ s_X4_passTick_44 z b y going ∧ f_X5_pass_198 w b y = f_X5_pass_257 w3 b ∧ s_X5_pass_198 w b y ∧ Ct t z w z3 w3 b := by
  rw [f_X4_passTick_44, s_X4_passTick_44, f_X5_pass_198, s_X5_pass_198]
  have e53 : f_X4_passTick_53 z b going = f_X4_passTick_85 (pI (pI z 23 0) 24 0) b going := by
    rw [f_X4_passTick_53, f_X0_beginAnew]
    simp only [bd_q]
  have e207 : f_X5_pass_207 w b = f_X5_pass_257 (pI (pI w 9 0) 10 0) b := by
    rw [f_X5_pass_207, f_X5_forget]
    simp only [bd_q]
  by_cases hy : y = 0
  · rw [if_pos hy, if_pos hy]
    rcases hb with hb | ⟨n, hn, hb⟩
    · rw [if_pos hb, if_pos hb, e53, e207]
      exact ⟨_, _, rfl, ⟨fun _ => ⟨fun _ => trivial, fun q => absurd hb q⟩, fun q => absurd hy q⟩, rfl, ⟨fun _ => ⟨fun _ => trivial, fun q => absurd hb q⟩, fun q => absurd hy q⟩, ct_forget hB hT hR.1 hW⟩
    · have nb : ¬ b = -1 := by
        rw [hb]
        intro q
        have h1 : ¬ nI n < 0 := nI_pos (by omega)
        rw [q] at h1
        exact h1 (by decide)
      have hWi := hW0 hy
      obtain ⟨r, z', w', i1, i2, i3, hz, hw, hr⟩ := take_eq ht hn hR
      rw [← hb] at i1 i2 i3
      have hB' := bg_F hz hw hB
      have hT' := tm_F hz hT
      have hWi' := wi_F hz hw hWi
      have z1 : gI z' 1 = gI z 1 := hz.1 1 (by decide)
      have l1 : gL w' 1 = gL w 1 := hw.2.1 1
      rw [if_neg nb, if_neg nb]
      simp only [bd_q, i1, i2]
      rcases hr with ⟨r0, hR'⟩ | ⟨r1, p23, p24, k, c, hE, h10, hc30, h22⟩
      · rw [if_pos r0, if_pos r0]
        exact ⟨z', w', rfl, ⟨fun _ => ⟨fun q => absurd q nb, fun _ => ⟨fun _ => trivial, fun q => absurd r0 q⟩⟩, fun q => absurd hy q⟩, rfl, ⟨fun _ => ⟨fun q => absurd q nb, fun _ => ⟨i3, fun _ => trivial, fun q => absurd r0 q⟩⟩, fun q => absurd hy q⟩, hB', hT', hR', Or.inl hWi', z1, l1, fun q => absurd q nb⟩
      · have n1 : ¬ r = 0 := by rw [r1]; decide
        have hyw' : By w' := hE.2.2.2.2
        obtain ⟨j1, j2⟩ := right_eq w' h10 (by omega)
        obtain ⟨bf, hbf, m1, m2, m3⟩ := isFor_eq hE hB'.1.2.2.2.2.2.2.2.2.2.2.1 hB'.1.2.1
        rw [if_neg n1, if_neg n1, f_X4_countFrame]
        simp only [bd_q, j1, m1, m2, h22]
        -- not good
        have bad : Ct t z w (pI z' 5 (gI z' 5 + 1)) (pI (pI (pI w' 15 (gI w' 15 + 1)) 9 0) 10 0) b := by
          refine ⟨?_, hT', ⟨hyw', Or.inl ⟨p23, rfl, 0, by omega, rfl, p24⟩⟩, Or.inl hWi', z1, l1, fun _ => ⟨rfl, rfl⟩⟩
          obtain ⟨g0, g1, g2, g3, g4, g5, g6, g7, g8, g9, g10⟩ := hB'
          exact ⟨g0, g1, g2, g3, by show gI z' 5 + 1 = gI w' 15 + 1; rw [g4], g5, g6, g7, g8, g9, g10⟩
        have e243 : f_X5_pass_243 w' b = f_X5_pass_257 (pI (pI (pI w' 15 (gI w' 15 + 1)) 9 0) 10 0) b := by
          rw [f_X5_pass_243, bd_q, f_X5_pass_253, f_X5_forget]
          simp only [bd_q]
        have n10 : ¬ ((1 : Int32) = 0) := by decide
        by_cases hx : xf (gA w' 5) c = 0
        · simp only [hx, if_true, n10, if_false]
          rcases hbf with rfl | rfl
          · simp only [if_true, e243]
            exact ⟨_, _, rfl, ⟨fun _ => ⟨fun q => absurd q nb, fun _ => ⟨fun q => absurd q n1, fun _ => ⟨fun _ => trivial, fun q => absurd trivial q⟩⟩⟩, fun q => absurd hy q⟩, rfl, ⟨fun _ => ⟨fun q => absurd q nb, fun _ => ⟨i3, fun q => absurd q n1, fun _ => ⟨j2, fun q => absurd q id, fun _ => ⟨m3, fun _ => trivial, fun q => absurd trivial q⟩⟩⟩⟩, fun q => absurd hy q⟩, bad⟩
          · have hE4 : Ef (pI z' 4 (gI z' 4 + 1)) w' k := hE
            have hC4 : Cm (pI z' 4 (gI z' 4 + 1)) w' := hB'.1
            obtain ⟨z5, w5, a1, a2, a3, a4, aR, aC, a18, a18r, aZ, aZr, aW, aL, aWr, aX⟩ := answer_eq hE4 hC4 hB'.2.2.2.2.2.1 hB'.2.2.2.2.2.2.1
            simp only [n10, if_false, a1, a3]
            have e253 : f_X5_pass_253 w5 b = f_X5_pass_257 (pI (pI w5 9 0) 10 0) b := by
              rw [f_X5_pass_253, f_X5_forget]
              simp only [bd_q]
            rw [e253]
            refine ⟨z5, _, rfl, ⟨fun _ => ⟨fun q => absurd q nb, fun _ => ⟨fun q => absurd q n1, fun _ => ⟨fun q => absurd q id, fun _ => ⟨a2, trivial⟩⟩⟩⟩, fun q => absurd hy q⟩, rfl, ⟨fun _ => ⟨fun q => absurd q nb, fun _ => ⟨i3, fun q => absurd q n1, fun _ => ⟨j2, fun q => absurd q id, fun _ => ⟨m3, fun q => absurd q id, fun _ => ⟨a4, trivial⟩⟩⟩⟩⟩, fun q => absurd hy q⟩, ?_⟩
            obtain ⟨g0, g1, g2, g3, g4, g5, g6, g7, g8, g9, g10⟩ := hB'
            have u0 : gI z5 0 = gI z' 0 := aZ 0 (by decide)
            have u1 : gI z5 1 = gI z' 1 := aZ 1 (by decide)
            have u3 : gI z5 3 = gI z' 3 := aZ 3 (by decide)
            have u4 : gI z5 4 = gI z' 4 + 1 := aZ 4 (by decide)
            have u5 : gI z5 5 = gI z' 5 := aZ 5 (by decide)
            have u6 : gI z5 6 = gI z' 6 := aZ 6 (by decide)
            have u23 : gI z5 23 = gI z' 23 := aZ 23 (by decide)
            have u24 : gI z5 24 = gI z' 24 := aZ 24 (by decide)
            have u31 : gI z5 31 = gI z' 31 := aZ 31 (by decide)
            have ur5 : gA z5 5 = gA z' 5 := aZr 5 (by decide)
            have ur6 : gA z5 6 = gA z' 6 := aZr 6 (by decide)
            have v8 : gI w5 8 = gI w' 8 := aW 8 (by decide)
            have v12 : gI w5 12 = gI w' 12 := aW 12 (by decide)
            have v14 : gI w5 14 = gI w' 14 + 1 := aW 14 (by decide)
            have v15 : gI w5 15 = gI w' 15 := aW 15 (by decide)
            have v16 : gI w5 16 = gI w' 16 := aW 16 (by decide)
            have vr5 : gA w5 5 = gA w' 5 := aWr 5 (by decide)
            have vr7 : gA w5 7 = gA w' 7 := aWr 7 (by decide)
            have vr8 : gA w5 8 = gA w' 8 := aWr 8 (by decide)
            have vl : gL w5 1 = gL w' 1 := aL
            refine ⟨⟨aC, ?_, ?_, ?_, ?_, a18, a18r, ?_, ?_, ?_, aR g10⟩, ?_, ⟨?_, Or.inl ⟨by rw [u23]; exact p23, rfl, 0, by omega, rfl, by rw [u24]; exact p24⟩⟩, ?_, by rw [u1]; exact z1, ?_, fun _ => ⟨rfl, rfl⟩⟩
            · show gI z5 0 = gI w5 12; rw [u0, v12]; exact g1
            · show gI z5 3 = gI w5 8; rw [u3, v8]; exact g2
            · show gI z5 4 = gI w5 14; rw [u4, v14, g3]
            · show gI z5 5 = gI w5 15; rw [u5, v15]; exact g4
            · show gI z5 31 = gI w5 16; rw [u31, v16]; exact g7
            · show gA z5 5 = gA w5 7; rw [ur5, vr7]; exact g8
            · show gA z5 6 = gA w5 8; rw [ur6, vr8]; exact g9
            · simp only [Tm, u0, u3, u6, u31]; exact hT'
            · intro j; show ∃ q : Nat, q < 256 ∧ gA w5 5 j = nI q; rw [vr5]; exact hyw' j
            · rcases aX with ⟨x27, x28, x30, x11, x0⟩ | ⟨N, N1, N2, x27, x11, x28, x30, x0⟩
              · left
                obtain ⟨q1, qn, qk, q2, q3, q4, q5, q6, q7, q8⟩ := hWi'
                refine ⟨?_, qn, qk, q2, q3, x27.trans q4, x28.trans q5, q6, x30.trans q7, ?_⟩
                · show gI z5 27 = gI w5 11; rw [x27, x11]; exact q1
                · show gL w5 0 = -1; rw [x0]; exact q8
              · right
                refine ⟨?_, N, 0, N2, x27, x28, N1, Or.inr ⟨rfl, x30, ?_⟩⟩
                · show gI z5 27 = gI w5 11; rw [x27, x11]
                · show gL w5 0 = lN (t + 1 + 1)
                  have w12 : gI w' 12 = nI t := g1.symm.trans hT'.1
                  have x0 : gL w5 0 = Int32.toInt64 (gI w' 12) + 2 := x0
                  rw [x0, w12, nI_l (by omega)]
                  exact lN_add t 2
            · show gL w5 1 = gL w 1; rw [vl]; exact l1
        · simp only [hx, if_false, if_true, e243]
          exact ⟨_, _, rfl, ⟨fun _ => ⟨fun q => absurd q nb, fun _ => ⟨fun q => absurd q n1, fun _ => ⟨fun _ => trivial, fun q => absurd trivial q⟩⟩⟩, fun q => absurd hy q⟩, rfl, ⟨fun _ => ⟨fun q => absurd q nb, fun _ => ⟨i3, fun q => absurd q n1, fun _ => ⟨j2, fun _ => trivial, fun q => absurd trivial q⟩⟩⟩, fun q => absurd hy q⟩, bad⟩
  · rw [if_neg hy, if_neg hy, e53, e207]
    exact ⟨_, _, rfl, ⟨fun q => absurd q hy, fun _ => trivial⟩, rfl, ⟨fun q => absurd q hy, fun _ => trivial⟩, ct_forget hB hT hR.1 hW⟩
