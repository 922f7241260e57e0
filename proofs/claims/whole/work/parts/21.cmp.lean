/-! what a frame that is written reads, on both sides -/
def Flg (v : Int32) (f : Nat → Int32) : Prop := (v = 0 ∧ f 0 = 0 ∧ f 1 = 0) ∨ (v = 1 ∧ f 0 = 1 ∧ f 1 = 0) ∨ (v = 2 ∧ f 0 = 0 ∧ f 1 = 1) ∨ (v = 3 ∧ f 0 = 1 ∧ f 1 = 1)
def Idn (z w : Sg) : Prop := ∃ mk kd N : Nat, mk < 64 ∧ kd < 256 ∧ N < 16777216 ∧ gI z 7 = nI mk ∧ gA w 0 0 = nI mk ∧ gI z 8 = nI kd ∧ gA w 0 1 = nI kd ∧ gI z 9 = nI N ∧ gA w 0 2 = nI (N / 65536) ∧ gA w 0 3 = nI (N / 256 % 256) ∧ gA w 0 4 = nI (N % 256)
def Cm (z w : Sg) : Prop := gI z 2 = gI w 13 ∧ gI z 10 = gI w 1 ∧ gI z 11 = gI w 2 ∧ gI z 12 = gI w 3 ∧ gI z 13 = gI w 4 ∧ gI z 16 = gI w 5 ∧ gI z 17 = gI w 6 ∧ gA z 0 = gA w 1 ∧ gA z 1 = gA w 2 ∧ gA z 4 = gA w 6 ∧ Idn z w ∧ Flg (gI z 14) (gA w 3) ∧ Flg (gI z 15) (gA w 4) ∧ (∃ k : Nat, k < 16 ∧ gI z 10 = nI k) ∧ gI z 12 < gI z 13
/-! the reference's frame -/
def asz (w : Sg) : Nat := if gA w 5 0 = 130 then 5 else 1
theorem asz_le (w : Sg) : asz w ≤ 5 ∧ 1 ≤ asz w := by unfold asz; split <;> omega
theorem m_as (w : Sg) : f_X5_addressSize w = (nI (asz w), w) := by
  unfold f_X5_addressSize asz
  have h : gA w 5 (Int32.toNatClampNeg 0) = gA w 5 0 := rfl
  rw [h]
  by_cases h1 : gA w 5 0 = 130
  · rw [if_pos h1, if_pos h1]; rfl
  · rw [if_neg h1, if_neg h1]; rfl
theorem m_cmd (w : Sg) : f_X5_command w = (gA w 5 (1 + asz w), w) ∧ s_X5_command w := by
  have h1 := asz_le w
  simp only [f_X5_command, s_X5_command, bd, m_as]
  rw [show (1 : Int32) + nI (asz w) = nI (1 + asz w) from nI_add 1 (asz w), nI_clamp (by omega)]
  exact ⟨rfl, vp_in_nI (by omega) (by omega), trivial⟩
theorem m_cnt (w : Sg) : f_X5_count w = (gA w 5 (2 + asz w), w) ∧ s_X5_count w := by
  have h1 := asz_le w
  simp only [f_X5_count, s_X5_count, bd, m_as]
  rw [show (2 : Int32) + nI (asz w) = nI (2 + asz w) from nI_add 2 (asz w), nI_clamp (by omega)]
  exact ⟨rfl, vp_in_nI (by omega) (by omega), trivial⟩
theorem m_data (w : Sg) {k : Nat} (hk : k ≤ 31) : f_X5_data w (nI k) = (gA w 5 (3 + asz w + k), w) ∧ s_X5_data w (nI k) := by
  have h1 := asz_le w
  simp only [f_X5_data, s_X5_data, bd, m_as]
  rw [show (3 : Int32) + nI (asz w) = nI (3 + asz w) from nI_add 3 (asz w), nI_add, nI_clamp (by omega)]
  exact ⟨rfl, vp_in_nI (by omega) (by omega), trivial⟩
theorem flg_bit {v mm : Int32} {f : Nat → Int32} (h : Flg v f) (hm : mm = 0 ∨ mm = 1) : ((v >>> (mm &&& 31)) &&& 1) = 0 ↔ f (Int32.toNatClampNeg mm) = 0 := by
  rcases hm with rfl | rfl
  · show _ ↔ f 0 = 0
    rcases h with ⟨rfl, h, -⟩ | ⟨rfl, h, -⟩ | ⟨rfl, h, -⟩ | ⟨rfl, h, -⟩ <;> rw [h] <;> decide
  · show _ ↔ f 1 = 0
    rcases h with ⟨rfl, -, h⟩ | ⟨rfl, -, h⟩ | ⟨rfl, -, h⟩ | ⟨rfl, -, h⟩ <;> rw [h] <;> decide
theorem in2 {mm : Int32} (hm : mm = 0 ∨ mm = 1) : vp_in mm 2 := by
  rcases hm with rfl | rfl
  · exact vp_in_nI (n := 0) (by omega) (by omega)
  · exact vp_in_nI (n := 1) (by omega) (by omega)
theorem status_eq {z w : Sg} (hC : Cm z w) (n cp : Int32) (row : Nat → Int32) (fr : Int64) {mm : Int32} (hm : mm = 0 ∨ mm = 1) : ∃ st, f_X2_statusFor (Zc z n cp row) mm = (st, Zc z n cp row) ∧ f_X5_statusOf (Wc w n fr row) mm = (st, Wc w n fr row) ∧ s_X5_statusOf (Wc w n fr row) mm := by
  obtain ⟨-, -, -, c12, c13, c16, -, -, c1, -, -, f14, f15, -, -⟩ := hC
  have hv := in2 hm
  have b14 := flg_bit f14 hm
  have b15 := flg_bit f15 hm
  have v0 : f_X2_variableAt (Zc z n cp row) 0 = (gA z 1 0, Zc z n cp row) := rfl
  have p16 : gI (Zc z n cp row) 16 = gI w 5 := c16
  have p14 : gI (Zc z n cp row) 14 = gI z 14 := rfl
  have p15 : gI (Zc z n cp row) 15 = gI z 15 := rfl
  have p12 : gI (Zc z n cp row) 12 = gI w 3 := c12
  have p13 : gI (Zc z n cp row) 13 = gI w 4 := c13
  have q5 : gI (Wc w n fr row) 5 = gI w 5 := rfl
  have q3 : gI (Wc w n fr row) 3 = gI w 3 := rfl
  have q4 : gI (Wc w n fr row) 4 = gI w 4 := rfl
  have r3 : gA (Wc w n fr row) 3 = gA w 3 := rfl
  have r4 : gA (Wc w n fr row) 4 = gA w 4 := rfl
  have r2 : gA (Wc w n fr row) 2 (Int32.toNatClampNeg 0) = gA z 1 0 := by rw [c1]; rfl
  refine ⟨(f_X2_statusFor (Zc z n cp row) mm).1, ?_⟩
  simp only [f_X2_statusFor, f_X2_statusFor_20, f_X2_statusFor_39, f_X2_statusFor_59, f_X2_statusFor_78, f_X5_statusOf, f_X5_statusOf_14, f_X5_statusOf_32, f_X5_statusOf_50, f_X5_statusOf_77, s_X5_statusOf, s_X5_statusOf_14, s_X5_statusOf_32, bd, v0, p16, p14, p15, p12, p13, q5, q3, q4, r3, r4, r2, b14, b15]
  by_cases a1 : gI w 5 = 0 <;> by_cases a2 : gA w 3 (Int32.toNatClampNeg mm) = 0 <;> by_cases a3 : gA w 4 (Int32.toNatClampNeg mm) = 0 <;> by_cases a4 : gA z 1 0 < gI w 3 <;> by_cases a5 : gA z 1 0 ≤ gI w 4 <;> simp only [a1, a2, a3, a4, a5, if_true, if_false, hv, true_and, and_true, implies_true, and_self, not_true_eq_false, not_false_eq_true, forall_const] <;> exact congrArg (fun q => (q, Wc w n fr row)) (by decide)
theorem sub64 {a b : Int32} (h : a < b) : 0 < Int32.toInt64 b - Int32.toInt64 a := by
  rw [Int32.lt_iff_toInt_lt] at h
  rw [Int64.lt_iff_toInt_lt, Int64.toInt_sub, Int32.toInt_toInt64, Int32.toInt_toInt64]
  have h1 := Int32.toInt_lt a
  have h2 := Int32.le_toInt a
  have h3 := Int32.toInt_lt b
  have h4 := Int32.le_toInt b
  have h5 : (0 : Int64).toInt = 0 := rfl
  rw [h5, Int.bmod_eq_of_le (by omega) (by omega)]
  omega
theorem k64a : (3800 : Int64).toInt = 3800 := by decide
theorem k64b : (20500 : Int64).toInt = 20500 := by decide
theorem k64c : Int64.toInt32 20500 = 20500 := by decide
theorem k64d : Int64.toInt32 3800 = 3800 := by decide
theorem clampL (x : Int64) : Int64.toInt32 (if (if x < 20500 then x else 20500) < 3800 then 3800 else (if x < 20500 then x else 20500)) = (if 3800 ≤ x then (if x ≤ 20500 then x.toInt32 else 20500) else 3800) := by
  have k1 := k64a
  have k2 := k64b
  generalize hA : (3800 : Int64) = A at k1 ⊢
  generalize hB : (20500 : Int64) = B at k2 ⊢
  have t1 : Int64.toInt32 B = 20500 := by rw [← hB]; exact k64c
  have t2 : Int64.toInt32 A = 3800 := by rw [← hA]; exact k64d
  have hAB : ¬ B < A := by rw [Int64.lt_iff_toInt_lt]; omega
  by_cases a1 : A ≤ x
  · rw [if_pos a1]
    by_cases a3 : x < B
    · have a4 : ¬ x < A := by rw [Int64.lt_iff_toInt_lt]; rw [Int64.le_iff_toInt_le] at a1; omega
      have a2 : x ≤ B := by rw [Int64.le_iff_toInt_le]; rw [Int64.lt_iff_toInt_lt] at a3; omega
      rw [if_pos a3, if_neg a4, if_pos a2]
    · rw [if_neg a3, if_neg hAB, t1]
      by_cases a2 : x ≤ B
      · have a5 : x = B := by
          apply Int64.toInt_inj.mp
          rw [Int64.le_iff_toInt_le] at a2
          rw [Int64.lt_iff_toInt_lt] at a3
          omega
        rw [if_pos a2, a5, t1]
      · rw [if_neg a2]
  · have a3 : x < B := by rw [Int64.lt_iff_toInt_lt]; rw [Int64.le_iff_toInt_le] at a1; omega
    have a4 : x < A := by rw [Int64.lt_iff_toInt_lt]; rw [Int64.le_iff_toInt_le] at a1; omega
    rw [if_neg a1, if_pos a3, if_pos a4, t2]
def lvx (a b c : Int32) : Int64 := (Int32.toInt64 a - Int32.toInt64 b) * 16000 / (Int32.toInt64 c - Int32.toInt64 b) + 4000
theorem sub64n {a b : Int32} (h : a < b) : ¬ Int32.toInt64 b - Int32.toInt64 a = 0 := by
  intro h1
  have h0 := sub64 h
  rw [h1] at h0
  exact absurd h0 (by decide)
theorem bd_q {α : Type} {β : Sort _} (a : α) (F : α → β) : bd a F = F a := Eq.trans (b := F a) rfl rfl
theorem clamp0 : Int32.toNatClampNeg 0 = 0 := by decide
theorem level_c (z : Sg) (h : gI z 12 < gI z 13) : f_X2_level z = (if 3800 ≤ lvx (gA z 1 0) (gI z 12) (gI z 13) then (if lvx (gA z 1 0) (gI z 12) (gI z 13) ≤ 20500 then (lvx (gA z 1 0) (gI z 12) (gI z 13)).toInt32 else 20500) else 3800, z) := by
  have h1 : 0 < lg_cmp (Int32.toInt64 (gI z 13) - Int32.toInt64 (gI z 12)) 0 := (lg_cmp_gt _ _).mpr (sub64 h)
  have v0 : f_X2_variableAt z 0 = (gA z 1 0, z) := rfl
  rw [← clampL]
  rw [f_X2_level]
  simp only [bd_q, v0]
  rw [if_pos h1]
  rfl
theorem level_s (z : Sg) (h : gI z 12 < gI z 13) : s_X2_level z := by
  rw [s_X2_level]
  simp only [bd_q]
  exact ⟨fun _ => ⟨sub64n h, trivial⟩, fun _ => trivial⟩
theorem lev_e (w : Sg) : (((Int32.toInt64 (gA w 2 0) - Int32.toInt64 (gI w 3)) * 16000 / (Int32.toInt64 (gI w 4) - Int32.toInt64 (gI w 3))) + 4000) = lvx (gA w 2 0) (gI w 3) (gI w 4) := rfl
theorem level_x (w : Sg) (x : Int64) (B : Prop) (h2 : B) : (if 0 ≤ lg_cmp x 3800 then (if lg_cmp x 20500 ≤ 0 then f_X5_putWord w x.toInt32 else f_X5_putWord w 20500) else f_X5_putWord w 3800) = f_X5_putWord w (if 3800 ≤ x then (if x ≤ 20500 then x.toInt32 else 20500) else 3800) ∧ (s_X5_putWord w (if 3800 ≤ x then (if x ≤ 20500 then x.toInt32 else 20500) else 3800) → B ∧ (0 ≤ lg_cmp x 3800 → (lg_cmp x 20500 ≤ 0 → s_X5_putWord w x.toInt32 ∧ True) ∧ (¬ lg_cmp x 20500 ≤ 0 → s_X5_putWord w 20500 ∧ True)) ∧ (¬ 0 ≤ lg_cmp x 3800 → s_X5_putWord w 3800 ∧ True)) := by
  simp only [lg_cmp_ge, lg_cmp_le]
  by_cases a1 : 3800 ≤ x
  · rw [if_pos a1, if_pos a1]
    by_cases a2 : x ≤ 20500
    · rw [if_pos a2, if_pos a2]
      exact ⟨Eq.refl _, fun h => ⟨h2, fun _ => ⟨fun _ => ⟨h, trivial⟩, fun q => absurd a2 q⟩, fun q => absurd a1 q⟩⟩
    · rw [if_neg a2, if_neg a2]
      exact ⟨Eq.refl _, fun h => ⟨h2, fun _ => ⟨fun q => absurd q a2, fun _ => ⟨h, trivial⟩⟩, fun q => absurd a1 q⟩⟩
  · rw [if_neg a1, if_neg a1]
    exact ⟨Eq.refl _, fun h => ⟨h2, fun q => absurd q a1, fun _ => ⟨h, trivial⟩⟩⟩
theorem level_m (w : Sg) (h : gI w 3 < gI w 4) : f_X5_putLevel w = f_X5_putWord w (if 3800 ≤ lvx (gA w 2 0) (gI w 3) (gI w 4) then (if lvx (gA w 2 0) (gI w 3) (gI w 4) ≤ 20500 then (lvx (gA w 2 0) (gI w 3) (gI w 4)).toInt32 else 20500) else 3800) ∧ (s_X5_putWord w (if 3800 ≤ lvx (gA w 2 0) (gI w 3) (gI w 4) then (if lvx (gA w 2 0) (gI w 3) (gI w 4) ≤ 20500 then (lvx (gA w 2 0) (gI w 3) (gI w 4)).toInt32 else 20500) else 3800) → s_X5_putLevel w) := by
  rw [f_X5_putLevel, s_X5_putLevel]
  simp only [bd_q, clamp0, lev_e]
  exact level_x w _ _ (sub64n h)
theorem level_eq {z w : Sg} (hC : Cm z w) (n cp : Int32) (row : Nat → Int32) (fr : Int64) : ∃ lv, f_X2_level (Zc z n cp row) = (lv, Zc z n cp row) ∧ s_X2_level (Zc z n cp row) ∧ f_X5_putLevel (Wc w n fr row) = f_X5_putWord (Wc w n fr row) lv ∧ (s_X5_putWord (Wc w n fr row) lv → s_X5_putLevel (Wc w n fr row)) := by
  obtain ⟨-, -, -, c12, c13, -, -, -, c1, -, -, -, -, -, hlt⟩ := hC
  have hm := level_m (Wc w n fr row) (show gI w 3 < gI w 4 by rw [← c12, ← c13]; exact hlt)
  have q3 : gI (Wc w n fr row) 3 = gI (Zc z n cp row) 12 := c12.symm
  have q4 : gI (Wc w n fr row) 4 = gI (Zc z n cp row) 13 := c13.symm
  have r2 : gA (Wc w n fr row) 2 = gA (Zc z n cp row) 1 := c1.symm
  rw [q3, q4, r2] at hm
  exact ⟨_, level_c (Zc z n cp row) hlt, level_s (Zc z n cp row) hlt, hm.1, hm.2⟩
/-- the number's three bytes -/
def nb3 (row : Nat → Int32) (n : Nat) (f : Nat → Int32) : Nat → Int32 := upd (upd (upd row n (f 2 &&& 255)) (n + 1) (f 3 &&& 255)) (n + 2) (f 4 &&& 255)
theorem num_Zc {z w : Sg} (hI : Idn z w) (cp : Int32) (row : Nat → Int32) {n : Nat} (h : n + 2 < 36) : f_X4_addNumber (Zc z (nI n) cp row) = Zc z (nI (n + 3)) cp (nb3 row n (gA w 0)) := by
  obtain ⟨mk, kd, N, hm, hk, hN, e7, -, e8, -, e9, e2, e3, e4⟩ := hI
  have p : ∀ q c r, gI (Zc z q c r) 9 = nI N := fun _ _ _ => e9
  have h16 : ((nI N).toUInt32 >>> (Int32.toUInt32 16 &&& Int32.toUInt32 31)).toInt32 = nI (N / 65536) := pk_ushrN (by omega) 16 16 (by decide)
  have h8 : ((nI N).toUInt32 >>> (Int32.toUInt32 8 &&& Int32.toUInt32 31)).toInt32 = nI (N / 256) := pk_ushrN (by omega) 8 8 (by decide)
  have m8 : nI (N / 256) &&& 255 = nI (N / 256 % 256) &&& 255 := by
    rw [pk_andN (by omega) 8 (by decide), pk_andN (by omega) 8 (by decide)]
    congr 1
    omega
  have m0 : nI N &&& 255 = nI (N % 256) &&& 255 := by
    rw [pk_andN (by omega) 8 (by decide), pk_andN (by omega) 8 (by decide)]
    congr 1
    omega
  simp only [f_X4_addNumber, bd]
  rw [p, add_Zc _ _ _ _ (by omega), p, add_Zc _ _ _ _ (by omega), p, add_Zc _ _ _ _ (by omega), h16, h8, m8, m0]
  unfold nb3
  rw [e2, e3, e4]
/-! no byte of a row is -1 -/
def Ro (f : Nat → Int32) : Prop := ∀ j : Nat, ¬ f j = -1
theorem and255_ne (x : Int32) : ¬ x &&& 255 = -1 := by
  intro h
  have h1 : bt (x &&& 255) 31 = bt (-1) 31 := by rw [h]
  rw [b_and, b_255, b_m1 31 (by omega)] at h1
  simp at h1
theorem ro_u {f : Nat → Int32} (h : Ro f) (i : Nat) (x : Int32) : Ro (upd f i (x &&& 255)) := by
  intro j
  by_cases e : j = i
  · subst e; rw [pk_us]; exact and255_ne x
  · rw [pk_un e]; exact h j
theorem ro_4 {f : Nat → Int32} (h : Ro f) (i : Nat) (x : Int32) : Ro (ap4 f i x) := ro_u (ro_u (ro_u (ro_u h _ _) _ _) _ _) _ _
theorem ro_3 {f : Nat → Int32} (h : Ro f) (i : Nat) (g : Nat → Int32) : Ro (nb3 f i g) := ro_u (ro_u (ro_u h _ _) _ _) _ _
theorem ro_c {f : Nat → Int32} (h : Ro f) {n c : Nat} (hc : c < n) (hn : n ≤ 36) : Ro (upd f c (nI n - nI c - 1)) := by
  intro j
  by_cases e : j = c
  · subst e
    rw [pk_us, pk_sub (by omega), show n - j = (n - j - 1) + 1 by omega, nI_pred]
    intro q
    have : ¬ nI (n - j - 1) < 0 := nI_pos (by omega)
    rw [q] at this
    exact this (by decide)
  · rw [pk_un e]; exact h j
