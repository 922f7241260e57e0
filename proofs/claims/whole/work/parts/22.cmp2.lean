/-! the data of an answer -/
theorem nu_eq (row : Nat → Int32) (n : Nat) (x y : Int32) (h : x &&& 255 = y &&& 255) : upd row n (x &&& 255) = upd row n (y &&& 255) := by rw [h]
theorem ident_eq {z w : Sg} (hC : Cm z w) (cp : Int32) (row : Nat → Int32) (fr : Int64) {n : Nat} (h : n ≤ 15) : ∃ row', f_X4_addIdentity (Zc z (nI n) cp row) = Zc z (nI (n + 7)) cp row' ∧ f_X5_putData_10 (Wc w (nI n) fr row) = Wc w (nI (n + 7)) fr row' ∧ s_X5_putData_10 (Wc w (nI n) fr row) ∧ (Ro row → Ro row') := by
  have hI : Idn z w := hC.2.2.2.2.2.2.2.2.2.2.1
  obtain ⟨mk, kd, N, -, -, -, e7, d7, e8, d8, -⟩ := id hI
  have p7 : ∀ q c r, gI (Zc z q c r) 7 = gA w 0 0 := fun _ _ _ => e7.trans d7.symm
  have p8 : ∀ q c r, gI (Zc z q c r) 8 = gA w 0 1 := fun _ _ _ => e8.trans d8.symm
  have q0 : ∀ q f r, gA (Wc w q f r) 0 = gA w 0 := fun _ _ _ => rfl
  rw [f_X4_addIdentity, f_X5_putData_10, s_X5_putData_10]
  simp only [bd_q]
  rw [add_Zc _ _ _ _ (by omega), p7, add_Zc _ _ _ _ (by omega), p8, add_Zc _ _ _ _ (by omega), add_Zc _ _ _ _ (by omega), num_Zc hI _ _ (by omega)]
  rw [put_Wc _ _ _ _ (by omega), q0, put_Wc _ _ _ _ (by omega), q0, put_Wc _ _ _ _ (by omega), put_Wc _ _ _ _ (by omega), q0, put_Wc _ _ _ _ (by omega), q0, put_Wc _ _ _ _ (by omega), q0, put_Wc _ _ _ _ (by omega)]
  exact ⟨_, rfl, rfl, ⟨sput_Wc _ _ _ _ (by omega), sput_Wc _ _ _ _ (by omega), sput_Wc _ _ _ _ (by omega), sput_Wc _ _ _ _ (by omega), sput_Wc _ _ _ _ (by omega), sput_Wc _ _ _ _ (by omega), ⟨sput_Wc _ _ _ _ (by omega), trivial⟩⟩, fun h => ro_3 (ro_u (ro_u (ro_u (ro_u h _ _) _ _) _ _) _ _) _ _⟩
/-- the frame that has ended, on both sides: the count k, and the data -/
def Ec (z w : Sg) (k : Nat) : Prop := k ≤ 20 ∧ gI z 21 = nI k ∧ gA w 5 (2 + asz w) = nI k ∧ ∀ j, j < k → gA z 3 j = gA w 5 (3 + asz w + j)
theorem c_data {z : Sg} {k j : Nat} (h : gI z 21 = nI k) (hk : k ≤ 20) (hj : j < k) : f_X0_dataAt z (nI j) = (gA z 3 j, z) := by
  unfold f_X0_dataAt
  rw [if_neg (nI_pos (by omega)), h, if_neg (nI_ge (by omega) (by omega)), if_neg (show ¬ (20 : Int32) ≤ nI j from nI_ge (b := 20) (by omega) (by omega)), nI_clamp (by omega)]
theorem echo_eq {z w : Sg} {k : Nat} (hE : Ec z w k) (hk : k ≤ 9) (cp : Int32) (fr : Int64) : ∀ (j i m n : Nat) (row : Nat → Int32), i + j = k → j < m → n + j ≤ 35 → ∃ row', f_X4_addEcho_10 m (Zc z (nI n) cp row) (nI i) = Zc z (nI (n + j)) cp row' ∧ s_X4_addEcho_10 m (Zc z (nI n) cp row) (nI i) ∧ f_X5_putData_222 m (Wc w (nI n) fr row) (nI i) = Wc w (nI (n + j)) fr row' ∧ s_X5_putData_222 m (Wc w (nI n) fr row) (nI i) ∧ (Ro row → Ro row') := by
  obtain ⟨hk20, e1, e2, e3⟩ := hE
  intro j
  induction j with
  | zero =>
    intro i m n row hi hm hn
    obtain ⟨m, rfl⟩ : ∃ m', m = m' + 1 := ⟨m - 1, by omega⟩
    have h1 : gI (Zc z (nI n) cp row) 21 = nI k := e1
    have h2 : f_X5_count (Wc w (nI n) fr row) = (nI k, Wc w (nI n) fr row) := by rw [(m_cnt _).1]; exact congrArg (fun q => (q, Wc w (nI n) fr row)) e2
    have h3 : nI k ≤ nI i := nI_le (by omega) (by omega)
    rw [f_X4_addEcho_10, s_X4_addEcho_10, f_X5_putData_222, s_X5_putData_222, h1, h2]
    refine ⟨row, ?_, ⟨fun _ => trivial, fun h => absurd h3 h⟩, ?_, ⟨(m_cnt _).2, ⟨fun _ => trivial, fun h => absurd h3 h⟩⟩, id⟩
    · rw [if_pos h3]; rfl
    · show (if nI k ≤ nI i then _ else _) = _
      rw [if_pos h3]; rfl
  | succ j ih =>
    intro i m n row hi hm hn
    obtain ⟨m, rfl⟩ : ∃ m', m = m' + 1 := ⟨m - 1, by omega⟩
    have h1 : gI (Zc z (nI n) cp row) 21 = nI k := e1
    have h2 : f_X5_count (Wc w (nI n) fr row) = (nI k, Wc w (nI n) fr row) := by rw [(m_cnt _).1]; exact congrArg (fun q => (q, Wc w (nI n) fr row)) e2
    have h3 : ¬ nI k ≤ nI i := nI_ge (by omega) (by omega)
    have h4 : f_X0_dataAt (Zc z (nI n) cp row) (nI i) = (gA w 5 (3 + asz w + i), Zc z (nI n) cp row) := by
      rw [c_data h1 hk20 (by omega)]
      exact congrArg (fun q => (q, Zc z (nI n) cp row)) (e3 i (by omega))
    have h5 : f_X5_data (Wc w (nI n) fr row) (nI i) = (gA w 5 (3 + asz w + i), Wc w (nI n) fr row) := (m_data _ (by omega)).1
    have h6 := (m_data (Wc w (nI n) fr row) (k := i) (by omega)).2
    obtain ⟨row', i1, i2, i3, i4, i5⟩ := ih (i + 1) m (n + 1) (upd row n (gA w 5 (3 + asz w + i) &&& 255)) (by omega) (by omega) (by omega)
    rw [f_X4_addEcho_10, s_X4_addEcho_10, f_X5_putData_222, s_X5_putData_222, h1, h2, if_neg h3]
    simp only [bd, h4, h5, h3, if_false, add_Zc z cp row (gA w 5 (3 + asz w + i)) (show n < 36 by omega), put_Wc w fr row (gA w 5 (3 + asz w + i)) (show n < 64 by omega), nI_1]
    refine ⟨row', ?_, ⟨fun h => absurd h id, fun _ => i2⟩, ?_, ⟨(m_cnt _).2, ⟨fun h => absurd h id, fun _ => ⟨h6, sput_Wc _ _ _ _ (by omega), i4⟩⟩⟩, fun h => i5 (ro_u h _ _)⟩
    · rw [i1, show n + 1 + j = n + (j + 1) by omega]
    · rw [i3, show n + 1 + j = n + (j + 1) by omega]
/-- which commands are answered with data, and what their data need -/
def Dt (z w : Sg) (c : Int32) : Prop := c = 0 ∨ c = 1 ∨ c = 2 ∨ c = 3 ∨ c = 11 ∨ c = 13 ∨ c = 48 ∨ c = 38 ∨ ((c = 6 ∨ c = 18 ∨ c = 35 ∨ c = 108 ∨ c = 109) ∧ ∃ k, k ≤ 9 ∧ Ec z w k)
theorem data_eq {z w : Sg} (hC : Cm z w) (cp : Int32) (row : Nat → Int32) (fr : Int64) {c : Int32} (hc : Dt z w c) {n : Nat} (h : n ≤ 15) : ∃ (d : Nat) (row' : Nat → Int32), d ≤ 20 ∧ f_X4_addData (Zc z (nI n) cp row) c = Zc z (nI (n + d)) cp row' ∧ s_X4_addData (Zc z (nI n) cp row) c ∧ f_X5_putData (Wc w (nI n) fr row) c = Wc w (nI (n + d)) fr row' ∧ s_X5_putData (Wc w (nI n) fr row) c ∧ (Ro row → Ro row') := by
  have hC0 := hC
  obtain ⟨c2, c10, c11, c12, c13, c16, c17, cA0, cA1, cA4, hI, f14, f15, hs, hlt⟩ := hC0
  have va : ∀ q c r, f_X2_variableAt (Zc z q c r) 0 = (gA w 2 0, Zc z q c r) := fun q c r => congrArg (fun f => (f 0, Zc z q c r)) cA1
  have vb : ∀ q c r, f_X2_variableAt (Zc z q c r) 1 = (gA w 2 1, Zc z q c r) := fun q c r => congrArg (fun f => (f 1, Zc z q c r)) cA1
  have vc : ∀ q c r, f_X2_variableAt (Zc z q c r) 2 = (gA w 2 2, Zc z q c r) := fun q c r => congrArg (fun f => (f 2, Zc z q c r)) cA1
  have vd : ∀ q c r, f_X2_variableAt (Zc z q c r) 3 = (gA w 2 3, Zc z q c r) := fun q c r => congrArg (fun f => (f 3, Zc z q c r)) cA1
  have m2 : ∀ q f r, gA (Wc w q f r) 2 = gA w 2 := fun _ _ _ => rfl
  have k0 : Int32.toNatClampNeg 0 = 0 := rfl
  have k1 : Int32.toNatClampNeg 1 = 1 := rfl
  have k2 : Int32.toNatClampNeg 2 = 2 := rfl
  have k3 : Int32.toNatClampNeg 3 = 3 := rfl
  rcases hc with rfl | rfl | rfl | rfl | rfl | rfl | rfl | rfl | ⟨hc, k, hk, hE⟩
  · obtain ⟨row', i1, i2, i3, i9⟩ := ident_eq hC cp row fr h
    refine ⟨7, row', by omega, ?_, ?_, ?_, ?_, i9⟩
    · rw [f_X4_addData, if_pos rfl, bd_q]; exact i1
    · rw [s_X4_addData]; exact ⟨fun _ => trivial, fun h => absurd rfl h⟩
    · rw [f_X5_putData, if_pos rfl]; exact i2
    · rw [s_X5_putData]; exact ⟨fun _ => i3, fun h => absurd rfl h⟩
  · have p11 : ∀ q c r, gI (Zc z q c r) 11 = gI w 2 := fun _ _ _ => c11
    have q2 : ∀ q f r, gI (Wc w q f r) 2 = gI w 2 := fun _ _ _ => rfl
    refine ⟨5, ap4 (upd row n (gI w 2 &&& 255)) (n + 1) (gA w 2 0), by omega, ?_, (by rw [s_X4_addData]; exact ⟨fun h => absurd h (by decide), fun _ => ⟨fun _ => trivial, fun h => absurd rfl h⟩⟩), ?_, ?_, fun h => ro_4 (ro_u h _ _) _ _⟩
    · rw [f_X4_addData, if_neg (by decide), if_pos rfl]
      simp only [bd_q, p11]
      rw [add_Zc _ _ _ _ (by omega), va, add4_Zc _ _ _ _ (by omega)]
    · rw [f_X5_putData, if_neg (by decide), if_neg (by decide), if_pos rfl]
      simp only [bd_q, q2, k0]
      rw [put_Wc _ _ _ _ (by omega), m2, put4_Wc _ _ _ _ (by omega)]
    · rw [s_X5_putData]
      refine ⟨fun h => absurd h (by decide), fun _ => ⟨fun h => absurd h (by decide), fun _ => ⟨fun _ => ?_, fun h => absurd rfl h⟩⟩⟩
      simp only [bd_q, q2]
      rw [put_Wc _ _ _ _ (by omega)]
      exact ⟨sput_Wc _ _ _ _ (by omega), sput4_Wc _ _ _ _ (by omega), trivial⟩
  · obtain ⟨lv, i1, i2, i3, i4⟩ := level_eq hC (nI n) cp row fr
    refine ⟨4, ap4 row n lv, by omega, ?_, (by rw [s_X4_addData]; exact ⟨fun h => absurd h (by decide), fun _ => ⟨fun h => absurd h (by decide), fun _ => ⟨fun _ => ⟨i2, trivial⟩, fun h => absurd rfl h⟩⟩⟩), ?_, ?_, fun h => ro_4 h _ _⟩
    · rw [f_X4_addData, if_neg (by decide), if_neg (by decide), if_pos rfl]
      simp only [bd_q, i1]
      rw [add4_Zc _ _ _ _ (by omega)]
    · rw [f_X5_putData, if_neg (by decide), if_neg (by decide), if_neg (by decide), if_pos rfl]
      simp only [bd_q, i3]
      rw [put4_Wc _ _ _ _ (by omega)]
    · rw [s_X5_putData]
      exact ⟨fun h => absurd h (by decide), fun _ => ⟨fun h => absurd h (by decide), fun _ => ⟨fun h => absurd h (by decide), fun _ => ⟨fun _ => ⟨i4 (sput4_Wc _ _ _ _ (by omega)), trivial⟩, fun h => absurd rfl h⟩⟩⟩⟩
  · obtain ⟨lv, i1, i2, i3, i4⟩ := level_eq hC (nI n) cp row fr
    refine ⟨20, ap4 (ap4 (ap4 (ap4 (ap4 row n lv) (n + 4) (gA w 2 0)) (n + 4 + 4) (gA w 2 1)) (n + 4 + 4 + 4) (gA w 2 2)) (n + 4 + 4 + 4 + 4) (gA w 2 3), by omega, ?_, (by rw [s_X4_addData]; exact ⟨fun h => absurd h (by decide), fun _ => ⟨fun h => absurd h (by decide), fun _ => ⟨fun h => absurd h (by decide), fun _ => ⟨fun _ => ⟨i2, trivial⟩, fun h => absurd rfl h⟩⟩⟩⟩), ?_, ?_, fun h => ro_4 (ro_4 (ro_4 (ro_4 (ro_4 h _ _) _ _) _ _) _ _) _ _⟩
    · rw [f_X4_addData, if_neg (by decide), if_neg (by decide), if_neg (by decide), if_pos rfl]
      simp only [bd_q, i1]
      rw [add4_Zc _ _ _ _ (by omega), va, add4_Zc _ _ _ _ (by omega), vb, add4_Zc _ _ _ _ (by omega), vc, add4_Zc _ _ _ _ (by omega), vd, add4_Zc _ _ _ _ (by omega)]
    · rw [f_X5_putData, if_neg (by decide), if_neg (by decide), if_neg (by decide), if_neg (by decide), if_pos rfl]
      simp only [bd_q, i3, k0, k1, k2, k3]
      rw [put4_Wc _ _ _ _ (by omega), m2, put4_Wc _ _ _ _ (by omega), m2, put4_Wc _ _ _ _ (by omega), m2, put4_Wc _ _ _ _ (by omega), m2, put4_Wc _ _ _ _ (by omega)]
    · rw [s_X5_putData]
      refine ⟨fun h => absurd h (by decide), fun _ => ⟨fun h => absurd h (by decide), fun _ => ⟨fun h => absurd h (by decide), fun _ => ⟨fun h => absurd h (by decide), fun _ => ⟨fun _ => ⟨i4 (sput4_Wc _ _ _ _ (by omega)), ?_⟩, fun h => absurd rfl h⟩⟩⟩⟩⟩
      simp only [bd_q, i3, k0, k1, k2, k3]
      rw [put4_Wc _ _ _ _ (by omega), m2, put4_Wc _ _ _ _ (by omega), m2, put4_Wc _ _ _ _ (by omega), m2, put4_Wc _ _ _ _ (by omega), m2]
      exact ⟨sput4_Wc _ _ _ _ (by omega), sput4_Wc _ _ _ _ (by omega), sput4_Wc _ _ _ _ (by omega), sput4_Wc _ _ _ _ (by omega), trivial⟩
  · obtain ⟨row', i1, i2, i3, i9⟩ := ident_eq hC cp row fr h
    refine ⟨7, row', by omega, ?_, ?_, ?_, ?_, i9⟩
    · rw [f_X4_addData, if_neg (by decide), if_neg (by decide), if_neg (by decide), if_neg (by decide), if_pos rfl, bd_q]; exact i1
    · rw [s_X4_addData]; exact ⟨fun h => absurd h (by decide), fun _ => ⟨fun h => absurd h (by decide), fun _ => ⟨fun h => absurd h (by decide), fun _ => ⟨fun h => absurd h (by decide), fun _ => ⟨fun _ => trivial, fun h => absurd rfl h⟩⟩⟩⟩⟩
    · rw [f_X5_putData, if_neg (by decide), if_pos rfl]; exact i2
    · rw [s_X5_putData]; exact ⟨fun h => absurd h (by decide), fun _ => ⟨fun _ => i3, fun h => absurd rfl h⟩⟩
  · have t : ∀ q c r (i : Int32) (k : Nat), k < 6 → i = nI k → f_X2_tagByte (Zc z q c r) i = (gA w 1 k, Zc z q c r) := by
      intro q c r i k hk hi
      subst hi
      unfold f_X2_tagByte
      rw [if_neg (nI_pos (by omega)), if_neg (show ¬ (6 : Int32) ≤ nI k from nI_ge (b := 6) (by omega) (by omega)), nI_clamp (by omega), ← cA0]
      rfl
    have t0 := fun q c r => t q c r 0 0 (by omega) rfl
    have t1 := fun q c r => t q c r 1 1 (by omega) rfl
    have t2 := fun q c r => t q c r 2 2 (by omega) rfl
    have t3 := fun q c r => t q c r 3 3 (by omega) rfl
    have t4 := fun q c r => t q c r 4 4 (by omega) rfl
    have t5 := fun q c r => t q c r 5 5 (by omega) rfl
    have k4 : Int32.toNatClampNeg 4 = 4 := rfl
    have k5 : Int32.toNatClampNeg 5 = 5 := rfl
    have m1 : ∀ q f r, gA (Wc w q f r) 1 = gA w 1 := fun _ _ _ => rfl
    refine ⟨6, (upd (upd (upd (upd (upd (upd row (n) (gA w 1 0 &&& 255)) (n + 1) (gA w 1 1 &&& 255)) (n + 1 + 1) (gA w 1 2 &&& 255)) (n + 1 + 1 + 1) (gA w 1 3 &&& 255)) (n + 1 + 1 + 1 + 1) (gA w 1 4 &&& 255)) (n + 1 + 1 + 1 + 1 + 1) (gA w 1 5 &&& 255)), by omega, ?_, (by rw [s_X4_addData]; exact ⟨fun h => absurd h (by decide), fun _ => ⟨fun h => absurd h (by decide), fun _ => ⟨fun h => absurd h (by decide), fun _ => ⟨fun h => absurd h (by decide), fun _ => ⟨fun h => absurd h (by decide), fun _ => ⟨fun _ => trivial, fun h => absurd rfl h⟩⟩⟩⟩⟩⟩), ?_, ?_, fun h => ro_u (ro_u (ro_u (ro_u (ro_u (ro_u h _ _) _ _) _ _) _ _) _ _) _ _⟩
    · rw [f_X4_addData, if_neg (by decide), if_neg (by decide), if_neg (by decide), if_neg (by decide), if_neg (by decide), if_pos rfl]
      simp only [bd_q, t0]
      rw [add_Zc _ _ _ _ (by omega), t1, add_Zc _ _ _ _ (by omega), t2, add_Zc _ _ _ _ (by omega), t3, add_Zc _ _ _ _ (by omega), t4, add_Zc _ _ _ _ (by omega), t5, add_Zc _ _ _ _ (by omega)]
    · rw [f_X5_putData, if_neg (by decide), if_neg (by decide), if_neg (by decide), if_neg (by decide), if_neg (by decide), if_pos rfl]
      simp only [bd_q, m1, k0, k1, k2, k3, k4, k5]
      rw [put_Wc _ _ _ _ (by omega), m1, put_Wc _ _ _ _ (by omega), m1, put_Wc _ _ _ _ (by omega), m1, put_Wc _ _ _ _ (by omega), m1, put_Wc _ _ _ _ (by omega), m1, put_Wc _ _ _ _ (by omega)]
    · rw [s_X5_putData]
      refine ⟨fun h => absurd h (by decide), fun _ => ⟨fun h => absurd h (by decide), fun _ => ⟨fun h => absurd h (by decide), fun _ => ⟨fun h => absurd h (by decide), fun _ => ⟨fun h => absurd h (by decide), fun _ => ⟨fun _ => ?_, fun h => absurd rfl h⟩⟩⟩⟩⟩⟩
      simp only [bd_q, m1, k0, k1, k2, k3, k4, k5]
      rw [put_Wc _ _ _ _ (by omega), m1, put_Wc _ _ _ _ (by omega), m1, put_Wc _ _ _ _ (by omega), m1, put_Wc _ _ _ _ (by omega), m1, put_Wc _ _ _ _ (by omega), m1]
      exact ⟨sput_Wc _ _ _ _ (by omega), sput_Wc _ _ _ _ (by omega), sput_Wc _ _ _ _ (by omega), sput_Wc _ _ _ _ (by omega), sput_Wc _ _ _ _ (by omega), sput_Wc _ _ _ _ (by omega), trivial⟩
  · have p16 : ∀ q c r, gI (Zc z q c r) 16 = gI w 5 := fun _ _ _ => c16
    have p2 : ∀ q c r, gI (Zc z q c r) 2 = gI w 13 := fun _ _ _ => c2
    have q5 : ∀ q f r, gI (Wc w q f r) 5 = gI w 5 := fun _ _ _ => rfl
    have q13 : ∀ q f r, gI (Wc w q f r) 13 = gI w 13 := fun _ _ _ => rfl
    have key : ∀ b : Int32, f_X4_addData_220 (Zc z (nI n) cp row) b = Zc z (nI (n + 2)) cp (upd (upd row n (b &&& 255)) (n + 1) (gI w 13 &&& 255)) ∧ f_X5_putData_200 (Wc w (nI n) fr row) b = Wc w (nI (n + 2)) fr (upd (upd row n (b &&& 255)) (n + 1) (gI w 13 &&& 255)) ∧ s_X5_putData_200 (Wc w (nI n) fr row) b := by
      intro b
      rw [f_X4_addData_220, f_X5_putData_200, s_X5_putData_200]
      simp only [bd_q]
      rw [add_Zc _ _ _ _ (by omega), p2, add_Zc _ _ _ _ (by omega), put_Wc _ _ _ _ (by omega), q13, put_Wc _ _ _ _ (by omega)]
      exact ⟨rfl, rfl, sput_Wc _ _ _ _ (by omega), sput_Wc _ _ _ _ (by omega), trivial⟩
    by_cases a : gI w 5 = 0
    · refine ⟨2, upd (upd row n (0 &&& 255)) (n + 1) (gI w 13 &&& 255), by omega, ?_, (by rw [s_X4_addData]; exact ⟨fun h => absurd h (by decide), fun _ => ⟨fun h => absurd h (by decide), fun _ => ⟨fun h => absurd h (by decide), fun _ => ⟨fun h => absurd h (by decide), fun _ => ⟨fun h => absurd h (by decide), fun _ => ⟨fun h => absurd h (by decide), fun _ => ⟨fun _ => ⟨fun _ => trivial, fun _ => trivial⟩, fun h => absurd rfl h⟩⟩⟩⟩⟩⟩⟩), ?_, ?_, fun h => ro_u (ro_u h _ _) _ _⟩
      · rw [f_X4_addData, if_neg (by decide), if_neg (by decide), if_neg (by decide), if_neg (by decide), if_neg (by decide), if_neg (by decide), if_pos rfl, p16, if_pos a, (key 0).1]
      · rw [f_X5_putData, if_neg (by decide), if_neg (by decide), if_neg (by decide), if_neg (by decide), if_neg (by decide), if_neg (by decide), if_pos rfl, q5, if_pos a, (key 0).2.1]
      · rw [s_X5_putData]
        exact ⟨fun h => absurd h (by decide), fun _ => ⟨fun h => absurd h (by decide), fun _ => ⟨fun h => absurd h (by decide), fun _ => ⟨fun h => absurd h (by decide), fun _ => ⟨fun h => absurd h (by decide), fun _ => ⟨fun h => absurd h (by decide), fun _ => ⟨fun _ => ⟨fun _ => (key 0).2.2, fun h => absurd a h⟩, fun h => absurd rfl h⟩⟩⟩⟩⟩⟩⟩
    · refine ⟨2, upd (upd row n (1 &&& 255)) (n + 1) (gI w 13 &&& 255), by omega, ?_, (by rw [s_X4_addData]; exact ⟨fun h => absurd h (by decide), fun _ => ⟨fun h => absurd h (by decide), fun _ => ⟨fun h => absurd h (by decide), fun _ => ⟨fun h => absurd h (by decide), fun _ => ⟨fun h => absurd h (by decide), fun _ => ⟨fun h => absurd h (by decide), fun _ => ⟨fun _ => ⟨fun _ => trivial, fun _ => trivial⟩, fun h => absurd rfl h⟩⟩⟩⟩⟩⟩⟩), ?_, ?_, fun h => ro_u (ro_u h _ _) _ _⟩
      · rw [f_X4_addData, if_neg (by decide), if_neg (by decide), if_neg (by decide), if_neg (by decide), if_neg (by decide), if_neg (by decide), if_pos rfl, p16, if_neg a, (key 1).1]
      · rw [f_X5_putData, if_neg (by decide), if_neg (by decide), if_neg (by decide), if_neg (by decide), if_neg (by decide), if_neg (by decide), if_pos rfl, q5, if_neg a, (key 1).2.1]
      · rw [s_X5_putData]
        exact ⟨fun h => absurd h (by decide), fun _ => ⟨fun h => absurd h (by decide), fun _ => ⟨fun h => absurd h (by decide), fun _ => ⟨fun h => absurd h (by decide), fun _ => ⟨fun h => absurd h (by decide), fun _ => ⟨fun h => absurd h (by decide), fun _ => ⟨fun _ => ⟨fun h => absurd h a, fun _ => (key 1).2.2⟩, fun h => absurd rfl h⟩⟩⟩⟩⟩⟩⟩
  · refine ⟨0, row, by omega, ?_, ?_, ?_, ?_, id⟩
    · rw [f_X4_addData, if_neg (by decide), if_neg (by decide), if_neg (by decide), if_neg (by decide), if_neg (by decide), if_neg (by decide), if_neg (by decide), f_X4_addEcho]
      simp only [bd_q]
      rfl
    · rw [s_X4_addData, s_X4_addEcho]
      simp only [bd_q]
      exact ⟨fun h => absurd h (by decide), fun _ => ⟨fun h => absurd h (by decide), fun _ => ⟨fun h => absurd h (by decide), fun _ => ⟨fun h => absurd h (by decide), fun _ => ⟨fun h => absurd h (by decide), fun _ => ⟨fun h => absurd h (by decide), fun _ => ⟨fun h => absurd h (by decide), fun _ => ⟨⟨fun _ => trivial, fun h => absurd rfl h⟩, trivial⟩⟩⟩⟩⟩⟩⟩⟩
    · rw [f_X5_putData, if_neg (by decide), if_neg (by decide), if_neg (by decide), if_neg (by decide), if_neg (by decide), if_neg (by decide), if_neg (by decide), if_pos rfl]
      rfl
    · rw [s_X5_putData]
      exact ⟨fun h => absurd h (by decide), fun _ => ⟨fun h => absurd h (by decide), fun _ => ⟨fun h => absurd h (by decide), fun _ => ⟨fun h => absurd h (by decide), fun _ => ⟨fun h => absurd h (by decide), fun _ => ⟨fun h => absurd h (by decide), fun _ => ⟨fun h => absurd h (by decide), fun _ => ⟨fun _ => trivial, fun h => absurd rfl h⟩⟩⟩⟩⟩⟩⟩⟩
  · obtain ⟨row', i1, i2, i3, i4, i9⟩ := echo_eq hE hk cp fr k 0 64 n row (by omega) (by omega) (by omega)
    have ne : ¬ c = 0 ∧ ¬ c = 1 ∧ ¬ c = 2 ∧ ¬ c = 3 ∧ ¬ c = 11 ∧ ¬ c = 13 ∧ ¬ c = 48 ∧ ¬ c = 38 := by
      rcases hc with rfl | rfl | rfl | rfl | rfl <;> decide
    have hset : ∀ y : Sg, f_X4_setsSomething y c = (1, y) := by
      intro y
      rcases hc with rfl | rfl | rfl | rfl | rfl <;> rfl
    obtain ⟨n0, n1, n2, n3, n11, n13, n48, n38⟩ := ne
    refine ⟨k, row', by omega, ?_, ?_, ?_, ?_, i9⟩
    · rw [f_X4_addData, if_neg n0, if_neg n1, if_neg n2, if_neg n3, if_neg n11, if_neg n13, if_neg n48, f_X4_addEcho]
      simp only [bd_q, hset]
      rw [if_neg (by decide)]
      exact i1
    · rw [s_X4_addData, s_X4_addEcho]
      simp only [bd_q, hset]
      exact ⟨fun h => absurd h n0, fun _ => ⟨fun h => absurd h n1, fun _ => ⟨fun h => absurd h n2, fun _ => ⟨fun h => absurd h n3, fun _ => ⟨fun h => absurd h n11, fun _ => ⟨fun h => absurd h n13, fun _ => ⟨fun h => absurd h n48, fun _ => ⟨⟨fun h => absurd h (by decide), fun _ => i2⟩, trivial⟩⟩⟩⟩⟩⟩⟩⟩
    · rw [f_X5_putData, if_neg n0, if_neg n11, if_neg n1, if_neg n2, if_neg n3, if_neg n13, if_neg n48, if_neg n38]
      exact i3
    · rw [s_X5_putData]
      exact ⟨fun h => absurd h n0, fun _ => ⟨fun h => absurd h n11, fun _ => ⟨fun h => absurd h n1, fun _ => ⟨fun h => absurd h n2, fun _ => ⟨fun h => absurd h n3, fun _ => ⟨fun h => absurd h n13, fun _ => ⟨fun h => absurd h n48, fun _ => ⟨fun h => absurd h n38, fun _ => i4⟩⟩⟩⟩⟩⟩⟩⟩
