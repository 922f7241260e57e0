/-! a frame that has ended, on both sides -/
def By (w : Sg) : Prop := ∀ j : Nat, ∃ b : Nat, b < 256 ∧ gA w 5 j = nI b
def Ef (z w : Sg) (k : Nat) : Prop := Ec z w k ∧ ((gI z 19 = 0 ∧ gA w 5 0 = 2) ∨ (gI z 19 = 1 ∧ gA w 5 0 = 130)) ∧ gI z 20 = gA w 5 (1 + asz w) ∧ (∀ j, j < asz w → gA z 2 j = gA w 5 (1 + j)) ∧ By w
theorem by128 : ∀ b : Nat, b < 256 → ((nI b &&& 128) = 0 ↔ nI b ≤ 127) := by decide +kernel
theorem by63 : ∀ b : Nat, b < 256 → (nI b &&& 63) = nI b - nI b / 64 * 64 ∧ (nI b &&& 63) = nI (b % 64) := by decide +kernel
theorem nx_or (a b : Nat) : nI a ||| nI b = nI (a ||| b) := by
  apply Int32.toBitVec_inj.1
  show BitVec.ofNat 32 a ||| BitVec.ofNat 32 b = BitVec.ofNat 32 (a ||| b)
  apply BitVec.eq_of_getLsbD_eq
  intro i hi
  simp [hi]
theorem num3 {a b c : Nat} (ha : a < 256) (hb : b < 256) (hc : c < 256) : ((nI a <<< ((16 : Int32) &&& 31)) ||| (nI b <<< ((8 : Int32) &&& 31))) ||| nI c = nI (a * 65536 + b * 256 + c) := by
  have h1 : nI a <<< ((16 : Int32) &&& 31) = nI (a * 65536) := pk_shlN ((16 : Int32) &&& 31) 16 (by decide) (by omega)
  have h2 : nI b <<< ((8 : Int32) &&& 31) = nI (b * 256) := pk_shlN ((8 : Int32) &&& 31) 8 (by decide) (by omega)
  rw [h1, h2, nx_or, nx_or]
  have h3 : a * 65536 ||| b * 256 = a * 65536 + b * 256 := by
    have h := Nat.shiftLeft_add_eq_or_of_lt (show b * 256 < 2 ^ 16 by omega) a
    rw [Nat.shiftLeft_eq] at h
    exact h.symm
  have h4 : (a * 256 + b) * 256 ||| c = (a * 256 + b) * 256 + c := by
    have h := Nat.shiftLeft_add_eq_or_of_lt (show c < 2 ^ 8 by omega) (a * 256 + b)
    rw [Nat.shiftLeft_eq] at h
    exact h.symm
  rw [h3, show a * 65536 + b * 256 = (a * 256 + b) * 256 by omega, h4]
theorem c_addr {z : Sg} {j : Nat} (hj : j < 5) : f_X0_addressAt z (nI j) = (gA z 2 j, z) := by
  unfold f_X0_addressAt
  rw [if_neg (nI_pos (by omega)), if_neg (show ¬ (5 : Int32) ≤ nI j from nI_ge (b := 5) (by omega) (by omega)), nI_clamp (by omega)]
theorem c_a0 (z : Sg) : f_X0_addressAt z 0 = (gA z 2 0, z) := c_addr (j := 0) (by omega)
theorem c_a1 (z : Sg) : f_X0_addressAt z 1 = (gA z 2 1, z) := c_addr (j := 1) (by omega)
theorem c_a2 (z : Sg) : f_X0_addressAt z 2 = (gA z 2 2, z) := c_addr (j := 2) (by omega)
theorem c_a3 (z : Sg) : f_X0_addressAt z 3 = (gA z 2 3, z) := c_addr (j := 3) (by omega)
theorem c_a4 (z : Sg) : f_X0_addressAt z 4 = (gA z 2 4, z) := c_addr (j := 4) (by omega)
theorem c_station (z : Sg) : f_X0_station z = (gA z 2 0 &&& 63, z) := by rw [f_X0_station, c_a0, bd_q]
theorem c_kind (z : Sg) : f_X0_kind z = (gA z 2 1, z) := by rw [f_X0_kind, c_a1, bd_q]
theorem c_number (z : Sg) : f_X0_number z = (((gA z 2 2 <<< ((16 : Int32) &&& 31)) ||| (gA z 2 3 <<< ((8 : Int32) &&& 31))) ||| gA z 2 4, z) := by
  rw [f_X0_number]
  simp only [bd_q, c_a2, c_a3, c_a4]
theorem clamp1 : Int32.toNatClampNeg 1 = 1 := by decide
theorem clamp2 : Int32.toNatClampNeg 2 = 2 := by decide
theorem clamp3 : Int32.toNatClampNeg 3 = 3 := by decide
theorem clamp4 : Int32.toNatClampNeg 4 = 4 := by decide
theorem clamp5 : Int32.toNatClampNeg 5 = 5 := by decide
theorem clamp11 : Int32.toNatClampNeg (1 + 1) = 2 := by decide
theorem clamp12 : Int32.toNatClampNeg (1 + 2) = 3 := by decide
theorem clamp13 : Int32.toNatClampNeg (1 + 3) = 4 := by decide
theorem clamp14 : Int32.toNatClampNeg (1 + 4) = 5 := by decide
theorem master_eq {z w : Sg} {k : Nat} (h : Ef z w k) : ∃ mm : Int32, (mm = 0 ∨ mm = 1) ∧ f_X0_master z = (mm, z) ∧ f_X5_master w = (mm, w) := by
  obtain ⟨-, -, -, ha, hy⟩ := h
  have h0 : gA z 2 0 = gA w 5 1 := ha 0 (asz_le w).2
  obtain ⟨b, hb, e⟩ := hy 1
  rw [f_X0_master, f_X5_master, c_a0, bd_q]
  dsimp only
  rw [clamp1, h0, e]
  by_cases q : nI b ≤ 127
  · rw [if_pos ((by128 b hb).mpr q), if_pos q]
    exact ⟨1, Or.inr rfl, rfl, rfl⟩
  · rw [if_neg (fun y => q ((by128 b hb).mp y)), if_neg q]
    exact ⟨0, Or.inl rfl, rfl, rfl⟩
theorem asz_of {z w : Sg} {k : Nat} (h : Ef z w k) : (gI z 19 = 0 ∧ asz w = 1) ∨ (gI z 19 = 1 ∧ asz w = 5) := by
  rcases h.2.1 with ⟨h1, h2⟩ | ⟨h1, h2⟩
  · left; refine ⟨h1, ?_⟩; unfold asz; rw [h2]; rfl
  · right; refine ⟨h1, ?_⟩; unfold asz; rw [h2]; rfl
theorem isB_eq {z w : Sg} {k : Nat} (h : Ef z w k) : ∃ b : Int32, (b = 0 ∨ b = 1) ∧ f_X4_isBroadcast z = (b, z) ∧ f_X5_isBroadcast w = (b, w) ∧ s_X5_isBroadcast w ∧ (b = 1 → gI z 19 = 1 ∧ gI z 20 = 11) := by
  obtain ⟨-, -, hc, ha, hy⟩ := id h
  have ms := (m_cmd w).2
  have mc := (m_cmd w).1
  rw [f_X4_isBroadcast, f_X5_isBroadcast, s_X5_isBroadcast]
  simp only [bd_q, m_as, mc, clamp1, clamp2, clamp3, clamp4, clamp5, c_station, c_kind, c_number]
  rcases asz_of h with ⟨h1, h2⟩ | ⟨h1, h2⟩
  · rw [h1, if_pos rfl, h2]
    have n5 : ¬ (nI 1 = 5) := by decide
    rw [if_neg n5]
    exact ⟨0, Or.inl rfl, rfl, rfl, ⟨fun q => absurd q n5, fun _ => trivial⟩, fun q => absurd q (by decide)⟩
  · have n0 : ¬ ((1 : Int32) = 0) := by decide
    have y5 : nI 5 = 5 := rfl
    rw [h1, if_neg n0, h2, if_pos y5]
    rw [h2] at ha hc
    have e0 : gA z 2 0 = gA w 5 1 := ha 0 (by omega)
    have e1 : gA z 2 1 = gA w 5 2 := ha 1 (by omega)
    have e2 : gA z 2 2 = gA w 5 3 := ha 2 (by omega)
    have e3 : gA z 2 3 = gA w 5 4 := ha 3 (by omega)
    have e4 : gA z 2 4 = gA w 5 5 := ha 4 (by omega)
    obtain ⟨b0, l0, f0⟩ := hy 1
    obtain ⟨b2, l2, f2⟩ := hy 3
    obtain ⟨b3, l3, f3⟩ := hy 4
    obtain ⟨b4, l4, f4⟩ := hy 5
    rw [hc, e0, e1, e2, e3, e4, f0, f2, f3, f4, num3 l2 l3 l4, ← (by63 b0 l0).1]
    have z2 : nI b2 = 0 ↔ b2 = 0 := nI_eq (b := 0) (by omega) (by omega)
    have z3 : nI b3 = 0 ↔ b3 = 0 := nI_eq (b := 0) (by omega) (by omega)
    have z4 : nI b4 = 0 ↔ b4 = 0 := nI_eq (b := 0) (by omega) (by omega)
    have zN : nI (b2 * 65536 + b3 * 256 + b4) = 0 ↔ b2 * 65536 + b3 * 256 + b4 = 0 := nI_eq (b := 0) (by omega) (by omega)
    simp only [z2, z3, z4, zN]
    have key : b2 * 65536 + b3 * 256 + b4 = 0 ↔ b2 = 0 ∧ b3 = 0 ∧ b4 = 0 := by omega
    simp only [key]
    by_cases q1 : gA w 5 (1 + 5) = 11 <;> by_cases q2 : nI b0 &&& 63 = 0 <;> by_cases q3 : gA w 5 2 = 0 <;> by_cases q4 : b2 = 0 <;> by_cases q5 : b3 = 0 <;> by_cases q6 : b4 = 0 <;> simp [q1, q2, q3, q4, q5, q6, ms]
theorem isFor_eq {z w : Sg} {k : Nat} (h : Ef z w k) (hI : Idn z w) (h10 : gI z 10 = gI w 1) : ∃ b : Int32, (b = 0 ∨ b = 1) ∧ f_X4_isForDevice z = (b, z) ∧ f_X5_isOwn w = (b, w) ∧ s_X5_isOwn w := by
  obtain ⟨bc, hbc, i1, i2, i3, -⟩ := isB_eq h
  obtain ⟨-, -, hc, ha, hy⟩ := id h
  rw [f_X4_isForDevice, f_X5_isOwn, s_X5_isOwn]
  simp only [bd_q, m_as, clamp0, clamp1, clamp2, clamp3, clamp4, clamp5, clamp11, clamp12, clamp13, clamp14, c_station, c_kind, c_number, i1, i2, i3]
  rcases asz_of h with ⟨h1, h2⟩ | ⟨h1, h2⟩
  · have y1 : nI 1 = 1 := rfl
    have e0 : gA z 2 0 = gA w 5 1 := ha 0 (by omega)
    obtain ⟨b0, l0, f0⟩ := hy 1
    rw [h1, if_pos rfl, h2, if_pos y1, e0, f0, (by63 b0 l0).1, h10]
    by_cases q : nI b0 - nI b0 / 64 * 64 = gI w 1
    · rw [if_pos q, if_pos q]
      exact ⟨1, Or.inr rfl, rfl, rfl, by simp [y1]⟩
    · rw [if_neg q, if_neg q]
      exact ⟨0, Or.inl rfl, rfl, rfl, by simp [y1]⟩
  · have n0 : ¬ ((1 : Int32) = 0) := by decide
    have n5 : ¬ (nI 5 = 1) := by decide
    rw [h1, if_neg n0, h2, if_neg n5]
    rw [h2] at ha
    have e0 : gA z 2 0 = gA w 5 1 := ha 0 (by omega)
    have e1 : gA z 2 1 = gA w 5 2 := ha 1 (by omega)
    have e2 : gA z 2 2 = gA w 5 3 := ha 2 (by omega)
    have e3 : gA z 2 3 = gA w 5 4 := ha 3 (by omega)
    have e4 : gA z 2 4 = gA w 5 5 := ha 4 (by omega)
    obtain ⟨b0, l0, f0⟩ := hy 1
    obtain ⟨b2, l2, f2⟩ := hy 3
    obtain ⟨b3, l3, f3⟩ := hy 4
    obtain ⟨b4, l4, f4⟩ := hy 5
    obtain ⟨mk, kd, N, hmk, hkd, hN, e7, d7, e8, d8, e9, d2, d3, d4⟩ := hI
    rw [e0, e1, e2, e3, e4, f0, f2, f3, f4, num3 l2 l3 l4, ← (by63 b0 l0).1, d7, d8, d2, d3, d4]
    have hl : f_X2_hasLongAddress z (nI b0 &&& 63) (gA w 5 2) (nI (b2 * 65536 + b3 * 256 + b4)) = (if nI b0 &&& 63 = nI mk then (if gA w 5 2 = nI kd then (if nI (b2 * 65536 + b3 * 256 + b4) = nI N then (1, z) else (0, z)) else (0, z)) else (0, z)) := by
      rw [f_X2_hasLongAddress, e7, e8, e9]
    rw [hl]
    have z2 : nI b2 = nI (N / 65536) ↔ b2 = N / 65536 := nI_eq (by omega) (by omega)
    have z3 : nI b3 = nI (N / 256 % 256) ↔ b3 = N / 256 % 256 := nI_eq (by omega) (by omega)
    have z4 : nI b4 = nI (N % 256) ↔ b4 = N % 256 := nI_eq (by omega) (by omega)
    have zN : nI (b2 * 65536 + b3 * 256 + b4) = nI N ↔ b2 * 65536 + b3 * 256 + b4 = N := nI_eq (by omega) (by omega)
    have key : b2 * 65536 + b3 * 256 + b4 = N ↔ b2 = N / 65536 ∧ b3 = N / 256 % 256 ∧ b4 = N % 256 := by omega
    simp only [z2, z3, z4, zN, key]
    have vp2 : vp_in 2 40 := vp_in_nI (n := 2) (by omega) (by omega)
    have vp3 : vp_in 3 40 := vp_in_nI (n := 3) (by omega) (by omega)
    have vp4 : vp_in 4 40 := vp_in_nI (n := 4) (by omega) (by omega)
    have vp5 : vp_in 5 40 := vp_in_nI (n := 5) (by omega) (by omega)
    rcases hbc with rfl | rfl <;> by_cases q2 : nI b0 &&& 63 = nI mk <;> by_cases q3 : gA w 5 2 = nI kd <;> by_cases q4 : b2 = N / 65536 <;> by_cases q5 : b3 = N / 256 % 256 <;> by_cases q6 : b4 = N % 256 <;> simp [q2, q3, q4, q5, q6, n5, vp2, vp3, vp4, vp5]
