/-! ===== Int32 by its bits: bt x i ===== -/
def bt (x : Int32) (i : Nat) : Bool := x.toBitVec.getLsbD i
theorem b_ext {x y : Int32} (h : ∀ i, i < 32 → bt x i = bt y i) : x = y := Int32.toBitVec_inj.mp (BitVec.eq_of_getLsbD_eq (fun i hi => h i hi))
theorem b_or (x y : Int32) (i : Nat) : bt (x ||| y) i = (bt x i || bt y i) := by unfold bt; rw [Int32.toBitVec_or, BitVec.getLsbD_or]
theorem b_and (x y : Int32) (i : Nat) : bt (x &&& y) i = (bt x i && bt y i) := by unfold bt; rw [Int32.toBitVec_and, BitVec.getLsbD_and]
theorem b_xor (x y : Int32) (i : Nat) : bt (x ^^^ y) i = (bt x i ^^ bt y i) := by unfold bt; rw [Int32.toBitVec_xor, BitVec.getLsbD_xor]
theorem b_big {x : Int32} {i : Nat} (h : 32 ≤ i) : bt x i = false := BitVec.getLsbD_of_ge _ _ h
theorem b_255 (i : Nat) : bt 255 i = decide (i < 8) := by
  rcases Nat.lt_or_ge i 32 with h | h
  · exact (by decide +kernel : ∀ i, i < 32 → bt 255 i = decide (i < 8)) i h
  · rw [b_big h, decide_eq_false (by omega)]
theorem b_65535 (i : Nat) : bt 65535 i = decide (i < 16) := by
  rcases Nat.lt_or_ge i 32 with h | h
  · exact (by decide +kernel : ∀ i, i < 32 → bt 65535 i = decide (i < 16)) i h
  · rw [b_big h, decide_eq_false (by omega)]
theorem b_m1 : ∀ i, i < 32 → bt (-1) i = true := by decide +kernel
theorem b_0 (i : Nat) : bt 0 i = false := BitVec.getLsbD_zero
theorem s_l : ∀ n, n < 32 → ((nI n &&& 31).toBitVec.smod 32).toNat = n := by decide +kernel
theorem s_u : ∀ n, n < 32 → (((nI n).toUInt32 &&& Int32.toUInt32 31).toBitVec % 32).toNat = n := by decide +kernel
theorem b_shl (n : Nat) (hn : n < 32) (x : Int32) {i : Nat} (hi : i < 32) : bt (x <<< (nI n &&& 31)) i = (decide (n ≤ i) && bt x (i - n)) := by
  unfold bt
  rw [Int32.toBitVec_shiftLeft]
  show (x.toBitVec <<< ((nI n &&& 31).toBitVec.smod 32).toNat).getLsbD i = _
  rw [s_l n hn, BitVec.getLsbD_shiftLeft]
  rcases Nat.lt_or_ge i n with h | h
  · simp [h, Nat.not_le.mpr h]
  · simp [hi, h, Nat.not_lt.mpr h]
theorem b_ushr (n : Nat) (hn : n < 32) (x : Int32) (i : Nat) : bt ((x.toUInt32 >>> ((nI n).toUInt32 &&& Int32.toUInt32 31)).toInt32) i = bt x (n + i) := by
  show (x.toUInt32 >>> ((nI n).toUInt32 &&& Int32.toUInt32 31)).toBitVec.getLsbD i = x.toUInt32.toBitVec.getLsbD (n + i)
  rw [UInt32.toBitVec_shiftRight]
  show (x.toUInt32.toBitVec >>> (((nI n).toUInt32 &&& Int32.toUInt32 31).toBitVec % 32).toNat).getLsbD i = _
  rw [s_u n hn, BitVec.getLsbD_ushiftRight]
theorem b_sshr (n : Nat) (hn : n < 32) (x : Int32) {i : Nat} (hi : i < 32) : bt (x >>> (nI n &&& 31)) i = if n + i < 32 then bt x (n + i) else bt x 31 := by
  unfold bt
  rw [Int32.toBitVec_shiftRight]
  show (x.toBitVec.sshiftRight ((nI n &&& 31).toBitVec.smod 32).toNat).getLsbD i = _
  rw [s_l n hn, BitVec.getLsbD_sshiftRight, BitVec.msb_eq_getLsbD_last]
  simp [hi]
theorem b_shl8 (x : Int32) {i : Nat} (hi : i < 32) : bt (x <<< ((8 : Int32) &&& 31)) i = (decide (8 ≤ i) && bt x (i - 8)) := b_shl 8 (by omega) x hi
theorem b_shl16 (x : Int32) {i : Nat} (hi : i < 32) : bt (x <<< ((16 : Int32) &&& 31)) i = (decide (16 ≤ i) && bt x (i - 16)) := b_shl 16 (by omega) x hi
theorem b_shl24 (x : Int32) {i : Nat} (hi : i < 32) : bt (x <<< ((24 : Int32) &&& 31)) i = (decide (24 ≤ i) && bt x (i - 24)) := b_shl 24 (by omega) x hi
theorem b_sshr8 (x : Int32) {i : Nat} (hi : i < 32) : bt (x >>> ((8 : Int32) &&& 31)) i = if 8 + i < 32 then bt x (8 + i) else bt x 31 := b_sshr 8 (by omega) x hi
theorem bv_sh24 (v : Int32) : (v.toUInt32 >>> (Int32.toUInt32 24 &&& Int32.toUInt32 31)).toInt32 &&& 255 = (v >>> ((24 : Int32) &&& 31)) &&& 255 := by
  apply b_ext
  intro i hi
  rw [b_and, b_and, b_255]
  have h1 := b_ushr 24 (by omega) v i
  have h2 := b_sshr 24 (by omega) v hi
  have h1 : bt ((v.toUInt32 >>> (Int32.toUInt32 24 &&& Int32.toUInt32 31)).toInt32) i = bt v (24 + i) := h1
  have h2 : bt (v >>> ((24 : Int32) &&& 31)) i = if 24 + i < 32 then bt v (24 + i) else bt v 31 := h2
  rw [h1, h2]
  by_cases h : i < 8
  · rw [if_pos (by omega)]
  · simp [h]
theorem bv_sh16 (v : Int32) : (v.toUInt32 >>> (Int32.toUInt32 16 &&& Int32.toUInt32 31)).toInt32 &&& 255 = (v >>> ((16 : Int32) &&& 31)) &&& 255 := by
  apply b_ext
  intro i hi
  rw [b_and, b_and, b_255]
  have h1 : bt ((v.toUInt32 >>> (Int32.toUInt32 16 &&& Int32.toUInt32 31)).toInt32) i = bt v (16 + i) := b_ushr 16 (by omega) v i
  have h2 : bt (v >>> ((16 : Int32) &&& 31)) i = if 16 + i < 32 then bt v (16 + i) else bt v 31 := b_sshr 16 (by omega) v hi
  rw [h1, h2]
  by_cases h : i < 8
  · rw [if_pos (by omega)]
  · simp [h]
theorem bv_sh8 (v : Int32) : (v.toUInt32 >>> (Int32.toUInt32 8 &&& Int32.toUInt32 31)).toInt32 &&& 255 = (v >>> ((8 : Int32) &&& 31)) &&& 255 := by
  apply b_ext
  intro i hi
  rw [b_and, b_and, b_255]
  have h1 : bt ((v.toUInt32 >>> (Int32.toUInt32 8 &&& Int32.toUInt32 31)).toInt32) i = bt v (8 + i) := b_ushr 8 (by omega) v i
  have h2 : bt (v >>> ((8 : Int32) &&& 31)) i = if 8 + i < 32 then bt v (8 + i) else bt v 31 := b_sshr 8 (by omega) v hi
  rw [h1, h2]
  by_cases h : i < 8
  · rw [if_pos (by omega)]
  · simp [h]
theorem xor_self0 (x : Int32) : x ^^^ x = 0 := by
  apply b_ext
  intro i hi
  rw [b_xor, b_0]
  simp
theorem xor_assoc' (x y v : Int32) : (x ^^^ y) ^^^ v = x ^^^ (y ^^^ v) := by
  apply b_ext
  intro i hi
  simp [b_xor]
theorem xor_zero' (x : Int32) : x ^^^ 0 = x := by
  apply b_ext
  intro i hi
  simp [b_xor, b_0]
theorem zero_xor' (x : Int32) : 0 ^^^ x = x := by
  apply b_ext
  intro i hi
  simp [b_xor, b_0]
theorem xor_eq0 {x y : Int32} : x ^^^ y = 0 ↔ y = x := by
  constructor
  · intro h
    have h1 : x ^^^ (x ^^^ y) = x ^^^ 0 := by rw [h]
    rw [← xor_assoc', xor_self0, zero_xor', xor_zero'] at h1
    exact h1
  · intro h
    rw [h, xor_self0]
/-! the frame that is being written: the class's state Zc, the reference's Wc -/
def Zc (z : Sg) (n cp : Int32) (row : Nat → Int32) : Sg := (fun k => if k = 27 then n else if k = 28 then 0 else if k = 29 then cp else if k = 30 then 0 else z.1 k, z.2.1, fun r => if r = 4 then row else z.2.2 r)
def Wc (w : Sg) (n : Int32) (fr : Int64) (row : Nat → Int32) : Sg := (fun k => if k = 11 then n else w.1 k, fun k => if k = 0 then fr else w.2.1 k, fun r => if r = 6 then row else w.2.2 r)
theorem add_Zc (z : Sg) (cp : Int32) (row : Nat → Int32) (b : Int32) {n : Nat} (h : n < 36) : f_X1_add (Zc z (nI n) cp row) b = Zc z (nI (n + 1)) cp (upd row n (b &&& 255)) := by
  unfold f_X1_add bd
  have h1 : gI (Zc z (nI n) cp row) 27 = nI n := rfl
  have h36 : (36 : Int32) = nI 36 := rfl
  rw [h1, if_neg (nI_pos (by omega)), h36, if_neg (nI_ge h (by omega)), nI_clamp (by omega)]
  refine Prod.ext (funext fun k => ?_) (Prod.ext rfl (funext fun r => ?_))
  · show upd (Zc z (nI n) cp row).1 27 (nI n + 1) k = (Zc z (nI (n + 1)) cp (upd row n (b &&& 255))).1 k
    by_cases hk : k = 27
    · subst hk; simp [upd, Zc, nI_1]
    · simp [upd, Zc, hk]
  · show (if r = 4 then upd row n (b &&& 255) else (if r = 4 then row else z.2.2 r)) = if r = 4 then upd row n (b &&& 255) else z.2.2 r
    by_cases hr : r = 4 <;> simp [hr]
theorem put_Wc (w : Sg) (fr : Int64) (row : Nat → Int32) (b : Int32) {n : Nat} (h : n < 64) : f_X5_put (Wc w (nI n) fr row) b = Wc w (nI (n + 1)) fr (upd row n (b &&& 255)) := by
  unfold f_X5_put bd
  have h1 : gI (Wc w (nI n) fr row) 11 = nI n := rfl
  rw [h1, nI_clamp (by omega)]
  refine Prod.ext (funext fun k => ?_) (Prod.ext rfl (funext fun r => ?_))
  · show upd (Wc w (nI n) fr row).1 11 (nI n + 1) k = (Wc w (nI (n + 1)) fr (upd row n (b &&& 255))).1 k
    by_cases hk : k = 11
    · subst hk; simp [upd, Wc, nI_1]
    · simp [upd, Wc, hk]
  · show (if r = 6 then upd row n (b &&& 255) else (if r = 6 then row else w.2.2 r)) = if r = 6 then upd row n (b &&& 255) else w.2.2 r
    by_cases hr : r = 6 <;> simp [hr]
theorem sput_Wc (w : Sg) (fr : Int64) (row : Nat → Int32) (b : Int32) {n : Nat} (h : n < 64) : s_X5_put (Wc w (nI n) fr row) b := ⟨vp_in_nI h (by omega), trivial⟩
/-- four bytes more, the highest first -/
def ap4 (row : Nat → Int32) (n : Nat) (v : Int32) : Nat → Int32 := upd (upd (upd (upd row n ((v >>> (24 &&& 31)) &&& 255)) (n + 1) ((v >>> (16 &&& 31)) &&& 255)) (n + 2) ((v >>> (8 &&& 31)) &&& 255)) (n + 3) (v &&& 255)
theorem add4_Zc (z : Sg) (cp : Int32) (row : Nat → Int32) (v : Int32) {n : Nat} (h : n + 3 < 36) : f_X1_addFour (Zc z (nI n) cp row) v = Zc z (nI (n + 4)) cp (ap4 row n v) := by
  simp only [f_X1_addFour, bd]
  rw [add_Zc _ _ _ _ (by omega), add_Zc _ _ _ _ (by omega), add_Zc _ _ _ _ (by omega), add_Zc _ _ _ _ (by omega), bv_sh24, bv_sh16, bv_sh8]
  rfl
theorem put4_Wc (w : Sg) (fr : Int64) (row : Nat → Int32) (v : Int32) {n : Nat} (h : n + 3 < 64) : f_X5_putWord (Wc w (nI n) fr row) v = Wc w (nI (n + 4)) fr (ap4 row n v) := by
  simp only [f_X5_putWord, bd]
  rw [put_Wc _ _ _ _ (by omega), put_Wc _ _ _ _ (by omega), put_Wc _ _ _ _ (by omega), put_Wc _ _ _ _ (by omega)]
  rfl
theorem sput4_Wc (w : Sg) (fr : Int64) (row : Nat → Int32) (v : Int32) {n : Nat} (h : n + 3 < 64) : s_X5_putWord (Wc w (nI n) fr row) v := by
  simp only [s_X5_putWord, bd]
  rw [put_Wc _ _ _ _ (by omega), put_Wc _ _ _ _ (by omega), put_Wc _ _ _ _ (by omega)]
  exact ⟨sput_Wc _ _ _ _ (by omega), sput_Wc _ _ _ _ (by omega), sput_Wc _ _ _ _ (by omega), sput_Wc _ _ _ _ (by omega), trivial⟩
/-- the loop that xors a row from k on, j places -/
def xg (row : Nat → Int32) : Int32 → Nat → Nat → Int32
  | y, _, 0 => y
  | y, k, j + 1 => xg row (y ^^^ row k) (k + 1) j
theorem end43_Zc (z : Sg) (cp : Int32) (row : Nat → Int32) {n : Nat} (hn : n ≤ 36) : ∀ (j m k : Nat) (y : Int32), k + j = n → j < m → f_X1_end_43 m (Zc z (nI n) cp row) y (nI k) = f_X1_add (Zc z (nI n) cp row) (xg row y k j) ∧ s_X1_end_43 m (Zc z (nI n) cp row) y (nI k) := by
  intro j
  induction j with
  | zero =>
    intro m k y hk hm
    obtain ⟨m, rfl⟩ : ∃ m', m = m' + 1 := ⟨m - 1, by omega⟩
    have h1 : gI (Zc z (nI n) cp row) 27 = nI n := rfl
    have h2 : nI n ≤ nI k := nI_le (by omega) (by omega)
    rw [f_X1_end_43, s_X1_end_43, h1]
    refine ⟨?_, fun _ => trivial, fun h => absurd h2 h⟩
    rw [if_pos h2]
    rfl
  | succ j ih =>
    intro m k y hk hm
    obtain ⟨m, rfl⟩ : ∃ m', m = m' + 1 := ⟨m - 1, by omega⟩
    have h1 : gI (Zc z (nI n) cp row) 27 = nI n := rfl
    have h2 : ¬ nI n ≤ nI k := nI_ge (by omega) (by omega)
    have h3 : ¬ (36 : Int32) ≤ nI k := nI_ge (b := 36) (by omega) (by omega)
    have h4 : gA (Zc z (nI n) cp row) 4 (Int32.toNatClampNeg (nI k)) = row k := by rw [nI_clamp (by omega)]; rfl
    have h5 := ih m (k + 1) (y ^^^ row k) (by omega) (by omega)
    rw [f_X1_end_43, s_X1_end_43, h1, if_neg h2, if_neg h3, h4, nI_1]
    unfold bd
    exact ⟨h5.1, fun h => absurd h h2, fun _ => ⟨fun h => absurd h h3, fun _ => ⟨vp_in_nI (by omega) (by omega), h5.2⟩⟩⟩
theorem send192_Wc (w : Sg) (fr : Int64) (row : Nat → Int32) {n : Nat} (hn : n < 64) : ∀ (j m k : Nat) (y : Int32), k + j = n → j < m → f_X5_send_192 m (Wc w (nI n) fr row) y (nI k) = f_X5_put (Wc w (nI n) fr row) (xg row y k j) ∧ s_X5_send_192 m (Wc w (nI n) fr row) y (nI k) := by
  intro j
  induction j with
  | zero =>
    intro m k y hk hm
    obtain ⟨m, rfl⟩ : ∃ m', m = m' + 1 := ⟨m - 1, by omega⟩
    have h1 : gI (Wc w (nI n) fr row) 11 = nI n := rfl
    have h2 : nI n ≤ nI k := nI_le (by omega) (by omega)
    rw [f_X5_send_192, s_X5_send_192, h1]
    refine ⟨?_, fun _ => ⟨sput_Wc _ _ _ _ (by omega), trivial⟩, fun h => absurd h2 h⟩
    rw [if_pos h2]
    rfl
  | succ j ih =>
    intro m k y hk hm
    obtain ⟨m, rfl⟩ : ∃ m', m = m' + 1 := ⟨m - 1, by omega⟩
    have h1 : gI (Wc w (nI n) fr row) 11 = nI n := rfl
    have h2 : ¬ nI n ≤ nI k := nI_ge (by omega) (by omega)
    have h4 : gA (Wc w (nI n) fr row) 6 (Int32.toNatClampNeg (nI k)) = row k := by rw [nI_clamp (by omega)]; rfl
    have h5 := ih m (k + 1) (y ^^^ row k) (by omega) (by omega)
    rw [f_X5_send_192, s_X5_send_192, h1, if_neg h2, h4, nI_1]
    unfold bd
    exact ⟨h5.1, fun h => absurd h h2, fun _ => ⟨vp_in_nI (by omega) (by omega), h5.2⟩⟩
