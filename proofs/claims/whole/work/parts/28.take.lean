/-! bytes that come, on both sides -/
def xf (f : Nat → Int32) : Nat → Int32
  | 0 => 0
  | n + 1 => xf f n ^^^ f n
theorem xf_upd (f : Nat → Int32) (i : Nat) (v : Int32) : ∀ n, n ≤ i → xf (upd f i v) n = xf f n := by
  intro n
  induction n with
  | zero => intro _; rfl
  | succ n ih =>
    intro h
    show xf (upd f i v) n ^^^ upd f i v n = xf f n ^^^ f n
    rw [ih (by omega), pk_un (by omega)]
theorem xf_next (f : Nat → Int32) (c : Nat) (v : Int32) : xf (upd f c v) (c + 1) = xf f c ^^^ v := by
  show xf (upd f c v) c ^^^ upd f c v c = _
  rw [xf_upd f c v c (by omega), pk_us]
def Mk (z w : Sg) : Prop := (gI z 19 = 0 ∧ gA w 5 0 = 2) ∨ (gI z 19 = 1 ∧ gA w 5 0 = 130)
def Ad (z w : Sg) (n : Nat) : Prop := ∀ j, j < n → gA z 2 j = gA w 5 (1 + j)
def Rw (t : Nat) (z w : Sg) : Prop := gI z 23 = 0 ∧ gI w 10 = 0 ∧ ∃ p : Nat, p ≤ t ∧ gI w 9 = nI p ∧ gI z 24 = nI (min p 3)
def Ri (z w : Sg) (c : Nat) : Prop := gI w 9 = 0 ∧ gI z 24 = 0 ∧ Mk z w ∧ gI w 10 = nI c ∧ gI z 26 = xf (gA w 5) c
def P1 (z w : Sg) : Prop := gI z 23 = 1 ∧ ∃ a, a < asz w ∧ Ri z w (1 + a) ∧ gI z 25 = nI a ∧ Ad z w a
def P2 (z w : Sg) : Prop := gI z 23 = 2 ∧ Ri z w (1 + asz w) ∧ Ad z w (asz w)
def P3 (z w : Sg) : Prop := gI z 23 = 3 ∧ Ri z w (2 + asz w) ∧ Ad z w (asz w) ∧ gI z 20 = gA w 5 (1 + asz w)
def P4 (z w : Sg) : Prop := gI z 23 = 4 ∧ ∃ k a, k ≤ 20 ∧ a < k ∧ Ri z w (3 + asz w + a) ∧ Ad z w (asz w) ∧ gI z 20 = gA w 5 (1 + asz w) ∧ gI z 21 = nI k ∧ gA w 5 (2 + asz w) = nI k ∧ gI z 25 = nI a ∧ ∀ j, j < a → gA z 3 j = gA w 5 (3 + asz w + j)
def P5 (z w : Sg) : Prop := gI z 23 = 5 ∧ ∃ k, Ri z w (3 + asz w + k) ∧ Ad z w (asz w) ∧ gI z 20 = gA w 5 (1 + asz w) ∧ Ec z w k
def Rd (t : Nat) (z w : Sg) : Prop := By w ∧ (Rw t z w ∨ P1 z w ∨ P2 z w ∨ P3 z w ∨ P4 z w ∨ P5 z w)
def Fz (z' z : Sg) : Prop := (∀ k, k ∉ [19, 20, 21, 22, 23, 24, 25, 26] → gI z' k = gI z k) ∧ (∀ r, r ∉ [2, 3] → gA z' r = gA z r)
def Fw (w' w : Sg) : Prop := (∀ k, k ∉ [9, 10] → gI w' k = gI w k) ∧ (∀ k, gL w' k = gL w k) ∧ (∀ r, r ≠ 5 → gA w' r = gA w r)
theorem by_upd {w : Sg} (h : By w) {b : Nat} (hb : b < 256) (c : Nat) : ∀ j, ∃ q : Nat, q < 256 ∧ upd (gA w 5) c (nI b) j = nI q := by
  intro j
  by_cases e : j = c
  · subst e; rw [pk_us]; exact ⟨b, hb, rfl⟩
  · rw [pk_un e]; exact h j
/-- the reference keeps a byte within a frame -/
def w1 (w : Sg) (c : Nat) (b : Int32) : Sg := pI (pA w 5 c b) 10 (nI (c + 1))
theorem w1_row (w : Sg) (c : Nat) (b : Int32) : gA (w1 w c b) 5 = upd (gA w 5) c b := rfl
theorem w1_as (w : Sg) {c : Nat} (h : 1 ≤ c) (b : Int32) : asz (w1 w c b) = asz w := by
  unfold asz
  rw [w1_row, pk_un (show (0 : Nat) ≠ c by omega)]
theorem w1_F (w : Sg) (c : Nat) (b : Int32) : Fw (w1 w c b) w := ⟨fun k hk => by simp only [List.mem_cons, List.not_mem_nil, or_false, not_or] at hk; simp [w1, gI, pI, pA, upd, hk], fun k => rfl, fun r hr => by simp [w1, gA, pI, pA, hr]⟩
theorem k122 (w : Sg) (y : Int32) : f_X5_keep_122 w y = (if gI w 10 ≤ y then (0, w) else (if gI w 10 = (y + gA w 5 (2 + asz w)) + 1 then (1, w) else (0, w))) ∧ s_X5_keep_122 w y := by
  rw [f_X5_keep_122, s_X5_keep_122]
  simp only [bd_q, (m_cnt w).1]
  exact ⟨trivial, fun _ => trivial, fun _ => ⟨(m_cnt w).2, trivial⟩⟩
theorem keep_in (w : Sg) {c : Nat} (h1 : 1 ≤ c) (h2 : c ≤ 38) (hc : gI w 10 = nI c) (b : Int32) : f_X5_keep w b = (if nI (c + 1) = nI (3 + asz w) then (if gA (w1 w c b) 5 (2 + asz w) ≤ 20 then f_X5_keep_122 (w1 w c b) (nI (3 + asz w)) else (0, pI (pI (w1 w c b) 9 0) 10 0)) else f_X5_keep_122 (w1 w c b) (nI (3 + asz w))) ∧ s_X5_keep w b := by
  have n0 : ¬ nI c = 0 := nI_ne0 (by omega) (by omega)
  have e1 : gI (pA w 5 c b) 10 = nI c := hc
  have e2 : pI (pA w 5 c b) 10 (nI (c + 1)) = w1 w c b := rfl
  have e3 : gI (w1 w c b) 10 = nI (c + 1) := rfl
  have e4 : (3 : Int32) + nI (asz w) = nI (3 + asz w) := nI_add 3 (asz w)
  have m1 := m_cnt (w1 w c b)
  rw [w1_as w h1] at m1
  rw [f_X5_keep, s_X5_keep, hc, if_neg n0]
  simp only [bd_q, f_X5_forget, nI_clamp (show c < 2 ^ 31 by omega), e1, nI_1, e2, m_as, w1_as w h1, e3, e4, m1.1]
  exact ⟨trivial, fun q => absurd q n0, fun _ => ⟨vp_in_nI (by omega) (by omega), fun _ => ⟨m1.2, fun _ => (k122 _ _).2, fun _ => trivial⟩, fun _ => (k122 _ _).2⟩⟩
/-- before the count is there: nothing ends -/
theorem keep_lo (w : Sg) {c : Nat} (h1 : 1 ≤ c) (h2 : c + 1 < 3 + asz w) (hc : gI w 10 = nI c) (b : Int32) : f_X5_keep w b = (0, w1 w c b) ∧ s_X5_keep w b := by
  have ha := asz_le w
  obtain ⟨i1, i2⟩ := keep_in w h1 (by omega) hc b
  have n1 : ¬ nI (c + 1) = nI (3 + asz w) := fun q => by have := (nI_eq (by omega) (by omega)).mp q; omega
  have e3 : gI (w1 w c b) 10 = nI (c + 1) := rfl
  rw [i1, if_neg n1, (k122 _ _).1, e3, if_pos (nI_le (by omega) (by omega))]
  exact ⟨rfl, i2⟩
def Tk (t : Nat) (z w : Sg) (b : Int32) : Prop := ∃ (r : Int32) (z' w' : Sg), f_X0_take z b = (r, z') ∧ f_X5_keep w b = (r, w') ∧ s_X5_keep w b ∧ Fz z' z ∧ Fw w' w ∧ ((r = 0 ∧ Rd (t + 1) z' w') ∨ (r = 1 ∧ gI z' 23 = 0 ∧ gI z' 24 = 0 ∧ ∃ k c, Ef z' w' k ∧ gI w' 10 = nI c ∧ c ≤ 30 ∧ gI z' 22 = (if xf (gA w' 5) c = 0 then 1 else 0)))
theorem fz_s (z : Sg) (l : List (Nat × Int32)) (hl : ∀ q ∈ l, q.1 ∈ [19, 20, 21, 22, 23, 24, 25, 26]) : Fz (l.foldl (fun u q => pI u q.1 q.2) z) z := by
  induction l generalizing z with
  | nil => exact ⟨fun _ _ => rfl, fun _ _ => rfl⟩
  | cons q l ih =>
    obtain ⟨i1, i2⟩ := ih (pI z q.1 q.2) (fun y hy => hl y (List.mem_cons_of_mem _ hy))
    refine ⟨fun k hk => ?_, fun r hr => ?_⟩
    · have h1 : k ≠ q.1 := fun e => hk (by rw [e]; exact hl q List.mem_cons_self)
      exact (i1 k hk).trans (by simp [gI, pI, upd, h1])
    · exact (i2 r hr).trans rfl
theorem fz_t {z z1 z2 : Sg} (h1 : Fz z1 z) (h2 : Fz z2 z1) : Fz z2 z := ⟨fun k hk => (h2.1 k hk).trans (h1.1 k hk), fun r hr => (h2.2 r hr).trans (h1.2 r hr)⟩
theorem fz_i (z : Sg) {k : Nat} (v : Int32) (hk : k ∈ [19, 20, 21, 22, 23, 24, 25, 26]) : Fz (pI z k v) z := fz_s z [(k, v)] (by simpa using hk)
theorem fz_a (z : Sg) {r : Nat} (i : Nat) (v : Int32) (hr : r = 2 ∨ r = 3) : Fz (pA z r i v) z := by
  refine ⟨fun _ _ => rfl, fun q hq => ?_⟩
  simp only [List.mem_cons, List.not_mem_nil, or_false, not_or] at hq
  have : ¬ q = r := by rcases hr with rfl | rfl; exact hq.1; exact hq.2
  simp [gA, pA, this]
theorem tk1 {t : Nat} {z w : Sg} {b : Nat} (hy : By w) (hb : b < 256) (h : P1 z w) : Tk t z w (nI b) := by
  obtain ⟨p, a, ha, ⟨r9, r24, rm, r10, r26⟩, r25, hA⟩ := h
  have hL := asz_le w
  obtain ⟨k1, k2⟩ := keep_lo w (c := 1 + a) (by omega) (by omega) r10 (nI b)
  have n5 : ¬ gI z 23 = 5 := by rw [p]; decide
  have e23 : ∀ x, gI (pI z 26 x) 23 = 1 := fun _ => p
  have e25 : ∀ x, gI (pI z 26 x) 25 = nI a := fun _ => r25
  have a5 : a < 5 := by omega
  have m0 : ¬ nI a < 0 := nI_pos (by omega)
  have m5 : ¬ (5 : Int32) ≤ nI a := nI_ge (b := 5) (by omega) (by omega)
  have e25b : ∀ x, gI (pA (pI z 26 x) 2 a (nI b)) 25 = nI a := fun _ => r25
  have hLz : (gI z 19 = 0 ∧ asz w = 1) ∨ (gI z 19 = 1 ∧ asz w = 5) := by
    rcases rm with ⟨h1, h2⟩ | ⟨h1, h2⟩
    · left; exact ⟨h1, by unfold asz; rw [h2]; rfl⟩
    · right; exact ⟨h1, by unfold asz; rw [h2]; rfl⟩
  have e19 : ∀ x, gI (pI (pA (pI z 26 x) 2 a (nI b)) 25 (nI (a + 1))) 19 = gI z 19 := fun _ => rfl
  have e25c : ∀ x, gI (pI (pA (pI z 26 x) 2 a (nI b)) 25 (nI (a + 1))) 25 = nI (a + 1) := fun _ => rfl
  -- the class
  have hc : f_X0_take z (nI b) = (0, if a + 1 < asz w then pI (pA (pI z 26 (gI z 26 ^^^ nI b)) 2 a (nI b)) 25 (nI (a + 1)) else pI (pI (pA (pI z 26 (gI z 26 ^^^ nI b)) 2 a (nI b)) 25 (nI (a + 1))) 23 2) := by
    rw [f_X0_take, if_neg n5]
    simp only [bd_q]
    rw [e23, if_pos rfl, f_X0_takeAddress, e25, if_neg m0, if_neg m5, nI_clamp (by omega), bd_q, f_X0_takeAddress_29, bd_q, e25b, nI_1, e19, e25c]
    simp only [f_X0_takeAddress_55, bd_q]
    rcases hLz with ⟨h1, h2⟩ | ⟨h1, h2⟩
    · rw [h1, if_pos rfl, if_neg (show ¬ nI (a + 1) < 1 from nI_nlt (b := 1) (by omega) (by omega)), if_neg (by omega)]
    · rw [h1, if_neg (show ¬ ((1 : Int32) = 0) by decide)]
      by_cases q : a + 1 < asz w
      · rw [if_pos (show nI (a + 1) < 5 from nI_lt (b := 5) (by omega) (by omega)), if_pos q]
      · rw [if_neg (show ¬ nI (a + 1) < 5 from nI_nlt (b := 5) (by omega) (by omega)), if_neg q]
  have was := w1_as w (show 1 ≤ 1 + a by omega) (nI b)
  have rm' : ∀ z', gI z' 19 = gI z 19 → Mk z' (w1 w (1 + a) (nI b)) := by
    intro z' hz
    unfold Mk
    rw [hz, w1_row, pk_un (show (0 : Nat) ≠ 1 + a by omega)]
    exact rm
  have rx : gI z 26 ^^^ nI b = xf (gA (w1 w (1 + a) (nI b)) 5) (1 + a + 1) := by rw [w1_row, xf_next, r26]
  have hA' : ∀ j, j < a + 1 → upd (gA z 2) a (nI b) j = gA (w1 w (1 + a) (nI b)) 5 (1 + j) := by
    intro j hj
    rw [w1_row]
    by_cases q : j = a
    · subst q; rw [pk_us, pk_us]
    · rw [pk_un q, pk_un (by omega)]; exact hA j (by omega)
  have hby : By (w1 w (1 + a) (nI b)) := by_upd hy hb _
  refine ⟨0, _, _, hc, k1, k2, ?_, w1_F _ _ _, Or.inl ⟨rfl, hby, ?_⟩⟩
  · by_cases q : a + 1 < asz w
    · rw [if_pos q]
      exact fz_t (fz_t (fz_i z _ (by decide)) (fz_a _ _ _ (Or.inl rfl))) (fz_i _ _ (by decide))
    · rw [if_neg q]
      exact fz_t (fz_t (fz_t (fz_i z _ (by decide)) (fz_a _ _ _ (Or.inl rfl))) (fz_i _ _ (by decide))) (fz_i _ _ (by decide))
  · by_cases q : a + 1 < asz w
    · rw [if_pos q]
      refine Or.inr (Or.inl ⟨p, a + 1, by rw [was]; exact q, ⟨r9, r24, rm' _ rfl, ?_, ?_⟩, rfl, hA'⟩)
      · show nI (1 + a + 1) = nI (1 + (a + 1)); rw [show 1 + a + 1 = 1 + (a + 1) by omega]
      · show gI z 26 ^^^ nI b = _; rw [rx, show 1 + a + 1 = 1 + (a + 1) by omega]
    · rw [if_neg q]
      have q2 : asz w = a + 1 := by omega
      refine Or.inr (Or.inr (Or.inl ⟨rfl, ⟨r9, r24, rm' _ rfl, ?_, ?_⟩, ?_⟩))
      · rw [was, q2]; show nI (1 + a + 1) = nI (1 + (a + 1)); rw [show 1 + a + 1 = 1 + (a + 1) by omega]
      · rw [was, q2]; show gI z 26 ^^^ nI b = _; rw [rx, show 1 + a + 1 = 1 + (a + 1) by omega]
      · rw [was, q2]; exact hA'
