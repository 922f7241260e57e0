/-! a whole frame is written alike -/
theorem zc0 (z : Sg) : pI (pI (pI z 27 0) 28 0) 30 0 = Zc z (nI 0) (gI z 29) (gA z 4) := by
  refine Prod.ext (funext fun k => ?_) (Prod.ext rfl (funext fun r => ?_))
  · show upd (upd (upd z.1 27 0) 28 0) 30 0 k = if k = 27 then 0 else if k = 28 then 0 else if k = 29 then z.1 29 else if k = 30 then 0 else z.1 k
    unfold upd
    by_cases h1 : k = 27
    · subst h1; rfl
    · by_cases h2 : k = 28
      · subst h2; rfl
      · by_cases h3 : k = 29
        · subst h3; rfl
        · by_cases h4 : k = 30
          · subst h4; rfl
          · simp [h1, h2, h3, h4]
  · show z.2.2 r = if r = 4 then z.2.2 4 else z.2.2 r
    by_cases h : r = 4
    · rw [if_pos h, h]
    · rw [if_neg h]
theorem wc0 (w : Sg) (fr : Int64) : pL (pI w 11 0) 0 fr = Wc w (nI 0) fr (gA w 6) := by
  refine Prod.ext (funext fun k => ?_) (Prod.ext (funext fun k => ?_) (funext fun r => ?_))
  · show upd w.1 11 0 k = if k = 11 then 0 else w.1 k
    rfl
  · show vp_updL w.2.1 0 fr k = if k = 0 then fr else w.2.1 k
    rfl
  · show w.2.2 r = if r = 6 then w.2.2 6 else w.2.2 r
    by_cases h : r = 6
    · rw [if_pos h, h]
    · rw [if_neg h]
theorem zc29 (z : Sg) (n cp q : Int32) (row : Nat → Int32) : pI (Zc z n cp row) 29 q = Zc z n q row := by
  refine Prod.ext (funext fun k => ?_) rfl
  show upd (fun k => if k = 27 then n else if k = 28 then 0 else if k = 29 then cp else if k = 30 then 0 else z.1 k) 29 q k = if k = 27 then n else if k = 28 then 0 else if k = 29 then q else if k = 30 then 0 else z.1 k
  unfold upd
  by_cases h : k = 29
  · subst h; rfl
  · simp [h]
theorem bc_Zc (z : Sg) (cp : Int32) (row : Nat → Int32) {n : Nat} (h : n < 36) : f_X1_beginCount (Zc z (nI n) cp row) = Zc z (nI (n + 1)) (nI n) (upd row n (0 &&& 255)) := by
  rw [f_X1_beginCount]
  simp only [bd_q]
  rw [show gI (Zc z (nI n) cp row) 27 = nI n from rfl, zc29, add_Zc _ _ _ _ h]
theorem za4 (z : Sg) (n cp v : Int32) (row : Nat → Int32) (i : Nat) : pA (Zc z n cp row) 4 i v = Zc z n cp (upd row i v) := by
  refine Prod.ext rfl (Prod.ext rfl (funext fun r => ?_))
  show (if r = 4 then upd row i v else (if r = 4 then row else z.2.2 r)) = if r = 4 then upd row i v else z.2.2 r
  by_cases hr : r = 4 <;> simp [hr]
theorem wa6 (w : Sg) (n v : Int32) (fr : Int64) (row : Nat → Int32) (i : Nat) : pA (Wc w n fr row) 6 i v = Wc w n fr (upd row i v) := by
  refine Prod.ext rfl (Prod.ext rfl (funext fun r => ?_))
  show (if r = 6 then upd row i v else (if r = 6 then row else w.2.2 r)) = if r = 6 then upd row i v else w.2.2 r
  by_cases hr : r = 6 <;> simp [hr]
theorem end_eq (z w : Sg) (fr : Int64) (row : Nat → Int32) {n c : Nat} (hn : n ≤ 35) (h5 : 5 ≤ n) (hc : c < 36) (hcn : c < n) : ∃ row', f_X1_end (Zc z (nI n) (nI c) row) = Zc z (nI (n + 1)) (nI c) row' ∧ s_X1_end (Zc z (nI n) (nI c) row) ∧ f_X5_send_170 (Wc w (nI n) fr row) (nI c) = Wc w (nI (n + 1)) fr row' ∧ s_X5_send_170 (Wc w (nI n) fr row) (nI c) ∧ (Ro row → Ro row') := by
  have g29 : gI (Zc z (nI n) (nI c) row) 29 = nI c := rfl
  have g27 : gI (Zc z (nI n) (nI c) row) 27 = nI n := rfl
  have m11 : gI (Wc w (nI n) fr row) 11 = nI n := rfl
  have a1 : ¬ nI c < 0 := nI_pos (by omega)
  have a2 : ¬ (36 : Int32) ≤ nI c := nI_ge (b := 36) (by omega) (by omega)
  obtain ⟨e1, e2⟩ := end43_Zc z (nI c) (upd row c (nI n - nI c - 1)) (n := n) (by omega) (n - 5) 64 5 0 (by omega) (by omega)
  obtain ⟨d1, d2⟩ := send192_Wc w fr (upd row c (nI n - nI c - 1)) (n := n) (by omega) (n - 5) 64 5 0 (by omega) (by omega)
  rw [f_X1_end, s_X1_end, f_X5_send_170, s_X5_send_170]
  simp only [bd_q]
  rw [g29, g27, m11, nI_clamp (by omega), za4, wa6, if_neg a1, if_neg a2, f_X1_end_39, s_X1_end_39]
  exact ⟨_, e1.trans (add_Zc _ _ _ _ (by omega)), ⟨fun h => absurd h a1, fun _ => ⟨fun h => absurd h a2, fun _ => e2⟩⟩, d1.trans (put_Wc _ _ _ _ (by omega)), ⟨vp_in_nI (by omega) (by omega), d2⟩, fun h => ro_u (ro_c h hcn (by omega)) _ _⟩
def ctail (z23 : Sg) (y2 y3 y4 : Int32) : Sg := bd (f_X1_add z23 y3) (fun z24 => bd (f_X1_beginCount z24) (fun z25 => bd (f_X1_add z25 y4) (fun z26 => bd (f_X2_statusFor z26 y2) (fun r27 => bd (f_X1_add r27.2 r27.1) (fun z28 => (if y4 = 0 then bd (f_X4_addData z28 y3) (fun z33 => bd (f_X1_end z33) (fun z35 => z35)) else bd (f_X1_end z28) (fun z31 => z31)))))))
def stail (z23 : Sg) (y2 y3 y4 : Int32) : Prop := bd (f_X1_add z23 y3) (fun z24 => bd (f_X1_beginCount z24) (fun z25 => bd (f_X1_add z25 y4) (fun z26 => bd (f_X2_statusFor z26 y2) (fun r27 => bd (f_X1_add r27.2 r27.1) (fun z28 => (y4 = 0 → (s_X4_addData z28 y3) ∧ bd (f_X4_addData z28 y3) (fun z33 => (s_X1_end z33) ∧ True)) ∧ (¬ y4 = 0 → (s_X1_end z28) ∧ True))))))
theorem comp20a (z : Sg) (y2 y3 y4 k1 : Int32) : f_X4_compose_20 z y2 y3 y4 k1 = ctail (f_X4_addAddress z k1 y2) y2 y3 y4 := by
  rw [f_X4_compose_20]
  exact bd_q _ _
theorem comp20b (z : Sg) (y2 y3 y4 k1 : Int32) : s_X4_compose_20 z y2 y3 y4 k1 = stail (f_X4_addAddress z k1 y2) y2 y3 y4 := by
  rw [s_X4_compose_20]
  exact bd_q _ _
theorem tail_eq {z w : Sg} (hC : Cm z w) {mm c cd : Int32} (hm : mm = 0 ∨ mm = 1) (hcd : cd = 0 → Dt z w c) (cp : Int32) (row : Nat → Int32) (fr : Int64) {n : Nat} (hn : n ≤ 11) (h5 : 5 ≤ n) : ∃ (N : Nat) (cp' : Int32) (row' : Nat → Int32), 0 < N ∧ N ≤ 36 ∧ ctail (Zc z (nI n) cp row) mm c cd = Zc z (nI N) cp' row' ∧ stail (Zc z (nI n) cp row) mm c cd ∧ f_X5_send_129 (Wc w (nI n) fr row) mm c cd = Wc w (nI N) fr row' ∧ s_X5_send_129 (Wc w (nI n) fr row) mm c cd ∧ (Ro row → Ro row') := by
  obtain ⟨st, i1, i2, i3⟩ := status_eq hC (nI (n + 1 + 1 + 1)) (nI (n + 1)) (upd (upd (upd row n (c &&& 255)) (n + 1) (0 &&& 255)) (n + 1 + 1) (cd &&& 255)) fr hm
  have m11 : ∀ q f r, gI (Wc w q f r) 11 = q := fun _ _ _ => rfl
  rw [ctail, stail, f_X5_send_129, s_X5_send_129]
  simp only [bd_q]
  rw [add_Zc _ _ _ _ (by omega), bc_Zc _ _ _ (by omega), add_Zc _ _ _ _ (by omega), i1]
  rw [put_Wc _ _ _ _ (by omega), m11, put_Wc _ _ _ _ (by omega), put_Wc _ _ _ _ (by omega), i2]
  dsimp only
  rw [add_Zc _ _ _ _ (by omega), put_Wc _ _ _ _ (by omega)]
  by_cases hc : cd = 0
  · obtain ⟨d, r2, hd, j1, j2, j3, j4, j5⟩ := data_eq hC (nI (n + 1)) (upd (upd (upd (upd row n (c &&& 255)) (n + 1) (0 &&& 255)) (n + 1 + 1) (cd &&& 255)) (n + 1 + 1 + 1) (st &&& 255)) fr (hcd hc) (n := n + 1 + 1 + 1 + 1) (by omega)
    obtain ⟨r3, k1, k2, k3, k4, k5⟩ := end_eq z w fr r2 (n := n + 1 + 1 + 1 + 1 + d) (c := n + 1) (by omega) (by omega) (by omega) (by omega)
    rw [if_pos hc, if_pos hc, j1, j3, k1, k3]
    exact ⟨n + 1 + 1 + 1 + 1 + d + 1, _, r3, by omega, by omega, rfl, ⟨fun _ => ⟨j2, k2, trivial⟩, fun h => absurd hc h⟩, rfl, ⟨sput_Wc _ _ _ _ (by omega), sput_Wc _ _ _ _ (by omega), sput_Wc _ _ _ _ (by omega), i3, sput_Wc _ _ _ _ (by omega), ⟨fun _ => ⟨j4, k4⟩, fun h => absurd hc h⟩⟩, fun h => k5 (j5 (ro_u (ro_u (ro_u (ro_u h _ _) _ _) _ _) _ _))⟩
  · obtain ⟨r3, k1, k2, k3, k4, k5⟩ := end_eq z w fr (upd (upd (upd (upd row n (c &&& 255)) (n + 1) (0 &&& 255)) (n + 1 + 1) (cd &&& 255)) (n + 1 + 1 + 1) (st &&& 255)) (n := n + 1 + 1 + 1 + 1) (c := n + 1) (by omega) (by omega) (by omega) (by omega)
    rw [if_neg hc, if_neg hc, k1, k3]
    exact ⟨n + 1 + 1 + 1 + 1 + 1, _, r3, by omega, by omega, rfl, ⟨fun h => absurd h hc, fun _ => ⟨k2, trivial⟩⟩, rfl, ⟨sput_Wc _ _ _ _ (by omega), sput_Wc _ _ _ _ (by omega), sput_Wc _ _ _ _ (by omega), i3, sput_Wc _ _ _ _ (by omega), ⟨fun h => absurd h hc, fun _ => k4⟩⟩, fun h => k5 (ro_u (ro_u (ro_u (ro_u h _ _) _ _) _ _) _ _)⟩
/-- the address, and all that follows -/
theorem bits_l : ∀ x : Nat, x < 64 → ((((128 : Int32) ||| 64) ||| nI x) &&& 255 = (nI x + 128 + 64) &&& 255) ∧ ((((128 : Int32) ||| 0) ||| nI x) &&& 255 = (nI x + 128) &&& 255) ∧ ((((0 : Int32) ||| 64) ||| nI x) &&& 255 = (nI x + 64) &&& 255) ∧ ((((0 : Int32) ||| 0) ||| nI x) &&& 255 = nI x &&& 255) := by decide +kernel
theorem addr_eq {z w : Sg} (hC : Cm z w) {mm c cd mark : Int32} (hm : mm = 0 ∨ mm = 1) (hcd : cd = 0 → Dt z w c) (cp : Int32) (row : Nat → Int32) (fr : Int64) : ∃ (N : Nat) (cp' : Int32) (row' : Nat → Int32), 0 < N ∧ N ≤ 36 ∧ (if mark = 6 then f_X4_compose_20 (Zc z (nI 6) cp row) mm c cd 0 else f_X4_compose_20 (Zc z (nI 6) cp row) mm c cd 1) = Zc z (nI N) cp' row' ∧ ((mark = 6 → s_X4_compose_20 (Zc z (nI 6) cp row) mm c cd 0) ∧ (¬ mark = 6 → s_X4_compose_20 (Zc z (nI 6) cp row) mm c cd 1)) ∧ (if mark = 6 then f_X5_send_57 (Wc w (nI 6) fr row) mark mm c cd (gI (Wc w (nI 6) fr row) 1) else f_X5_send_57 (Wc w (nI 6) fr row) mark mm c cd (gA (Wc w (nI 6) fr row) 0 (Int32.toNatClampNeg 0))) = Wc w (nI N) fr row' ∧ ((mark = 6 → s_X5_send_57 (Wc w (nI 6) fr row) mark mm c cd (gI (Wc w (nI 6) fr row) 1)) ∧ (¬ mark = 6 → s_X5_send_57 (Wc w (nI 6) fr row) mark mm c cd (gA (Wc w (nI 6) fr row) 0 (Int32.toNatClampNeg 0)))) ∧ (Ro row → Ro row') := by
  have hI : Idn z w := hC.2.2.2.2.2.2.2.2.2.2.1
  obtain ⟨mk, kd, N, hmk, -, -, e7, d7, e8, d8, -⟩ := id hI
  obtain ⟨ks, hks, e10⟩ : ∃ k : Nat, k < 16 ∧ gI z 10 = nI k := hC.2.2.2.2.2.2.2.2.2.2.2.2.2.1
  have c10 : gI z 10 = gI w 1 := hC.2.1
  have c17 : gI z 17 = gI w 6 := hC.2.2.2.2.2.2.1
  have p17 : ∀ q c r, gI (Zc z q c r) 17 = gI w 6 := fun _ _ _ => c17
  have p10 : ∀ q c r, gI (Zc z q c r) 10 = nI ks := fun _ _ _ => e10
  have p7 : ∀ q c r, gI (Zc z q c r) 7 = nI mk := fun _ _ _ => e7
  have p8 : ∀ q c r, gI (Zc z q c r) 8 = gA w 0 1 := fun _ _ _ => e8.trans d8.symm
  have q1 : ∀ q f r, gI (Wc w q f r) 1 = nI ks := fun _ _ _ => c10.symm.trans e10
  have q6 : ∀ q f r, gI (Wc w q f r) 6 = gI w 6 := fun _ _ _ => rfl
  have q0 : ∀ q f r, gA (Wc w q f r) 0 = gA w 0 := fun _ _ _ => rfl
  have k1 : Int32.toNatClampNeg 1 = 1 := rfl
  have k2 : Int32.toNatClampNeg 2 = 2 := rfl
  have k3 : Int32.toNatClampNeg 3 = 3 := rfl
  have k4 : Int32.toNatClampNeg 4 = 4 := rfl
  -- the short address: x is the byte on both sides
  have short : ∀ a b : Int32, a &&& 255 = b &&& 255 → mark = 6 → ∃ (N : Nat) (cp' : Int32) (row' : Nat → Int32), 0 < N ∧ N ≤ 36 ∧ ctail (f_X1_add (Zc z (nI 6) cp row) a) mm c cd = Zc z (nI N) cp' row' ∧ stail (f_X1_add (Zc z (nI 6) cp row) a) mm c cd ∧ f_X5_send_94 (Wc w (nI 6) fr row) mark mm c cd b = Wc w (nI N) fr row' ∧ s_X5_send_94 (Wc w (nI 6) fr row) mark mm c cd b ∧ (Ro row → Ro row') := by
    intro a b hab hmark
    obtain ⟨N, cp', row', i1, i2, i3, i4, i5, i6, i7⟩ := tail_eq hC hm hcd cp (upd row 6 (b &&& 255)) fr (n := 7) (by omega) (by omega)
    rw [f_X5_send_94, s_X5_send_94]
    simp only [bd_q]
    rw [add_Zc _ _ _ _ (by omega), put_Wc _ _ _ _ (by omega), hab, if_pos hmark]
    exact ⟨N, cp', row', i1, i2, i3, i4, i5, ⟨sput_Wc _ _ _ _ (by omega), fun _ => i6, fun h => absurd hmark h⟩, fun h => i7 (ro_u h _ _)⟩
  have long : ∀ a b : Int32, a &&& 255 = b &&& 255 → ¬ mark = 6 → ∃ (N : Nat) (cp' : Int32) (row' : Nat → Int32), 0 < N ∧ N ≤ 36 ∧ ctail (f_X4_addNumber (f_X1_add (f_X1_add (Zc z (nI 6) cp row) a) (gA w 0 1))) mm c cd = Zc z (nI N) cp' row' ∧ stail (f_X4_addNumber (f_X1_add (f_X1_add (Zc z (nI 6) cp row) a) (gA w 0 1))) mm c cd ∧ f_X5_send_94 (Wc w (nI 6) fr row) mark mm c cd b = Wc w (nI N) fr row' ∧ s_X5_send_94 (Wc w (nI 6) fr row) mark mm c cd b ∧ (Ro row → Ro row') := by
    intro a b hab hmark
    obtain ⟨N, cp', row', i1, i2, i3, i4, i5, i6, i7⟩ := tail_eq hC hm hcd cp (nb3 (upd (upd row 6 (b &&& 255)) 7 (gA w 0 1 &&& 255)) 8 (gA w 0)) fr (n := 11) (by omega) (by omega)
    rw [f_X5_send_94, s_X5_send_94]
    simp only [bd_q, k1, k2, k3, k4]
    rw [add_Zc _ _ _ _ (by omega), add_Zc _ _ _ _ (by omega), num_Zc hI _ _ (by omega), hab]
    rw [put_Wc _ _ _ _ (by omega), q0, put_Wc _ _ _ _ (by omega), q0, put_Wc _ _ _ _ (by omega), q0, put_Wc _ _ _ _ (by omega), q0, put_Wc _ _ _ _ (by omega)]
    rw [if_neg hmark, if_neg hmark, if_neg hmark, if_neg hmark]
    exact ⟨N, cp', row', i1, i2, i3, i4, i5, ⟨sput_Wc _ _ _ _ (by omega), fun h => absurd h hmark, fun _ => ⟨sput_Wc _ _ _ _ (by omega), fun h => absurd h hmark, fun _ => ⟨sput_Wc _ _ _ _ (by omega), fun h => absurd h hmark, fun _ => ⟨sput_Wc _ _ _ _ (by omega), fun h => absurd h hmark, fun _ => ⟨sput_Wc _ _ _ _ (by omega), i6⟩⟩⟩⟩⟩, fun h => i7 (ro_3 (ro_u (ro_u h _ _) _ _) _ _)⟩
  have bs := bits_l ks (by omega)
  have bl := bits_l mk hmk
  have h8 : ∀ a : Int32, gI (f_X1_add (Zc z (nI 6) cp row) a) 8 = gA w 0 1 := by
    intro a
    rw [add_Zc _ _ _ _ (by omega)]
    exact p8 _ _ _
  have i00 : ((0 : Int32) = 0) := rfl
  have i10 : ¬ ((1 : Int32) = 0) := by decide
  rw [f_X5_send_57, s_X5_send_57, f_X5_send_57, s_X5_send_57]
  simp only [f_X5_send_74, s_X5_send_74, comp20a, comp20b, q1, q6, q0, clamp0, d7]
  rw [f_X4_addAddress, f_X4_addAddress]
  simp only [f_X4_addAddress_11, f_X4_addAddress_27, bd_q, p17, p10, p7, p8, h8, if_pos i00, if_neg i10]
  by_cases hk6 : mark = 6
  · by_cases hb : gI w 6 = 0
    · rcases hm with hm0 | hm1
      · simp only [if_pos hk6, if_pos hb, if_pos hm0]
        obtain ⟨N, cp', row', i1, i2, i3, i4, i5, i6, i7⟩ := short _ _ (bs.2.1) hk6
        exact ⟨N, cp', row', i1, i2, i3, ⟨fun _ => i4, fun h => absurd hk6 h⟩, i5, ⟨fun _ => ⟨fun _ => ⟨fun _ => i6, fun h => absurd hb h⟩, fun h => absurd hm0 h⟩, fun h => absurd hk6 h⟩, i7⟩
      · have hm2 : ¬ mm = 0 := by rw [hm1]; decide
        simp only [if_pos hk6, if_pos hb, if_neg hm2]
        obtain ⟨N, cp', row', i1, i2, i3, i4, i5, i6, i7⟩ := short _ _ (bs.2.2.2) hk6
        exact ⟨N, cp', row', i1, i2, i3, ⟨fun _ => i4, fun h => absurd hk6 h⟩, i5, ⟨fun _ => ⟨fun h => absurd h hm2, fun _ => ⟨fun _ => i6, fun h => absurd hb h⟩⟩, fun h => absurd hk6 h⟩, i7⟩
    · rcases hm with hm0 | hm1
      · simp only [if_pos hk6, if_neg hb, if_pos hm0]
        obtain ⟨N, cp', row', i1, i2, i3, i4, i5, i6, i7⟩ := short _ _ (bs.1) hk6
        exact ⟨N, cp', row', i1, i2, i3, ⟨fun _ => i4, fun h => absurd hk6 h⟩, i5, ⟨fun _ => ⟨fun _ => ⟨fun h => absurd h hb, fun _ => i6⟩, fun h => absurd hm0 h⟩, fun h => absurd hk6 h⟩, i7⟩
      · have hm2 : ¬ mm = 0 := by rw [hm1]; decide
        simp only [if_pos hk6, if_neg hb, if_neg hm2]
        obtain ⟨N, cp', row', i1, i2, i3, i4, i5, i6, i7⟩ := short _ _ (bs.2.2.1) hk6
        exact ⟨N, cp', row', i1, i2, i3, ⟨fun _ => i4, fun h => absurd hk6 h⟩, i5, ⟨fun _ => ⟨fun h => absurd h hm2, fun _ => ⟨fun h => absurd h hb, fun _ => i6⟩⟩, fun h => absurd hk6 h⟩, i7⟩
  · by_cases hb : gI w 6 = 0
    · rcases hm with hm0 | hm1
      · simp only [if_neg hk6, if_pos hb, if_pos hm0]
        obtain ⟨N, cp', row', i1, i2, i3, i4, i5, i6, i7⟩ := long _ _ (bl.2.1) hk6
        exact ⟨N, cp', row', i1, i2, i3, ⟨fun h => absurd h hk6, fun _ => i4⟩, i5, ⟨fun h => absurd h hk6, fun _ => ⟨fun _ => ⟨fun _ => i6, fun h => absurd hb h⟩, fun h => absurd hm0 h⟩⟩, i7⟩
      · have hm2 : ¬ mm = 0 := by rw [hm1]; decide
        simp only [if_neg hk6, if_pos hb, if_neg hm2]
        obtain ⟨N, cp', row', i1, i2, i3, i4, i5, i6, i7⟩ := long _ _ (bl.2.2.2) hk6
        exact ⟨N, cp', row', i1, i2, i3, ⟨fun h => absurd h hk6, fun _ => i4⟩, i5, ⟨fun h => absurd h hk6, fun _ => ⟨fun h => absurd h hm2, fun _ => ⟨fun _ => i6, fun h => absurd hb h⟩⟩⟩, i7⟩
    · rcases hm with hm0 | hm1
      · simp only [if_neg hk6, if_neg hb, if_pos hm0]
        obtain ⟨N, cp', row', i1, i2, i3, i4, i5, i6, i7⟩ := long _ _ (bl.1) hk6
        exact ⟨N, cp', row', i1, i2, i3, ⟨fun h => absurd h hk6, fun _ => i4⟩, i5, ⟨fun h => absurd h hk6, fun _ => ⟨fun _ => ⟨fun h => absurd h hb, fun _ => i6⟩, fun h => absurd hm0 h⟩⟩, i7⟩
      · have hm2 : ¬ mm = 0 := by rw [hm1]; decide
        simp only [if_neg hk6, if_neg hb, if_neg hm2]
        obtain ⟨N, cp', row', i1, i2, i3, i4, i5, i6, i7⟩ := long _ _ (bl.2.2.1) hk6
        exact ⟨N, cp', row', i1, i2, i3, ⟨fun h => absurd h hk6, fun _ => i4⟩, i5, ⟨fun h => absurd h hk6, fun _ => ⟨fun h => absurd h hm2, fun _ => ⟨fun h => absurd h hb, fun _ => i6⟩⟩⟩, i7⟩
theorem compose_eq {z w : Sg} (hC : Cm z w) {mark mm c cd : Int32} (fr : Int64) (hm : mm = 0 ∨ mm = 1) (hcd : cd = 0 → Dt z w c) : ∃ (N : Nat) (cp : Int32) (row : Nat → Int32), 0 < N ∧ N ≤ 36 ∧ f_X4_compose z mark mm c cd = Zc z (nI N) cp row ∧ s_X4_compose z mark mm c cd ∧ f_X5_send w mark mm c cd fr = Wc w (nI N) fr row ∧ s_X5_send w mark mm c cd fr ∧ (Ro (gA z 4) → Ro row) := by
  have hrow : gA z 4 = gA w 6 := hC.2.2.2.2.2.2.2.2.2.1
  rw [f_X4_compose, s_X4_compose, f_X5_send, s_X5_send, f_X1_begin]
  simp only [bd_q]
  rw [zc0, wc0, hrow]
  rw [add_Zc _ _ _ _ (by omega), add_Zc _ _ _ _ (by omega), add_Zc _ _ _ _ (by omega), add_Zc _ _ _ _ (by omega), add_Zc _ _ _ _ (by omega), add_Zc _ _ _ _ (by omega)]
  rw [put_Wc _ _ _ _ (by omega), put_Wc _ _ _ _ (by omega), put_Wc _ _ _ _ (by omega), put_Wc _ _ _ _ (by omega), put_Wc _ _ _ _ (by omega), put_Wc _ _ _ _ (by omega)]
  obtain ⟨N, cp', row', i1, i2, i3, i4, i5, i6, i7⟩ := addr_eq hC (mark := mark) hm hcd (gI z 29) (upd (upd (upd (upd (upd (upd (gA w 6) 0 (255 &&& 255)) 1 (255 &&& 255)) 2 (255 &&& 255)) 3 (255 &&& 255)) 4 (255 &&& 255)) 5 (mark &&& 255)) fr
  exact ⟨N, cp', row', i1, i2, i3, i4, i5, ⟨sput_Wc _ _ _ _ (by omega), sput_Wc _ _ _ _ (by omega), sput_Wc _ _ _ _ (by omega), sput_Wc _ _ _ _ (by omega), sput_Wc _ _ _ _ (by omega), sput_Wc _ _ _ _ (by omega), i6⟩, fun h => i7 (ro_u (ro_u (ro_u (ro_u (ro_u (ro_u h _ _) _ _) _ _) _ _) _ _) _ _)⟩
