/-! THE CLAIM OUT OF ONE WALK OF THE LAW'S BODY. Your part is whole_start (and what it stands on); all else here is the same for every law, but numbers. -/
def R_law : String := "LoopDeviceLaw"
def lw_P (b : Addr) (xs : List Int32) (args : Array Value) (s : State) : Prop := args = #[.ref b] ∧ s.IntsAt b xs ∧ xs.length ≤ 1539 ∧ (Jvm.Cond.and given_1 narrow_1).before args s = true
def lw_Q (_ : Array Value) (s : State) (o : Outcome) (t : State) : Prop := o = .returned (some (.int 1)) ∧ Framed s o t [] 22 8265
def lw_Z (below : List Frame) (a : Array Value) (s : State) : State → Prop := fun t => ∃ o, t.status = .running ∧ Ended t below o ∧ lw_Q a s o t
/-- the law's own end, with 1 on the stack, nothing written that was there before, its room as the claim has it -/
theorem lw_ret {p : Program} {l : Launch} {e : Env} {s : State} {m : MethodId} {below : List Frame} {meth : Method} {c : Code} {b : Nat} (hx : p.tables.exec = Jvm.exec) (hb : c.code = code) (hr : meth.sig.returnType = ret) (hlocks : meth.locks = false) {pc : Nat} {H : Heap} {ls : Array Slot} (hdg : decode code pc = .ok (.ireturn, 1)) : W p l e room_1 s m #[Value.ref b] below meth c H [] 22 8265 (lw_Z below #[Value.ref b] s) (F0 m pc ls [.int 1]) := by
  intro T hT X
  obtain ⟨fs, hret, hrun, hended, hW, hframe⟩ := X.leave (v := some (.int 1)) (hlocks := hlocks) (fun h => by rw [hr] at h; cases h)
  have hmeth' : T.vm.method? m = some meth := X.method'
  refine ⟨T.setFrames fs, ?_, .returned (some (.int 1)), hrun, hended, rfl, ⟨_, rfl⟩, hW, hframe⟩
  jvm_step X.here [X.here.top, hx, hb, hdg, hmeth', hr, ret, narrow_b1]
  (try refine ⟨rfl, ?_⟩); (try refine ⟨rfl, ?_⟩)
  first | (intro acts; rw [hret _ acts rfl rfl rfl]) | rw [hret _ _ rfl rfl rfl]
  exact Steps.refl _
/-- what holds at the law's entry: the machine, the code, the tables' words (any of lw_tbl by 'hts w (by decide +kernel)'), the script of L ints xs at the cell b, what the Statement gives of the start (any of its parts by flat_of_before) -/
def lw_At (p : Program) (s : State) (m : MethodId) (meth : Method) (c : Code) (b L : Nat) (xs : Nat → Int32) : Prop :=
  p.tables.exec = Jvm.exec ∧ c.code = code ∧ meth.sig.returnType = ret ∧ c.maxLocals = 4 ∧ s.vm.findClass R_law = some m.cls ∧ (∀ w ∈ lw_tbl, w.before #[Value.ref b] s = true) ∧ va_X b L xs s s.heap ∧ b < s.heap.size ∧ meth.locks = false ∧ (Jvm.Cond.and given_1 narrow_1).before #[Value.ref b] s = true
set_option maxHeartbeats 4000000 in
set_option maxRecDepth 100000 in
/-- THE LAW'S LOOP: at its head, with k calls behind it, the class's state and the reference's agree -/
theorem law_loop {p : Program} {l : Launch} {e : Env} {s : State} {m : MethodId} {below : List Frame} {meth : Method} {c : Code} {D : va_G} {g g' : Gv} {b L : Nat} {xs : Nat → Int32} (hL : L ≤ 1539) (C0 : lw_At p s m meth c b L xs) :
    ∀ (n k t : Nat) (x3 : Int32) (z w : Sg), 513 ≤ k + n → k ≤ 512 → t ≤ 1000 * k → x3 = nI (3 + 3 * k) → Rel t z w → ∀ (H : Heap) (locs : List Loc), Wl D g g' (fun q : Nat => s.heap.size ≤ q) s H locs z w → ∀ (ls : Array Slot), lv_has ls 4 [(3, .int x3), (2, .ref (g'.1 0)), (1, .ref (g.1 0)), (0, .ref b)] → W p l e room_1 s m #[Value.ref b] below meth c H locs 22 8265 (lw_Z below #[Value.ref b] s) (F0 m 48 ls []) := by
  obtain ⟨hx, hb, hr, hml, hown, hts0, hX, hbl, hlocks, hgv⟩ := C0
  have hts : ∀ w ∈ wsL_law, w.before #[Value.ref b] s = true := fun w h => hts0 w (wsL_law_in w h)
  have hA : ∀ q : Nat, s.heap.size ≤ q → (fun q : Nat => s.heap.size ≤ q) q := fun _ h => h
  have hbA : ¬ (fun q : Nat => s.heap.size ≤ q) b := Nat.not_le.mpr hbl
  have hb : c.code = cL_law := hb
  have S : CallFix p m c cL_law 4 s #[Value.ref b] wsL_law RL := ⟨hx, hb, hml, hown, hts⟩
  intro n
  induction n with
  | zero =>
    intro k t x3 z w h1 h2
    exact absurd h1 (by omega)
  | succ n ih =>
    intro k t x3 z w hkn hk ht ex3 hRel H locs hW ls hl
    refine lv_iload_n hx hb dL_law_48 rfl (lv_at hl 0 rfl) ?_
    refine lv_aload_n hx hb dL_law_49 rfl (lv_at hl 3 rfl) ?_
    refine va_slen hx hb hX hbl hbA hW.2.2.2 dL_law_50 ?_
    refine lv_iconst (v := 3) hx hb dL_law_51 (by decide) ?_
    refine lv_isub hx hb dL_law_52 ?_
    have e1 : (nI L - 3).toInt = (L : Int) - 3 := pk_sub_toInt (b := 3) (by omega) (by omega)
    have e2 : x3.toInt = ((3 + 3 * k : Nat) : Int) := by rw [ex3]; exact nI_toInt (by omega)
    refine lv_icmp_gt (tgt := 370) hx hb dL_law_53 (by decide) (fun c1 => ?_) (fun c1 => ?_)
    · refine lv_iconst (v := 1) hx hb dL_law_370 (by decide) ?_
      refine va_forget (fun q hq => hW.2.2.2.2.2 q hq) ?_
      exact lw_ret hx hb hr hlocks dL_law_371
    · have hlt : 3 + 3 * k + 3 ≤ L := by
        have c1 : ¬ nI L - 3 < x3 := c1
        rw [Int32.lt_iff_toInt_lt, e1, e2] at c1
        omega
      have hk5 : k ≤ 511 := by omega
      have ht5 : t + 1000 < 2 ^ 30 := by omega
      have i0 : vp_in x3 L := by rw [ex3]; exact vp_in_nI (by omega) (by omega)
      have i1 : vp_in (x3 + 1) L := by rw [ex3, nI_1]; exact vp_in_nI (by omega) (by omega)
      have i2 : vp_in (x3 + 2) L := by rw [ex3, show nI (3 + 3 * k) + 2 = nI (3 + 3 * k + 2) from nI_add _ 2]; exact vp_in_nI (by omega) (by omega)
      -- the way back to the head
      have T : ∀ (t' : Nat) (z' w' : Sg) (H : Heap) (locs : List Loc) (ls : Array Slot), t' ≤ t + 1000 → Rel t' z' w' → Wl D g g' (fun q : Nat => s.heap.size ≤ q) s H locs z' w' → lv_has ls 4 [(3, .int x3), (2, .ref (g'.1 0)), (1, .ref (g.1 0)), (0, .ref b)] → W p l e room_1 s m #[Value.ref b] below meth c H locs 22 8265 (lw_Z below #[Value.ref b] s) (F0 m 364 ls []) := by
        intro t' z' w' H locs ls ht' hRel' hW' hl
        obtain ⟨y3, ey3⟩ : ∃ y : Int32, y = x3 + 3 := ⟨_, rfl⟩
        refine lv_iinc (v := y3) (lv' := [(3, .int y3), (2, .ref (g'.1 0)), (1, .ref (g.1 0)), (0, .ref b)]) hx hb dL_law_364 hl (k := 0) rfl (by rw [ey3]; rfl) (by decide) rfl (fun ls hl => ?_)
        refine lv_goto (tgt := 48) hx hb dL_law_367 (by decide) ?_
        refine ih (k + 1) t' y3 z' w' (by omega) (by omega) (by omega) ?_ hRel' H locs hW' ls hl
        rw [ey3, ex3, show nI (3 + 3 * k) + 3 = nI (3 + 3 * k + 3) from nI_add _ 3]
        congr 1
      refine lv_aload_n hx hb dL_law_56 rfl (lv_at hl 3 rfl) ?_
      refine lv_iload_n hx hb dL_law_57 rfl (lv_at hl 0 rfl) ?_
      refine va_sld hx hb hX hbl hbA hW.2.2.2 i0 dL_law_58 ?_
      refine lv_bipush (v := 15) hx hb dL_law_59 (by decide) ?_
      refine lv_iand hx hb dL_law_61 ?_
      generalize xs (Int32.toNatClampNeg x3) &&& 15 = sw
      by_cases h0 : sw = 0
      · refine lv_tableIn (off := 54) (tgt := 116) hx hb dL_law_62 (by rw [h0]; decide) (by rw [h0]; decide) (by rw [h0]; rfl) (by decide) ?_
        obtain ⟨⟨keq, t', ht', hRel'⟩, s4, s5⟩ := k_octet (by omega) (xs (Int32.toNatClampNeg (x3 + 1))) hRel
        refine lv_aload_n hx hb dL_law_116 rfl (lv_at hl 2 rfl) ?_
        refine lv_aload_n hx hb dL_law_117 rfl (lv_at hl 3 rfl) ?_
        refine lv_iload_n hx hb dL_law_118 rfl (lv_at hl 0 rfl) ?_
        refine lv_iconst (v := 1) hx hb dL_law_119 (by decide) ?_
        refine lv_iadd hx hb dL_law_120 ?_
        refine va_sld hx hb hX hbl hbA hW.2.2.2 i1 dL_law_121 ?_
        refine lw_D (As := [.int (xs (Int32.toNatClampNeg (x3 + 1)))]) (rest := []) (st1 := [.int (f_X4_octet z (xs (Int32.toNatClampNeg (x3 + 1)))).1]) S hA hW (c_X4_octet l D g z (xs (Int32.toNatClampNeg (x3 + 1))) rfl s4) (wG_V km_L_21 ki_yX4_octet ks_yX4_octet kn_X4 kc_yX4_octet) ⟨rfl, rfl⟩ hd_X4_octet ⟨Nat.le_of_ble_eq_true rfl, Nat.le_of_ble_eq_true rfl⟩ rfl hl.1 rfl (Nat.le_of_ble_eq_true rfl) ⟨Nat.le_of_ble_eq_true rfl, Nat.le_of_ble_eq_true rfl⟩ dL_law_122 rfl (fun H locs hW => ?_)
        refine lv_aload_n hx hb dL_law_125 rfl (lv_at hl 1 rfl) ?_
        refine lv_aload_n hx hb dL_law_126 rfl (lv_at hl 3 rfl) ?_
        refine lv_iload_n hx hb dL_law_127 rfl (lv_at hl 0 rfl) ?_
        refine lv_iconst (v := 1) hx hb dL_law_128 (by decide) ?_
        refine lv_iadd hx hb dL_law_129 ?_
        refine va_sld hx hb hX hbl hbA hW.2.2.2 i1 dL_law_130 ?_
        refine lw_M (As := [.int (xs (Int32.toNatClampNeg (x3 + 1)))]) (rest := [.int (f_X4_octet z (xs (Int32.toNatClampNeg (x3 + 1)))).1]) (st1 := [.int (f_X5_octet w (xs (Int32.toNatClampNeg (x3 + 1)))).1, .int (f_X4_octet z (xs (Int32.toNatClampNeg (x3 + 1)))).1]) S hA hW (c_X5_octet l D g' w (xs (Int32.toNatClampNeg (x3 + 1))) rfl s5) (wG_V km_L_25 ki_yX5_octet ks_yX5_octet kn_X5 kc_yX5_octet) ⟨rfl, rfl⟩ hd_X5_octet ⟨Nat.le_of_ble_eq_true rfl, Nat.le_of_ble_eq_true rfl⟩ rfl hl.1 rfl (Nat.le_of_ble_eq_true rfl) ⟨Nat.le_of_ble_eq_true rfl, Nat.le_of_ble_eq_true rfl⟩ dL_law_131 rfl (fun H locs hW => ?_)
        refine lv_icmp_eq (tgt := 364) hx hb dL_law_134 (by decide) (fun _ => ?_) (fun q => absurd keq q)
        exact T t' _ _ H locs ls ht' hRel' hW hl
      by_cases h1 : sw = 1
      · refine lv_tableIn (off := 77) (tgt := 139) hx hb dL_law_62 (by rw [h1]; decide) (by rw [h1]; decide) (by rw [h1]; rfl) (by decide) ?_
        obtain ⟨⟨keq, t', ht', hRel'⟩, s4, s5⟩ := k_octets (by omega) (xs (Int32.toNatClampNeg (x3 + 1))) hRel
        refine lv_aload_n hx hb dL_law_139 rfl (lv_at hl 2 rfl) ?_
        refine lv_aload_n hx hb dL_law_140 rfl (lv_at hl 3 rfl) ?_
        refine lv_iload_n hx hb dL_law_141 rfl (lv_at hl 0 rfl) ?_
        refine lv_iconst (v := 1) hx hb dL_law_142 (by decide) ?_
        refine lv_iadd hx hb dL_law_143 ?_
        refine va_sld hx hb hX hbl hbA hW.2.2.2 i1 dL_law_144 ?_
        refine lw_D (As := [.int (xs (Int32.toNatClampNeg (x3 + 1)))]) (rest := []) (st1 := [.int (f_X4_octets z (xs (Int32.toNatClampNeg (x3 + 1)))).1]) S hA hW (c_X4_octets l D g z (xs (Int32.toNatClampNeg (x3 + 1))) rfl s4) (wG_V km_L_26 ki_yX4_octets ks_yX4_octets kn_X4 kc_yX4_octets) ⟨rfl, rfl⟩ hd_X4_octets ⟨Nat.le_of_ble_eq_true rfl, Nat.le_of_ble_eq_true rfl⟩ rfl hl.1 rfl (Nat.le_of_ble_eq_true rfl) ⟨Nat.le_of_ble_eq_true rfl, Nat.le_of_ble_eq_true rfl⟩ dL_law_145 rfl (fun H locs hW => ?_)
        refine lv_aload_n hx hb dL_law_148 rfl (lv_at hl 1 rfl) ?_
        refine lv_aload_n hx hb dL_law_149 rfl (lv_at hl 3 rfl) ?_
        refine lv_iload_n hx hb dL_law_150 rfl (lv_at hl 0 rfl) ?_
        refine lv_iconst (v := 1) hx hb dL_law_151 (by decide) ?_
        refine lv_iadd hx hb dL_law_152 ?_
        refine va_sld hx hb hX hbl hbA hW.2.2.2 i1 dL_law_153 ?_
        refine lw_M (As := [.int (xs (Int32.toNatClampNeg (x3 + 1)))]) (rest := [.int (f_X4_octets z (xs (Int32.toNatClampNeg (x3 + 1)))).1]) (st1 := [.int (f_X5_octets w (xs (Int32.toNatClampNeg (x3 + 1)))).1, .int (f_X4_octets z (xs (Int32.toNatClampNeg (x3 + 1)))).1]) S hA hW (c_X5_octets l D g' w (xs (Int32.toNatClampNeg (x3 + 1))) rfl s5) (wG_V km_L_29 ki_yX5_octets ks_yX5_octets kn_X5 kc_yX5_octets) ⟨rfl, rfl⟩ hd_X5_octets ⟨Nat.le_of_ble_eq_true rfl, Nat.le_of_ble_eq_true rfl⟩ rfl hl.1 rfl (Nat.le_of_ble_eq_true rfl) ⟨Nat.le_of_ble_eq_true rfl, Nat.le_of_ble_eq_true rfl⟩ dL_law_154 rfl (fun H locs hW => ?_)
        refine lv_icmp_eq (tgt := 364) hx hb dL_law_157 (by decide) (fun _ => ?_) (fun q => absurd keq q)
        exact T t' _ _ H locs ls ht' hRel' hW hl
      by_cases h2 : sw = 2
      · refine lv_tableIn (off := 100) (tgt := 162) hx hb dL_law_62 (by rw [h2]; decide) (by rw [h2]; decide) (by rw [h2]; rfl) (by decide) ?_
        obtain ⟨⟨keq, t', ht', hRel'⟩, s4, s5⟩ := k_tick (by omega) (xs (Int32.toNatClampNeg (x3 + 1))) hRel
        refine lv_aload_n hx hb dL_law_162 rfl (lv_at hl 2 rfl) ?_
        refine lv_aload_n hx hb dL_law_163 rfl (lv_at hl 3 rfl) ?_
        refine lv_iload_n hx hb dL_law_164 rfl (lv_at hl 0 rfl) ?_
        refine lv_iconst (v := 1) hx hb dL_law_165 (by decide) ?_
        refine lv_iadd hx hb dL_law_166 ?_
        refine va_sld hx hb hX hbl hbA hW.2.2.2 i1 dL_law_167 ?_
        refine lw_D (As := [.int (xs (Int32.toNatClampNeg (x3 + 1)))]) (rest := []) (st1 := [.int (f_X4_tick z (xs (Int32.toNatClampNeg (x3 + 1)))).1]) S hA hW (c_X4_tick l D g z (xs (Int32.toNatClampNeg (x3 + 1))) rfl s4) (wG_V km_L_30 ki_yX4_tick ks_yX4_tick kn_X4 kc_yX4_tick) ⟨rfl, rfl⟩ hd_X4_tick ⟨Nat.le_of_ble_eq_true rfl, Nat.le_of_ble_eq_true rfl⟩ rfl hl.1 rfl (Nat.le_of_ble_eq_true rfl) ⟨Nat.le_of_ble_eq_true rfl, Nat.le_of_ble_eq_true rfl⟩ dL_law_168 rfl (fun H locs hW => ?_)
        refine lv_aload_n hx hb dL_law_171 rfl (lv_at hl 1 rfl) ?_
        refine lv_aload_n hx hb dL_law_172 rfl (lv_at hl 3 rfl) ?_
        refine lv_iload_n hx hb dL_law_173 rfl (lv_at hl 0 rfl) ?_
        refine lv_iconst (v := 1) hx hb dL_law_174 (by decide) ?_
        refine lv_iadd hx hb dL_law_175 ?_
        refine va_sld hx hb hX hbl hbA hW.2.2.2 i1 dL_law_176 ?_
        refine lw_M (As := [.int (xs (Int32.toNatClampNeg (x3 + 1)))]) (rest := [.int (f_X4_tick z (xs (Int32.toNatClampNeg (x3 + 1)))).1]) (st1 := [.int (f_X5_tick w (xs (Int32.toNatClampNeg (x3 + 1)))).1, .int (f_X4_tick z (xs (Int32.toNatClampNeg (x3 + 1)))).1]) S hA hW (c_X5_tick l D g' w (xs (Int32.toNatClampNeg (x3 + 1))) rfl s5) (wG_V km_L_33 ki_yX5_tick ks_yX5_tick kn_X5 kc_yX5_tick) ⟨rfl, rfl⟩ hd_X5_tick ⟨Nat.le_of_ble_eq_true rfl, Nat.le_of_ble_eq_true rfl⟩ rfl hl.1 rfl (Nat.le_of_ble_eq_true rfl) ⟨Nat.le_of_ble_eq_true rfl, Nat.le_of_ble_eq_true rfl⟩ dL_law_177 rfl (fun H locs hW => ?_)
        refine lv_icmp_eq (tgt := 364) hx hb dL_law_180 (by decide) (fun _ => ?_) (fun q => absurd keq q)
        exact T t' _ _ H locs ls ht' hRel' hW hl
      by_cases h3 : sw = 3
      · refine lv_tableIn (off := 123) (tgt := 185) hx hb dL_law_62 (by rw [h3]; decide) (by rw [h3]; decide) (by rw [h3]; rfl) (by decide) ?_
        obtain ⟨⟨keq, t', ht', hRel'⟩, s5⟩ := k_sent (by omega) (xs (Int32.toNatClampNeg (x3 + 1))) hRel
        refine lv_aload_n hx hb dL_law_185 rfl (lv_at hl 2 rfl) ?_
        refine lv_aload_n hx hb dL_law_186 rfl (lv_at hl 3 rfl) ?_
        refine lv_iload_n hx hb dL_law_187 rfl (lv_at hl 0 rfl) ?_
        refine lv_iconst (v := 1) hx hb dL_law_188 (by decide) ?_
        refine lv_iadd hx hb dL_law_189 ?_
        refine va_sld hx hb hX hbl hbA hW.2.2.2 i1 dL_law_190 ?_
        refine lw_D (As := [.int (xs (Int32.toNatClampNeg (x3 + 1)))]) (rest := []) (st1 := [.int (f_X4_sent z (xs (Int32.toNatClampNeg (x3 + 1)))).1]) S hA hW (c_X4_sent l D g z (xs (Int32.toNatClampNeg (x3 + 1))) rfl) (wG_V km_L_34 ki_yX4_sent ks_yX4_sent kn_X4 kc_yX4_sent) ⟨rfl, rfl⟩ hd_X4_sent ⟨Nat.le_of_ble_eq_true rfl, Nat.le_of_ble_eq_true rfl⟩ rfl hl.1 rfl (Nat.le_of_ble_eq_true rfl) ⟨Nat.le_of_ble_eq_true rfl, Nat.le_of_ble_eq_true rfl⟩ dL_law_191 rfl (fun H locs hW => ?_)
        refine lv_aload_n hx hb dL_law_194 rfl (lv_at hl 1 rfl) ?_
        refine lv_aload_n hx hb dL_law_195 rfl (lv_at hl 3 rfl) ?_
        refine lv_iload_n hx hb dL_law_196 rfl (lv_at hl 0 rfl) ?_
        refine lv_iconst (v := 1) hx hb dL_law_197 (by decide) ?_
        refine lv_iadd hx hb dL_law_198 ?_
        refine va_sld hx hb hX hbl hbA hW.2.2.2 i1 dL_law_199 ?_
        refine lw_M (As := [.int (xs (Int32.toNatClampNeg (x3 + 1)))]) (rest := [.int (f_X4_sent z (xs (Int32.toNatClampNeg (x3 + 1)))).1]) (st1 := [.int (f_X5_sent w (xs (Int32.toNatClampNeg (x3 + 1)))).1, .int (f_X4_sent z (xs (Int32.toNatClampNeg (x3 + 1)))).1]) S hA hW (c_X5_sent l D g' w (xs (Int32.toNatClampNeg (x3 + 1))) rfl s5) (wG_V km_L_37 ki_yX5_sent ks_yX5_sent kn_X5 kc_yX5_sent) ⟨rfl, rfl⟩ hd_X5_sent ⟨Nat.le_of_ble_eq_true rfl, Nat.le_of_ble_eq_true rfl⟩ rfl hl.1 rfl (Nat.le_of_ble_eq_true rfl) ⟨Nat.le_of_ble_eq_true rfl, Nat.le_of_ble_eq_true rfl⟩ dL_law_200 rfl (fun H locs hW => ?_)
        refine lv_icmp_eq (tgt := 364) hx hb dL_law_203 (by decide) (fun _ => ?_) (fun q => absurd keq q)
        exact T t' _ _ H locs ls ht' hRel' hW hl
      by_cases h4 : sw = 4
      · refine lv_tableIn (off := 146) (tgt := 208) hx hb dL_law_62 (by rw [h4]; decide) (by rw [h4]; decide) (by rw [h4]; rfl) (by decide) ?_
        obtain ⟨⟨keq, t', ht', hRel'⟩, s5⟩ := k_when (by omega) (xs (Int32.toNatClampNeg (x3 + 1))) hRel
        refine lv_aload_n hx hb dL_law_208 rfl (lv_at hl 2 rfl) ?_
        refine lv_aload_n hx hb dL_law_209 rfl (lv_at hl 3 rfl) ?_
        refine lv_iload_n hx hb dL_law_210 rfl (lv_at hl 0 rfl) ?_
        refine lv_iconst (v := 1) hx hb dL_law_211 (by decide) ?_
        refine lv_iadd hx hb dL_law_212 ?_
        refine va_sld hx hb hX hbl hbA hW.2.2.2 i1 dL_law_213 ?_
        refine lw_D (As := [.int (xs (Int32.toNatClampNeg (x3 + 1)))]) (rest := []) (st1 := [.int (f_X4_when z (xs (Int32.toNatClampNeg (x3 + 1)))).1]) S hA hW (c_X4_when l D g z (xs (Int32.toNatClampNeg (x3 + 1))) rfl) (wG_V km_L_38 ki_yX4_when ks_yX4_when kn_X4 kc_yX4_when) ⟨rfl, rfl⟩ hd_X4_when ⟨Nat.le_of_ble_eq_true rfl, Nat.le_of_ble_eq_true rfl⟩ rfl hl.1 rfl (Nat.le_of_ble_eq_true rfl) ⟨Nat.le_of_ble_eq_true rfl, Nat.le_of_ble_eq_true rfl⟩ dL_law_214 rfl (fun H locs hW => ?_)
        refine lv_aload_n hx hb dL_law_217 rfl (lv_at hl 1 rfl) ?_
        refine lv_aload_n hx hb dL_law_218 rfl (lv_at hl 3 rfl) ?_
        refine lv_iload_n hx hb dL_law_219 rfl (lv_at hl 0 rfl) ?_
        refine lv_iconst (v := 1) hx hb dL_law_220 (by decide) ?_
        refine lv_iadd hx hb dL_law_221 ?_
        refine va_sld hx hb hX hbl hbA hW.2.2.2 i1 dL_law_222 ?_
        refine lw_M (As := [.int (xs (Int32.toNatClampNeg (x3 + 1)))]) (rest := [.int (f_X4_when z (xs (Int32.toNatClampNeg (x3 + 1)))).1]) (st1 := [.int (f_X5_when w (xs (Int32.toNatClampNeg (x3 + 1)))).1, .int (f_X4_when z (xs (Int32.toNatClampNeg (x3 + 1)))).1]) S hA hW (c_X5_when l D g' w (xs (Int32.toNatClampNeg (x3 + 1))) rfl s5) (wG_V km_L_41 ki_yX5_when ks_yX5_when kn_X5 kc_yX5_when) ⟨rfl, rfl⟩ hd_X5_when ⟨Nat.le_of_ble_eq_true rfl, Nat.le_of_ble_eq_true rfl⟩ rfl hl.1 rfl (Nat.le_of_ble_eq_true rfl) ⟨Nat.le_of_ble_eq_true rfl, Nat.le_of_ble_eq_true rfl⟩ dL_law_223 rfl (fun H locs hW => ?_)
        refine lv_icmp_eq (tgt := 364) hx hb dL_law_226 (by decide) (fun _ => ?_) (fun q => absurd keq q)
        exact T t' _ _ H locs ls ht' hRel' hW hl
      by_cases h5 : sw = 5
      · refine lv_tableIn (off := 169) (tgt := 231) hx hb dL_law_62 (by rw [h5]; decide) (by rw [h5]; decide) (by rw [h5]; rfl) (by decide) ?_
        obtain ⟨⟨keq, t', ht', hRel'⟩, s5⟩ := k_variable (xs (Int32.toNatClampNeg (x3 + 1))) (xs (Int32.toNatClampNeg (x3 + 2))) hRel
        refine lv_aload_n hx hb dL_law_231 rfl (lv_at hl 2 rfl) ?_
        refine lv_aload_n hx hb dL_law_232 rfl (lv_at hl 3 rfl) ?_
        refine lv_iload_n hx hb dL_law_233 rfl (lv_at hl 0 rfl) ?_
        refine lv_iconst (v := 1) hx hb dL_law_234 (by decide) ?_
        refine lv_iadd hx hb dL_law_235 ?_
        refine va_sld hx hb hX hbl hbA hW.2.2.2 i1 dL_law_236 ?_
        refine lv_aload_n hx hb dL_law_237 rfl (lv_at hl 3 rfl) ?_
        refine lv_iload_n hx hb dL_law_238 rfl (lv_at hl 0 rfl) ?_
        refine lv_iconst (v := 2) hx hb dL_law_239 (by decide) ?_
        refine lv_iadd hx hb dL_law_240 ?_
        refine va_sld hx hb hX hbl hbA hW.2.2.2 i2 dL_law_241 ?_
        refine lw_D (As := [.int (xs (Int32.toNatClampNeg (x3 + 1))), .int (xs (Int32.toNatClampNeg (x3 + 2)))]) (rest := []) (st1 := [.long (f_X4_variable z (xs (Int32.toNatClampNeg (x3 + 1))) (xs (Int32.toNatClampNeg (x3 + 2)))).1]) S hA hW (c_X4_variable l D g z (xs (Int32.toNatClampNeg (x3 + 1))) (xs (Int32.toNatClampNeg (x3 + 2))) rfl) (wG_V km_L_42 ki_yX4_variable ks_yX4_variable kn_X4 kc_yX4_variable) ⟨rfl, rfl⟩ hd_X4_variable ⟨Nat.le_of_ble_eq_true rfl, Nat.le_of_ble_eq_true rfl⟩ rfl hl.1 rfl (Nat.le_of_ble_eq_true rfl) ⟨Nat.le_of_ble_eq_true rfl, Nat.le_of_ble_eq_true rfl⟩ dL_law_242 rfl (fun H locs hW => ?_)
        refine lv_aload_n hx hb dL_law_245 rfl (lv_at hl 1 rfl) ?_
        refine lv_aload_n hx hb dL_law_246 rfl (lv_at hl 3 rfl) ?_
        refine lv_iload_n hx hb dL_law_247 rfl (lv_at hl 0 rfl) ?_
        refine lv_iconst (v := 1) hx hb dL_law_248 (by decide) ?_
        refine lv_iadd hx hb dL_law_249 ?_
        refine va_sld hx hb hX hbl hbA hW.2.2.2 i1 dL_law_250 ?_
        refine lv_aload_n hx hb dL_law_251 rfl (lv_at hl 3 rfl) ?_
        refine lv_iload_n hx hb dL_law_252 rfl (lv_at hl 0 rfl) ?_
        refine lv_iconst (v := 2) hx hb dL_law_253 (by decide) ?_
        refine lv_iadd hx hb dL_law_254 ?_
        refine va_sld hx hb hX hbl hbA hW.2.2.2 i2 dL_law_255 ?_
        refine lw_M (As := [.int (xs (Int32.toNatClampNeg (x3 + 1))), .int (xs (Int32.toNatClampNeg (x3 + 2)))]) (rest := [.long (f_X4_variable z (xs (Int32.toNatClampNeg (x3 + 1))) (xs (Int32.toNatClampNeg (x3 + 2)))).1]) (st1 := [.long (f_X5_variable w (xs (Int32.toNatClampNeg (x3 + 1))) (xs (Int32.toNatClampNeg (x3 + 2)))).1, .long (f_X4_variable z (xs (Int32.toNatClampNeg (x3 + 1))) (xs (Int32.toNatClampNeg (x3 + 2)))).1]) S hA hW (c_X5_variable l D g' w (xs (Int32.toNatClampNeg (x3 + 1))) (xs (Int32.toNatClampNeg (x3 + 2))) rfl s5) (wG_V km_L_46 ki_yX5_variable ks_yX5_variable kn_X5 kc_yX5_variable) ⟨rfl, rfl⟩ hd_X5_variable ⟨Nat.le_of_ble_eq_true rfl, Nat.le_of_ble_eq_true rfl⟩ rfl hl.1 rfl (Nat.le_of_ble_eq_true rfl) ⟨Nat.le_of_ble_eq_true rfl, Nat.le_of_ble_eq_true rfl⟩ dL_law_256 rfl (fun H locs hW => ?_)
        refine W.lcmp hx hb dL_law_259 ?_
        refine lv_if_eq (tgt := 364) hx hb dL_law_260 (by decide) (fun _ => ?_) (fun q => absurd ((lg_cmp_eq _ _).mpr keq) q)
        exact T t' _ _ H locs ls ht' hRel' hW hl
      by_cases h6 : sw = 6
      · refine lv_tableIn (off := 203) (tgt := 265) hx hb dL_law_62 (by rw [h6]; decide) (by rw [h6]; decide) (by rw [h6]; rfl) (by decide) ?_
        by_cases hz : (xs (Int32.toNatClampNeg (x3 + 1))) = 0
        · obtain ⟨⟨keq, t', ht', hRel'⟩, s4, s5⟩ := k_failure (x := 0) (by decide) hRel
          refine lv_aload_n hx hb dL_law_265 rfl (lv_at hl 2 rfl) ?_
          refine lv_aload_n hx hb dL_law_266 rfl (lv_at hl 3 rfl) ?_
          refine lv_iload_n hx hb dL_law_267 rfl (lv_at hl 0 rfl) ?_
          refine lv_iconst (v := 1) hx hb dL_law_268 (by decide) ?_
          refine lv_iadd hx hb dL_law_269 ?_
          refine va_sld hx hb hX hbl hbA hW.2.2.2 i1 dL_law_270 ?_
          refine lv_if_eq (tgt := 278) hx hb dL_law_271 (by decide) (fun _ => ?_) (fun q => absurd hz q)
          refine lv_iconst (v := 0) hx hb dL_law_278 (by decide) ?_
          refine lw_D (As := [.int 0]) (rest := []) (st1 := [.int (f_X4_failure z 0).1]) S hA hW (c_X4_failure l D g z 0 rfl s4) (wG_V km_L_47 ki_yX4_failure ks_yX4_failure kn_X4 kc_yX4_failure) ⟨rfl, rfl⟩ hd_X4_failure ⟨Nat.le_of_ble_eq_true rfl, Nat.le_of_ble_eq_true rfl⟩ rfl hl.1 rfl (Nat.le_of_ble_eq_true rfl) ⟨Nat.le_of_ble_eq_true rfl, Nat.le_of_ble_eq_true rfl⟩ dL_law_279 rfl (fun H locs hW => ?_)
          refine lv_aload_n hx hb dL_law_282 rfl (lv_at hl 1 rfl) ?_
          refine lv_aload_n hx hb dL_law_283 rfl (lv_at hl 3 rfl) ?_
          refine lv_iload_n hx hb dL_law_284 rfl (lv_at hl 0 rfl) ?_
          refine lv_iconst (v := 1) hx hb dL_law_285 (by decide) ?_
          refine lv_iadd hx hb dL_law_286 ?_
          refine va_sld hx hb hX hbl hbA hW.2.2.2 i1 dL_law_287 ?_
          refine lv_if_eq (tgt := 295) hx hb dL_law_288 (by decide) (fun _ => ?_) (fun q => absurd hz q)
          refine lv_iconst (v := 0) hx hb dL_law_295 (by decide) ?_
          refine lw_M (As := [.int 0]) (rest := [.int (f_X4_failure z 0).1]) (st1 := [.int (f_X5_failure w 0).1, .int (f_X4_failure z 0).1]) S hA hW (c_X5_failure l D g' w 0 rfl s5) (wG_V km_L_51 ki_yX5_failure ks_yX5_failure kn_X5 kc_yX5_failure) ⟨rfl, rfl⟩ hd_X5_failure ⟨Nat.le_of_ble_eq_true rfl, Nat.le_of_ble_eq_true rfl⟩ rfl hl.1 rfl (Nat.le_of_ble_eq_true rfl) ⟨Nat.le_of_ble_eq_true rfl, Nat.le_of_ble_eq_true rfl⟩ dL_law_296 rfl (fun H locs hW => ?_)
          refine lv_icmp_eq (tgt := 364) hx hb dL_law_299 (by decide) (fun _ => ?_) (fun q => absurd keq q)
          exact T t' _ _ H locs ls ht' hRel' hW hl
        · obtain ⟨⟨keq, t', ht', hRel'⟩, s4, s5⟩ := k_failure (x := 1) (by decide) hRel
          refine lv_aload_n hx hb dL_law_265 rfl (lv_at hl 2 rfl) ?_
          refine lv_aload_n hx hb dL_law_266 rfl (lv_at hl 3 rfl) ?_
          refine lv_iload_n hx hb dL_law_267 rfl (lv_at hl 0 rfl) ?_
          refine lv_iconst (v := 1) hx hb dL_law_268 (by decide) ?_
          refine lv_iadd hx hb dL_law_269 ?_
          refine va_sld hx hb hX hbl hbA hW.2.2.2 i1 dL_law_270 ?_
          refine lv_if_eq (tgt := 278) hx hb dL_law_271 (by decide) (fun q => absurd q hz) (fun _ => ?_)
          refine lv_iconst (v := 1) hx hb dL_law_274 (by decide) ?_
          refine lv_goto (tgt := 279) hx hb dL_law_275 (by decide) ?_
          refine lw_D (As := [.int 1]) (rest := []) (st1 := [.int (f_X4_failure z 1).1]) S hA hW (c_X4_failure l D g z 1 rfl s4) (wG_V km_L_47 ki_yX4_failure ks_yX4_failure kn_X4 kc_yX4_failure) ⟨rfl, rfl⟩ hd_X4_failure ⟨Nat.le_of_ble_eq_true rfl, Nat.le_of_ble_eq_true rfl⟩ rfl hl.1 rfl (Nat.le_of_ble_eq_true rfl) ⟨Nat.le_of_ble_eq_true rfl, Nat.le_of_ble_eq_true rfl⟩ dL_law_279 rfl (fun H locs hW => ?_)
          refine lv_aload_n hx hb dL_law_282 rfl (lv_at hl 1 rfl) ?_
          refine lv_aload_n hx hb dL_law_283 rfl (lv_at hl 3 rfl) ?_
          refine lv_iload_n hx hb dL_law_284 rfl (lv_at hl 0 rfl) ?_
          refine lv_iconst (v := 1) hx hb dL_law_285 (by decide) ?_
          refine lv_iadd hx hb dL_law_286 ?_
          refine va_sld hx hb hX hbl hbA hW.2.2.2 i1 dL_law_287 ?_
          refine lv_if_eq (tgt := 295) hx hb dL_law_288 (by decide) (fun q => absurd q hz) (fun _ => ?_)
          refine lv_iconst (v := 1) hx hb dL_law_291 (by decide) ?_
          refine lv_goto (tgt := 296) hx hb dL_law_292 (by decide) ?_
          refine lw_M (As := [.int 1]) (rest := [.int (f_X4_failure z 1).1]) (st1 := [.int (f_X5_failure w 1).1, .int (f_X4_failure z 1).1]) S hA hW (c_X5_failure l D g' w 1 rfl s5) (wG_V km_L_51 ki_yX5_failure ks_yX5_failure kn_X5 kc_yX5_failure) ⟨rfl, rfl⟩ hd_X5_failure ⟨Nat.le_of_ble_eq_true rfl, Nat.le_of_ble_eq_true rfl⟩ rfl hl.1 rfl (Nat.le_of_ble_eq_true rfl) ⟨Nat.le_of_ble_eq_true rfl, Nat.le_of_ble_eq_true rfl⟩ dL_law_296 rfl (fun H locs hW => ?_)
          refine lv_icmp_eq (tgt := 364) hx hb dL_law_299 (by decide) (fun _ => ?_) (fun q => absurd keq q)
          exact T t' _ _ H locs ls ht' hRel' hW hl
      by_cases h7 : sw = 7
      · refine lv_tableIn (off := 242) (tgt := 304) hx hb dL_law_62 (by rw [h7]; decide) (by rw [h7]; decide) (by rw [h7]; rfl) (by decide) ?_
        obtain ⟨keq, t', ht', hRel'⟩ := k_has (xs (Int32.toNatClampNeg (x3 + 1))) hRel
        refine lv_aload_n hx hb dL_law_304 rfl (lv_at hl 2 rfl) ?_
        refine lv_aload_n hx hb dL_law_305 rfl (lv_at hl 3 rfl) ?_
        refine lv_iload_n hx hb dL_law_306 rfl (lv_at hl 0 rfl) ?_
        refine lv_iconst (v := 1) hx hb dL_law_307 (by decide) ?_
        refine lv_iadd hx hb dL_law_308 ?_
        refine va_sld hx hb hX hbl hbA hW.2.2.2 i1 dL_law_309 ?_
        refine lw_D (As := [.int (xs (Int32.toNatClampNeg (x3 + 1)))]) (rest := []) (st1 := [.long (f_X4_has z (xs (Int32.toNatClampNeg (x3 + 1)))).1]) S hA hW (c_X4_has l D g z (xs (Int32.toNatClampNeg (x3 + 1))) rfl) (wG_V km_L_52 ki_yX4_has ks_yX4_has kn_X4 kc_yX4_has) ⟨rfl, rfl⟩ hd_X4_has ⟨Nat.le_of_ble_eq_true rfl, Nat.le_of_ble_eq_true rfl⟩ rfl hl.1 rfl (Nat.le_of_ble_eq_true rfl) ⟨Nat.le_of_ble_eq_true rfl, Nat.le_of_ble_eq_true rfl⟩ dL_law_310 rfl (fun H locs hW => ?_)
        refine lv_aload_n hx hb dL_law_313 rfl (lv_at hl 1 rfl) ?_
        refine lv_aload_n hx hb dL_law_314 rfl (lv_at hl 3 rfl) ?_
        refine lv_iload_n hx hb dL_law_315 rfl (lv_at hl 0 rfl) ?_
        refine lv_iconst (v := 1) hx hb dL_law_316 (by decide) ?_
        refine lv_iadd hx hb dL_law_317 ?_
        refine va_sld hx hb hX hbl hbA hW.2.2.2 i1 dL_law_318 ?_
        refine lw_M (As := [.int (xs (Int32.toNatClampNeg (x3 + 1)))]) (rest := [.long (f_X4_has z (xs (Int32.toNatClampNeg (x3 + 1)))).1]) (st1 := [.long (f_X5_has w (xs (Int32.toNatClampNeg (x3 + 1)))).1, .long (f_X4_has z (xs (Int32.toNatClampNeg (x3 + 1)))).1]) S hA hW (c_X5_has l D g' w (xs (Int32.toNatClampNeg (x3 + 1))) rfl) (wG_V km_L_56 ki_yX5_has ks_yX5_has kn_X5 kc_yX5_has) ⟨rfl, rfl⟩ hd_X5_has ⟨Nat.le_of_ble_eq_true rfl, Nat.le_of_ble_eq_true rfl⟩ rfl hl.1 rfl (Nat.le_of_ble_eq_true rfl) ⟨Nat.le_of_ble_eq_true rfl, Nat.le_of_ble_eq_true rfl⟩ dL_law_319 rfl (fun H locs hW => ?_)
        refine W.lcmp hx hb dL_law_322 ?_
        refine lv_if_eq (tgt := 364) hx hb dL_law_323 (by decide) (fun _ => ?_) (fun q => absurd ((lg_cmp_eq _ _).mpr keq) q)
        exact T t' _ _ H locs ls ht' hRel' hW hl
      by_cases h8 : sw = 8
      · refine lv_tableIn (off := 266) (tgt := 328) hx hb dL_law_62 (by rw [h8]; decide) (by rw [h8]; decide) (by rw [h8]; rfl) (by decide) ?_
        obtain ⟨keq, t', ht', hRel'⟩ := k_tag (xs (Int32.toNatClampNeg (x3 + 1))) hRel
        refine lv_aload_n hx hb dL_law_328 rfl (lv_at hl 2 rfl) ?_
        refine lv_aload_n hx hb dL_law_329 rfl (lv_at hl 3 rfl) ?_
        refine lv_iload_n hx hb dL_law_330 rfl (lv_at hl 0 rfl) ?_
        refine lv_iconst (v := 1) hx hb dL_law_331 (by decide) ?_
        refine lv_iadd hx hb dL_law_332 ?_
        refine va_sld hx hb hX hbl hbA hW.2.2.2 i1 dL_law_333 ?_
        refine lw_D (As := [.int (xs (Int32.toNatClampNeg (x3 + 1)))]) (rest := []) (st1 := [.int (f_X4_tag z (xs (Int32.toNatClampNeg (x3 + 1)))).1]) S hA hW (c_X4_tag l D g z (xs (Int32.toNatClampNeg (x3 + 1))) rfl) (wG_V km_L_57 ki_yX4_tag ks_yX4_tag kn_X4 kc_yX4_tag) ⟨rfl, rfl⟩ hd_X4_tag ⟨Nat.le_of_ble_eq_true rfl, Nat.le_of_ble_eq_true rfl⟩ rfl hl.1 rfl (Nat.le_of_ble_eq_true rfl) ⟨Nat.le_of_ble_eq_true rfl, Nat.le_of_ble_eq_true rfl⟩ dL_law_334 rfl (fun H locs hW => ?_)
        refine lv_aload_n hx hb dL_law_337 rfl (lv_at hl 1 rfl) ?_
        refine lv_aload_n hx hb dL_law_338 rfl (lv_at hl 3 rfl) ?_
        refine lv_iload_n hx hb dL_law_339 rfl (lv_at hl 0 rfl) ?_
        refine lv_iconst (v := 1) hx hb dL_law_340 (by decide) ?_
        refine lv_iadd hx hb dL_law_341 ?_
        refine va_sld hx hb hX hbl hbA hW.2.2.2 i1 dL_law_342 ?_
        refine lw_M (As := [.int (xs (Int32.toNatClampNeg (x3 + 1)))]) (rest := [.int (f_X4_tag z (xs (Int32.toNatClampNeg (x3 + 1)))).1]) (st1 := [.int (f_X5_tag w (xs (Int32.toNatClampNeg (x3 + 1)))).1, .int (f_X4_tag z (xs (Int32.toNatClampNeg (x3 + 1)))).1]) S hA hW (c_X5_tag l D g' w (xs (Int32.toNatClampNeg (x3 + 1))) rfl) (wG_V km_L_60 ki_yX5_tag ks_yX5_tag kn_X5 kc_yX5_tag) ⟨rfl, rfl⟩ hd_X5_tag ⟨Nat.le_of_ble_eq_true rfl, Nat.le_of_ble_eq_true rfl⟩ rfl hl.1 rfl (Nat.le_of_ble_eq_true rfl) ⟨Nat.le_of_ble_eq_true rfl, Nat.le_of_ble_eq_true rfl⟩ dL_law_343 rfl (fun H locs hW => ?_)
        refine lv_icmp_eq (tgt := 364) hx hb dL_law_346 (by decide) (fun _ => ?_) (fun q => absurd keq q)
        exact T t' _ _ H locs ls ht' hRel' hW hl
      by_cases h9 : sw = 9
      · refine lv_tableIn (off := 289) (tgt := 351) hx hb dL_law_62 (by rw [h9]; decide) (by rw [h9]; decide) (by rw [h9]; rfl) (by decide) ?_
        obtain ⟨keq, t', ht', hRel'⟩ := k_now hRel
        refine lv_aload_n hx hb dL_law_351 rfl (lv_at hl 2 rfl) ?_
        refine lw_D (As := []) (rest := []) (st1 := [.int (f_X4_now z).1]) S hA hW (c_X4_now l D g z  rfl) (wG_V km_L_61 ki_yX4_now ks_yX4_now kn_X4 kc_yX4_now) ⟨rfl, rfl⟩ hd_X4_now ⟨Nat.le_of_ble_eq_true rfl, Nat.le_of_ble_eq_true rfl⟩ rfl hl.1 rfl (Nat.le_of_ble_eq_true rfl) ⟨Nat.le_of_ble_eq_true rfl, Nat.le_of_ble_eq_true rfl⟩ dL_law_352 rfl (fun H locs hW => ?_)
        refine lv_aload_n hx hb dL_law_355 rfl (lv_at hl 1 rfl) ?_
        refine lw_M (As := []) (rest := [.int (f_X4_now z).1]) (st1 := [.int (f_X5_now w).1, .int (f_X4_now z).1]) S hA hW (c_X5_now l D g' w  rfl) (wG_V km_L_65 ki_yX5_now ks_yX5_now kn_X5 kc_yX5_now) ⟨rfl, rfl⟩ hd_X5_now ⟨Nat.le_of_ble_eq_true rfl, Nat.le_of_ble_eq_true rfl⟩ rfl hl.1 rfl (Nat.le_of_ble_eq_true rfl) ⟨Nat.le_of_ble_eq_true rfl, Nat.le_of_ble_eq_true rfl⟩ dL_law_356 rfl (fun H locs hW => ?_)
        refine lv_icmp_eq (tgt := 364) hx hb dL_law_359 (by decide) (fun _ => ?_) (fun q => absurd keq q)
        exact T t' _ _ H locs ls ht' hRel' hW hl
      refine lv_tableOut (tgt := 364) hx hb dL_law_62 (by have y0 := lv_neT (k := 0) (a := 0) h0 (by decide); have y1 := lv_neT (k := 1) (a := 1) h1 (by decide); have y2 := lv_neT (k := 2) (a := 2) h2 (by decide); have y3 := lv_neT (k := 3) (a := 3) h3 (by decide); have y4 := lv_neT (k := 4) (a := 4) h4 (by decide); have y5 := lv_neT (k := 5) (a := 5) h5 (by decide); have y6 := lv_neT (k := 6) (a := 6) h6 (by decide); have y7 := lv_neT (k := 7) (a := 7) h7 (by decide); have y8 := lv_neT (k := 8) (a := 8) h8 (by decide); have y9 := lv_neT (k := 9) (a := 9) h9 (by decide); omega) (by decide) ?_
      exact T t z w H locs ls (by omega) hRel hW hl
