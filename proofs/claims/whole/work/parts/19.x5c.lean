def f_X5_octet (z : Sg) (x1 : Int32) : Int32 × Sg := bd (pI z 0 0) (fun z21 => bd (f_X5_pass z21 (x1 &&& 255)) (fun z23 => (gI z23 16, z23)))
def s_X5_octet (z : Sg) (x1 : Int32) : Prop := bd (pI z 0 0) (fun z21 => (s_X5_pass z21 (x1 &&& 255)) ∧ True)
theorem hd_X5_octet : yX5_octet.cls = RX5 ∧ yX5_octet.cls ≠ "java/lang/invoke/MethodHandle" ∧ yX5_octet.cls ≠ "java/lang/invoke/VarHandle" ∧ (parseMethodDescriptor yX5_octet.desc).map (fun d => d.parameters.length) = some 1 := by decide +kernel
set_option maxHeartbeats 4000000 in
set_option maxRecDepth 100000 in
theorem c_X5_octet (l : Launch) (D : va_G) (g : Gv) (z : Sg) (x1 : Int32) {r : Int32 × Sg} (er : r = f_X5_octet z x1) (hs : s_X5_octet z x1) : CT D (wM g) (tM g) l yX5_octet (wG yX5_octet cX5_octet 2 (some .int)) { frames := 7, cells := 0, slots := 0, locals := 162 } [.ref (g.1 0), .int x1] z (some (.int r.1)) r.2 := by
  refine CT.ofW (by decide) (Nat.le_of_ble_eq_true rfl) ?_
  intro p e R s m args below meth c A hR S hr hlocks hA hW ls hl
  have S : CallFix p m c cX5_octet 2 s args wsL_law RX5 := S
  have hl : lv_has ls 2 [(0, .ref (g.1 0)), (1, .int x1)] := hl
  have hx := S.1
  have hb := S.2.1
  have hf := er.symm
  clear er
  unfold f_X5_octet at hf
  unfold s_X5_octet at hs
  refine lv_aload_n hx hb dX5_octet_0 rfl (lv_at hl 0 rfl) ?_
  refine lv_iconst (v := 0) hx hb dX5_octet_1 (by decide) ?_
  obtain ⟨z21, ez21, hf⟩ := bd_e hf
  replace hs := bd_s ez21 hs
  refine pX5_thrown S hW kf_X5_54 dX5_octet_2 ez21 (fun H locs hW => ?_)
  refine lv_aload_n hx hb dX5_octet_5 rfl (lv_at hl 0 rfl) ?_
  refine lv_iload_n hx hb dX5_octet_6 rfl (lv_at hl 1 rfl) ?_
  refine lv_sipush (v := 255) hx hb dX5_octet_7 (by decide) ?_
  refine lv_iand hx hb dX5_octet_10 ?_
  obtain ⟨q22, hs⟩ := hs
  obtain ⟨z23, ez23, hf⟩ := bd_e hf
  refine ct_V (As := [.int (x1 &&& 255)]) (rest := []) (st1 := []) (q0 := 0) (ci := 5) S hA hW (c_X5_pass l D g z21 (x1 &&& 255) ez23 q22) (wG_V km_X5_191 ki_yX5_pass ks_yX5_pass kn_X5 kc_yX5_pass) ⟨rfl, rfl⟩ hd_X5_pass (by rw [hR]; exact ⟨Nat.le_of_ble_eq_true rfl, Nat.le_of_ble_eq_true rfl⟩) rfl rfl rfl rfl hl.1 rfl (Nat.le_of_ble_eq_true rfl) ⟨Nat.zero_le _, Nat.zero_le _⟩ dX5_octet_11 rfl (fun H locs hW => ?_)
  refine lv_aload_n hx hb dX5_octet_14 rfl (lv_at hl 0 rfl) ?_
  refine gX5_sent S hW kf_X5_172 dX5_octet_15 ?_
  subst hf
  exact ct_i S hr hlocks hW dX5_octet_18
def f_X5_octets (z : Sg) (x1 : Int32) : Int32 × Sg := bd (pI z 0 0) (fun z21 => bd (f_X5_pass z21 ((x1 >>> (24 &&& 31)) &&& 255)) (fun z23 => bd (f_X5_pass z23 ((x1 >>> (16 &&& 31)) &&& 255)) (fun z25 => bd (f_X5_pass z25 ((x1 >>> (8 &&& 31)) &&& 255)) (fun z27 => bd (f_X5_pass z27 ((x1 >>> (0 &&& 31)) &&& 255)) (fun z29 => (gI z29 16, z29))))))
def s_X5_octets (z : Sg) (x1 : Int32) : Prop := bd (pI z 0 0) (fun z21 => (s_X5_pass z21 ((x1 >>> (24 &&& 31)) &&& 255)) ∧ bd (f_X5_pass z21 ((x1 >>> (24 &&& 31)) &&& 255)) (fun z23 => (s_X5_pass z23 ((x1 >>> (16 &&& 31)) &&& 255)) ∧ bd (f_X5_pass z23 ((x1 >>> (16 &&& 31)) &&& 255)) (fun z25 => (s_X5_pass z25 ((x1 >>> (8 &&& 31)) &&& 255)) ∧ bd (f_X5_pass z25 ((x1 >>> (8 &&& 31)) &&& 255)) (fun z27 => (s_X5_pass z27 ((x1 >>> (0 &&& 31)) &&& 255)) ∧ True))))
theorem hd_X5_octets : yX5_octets.cls = RX5 ∧ yX5_octets.cls ≠ "java/lang/invoke/MethodHandle" ∧ yX5_octets.cls ≠ "java/lang/invoke/VarHandle" ∧ (parseMethodDescriptor yX5_octets.desc).map (fun d => d.parameters.length) = some 1 := by decide +kernel
set_option maxHeartbeats 4000000 in
set_option maxRecDepth 100000 in
theorem c_X5_octets (l : Launch) (D : va_G) (g : Gv) (z : Sg) (x1 : Int32) {r : Int32 × Sg} (er : r = f_X5_octets z x1) (hs : s_X5_octets z x1) : CT D (wM g) (tM g) l yX5_octets (wG yX5_octets cX5_octets 3 (some .int)) { frames := 7, cells := 0, slots := 0, locals := 162 } [.ref (g.1 0), .int x1] z (some (.int r.1)) r.2 := by
  refine CT.ofW (by decide) (Nat.le_of_ble_eq_true rfl) ?_
  intro p e R s m args below meth c A hR S hr hlocks hA hW ls hl
  have S : CallFix p m c cX5_octets 3 s args wsL_law RX5 := S
  have hl : lv_has ls 3 [(0, .ref (g.1 0)), (1, .int x1)] := hl
  have hx := S.1
  have hb := S.2.1
  have hf := er.symm
  clear er
  unfold f_X5_octets at hf
  unfold s_X5_octets at hs
  refine lv_aload_n hx hb dX5_octets_0 rfl (lv_at hl 0 rfl) ?_
  refine lv_iconst (v := 0) hx hb dX5_octets_1 (by decide) ?_
  obtain ⟨z21, ez21, hf⟩ := bd_e hf
  replace hs := bd_s ez21 hs
  refine pX5_thrown S hW kf_X5_54 dX5_octets_2 ez21 (fun H locs hW => ?_)
  refine lv_bipush (v := 24) hx hb dX5_octets_5 (by decide) ?_
  refine lv_istore_n (lv' := [(2, .int 24), (0, .ref (g.1 0)), (1, .int x1)]) hx hb dX5_octets_7 rfl hl (by decide) rfl (fun ls hl => ?_)
  refine lv_iload_n hx hb dX5_octets_8 rfl (lv_at hl 0 rfl) ?_
  refine lv_if_lt (tgt := 29) hx hb dX5_octets_9 (by decide) (fun c => absurd c (by decide)) (fun _ => ?_)
  refine lv_aload_n hx hb dX5_octets_12 rfl (lv_at hl 1 rfl) ?_
  refine lv_iload_n hx hb dX5_octets_13 rfl (lv_at hl 2 rfl) ?_
  refine lv_iload_n hx hb dX5_octets_14 rfl (lv_at hl 0 rfl) ?_
  refine lv_ishr hx hb dX5_octets_15 ?_
  refine lv_sipush (v := 255) hx hb dX5_octets_16 (by decide) ?_
  refine lv_iand hx hb dX5_octets_19 ?_
  obtain ⟨q22, hs⟩ := hs
  obtain ⟨z23, ez23, hf⟩ := bd_e hf
  replace hs := bd_s ez23 hs
  refine ct_V (As := [.int ((x1 >>> (24 &&& 31)) &&& 255)]) (rest := []) (st1 := []) (q0 := 0) (ci := 5) S hA hW (c_X5_pass l D g z21 ((x1 >>> (24 &&& 31)) &&& 255) ez23 q22) (wG_V km_X5_191 ki_yX5_pass ks_yX5_pass kn_X5 kc_yX5_pass) ⟨rfl, rfl⟩ hd_X5_pass (by rw [hR]; exact ⟨Nat.le_of_ble_eq_true rfl, Nat.le_of_ble_eq_true rfl⟩) rfl rfl rfl rfl hl.1 rfl (Nat.le_of_ble_eq_true rfl) ⟨Nat.zero_le _, Nat.zero_le _⟩ dX5_octets_20 rfl (fun H locs hW => ?_)
  refine lv_iinc (v := 16) (lv' := [(2, .int 16), (0, .ref (g.1 0)), (1, .int x1)]) hx hb dX5_octets_23 hl (k := 0) rfl (by decide) (by decide) rfl (fun ls hl => ?_)
  refine lv_goto (tgt := 8) hx hb dX5_octets_26 (by decide) ?_
  refine lv_iload_n hx hb dX5_octets_8 rfl (lv_at hl 0 rfl) ?_
  refine lv_if_lt (tgt := 29) hx hb dX5_octets_9 (by decide) (fun c => absurd c (by decide)) (fun _ => ?_)
  refine lv_aload_n hx hb dX5_octets_12 rfl (lv_at hl 1 rfl) ?_
  refine lv_iload_n hx hb dX5_octets_13 rfl (lv_at hl 2 rfl) ?_
  refine lv_iload_n hx hb dX5_octets_14 rfl (lv_at hl 0 rfl) ?_
  refine lv_ishr hx hb dX5_octets_15 ?_
  refine lv_sipush (v := 255) hx hb dX5_octets_16 (by decide) ?_
  refine lv_iand hx hb dX5_octets_19 ?_
  obtain ⟨q24, hs⟩ := hs
  obtain ⟨z25, ez25, hf⟩ := bd_e hf
  replace hs := bd_s ez25 hs
  refine ct_V (As := [.int ((x1 >>> (16 &&& 31)) &&& 255)]) (rest := []) (st1 := []) (q0 := 0) (ci := 5) S hA hW (c_X5_pass l D g z23 ((x1 >>> (16 &&& 31)) &&& 255) ez25 q24) (wG_V km_X5_191 ki_yX5_pass ks_yX5_pass kn_X5 kc_yX5_pass) ⟨rfl, rfl⟩ hd_X5_pass (by rw [hR]; exact ⟨Nat.le_of_ble_eq_true rfl, Nat.le_of_ble_eq_true rfl⟩) rfl rfl rfl rfl hl.1 rfl (Nat.le_of_ble_eq_true rfl) ⟨Nat.zero_le _, Nat.zero_le _⟩ dX5_octets_20 rfl (fun H locs hW => ?_)
  refine lv_iinc (v := 8) (lv' := [(2, .int 8), (0, .ref (g.1 0)), (1, .int x1)]) hx hb dX5_octets_23 hl (k := 0) rfl (by decide) (by decide) rfl (fun ls hl => ?_)
  refine lv_goto (tgt := 8) hx hb dX5_octets_26 (by decide) ?_
  refine lv_iload_n hx hb dX5_octets_8 rfl (lv_at hl 0 rfl) ?_
  refine lv_if_lt (tgt := 29) hx hb dX5_octets_9 (by decide) (fun c => absurd c (by decide)) (fun _ => ?_)
  refine lv_aload_n hx hb dX5_octets_12 rfl (lv_at hl 1 rfl) ?_
  refine lv_iload_n hx hb dX5_octets_13 rfl (lv_at hl 2 rfl) ?_
  refine lv_iload_n hx hb dX5_octets_14 rfl (lv_at hl 0 rfl) ?_
  refine lv_ishr hx hb dX5_octets_15 ?_
  refine lv_sipush (v := 255) hx hb dX5_octets_16 (by decide) ?_
  refine lv_iand hx hb dX5_octets_19 ?_
  obtain ⟨q26, hs⟩ := hs
  obtain ⟨z27, ez27, hf⟩ := bd_e hf
  replace hs := bd_s ez27 hs
  refine ct_V (As := [.int ((x1 >>> (8 &&& 31)) &&& 255)]) (rest := []) (st1 := []) (q0 := 0) (ci := 5) S hA hW (c_X5_pass l D g z25 ((x1 >>> (8 &&& 31)) &&& 255) ez27 q26) (wG_V km_X5_191 ki_yX5_pass ks_yX5_pass kn_X5 kc_yX5_pass) ⟨rfl, rfl⟩ hd_X5_pass (by rw [hR]; exact ⟨Nat.le_of_ble_eq_true rfl, Nat.le_of_ble_eq_true rfl⟩) rfl rfl rfl rfl hl.1 rfl (Nat.le_of_ble_eq_true rfl) ⟨Nat.zero_le _, Nat.zero_le _⟩ dX5_octets_20 rfl (fun H locs hW => ?_)
  refine lv_iinc (v := 0) (lv' := [(2, .int 0), (0, .ref (g.1 0)), (1, .int x1)]) hx hb dX5_octets_23 hl (k := 0) rfl (by decide) (by decide) rfl (fun ls hl => ?_)
  refine lv_goto (tgt := 8) hx hb dX5_octets_26 (by decide) ?_
  refine lv_iload_n hx hb dX5_octets_8 rfl (lv_at hl 0 rfl) ?_
  refine lv_if_lt (tgt := 29) hx hb dX5_octets_9 (by decide) (fun c => absurd c (by decide)) (fun _ => ?_)
  refine lv_aload_n hx hb dX5_octets_12 rfl (lv_at hl 1 rfl) ?_
  refine lv_iload_n hx hb dX5_octets_13 rfl (lv_at hl 2 rfl) ?_
  refine lv_iload_n hx hb dX5_octets_14 rfl (lv_at hl 0 rfl) ?_
  refine lv_ishr hx hb dX5_octets_15 ?_
  refine lv_sipush (v := 255) hx hb dX5_octets_16 (by decide) ?_
  refine lv_iand hx hb dX5_octets_19 ?_
  obtain ⟨q28, hs⟩ := hs
  obtain ⟨z29, ez29, hf⟩ := bd_e hf
  refine ct_V (As := [.int ((x1 >>> (0 &&& 31)) &&& 255)]) (rest := []) (st1 := []) (q0 := 0) (ci := 5) S hA hW (c_X5_pass l D g z27 ((x1 >>> (0 &&& 31)) &&& 255) ez29 q28) (wG_V km_X5_191 ki_yX5_pass ks_yX5_pass kn_X5 kc_yX5_pass) ⟨rfl, rfl⟩ hd_X5_pass (by rw [hR]; exact ⟨Nat.le_of_ble_eq_true rfl, Nat.le_of_ble_eq_true rfl⟩) rfl rfl rfl rfl hl.1 rfl (Nat.le_of_ble_eq_true rfl) ⟨Nat.zero_le _, Nat.zero_le _⟩ dX5_octets_20 rfl (fun H locs hW => ?_)
  refine lv_iinc (v := (-8)) (lv' := [(2, .int (-8)), (0, .ref (g.1 0)), (1, .int x1)]) hx hb dX5_octets_23 hl (k := 0) rfl (by decide) (by decide) rfl (fun ls hl => ?_)
  refine lv_goto (tgt := 8) hx hb dX5_octets_26 (by decide) ?_
  refine lv_iload_n hx hb dX5_octets_8 rfl (lv_at hl 0 rfl) ?_
  refine lv_if_lt (tgt := 29) hx hb dX5_octets_9 (by decide) (fun _ => ?_) (fun c => absurd (by decide) c)
  refine lv_aload_n hx hb dX5_octets_29 rfl (lv_at hl 1 rfl) ?_
  refine gX5_sent S hW kf_X5_172 dX5_octets_30 ?_
  subst hf
  exact ct_i S hr hlocks hW dX5_octets_33
def f_X5_tick_21 : Nat → Sg → Int32 → Int32 → Int32 × Sg
  | 0, z, _, _ => (0, z)
  | n + 1, z, y1, y2 => (if y1 ≤ y2 then (gI z 16, z) else bd (f_X5_pass z (-1)) (fun z26 => bd (y2 + 1) (fun x27 => f_X5_tick_21 n z26 y1 x27)))
def s_X5_tick_21 : Nat → Sg → Int32 → Int32 → Prop
  | 0, _, _, _ => False
  | n + 1, z, y1, y2 => (y1 ≤ y2 → True) ∧ (¬ y1 ≤ y2 → (s_X5_pass z (-1)) ∧ bd (f_X5_pass z (-1)) (fun z26 => bd (y2 + 1) (fun x27 => s_X5_tick_21 n z26 y1 x27)))
def f_X5_tick (z : Sg) (x1 : Int32) : Int32 × Sg := bd (pI z 0 0) (fun z21 => (if x1 < 1 then ((-1), z21) else (if x1 ≤ 1000 then f_X5_tick_21 1001 z21 x1 0 else ((-1), z21))))
def s_X5_tick (z : Sg) (x1 : Int32) : Prop := bd (pI z 0 0) (fun z21 => (x1 < 1 → True) ∧ (¬ x1 < 1 → (x1 ≤ 1000 → s_X5_tick_21 1001 z21 x1 0) ∧ (¬ x1 ≤ 1000 → True)))
theorem hd_X5_tick : yX5_tick.cls = RX5 ∧ yX5_tick.cls ≠ "java/lang/invoke/MethodHandle" ∧ yX5_tick.cls ≠ "java/lang/invoke/VarHandle" ∧ (parseMethodDescriptor yX5_tick.desc).map (fun d => d.parameters.length) = some 1 := by decide +kernel
set_option maxHeartbeats 4000000 in
set_option maxRecDepth 100000 in
theorem c_X5_tick (l : Launch) (D : va_G) (g : Gv) (z : Sg) (x1 : Int32) {r : Int32 × Sg} (er : r = f_X5_tick z x1) (hs : s_X5_tick z x1) : CT D (wM g) (tM g) l yX5_tick (wG yX5_tick cX5_tick 3 (some .int)) { frames := 7, cells := 0, slots := 0, locals := 162 } [.ref (g.1 0), .int x1] z (some (.int r.1)) r.2 := by
  refine CT.ofW (by decide) (Nat.le_of_ble_eq_true rfl) ?_
  intro p e R s m args below meth c A hR S hr hlocks hA hW ls hl
  have S : CallFix p m c cX5_tick 3 s args wsL_law RX5 := S
  have hl : lv_has ls 3 [(0, .ref (g.1 0)), (1, .int x1)] := hl
  have hx := S.1
  have hb := S.2.1
  have hf := er.symm
  clear er
  have J_21 : ∀ (n : Nat) (z : Sg) (y1 : Int32) (y2 : Int32) (H : Heap) (locs : List Loc) (ls : Array Slot), Wd D (wM g) (tM g) A s H locs z → lv_has ls 3 [(0, .ref (g.1 0)), (1, .int y1), (2, .int y2)] → s_X5_tick_21 n z y1 y2 → f_X5_tick_21 n z y1 y2 = r → W p l e R s m args below meth c H locs 0 0 (MQ below (CQ D (wM g) A (some (.int r.1)) r.2) args s 0 0 A) (F0 m 21 ls []) := by
    intro n
    induction n with
    | zero =>
      intro z y1 y2 H locs ls hW hl hs hf
      exact absurd hs (by rw [s_X5_tick_21]; exact id)
    | succ n ih =>
      intro z y1 y2 H locs ls hW hl hs hf
      rw [f_X5_tick_21] at hf
      rw [s_X5_tick_21] at hs
      refine lv_iload_n hx hb dX5_tick_21 rfl (lv_at hl 2 rfl) ?_
      refine lv_iload_n hx hb dX5_tick_22 rfl (lv_at hl 1 rfl) ?_
      refine lv_icmp_ge (tgt := 37) hx hb dX5_tick_23 (by decide) (fun c24 => ?_) (fun c24 => ?_)
      · replace hf := if_t c24 hf
        replace hs := hs.1 c24
        refine lv_aload_n hx hb dX5_tick_37 rfl (lv_at hl 0 rfl) ?_
        refine gX5_sent S hW kf_X5_172 dX5_tick_38 ?_
        subst hf
        exact ct_i S hr hlocks hW dX5_tick_41
      · replace hf := if_f c24 hf
        replace hs := hs.2 c24
        refine lv_aload_n hx hb dX5_tick_26 rfl (lv_at hl 0 rfl) ?_
        refine lv_iconst (v := (-1)) hx hb dX5_tick_27 (by decide) ?_
        obtain ⟨q25, hs⟩ := hs
        obtain ⟨z26, ez26, hf⟩ := bd_e hf
        replace hs := bd_s ez26 hs
        refine ct_V (As := [.int (-1)]) (rest := []) (st1 := []) (q0 := 0) (ci := 5) S hA hW (c_X5_pass l D g z (-1) ez26 q25) (wG_V km_X5_191 ki_yX5_pass ks_yX5_pass kn_X5 kc_yX5_pass) ⟨rfl, rfl⟩ hd_X5_pass (by rw [hR]; exact ⟨Nat.le_of_ble_eq_true rfl, Nat.le_of_ble_eq_true rfl⟩) rfl rfl rfl rfl hl.1 rfl (Nat.le_of_ble_eq_true rfl) ⟨Nat.zero_le _, Nat.zero_le _⟩ dX5_tick_28 rfl (fun H locs hW => ?_)
        obtain ⟨x27, ex27, hf⟩ := bd_e hf
        replace hs := bd_s ex27 hs
        refine lv_iinc (v := x27) (lv' := [(2, .int x27), (0, .ref (g.1 0)), (1, .int y1)]) hx hb dX5_tick_31 hl (k := 2) rfl ex27.symm (by decide) rfl (fun ls hl => ?_)
        refine lv_goto (tgt := 21) hx hb dX5_tick_34 (by decide) ?_
        exact ih z26 y1 x27 _ _ ls hW (lv_sub hl [1, 2, 0] rfl) hs hf
  unfold f_X5_tick at hf
  unfold s_X5_tick at hs
  refine lv_aload_n hx hb dX5_tick_0 rfl (lv_at hl 0 rfl) ?_
  refine lv_iconst (v := 0) hx hb dX5_tick_1 (by decide) ?_
  obtain ⟨z21, ez21, hf⟩ := bd_e hf
  replace hs := bd_s ez21 hs
  refine pX5_thrown S hW kf_X5_54 dX5_tick_2 ez21 (fun H locs hW => ?_)
  refine lv_iload_n hx hb dX5_tick_5 rfl (lv_at hl 1 rfl) ?_
  refine lv_iconst (v := 1) hx hb dX5_tick_6 (by decide) ?_
  refine lv_icmp_lt (tgt := 17) hx hb dX5_tick_7 (by decide) (fun c22 => ?_) (fun c22 => ?_)
  · replace hf := if_t c22 hf
    replace hs := hs.1 c22
    refine lv_iconst (v := (-1)) hx hb dX5_tick_17 (by decide) ?_
    subst hf
    exact ct_i S hr hlocks hW dX5_tick_18
  · replace hf := if_f c22 hf
    replace hs := hs.2 c22
    refine lv_iload_n hx hb dX5_tick_10 rfl (lv_at hl 1 rfl) ?_
    refine lv_sipush (v := 1000) hx hb dX5_tick_11 (by decide) ?_
    refine lv_icmp_le (tgt := 19) hx hb dX5_tick_14 (by decide) (fun c23 => ?_) (fun c23 => ?_)
    · replace hf := if_t c23 hf
      replace hs := hs.1 c23
      refine lv_iconst (v := 0) hx hb dX5_tick_19 (by decide) ?_
      refine lv_istore_n (lv' := [(2, .int 0), (0, .ref (g.1 0)), (1, .int x1)]) hx hb dX5_tick_20 rfl hl (by decide) rfl (fun ls hl => ?_)
      exact (J_21 1001) z21 x1 0 _ _ ls hW (lv_sub hl [1, 2, 0] rfl) hs hf
    · replace hf := if_f c23 hf
      replace hs := hs.2 c23
      refine lv_iconst (v := (-1)) hx hb dX5_tick_17 (by decide) ?_
      subst hf
      exact ct_i S hr hlocks hW dX5_tick_18
def f_X5_isKept (z : Sg) (x1 : Int32) : Int32 × Sg := (if x1 < 0 then (0, z) else (if (gI z 16) ≤ x1 then (0, z) else (if 2000 < ((gI z 16) - x1) then (0, z) else (1, z))))
theorem hd_X5_isKept : yX5_isKept.cls = RX5 ∧ yX5_isKept.cls ≠ "java/lang/invoke/MethodHandle" ∧ yX5_isKept.cls ≠ "java/lang/invoke/VarHandle" ∧ (parseMethodDescriptor yX5_isKept.desc).map (fun d => d.parameters.length) = some 1 := by decide +kernel
set_option maxHeartbeats 4000000 in
set_option maxRecDepth 100000 in
theorem c_X5_isKept (l : Launch) (D : va_G) (g : Gv) (z : Sg) (x1 : Int32) {r : Int32 × Sg} (er : r = f_X5_isKept z x1) : CT D (wM g) (tM g) l yX5_isKept (wG yX5_isKept cX5_isKept 2 (some .boolean)) { frames := 0, cells := 0, slots := 0, locals := 0 } [.ref (g.1 0), .int x1] z (some (.int r.1)) r.2 := by
  refine CT.ofW (by decide) (Nat.le_of_ble_eq_true rfl) ?_
  intro p e R s m args below meth c A hR S hr hlocks hA hW ls hl
  have S : CallFix p m c cX5_isKept 2 s args wsL_law RX5 := S
  have hl : lv_has ls 2 [(0, .ref (g.1 0)), (1, .int x1)] := hl
  have hx := S.1
  have hb := S.2.1
  have hf := er.symm
  clear er
  unfold f_X5_isKept at hf
  refine lv_iload_n hx hb dX5_isKept_0 rfl (lv_at hl 1 rfl) ?_
  refine lv_if_lt (tgt := 28) hx hb dX5_isKept_1 (by decide) (fun c21 => ?_) (fun c21 => ?_)
  · replace hf := if_t c21 hf
    refine lv_iconst (v := 0) hx hb dX5_isKept_28 (by decide) ?_
    subst hf
    exact ct_z (Or.inl rfl) S hr hlocks hW dX5_isKept_29
  · replace hf := if_f c21 hf
    refine lv_iload_n hx hb dX5_isKept_4 rfl (lv_at hl 1 rfl) ?_
    refine lv_aload_n hx hb dX5_isKept_5 rfl (lv_at hl 0 rfl) ?_
    refine gX5_sent S hW kf_X5_172 dX5_isKept_6 ?_
    refine lv_icmp_ge (tgt := 28) hx hb dX5_isKept_9 (by decide) (fun c22 => ?_) (fun c22 => ?_)
    · replace hf := if_t c22 hf
      refine lv_iconst (v := 0) hx hb dX5_isKept_28 (by decide) ?_
      subst hf
      exact ct_z (Or.inl rfl) S hr hlocks hW dX5_isKept_29
    · replace hf := if_f c22 hf
      refine lv_aload_n hx hb dX5_isKept_12 rfl (lv_at hl 0 rfl) ?_
      refine gX5_sent S hW kf_X5_172 dX5_isKept_13 ?_
      refine lv_iload_n hx hb dX5_isKept_16 rfl (lv_at hl 1 rfl) ?_
      refine lv_isub hx hb dX5_isKept_17 ?_
      refine lv_sipush (v := 2000) hx hb dX5_isKept_18 (by decide) ?_
      refine lv_icmp_gt (tgt := 28) hx hb dX5_isKept_21 (by decide) (fun c23 => ?_) (fun c23 => ?_)
      · replace hf := if_t c23 hf
        refine lv_iconst (v := 0) hx hb dX5_isKept_28 (by decide) ?_
        subst hf
        exact ct_z (Or.inl rfl) S hr hlocks hW dX5_isKept_29
      · replace hf := if_f c23 hf
        refine lv_iconst (v := 1) hx hb dX5_isKept_24 (by decide) ?_
        refine lv_goto (tgt := 29) hx hb dX5_isKept_25 (by decide) ?_
        subst hf
        exact ct_z (Or.inr rfl) S hr hlocks hW dX5_isKept_29
def f_X5_sent (z : Sg) (x1 : Int32) : Int32 × Sg := bd (pI z 0 0) (fun z21 => bd (f_X5_isKept z21 x1) (fun r22 => (if r22.1 = 0 then ((-1), r22.2) else (gA r22.2 7 (Int32.toNatClampNeg (x1 - x1 / 2000 * 2000)), r22.2))))
def s_X5_sent (z : Sg) (x1 : Int32) : Prop := bd (pI z 0 0) (fun z21 => bd (f_X5_isKept z21 x1) (fun r22 => (r22.1 = 0 → True) ∧ (¬ r22.1 = 0 → (vp_in (x1 - x1 / 2000 * 2000) 2000) ∧ True)))
theorem hd_X5_sent : yX5_sent.cls = RX5 ∧ yX5_sent.cls ≠ "java/lang/invoke/MethodHandle" ∧ yX5_sent.cls ≠ "java/lang/invoke/VarHandle" ∧ (parseMethodDescriptor yX5_sent.desc).map (fun d => d.parameters.length) = some 1 := by decide +kernel
set_option maxHeartbeats 4000000 in
set_option maxRecDepth 100000 in
theorem c_X5_sent (l : Launch) (D : va_G) (g : Gv) (z : Sg) (x1 : Int32) {r : Int32 × Sg} (er : r = f_X5_sent z x1) (hs : s_X5_sent z x1) : CT D (wM g) (tM g) l yX5_sent (wG yX5_sent cX5_sent 2 (some .int)) { frames := 1, cells := 0, slots := 0, locals := 21 } [.ref (g.1 0), .int x1] z (some (.int r.1)) r.2 := by
  refine CT.ofW (by decide) (Nat.le_of_ble_eq_true rfl) ?_
  intro p e R s m args below meth c A hR S hr hlocks hA hW ls hl
  have S : CallFix p m c cX5_sent 2 s args wsL_law RX5 := S
  have hl : lv_has ls 2 [(0, .ref (g.1 0)), (1, .int x1)] := hl
  have hx := S.1
  have hb := S.2.1
  have hf := er.symm
  clear er
  unfold f_X5_sent at hf
  unfold s_X5_sent at hs
  refine lv_aload_n hx hb dX5_sent_0 rfl (lv_at hl 0 rfl) ?_
  refine lv_iconst (v := 0) hx hb dX5_sent_1 (by decide) ?_
  obtain ⟨z21, ez21, hf⟩ := bd_e hf
  replace hs := bd_s ez21 hs
  refine pX5_thrown S hW kf_X5_54 dX5_sent_2 ez21 (fun H locs hW => ?_)
  refine lv_aload_n hx hb dX5_sent_5 rfl (lv_at hl 0 rfl) ?_
  refine lv_iload_n hx hb dX5_sent_6 rfl (lv_at hl 1 rfl) ?_
  obtain ⟨r22, er22, hf⟩ := bd_e hf
  replace hs := bd_s er22 hs
  refine ct_V (As := [.int x1]) (rest := []) (st1 := [.int r22.1]) (q0 := 0) (ci := 5) S hA hW (c_X5_isKept l D g z21 x1 er22) (wG_V km_X5_194 ki_yX5_isKept ks_yX5_isKept kn_X5 kc_yX5_isKept) ⟨rfl, rfl⟩ hd_X5_isKept (by rw [hR]; exact ⟨Nat.le_of_ble_eq_true rfl, Nat.le_of_ble_eq_true rfl⟩) rfl rfl rfl rfl hl.1 rfl (Nat.le_of_ble_eq_true rfl) ⟨Nat.zero_le _, Nat.zero_le _⟩ dX5_sent_7 rfl (fun H locs hW => ?_)
  refine lv_if_eq (tgt := 26) hx hb dX5_sent_10 (by decide) (fun c23 => ?_) (fun c23 => ?_)
  · replace hf := if_t c23 hf
    replace hs := hs.1 c23
    refine lv_iconst (v := (-1)) hx hb dX5_sent_26 (by decide) ?_
    subst hf
    exact ct_i S hr hlocks hW dX5_sent_27
  · replace hf := if_f c23 hf
    replace hs := hs.2 c23
    refine lv_aload_n hx hb dX5_sent_13 rfl (lv_at hl 0 rfl) ?_
    refine gX5_sentBytes S hW kf_X5_48 dX5_sent_14 ?_
    refine lv_iload_n hx hb dX5_sent_17 rfl (lv_at hl 1 rfl) ?_
    refine lv_sipush (v := 2000) hx hb dX5_sent_18 (by decide) ?_
    refine lv_irem hx hb dX5_sent_21 (by decide) ?_
    obtain ⟨q24, hs⟩ := hs
    refine aM7 S hW q24 dX5_sent_22 ?_
    refine lv_goto (tgt := 27) hx hb dX5_sent_23 (by decide) ?_
    subst hf
    exact ct_i S hr hlocks hW dX5_sent_27
def f_X5_when (z : Sg) (x1 : Int32) : Int32 × Sg := bd (pI z 0 0) (fun z21 => bd (f_X5_isKept z21 x1) (fun r22 => (if r22.1 = 0 then ((-1), r22.2) else (gA r22.2 8 (Int32.toNatClampNeg (x1 - x1 / 2000 * 2000)), r22.2))))
def s_X5_when (z : Sg) (x1 : Int32) : Prop := bd (pI z 0 0) (fun z21 => bd (f_X5_isKept z21 x1) (fun r22 => (r22.1 = 0 → True) ∧ (¬ r22.1 = 0 → (vp_in (x1 - x1 / 2000 * 2000) 2000) ∧ True)))
theorem hd_X5_when : yX5_when.cls = RX5 ∧ yX5_when.cls ≠ "java/lang/invoke/MethodHandle" ∧ yX5_when.cls ≠ "java/lang/invoke/VarHandle" ∧ (parseMethodDescriptor yX5_when.desc).map (fun d => d.parameters.length) = some 1 := by decide +kernel
set_option maxHeartbeats 4000000 in
set_option maxRecDepth 100000 in
theorem c_X5_when (l : Launch) (D : va_G) (g : Gv) (z : Sg) (x1 : Int32) {r : Int32 × Sg} (er : r = f_X5_when z x1) (hs : s_X5_when z x1) : CT D (wM g) (tM g) l yX5_when (wG yX5_when cX5_when 2 (some .int)) { frames := 1, cells := 0, slots := 0, locals := 21 } [.ref (g.1 0), .int x1] z (some (.int r.1)) r.2 := by
  refine CT.ofW (by decide) (Nat.le_of_ble_eq_true rfl) ?_
  intro p e R s m args below meth c A hR S hr hlocks hA hW ls hl
  have S : CallFix p m c cX5_when 2 s args wsL_law RX5 := S
  have hl : lv_has ls 2 [(0, .ref (g.1 0)), (1, .int x1)] := hl
  have hx := S.1
  have hb := S.2.1
  have hf := er.symm
  clear er
  unfold f_X5_when at hf
  unfold s_X5_when at hs
  refine lv_aload_n hx hb dX5_when_0 rfl (lv_at hl 0 rfl) ?_
  refine lv_iconst (v := 0) hx hb dX5_when_1 (by decide) ?_
  obtain ⟨z21, ez21, hf⟩ := bd_e hf
  replace hs := bd_s ez21 hs
  refine pX5_thrown S hW kf_X5_54 dX5_when_2 ez21 (fun H locs hW => ?_)
  refine lv_aload_n hx hb dX5_when_5 rfl (lv_at hl 0 rfl) ?_
  refine lv_iload_n hx hb dX5_when_6 rfl (lv_at hl 1 rfl) ?_
  obtain ⟨r22, er22, hf⟩ := bd_e hf
  replace hs := bd_s er22 hs
  refine ct_V (As := [.int x1]) (rest := []) (st1 := [.int r22.1]) (q0 := 0) (ci := 5) S hA hW (c_X5_isKept l D g z21 x1 er22) (wG_V km_X5_194 ki_yX5_isKept ks_yX5_isKept kn_X5 kc_yX5_isKept) ⟨rfl, rfl⟩ hd_X5_isKept (by rw [hR]; exact ⟨Nat.le_of_ble_eq_true rfl, Nat.le_of_ble_eq_true rfl⟩) rfl rfl rfl rfl hl.1 rfl (Nat.le_of_ble_eq_true rfl) ⟨Nat.zero_le _, Nat.zero_le _⟩ dX5_when_7 rfl (fun H locs hW => ?_)
  refine lv_if_eq (tgt := 26) hx hb dX5_when_10 (by decide) (fun c23 => ?_) (fun c23 => ?_)
  · replace hf := if_t c23 hf
    replace hs := hs.1 c23
    refine lv_iconst (v := (-1)) hx hb dX5_when_26 (by decide) ?_
    subst hf
    exact ct_i S hr hlocks hW dX5_when_27
  · replace hf := if_f c23 hf
    replace hs := hs.2 c23
    refine lv_aload_n hx hb dX5_when_13 rfl (lv_at hl 0 rfl) ?_
    refine gX5_sentTicks S hW kf_X5_51 dX5_when_14 ?_
    refine lv_iload_n hx hb dX5_when_17 rfl (lv_at hl 1 rfl) ?_
    refine lv_sipush (v := 2000) hx hb dX5_when_18 (by decide) ?_
    refine lv_irem hx hb dX5_when_21 (by decide) ?_
    obtain ⟨q24, hs⟩ := hs
    refine aM8 S hW q24 dX5_when_22 ?_
    refine lv_goto (tgt := 27) hx hb dX5_when_23 (by decide) ?_
    subst hf
    exact ct_i S hr hlocks hW dX5_when_27
def f_X5_variable (z : Sg) (x1 : Int32) (x2 : Int32) : Int64 × Sg := bd (pI z 0 0) (fun z21 => (if x1 < 0 then ((-1 : Int64), z21) else (if x1 ≤ 3 then bd (gA z21 2 (Int32.toNatClampNeg x1)) (fun x25 => bd (pA z21 2 (Int32.toNatClampNeg x1) x2) (fun z27 => (Int32.toInt64 x25, z27))) else ((-1 : Int64), z21))))
def s_X5_variable (z : Sg) (x1 : Int32) (x2 : Int32) : Prop := bd (pI z 0 0) (fun z21 => (x1 < 0 → True) ∧ (¬ x1 < 0 → (x1 ≤ 3 → (vp_in x1 4) ∧ bd (gA z21 2 (Int32.toNatClampNeg x1)) (fun x25 => (vp_in x1 4) ∧ True)) ∧ (¬ x1 ≤ 3 → True)))
theorem hd_X5_variable : yX5_variable.cls = RX5 ∧ yX5_variable.cls ≠ "java/lang/invoke/MethodHandle" ∧ yX5_variable.cls ≠ "java/lang/invoke/VarHandle" ∧ (parseMethodDescriptor yX5_variable.desc).map (fun d => d.parameters.length) = some 2 := by decide +kernel
set_option maxHeartbeats 4000000 in
set_option maxRecDepth 100000 in
theorem c_X5_variable (l : Launch) (D : va_G) (g : Gv) (z : Sg) (x1 : Int32) (x2 : Int32) {r : Int64 × Sg} (er : r = f_X5_variable z x1 x2) (hs : s_X5_variable z x1 x2) : CT D (wM g) (tM g) l yX5_variable (wG yX5_variable cX5_variable 4 (some .long)) { frames := 0, cells := 0, slots := 0, locals := 0 } [.ref (g.1 0), .int x1, .int x2] z (some (.long r.1)) r.2 := by
  refine CT.ofW (by decide) (Nat.le_of_ble_eq_true rfl) ?_
  intro p e R s m args below meth c A hR S hr hlocks hA hW ls hl
  have S : CallFix p m c cX5_variable 4 s args wsL_law RX5 := S
  have hl : lv_has ls 4 [(0, .ref (g.1 0)), (1, .int x1), (2, .int x2)] := hl
  have hx := S.1
  have hb := S.2.1
  have hf := er.symm
  clear er
  unfold f_X5_variable at hf
  unfold s_X5_variable at hs
  refine lv_aload_n hx hb dX5_variable_0 rfl (lv_at hl 0 rfl) ?_
  refine lv_iconst (v := 0) hx hb dX5_variable_1 (by decide) ?_
  obtain ⟨z21, ez21, hf⟩ := bd_e hf
  replace hs := bd_s ez21 hs
  refine pX5_thrown S hW kf_X5_54 dX5_variable_2 ez21 (fun H locs hW => ?_)
  refine lv_iload_n hx hb dX5_variable_5 rfl (lv_at hl 1 rfl) ?_
  refine lv_if_lt (tgt := 14) hx hb dX5_variable_6 (by decide) (fun c22 => ?_) (fun c22 => ?_)
  · replace hf := if_t c22 hf
    replace hs := hs.1 c22
    refine lv_ldc2 (v := (-1)) hx hb S.2.2.2.1 (S.2.2.2.2 _ kl_X5_39) dX5_variable_14 ?_
    subst hf
    exact ct_l S hr hlocks hW dX5_variable_17
  · replace hf := if_f c22 hf
    replace hs := hs.2 c22
    refine lv_iload_n hx hb dX5_variable_9 rfl (lv_at hl 1 rfl) ?_
    refine lv_iconst (v := 3) hx hb dX5_variable_10 (by decide) ?_
    refine lv_icmp_le (tgt := 18) hx hb dX5_variable_11 (by decide) (fun c23 => ?_) (fun c23 => ?_)
    · replace hf := if_t c23 hf
      replace hs := hs.1 c23
      refine lv_aload_n hx hb dX5_variable_18 rfl (lv_at hl 0 rfl) ?_
      refine gX5_variables S hW kf_X5_16 dX5_variable_19 ?_
      refine lv_iload_n hx hb dX5_variable_22 rfl (lv_at hl 1 rfl) ?_
      obtain ⟨q24, hs⟩ := hs
      refine aM2 S hW q24 dX5_variable_23 ?_
      obtain ⟨x25, ex25, hf⟩ := bd_e hf
      replace hs := bd_s ex25 hs
      refine lv_nmi ex25 ?_
      refine lv_istore_n (lv' := [(3, .int x25), (0, .ref (g.1 0)), (1, .int x1), (2, .int x2)]) hx hb dX5_variable_24 rfl hl (by decide) rfl (fun ls hl => ?_)
      refine lv_aload_n hx hb dX5_variable_25 rfl (lv_at hl 1 rfl) ?_
      refine gX5_variables S hW kf_X5_16 dX5_variable_26 ?_
      refine lv_iload_n hx hb dX5_variable_29 rfl (lv_at hl 2 rfl) ?_
      refine lv_iload_n hx hb dX5_variable_30 rfl (lv_at hl 3 rfl) ?_
      obtain ⟨q26, hs⟩ := hs
      obtain ⟨z27, ez27, hf⟩ := bd_e hf
      refine sM2 S hW q26 dX5_variable_31 ez27 (fun H locs hW => ?_)
      refine lv_iload_n hx hb dX5_variable_32 rfl (lv_at hl 0 rfl) ?_
      refine lv_i2l hx hb dX5_variable_33 rfl ?_
      subst hf
      exact ct_l S hr hlocks hW dX5_variable_34
    · replace hf := if_f c23 hf
      replace hs := hs.2 c23
      refine lv_ldc2 (v := (-1)) hx hb S.2.2.2.1 (S.2.2.2.2 _ kl_X5_39) dX5_variable_14 ?_
      subst hf
      exact ct_l S hr hlocks hW dX5_variable_17
def f_X5_failure (z : Sg) (x1 : Int32) : Int32 × Sg := bd (pI z 0 0) (fun z21 => bd (gI z21 5) (fun x22 => bd (pI z21 5 x1) (fun z24 => (if x22 = x1 then (0, z24) else (1, z24)))))
def s_X5_failure (z : Sg) (x1 : Int32) : Prop := bd (pI z 0 0) (fun z21 => bd (gI z21 5) (fun x22 => (x1 = 0 ∨ x1 = 1) ∧ True))
theorem hd_X5_failure : yX5_failure.cls = RX5 ∧ yX5_failure.cls ≠ "java/lang/invoke/MethodHandle" ∧ yX5_failure.cls ≠ "java/lang/invoke/VarHandle" ∧ (parseMethodDescriptor yX5_failure.desc).map (fun d => d.parameters.length) = some 1 := by decide +kernel
set_option maxHeartbeats 4000000 in
set_option maxRecDepth 100000 in
theorem c_X5_failure (l : Launch) (D : va_G) (g : Gv) (z : Sg) (x1 : Int32) {r : Int32 × Sg} (er : r = f_X5_failure z x1) (hs : s_X5_failure z x1) : CT D (wM g) (tM g) l yX5_failure (wG yX5_failure cX5_failure 3 (some .int)) { frames := 0, cells := 0, slots := 0, locals := 0 } [.ref (g.1 0), .int x1] z (some (.int r.1)) r.2 := by
  refine CT.ofW (by decide) (Nat.le_of_ble_eq_true rfl) ?_
  intro p e R s m args below meth c A hR S hr hlocks hA hW ls hl
  have S : CallFix p m c cX5_failure 3 s args wsL_law RX5 := S
  have hl : lv_has ls 3 [(0, .ref (g.1 0)), (1, .int x1)] := hl
  have hx := S.1
  have hb := S.2.1
  have hf := er.symm
  clear er
  unfold f_X5_failure at hf
  unfold s_X5_failure at hs
  refine lv_aload_n hx hb dX5_failure_0 rfl (lv_at hl 0 rfl) ?_
  refine lv_iconst (v := 0) hx hb dX5_failure_1 (by decide) ?_
  obtain ⟨z21, ez21, hf⟩ := bd_e hf
  replace hs := bd_s ez21 hs
  refine pX5_thrown S hW kf_X5_54 dX5_failure_2 ez21 (fun H locs hW => ?_)
  refine lv_aload_n hx hb dX5_failure_5 rfl (lv_at hl 0 rfl) ?_
  refine gX5_hasFailed S hW kf_X5_130 dX5_failure_6 ?_
  obtain ⟨x22, ex22, hf⟩ := bd_e hf
  replace hs := bd_s ex22 hs
  refine lv_nmi ex22 ?_
  refine lv_istore_n (lv' := [(2, .int x22), (0, .ref (g.1 0)), (1, .int x1)]) hx hb dX5_failure_9 rfl hl (by decide) rfl (fun ls hl => ?_)
  refine lv_aload_n hx hb dX5_failure_10 rfl (lv_at hl 1 rfl) ?_
  refine lv_iload_n hx hb dX5_failure_11 rfl (lv_at hl 2 rfl) ?_
  obtain ⟨q23, hs⟩ := hs
  obtain ⟨z24, ez24, hf⟩ := bd_e hf
  refine pX5_hasFailed q23 S hW kf_X5_130 dX5_failure_12 ez24 (fun H locs hW => ?_)
  refine lv_iload_n hx hb dX5_failure_15 rfl (lv_at hl 0 rfl) ?_
  refine lv_iload_n hx hb dX5_failure_16 rfl (lv_at hl 2 rfl) ?_
  refine lv_icmp_ne (tgt := 24) hx hb dX5_failure_17 (by decide) (fun c25 => ?_) (fun c25 => ?_)
  · replace hf := if_f c25 hf
    refine lv_iconst (v := 1) hx hb dX5_failure_24 (by decide) ?_
    subst hf
    exact ct_i S hr hlocks hW dX5_failure_25
  · replace hf := if_t c25 hf
    refine lv_iconst (v := 0) hx hb dX5_failure_20 (by decide) ?_
    refine lv_goto (tgt := 25) hx hb dX5_failure_21 (by decide) ?_
    subst hf
    exact ct_i S hr hlocks hW dX5_failure_25
def f_X5_has (z : Sg) (x1 : Int32) : Int64 × Sg := bd (pI z 0 0) (fun z21 => (if x1 < 0 then ((-1 : Int64), z21) else (if x1 ≤ 9 then (if 4 ≤ x1 then (if 6 ≤ x1 then (if x1 = 6 then (Int32.toInt64 (gI z21 13), z21) else (if x1 = 7 then (Int32.toInt64 (gI z21 8), z21) else (if x1 = 8 then (Int32.toInt64 (gI z21 14), z21) else (Int32.toInt64 (gI z21 15), z21)))) else (if x1 = 5 then (Int32.toInt64 (gI z21 7), z21) else (if (gI z21 6) = 0 then ((0 : Int64), z21) else ((1 : Int64), z21)))) else (if x1 = 0 then (Int32.toInt64 (gI z21 1), z21) else (if x1 = 1 then (Int32.toInt64 (gI z21 2), z21) else (if x1 = 2 then (Int32.toInt64 (gI z21 3), z21) else (Int32.toInt64 (gI z21 4), z21))))) else ((-1 : Int64), z21))))
theorem hd_X5_has : yX5_has.cls = RX5 ∧ yX5_has.cls ≠ "java/lang/invoke/MethodHandle" ∧ yX5_has.cls ≠ "java/lang/invoke/VarHandle" ∧ (parseMethodDescriptor yX5_has.desc).map (fun d => d.parameters.length) = some 1 := by decide +kernel
set_option maxHeartbeats 4000000 in
set_option maxRecDepth 100000 in
theorem c_X5_has (l : Launch) (D : va_G) (g : Gv) (z : Sg) (x1 : Int32) {r : Int64 × Sg} (er : r = f_X5_has z x1) : CT D (wM g) (tM g) l yX5_has (wG yX5_has cX5_has 2 (some .long)) { frames := 0, cells := 0, slots := 0, locals := 0 } [.ref (g.1 0), .int x1] z (some (.long r.1)) r.2 := by
  refine CT.ofW (by decide) (Nat.le_of_ble_eq_true rfl) ?_
  intro p e R s m args below meth c A hR S hr hlocks hA hW ls hl
  have S : CallFix p m c cX5_has 2 s args wsL_law RX5 := S
  have hl : lv_has ls 2 [(0, .ref (g.1 0)), (1, .int x1)] := hl
  have hx := S.1
  have hb := S.2.1
  have hf := er.symm
  clear er
  unfold f_X5_has at hf
  refine lv_aload_n hx hb dX5_has_0 rfl (lv_at hl 0 rfl) ?_
  refine lv_iconst (v := 0) hx hb dX5_has_1 (by decide) ?_
  obtain ⟨z21, ez21, hf⟩ := bd_e hf
  refine pX5_thrown S hW kf_X5_54 dX5_has_2 ez21 (fun H locs hW => ?_)
  refine lv_iload_n hx hb dX5_has_5 rfl (lv_at hl 1 rfl) ?_
  refine lv_if_lt (tgt := 15) hx hb dX5_has_6 (by decide) (fun c22 => ?_) (fun c22 => ?_)
  · replace hf := if_t c22 hf
    refine lv_ldc2 (v := (-1)) hx hb S.2.2.2.1 (S.2.2.2.2 _ kl_X5_39) dX5_has_15 ?_
    subst hf
    exact ct_l S hr hlocks hW dX5_has_18
  · replace hf := if_f c22 hf
    refine lv_iload_n hx hb dX5_has_9 rfl (lv_at hl 1 rfl) ?_
    refine lv_bipush (v := 9) hx hb dX5_has_10 (by decide) ?_
    refine lv_icmp_le (tgt := 19) hx hb dX5_has_12 (by decide) (fun c23 => ?_) (fun c23 => ?_)
    · replace hf := if_t c23 hf
      refine lv_iload_n hx hb dX5_has_19 rfl (lv_at hl 1 rfl) ?_
      refine lv_iconst (v := 4) hx hb dX5_has_20 (by decide) ?_
      refine lv_icmp_ge (tgt := 68) hx hb dX5_has_21 (by decide) (fun c24 => ?_) (fun c24 => ?_)
      · replace hf := if_t c24 hf
        refine lv_iload_n hx hb dX5_has_68 rfl (lv_at hl 1 rfl) ?_
        refine lv_bipush (v := 6) hx hb dX5_has_69 (by decide) ?_
        refine lv_icmp_ge (tgt := 100) hx hb dX5_has_71 (by decide) (fun c25 => ?_) (fun c25 => ?_)
        · replace hf := if_t c25 hf
          refine lv_iload_n hx hb dX5_has_100 rfl (lv_at hl 1 rfl) ?_
          refine lv_bipush (v := 6) hx hb dX5_has_101 (by decide) ?_
          refine lv_icmp_ne (tgt := 114) hx hb dX5_has_103 (by decide) (fun c26 => ?_) (fun c26 => ?_)
          · replace hf := if_f c26 hf
            refine lv_iload_n hx hb dX5_has_114 rfl (lv_at hl 1 rfl) ?_
            refine lv_bipush (v := 7) hx hb dX5_has_115 (by decide) ?_
            refine lv_icmp_ne (tgt := 128) hx hb dX5_has_117 (by decide) (fun c27 => ?_) (fun c27 => ?_)
            · replace hf := if_f c27 hf
              refine lv_iload_n hx hb dX5_has_128 rfl (lv_at hl 1 rfl) ?_
              refine lv_bipush (v := 8) hx hb dX5_has_129 (by decide) ?_
              refine lv_icmp_ne (tgt := 142) hx hb dX5_has_131 (by decide) (fun c28 => ?_) (fun c28 => ?_)
              · replace hf := if_f c28 hf
                refine lv_aload_n hx hb dX5_has_142 rfl (lv_at hl 0 rfl) ?_
                refine gX5_bad S hW kf_X5_188 dX5_has_143 ?_
                refine lv_i2l hx hb dX5_has_146 rfl ?_
                subst hf
                exact ct_l S hr hlocks hW dX5_has_147
              · replace hf := if_t c28 hf
                refine lv_aload_n hx hb dX5_has_134 rfl (lv_at hl 0 rfl) ?_
                refine gX5_good S hW kf_X5_142 dX5_has_135 ?_
                refine lv_i2l hx hb dX5_has_138 rfl ?_
                refine lv_goto (tgt := 147) hx hb dX5_has_139 (by decide) ?_
                subst hf
                exact ct_l S hr hlocks hW dX5_has_147
            · replace hf := if_t c27 hf
              refine lv_aload_n hx hb dX5_has_120 rfl (lv_at hl 0 rfl) ?_
              refine gX5_bursts S hW kf_X5_169 dX5_has_121 ?_
              refine lv_i2l hx hb dX5_has_124 rfl ?_
              refine lv_goto (tgt := 147) hx hb dX5_has_125 (by decide) ?_
              subst hf
              exact ct_l S hr hlocks hW dX5_has_147
          · replace hf := if_t c26 hf
            refine lv_aload_n hx hb dX5_has_106 rfl (lv_at hl 0 rfl) ?_
            refine gX5_answers S hW kf_X5_133 dX5_has_107 ?_
            refine lv_i2l hx hb dX5_has_110 rfl ?_
            refine lv_goto (tgt := 147) hx hb dX5_has_111 (by decide) ?_
            subst hf
            exact ct_l S hr hlocks hW dX5_has_147
        · replace hf := if_f c25 hf
          refine lv_iload_n hx hb dX5_has_74 rfl (lv_at hl 1 rfl) ?_
          refine lv_iconst (v := 5) hx hb dX5_has_75 (by decide) ?_
          refine lv_icmp_ne (tgt := 87) hx hb dX5_has_76 (by decide) (fun c29 => ?_) (fun c29 => ?_)
          · replace hf := if_f c29 hf
            refine lv_aload_n hx hb dX5_has_87 rfl (lv_at hl 0 rfl) ?_
            refine gX5_isBurst S hW kf_X5_105 dX5_has_88 ?_
            refine lv_if_eq (tgt := 98) hx hb dX5_has_91 (by decide) (fun c30 => ?_) (fun c30 => ?_)
            · replace hf := if_t c30 hf
              refine lv_lconst (v := 0) hx hb dX5_has_98 (by decide) ?_
              subst hf
              exact ct_l S hr hlocks hW dX5_has_99
            · replace hf := if_f c30 hf
              refine lv_lconst (v := 1) hx hb dX5_has_94 (by decide) ?_
              refine lv_goto (tgt := 99) hx hb dX5_has_95 (by decide) ?_
              subst hf
              exact ct_l S hr hlocks hW dX5_has_99
          · replace hf := if_t c29 hf
            refine lv_aload_n hx hb dX5_has_79 rfl (lv_at hl 0 rfl) ?_
            refine gX5_burstCommand S hW kf_X5_30 dX5_has_80 ?_
            refine lv_i2l hx hb dX5_has_83 rfl ?_
            refine lv_goto (tgt := 99) hx hb dX5_has_84 (by decide) ?_
            subst hf
            exact ct_l S hr hlocks hW dX5_has_99
      · replace hf := if_f c24 hf
        refine lv_iload_n hx hb dX5_has_24 rfl (lv_at hl 1 rfl) ?_
        refine lv_if_ne (tgt := 36) hx hb dX5_has_25 (by decide) (fun c31 => ?_) (fun c31 => ?_)
        · replace hf := if_f c31 hf
          refine lv_iload_n hx hb dX5_has_36 rfl (lv_at hl 1 rfl) ?_
          refine lv_iconst (v := 1) hx hb dX5_has_37 (by decide) ?_
          refine lv_icmp_ne (tgt := 49) hx hb dX5_has_38 (by decide) (fun c32 => ?_) (fun c32 => ?_)
          · replace hf := if_f c32 hf
            refine lv_iload_n hx hb dX5_has_49 rfl (lv_at hl 1 rfl) ?_
            refine lv_iconst (v := 2) hx hb dX5_has_50 (by decide) ?_
            refine lv_icmp_ne (tgt := 62) hx hb dX5_has_51 (by decide) (fun c33 => ?_) (fun c33 => ?_)
            · replace hf := if_f c33 hf
              refine lv_aload_n hx hb dX5_has_62 rfl (lv_at hl 0 rfl) ?_
              refine gX5_upper S hW kf_X5_19 dX5_has_63 ?_
              refine lv_i2l hx hb dX5_has_66 rfl ?_
              subst hf
              exact ct_l S hr hlocks hW dX5_has_67
            · replace hf := if_t c33 hf
              refine lv_aload_n hx hb dX5_has_54 rfl (lv_at hl 0 rfl) ?_
              refine gX5_lower S hW kf_X5_102 dX5_has_55 ?_
              refine lv_i2l hx hb dX5_has_58 rfl ?_
              refine lv_goto (tgt := 67) hx hb dX5_has_59 (by decide) ?_
              subst hf
              exact ct_l S hr hlocks hW dX5_has_67
          · replace hf := if_t c32 hf
            refine lv_aload_n hx hb dX5_has_41 rfl (lv_at hl 0 rfl) ?_
            refine gX5_unit S hW kf_X5_99 dX5_has_42 ?_
            refine lv_i2l hx hb dX5_has_45 rfl ?_
            refine lv_goto (tgt := 67) hx hb dX5_has_46 (by decide) ?_
            subst hf
            exact ct_l S hr hlocks hW dX5_has_67
        · replace hf := if_t c31 hf
          refine lv_aload_n hx hb dX5_has_28 rfl (lv_at hl 0 rfl) ?_
          refine gX5_shortAddress S hW kf_X5_80 dX5_has_29 ?_
          refine lv_i2l hx hb dX5_has_32 rfl ?_
          refine lv_goto (tgt := 67) hx hb dX5_has_33 (by decide) ?_
          subst hf
          exact ct_l S hr hlocks hW dX5_has_67
    · replace hf := if_f c23 hf
      refine lv_ldc2 (v := (-1)) hx hb S.2.2.2.1 (S.2.2.2.2 _ kl_X5_39) dX5_has_15 ?_
      subst hf
      exact ct_l S hr hlocks hW dX5_has_18
def f_X5_tag (z : Sg) (x1 : Int32) : Int32 × Sg := bd (pI z 0 0) (fun z21 => (if x1 < 0 then ((-1), z21) else (if 6 ≤ x1 then ((-1), z21) else (gA z21 1 (Int32.toNatClampNeg x1), z21))))
theorem hd_X5_tag : yX5_tag.cls = RX5 ∧ yX5_tag.cls ≠ "java/lang/invoke/MethodHandle" ∧ yX5_tag.cls ≠ "java/lang/invoke/VarHandle" ∧ (parseMethodDescriptor yX5_tag.desc).map (fun d => d.parameters.length) = some 1 := by decide +kernel
set_option maxHeartbeats 4000000 in
set_option maxRecDepth 100000 in
theorem c_X5_tag (l : Launch) (D : va_G) (g : Gv) (z : Sg) (x1 : Int32) {r : Int32 × Sg} (er : r = f_X5_tag z x1) : CT D (wM g) (tM g) l yX5_tag (wG yX5_tag cX5_tag 2 (some .int)) { frames := 0, cells := 0, slots := 0, locals := 0 } [.ref (g.1 0), .int x1] z (some (.int r.1)) r.2 := by
  refine CT.ofW (by decide) (Nat.le_of_ble_eq_true rfl) ?_
  intro p e R s m args below meth c A hR S hr hlocks hA hW ls hl
  have S : CallFix p m c cX5_tag 2 s args wsL_law RX5 := S
  have hl : lv_has ls 2 [(0, .ref (g.1 0)), (1, .int x1)] := hl
  have hx := S.1
  have hb := S.2.1
  have hf := er.symm
  clear er
  unfold f_X5_tag at hf
  refine lv_aload_n hx hb dX5_tag_0 rfl (lv_at hl 0 rfl) ?_
  refine lv_iconst (v := 0) hx hb dX5_tag_1 (by decide) ?_
  obtain ⟨z21, ez21, hf⟩ := bd_e hf
  refine pX5_thrown S hW kf_X5_54 dX5_tag_2 ez21 (fun H locs hW => ?_)
  refine lv_iload_n hx hb dX5_tag_5 rfl (lv_at hl 1 rfl) ?_
  refine lv_if_lt (tgt := 24) hx hb dX5_tag_6 (by decide) (fun c22 => ?_) (fun c22 => ?_)
  · replace hf := if_t c22 hf
    refine lv_iconst (v := (-1)) hx hb dX5_tag_24 (by decide) ?_
    subst hf
    exact ct_i S hr hlocks hW dX5_tag_25
  · replace hf := if_f c22 hf
    refine lv_iload_n hx hb dX5_tag_9 rfl (lv_at hl 1 rfl) ?_
    refine lv_bipush (v := 6) hx hb dX5_tag_10 (by decide) ?_
    refine lv_icmp_ge (tgt := 24) hx hb dX5_tag_12 (by decide) (fun c23 => ?_) (fun c23 => ?_)
    · replace hf := if_t c23 hf
      refine lv_iconst (v := (-1)) hx hb dX5_tag_24 (by decide) ?_
      subst hf
      exact ct_i S hr hlocks hW dX5_tag_25
    · replace hf := if_f c23 hf
      refine lv_aload_n hx hb dX5_tag_15 rfl (lv_at hl 0 rfl) ?_
      refine gX5_tags S hW kf_X5_13 dX5_tag_16 ?_
      refine lv_iload_n hx hb dX5_tag_19 rfl (lv_at hl 1 rfl) ?_
      refine aM1 S hW (vi_of2 (M := 6) (by decide) c22 c23) dX5_tag_20 ?_
      refine lv_goto (tgt := 25) hx hb dX5_tag_21 (by decide) ?_
      subst hf
      exact ct_i S hr hlocks hW dX5_tag_25
def f_X5_now (z : Sg)  : Int32 × Sg := bd (pI z 0 0) (fun z21 => (gI z21 12, z21))
theorem hd_X5_now : yX5_now.cls = RX5 ∧ yX5_now.cls ≠ "java/lang/invoke/MethodHandle" ∧ yX5_now.cls ≠ "java/lang/invoke/VarHandle" ∧ (parseMethodDescriptor yX5_now.desc).map (fun d => d.parameters.length) = some 0 := by decide +kernel
set_option maxHeartbeats 4000000 in
set_option maxRecDepth 100000 in
theorem c_X5_now (l : Launch) (D : va_G) (g : Gv) (z : Sg)  {r : Int32 × Sg} (er : r = f_X5_now z ) : CT D (wM g) (tM g) l yX5_now (wG yX5_now cX5_now 1 (some .int)) { frames := 0, cells := 0, slots := 0, locals := 0 } [.ref (g.1 0)] z (some (.int r.1)) r.2 := by
  refine CT.ofW (by decide) (Nat.le_of_ble_eq_true rfl) ?_
  intro p e R s m args below meth c A hR S hr hlocks hA hW ls hl
  have S : CallFix p m c cX5_now 1 s args wsL_law RX5 := S
  have hl : lv_has ls 1 [(0, .ref (g.1 0))] := hl
  have hx := S.1
  have hb := S.2.1
  have hf := er.symm
  clear er
  unfold f_X5_now at hf
  refine lv_aload_n hx hb dX5_now_0 rfl (lv_at hl 0 rfl) ?_
  refine lv_iconst (v := 0) hx hb dX5_now_1 (by decide) ?_
  obtain ⟨z21, ez21, hf⟩ := bd_e hf
  refine pX5_thrown S hW kf_X5_54 dX5_now_2 ez21 (fun H locs hW => ?_)
  refine lv_aload_n hx hb dX5_now_5 rfl (lv_at hl 0 rfl) ?_
  refine gX5_now S hW kf_X5_151 dX5_now_6 ?_
  subst hf
  exact ct_i S hr hlocks hW dX5_now_9
