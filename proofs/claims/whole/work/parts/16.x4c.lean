def f_X4_octet (z : Sg) (x1 : Int32) : Int32 × Sg := bd (f_X4_passTick z (x1 &&& 255)) (fun z22 => (gI z22 31, z22))
def s_X4_octet (z : Sg) (x1 : Int32) : Prop := (s_X4_passTick z (x1 &&& 255)) ∧ True
theorem hd_X4_octet : yX4_octet.cls = RX4 ∧ yX4_octet.cls ≠ "java/lang/invoke/MethodHandle" ∧ yX4_octet.cls ≠ "java/lang/invoke/VarHandle" ∧ (parseMethodDescriptor yX4_octet.desc).map (fun d => d.parameters.length) = some 1 := by decide +kernel
set_option maxHeartbeats 4000000 in
set_option maxRecDepth 100000 in
theorem c_X4_octet (l : Launch) (D : va_G) (g : Gv) (z : Sg) (x1 : Int32) {r : Int32 × Sg} (er : r = f_X4_octet z x1) (hs : s_X4_octet z x1) : CT D (wD g) (tD g) l yX4_octet (wG yX4_octet cX4_octet 2 (some .int)) { frames := 7, cells := 0, slots := 0, locals := 152 } [.ref (g.1 0), .int x1] z (some (.int r.1)) r.2 := by
  refine CT.ofW (by decide) (Nat.le_of_ble_eq_true rfl) ?_
  intro p e R s m args below meth c A hR S hr hlocks hA hW ls hl
  have S : CallFix p m c cX4_octet 2 s args wsL_law RX4 := S
  have hl : lv_has ls 2 [(0, .ref (g.1 0)), (1, .int x1)] := hl
  have hx := S.1
  have hb := S.2.1
  have hf := er.symm
  clear er
  unfold f_X4_octet at hf
  unfold s_X4_octet at hs
  refine lv_aload_n hx hb dX4_octet_0 rfl (lv_at hl 0 rfl) ?_
  refine lv_iload_n hx hb dX4_octet_1 rfl (lv_at hl 1 rfl) ?_
  refine lv_sipush (v := 255) hx hb dX4_octet_2 (by decide) ?_
  refine lv_iand hx hb dX4_octet_5 ?_
  obtain ⟨q21, hs⟩ := hs
  obtain ⟨z22, ez22, hf⟩ := bd_e hf
  refine ct_V (As := [.int (x1 &&& 255)]) (rest := []) (st1 := []) (q0 := 0) (ci := 4) S hA hW (c_X4_passTick l D g z (x1 &&& 255) ez22 q21) (wG_V km_X4_40 ki_yX4_passTick ks_yX4_passTick kn_X4 kc_yX4_passTick) ⟨rfl, rfl⟩ hd_X4_passTick (by rw [hR]; exact ⟨Nat.le_of_ble_eq_true rfl, Nat.le_of_ble_eq_true rfl⟩) rfl rfl rfl rfl hl.1 rfl (Nat.le_of_ble_eq_true rfl) ⟨Nat.zero_le _, Nat.zero_le _⟩ dX4_octet_6 rfl (fun H locs hW => ?_)
  refine lv_aload_n hx hb dX4_octet_9 rfl (lv_at hl 0 rfl) ?_
  refine gX4_gone S hW kf_X4_36 dX4_octet_10 ?_
  refine gX3_total S hW kf_X4_44 dX4_octet_13 ?_
  subst hf
  exact ct_i S hr hlocks hW dX4_octet_16
def f_X4_octets (z : Sg) (x1 : Int32) : Int32 × Sg := bd (f_X4_passTick z (((x1.toUInt32 >>> (Int32.toUInt32 24 &&& Int32.toUInt32 31)).toInt32) &&& 255)) (fun z22 => bd (f_X4_passTick z22 (((x1.toUInt32 >>> (Int32.toUInt32 16 &&& Int32.toUInt32 31)).toInt32) &&& 255)) (fun z24 => bd (f_X4_passTick z24 (((x1.toUInt32 >>> (Int32.toUInt32 8 &&& Int32.toUInt32 31)).toInt32) &&& 255)) (fun z26 => bd (f_X4_passTick z26 (((x1.toUInt32 >>> (Int32.toUInt32 0 &&& Int32.toUInt32 31)).toInt32) &&& 255)) (fun z28 => (gI z28 31, z28)))))
def s_X4_octets (z : Sg) (x1 : Int32) : Prop := (s_X4_passTick z (((x1.toUInt32 >>> (Int32.toUInt32 24 &&& Int32.toUInt32 31)).toInt32) &&& 255)) ∧ bd (f_X4_passTick z (((x1.toUInt32 >>> (Int32.toUInt32 24 &&& Int32.toUInt32 31)).toInt32) &&& 255)) (fun z22 => (s_X4_passTick z22 (((x1.toUInt32 >>> (Int32.toUInt32 16 &&& Int32.toUInt32 31)).toInt32) &&& 255)) ∧ bd (f_X4_passTick z22 (((x1.toUInt32 >>> (Int32.toUInt32 16 &&& Int32.toUInt32 31)).toInt32) &&& 255)) (fun z24 => (s_X4_passTick z24 (((x1.toUInt32 >>> (Int32.toUInt32 8 &&& Int32.toUInt32 31)).toInt32) &&& 255)) ∧ bd (f_X4_passTick z24 (((x1.toUInt32 >>> (Int32.toUInt32 8 &&& Int32.toUInt32 31)).toInt32) &&& 255)) (fun z26 => (s_X4_passTick z26 (((x1.toUInt32 >>> (Int32.toUInt32 0 &&& Int32.toUInt32 31)).toInt32) &&& 255)) ∧ True)))
theorem hd_X4_octets : yX4_octets.cls = RX4 ∧ yX4_octets.cls ≠ "java/lang/invoke/MethodHandle" ∧ yX4_octets.cls ≠ "java/lang/invoke/VarHandle" ∧ (parseMethodDescriptor yX4_octets.desc).map (fun d => d.parameters.length) = some 1 := by decide +kernel
set_option maxHeartbeats 4000000 in
set_option maxRecDepth 100000 in
theorem c_X4_octets (l : Launch) (D : va_G) (g : Gv) (z : Sg) (x1 : Int32) {r : Int32 × Sg} (er : r = f_X4_octets z x1) (hs : s_X4_octets z x1) : CT D (wD g) (tD g) l yX4_octets (wG yX4_octets cX4_octets 3 (some .int)) { frames := 7, cells := 0, slots := 0, locals := 152 } [.ref (g.1 0), .int x1] z (some (.int r.1)) r.2 := by
  refine CT.ofW (by decide) (Nat.le_of_ble_eq_true rfl) ?_
  intro p e R s m args below meth c A hR S hr hlocks hA hW ls hl
  have S : CallFix p m c cX4_octets 3 s args wsL_law RX4 := S
  have hl : lv_has ls 3 [(0, .ref (g.1 0)), (1, .int x1)] := hl
  have hx := S.1
  have hb := S.2.1
  have hf := er.symm
  clear er
  unfold f_X4_octets at hf
  unfold s_X4_octets at hs
  refine lv_bipush (v := 24) hx hb dX4_octets_0 (by decide) ?_
  refine lv_istore_n (lv' := [(2, .int 24), (0, .ref (g.1 0)), (1, .int x1)]) hx hb dX4_octets_2 rfl hl (by decide) rfl (fun ls hl => ?_)
  refine lv_iload_n hx hb dX4_octets_3 rfl (lv_at hl 0 rfl) ?_
  refine lv_if_lt (tgt := 24) hx hb dX4_octets_4 (by decide) (fun c => absurd c (by decide)) (fun _ => ?_)
  refine lv_aload_n hx hb dX4_octets_7 rfl (lv_at hl 1 rfl) ?_
  refine lv_iload_n hx hb dX4_octets_8 rfl (lv_at hl 2 rfl) ?_
  refine lv_iload_n hx hb dX4_octets_9 rfl (lv_at hl 0 rfl) ?_
  refine lv_iushr hx hb dX4_octets_10 rfl ?_
  refine lv_sipush (v := 255) hx hb dX4_octets_11 (by decide) ?_
  refine lv_iand hx hb dX4_octets_14 ?_
  obtain ⟨q21, hs⟩ := hs
  obtain ⟨z22, ez22, hf⟩ := bd_e hf
  replace hs := bd_s ez22 hs
  refine ct_V (As := [.int (((x1.toUInt32 >>> (Int32.toUInt32 24 &&& Int32.toUInt32 31)).toInt32) &&& 255)]) (rest := []) (st1 := []) (q0 := 0) (ci := 4) S hA hW (c_X4_passTick l D g z (((x1.toUInt32 >>> (Int32.toUInt32 24 &&& Int32.toUInt32 31)).toInt32) &&& 255) ez22 q21) (wG_V km_X4_40 ki_yX4_passTick ks_yX4_passTick kn_X4 kc_yX4_passTick) ⟨rfl, rfl⟩ hd_X4_passTick (by rw [hR]; exact ⟨Nat.le_of_ble_eq_true rfl, Nat.le_of_ble_eq_true rfl⟩) rfl rfl rfl rfl hl.1 rfl (Nat.le_of_ble_eq_true rfl) ⟨Nat.zero_le _, Nat.zero_le _⟩ dX4_octets_15 rfl (fun H locs hW => ?_)
  refine lv_iinc (v := 16) (lv' := [(2, .int 16), (0, .ref (g.1 0)), (1, .int x1)]) hx hb dX4_octets_18 hl (k := 0) rfl (by decide) (by decide) rfl (fun ls hl => ?_)
  refine lv_goto (tgt := 3) hx hb dX4_octets_21 (by decide) ?_
  refine lv_iload_n hx hb dX4_octets_3 rfl (lv_at hl 0 rfl) ?_
  refine lv_if_lt (tgt := 24) hx hb dX4_octets_4 (by decide) (fun c => absurd c (by decide)) (fun _ => ?_)
  refine lv_aload_n hx hb dX4_octets_7 rfl (lv_at hl 1 rfl) ?_
  refine lv_iload_n hx hb dX4_octets_8 rfl (lv_at hl 2 rfl) ?_
  refine lv_iload_n hx hb dX4_octets_9 rfl (lv_at hl 0 rfl) ?_
  refine lv_iushr hx hb dX4_octets_10 rfl ?_
  refine lv_sipush (v := 255) hx hb dX4_octets_11 (by decide) ?_
  refine lv_iand hx hb dX4_octets_14 ?_
  obtain ⟨q23, hs⟩ := hs
  obtain ⟨z24, ez24, hf⟩ := bd_e hf
  replace hs := bd_s ez24 hs
  refine ct_V (As := [.int (((x1.toUInt32 >>> (Int32.toUInt32 16 &&& Int32.toUInt32 31)).toInt32) &&& 255)]) (rest := []) (st1 := []) (q0 := 0) (ci := 4) S hA hW (c_X4_passTick l D g z22 (((x1.toUInt32 >>> (Int32.toUInt32 16 &&& Int32.toUInt32 31)).toInt32) &&& 255) ez24 q23) (wG_V km_X4_40 ki_yX4_passTick ks_yX4_passTick kn_X4 kc_yX4_passTick) ⟨rfl, rfl⟩ hd_X4_passTick (by rw [hR]; exact ⟨Nat.le_of_ble_eq_true rfl, Nat.le_of_ble_eq_true rfl⟩) rfl rfl rfl rfl hl.1 rfl (Nat.le_of_ble_eq_true rfl) ⟨Nat.zero_le _, Nat.zero_le _⟩ dX4_octets_15 rfl (fun H locs hW => ?_)
  refine lv_iinc (v := 8) (lv' := [(2, .int 8), (0, .ref (g.1 0)), (1, .int x1)]) hx hb dX4_octets_18 hl (k := 0) rfl (by decide) (by decide) rfl (fun ls hl => ?_)
  refine lv_goto (tgt := 3) hx hb dX4_octets_21 (by decide) ?_
  refine lv_iload_n hx hb dX4_octets_3 rfl (lv_at hl 0 rfl) ?_
  refine lv_if_lt (tgt := 24) hx hb dX4_octets_4 (by decide) (fun c => absurd c (by decide)) (fun _ => ?_)
  refine lv_aload_n hx hb dX4_octets_7 rfl (lv_at hl 1 rfl) ?_
  refine lv_iload_n hx hb dX4_octets_8 rfl (lv_at hl 2 rfl) ?_
  refine lv_iload_n hx hb dX4_octets_9 rfl (lv_at hl 0 rfl) ?_
  refine lv_iushr hx hb dX4_octets_10 rfl ?_
  refine lv_sipush (v := 255) hx hb dX4_octets_11 (by decide) ?_
  refine lv_iand hx hb dX4_octets_14 ?_
  obtain ⟨q25, hs⟩ := hs
  obtain ⟨z26, ez26, hf⟩ := bd_e hf
  replace hs := bd_s ez26 hs
  refine ct_V (As := [.int (((x1.toUInt32 >>> (Int32.toUInt32 8 &&& Int32.toUInt32 31)).toInt32) &&& 255)]) (rest := []) (st1 := []) (q0 := 0) (ci := 4) S hA hW (c_X4_passTick l D g z24 (((x1.toUInt32 >>> (Int32.toUInt32 8 &&& Int32.toUInt32 31)).toInt32) &&& 255) ez26 q25) (wG_V km_X4_40 ki_yX4_passTick ks_yX4_passTick kn_X4 kc_yX4_passTick) ⟨rfl, rfl⟩ hd_X4_passTick (by rw [hR]; exact ⟨Nat.le_of_ble_eq_true rfl, Nat.le_of_ble_eq_true rfl⟩) rfl rfl rfl rfl hl.1 rfl (Nat.le_of_ble_eq_true rfl) ⟨Nat.zero_le _, Nat.zero_le _⟩ dX4_octets_15 rfl (fun H locs hW => ?_)
  refine lv_iinc (v := 0) (lv' := [(2, .int 0), (0, .ref (g.1 0)), (1, .int x1)]) hx hb dX4_octets_18 hl (k := 0) rfl (by decide) (by decide) rfl (fun ls hl => ?_)
  refine lv_goto (tgt := 3) hx hb dX4_octets_21 (by decide) ?_
  refine lv_iload_n hx hb dX4_octets_3 rfl (lv_at hl 0 rfl) ?_
  refine lv_if_lt (tgt := 24) hx hb dX4_octets_4 (by decide) (fun c => absurd c (by decide)) (fun _ => ?_)
  refine lv_aload_n hx hb dX4_octets_7 rfl (lv_at hl 1 rfl) ?_
  refine lv_iload_n hx hb dX4_octets_8 rfl (lv_at hl 2 rfl) ?_
  refine lv_iload_n hx hb dX4_octets_9 rfl (lv_at hl 0 rfl) ?_
  refine lv_iushr hx hb dX4_octets_10 rfl ?_
  refine lv_sipush (v := 255) hx hb dX4_octets_11 (by decide) ?_
  refine lv_iand hx hb dX4_octets_14 ?_
  obtain ⟨q27, hs⟩ := hs
  obtain ⟨z28, ez28, hf⟩ := bd_e hf
  refine ct_V (As := [.int (((x1.toUInt32 >>> (Int32.toUInt32 0 &&& Int32.toUInt32 31)).toInt32) &&& 255)]) (rest := []) (st1 := []) (q0 := 0) (ci := 4) S hA hW (c_X4_passTick l D g z26 (((x1.toUInt32 >>> (Int32.toUInt32 0 &&& Int32.toUInt32 31)).toInt32) &&& 255) ez28 q27) (wG_V km_X4_40 ki_yX4_passTick ks_yX4_passTick kn_X4 kc_yX4_passTick) ⟨rfl, rfl⟩ hd_X4_passTick (by rw [hR]; exact ⟨Nat.le_of_ble_eq_true rfl, Nat.le_of_ble_eq_true rfl⟩) rfl rfl rfl rfl hl.1 rfl (Nat.le_of_ble_eq_true rfl) ⟨Nat.zero_le _, Nat.zero_le _⟩ dX4_octets_15 rfl (fun H locs hW => ?_)
  refine lv_iinc (v := (-8)) (lv' := [(2, .int (-8)), (0, .ref (g.1 0)), (1, .int x1)]) hx hb dX4_octets_18 hl (k := 0) rfl (by decide) (by decide) rfl (fun ls hl => ?_)
  refine lv_goto (tgt := 3) hx hb dX4_octets_21 (by decide) ?_
  refine lv_iload_n hx hb dX4_octets_3 rfl (lv_at hl 0 rfl) ?_
  refine lv_if_lt (tgt := 24) hx hb dX4_octets_4 (by decide) (fun _ => ?_) (fun c => absurd (by decide) c)
  refine lv_aload_n hx hb dX4_octets_24 rfl (lv_at hl 1 rfl) ?_
  refine gX4_gone S hW kf_X4_36 dX4_octets_25 ?_
  refine gX3_total S hW kf_X4_44 dX4_octets_28 ?_
  subst hf
  exact ct_i S hr hlocks hW dX4_octets_31
def f_X4_tick_16 : Nat → Sg → Int32 → Int32 → Int32 × Sg
  | 0, z, _, _ => (0, z)
  | n + 1, z, y1, y2 => (if y1 ≤ y2 then (gI z 31, z) else bd (f_X4_passTick z (-1)) (fun z25 => bd (y2 + 1) (fun x26 => f_X4_tick_16 n z25 y1 x26)))
def s_X4_tick_16 : Nat → Sg → Int32 → Int32 → Prop
  | 0, _, _, _ => False
  | n + 1, z, y1, y2 => (y1 ≤ y2 → True) ∧ (¬ y1 ≤ y2 → (s_X4_passTick z (-1)) ∧ bd (f_X4_passTick z (-1)) (fun z25 => bd (y2 + 1) (fun x26 => s_X4_tick_16 n z25 y1 x26)))
def f_X4_tick (z : Sg) (x1 : Int32) : Int32 × Sg := (if x1 < 1 then ((-1), z) else (if x1 ≤ 1000 then f_X4_tick_16 1001 z x1 0 else ((-1), z)))
def s_X4_tick (z : Sg) (x1 : Int32) : Prop := (x1 < 1 → True) ∧ (¬ x1 < 1 → (x1 ≤ 1000 → s_X4_tick_16 1001 z x1 0) ∧ (¬ x1 ≤ 1000 → True))
theorem hd_X4_tick : yX4_tick.cls = RX4 ∧ yX4_tick.cls ≠ "java/lang/invoke/MethodHandle" ∧ yX4_tick.cls ≠ "java/lang/invoke/VarHandle" ∧ (parseMethodDescriptor yX4_tick.desc).map (fun d => d.parameters.length) = some 1 := by decide +kernel
set_option maxHeartbeats 4000000 in
set_option maxRecDepth 100000 in
theorem c_X4_tick (l : Launch) (D : va_G) (g : Gv) (z : Sg) (x1 : Int32) {r : Int32 × Sg} (er : r = f_X4_tick z x1) (hs : s_X4_tick z x1) : CT D (wD g) (tD g) l yX4_tick (wG yX4_tick cX4_tick 3 (some .int)) { frames := 7, cells := 0, slots := 0, locals := 152 } [.ref (g.1 0), .int x1] z (some (.int r.1)) r.2 := by
  refine CT.ofW (by decide) (Nat.le_of_ble_eq_true rfl) ?_
  intro p e R s m args below meth c A hR S hr hlocks hA hW ls hl
  have S : CallFix p m c cX4_tick 3 s args wsL_law RX4 := S
  have hl : lv_has ls 3 [(0, .ref (g.1 0)), (1, .int x1)] := hl
  have hx := S.1
  have hb := S.2.1
  have hf := er.symm
  clear er
  have J_16 : ∀ (n : Nat) (z : Sg) (y1 : Int32) (y2 : Int32) (H : Heap) (locs : List Loc) (ls : Array Slot), Wd D (wD g) (tD g) A s H locs z → lv_has ls 3 [(0, .ref (g.1 0)), (1, .int y1), (2, .int y2)] → s_X4_tick_16 n z y1 y2 → f_X4_tick_16 n z y1 y2 = r → W p l e R s m args below meth c H locs 0 0 (MQ below (CQ D (wD g) A (some (.int r.1)) r.2) args s 0 0 A) (F0 m 16 ls []) := by
    intro n
    induction n with
    | zero =>
      intro z y1 y2 H locs ls hW hl hs hf
      exact absurd hs (by rw [s_X4_tick_16]; exact id)
    | succ n ih =>
      intro z y1 y2 H locs ls hW hl hs hf
      rw [f_X4_tick_16] at hf
      rw [s_X4_tick_16] at hs
      refine lv_iload_n hx hb dX4_tick_16 rfl (lv_at hl 2 rfl) ?_
      refine lv_iload_n hx hb dX4_tick_17 rfl (lv_at hl 1 rfl) ?_
      refine lv_icmp_ge (tgt := 32) hx hb dX4_tick_18 (by decide) (fun c23 => ?_) (fun c23 => ?_)
      · replace hf := if_t c23 hf
        replace hs := hs.1 c23
        refine lv_aload_n hx hb dX4_tick_32 rfl (lv_at hl 0 rfl) ?_
        refine gX4_gone S hW kf_X4_36 dX4_tick_33 ?_
        refine gX3_total S hW kf_X4_44 dX4_tick_36 ?_
        subst hf
        exact ct_i S hr hlocks hW dX4_tick_39
      · replace hf := if_f c23 hf
        replace hs := hs.2 c23
        refine lv_aload_n hx hb dX4_tick_21 rfl (lv_at hl 0 rfl) ?_
        refine lv_iconst (v := (-1)) hx hb dX4_tick_22 (by decide) ?_
        obtain ⟨q24, hs⟩ := hs
        obtain ⟨z25, ez25, hf⟩ := bd_e hf
        replace hs := bd_s ez25 hs
        refine ct_V (As := [.int (-1)]) (rest := []) (st1 := []) (q0 := 0) (ci := 4) S hA hW (c_X4_passTick l D g z (-1) ez25 q24) (wG_V km_X4_40 ki_yX4_passTick ks_yX4_passTick kn_X4 kc_yX4_passTick) ⟨rfl, rfl⟩ hd_X4_passTick (by rw [hR]; exact ⟨Nat.le_of_ble_eq_true rfl, Nat.le_of_ble_eq_true rfl⟩) rfl rfl rfl rfl hl.1 rfl (Nat.le_of_ble_eq_true rfl) ⟨Nat.zero_le _, Nat.zero_le _⟩ dX4_tick_23 rfl (fun H locs hW => ?_)
        obtain ⟨x26, ex26, hf⟩ := bd_e hf
        replace hs := bd_s ex26 hs
        refine lv_iinc (v := x26) (lv' := [(2, .int x26), (0, .ref (g.1 0)), (1, .int y1)]) hx hb dX4_tick_26 hl (k := 2) rfl ex26.symm (by decide) rfl (fun ls hl => ?_)
        refine lv_goto (tgt := 16) hx hb dX4_tick_29 (by decide) ?_
        exact ih z25 y1 x26 _ _ ls hW (lv_sub hl [1, 2, 0] rfl) hs hf
  unfold f_X4_tick at hf
  unfold s_X4_tick at hs
  refine lv_iload_n hx hb dX4_tick_0 rfl (lv_at hl 1 rfl) ?_
  refine lv_iconst (v := 1) hx hb dX4_tick_1 (by decide) ?_
  refine lv_icmp_lt (tgt := 12) hx hb dX4_tick_2 (by decide) (fun c21 => ?_) (fun c21 => ?_)
  · replace hf := if_t c21 hf
    replace hs := hs.1 c21
    refine lv_iconst (v := (-1)) hx hb dX4_tick_12 (by decide) ?_
    subst hf
    exact ct_i S hr hlocks hW dX4_tick_13
  · replace hf := if_f c21 hf
    replace hs := hs.2 c21
    refine lv_iload_n hx hb dX4_tick_5 rfl (lv_at hl 1 rfl) ?_
    refine lv_sipush (v := 1000) hx hb dX4_tick_6 (by decide) ?_
    refine lv_icmp_le (tgt := 14) hx hb dX4_tick_9 (by decide) (fun c22 => ?_) (fun c22 => ?_)
    · replace hf := if_t c22 hf
      replace hs := hs.1 c22
      refine lv_iconst (v := 0) hx hb dX4_tick_14 (by decide) ?_
      refine lv_istore_n (lv' := [(2, .int 0), (0, .ref (g.1 0)), (1, .int x1)]) hx hb dX4_tick_15 rfl hl (by decide) rfl (fun ls hl => ?_)
      exact (J_16 1001) z x1 0 _ _ ls hW (lv_sub hl [1, 2, 0] rfl) hs hf
    · replace hf := if_f c22 hf
      replace hs := hs.2 c22
      refine lv_iconst (v := (-1)) hx hb dX4_tick_12 (by decide) ?_
      subst hf
      exact ct_i S hr hlocks hW dX4_tick_13
def f_X4_sent (z : Sg) (x1 : Int32) : Int32 × Sg := bd (f_X3_byteAt z x1) (fun r21 => (r21.1, r21.2))
theorem hd_X4_sent : yX4_sent.cls = RX4 ∧ yX4_sent.cls ≠ "java/lang/invoke/MethodHandle" ∧ yX4_sent.cls ≠ "java/lang/invoke/VarHandle" ∧ (parseMethodDescriptor yX4_sent.desc).map (fun d => d.parameters.length) = some 1 := by decide +kernel
set_option maxHeartbeats 4000000 in
set_option maxRecDepth 100000 in
theorem c_X4_sent (l : Launch) (D : va_G) (g : Gv) (z : Sg) (x1 : Int32) {r : Int32 × Sg} (er : r = f_X4_sent z x1) : CT D (wD g) (tD g) l yX4_sent (wG yX4_sent cX4_sent 2 (some .int)) { frames := 2, cells := 0, slots := 0, locals := 43 } [.ref (g.1 0), .int x1] z (some (.int r.1)) r.2 := by
  refine CT.ofW (by decide) (Nat.le_of_ble_eq_true rfl) ?_
  intro p e R s m args below meth c A hR S hr hlocks hA hW ls hl
  have S : CallFix p m c cX4_sent 2 s args wsL_law RX4 := S
  have hl : lv_has ls 2 [(0, .ref (g.1 0)), (1, .int x1)] := hl
  have hx := S.1
  have hb := S.2.1
  have hf := er.symm
  clear er
  unfold f_X4_sent at hf
  refine lv_aload_n hx hb dX4_sent_0 rfl (lv_at hl 0 rfl) ?_
  refine gX4_gone S hW kf_X4_36 dX4_sent_1 ?_
  refine lv_iload_n hx hb dX4_sent_4 rfl (lv_at hl 1 rfl) ?_
  obtain ⟨r21, er21, hf⟩ := bd_e hf
  refine ct_V (As := [.int x1]) (rest := []) (st1 := [.int r21.1]) (q0 := 4) (ci := 3) S hA hW (c_X3_byteAt l D g z x1 er21) (wG_V km_X4_48 ki_yX3_byteAt ks_yX3_byteAt kn_X3 kc_yX3_byteAt) ⟨rfl, rfl⟩ hd_X3_byteAt (by rw [hR]; exact ⟨Nat.le_of_ble_eq_true rfl, Nat.le_of_ble_eq_true rfl⟩) rfl rfl rfl rfl hl.1 rfl (Nat.le_of_ble_eq_true rfl) ⟨Nat.zero_le _, Nat.zero_le _⟩ dX4_sent_5 rfl (fun H locs hW => ?_)
  subst hf
  exact ct_i S hr hlocks hW dX4_sent_8
def f_X4_when (z : Sg) (x1 : Int32) : Int32 × Sg := bd (f_X3_tickAt z x1) (fun r21 => (r21.1, r21.2))
theorem hd_X4_when : yX4_when.cls = RX4 ∧ yX4_when.cls ≠ "java/lang/invoke/MethodHandle" ∧ yX4_when.cls ≠ "java/lang/invoke/VarHandle" ∧ (parseMethodDescriptor yX4_when.desc).map (fun d => d.parameters.length) = some 1 := by decide +kernel
set_option maxHeartbeats 4000000 in
set_option maxRecDepth 100000 in
theorem c_X4_when (l : Launch) (D : va_G) (g : Gv) (z : Sg) (x1 : Int32) {r : Int32 × Sg} (er : r = f_X4_when z x1) : CT D (wD g) (tD g) l yX4_when (wG yX4_when cX4_when 2 (some .int)) { frames := 2, cells := 0, slots := 0, locals := 43 } [.ref (g.1 0), .int x1] z (some (.int r.1)) r.2 := by
  refine CT.ofW (by decide) (Nat.le_of_ble_eq_true rfl) ?_
  intro p e R s m args below meth c A hR S hr hlocks hA hW ls hl
  have S : CallFix p m c cX4_when 2 s args wsL_law RX4 := S
  have hl : lv_has ls 2 [(0, .ref (g.1 0)), (1, .int x1)] := hl
  have hx := S.1
  have hb := S.2.1
  have hf := er.symm
  clear er
  unfold f_X4_when at hf
  refine lv_aload_n hx hb dX4_when_0 rfl (lv_at hl 0 rfl) ?_
  refine gX4_gone S hW kf_X4_36 dX4_when_1 ?_
  refine lv_iload_n hx hb dX4_when_4 rfl (lv_at hl 1 rfl) ?_
  obtain ⟨r21, er21, hf⟩ := bd_e hf
  refine ct_V (As := [.int x1]) (rest := []) (st1 := [.int r21.1]) (q0 := 4) (ci := 3) S hA hW (c_X3_tickAt l D g z x1 er21) (wG_V km_X4_52 ki_yX3_tickAt ks_yX3_tickAt kn_X3 kc_yX3_tickAt) ⟨rfl, rfl⟩ hd_X3_tickAt (by rw [hR]; exact ⟨Nat.le_of_ble_eq_true rfl, Nat.le_of_ble_eq_true rfl⟩) rfl rfl rfl rfl hl.1 rfl (Nat.le_of_ble_eq_true rfl) ⟨Nat.zero_le _, Nat.zero_le _⟩ dX4_when_5 rfl (fun H locs hW => ?_)
  subst hf
  exact ct_i S hr hlocks hW dX4_when_8
def f_X4_variable (z : Sg) (x1 : Int32) (x2 : Int32) : Int64 × Sg := (if x1 < 0 then ((-1 : Int64), z) else (if x1 < 4 then bd (f_X2_variableAt z x1) (fun r23 => bd (Int32.toInt64 r23.1) (fun x24 => bd (f_X2_setVariable r23.2 x1 x2) (fun z25 => (x24, z25)))) else ((-1 : Int64), z)))
theorem hd_X4_variable : yX4_variable.cls = RX4 ∧ yX4_variable.cls ≠ "java/lang/invoke/MethodHandle" ∧ yX4_variable.cls ≠ "java/lang/invoke/VarHandle" ∧ (parseMethodDescriptor yX4_variable.desc).map (fun d => d.parameters.length) = some 2 := by decide +kernel
set_option maxHeartbeats 4000000 in
set_option maxRecDepth 100000 in
theorem c_X4_variable (l : Launch) (D : va_G) (g : Gv) (z : Sg) (x1 : Int32) (x2 : Int32) {r : Int64 × Sg} (er : r = f_X4_variable z x1 x2) : CT D (wD g) (tD g) l yX4_variable (wG yX4_variable cX4_variable 5 (some .long)) { frames := 1, cells := 0, slots := 0, locals := 22 } [.ref (g.1 0), .int x1, .int x2] z (some (.long r.1)) r.2 := by
  refine CT.ofW (by decide) (Nat.le_of_ble_eq_true rfl) ?_
  intro p e R s m args below meth c A hR S hr hlocks hA hW ls hl
  have S : CallFix p m c cX4_variable 5 s args wsL_law RX4 := S
  have hl : lv_has ls 5 [(0, .ref (g.1 0)), (1, .int x1), (2, .int x2)] := hl
  have hx := S.1
  have hb := S.2.1
  have hf := er.symm
  clear er
  unfold f_X4_variable at hf
  refine lv_iload_n hx hb dX4_variable_0 rfl (lv_at hl 1 rfl) ?_
  refine lv_if_lt (tgt := 9) hx hb dX4_variable_1 (by decide) (fun c21 => ?_) (fun c21 => ?_)
  · replace hf := if_t c21 hf
    refine lv_ldc2 (v := (-1)) hx hb S.2.2.2.1 (S.2.2.2.2 _ kl_X4_55) dX4_variable_9 ?_
    subst hf
    exact ct_l S hr hlocks hW dX4_variable_12
  · replace hf := if_f c21 hf
    refine lv_iload_n hx hb dX4_variable_4 rfl (lv_at hl 1 rfl) ?_
    refine lv_iconst (v := 4) hx hb dX4_variable_5 (by decide) ?_
    refine lv_icmp_lt (tgt := 13) hx hb dX4_variable_6 (by decide) (fun c22 => ?_) (fun c22 => ?_)
    · replace hf := if_t c22 hf
      refine lv_aload_n hx hb dX4_variable_13 rfl (lv_at hl 0 rfl) ?_
      refine gX4_holdings S hW kf_X4_15 dX4_variable_14 ?_
      refine lv_iload_n hx hb dX4_variable_17 rfl (lv_at hl 1 rfl) ?_
      obtain ⟨r23, er23, hf⟩ := bd_e hf
      refine ct_V (As := [.int x1]) (rest := []) (st1 := [.int r23.1]) (q0 := 1) (ci := 2) S hA hW (c_X2_variableAt l D g z x1 er23) (wG_V km_X4_57 ki_yX2_variableAt ks_yX2_variableAt kn_X2 kc_yX2_variableAt) ⟨rfl, rfl⟩ hd_X2_variableAt (by rw [hR]; exact ⟨Nat.le_of_ble_eq_true rfl, Nat.le_of_ble_eq_true rfl⟩) rfl rfl rfl rfl hl.1 rfl (Nat.le_of_ble_eq_true rfl) ⟨Nat.zero_le _, Nat.zero_le _⟩ dX4_variable_18 rfl (fun H locs hW => ?_)
      refine lv_i2l hx hb dX4_variable_21 rfl ?_
      obtain ⟨x24, ex24, hf⟩ := bd_e hf
      refine lv_nml ex24 ?_
      refine lv_lstore_n (lv' := [(3, .long x24), (0, .ref (g.1 0)), (1, .int x1), (2, .int x2)]) hx hb dX4_variable_22 rfl hl (by decide) rfl (fun ls hl => ?_)
      refine lv_aload_n hx hb dX4_variable_23 rfl (lv_at hl 1 rfl) ?_
      refine gX4_holdings S hW kf_X4_15 dX4_variable_24 ?_
      refine lv_iload_n hx hb dX4_variable_27 rfl (lv_at hl 2 rfl) ?_
      refine lv_iload_n hx hb dX4_variable_28 rfl (lv_at hl 3 rfl) ?_
      obtain ⟨z25, ez25, hf⟩ := bd_e hf
      refine ct_V (As := [.int x1, .int x2]) (rest := []) (st1 := []) (q0 := 1) (ci := 2) S hA hW (c_X2_setVariable l D g r23.2 x1 x2 ez25) (wG_V km_X4_60 ki_yX2_setVariable ks_yX2_setVariable kn_X2 kc_yX2_setVariable) ⟨rfl, rfl⟩ hd_X2_setVariable (by rw [hR]; exact ⟨Nat.le_of_ble_eq_true rfl, Nat.le_of_ble_eq_true rfl⟩) rfl rfl rfl rfl hl.1 rfl (Nat.le_of_ble_eq_true rfl) ⟨Nat.zero_le _, Nat.zero_le _⟩ dX4_variable_29 rfl (fun H locs hW => ?_)
      refine lv_lload_n hx hb dX4_variable_32 rfl (lv_at hl 0 rfl) ?_
      subst hf
      exact ct_l S hr hlocks hW dX4_variable_33
    · replace hf := if_f c22 hf
      refine lv_ldc2 (v := (-1)) hx hb S.2.2.2.1 (S.2.2.2.2 _ kl_X4_55) dX4_variable_9 ?_
      subst hf
      exact ct_l S hr hlocks hW dX4_variable_12
def f_X4_failure (z : Sg) (x1 : Int32) : Int32 × Sg := (if (gI z 16) = x1 then (0, z) else bd (pI z 16 x1) (fun z23 => (1, z23)))
def s_X4_failure (z : Sg) (x1 : Int32) : Prop := ((gI z 16) = x1 → True) ∧ (¬ (gI z 16) = x1 → (x1 = 0 ∨ x1 = 1) ∧ True)
theorem hd_X4_failure : yX4_failure.cls = RX4 ∧ yX4_failure.cls ≠ "java/lang/invoke/MethodHandle" ∧ yX4_failure.cls ≠ "java/lang/invoke/VarHandle" ∧ (parseMethodDescriptor yX4_failure.desc).map (fun d => d.parameters.length) = some 1 := by decide +kernel
set_option maxHeartbeats 4000000 in
set_option maxRecDepth 100000 in
theorem c_X4_failure (l : Launch) (D : va_G) (g : Gv) (z : Sg) (x1 : Int32) {r : Int32 × Sg} (er : r = f_X4_failure z x1) (hs : s_X4_failure z x1) : CT D (wD g) (tD g) l yX4_failure (wG yX4_failure cX4_failure 2 (some .int)) { frames := 0, cells := 0, slots := 0, locals := 0 } [.ref (g.1 0), .int x1] z (some (.int r.1)) r.2 := by
  refine CT.ofW (by decide) (Nat.le_of_ble_eq_true rfl) ?_
  intro p e R s m args below meth c A hR S hr hlocks hA hW ls hl
  have S : CallFix p m c cX4_failure 2 s args wsL_law RX4 := S
  have hl : lv_has ls 2 [(0, .ref (g.1 0)), (1, .int x1)] := hl
  have hx := S.1
  have hb := S.2.1
  have hf := er.symm
  clear er
  unfold f_X4_failure at hf
  unfold s_X4_failure at hs
  refine lv_aload_n hx hb dX4_failure_0 rfl (lv_at hl 0 rfl) ?_
  refine gX4_holdings S hW kf_X4_15 dX4_failure_1 ?_
  refine gX2_failed S hW kf_X4_64 dX4_failure_4 ?_
  refine lv_iload_n hx hb dX4_failure_7 rfl (lv_at hl 1 rfl) ?_
  refine lv_icmp_ne (tgt := 13) hx hb dX4_failure_8 (by decide) (fun c21 => ?_) (fun c21 => ?_)
  · replace hf := if_f c21 hf
    replace hs := hs.2 c21
    refine lv_aload_n hx hb dX4_failure_13 rfl (lv_at hl 0 rfl) ?_
    refine gX4_holdings S hW kf_X4_15 dX4_failure_14 ?_
    refine lv_iload_n hx hb dX4_failure_17 rfl (lv_at hl 1 rfl) ?_
    obtain ⟨q22, hs⟩ := hs
    obtain ⟨z23, ez23, hf⟩ := bd_e hf
    refine pX2_failed q22 S hW kf_X4_64 dX4_failure_18 ez23 (fun H locs hW => ?_)
    refine lv_iconst (v := 1) hx hb dX4_failure_21 (by decide) ?_
    subst hf
    exact ct_i S hr hlocks hW dX4_failure_22
  · replace hf := if_t c21 hf
    replace hs := hs.1 c21
    refine lv_iconst (v := 0) hx hb dX4_failure_11 (by decide) ?_
    subst hf
    exact ct_i S hr hlocks hW dX4_failure_12
def f_X4_has (z : Sg) (x1 : Int32) : Int64 × Sg := (if x1 = 0 then (Int32.toInt64 (gI z 10), z) else (if x1 = 1 then (Int32.toInt64 (gI z 11), z) else (if x1 = 2 then (Int32.toInt64 (gI z 12), z) else (if x1 = 3 then (Int32.toInt64 (gI z 13), z) else (if x1 = 4 then (if (gI z 17) = 0 then ((0 : Int64), z) else ((1 : Int64), z)) else (if x1 = 5 then (Int32.toInt64 (gI z 18), z) else (if x1 = 6 then (Int32.toInt64 (gI z 2), z) else (if x1 = 7 then (Int32.toInt64 (gI z 3), z) else (if x1 = 8 then (Int32.toInt64 (gI z 4), z) else (if x1 = 9 then (Int32.toInt64 (gI z 5), z) else ((-1 : Int64), z)))))))))))
theorem hd_X4_has : yX4_has.cls = RX4 ∧ yX4_has.cls ≠ "java/lang/invoke/MethodHandle" ∧ yX4_has.cls ≠ "java/lang/invoke/VarHandle" ∧ (parseMethodDescriptor yX4_has.desc).map (fun d => d.parameters.length) = some 1 := by decide +kernel
set_option maxHeartbeats 4000000 in
set_option maxRecDepth 100000 in
theorem c_X4_has (l : Launch) (D : va_G) (g : Gv) (z : Sg) (x1 : Int32) {r : Int64 × Sg} (er : r = f_X4_has z x1) : CT D (wD g) (tD g) l yX4_has (wG yX4_has cX4_has 2 (some .long)) { frames := 0, cells := 0, slots := 0, locals := 0 } [.ref (g.1 0), .int x1] z (some (.long r.1)) r.2 := by
  refine CT.ofW (by decide) (Nat.le_of_ble_eq_true rfl) ?_
  intro p e R s m args below meth c A hR S hr hlocks hA hW ls hl
  have S : CallFix p m c cX4_has 2 s args wsL_law RX4 := S
  have hl : lv_has ls 2 [(0, .ref (g.1 0)), (1, .int x1)] := hl
  have hx := S.1
  have hb := S.2.1
  have hf := er.symm
  clear er
  unfold f_X4_has at hf
  refine lv_iload_n hx hb dX4_has_0 rfl (lv_at hl 1 rfl) ?_
  by_cases c21 : x1 = 0
  · replace hf := if_t c21 hf
    refine lv_tableIn (off := 55) (tgt := 56) hx hb dX4_has_1 (by rw [c21]; decide) (by rw [c21]; decide) (by rw [c21]; rfl) (by decide) ?_
    refine lv_aload_n hx hb dX4_has_56 rfl (lv_at hl 0 rfl) ?_
    refine gX4_holdings S hW kf_X4_15 dX4_has_57 ?_
    refine gX2_shortAddress S hW kf_X4_68 dX4_has_60 ?_
    refine lv_i2l hx hb dX4_has_63 rfl ?_
    subst hf
    exact ct_l S hr hlocks hW dX4_has_64
  replace hf := if_f c21 hf
  by_cases c22 : x1 = 1
  · replace hf := if_t c22 hf
    refine lv_tableIn (off := 64) (tgt := 65) hx hb dX4_has_1 (by rw [c22]; decide) (by rw [c22]; decide) (by rw [c22]; rfl) (by decide) ?_
    refine lv_aload_n hx hb dX4_has_65 rfl (lv_at hl 0 rfl) ?_
    refine gX4_holdings S hW kf_X4_15 dX4_has_66 ?_
    refine gX2_unit S hW kf_X4_71 dX4_has_69 ?_
    refine lv_i2l hx hb dX4_has_72 rfl ?_
    subst hf
    exact ct_l S hr hlocks hW dX4_has_73
  replace hf := if_f c22 hf
  by_cases c23 : x1 = 2
  · replace hf := if_t c23 hf
    refine lv_tableIn (off := 73) (tgt := 74) hx hb dX4_has_1 (by rw [c23]; decide) (by rw [c23]; decide) (by rw [c23]; rfl) (by decide) ?_
    refine lv_aload_n hx hb dX4_has_74 rfl (lv_at hl 0 rfl) ?_
    refine gX4_holdings S hW kf_X4_15 dX4_has_75 ?_
    refine gX2_lower S hW kf_X4_74 dX4_has_78 ?_
    refine lv_i2l hx hb dX4_has_81 rfl ?_
    subst hf
    exact ct_l S hr hlocks hW dX4_has_82
  replace hf := if_f c23 hf
  by_cases c24 : x1 = 3
  · replace hf := if_t c24 hf
    refine lv_tableIn (off := 82) (tgt := 83) hx hb dX4_has_1 (by rw [c24]; decide) (by rw [c24]; decide) (by rw [c24]; rfl) (by decide) ?_
    refine lv_aload_n hx hb dX4_has_83 rfl (lv_at hl 0 rfl) ?_
    refine gX4_holdings S hW kf_X4_15 dX4_has_84 ?_
    refine gX2_upper S hW kf_X4_77 dX4_has_87 ?_
    refine lv_i2l hx hb dX4_has_90 rfl ?_
    subst hf
    exact ct_l S hr hlocks hW dX4_has_91
  replace hf := if_f c24 hf
  by_cases c25 : x1 = 4
  · replace hf := if_t c25 hf
    refine lv_tableIn (off := 91) (tgt := 92) hx hb dX4_has_1 (by rw [c25]; decide) (by rw [c25]; decide) (by rw [c25]; rfl) (by decide) ?_
    refine lv_aload_n hx hb dX4_has_92 rfl (lv_at hl 0 rfl) ?_
    refine gX4_holdings S hW kf_X4_15 dX4_has_93 ?_
    refine gX2_burstOn S hW kf_X4_80 dX4_has_96 ?_
    refine lv_if_eq (tgt := 106) hx hb dX4_has_99 (by decide) (fun c26 => ?_) (fun c26 => ?_)
    · replace hf := if_t c26 hf
      refine lv_lconst (v := 0) hx hb dX4_has_106 (by decide) ?_
      subst hf
      exact ct_l S hr hlocks hW dX4_has_107
    · replace hf := if_f c26 hf
      refine lv_lconst (v := 1) hx hb dX4_has_102 (by decide) ?_
      refine lv_goto (tgt := 107) hx hb dX4_has_103 (by decide) ?_
      subst hf
      exact ct_l S hr hlocks hW dX4_has_107
  replace hf := if_f c25 hf
  by_cases c27 : x1 = 5
  · replace hf := if_t c27 hf
    refine lv_tableIn (off := 107) (tgt := 108) hx hb dX4_has_1 (by rw [c27]; decide) (by rw [c27]; decide) (by rw [c27]; rfl) (by decide) ?_
    refine lv_aload_n hx hb dX4_has_108 rfl (lv_at hl 0 rfl) ?_
    refine gX4_holdings S hW kf_X4_15 dX4_has_109 ?_
    refine gX2_burstCommand S hW kf_X4_83 dX4_has_112 ?_
    refine lv_i2l hx hb dX4_has_115 rfl ?_
    subst hf
    exact ct_l S hr hlocks hW dX4_has_116
  replace hf := if_f c27 hf
  by_cases c28 : x1 = 6
  · replace hf := if_t c28 hf
    refine lv_tableIn (off := 116) (tgt := 117) hx hb dX4_has_1 (by rw [c28]; decide) (by rw [c28]; decide) (by rw [c28]; rfl) (by decide) ?_
    refine lv_aload_n hx hb dX4_has_117 rfl (lv_at hl 0 rfl) ?_
    refine gX4_answers S hW kf_X4_86 dX4_has_118 ?_
    refine lv_i2l hx hb dX4_has_121 rfl ?_
    subst hf
    exact ct_l S hr hlocks hW dX4_has_122
  replace hf := if_f c28 hf
  by_cases c29 : x1 = 7
  · replace hf := if_t c29 hf
    refine lv_tableIn (off := 122) (tgt := 123) hx hb dX4_has_1 (by rw [c29]; decide) (by rw [c29]; decide) (by rw [c29]; rfl) (by decide) ?_
    refine lv_aload_n hx hb dX4_has_123 rfl (lv_at hl 0 rfl) ?_
    refine gX4_bursts S hW kf_X4_89 dX4_has_124 ?_
    refine lv_i2l hx hb dX4_has_127 rfl ?_
    subst hf
    exact ct_l S hr hlocks hW dX4_has_128
  replace hf := if_f c29 hf
  by_cases c30 : x1 = 8
  · replace hf := if_t c30 hf
    refine lv_tableIn (off := 128) (tgt := 129) hx hb dX4_has_1 (by rw [c30]; decide) (by rw [c30]; decide) (by rw [c30]; rfl) (by decide) ?_
    refine lv_aload_n hx hb dX4_has_129 rfl (lv_at hl 0 rfl) ?_
    refine gX4_goodFrames S hW kf_X4_92 dX4_has_130 ?_
    refine lv_i2l hx hb dX4_has_133 rfl ?_
    subst hf
    exact ct_l S hr hlocks hW dX4_has_134
  replace hf := if_f c30 hf
  by_cases c31 : x1 = 9
  · replace hf := if_t c31 hf
    refine lv_tableIn (off := 134) (tgt := 135) hx hb dX4_has_1 (by rw [c31]; decide) (by rw [c31]; decide) (by rw [c31]; rfl) (by decide) ?_
    refine lv_aload_n hx hb dX4_has_135 rfl (lv_at hl 0 rfl) ?_
    refine gX4_otherFrames S hW kf_X4_95 dX4_has_136 ?_
    refine lv_i2l hx hb dX4_has_139 rfl ?_
    subst hf
    exact ct_l S hr hlocks hW dX4_has_140
  replace hf := if_f c31 hf
  refine lv_tableOut (tgt := 141) hx hb dX4_has_1 (by have h0 := lv_neT (k := 0) (a := 0) c21 (by decide); have h1 := lv_neT (k := 1) (a := 1) c22 (by decide); have h2 := lv_neT (k := 2) (a := 2) c23 (by decide); have h3 := lv_neT (k := 3) (a := 3) c24 (by decide); have h4 := lv_neT (k := 4) (a := 4) c25 (by decide); have h5 := lv_neT (k := 5) (a := 5) c27 (by decide); have h6 := lv_neT (k := 6) (a := 6) c28 (by decide); have h7 := lv_neT (k := 7) (a := 7) c29 (by decide); have h8 := lv_neT (k := 8) (a := 8) c30 (by decide); have h9 := lv_neT (k := 9) (a := 9) c31 (by decide); omega) (by decide) ?_
  refine lv_ldc2 (v := (-1)) hx hb S.2.2.2.1 (S.2.2.2.2 _ kl_X4_55) dX4_has_141 ?_
  subst hf
  exact ct_l S hr hlocks hW dX4_has_144
def f_X4_tag (z : Sg) (x1 : Int32) : Int32 × Sg := bd (f_X2_tagByte z x1) (fun r21 => (r21.1, r21.2))
theorem hd_X4_tag : yX4_tag.cls = RX4 ∧ yX4_tag.cls ≠ "java/lang/invoke/MethodHandle" ∧ yX4_tag.cls ≠ "java/lang/invoke/VarHandle" ∧ (parseMethodDescriptor yX4_tag.desc).map (fun d => d.parameters.length) = some 1 := by decide +kernel
set_option maxHeartbeats 4000000 in
set_option maxRecDepth 100000 in
theorem c_X4_tag (l : Launch) (D : va_G) (g : Gv) (z : Sg) (x1 : Int32) {r : Int32 × Sg} (er : r = f_X4_tag z x1) : CT D (wD g) (tD g) l yX4_tag (wG yX4_tag cX4_tag 2 (some .int)) { frames := 1, cells := 0, slots := 0, locals := 21 } [.ref (g.1 0), .int x1] z (some (.int r.1)) r.2 := by
  refine CT.ofW (by decide) (Nat.le_of_ble_eq_true rfl) ?_
  intro p e R s m args below meth c A hR S hr hlocks hA hW ls hl
  have S : CallFix p m c cX4_tag 2 s args wsL_law RX4 := S
  have hl : lv_has ls 2 [(0, .ref (g.1 0)), (1, .int x1)] := hl
  have hx := S.1
  have hb := S.2.1
  have hf := er.symm
  clear er
  unfold f_X4_tag at hf
  refine lv_aload_n hx hb dX4_tag_0 rfl (lv_at hl 0 rfl) ?_
  refine gX4_holdings S hW kf_X4_15 dX4_tag_1 ?_
  refine lv_iload_n hx hb dX4_tag_4 rfl (lv_at hl 1 rfl) ?_
  obtain ⟨r21, er21, hf⟩ := bd_e hf
  refine ct_V (As := [.int x1]) (rest := []) (st1 := [.int r21.1]) (q0 := 1) (ci := 2) S hA hW (c_X2_tagByte l D g z x1 er21) (wG_V km_X4_98 ki_yX2_tagByte ks_yX2_tagByte kn_X2 kc_yX2_tagByte) ⟨rfl, rfl⟩ hd_X2_tagByte (by rw [hR]; exact ⟨Nat.le_of_ble_eq_true rfl, Nat.le_of_ble_eq_true rfl⟩) rfl rfl rfl rfl hl.1 rfl (Nat.le_of_ble_eq_true rfl) ⟨Nat.zero_le _, Nat.zero_le _⟩ dX4_tag_5 rfl (fun H locs hW => ?_)
  subst hf
  exact ct_i S hr hlocks hW dX4_tag_8
def f_X4_now (z : Sg)  : Int32 × Sg := (gI z 0, z)
theorem hd_X4_now : yX4_now.cls = RX4 ∧ yX4_now.cls ≠ "java/lang/invoke/MethodHandle" ∧ yX4_now.cls ≠ "java/lang/invoke/VarHandle" ∧ (parseMethodDescriptor yX4_now.desc).map (fun d => d.parameters.length) = some 0 := by decide +kernel
set_option maxHeartbeats 4000000 in
set_option maxRecDepth 100000 in
theorem c_X4_now (l : Launch) (D : va_G) (g : Gv) (z : Sg)  {r : Int32 × Sg} (er : r = f_X4_now z ) : CT D (wD g) (tD g) l yX4_now (wG yX4_now cX4_now 1 (some .int)) { frames := 0, cells := 0, slots := 0, locals := 0 } [.ref (g.1 0)] z (some (.int r.1)) r.2 := by
  refine CT.ofW (by decide) (Nat.le_of_ble_eq_true rfl) ?_
  intro p e R s m args below meth c A hR S hr hlocks hA hW ls hl
  have S : CallFix p m c cX4_now 1 s args wsL_law RX4 := S
  have hl : lv_has ls 1 [(0, .ref (g.1 0))] := hl
  have hx := S.1
  have hb := S.2.1
  have hf := er.symm
  clear er
  unfold f_X4_now at hf
  refine lv_aload_n hx hb dX4_now_0 rfl (lv_at hl 0 rfl) ?_
  refine gX4_ticks S hW kf_X4_101 dX4_now_1 ?_
  subst hf
  exact ct_i S hr hlocks hW dX4_now_4
