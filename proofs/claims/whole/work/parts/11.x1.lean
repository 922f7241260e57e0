def f_X1_isBusy (z : Sg)  : Int32 × Sg := (if (gI z 27) ≤ (gI z 28) then (0, z) else (1, z))
theorem hd_X1_isBusy : yX1_isBusy.cls = RX1 ∧ yX1_isBusy.cls ≠ "java/lang/invoke/MethodHandle" ∧ yX1_isBusy.cls ≠ "java/lang/invoke/VarHandle" ∧ (parseMethodDescriptor yX1_isBusy.desc).map (fun d => d.parameters.length) = some 0 := by decide +kernel
set_option maxHeartbeats 4000000 in
set_option maxRecDepth 100000 in
theorem c_X1_isBusy (l : Launch) (D : va_G) (g : Gv) (z : Sg)  {r : Int32 × Sg} (er : r = f_X1_isBusy z ) : CT D (wD g) (tD g) l yX1_isBusy (wG yX1_isBusy cX1_isBusy 1 (some .boolean)) { frames := 0, cells := 0, slots := 0, locals := 0 } [.ref (g.1 3)] z (some (.int r.1)) r.2 := by
  refine CT.ofW (by decide) (Nat.le_of_ble_eq_true rfl) ?_
  intro p e R s m args below meth c A hR S hr hlocks hA hW ls hl
  have S : CallFix p m c cX1_isBusy 1 s args wsL_law RX1 := S
  have hl : lv_has ls 1 [(0, .ref (g.1 3))] := hl
  have hx := S.1
  have hb := S.2.1
  have hf := er.symm
  clear er
  unfold f_X1_isBusy at hf
  refine lv_aload_n hx hb dX1_isBusy_0 rfl (lv_at hl 0 rfl) ?_
  refine gX1_next S hW kf_X1_15 dX1_isBusy_1 ?_
  refine lv_aload_n hx hb dX1_isBusy_4 rfl (lv_at hl 0 rfl) ?_
  refine gX1_length S hW kf_X1_19 dX1_isBusy_5 ?_
  refine lv_icmp_ge (tgt := 15) hx hb dX1_isBusy_8 (by decide) (fun c21 => ?_) (fun c21 => ?_)
  · replace hf := if_t c21 hf
    refine lv_iconst (v := 0) hx hb dX1_isBusy_15 (by decide) ?_
    subst hf
    exact ct_z (Or.inl rfl) S hr hlocks hW dX1_isBusy_16
  · replace hf := if_f c21 hf
    refine lv_iconst (v := 1) hx hb dX1_isBusy_11 (by decide) ?_
    refine lv_goto (tgt := 16) hx hb dX1_isBusy_12 (by decide) ?_
    subst hf
    exact ct_z (Or.inr rfl) S hr hlocks hW dX1_isBusy_16
def f_X1_add (z : Sg) (x1 : Int32) : Sg := (if (gI z 27) < 0 then z else (if 36 ≤ (gI z 27) then z else bd (pA z 4 (Int32.toNatClampNeg (gI z 27)) (x1 &&& 255)) (fun z23 => bd (pI z23 27 ((gI z23 27) + 1)) (fun z24 => z24))))
theorem hd_X1_add : yX1_add.cls = RX1 ∧ yX1_add.cls ≠ "java/lang/invoke/MethodHandle" ∧ yX1_add.cls ≠ "java/lang/invoke/VarHandle" ∧ (parseMethodDescriptor yX1_add.desc).map (fun d => d.parameters.length) = some 1 := by decide +kernel
set_option maxHeartbeats 4000000 in
set_option maxRecDepth 100000 in
theorem c_X1_add (l : Launch) (D : va_G) (g : Gv) (z : Sg) (x1 : Int32) {r : Sg} (er : r = f_X1_add z x1) : CT D (wD g) (tD g) l yX1_add (wG yX1_add cX1_add 2 none) { frames := 0, cells := 0, slots := 0, locals := 0 } [.ref (g.1 3), .int x1] z none r := by
  refine CT.ofW (by decide) (Nat.le_of_ble_eq_true rfl) ?_
  intro p e R s m args below meth c A hR S hr hlocks hA hW ls hl
  have S : CallFix p m c cX1_add 2 s args wsL_law RX1 := S
  have hl : lv_has ls 2 [(0, .ref (g.1 3)), (1, .int x1)] := hl
  have hx := S.1
  have hb := S.2.1
  have hf := er.symm
  clear er
  unfold f_X1_add at hf
  refine lv_aload_n hx hb dX1_add_0 rfl (lv_at hl 0 rfl) ?_
  refine gX1_length S hW kf_X1_19 dX1_add_1 ?_
  refine lv_if_lt (tgt := 43) hx hb dX1_add_4 (by decide) (fun c21 => ?_) (fun c21 => ?_)
  · replace hf := if_t c21 hf
    subst hf
    exact ct_v S hr hlocks hW dX1_add_43
  · replace hf := if_f c21 hf
    refine lv_aload_n hx hb dX1_add_7 rfl (lv_at hl 0 rfl) ?_
    refine gX1_length S hW kf_X1_19 dX1_add_8 ?_
    refine lv_aload_n hx hb dX1_add_11 rfl (lv_at hl 0 rfl) ?_
    refine gX1_bytes S hW kf_X1_11 dX1_add_12 ?_
    refine nD4 S hW dX1_add_15 ?_
    refine lv_icmp_ge (tgt := 43) hx hb dX1_add_16 (by decide) (fun c22 => ?_) (fun c22 => ?_)
    · replace hf := if_t c22 hf
      subst hf
      exact ct_v S hr hlocks hW dX1_add_43
    · replace hf := if_f c22 hf
      refine lv_aload_n hx hb dX1_add_19 rfl (lv_at hl 0 rfl) ?_
      refine gX1_bytes S hW kf_X1_11 dX1_add_20 ?_
      refine lv_aload_n hx hb dX1_add_23 rfl (lv_at hl 0 rfl) ?_
      refine gX1_length S hW kf_X1_19 dX1_add_24 ?_
      refine lv_iload_n hx hb dX1_add_27 rfl (lv_at hl 1 rfl) ?_
      refine lv_sipush (v := 255) hx hb dX1_add_28 (by decide) ?_
      refine lv_iand hx hb dX1_add_31 ?_
      obtain ⟨z23, ez23, hf⟩ := bd_e hf
      refine sD4 S hW (vi_of2 (M := 36) (by decide) c21 c22) dX1_add_32 ez23 (fun H locs hW => ?_)
      refine lv_aload_n hx hb dX1_add_33 rfl (lv_at hl 0 rfl) ?_
      refine lv_dup hx hb dX1_add_34 rfl ?_
      refine gX1_length S hW kf_X1_19 dX1_add_35 ?_
      refine lv_iconst (v := 1) hx hb dX1_add_38 (by decide) ?_
      refine lv_iadd hx hb dX1_add_39 ?_
      obtain ⟨z24, ez24, hf⟩ := bd_e hf
      refine pX1_length S hW kf_X1_19 dX1_add_40 ez24 (fun H locs hW => ?_)
      subst hf
      exact ct_v S hr hlocks hW dX1_add_43
def f_X1_begin (z : Sg) (x1 : Int32) : Sg := bd (pI z 27 0) (fun z21 => bd (pI z21 28 0) (fun z22 => bd (pI z22 30 0) (fun z23 => bd (f_X1_add z23 255) (fun z24 => bd (f_X1_add z24 255) (fun z25 => bd (f_X1_add z25 255) (fun z26 => bd (f_X1_add z26 255) (fun z27 => bd (f_X1_add z27 255) (fun z28 => bd (f_X1_add z28 x1) (fun z29 => z29)))))))))
theorem hd_X1_begin : yX1_begin.cls = RX1 ∧ yX1_begin.cls ≠ "java/lang/invoke/MethodHandle" ∧ yX1_begin.cls ≠ "java/lang/invoke/VarHandle" ∧ (parseMethodDescriptor yX1_begin.desc).map (fun d => d.parameters.length) = some 1 := by decide +kernel
set_option maxHeartbeats 4000000 in
set_option maxRecDepth 100000 in
theorem c_X1_begin (l : Launch) (D : va_G) (g : Gv) (z : Sg) (x1 : Int32) {r : Sg} (er : r = f_X1_begin z x1) : CT D (wD g) (tD g) l yX1_begin (wG yX1_begin cX1_begin 3 none) { frames := 1, cells := 0, slots := 0, locals := 21 } [.ref (g.1 3), .int x1] z none r := by
  refine CT.ofW (by decide) (Nat.le_of_ble_eq_true rfl) ?_
  intro p e R s m args below meth c A hR S hr hlocks hA hW ls hl
  have S : CallFix p m c cX1_begin 3 s args wsL_law RX1 := S
  have hl : lv_has ls 3 [(0, .ref (g.1 3)), (1, .int x1)] := hl
  have hx := S.1
  have hb := S.2.1
  have hf := er.symm
  clear er
  unfold f_X1_begin at hf
  refine lv_aload_n hx hb dX1_begin_0 rfl (lv_at hl 0 rfl) ?_
  refine lv_iconst (v := 0) hx hb dX1_begin_1 (by decide) ?_
  obtain ⟨z21, ez21, hf⟩ := bd_e hf
  refine pX1_length S hW kf_X1_19 dX1_begin_2 ez21 (fun H locs hW => ?_)
  refine lv_aload_n hx hb dX1_begin_5 rfl (lv_at hl 0 rfl) ?_
  refine lv_iconst (v := 0) hx hb dX1_begin_6 (by decide) ?_
  obtain ⟨z22, ez22, hf⟩ := bd_e hf
  refine pX1_next S hW kf_X1_15 dX1_begin_7 ez22 (fun H locs hW => ?_)
  refine lv_aload_n hx hb dX1_begin_10 rfl (lv_at hl 0 rfl) ?_
  refine lv_iconst (v := 0) hx hb dX1_begin_11 (by decide) ?_
  obtain ⟨z23, ez23, hf⟩ := bd_e hf
  refine pX1_waits (by decide) S hW kf_X1_22 dX1_begin_12 ez23 (fun H locs hW => ?_)
  refine lv_iconst (v := 0) hx hb dX1_begin_15 (by decide) ?_
  refine lv_istore_n (lv' := [(2, .int 0), (0, .ref (g.1 3)), (1, .int x1)]) hx hb dX1_begin_16 rfl hl (by decide) rfl (fun ls hl => ?_)
  refine lv_iload_n hx hb dX1_begin_17 rfl (lv_at hl 0 rfl) ?_
  refine lv_iconst (v := 5) hx hb dX1_begin_18 (by decide) ?_
  refine lv_icmp_ge (tgt := 35) hx hb dX1_begin_19 (by decide) (fun c => absurd c (by decide)) (fun _ => ?_)
  refine lv_aload_n hx hb dX1_begin_22 rfl (lv_at hl 1 rfl) ?_
  refine lv_sipush (v := 255) hx hb dX1_begin_23 (by decide) ?_
  obtain ⟨z24, ez24, hf⟩ := bd_e hf
  refine ct_V (As := [.int 255]) (rest := []) (st1 := []) (q0 := 3) (ci := 1) S hA hW (c_X1_add l D g z23 255 ez24) (wG_V km_X1_26 ki_yX1_add ks_yX1_add kn_X1 kc_yX1_add) ⟨rfl, rfl⟩ hd_X1_add (by rw [hR]; exact ⟨Nat.le_of_ble_eq_true rfl, Nat.le_of_ble_eq_true rfl⟩) rfl rfl rfl rfl hl.1 rfl (Nat.le_of_ble_eq_true rfl) ⟨Nat.zero_le _, Nat.zero_le _⟩ dX1_begin_26 rfl (fun H locs hW => ?_)
  refine lv_iinc (v := 1) (lv' := [(2, .int 1), (0, .ref (g.1 3)), (1, .int x1)]) hx hb dX1_begin_29 hl (k := 0) rfl (by decide) (by decide) rfl (fun ls hl => ?_)
  refine lv_goto (tgt := 17) hx hb dX1_begin_32 (by decide) ?_
  refine lv_iload_n hx hb dX1_begin_17 rfl (lv_at hl 0 rfl) ?_
  refine lv_iconst (v := 5) hx hb dX1_begin_18 (by decide) ?_
  refine lv_icmp_ge (tgt := 35) hx hb dX1_begin_19 (by decide) (fun c => absurd c (by decide)) (fun _ => ?_)
  refine lv_aload_n hx hb dX1_begin_22 rfl (lv_at hl 1 rfl) ?_
  refine lv_sipush (v := 255) hx hb dX1_begin_23 (by decide) ?_
  obtain ⟨z25, ez25, hf⟩ := bd_e hf
  refine ct_V (As := [.int 255]) (rest := []) (st1 := []) (q0 := 3) (ci := 1) S hA hW (c_X1_add l D g z24 255 ez25) (wG_V km_X1_26 ki_yX1_add ks_yX1_add kn_X1 kc_yX1_add) ⟨rfl, rfl⟩ hd_X1_add (by rw [hR]; exact ⟨Nat.le_of_ble_eq_true rfl, Nat.le_of_ble_eq_true rfl⟩) rfl rfl rfl rfl hl.1 rfl (Nat.le_of_ble_eq_true rfl) ⟨Nat.zero_le _, Nat.zero_le _⟩ dX1_begin_26 rfl (fun H locs hW => ?_)
  refine lv_iinc (v := 2) (lv' := [(2, .int 2), (0, .ref (g.1 3)), (1, .int x1)]) hx hb dX1_begin_29 hl (k := 0) rfl (by decide) (by decide) rfl (fun ls hl => ?_)
  refine lv_goto (tgt := 17) hx hb dX1_begin_32 (by decide) ?_
  refine lv_iload_n hx hb dX1_begin_17 rfl (lv_at hl 0 rfl) ?_
  refine lv_iconst (v := 5) hx hb dX1_begin_18 (by decide) ?_
  refine lv_icmp_ge (tgt := 35) hx hb dX1_begin_19 (by decide) (fun c => absurd c (by decide)) (fun _ => ?_)
  refine lv_aload_n hx hb dX1_begin_22 rfl (lv_at hl 1 rfl) ?_
  refine lv_sipush (v := 255) hx hb dX1_begin_23 (by decide) ?_
  obtain ⟨z26, ez26, hf⟩ := bd_e hf
  refine ct_V (As := [.int 255]) (rest := []) (st1 := []) (q0 := 3) (ci := 1) S hA hW (c_X1_add l D g z25 255 ez26) (wG_V km_X1_26 ki_yX1_add ks_yX1_add kn_X1 kc_yX1_add) ⟨rfl, rfl⟩ hd_X1_add (by rw [hR]; exact ⟨Nat.le_of_ble_eq_true rfl, Nat.le_of_ble_eq_true rfl⟩) rfl rfl rfl rfl hl.1 rfl (Nat.le_of_ble_eq_true rfl) ⟨Nat.zero_le _, Nat.zero_le _⟩ dX1_begin_26 rfl (fun H locs hW => ?_)
  refine lv_iinc (v := 3) (lv' := [(2, .int 3), (0, .ref (g.1 3)), (1, .int x1)]) hx hb dX1_begin_29 hl (k := 0) rfl (by decide) (by decide) rfl (fun ls hl => ?_)
  refine lv_goto (tgt := 17) hx hb dX1_begin_32 (by decide) ?_
  refine lv_iload_n hx hb dX1_begin_17 rfl (lv_at hl 0 rfl) ?_
  refine lv_iconst (v := 5) hx hb dX1_begin_18 (by decide) ?_
  refine lv_icmp_ge (tgt := 35) hx hb dX1_begin_19 (by decide) (fun c => absurd c (by decide)) (fun _ => ?_)
  refine lv_aload_n hx hb dX1_begin_22 rfl (lv_at hl 1 rfl) ?_
  refine lv_sipush (v := 255) hx hb dX1_begin_23 (by decide) ?_
  obtain ⟨z27, ez27, hf⟩ := bd_e hf
  refine ct_V (As := [.int 255]) (rest := []) (st1 := []) (q0 := 3) (ci := 1) S hA hW (c_X1_add l D g z26 255 ez27) (wG_V km_X1_26 ki_yX1_add ks_yX1_add kn_X1 kc_yX1_add) ⟨rfl, rfl⟩ hd_X1_add (by rw [hR]; exact ⟨Nat.le_of_ble_eq_true rfl, Nat.le_of_ble_eq_true rfl⟩) rfl rfl rfl rfl hl.1 rfl (Nat.le_of_ble_eq_true rfl) ⟨Nat.zero_le _, Nat.zero_le _⟩ dX1_begin_26 rfl (fun H locs hW => ?_)
  refine lv_iinc (v := 4) (lv' := [(2, .int 4), (0, .ref (g.1 3)), (1, .int x1)]) hx hb dX1_begin_29 hl (k := 0) rfl (by decide) (by decide) rfl (fun ls hl => ?_)
  refine lv_goto (tgt := 17) hx hb dX1_begin_32 (by decide) ?_
  refine lv_iload_n hx hb dX1_begin_17 rfl (lv_at hl 0 rfl) ?_
  refine lv_iconst (v := 5) hx hb dX1_begin_18 (by decide) ?_
  refine lv_icmp_ge (tgt := 35) hx hb dX1_begin_19 (by decide) (fun c => absurd c (by decide)) (fun _ => ?_)
  refine lv_aload_n hx hb dX1_begin_22 rfl (lv_at hl 1 rfl) ?_
  refine lv_sipush (v := 255) hx hb dX1_begin_23 (by decide) ?_
  obtain ⟨z28, ez28, hf⟩ := bd_e hf
  refine ct_V (As := [.int 255]) (rest := []) (st1 := []) (q0 := 3) (ci := 1) S hA hW (c_X1_add l D g z27 255 ez28) (wG_V km_X1_26 ki_yX1_add ks_yX1_add kn_X1 kc_yX1_add) ⟨rfl, rfl⟩ hd_X1_add (by rw [hR]; exact ⟨Nat.le_of_ble_eq_true rfl, Nat.le_of_ble_eq_true rfl⟩) rfl rfl rfl rfl hl.1 rfl (Nat.le_of_ble_eq_true rfl) ⟨Nat.zero_le _, Nat.zero_le _⟩ dX1_begin_26 rfl (fun H locs hW => ?_)
  refine lv_iinc (v := 5) (lv' := [(2, .int 5), (0, .ref (g.1 3)), (1, .int x1)]) hx hb dX1_begin_29 hl (k := 0) rfl (by decide) (by decide) rfl (fun ls hl => ?_)
  refine lv_goto (tgt := 17) hx hb dX1_begin_32 (by decide) ?_
  refine lv_iload_n hx hb dX1_begin_17 rfl (lv_at hl 0 rfl) ?_
  refine lv_iconst (v := 5) hx hb dX1_begin_18 (by decide) ?_
  refine lv_icmp_ge (tgt := 35) hx hb dX1_begin_19 (by decide) (fun _ => ?_) (fun c => absurd (by decide) c)
  refine lv_aload_n hx hb dX1_begin_35 rfl (lv_at hl 1 rfl) ?_
  refine lv_iload_n hx hb dX1_begin_36 rfl (lv_at hl 2 rfl) ?_
  obtain ⟨z29, ez29, hf⟩ := bd_e hf
  refine ct_V (As := [.int x1]) (rest := []) (st1 := []) (q0 := 3) (ci := 1) S hA hW (c_X1_add l D g z28 x1 ez29) (wG_V km_X1_26 ki_yX1_add ks_yX1_add kn_X1 kc_yX1_add) ⟨rfl, rfl⟩ hd_X1_add (by rw [hR]; exact ⟨Nat.le_of_ble_eq_true rfl, Nat.le_of_ble_eq_true rfl⟩) rfl rfl rfl rfl hl.1 rfl (Nat.le_of_ble_eq_true rfl) ⟨Nat.zero_le _, Nat.zero_le _⟩ dX1_begin_37 rfl (fun H locs hW => ?_)
  subst hf
  exact ct_v S hr hlocks hW dX1_begin_40
def f_X1_addFour (z : Sg) (x1 : Int32) : Sg := bd (f_X1_add z ((x1.toUInt32 >>> (Int32.toUInt32 24 &&& Int32.toUInt32 31)).toInt32)) (fun z21 => bd (f_X1_add z21 ((x1.toUInt32 >>> (Int32.toUInt32 16 &&& Int32.toUInt32 31)).toInt32)) (fun z22 => bd (f_X1_add z22 ((x1.toUInt32 >>> (Int32.toUInt32 8 &&& Int32.toUInt32 31)).toInt32)) (fun z23 => bd (f_X1_add z23 x1) (fun z24 => z24))))
theorem hd_X1_addFour : yX1_addFour.cls = RX1 ∧ yX1_addFour.cls ≠ "java/lang/invoke/MethodHandle" ∧ yX1_addFour.cls ≠ "java/lang/invoke/VarHandle" ∧ (parseMethodDescriptor yX1_addFour.desc).map (fun d => d.parameters.length) = some 1 := by decide +kernel
set_option maxHeartbeats 4000000 in
set_option maxRecDepth 100000 in
theorem c_X1_addFour (l : Launch) (D : va_G) (g : Gv) (z : Sg) (x1 : Int32) {r : Sg} (er : r = f_X1_addFour z x1) : CT D (wD g) (tD g) l yX1_addFour (wG yX1_addFour cX1_addFour 2 none) { frames := 1, cells := 0, slots := 0, locals := 21 } [.ref (g.1 3), .int x1] z none r := by
  refine CT.ofW (by decide) (Nat.le_of_ble_eq_true rfl) ?_
  intro p e R s m args below meth c A hR S hr hlocks hA hW ls hl
  have S : CallFix p m c cX1_addFour 2 s args wsL_law RX1 := S
  have hl : lv_has ls 2 [(0, .ref (g.1 3)), (1, .int x1)] := hl
  have hx := S.1
  have hb := S.2.1
  have hf := er.symm
  clear er
  unfold f_X1_addFour at hf
  refine lv_aload_n hx hb dX1_addFour_0 rfl (lv_at hl 0 rfl) ?_
  refine lv_iload_n hx hb dX1_addFour_1 rfl (lv_at hl 1 rfl) ?_
  refine lv_bipush (v := 24) hx hb dX1_addFour_2 (by decide) ?_
  refine lv_iushr hx hb dX1_addFour_4 rfl ?_
  obtain ⟨z21, ez21, hf⟩ := bd_e hf
  refine ct_V (As := [.int ((x1.toUInt32 >>> (Int32.toUInt32 24 &&& Int32.toUInt32 31)).toInt32)]) (rest := []) (st1 := []) (q0 := 3) (ci := 1) S hA hW (c_X1_add l D g z ((x1.toUInt32 >>> (Int32.toUInt32 24 &&& Int32.toUInt32 31)).toInt32) ez21) (wG_V km_X1_26 ki_yX1_add ks_yX1_add kn_X1 kc_yX1_add) ⟨rfl, rfl⟩ hd_X1_add (by rw [hR]; exact ⟨Nat.le_of_ble_eq_true rfl, Nat.le_of_ble_eq_true rfl⟩) rfl rfl rfl rfl hl.1 rfl (Nat.le_of_ble_eq_true rfl) ⟨Nat.zero_le _, Nat.zero_le _⟩ dX1_addFour_5 rfl (fun H locs hW => ?_)
  refine lv_aload_n hx hb dX1_addFour_8 rfl (lv_at hl 0 rfl) ?_
  refine lv_iload_n hx hb dX1_addFour_9 rfl (lv_at hl 1 rfl) ?_
  refine lv_bipush (v := 16) hx hb dX1_addFour_10 (by decide) ?_
  refine lv_iushr hx hb dX1_addFour_12 rfl ?_
  obtain ⟨z22, ez22, hf⟩ := bd_e hf
  refine ct_V (As := [.int ((x1.toUInt32 >>> (Int32.toUInt32 16 &&& Int32.toUInt32 31)).toInt32)]) (rest := []) (st1 := []) (q0 := 3) (ci := 1) S hA hW (c_X1_add l D g z21 ((x1.toUInt32 >>> (Int32.toUInt32 16 &&& Int32.toUInt32 31)).toInt32) ez22) (wG_V km_X1_26 ki_yX1_add ks_yX1_add kn_X1 kc_yX1_add) ⟨rfl, rfl⟩ hd_X1_add (by rw [hR]; exact ⟨Nat.le_of_ble_eq_true rfl, Nat.le_of_ble_eq_true rfl⟩) rfl rfl rfl rfl hl.1 rfl (Nat.le_of_ble_eq_true rfl) ⟨Nat.zero_le _, Nat.zero_le _⟩ dX1_addFour_13 rfl (fun H locs hW => ?_)
  refine lv_aload_n hx hb dX1_addFour_16 rfl (lv_at hl 0 rfl) ?_
  refine lv_iload_n hx hb dX1_addFour_17 rfl (lv_at hl 1 rfl) ?_
  refine lv_bipush (v := 8) hx hb dX1_addFour_18 (by decide) ?_
  refine lv_iushr hx hb dX1_addFour_20 rfl ?_
  obtain ⟨z23, ez23, hf⟩ := bd_e hf
  refine ct_V (As := [.int ((x1.toUInt32 >>> (Int32.toUInt32 8 &&& Int32.toUInt32 31)).toInt32)]) (rest := []) (st1 := []) (q0 := 3) (ci := 1) S hA hW (c_X1_add l D g z22 ((x1.toUInt32 >>> (Int32.toUInt32 8 &&& Int32.toUInt32 31)).toInt32) ez23) (wG_V km_X1_26 ki_yX1_add ks_yX1_add kn_X1 kc_yX1_add) ⟨rfl, rfl⟩ hd_X1_add (by rw [hR]; exact ⟨Nat.le_of_ble_eq_true rfl, Nat.le_of_ble_eq_true rfl⟩) rfl rfl rfl rfl hl.1 rfl (Nat.le_of_ble_eq_true rfl) ⟨Nat.zero_le _, Nat.zero_le _⟩ dX1_addFour_21 rfl (fun H locs hW => ?_)
  refine lv_aload_n hx hb dX1_addFour_24 rfl (lv_at hl 0 rfl) ?_
  refine lv_iload_n hx hb dX1_addFour_25 rfl (lv_at hl 1 rfl) ?_
  obtain ⟨z24, ez24, hf⟩ := bd_e hf
  refine ct_V (As := [.int x1]) (rest := []) (st1 := []) (q0 := 3) (ci := 1) S hA hW (c_X1_add l D g z23 x1 ez24) (wG_V km_X1_26 ki_yX1_add ks_yX1_add kn_X1 kc_yX1_add) ⟨rfl, rfl⟩ hd_X1_add (by rw [hR]; exact ⟨Nat.le_of_ble_eq_true rfl, Nat.le_of_ble_eq_true rfl⟩) rfl rfl rfl rfl hl.1 rfl (Nat.le_of_ble_eq_true rfl) ⟨Nat.zero_le _, Nat.zero_le _⟩ dX1_addFour_26 rfl (fun H locs hW => ?_)
  subst hf
  exact ct_v S hr hlocks hW dX1_addFour_29
def f_X1_beginCount (z : Sg)  : Sg := bd (pI z 29 (gI z 27)) (fun z21 => bd (f_X1_add z21 0) (fun z22 => z22))
theorem hd_X1_beginCount : yX1_beginCount.cls = RX1 ∧ yX1_beginCount.cls ≠ "java/lang/invoke/MethodHandle" ∧ yX1_beginCount.cls ≠ "java/lang/invoke/VarHandle" ∧ (parseMethodDescriptor yX1_beginCount.desc).map (fun d => d.parameters.length) = some 0 := by decide +kernel
set_option maxHeartbeats 4000000 in
set_option maxRecDepth 100000 in
theorem c_X1_beginCount (l : Launch) (D : va_G) (g : Gv) (z : Sg)  {r : Sg} (er : r = f_X1_beginCount z ) : CT D (wD g) (tD g) l yX1_beginCount (wG yX1_beginCount cX1_beginCount 1 none) { frames := 1, cells := 0, slots := 0, locals := 21 } [.ref (g.1 3)] z none r := by
  refine CT.ofW (by decide) (Nat.le_of_ble_eq_true rfl) ?_
  intro p e R s m args below meth c A hR S hr hlocks hA hW ls hl
  have S : CallFix p m c cX1_beginCount 1 s args wsL_law RX1 := S
  have hl : lv_has ls 1 [(0, .ref (g.1 3))] := hl
  have hx := S.1
  have hb := S.2.1
  have hf := er.symm
  clear er
  unfold f_X1_beginCount at hf
  refine lv_aload_n hx hb dX1_beginCount_0 rfl (lv_at hl 0 rfl) ?_
  refine lv_aload_n hx hb dX1_beginCount_1 rfl (lv_at hl 0 rfl) ?_
  refine gX1_length S hW kf_X1_19 dX1_beginCount_2 ?_
  obtain ⟨z21, ez21, hf⟩ := bd_e hf
  refine pX1_countPlace S hW kf_X1_30 dX1_beginCount_5 ez21 (fun H locs hW => ?_)
  refine lv_aload_n hx hb dX1_beginCount_8 rfl (lv_at hl 0 rfl) ?_
  refine lv_iconst (v := 0) hx hb dX1_beginCount_9 (by decide) ?_
  obtain ⟨z22, ez22, hf⟩ := bd_e hf
  refine ct_V (As := [.int 0]) (rest := []) (st1 := []) (q0 := 3) (ci := 1) S hA hW (c_X1_add l D g z21 0 ez22) (wG_V km_X1_26 ki_yX1_add ks_yX1_add kn_X1 kc_yX1_add) ⟨rfl, rfl⟩ hd_X1_add (by rw [hR]; exact ⟨Nat.le_of_ble_eq_true rfl, Nat.le_of_ble_eq_true rfl⟩) rfl rfl rfl rfl hl.1 rfl (Nat.le_of_ble_eq_true rfl) ⟨Nat.zero_le _, Nat.zero_le _⟩ dX1_beginCount_10 rfl (fun H locs hW => ?_)
  subst hf
  exact ct_v S hr hlocks hW dX1_beginCount_13
def f_X1_end_43 : Nat → Sg → Int32 → Int32 → Sg
  | 0, z, _, _ => z
  | n + 1, z, y1, y2 => (if (gI z 27) ≤ y2 then bd (f_X1_add z y1) (fun z25 => z25) else (if 36 ≤ y2 then bd (f_X1_add z y1) (fun z27 => z27) else bd (y1 ^^^ (gA z 4 (Int32.toNatClampNeg y2))) (fun x29 => bd (y2 + 1) (fun x30 => f_X1_end_43 n z x29 x30))))
def s_X1_end_43 : Nat → Sg → Int32 → Int32 → Prop
  | 0, _, _, _ => False
  | n + 1, z, y1, y2 => ((gI z 27) ≤ y2 → True) ∧ (¬ (gI z 27) ≤ y2 → (36 ≤ y2 → True) ∧ (¬ 36 ≤ y2 → (vp_in y2 36) ∧ bd (y1 ^^^ (gA z 4 (Int32.toNatClampNeg y2))) (fun x29 => bd (y2 + 1) (fun x30 => s_X1_end_43 n z x29 x30))))
def f_X1_end_39 (z : Sg)  : Sg := f_X1_end_43 64 z 0 5
def s_X1_end_39 (z : Sg)  : Prop := s_X1_end_43 64 z 0 5
def f_X1_end (z : Sg)  : Sg := (if (gI z 29) < 0 then f_X1_end_39 z else (if 36 ≤ (gI z 29) then f_X1_end_39 z else bd (pA z 4 (Int32.toNatClampNeg (gI z 29)) (((gI z 27) - (gI z 29)) - 1)) (fun z23 => f_X1_end_39 z23)))
def s_X1_end (z : Sg)  : Prop := ((gI z 29) < 0 → s_X1_end_39 z) ∧ (¬ (gI z 29) < 0 → (36 ≤ (gI z 29) → s_X1_end_39 z) ∧ (¬ 36 ≤ (gI z 29) → bd (pA z 4 (Int32.toNatClampNeg (gI z 29)) (((gI z 27) - (gI z 29)) - 1)) (fun z23 => s_X1_end_39 z23)))
theorem hd_X1_end : yX1_end.cls = RX1 ∧ yX1_end.cls ≠ "java/lang/invoke/MethodHandle" ∧ yX1_end.cls ≠ "java/lang/invoke/VarHandle" ∧ (parseMethodDescriptor yX1_end.desc).map (fun d => d.parameters.length) = some 0 := by decide +kernel
set_option maxHeartbeats 4000000 in
set_option maxRecDepth 100000 in
theorem c_X1_end (l : Launch) (D : va_G) (g : Gv) (z : Sg)  {r : Sg} (er : r = f_X1_end z ) (hs : s_X1_end z ) : CT D (wD g) (tD g) l yX1_end (wG yX1_end cX1_end 3 none) { frames := 1, cells := 0, slots := 0, locals := 21 } [.ref (g.1 3)] z none r := by
  refine CT.ofW (by decide) (Nat.le_of_ble_eq_true rfl) ?_
  intro p e R s m args below meth c A hR S hr hlocks hA hW ls hl
  have S : CallFix p m c cX1_end 3 s args wsL_law RX1 := S
  have hl : lv_has ls 3 [(0, .ref (g.1 3))] := hl
  have hx := S.1
  have hb := S.2.1
  have hf := er.symm
  clear er
  have J_43 : ∀ (n : Nat) (z : Sg) (y1 : Int32) (y2 : Int32) (H : Heap) (locs : List Loc) (ls : Array Slot), Wd D (wD g) (tD g) A s H locs z → lv_has ls 3 [(0, .ref (g.1 3)), (1, .int y1), (2, .int y2)] → s_X1_end_43 n z y1 y2 → f_X1_end_43 n z y1 y2 = r → W p l e R s m args below meth c H locs 0 0 (MQ below (CQ D (wD g) A none r) args s 0 0 A) (F0 m 43 ls []) := by
    intro n
    induction n with
    | zero =>
      intro z y1 y2 H locs ls hW hl hs hf
      exact absurd hs (by rw [s_X1_end_43]; exact id)
    | succ n ih =>
      intro z y1 y2 H locs ls hW hl hs hf
      rw [f_X1_end_43] at hf
      rw [s_X1_end_43] at hs
      refine lv_iload_n hx hb dX1_end_43 rfl (lv_at hl 2 rfl) ?_
      refine lv_aload_n hx hb dX1_end_44 rfl (lv_at hl 0 rfl) ?_
      refine gX1_length S hW kf_X1_19 dX1_end_45 ?_
      refine lv_icmp_ge (tgt := 75) hx hb dX1_end_48 (by decide) (fun c24 => ?_) (fun c24 => ?_)
      · replace hf := if_t c24 hf
        replace hs := hs.1 c24
        refine lv_aload_n hx hb dX1_end_75 rfl (lv_at hl 0 rfl) ?_
        refine lv_iload_n hx hb dX1_end_76 rfl (lv_at hl 1 rfl) ?_
        obtain ⟨z25, ez25, hf⟩ := bd_e hf
        refine ct_V (As := [.int y1]) (rest := []) (st1 := []) (q0 := 3) (ci := 1) S hA hW (c_X1_add l D g z y1 ez25) (wG_V km_X1_26 ki_yX1_add ks_yX1_add kn_X1 kc_yX1_add) ⟨rfl, rfl⟩ hd_X1_add (by rw [hR]; exact ⟨Nat.le_of_ble_eq_true rfl, Nat.le_of_ble_eq_true rfl⟩) rfl rfl rfl rfl hl.1 rfl (Nat.le_of_ble_eq_true rfl) ⟨Nat.zero_le _, Nat.zero_le _⟩ dX1_end_77 rfl (fun H locs hW => ?_)
        subst hf
        exact ct_v S hr hlocks hW dX1_end_80
      · replace hf := if_f c24 hf
        replace hs := hs.2 c24
        refine lv_iload_n hx hb dX1_end_51 rfl (lv_at hl 2 rfl) ?_
        refine lv_aload_n hx hb dX1_end_52 rfl (lv_at hl 0 rfl) ?_
        refine gX1_bytes S hW kf_X1_11 dX1_end_53 ?_
        refine nD4 S hW dX1_end_56 ?_
        refine lv_icmp_ge (tgt := 75) hx hb dX1_end_57 (by decide) (fun c26 => ?_) (fun c26 => ?_)
        · replace hf := if_t c26 hf
          replace hs := hs.1 c26
          refine lv_aload_n hx hb dX1_end_75 rfl (lv_at hl 0 rfl) ?_
          refine lv_iload_n hx hb dX1_end_76 rfl (lv_at hl 1 rfl) ?_
          obtain ⟨z27, ez27, hf⟩ := bd_e hf
          refine ct_V (As := [.int y1]) (rest := []) (st1 := []) (q0 := 3) (ci := 1) S hA hW (c_X1_add l D g z y1 ez27) (wG_V km_X1_26 ki_yX1_add ks_yX1_add kn_X1 kc_yX1_add) ⟨rfl, rfl⟩ hd_X1_add (by rw [hR]; exact ⟨Nat.le_of_ble_eq_true rfl, Nat.le_of_ble_eq_true rfl⟩) rfl rfl rfl rfl hl.1 rfl (Nat.le_of_ble_eq_true rfl) ⟨Nat.zero_le _, Nat.zero_le _⟩ dX1_end_77 rfl (fun H locs hW => ?_)
          subst hf
          exact ct_v S hr hlocks hW dX1_end_80
        · replace hf := if_f c26 hf
          replace hs := hs.2 c26
          refine lv_iload_n hx hb dX1_end_60 rfl (lv_at hl 1 rfl) ?_
          refine lv_aload_n hx hb dX1_end_61 rfl (lv_at hl 0 rfl) ?_
          refine gX1_bytes S hW kf_X1_11 dX1_end_62 ?_
          refine lv_iload_n hx hb dX1_end_65 rfl (lv_at hl 2 rfl) ?_
          obtain ⟨q28, hs⟩ := hs
          refine aD4 S hW q28 dX1_end_66 ?_
          refine lv_ixor hx hb dX1_end_67 ?_
          obtain ⟨x29, ex29, hf⟩ := bd_e hf
          replace hs := bd_s ex29 hs
          refine lv_nmi ex29 ?_
          refine lv_istore_n (lv' := [(1, .int x29), (0, .ref (g.1 3)), (2, .int y2)]) hx hb dX1_end_68 rfl hl (by decide) rfl (fun ls hl => ?_)
          obtain ⟨x30, ex30, hf⟩ := bd_e hf
          replace hs := bd_s ex30 hs
          refine lv_iinc (v := x30) (lv' := [(2, .int x30), (1, .int x29), (0, .ref (g.1 3))]) hx hb dX1_end_69 hl (k := 2) rfl ex30.symm (by decide) rfl (fun ls hl => ?_)
          refine lv_goto (tgt := 43) hx hb dX1_end_72 (by decide) ?_
          exact ih z x29 x30 _ _ ls hW (lv_sub hl [2, 1, 0] rfl) hs hf
  have J_39 : ∀ (z : Sg)  (H : Heap) (locs : List Loc) (ls : Array Slot), Wd D (wD g) (tD g) A s H locs z → lv_has ls 3 [(0, .ref (g.1 3))] → s_X1_end_39 z  → f_X1_end_39 z  = r → W p l e R s m args below meth c H locs 0 0 (MQ below (CQ D (wD g) A none r) args s 0 0 A) (F0 m 39 ls []) := by
    intro z  H locs ls hW hl hs hf
    unfold f_X1_end_39 at hf
    unfold s_X1_end_39 at hs
    refine lv_iconst (v := 0) hx hb dX1_end_39 (by decide) ?_
    refine lv_istore_n (lv' := [(1, .int 0), (0, .ref (g.1 3))]) hx hb dX1_end_40 rfl hl (by decide) rfl (fun ls hl => ?_)
    refine lv_iconst (v := 5) hx hb dX1_end_41 (by decide) ?_
    refine lv_istore_n (lv' := [(2, .int 5), (1, .int 0), (0, .ref (g.1 3))]) hx hb dX1_end_42 rfl hl (by decide) rfl (fun ls hl => ?_)
    exact (J_43 64) z 0 5 _ _ ls hW (lv_sub hl [2, 1, 0] rfl) hs hf
  unfold f_X1_end at hf
  unfold s_X1_end at hs
  refine lv_aload_n hx hb dX1_end_0 rfl (lv_at hl 0 rfl) ?_
  refine gX1_countPlace S hW kf_X1_30 dX1_end_1 ?_
  refine lv_if_lt (tgt := 39) hx hb dX1_end_4 (by decide) (fun c21 => ?_) (fun c21 => ?_)
  · replace hf := if_t c21 hf
    replace hs := hs.1 c21
    exact J_39 z _ _ ls hW (lv_sub hl [0] rfl) hs hf
  · replace hf := if_f c21 hf
    replace hs := hs.2 c21
    refine lv_aload_n hx hb dX1_end_7 rfl (lv_at hl 0 rfl) ?_
    refine gX1_countPlace S hW kf_X1_30 dX1_end_8 ?_
    refine lv_aload_n hx hb dX1_end_11 rfl (lv_at hl 0 rfl) ?_
    refine gX1_bytes S hW kf_X1_11 dX1_end_12 ?_
    refine nD4 S hW dX1_end_15 ?_
    refine lv_icmp_ge (tgt := 39) hx hb dX1_end_16 (by decide) (fun c22 => ?_) (fun c22 => ?_)
    · replace hf := if_t c22 hf
      replace hs := hs.1 c22
      exact J_39 z _ _ ls hW (lv_sub hl [0] rfl) hs hf
    · replace hf := if_f c22 hf
      replace hs := hs.2 c22
      refine lv_aload_n hx hb dX1_end_19 rfl (lv_at hl 0 rfl) ?_
      refine gX1_bytes S hW kf_X1_11 dX1_end_20 ?_
      refine lv_aload_n hx hb dX1_end_23 rfl (lv_at hl 0 rfl) ?_
      refine gX1_countPlace S hW kf_X1_30 dX1_end_24 ?_
      refine lv_aload_n hx hb dX1_end_27 rfl (lv_at hl 0 rfl) ?_
      refine gX1_length S hW kf_X1_19 dX1_end_28 ?_
      refine lv_aload_n hx hb dX1_end_31 rfl (lv_at hl 0 rfl) ?_
      refine gX1_countPlace S hW kf_X1_30 dX1_end_32 ?_
      refine lv_isub hx hb dX1_end_35 ?_
      refine lv_iconst (v := 1) hx hb dX1_end_36 (by decide) ?_
      refine lv_isub hx hb dX1_end_37 ?_
      obtain ⟨z23, ez23, hf⟩ := bd_e hf
      replace hs := bd_s ez23 hs
      refine sD4 S hW (vi_of2 (M := 36) (by decide) c21 c22) dX1_end_38 ez23 (fun H locs hW => ?_)
      exact J_39 z23 _ _ ls hW (lv_sub hl [0] rfl) hs hf
def f_X1_waitOneTick (z : Sg)  : Sg := bd (pI z 30 1) (fun z21 => z21)
theorem hd_X1_waitOneTick : yX1_waitOneTick.cls = RX1 ∧ yX1_waitOneTick.cls ≠ "java/lang/invoke/MethodHandle" ∧ yX1_waitOneTick.cls ≠ "java/lang/invoke/VarHandle" ∧ (parseMethodDescriptor yX1_waitOneTick.desc).map (fun d => d.parameters.length) = some 0 := by decide +kernel
set_option maxHeartbeats 4000000 in
set_option maxRecDepth 100000 in
theorem c_X1_waitOneTick (l : Launch) (D : va_G) (g : Gv) (z : Sg)  {r : Sg} (er : r = f_X1_waitOneTick z ) : CT D (wD g) (tD g) l yX1_waitOneTick (wG yX1_waitOneTick cX1_waitOneTick 1 none) { frames := 0, cells := 0, slots := 0, locals := 0 } [.ref (g.1 3)] z none r := by
  refine CT.ofW (by decide) (Nat.le_of_ble_eq_true rfl) ?_
  intro p e R s m args below meth c A hR S hr hlocks hA hW ls hl
  have S : CallFix p m c cX1_waitOneTick 1 s args wsL_law RX1 := S
  have hl : lv_has ls 1 [(0, .ref (g.1 3))] := hl
  have hx := S.1
  have hb := S.2.1
  have hf := er.symm
  clear er
  unfold f_X1_waitOneTick at hf
  refine lv_aload_n hx hb dX1_waitOneTick_0 rfl (lv_at hl 0 rfl) ?_
  refine lv_iconst (v := 1) hx hb dX1_waitOneTick_1 (by decide) ?_
  obtain ⟨z21, ez21, hf⟩ := bd_e hf
  refine pX1_waits (by decide) S hW kf_X1_22 dX1_waitOneTick_2 ez21 (fun H locs hW => ?_)
  subst hf
  exact ct_v S hr hlocks hW dX1_waitOneTick_5
def f_X1_takeNext (z : Sg)  : Int32 × Sg := (if (gI z 30) = 0 then (if (gI z 28) < 0 then ((-1), z) else (if (gI z 27) ≤ (gI z 28) then ((-1), z) else (if (gI z 28) < 36 then bd (gA z 4 (Int32.toNatClampNeg (gI z 28))) (fun x25 => bd (pI z 28 ((gI z 28) + 1)) (fun z26 => (x25, z26))) else ((-1), z)))) else bd (pI z 30 0) (fun z27 => ((-1), z27)))
theorem hd_X1_takeNext : yX1_takeNext.cls = RX1 ∧ yX1_takeNext.cls ≠ "java/lang/invoke/MethodHandle" ∧ yX1_takeNext.cls ≠ "java/lang/invoke/VarHandle" ∧ (parseMethodDescriptor yX1_takeNext.desc).map (fun d => d.parameters.length) = some 0 := by decide +kernel
set_option maxHeartbeats 4000000 in
set_option maxRecDepth 100000 in
theorem c_X1_takeNext (l : Launch) (D : va_G) (g : Gv) (z : Sg)  {r : Int32 × Sg} (er : r = f_X1_takeNext z ) : CT D (wD g) (tD g) l yX1_takeNext (wG yX1_takeNext cX1_takeNext 2 (some .int)) { frames := 0, cells := 0, slots := 0, locals := 0 } [.ref (g.1 3)] z (some (.int r.1)) r.2 := by
  refine CT.ofW (by decide) (Nat.le_of_ble_eq_true rfl) ?_
  intro p e R s m args below meth c A hR S hr hlocks hA hW ls hl
  have S : CallFix p m c cX1_takeNext 2 s args wsL_law RX1 := S
  have hl : lv_has ls 2 [(0, .ref (g.1 3))] := hl
  have hx := S.1
  have hb := S.2.1
  have hf := er.symm
  clear er
  unfold f_X1_takeNext at hf
  refine lv_aload_n hx hb dX1_takeNext_0 rfl (lv_at hl 0 rfl) ?_
  refine gX1_waits S hW kf_X1_22 dX1_takeNext_1 ?_
  refine lv_if_eq (tgt := 14) hx hb dX1_takeNext_4 (by decide) (fun c21 => ?_) (fun c21 => ?_)
  · replace hf := if_t c21 hf
    refine lv_aload_n hx hb dX1_takeNext_14 rfl (lv_at hl 0 rfl) ?_
    refine gX1_next S hW kf_X1_15 dX1_takeNext_15 ?_
    refine lv_if_lt (tgt := 44) hx hb dX1_takeNext_18 (by decide) (fun c22 => ?_) (fun c22 => ?_)
    · replace hf := if_t c22 hf
      refine lv_iconst (v := (-1)) hx hb dX1_takeNext_44 (by decide) ?_
      subst hf
      exact ct_i S hr hlocks hW dX1_takeNext_45
    · replace hf := if_f c22 hf
      refine lv_aload_n hx hb dX1_takeNext_21 rfl (lv_at hl 0 rfl) ?_
      refine gX1_next S hW kf_X1_15 dX1_takeNext_22 ?_
      refine lv_aload_n hx hb dX1_takeNext_25 rfl (lv_at hl 0 rfl) ?_
      refine gX1_length S hW kf_X1_19 dX1_takeNext_26 ?_
      refine lv_icmp_ge (tgt := 44) hx hb dX1_takeNext_29 (by decide) (fun c23 => ?_) (fun c23 => ?_)
      · replace hf := if_t c23 hf
        refine lv_iconst (v := (-1)) hx hb dX1_takeNext_44 (by decide) ?_
        subst hf
        exact ct_i S hr hlocks hW dX1_takeNext_45
      · replace hf := if_f c23 hf
        refine lv_aload_n hx hb dX1_takeNext_32 rfl (lv_at hl 0 rfl) ?_
        refine gX1_next S hW kf_X1_15 dX1_takeNext_33 ?_
        refine lv_aload_n hx hb dX1_takeNext_36 rfl (lv_at hl 0 rfl) ?_
        refine gX1_bytes S hW kf_X1_11 dX1_takeNext_37 ?_
        refine nD4 S hW dX1_takeNext_40 ?_
        refine lv_icmp_lt (tgt := 46) hx hb dX1_takeNext_41 (by decide) (fun c24 => ?_) (fun c24 => ?_)
        · replace hf := if_t c24 hf
          refine lv_aload_n hx hb dX1_takeNext_46 rfl (lv_at hl 0 rfl) ?_
          refine gX1_bytes S hW kf_X1_11 dX1_takeNext_47 ?_
          refine lv_aload_n hx hb dX1_takeNext_50 rfl (lv_at hl 0 rfl) ?_
          refine gX1_next S hW kf_X1_15 dX1_takeNext_51 ?_
          refine aD4 S hW (vi_of (M := 36) (by decide) c22 c24) dX1_takeNext_54 ?_
          obtain ⟨x25, ex25, hf⟩ := bd_e hf
          refine lv_nmi ex25 ?_
          refine lv_istore_n (lv' := [(1, .int x25), (0, .ref (g.1 3))]) hx hb dX1_takeNext_55 rfl hl (by decide) rfl (fun ls hl => ?_)
          refine lv_aload_n hx hb dX1_takeNext_56 rfl (lv_at hl 1 rfl) ?_
          refine lv_dup hx hb dX1_takeNext_57 rfl ?_
          refine gX1_next S hW kf_X1_15 dX1_takeNext_58 ?_
          refine lv_iconst (v := 1) hx hb dX1_takeNext_61 (by decide) ?_
          refine lv_iadd hx hb dX1_takeNext_62 ?_
          obtain ⟨z26, ez26, hf⟩ := bd_e hf
          refine pX1_next S hW kf_X1_15 dX1_takeNext_63 ez26 (fun H locs hW => ?_)
          refine lv_iload_n hx hb dX1_takeNext_66 rfl (lv_at hl 0 rfl) ?_
          subst hf
          exact ct_i S hr hlocks hW dX1_takeNext_67
        · replace hf := if_f c24 hf
          refine lv_iconst (v := (-1)) hx hb dX1_takeNext_44 (by decide) ?_
          subst hf
          exact ct_i S hr hlocks hW dX1_takeNext_45
  · replace hf := if_f c21 hf
    refine lv_aload_n hx hb dX1_takeNext_7 rfl (lv_at hl 0 rfl) ?_
    refine lv_iconst (v := 0) hx hb dX1_takeNext_8 (by decide) ?_
    obtain ⟨z27, ez27, hf⟩ := bd_e hf
    refine pX1_waits (by decide) S hW kf_X1_22 dX1_takeNext_9 ez27 (fun H locs hW => ?_)
    refine lv_iconst (v := (-1)) hx hb dX1_takeNext_12 (by decide) ?_
    subst hf
    exact ct_i S hr hlocks hW dX1_takeNext_13
