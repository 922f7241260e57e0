def f_X3_placeOf (z : Sg) (x1 : Int32) : Int32 × Sg := (if x1 < 0 then ((-1), z) else (if (gI z 31) ≤ x1 then ((-1), z) else (if ((gI z 31) - 2000) ≤ x1 then (x1 - x1 / 2000 * 2000, z) else ((-1), z))))
theorem hd_X3_placeOf : yX3_placeOf.cls = RX3 ∧ yX3_placeOf.cls ≠ "java/lang/invoke/MethodHandle" ∧ yX3_placeOf.cls ≠ "java/lang/invoke/VarHandle" ∧ (parseMethodDescriptor yX3_placeOf.desc).map (fun d => d.parameters.length) = some 1 := by decide +kernel
set_option maxHeartbeats 4000000 in
set_option maxRecDepth 100000 in
theorem c_X3_placeOf (l : Launch) (D : va_G) (g : Gv) (z : Sg) (x1 : Int32) {r : Int32 × Sg} (er : r = f_X3_placeOf z x1) : CT D (wD g) (tD g) l yX3_placeOf (wG yX3_placeOf cX3_placeOf 2 (some .int)) { frames := 0, cells := 0, slots := 0, locals := 0 } [.ref (g.1 4), .int x1] z (some (.int r.1)) r.2 := by
  refine CT.ofW (by decide) (Nat.le_of_ble_eq_true rfl) ?_
  intro p e R s m args below meth c A hR S hr hlocks hA hW ls hl
  have S : CallFix p m c cX3_placeOf 2 s args wsL_law RX3 := S
  have hl : lv_has ls 2 [(0, .ref (g.1 4)), (1, .int x1)] := hl
  have hx := S.1
  have hb := S.2.1
  have hf := er.symm
  clear er
  unfold f_X3_placeOf at hf
  refine lv_iload_n hx hb dX3_placeOf_0 rfl (lv_at hl 1 rfl) ?_
  refine lv_if_lt (tgt := 24) hx hb dX3_placeOf_1 (by decide) (fun c21 => ?_) (fun c21 => ?_)
  · replace hf := if_t c21 hf
    refine lv_iconst (v := (-1)) hx hb dX3_placeOf_24 (by decide) ?_
    refine lv_goto (tgt := 33) hx hb dX3_placeOf_25 (by decide) ?_
    subst hf
    exact ct_i S hr hlocks hW dX3_placeOf_33
  · replace hf := if_f c21 hf
    refine lv_iload_n hx hb dX3_placeOf_4 rfl (lv_at hl 1 rfl) ?_
    refine lv_aload_n hx hb dX3_placeOf_5 rfl (lv_at hl 0 rfl) ?_
    refine gX3_total S hW kf_X3_18 dX3_placeOf_6 ?_
    refine lv_icmp_ge (tgt := 24) hx hb dX3_placeOf_9 (by decide) (fun c22 => ?_) (fun c22 => ?_)
    · replace hf := if_t c22 hf
      refine lv_iconst (v := (-1)) hx hb dX3_placeOf_24 (by decide) ?_
      refine lv_goto (tgt := 33) hx hb dX3_placeOf_25 (by decide) ?_
      subst hf
      exact ct_i S hr hlocks hW dX3_placeOf_33
    · replace hf := if_f c22 hf
      refine lv_iload_n hx hb dX3_placeOf_12 rfl (lv_at hl 1 rfl) ?_
      refine lv_aload_n hx hb dX3_placeOf_13 rfl (lv_at hl 0 rfl) ?_
      refine gX3_total S hW kf_X3_18 dX3_placeOf_14 ?_
      refine lv_sipush (v := 2000) hx hb dX3_placeOf_17 (by decide) ?_
      refine lv_isub hx hb dX3_placeOf_20 ?_
      refine lv_icmp_ge (tgt := 28) hx hb dX3_placeOf_21 (by decide) (fun c23 => ?_) (fun c23 => ?_)
      · replace hf := if_t c23 hf
        refine lv_iload_n hx hb dX3_placeOf_28 rfl (lv_at hl 1 rfl) ?_
        refine lv_sipush (v := 2000) hx hb dX3_placeOf_29 (by decide) ?_
        refine lv_irem hx hb dX3_placeOf_32 (by decide) ?_
        subst hf
        exact ct_i S hr hlocks hW dX3_placeOf_33
      · replace hf := if_f c23 hf
        refine lv_iconst (v := (-1)) hx hb dX3_placeOf_24 (by decide) ?_
        refine lv_goto (tgt := 33) hx hb dX3_placeOf_25 (by decide) ?_
        subst hf
        exact ct_i S hr hlocks hW dX3_placeOf_33
def f_X3_add (z : Sg) (x1 : Int32) (x2 : Int32) : Sg := bd ((gI z 31) - (gI z 31) / 2000 * 2000) (fun x21 => (if x21 < 0 then z else (if 2000 ≤ x21 then z else (if 2000 ≤ x21 then z else bd (pA z 5 (Int32.toNatClampNeg x21) x1) (fun z25 => bd (pA z25 6 (Int32.toNatClampNeg x21) x2) (fun z26 => bd (pI z26 31 ((gI z26 31) + 1)) (fun z27 => z27)))))))
theorem hd_X3_add : yX3_add.cls = RX3 ∧ yX3_add.cls ≠ "java/lang/invoke/MethodHandle" ∧ yX3_add.cls ≠ "java/lang/invoke/VarHandle" ∧ (parseMethodDescriptor yX3_add.desc).map (fun d => d.parameters.length) = some 2 := by decide +kernel
set_option maxHeartbeats 4000000 in
set_option maxRecDepth 100000 in
theorem c_X3_add (l : Launch) (D : va_G) (g : Gv) (z : Sg) (x1 : Int32) (x2 : Int32) {r : Sg} (er : r = f_X3_add z x1 x2) : CT D (wD g) (tD g) l yX3_add (wG yX3_add cX3_add 4 none) { frames := 0, cells := 0, slots := 0, locals := 0 } [.ref (g.1 4), .int x1, .int x2] z none r := by
  refine CT.ofW (by decide) (Nat.le_of_ble_eq_true rfl) ?_
  intro p e R s m args below meth c A hR S hr hlocks hA hW ls hl
  have S : CallFix p m c cX3_add 4 s args wsL_law RX3 := S
  have hl : lv_has ls 4 [(0, .ref (g.1 4)), (1, .int x1), (2, .int x2)] := hl
  have hx := S.1
  have hb := S.2.1
  have hf := er.symm
  clear er
  unfold f_X3_add at hf
  refine lv_aload_n hx hb dX3_add_0 rfl (lv_at hl 0 rfl) ?_
  refine gX3_total S hW kf_X3_18 dX3_add_1 ?_
  refine lv_sipush (v := 2000) hx hb dX3_add_4 (by decide) ?_
  refine lv_irem hx hb dX3_add_7 (by decide) ?_
  obtain ⟨x21, ex21, hf⟩ := bd_e hf
  refine lv_nmi ex21 ?_
  refine lv_istore_n (lv' := [(3, .int x21), (0, .ref (g.1 4)), (1, .int x1), (2, .int x2)]) hx hb dX3_add_8 rfl hl (by decide) rfl (fun ls hl => ?_)
  refine lv_iload_n hx hb dX3_add_9 rfl (lv_at hl 0 rfl) ?_
  refine lv_if_lt (tgt := 55) hx hb dX3_add_10 (by decide) (fun c22 => ?_) (fun c22 => ?_)
  · replace hf := if_t c22 hf
    subst hf
    exact ct_v S hr hlocks hW dX3_add_55
  · replace hf := if_f c22 hf
    refine lv_iload_n hx hb dX3_add_13 rfl (lv_at hl 0 rfl) ?_
    refine lv_aload_n hx hb dX3_add_14 rfl (lv_at hl 1 rfl) ?_
    refine gX3_bytes S hW kf_X3_11 dX3_add_15 ?_
    refine nD5 S hW dX3_add_18 ?_
    refine lv_icmp_ge (tgt := 55) hx hb dX3_add_19 (by decide) (fun c23 => ?_) (fun c23 => ?_)
    · replace hf := if_t c23 hf
      subst hf
      exact ct_v S hr hlocks hW dX3_add_55
    · replace hf := if_f c23 hf
      refine lv_iload_n hx hb dX3_add_22 rfl (lv_at hl 0 rfl) ?_
      refine lv_aload_n hx hb dX3_add_23 rfl (lv_at hl 1 rfl) ?_
      refine gX3_ticksOfBytes S hW kf_X3_15 dX3_add_24 ?_
      refine nD6 S hW dX3_add_27 ?_
      refine lv_icmp_ge (tgt := 55) hx hb dX3_add_28 (by decide) (fun c24 => ?_) (fun c24 => ?_)
      · replace hf := if_t c24 hf
        subst hf
        exact ct_v S hr hlocks hW dX3_add_55
      · replace hf := if_f c24 hf
        refine lv_aload_n hx hb dX3_add_31 rfl (lv_at hl 1 rfl) ?_
        refine gX3_bytes S hW kf_X3_11 dX3_add_32 ?_
        refine lv_iload_n hx hb dX3_add_35 rfl (lv_at hl 0 rfl) ?_
        refine lv_iload_n hx hb dX3_add_36 rfl (lv_at hl 2 rfl) ?_
        obtain ⟨z25, ez25, hf⟩ := bd_e hf
        refine sD5 S hW (vi_of2 (M := 2000) (by decide) c22 c23) dX3_add_37 ez25 (fun H locs hW => ?_)
        refine lv_aload_n hx hb dX3_add_38 rfl (lv_at hl 1 rfl) ?_
        refine gX3_ticksOfBytes S hW kf_X3_15 dX3_add_39 ?_
        refine lv_iload_n hx hb dX3_add_42 rfl (lv_at hl 0 rfl) ?_
        refine lv_iload_n hx hb dX3_add_43 rfl (lv_at hl 3 rfl) ?_
        obtain ⟨z26, ez26, hf⟩ := bd_e hf
        refine sD6 S hW (vi_of2 (M := 2000) (by decide) c22 c23) dX3_add_44 ez26 (fun H locs hW => ?_)
        refine lv_aload_n hx hb dX3_add_45 rfl (lv_at hl 1 rfl) ?_
        refine lv_dup hx hb dX3_add_46 rfl ?_
        refine gX3_total S hW kf_X3_18 dX3_add_47 ?_
        refine lv_iconst (v := 1) hx hb dX3_add_50 (by decide) ?_
        refine lv_iadd hx hb dX3_add_51 ?_
        obtain ⟨z27, ez27, hf⟩ := bd_e hf
        refine pX3_total S hW kf_X3_18 dX3_add_52 ez27 (fun H locs hW => ?_)
        subst hf
        exact ct_v S hr hlocks hW dX3_add_55
def f_X3_byteAt (z : Sg) (x1 : Int32) : Int32 × Sg := bd (f_X3_placeOf z x1) (fun r21 => bd (r21.1) (fun x22 => (if x22 < 0 then ((-1), r21.2) else (if 2000 ≤ x22 then ((-1), r21.2) else (gA r21.2 5 (Int32.toNatClampNeg x22), r21.2)))))
theorem hd_X3_byteAt : yX3_byteAt.cls = RX3 ∧ yX3_byteAt.cls ≠ "java/lang/invoke/MethodHandle" ∧ yX3_byteAt.cls ≠ "java/lang/invoke/VarHandle" ∧ (parseMethodDescriptor yX3_byteAt.desc).map (fun d => d.parameters.length) = some 1 := by decide +kernel
set_option maxHeartbeats 4000000 in
set_option maxRecDepth 100000 in
theorem c_X3_byteAt (l : Launch) (D : va_G) (g : Gv) (z : Sg) (x1 : Int32) {r : Int32 × Sg} (er : r = f_X3_byteAt z x1) : CT D (wD g) (tD g) l yX3_byteAt (wG yX3_byteAt cX3_byteAt 3 (some .int)) { frames := 1, cells := 0, slots := 0, locals := 21 } [.ref (g.1 4), .int x1] z (some (.int r.1)) r.2 := by
  refine CT.ofW (by decide) (Nat.le_of_ble_eq_true rfl) ?_
  intro p e R s m args below meth c A hR S hr hlocks hA hW ls hl
  have S : CallFix p m c cX3_byteAt 3 s args wsL_law RX3 := S
  have hl : lv_has ls 3 [(0, .ref (g.1 4)), (1, .int x1)] := hl
  have hx := S.1
  have hb := S.2.1
  have hf := er.symm
  clear er
  unfold f_X3_byteAt at hf
  refine lv_aload_n hx hb dX3_byteAt_0 rfl (lv_at hl 0 rfl) ?_
  refine lv_iload_n hx hb dX3_byteAt_1 rfl (lv_at hl 1 rfl) ?_
  obtain ⟨r21, er21, hf⟩ := bd_e hf
  refine ct_V (As := [.int x1]) (rest := []) (st1 := [.int r21.1]) (q0 := 4) (ci := 3) S hA hW (c_X3_placeOf l D g z x1 er21) (wG_V km_X3_22 ki_yX3_placeOf ks_yX3_placeOf kn_X3 kc_yX3_placeOf) ⟨rfl, rfl⟩ hd_X3_placeOf (by rw [hR]; exact ⟨Nat.le_of_ble_eq_true rfl, Nat.le_of_ble_eq_true rfl⟩) rfl rfl rfl rfl hl.1 rfl (Nat.le_of_ble_eq_true rfl) ⟨Nat.zero_le _, Nat.zero_le _⟩ dX3_byteAt_2 rfl (fun H locs hW => ?_)
  obtain ⟨x22, ex22, hf⟩ := bd_e hf
  refine lv_nmi ex22 ?_
  refine lv_istore_n (lv' := [(2, .int x22), (0, .ref (g.1 4)), (1, .int x1)]) hx hb dX3_byteAt_5 rfl hl (by decide) rfl (fun ls hl => ?_)
  refine lv_iload_n hx hb dX3_byteAt_6 rfl (lv_at hl 0 rfl) ?_
  refine lv_if_lt (tgt := 28) hx hb dX3_byteAt_7 (by decide) (fun c23 => ?_) (fun c23 => ?_)
  · replace hf := if_t c23 hf
    refine lv_iconst (v := (-1)) hx hb dX3_byteAt_28 (by decide) ?_
    subst hf
    exact ct_i S hr hlocks hW dX3_byteAt_29
  · replace hf := if_f c23 hf
    refine lv_iload_n hx hb dX3_byteAt_10 rfl (lv_at hl 0 rfl) ?_
    refine lv_aload_n hx hb dX3_byteAt_11 rfl (lv_at hl 1 rfl) ?_
    refine gX3_bytes S hW kf_X3_11 dX3_byteAt_12 ?_
    refine nD5 S hW dX3_byteAt_15 ?_
    refine lv_icmp_ge (tgt := 28) hx hb dX3_byteAt_16 (by decide) (fun c24 => ?_) (fun c24 => ?_)
    · replace hf := if_t c24 hf
      refine lv_iconst (v := (-1)) hx hb dX3_byteAt_28 (by decide) ?_
      subst hf
      exact ct_i S hr hlocks hW dX3_byteAt_29
    · replace hf := if_f c24 hf
      refine lv_aload_n hx hb dX3_byteAt_19 rfl (lv_at hl 1 rfl) ?_
      refine gX3_bytes S hW kf_X3_11 dX3_byteAt_20 ?_
      refine lv_iload_n hx hb dX3_byteAt_23 rfl (lv_at hl 0 rfl) ?_
      refine aD5 S hW (vi_of2 (M := 2000) (by decide) c23 c24) dX3_byteAt_24 ?_
      refine lv_goto (tgt := 29) hx hb dX3_byteAt_25 (by decide) ?_
      subst hf
      exact ct_i S hr hlocks hW dX3_byteAt_29
def f_X3_tickAt (z : Sg) (x1 : Int32) : Int32 × Sg := bd (f_X3_placeOf z x1) (fun r21 => bd (r21.1) (fun x22 => (if x22 < 0 then ((-1), r21.2) else (if 2000 ≤ x22 then ((-1), r21.2) else (gA r21.2 6 (Int32.toNatClampNeg x22), r21.2)))))
theorem hd_X3_tickAt : yX3_tickAt.cls = RX3 ∧ yX3_tickAt.cls ≠ "java/lang/invoke/MethodHandle" ∧ yX3_tickAt.cls ≠ "java/lang/invoke/VarHandle" ∧ (parseMethodDescriptor yX3_tickAt.desc).map (fun d => d.parameters.length) = some 1 := by decide +kernel
set_option maxHeartbeats 4000000 in
set_option maxRecDepth 100000 in
theorem c_X3_tickAt (l : Launch) (D : va_G) (g : Gv) (z : Sg) (x1 : Int32) {r : Int32 × Sg} (er : r = f_X3_tickAt z x1) : CT D (wD g) (tD g) l yX3_tickAt (wG yX3_tickAt cX3_tickAt 3 (some .int)) { frames := 1, cells := 0, slots := 0, locals := 21 } [.ref (g.1 4), .int x1] z (some (.int r.1)) r.2 := by
  refine CT.ofW (by decide) (Nat.le_of_ble_eq_true rfl) ?_
  intro p e R s m args below meth c A hR S hr hlocks hA hW ls hl
  have S : CallFix p m c cX3_tickAt 3 s args wsL_law RX3 := S
  have hl : lv_has ls 3 [(0, .ref (g.1 4)), (1, .int x1)] := hl
  have hx := S.1
  have hb := S.2.1
  have hf := er.symm
  clear er
  unfold f_X3_tickAt at hf
  refine lv_aload_n hx hb dX3_tickAt_0 rfl (lv_at hl 0 rfl) ?_
  refine lv_iload_n hx hb dX3_tickAt_1 rfl (lv_at hl 1 rfl) ?_
  obtain ⟨r21, er21, hf⟩ := bd_e hf
  refine ct_V (As := [.int x1]) (rest := []) (st1 := [.int r21.1]) (q0 := 4) (ci := 3) S hA hW (c_X3_placeOf l D g z x1 er21) (wG_V km_X3_22 ki_yX3_placeOf ks_yX3_placeOf kn_X3 kc_yX3_placeOf) ⟨rfl, rfl⟩ hd_X3_placeOf (by rw [hR]; exact ⟨Nat.le_of_ble_eq_true rfl, Nat.le_of_ble_eq_true rfl⟩) rfl rfl rfl rfl hl.1 rfl (Nat.le_of_ble_eq_true rfl) ⟨Nat.zero_le _, Nat.zero_le _⟩ dX3_tickAt_2 rfl (fun H locs hW => ?_)
  obtain ⟨x22, ex22, hf⟩ := bd_e hf
  refine lv_nmi ex22 ?_
  refine lv_istore_n (lv' := [(2, .int x22), (0, .ref (g.1 4)), (1, .int x1)]) hx hb dX3_tickAt_5 rfl hl (by decide) rfl (fun ls hl => ?_)
  refine lv_iload_n hx hb dX3_tickAt_6 rfl (lv_at hl 0 rfl) ?_
  refine lv_if_lt (tgt := 28) hx hb dX3_tickAt_7 (by decide) (fun c23 => ?_) (fun c23 => ?_)
  · replace hf := if_t c23 hf
    refine lv_iconst (v := (-1)) hx hb dX3_tickAt_28 (by decide) ?_
    subst hf
    exact ct_i S hr hlocks hW dX3_tickAt_29
  · replace hf := if_f c23 hf
    refine lv_iload_n hx hb dX3_tickAt_10 rfl (lv_at hl 0 rfl) ?_
    refine lv_aload_n hx hb dX3_tickAt_11 rfl (lv_at hl 1 rfl) ?_
    refine gX3_ticksOfBytes S hW kf_X3_15 dX3_tickAt_12 ?_
    refine nD6 S hW dX3_tickAt_15 ?_
    refine lv_icmp_ge (tgt := 28) hx hb dX3_tickAt_16 (by decide) (fun c24 => ?_) (fun c24 => ?_)
    · replace hf := if_t c24 hf
      refine lv_iconst (v := (-1)) hx hb dX3_tickAt_28 (by decide) ?_
      subst hf
      exact ct_i S hr hlocks hW dX3_tickAt_29
    · replace hf := if_f c24 hf
      refine lv_aload_n hx hb dX3_tickAt_19 rfl (lv_at hl 1 rfl) ?_
      refine gX3_ticksOfBytes S hW kf_X3_15 dX3_tickAt_20 ?_
      refine lv_iload_n hx hb dX3_tickAt_23 rfl (lv_at hl 0 rfl) ?_
      refine aD6 S hW (vi_of2 (M := 2000) (by decide) c23 c24) dX3_tickAt_24 ?_
      refine lv_goto (tgt := 29) hx hb dX3_tickAt_25 (by decide) ?_
      subst hf
      exact ct_i S hr hlocks hW dX3_tickAt_29
