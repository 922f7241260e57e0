def f_X2_hasLongAddress (z : Sg) (x1 : Int32) (x2 : Int32) (x3 : Int32) : Int32 × Sg := (if x1 = (gI z 7) then (if x2 = (gI z 8) then (if x3 = (gI z 9) then (1, z) else (0, z)) else (0, z)) else (0, z))
theorem hd_X2_hasLongAddress : yX2_hasLongAddress.cls = RX2 ∧ yX2_hasLongAddress.cls ≠ "java/lang/invoke/MethodHandle" ∧ yX2_hasLongAddress.cls ≠ "java/lang/invoke/VarHandle" ∧ (parseMethodDescriptor yX2_hasLongAddress.desc).map (fun d => d.parameters.length) = some 3 := by decide +kernel
set_option maxHeartbeats 4000000 in
set_option maxRecDepth 100000 in
theorem c_X2_hasLongAddress (l : Launch) (D : va_G) (g : Gv) (z : Sg) (x1 : Int32) (x2 : Int32) (x3 : Int32) {r : Int32 × Sg} (er : r = f_X2_hasLongAddress z x1 x2 x3) : CT D (wD g) (tD g) l yX2_hasLongAddress (wG yX2_hasLongAddress cX2_hasLongAddress 4 (some .boolean)) { frames := 0, cells := 0, slots := 0, locals := 0 } [.ref (g.1 1), .int x1, .int x2, .int x3] z (some (.int r.1)) r.2 := by
  refine CT.ofW (by decide) (Nat.le_of_ble_eq_true rfl) ?_
  intro p e R s m args below meth c A hR S hr hlocks hA hW ls hl
  have S : CallFix p m c cX2_hasLongAddress 4 s args wsL_law RX2 := S
  have hl : lv_has ls 4 [(0, .ref (g.1 1)), (1, .int x1), (2, .int x2), (3, .int x3)] := hl
  have hx := S.1
  have hb := S.2.1
  have hf := er.symm
  clear er
  unfold f_X2_hasLongAddress at hf
  refine lv_iload_n hx hb dX2_hasLongAddress_0 rfl (lv_at hl 1 rfl) ?_
  refine lv_aload_n hx hb dX2_hasLongAddress_1 rfl (lv_at hl 0 rfl) ?_
  refine gX2_maker S hW kf_X2_9 dX2_hasLongAddress_2 ?_
  refine lv_icmp_ne (tgt := 28) hx hb dX2_hasLongAddress_5 (by decide) (fun c21 => ?_) (fun c21 => ?_)
  · replace hf := if_f c21 hf
    refine lv_iconst (v := 0) hx hb dX2_hasLongAddress_28 (by decide) ?_
    subst hf
    exact ct_z (Or.inl rfl) S hr hlocks hW dX2_hasLongAddress_29
  · replace hf := if_t c21 hf
    refine lv_iload_n hx hb dX2_hasLongAddress_8 rfl (lv_at hl 2 rfl) ?_
    refine lv_aload_n hx hb dX2_hasLongAddress_9 rfl (lv_at hl 0 rfl) ?_
    refine gX2_kind S hW kf_X2_15 dX2_hasLongAddress_10 ?_
    refine lv_icmp_ne (tgt := 28) hx hb dX2_hasLongAddress_13 (by decide) (fun c22 => ?_) (fun c22 => ?_)
    · replace hf := if_f c22 hf
      refine lv_iconst (v := 0) hx hb dX2_hasLongAddress_28 (by decide) ?_
      subst hf
      exact ct_z (Or.inl rfl) S hr hlocks hW dX2_hasLongAddress_29
    · replace hf := if_t c22 hf
      refine lv_iload_n hx hb dX2_hasLongAddress_16 rfl (lv_at hl 3 rfl) ?_
      refine lv_aload_n hx hb dX2_hasLongAddress_17 rfl (lv_at hl 0 rfl) ?_
      refine gX2_number S hW kf_X2_18 dX2_hasLongAddress_18 ?_
      refine lv_icmp_ne (tgt := 28) hx hb dX2_hasLongAddress_21 (by decide) (fun c23 => ?_) (fun c23 => ?_)
      · replace hf := if_f c23 hf
        refine lv_iconst (v := 0) hx hb dX2_hasLongAddress_28 (by decide) ?_
        subst hf
        exact ct_z (Or.inl rfl) S hr hlocks hW dX2_hasLongAddress_29
      · replace hf := if_t c23 hf
        refine lv_iconst (v := 1) hx hb dX2_hasLongAddress_24 (by decide) ?_
        refine lv_goto (tgt := 29) hx hb dX2_hasLongAddress_25 (by decide) ?_
        subst hf
        exact ct_z (Or.inr rfl) S hr hlocks hW dX2_hasLongAddress_29
def f_X2_tagByte (z : Sg) (x1 : Int32) : Int32 × Sg := (if x1 < 0 then ((-1), z) else (if 6 ≤ x1 then ((-1), z) else (gA z 0 (Int32.toNatClampNeg x1), z)))
theorem hd_X2_tagByte : yX2_tagByte.cls = RX2 ∧ yX2_tagByte.cls ≠ "java/lang/invoke/MethodHandle" ∧ yX2_tagByte.cls ≠ "java/lang/invoke/VarHandle" ∧ (parseMethodDescriptor yX2_tagByte.desc).map (fun d => d.parameters.length) = some 1 := by decide +kernel
set_option maxHeartbeats 4000000 in
set_option maxRecDepth 100000 in
theorem c_X2_tagByte (l : Launch) (D : va_G) (g : Gv) (z : Sg) (x1 : Int32) {r : Int32 × Sg} (er : r = f_X2_tagByte z x1) : CT D (wD g) (tD g) l yX2_tagByte (wG yX2_tagByte cX2_tagByte 2 (some .int)) { frames := 0, cells := 0, slots := 0, locals := 0 } [.ref (g.1 1), .int x1] z (some (.int r.1)) r.2 := by
  refine CT.ofW (by decide) (Nat.le_of_ble_eq_true rfl) ?_
  intro p e R s m args below meth c A hR S hr hlocks hA hW ls hl
  have S : CallFix p m c cX2_tagByte 2 s args wsL_law RX2 := S
  have hl : lv_has ls 2 [(0, .ref (g.1 1)), (1, .int x1)] := hl
  have hx := S.1
  have hb := S.2.1
  have hf := er.symm
  clear er
  unfold f_X2_tagByte at hf
  refine lv_iload_n hx hb dX2_tagByte_0 rfl (lv_at hl 1 rfl) ?_
  refine lv_if_lt (tgt := 22) hx hb dX2_tagByte_1 (by decide) (fun c21 => ?_) (fun c21 => ?_)
  · replace hf := if_t c21 hf
    refine lv_iconst (v := (-1)) hx hb dX2_tagByte_22 (by decide) ?_
    subst hf
    exact ct_i S hr hlocks hW dX2_tagByte_23
  · replace hf := if_f c21 hf
    refine lv_iload_n hx hb dX2_tagByte_4 rfl (lv_at hl 1 rfl) ?_
    refine lv_aload_n hx hb dX2_tagByte_5 rfl (lv_at hl 0 rfl) ?_
    refine gX2_tagBytes S hW kf_X2_33 dX2_tagByte_6 ?_
    refine nD0 S hW dX2_tagByte_9 ?_
    refine lv_icmp_ge (tgt := 22) hx hb dX2_tagByte_10 (by decide) (fun c22 => ?_) (fun c22 => ?_)
    · replace hf := if_t c22 hf
      refine lv_iconst (v := (-1)) hx hb dX2_tagByte_22 (by decide) ?_
      subst hf
      exact ct_i S hr hlocks hW dX2_tagByte_23
    · replace hf := if_f c22 hf
      refine lv_aload_n hx hb dX2_tagByte_13 rfl (lv_at hl 0 rfl) ?_
      refine gX2_tagBytes S hW kf_X2_33 dX2_tagByte_14 ?_
      refine lv_iload_n hx hb dX2_tagByte_17 rfl (lv_at hl 1 rfl) ?_
      refine aD0 S hW (vi_of2 (M := 6) (by decide) c21 c22) dX2_tagByte_18 ?_
      refine lv_goto (tgt := 23) hx hb dX2_tagByte_19 (by decide) ?_
      subst hf
      exact ct_i S hr hlocks hW dX2_tagByte_23
def f_X2_setTagByte (z : Sg) (x1 : Int32) (x2 : Int32) : Sg := (if x1 < 0 then z else (if 6 ≤ x1 then z else bd (pA z 0 (Int32.toNatClampNeg x1) x2) (fun z23 => z23)))
theorem hd_X2_setTagByte : yX2_setTagByte.cls = RX2 ∧ yX2_setTagByte.cls ≠ "java/lang/invoke/MethodHandle" ∧ yX2_setTagByte.cls ≠ "java/lang/invoke/VarHandle" ∧ (parseMethodDescriptor yX2_setTagByte.desc).map (fun d => d.parameters.length) = some 2 := by decide +kernel
set_option maxHeartbeats 4000000 in
set_option maxRecDepth 100000 in
theorem c_X2_setTagByte (l : Launch) (D : va_G) (g : Gv) (z : Sg) (x1 : Int32) (x2 : Int32) {r : Sg} (er : r = f_X2_setTagByte z x1 x2) : CT D (wD g) (tD g) l yX2_setTagByte (wG yX2_setTagByte cX2_setTagByte 3 none) { frames := 0, cells := 0, slots := 0, locals := 0 } [.ref (g.1 1), .int x1, .int x2] z none r := by
  refine CT.ofW (by decide) (Nat.le_of_ble_eq_true rfl) ?_
  intro p e R s m args below meth c A hR S hr hlocks hA hW ls hl
  have S : CallFix p m c cX2_setTagByte 3 s args wsL_law RX2 := S
  have hl : lv_has ls 3 [(0, .ref (g.1 1)), (1, .int x1), (2, .int x2)] := hl
  have hx := S.1
  have hb := S.2.1
  have hf := er.symm
  clear er
  unfold f_X2_setTagByte at hf
  refine lv_iload_n hx hb dX2_setTagByte_0 rfl (lv_at hl 1 rfl) ?_
  refine lv_if_lt (tgt := 20) hx hb dX2_setTagByte_1 (by decide) (fun c21 => ?_) (fun c21 => ?_)
  · replace hf := if_t c21 hf
    subst hf
    exact ct_v S hr hlocks hW dX2_setTagByte_20
  · replace hf := if_f c21 hf
    refine lv_iload_n hx hb dX2_setTagByte_4 rfl (lv_at hl 1 rfl) ?_
    refine lv_aload_n hx hb dX2_setTagByte_5 rfl (lv_at hl 0 rfl) ?_
    refine gX2_tagBytes S hW kf_X2_33 dX2_setTagByte_6 ?_
    refine nD0 S hW dX2_setTagByte_9 ?_
    refine lv_icmp_ge (tgt := 20) hx hb dX2_setTagByte_10 (by decide) (fun c22 => ?_) (fun c22 => ?_)
    · replace hf := if_t c22 hf
      subst hf
      exact ct_v S hr hlocks hW dX2_setTagByte_20
    · replace hf := if_f c22 hf
      refine lv_aload_n hx hb dX2_setTagByte_13 rfl (lv_at hl 0 rfl) ?_
      refine gX2_tagBytes S hW kf_X2_33 dX2_setTagByte_14 ?_
      refine lv_iload_n hx hb dX2_setTagByte_17 rfl (lv_at hl 1 rfl) ?_
      refine lv_iload_n hx hb dX2_setTagByte_18 rfl (lv_at hl 2 rfl) ?_
      obtain ⟨z23, ez23, hf⟩ := bd_e hf
      refine sD0 S hW (vi_of2 (M := 6) (by decide) c21 c22) dX2_setTagByte_19 ez23 (fun H locs hW => ?_)
      subst hf
      exact ct_v S hr hlocks hW dX2_setTagByte_20
def f_X2_variableAt (z : Sg) (x1 : Int32) : Int32 × Sg := (if x1 < 0 then (0, z) else (if 4 ≤ x1 then (0, z) else (gA z 1 (Int32.toNatClampNeg x1), z)))
theorem hd_X2_variableAt : yX2_variableAt.cls = RX2 ∧ yX2_variableAt.cls ≠ "java/lang/invoke/MethodHandle" ∧ yX2_variableAt.cls ≠ "java/lang/invoke/VarHandle" ∧ (parseMethodDescriptor yX2_variableAt.desc).map (fun d => d.parameters.length) = some 1 := by decide +kernel
set_option maxHeartbeats 4000000 in
set_option maxRecDepth 100000 in
theorem c_X2_variableAt (l : Launch) (D : va_G) (g : Gv) (z : Sg) (x1 : Int32) {r : Int32 × Sg} (er : r = f_X2_variableAt z x1) : CT D (wD g) (tD g) l yX2_variableAt (wG yX2_variableAt cX2_variableAt 2 (some .int)) { frames := 0, cells := 0, slots := 0, locals := 0 } [.ref (g.1 1), .int x1] z (some (.int r.1)) r.2 := by
  refine CT.ofW (by decide) (Nat.le_of_ble_eq_true rfl) ?_
  intro p e R s m args below meth c A hR S hr hlocks hA hW ls hl
  have S : CallFix p m c cX2_variableAt 2 s args wsL_law RX2 := S
  have hl : lv_has ls 2 [(0, .ref (g.1 1)), (1, .int x1)] := hl
  have hx := S.1
  have hb := S.2.1
  have hf := er.symm
  clear er
  unfold f_X2_variableAt at hf
  refine lv_iload_n hx hb dX2_variableAt_0 rfl (lv_at hl 1 rfl) ?_
  refine lv_if_lt (tgt := 22) hx hb dX2_variableAt_1 (by decide) (fun c21 => ?_) (fun c21 => ?_)
  · replace hf := if_t c21 hf
    refine lv_iconst (v := 0) hx hb dX2_variableAt_22 (by decide) ?_
    subst hf
    exact ct_i S hr hlocks hW dX2_variableAt_23
  · replace hf := if_f c21 hf
    refine lv_iload_n hx hb dX2_variableAt_4 rfl (lv_at hl 1 rfl) ?_
    refine lv_aload_n hx hb dX2_variableAt_5 rfl (lv_at hl 0 rfl) ?_
    refine gX2_variables S hW kf_X2_37 dX2_variableAt_6 ?_
    refine nD1 S hW dX2_variableAt_9 ?_
    refine lv_icmp_ge (tgt := 22) hx hb dX2_variableAt_10 (by decide) (fun c22 => ?_) (fun c22 => ?_)
    · replace hf := if_t c22 hf
      refine lv_iconst (v := 0) hx hb dX2_variableAt_22 (by decide) ?_
      subst hf
      exact ct_i S hr hlocks hW dX2_variableAt_23
    · replace hf := if_f c22 hf
      refine lv_aload_n hx hb dX2_variableAt_13 rfl (lv_at hl 0 rfl) ?_
      refine gX2_variables S hW kf_X2_37 dX2_variableAt_14 ?_
      refine lv_iload_n hx hb dX2_variableAt_17 rfl (lv_at hl 1 rfl) ?_
      refine aD1 S hW (vi_of2 (M := 4) (by decide) c21 c22) dX2_variableAt_18 ?_
      refine lv_goto (tgt := 23) hx hb dX2_variableAt_19 (by decide) ?_
      subst hf
      exact ct_i S hr hlocks hW dX2_variableAt_23
def f_X2_setVariable (z : Sg) (x1 : Int32) (x2 : Int32) : Sg := (if x1 < 0 then z else (if 4 ≤ x1 then z else bd (pA z 1 (Int32.toNatClampNeg x1) x2) (fun z23 => z23)))
theorem hd_X2_setVariable : yX2_setVariable.cls = RX2 ∧ yX2_setVariable.cls ≠ "java/lang/invoke/MethodHandle" ∧ yX2_setVariable.cls ≠ "java/lang/invoke/VarHandle" ∧ (parseMethodDescriptor yX2_setVariable.desc).map (fun d => d.parameters.length) = some 2 := by decide +kernel
set_option maxHeartbeats 4000000 in
set_option maxRecDepth 100000 in
theorem c_X2_setVariable (l : Launch) (D : va_G) (g : Gv) (z : Sg) (x1 : Int32) (x2 : Int32) {r : Sg} (er : r = f_X2_setVariable z x1 x2) : CT D (wD g) (tD g) l yX2_setVariable (wG yX2_setVariable cX2_setVariable 3 none) { frames := 0, cells := 0, slots := 0, locals := 0 } [.ref (g.1 1), .int x1, .int x2] z none r := by
  refine CT.ofW (by decide) (Nat.le_of_ble_eq_true rfl) ?_
  intro p e R s m args below meth c A hR S hr hlocks hA hW ls hl
  have S : CallFix p m c cX2_setVariable 3 s args wsL_law RX2 := S
  have hl : lv_has ls 3 [(0, .ref (g.1 1)), (1, .int x1), (2, .int x2)] := hl
  have hx := S.1
  have hb := S.2.1
  have hf := er.symm
  clear er
  unfold f_X2_setVariable at hf
  refine lv_iload_n hx hb dX2_setVariable_0 rfl (lv_at hl 1 rfl) ?_
  refine lv_if_lt (tgt := 20) hx hb dX2_setVariable_1 (by decide) (fun c21 => ?_) (fun c21 => ?_)
  · replace hf := if_t c21 hf
    subst hf
    exact ct_v S hr hlocks hW dX2_setVariable_20
  · replace hf := if_f c21 hf
    refine lv_iload_n hx hb dX2_setVariable_4 rfl (lv_at hl 1 rfl) ?_
    refine lv_aload_n hx hb dX2_setVariable_5 rfl (lv_at hl 0 rfl) ?_
    refine gX2_variables S hW kf_X2_37 dX2_setVariable_6 ?_
    refine nD1 S hW dX2_setVariable_9 ?_
    refine lv_icmp_ge (tgt := 20) hx hb dX2_setVariable_10 (by decide) (fun c22 => ?_) (fun c22 => ?_)
    · replace hf := if_t c22 hf
      subst hf
      exact ct_v S hr hlocks hW dX2_setVariable_20
    · replace hf := if_f c22 hf
      refine lv_aload_n hx hb dX2_setVariable_13 rfl (lv_at hl 0 rfl) ?_
      refine gX2_variables S hW kf_X2_37 dX2_setVariable_14 ?_
      refine lv_iload_n hx hb dX2_setVariable_17 rfl (lv_at hl 1 rfl) ?_
      refine lv_iload_n hx hb dX2_setVariable_18 rfl (lv_at hl 2 rfl) ?_
      obtain ⟨z23, ez23, hf⟩ := bd_e hf
      refine sD1 S hW (vi_of2 (M := 4) (by decide) c21 c22) dX2_setVariable_19 ez23 (fun H locs hW => ?_)
      subst hf
      exact ct_v S hr hlocks hW dX2_setVariable_20
def f_X2_statusFor_78 (z : Sg) (k0 : Int32) : Int32 × Sg := bd (k0 ||| 8) (fun x31 => (x31, z))
def f_X2_statusFor_59 (z : Sg) (y2 : Int32) (k0 : Int32) (k1 : Int32) : Int32 × Sg := bd (k0 ||| k1) (fun x27 => (if y2 < (gI z 12) then f_X2_statusFor_78 z x27 else (if y2 ≤ (gI z 13) then bd (x27 ||| 0) (fun x30 => (x30, z)) else f_X2_statusFor_78 z x27)))
def f_X2_statusFor_39 (z : Sg) (y1 : Int32) (y2 : Int32) (k0 : Int32) (k1 : Int32) : Int32 × Sg := bd (k0 ||| k1) (fun x25 => (if (((gI z 15) >>> (y1 &&& 31)) &&& 1) = 0 then f_X2_statusFor_59 z y2 x25 0 else f_X2_statusFor_59 z y2 x25 32))
def f_X2_statusFor_20 (z : Sg) (y1 : Int32) (y2 : Int32) (k0 : Int32) : Int32 × Sg := (if (((gI z 14) >>> (y1 &&& 31)) &&& 1) = 0 then f_X2_statusFor_39 z y1 y2 k0 0 else f_X2_statusFor_39 z y1 y2 k0 64)
def f_X2_statusFor (z : Sg) (x1 : Int32) : Int32 × Sg := bd (f_X2_variableAt z 0) (fun r21 => bd (r21.1) (fun x22 => (if (gI r21.2 16) = 0 then f_X2_statusFor_20 r21.2 x1 x22 0 else f_X2_statusFor_20 r21.2 x1 x22 128)))
theorem hd_X2_statusFor : yX2_statusFor.cls = RX2 ∧ yX2_statusFor.cls ≠ "java/lang/invoke/MethodHandle" ∧ yX2_statusFor.cls ≠ "java/lang/invoke/VarHandle" ∧ (parseMethodDescriptor yX2_statusFor.desc).map (fun d => d.parameters.length) = some 1 := by decide +kernel
set_option maxHeartbeats 4000000 in
set_option maxRecDepth 100000 in
theorem c_X2_statusFor (l : Launch) (D : va_G) (g : Gv) (z : Sg) (x1 : Int32) {r : Int32 × Sg} (er : r = f_X2_statusFor z x1) : CT D (wD g) (tD g) l yX2_statusFor (wG yX2_statusFor cX2_statusFor 4 (some .int)) { frames := 1, cells := 0, slots := 0, locals := 21 } [.ref (g.1 1), .int x1] z (some (.int r.1)) r.2 := by
  refine CT.ofW (by decide) (Nat.le_of_ble_eq_true rfl) ?_
  intro p e R s m args below meth c A hR S hr hlocks hA hW ls hl
  have S : CallFix p m c cX2_statusFor 4 s args wsL_law RX2 := S
  have hl : lv_has ls 4 [(0, .ref (g.1 1)), (1, .int x1)] := hl
  have hx := S.1
  have hb := S.2.1
  have hf := er.symm
  clear er
  have J_78 : ∀ (z : Sg) (k0 : Int32) (H : Heap) (locs : List Loc) (ls : Array Slot), Wd D (wD g) (tD g) A s H locs z → lv_has ls 4 [] → f_X2_statusFor_78 z k0 = r → W p l e R s m args below meth c H locs 0 0 (MQ below (CQ D (wD g) A (some (.int r.1)) r.2) args s 0 0 A) (F0 m 78 ls [.int k0]) := by
    intro z k0 H locs ls hW hl hf
    unfold f_X2_statusFor_78 at hf
    refine lv_bipush (v := 8) hx hb dX2_statusFor_78 (by decide) ?_
    refine lv_goto (tgt := 84) hx hb dX2_statusFor_80 (by decide) ?_
    refine lv_ior hx hb dX2_statusFor_84 ?_
    obtain ⟨x31, ex31, hf⟩ := bd_e hf
    refine lv_nmi ex31 ?_
    refine lv_istore_n (lv' := [(3, .int x31)]) hx hb dX2_statusFor_85 rfl hl (by decide) rfl (fun ls hl => ?_)
    refine lv_iload_n hx hb dX2_statusFor_86 rfl (lv_at hl 0 rfl) ?_
    subst hf
    exact ct_i S hr hlocks hW dX2_statusFor_87
  have J_59 : ∀ (z : Sg) (y2 : Int32) (k0 : Int32) (k1 : Int32) (H : Heap) (locs : List Loc) (ls : Array Slot), Wd D (wD g) (tD g) A s H locs z → lv_has ls 4 [(0, .ref (g.1 1)), (2, .int y2)] → f_X2_statusFor_59 z y2 k0 k1 = r → W p l e R s m args below meth c H locs 0 0 (MQ below (CQ D (wD g) A (some (.int r.1)) r.2) args s 0 0 A) (F0 m 59 ls [.int k1, .int k0]) := by
    intro z y2 k0 k1 H locs ls hW hl hf
    unfold f_X2_statusFor_59 at hf
    refine lv_ior hx hb dX2_statusFor_59 ?_
    obtain ⟨x27, ex27, hf⟩ := bd_e hf
    refine lv_nmi ex27 ?_
    refine lv_istore_n (lv' := [(3, .int x27), (0, .ref (g.1 1)), (2, .int y2)]) hx hb dX2_statusFor_60 rfl hl (by decide) rfl (fun ls hl => ?_)
    refine lv_iload_n hx hb dX2_statusFor_61 rfl (lv_at hl 0 rfl) ?_
    refine lv_iload_n hx hb dX2_statusFor_62 rfl (lv_at hl 2 rfl) ?_
    refine lv_aload_n hx hb dX2_statusFor_63 rfl (lv_at hl 1 rfl) ?_
    refine gX2_lower S hW kf_X2_48 dX2_statusFor_64 ?_
    refine lv_icmp_lt (tgt := 78) hx hb dX2_statusFor_67 (by decide) (fun c28 => ?_) (fun c28 => ?_)
    · replace hf := if_t c28 hf
      exact J_78 z x27 _ _ ls hW (lv_sub hl [] rfl) hf
    · replace hf := if_f c28 hf
      refine lv_iload_n hx hb dX2_statusFor_70 rfl (lv_at hl 2 rfl) ?_
      refine lv_aload_n hx hb dX2_statusFor_71 rfl (lv_at hl 1 rfl) ?_
      refine gX2_upper S hW kf_X2_21 dX2_statusFor_72 ?_
      refine lv_icmp_le (tgt := 83) hx hb dX2_statusFor_75 (by decide) (fun c29 => ?_) (fun c29 => ?_)
      · replace hf := if_t c29 hf
        refine lv_iconst (v := 0) hx hb dX2_statusFor_83 (by decide) ?_
        refine lv_ior hx hb dX2_statusFor_84 ?_
        obtain ⟨x30, ex30, hf⟩ := bd_e hf
        refine lv_nmi ex30 ?_
        refine lv_istore_n (lv' := [(3, .int x30), (0, .ref (g.1 1)), (2, .int y2)]) hx hb dX2_statusFor_85 rfl hl (by decide) rfl (fun ls hl => ?_)
        refine lv_iload_n hx hb dX2_statusFor_86 rfl (lv_at hl 0 rfl) ?_
        subst hf
        exact ct_i S hr hlocks hW dX2_statusFor_87
      · replace hf := if_f c29 hf
        exact J_78 z x27 _ _ ls hW (lv_sub hl [] rfl) hf
  have J_39 : ∀ (z : Sg) (y1 : Int32) (y2 : Int32) (k0 : Int32) (k1 : Int32) (H : Heap) (locs : List Loc) (ls : Array Slot), Wd D (wD g) (tD g) A s H locs z → lv_has ls 4 [(0, .ref (g.1 1)), (1, .int y1), (2, .int y2)] → f_X2_statusFor_39 z y1 y2 k0 k1 = r → W p l e R s m args below meth c H locs 0 0 (MQ below (CQ D (wD g) A (some (.int r.1)) r.2) args s 0 0 A) (F0 m 39 ls [.int k1, .int k0]) := by
    intro z y1 y2 k0 k1 H locs ls hW hl hf
    unfold f_X2_statusFor_39 at hf
    refine lv_ior hx hb dX2_statusFor_39 ?_
    obtain ⟨x25, ex25, hf⟩ := bd_e hf
    refine lv_nmi ex25 ?_
    refine lv_istore_n (lv' := [(3, .int x25), (0, .ref (g.1 1)), (1, .int y1), (2, .int y2)]) hx hb dX2_statusFor_40 rfl hl (by decide) rfl (fun ls hl => ?_)
    refine lv_iload_n hx hb dX2_statusFor_41 rfl (lv_at hl 0 rfl) ?_
    refine lv_aload_n hx hb dX2_statusFor_42 rfl (lv_at hl 1 rfl) ?_
    refine gX2_cold S hW kf_X2_27 dX2_statusFor_43 ?_
    refine lv_iload_n hx hb dX2_statusFor_46 rfl (lv_at hl 2 rfl) ?_
    refine lv_ishr hx hb dX2_statusFor_47 ?_
    refine lv_iconst (v := 1) hx hb dX2_statusFor_48 (by decide) ?_
    refine lv_iand hx hb dX2_statusFor_49 ?_
    refine lv_if_eq (tgt := 58) hx hb dX2_statusFor_50 (by decide) (fun c26 => ?_) (fun c26 => ?_)
    · replace hf := if_t c26 hf
      refine lv_iconst (v := 0) hx hb dX2_statusFor_58 (by decide) ?_
      exact J_59 z y2 x25 0 _ _ ls hW (lv_sub hl [1, 3] rfl) hf
    · replace hf := if_f c26 hf
      refine lv_bipush (v := 32) hx hb dX2_statusFor_53 (by decide) ?_
      refine lv_goto (tgt := 59) hx hb dX2_statusFor_55 (by decide) ?_
      exact J_59 z y2 x25 32 _ _ ls hW (lv_sub hl [1, 3] rfl) hf
  have J_20 : ∀ (z : Sg) (y1 : Int32) (y2 : Int32) (k0 : Int32) (H : Heap) (locs : List Loc) (ls : Array Slot), Wd D (wD g) (tD g) A s H locs z → lv_has ls 4 [(0, .ref (g.1 1)), (1, .int y1), (2, .int y2)] → f_X2_statusFor_20 z y1 y2 k0 = r → W p l e R s m args below meth c H locs 0 0 (MQ below (CQ D (wD g) A (some (.int r.1)) r.2) args s 0 0 A) (F0 m 20 ls [.int k0]) := by
    intro z y1 y2 k0 H locs ls hW hl hf
    unfold f_X2_statusFor_20 at hf
    refine lv_istore_n (lv' := [(3, .int k0), (0, .ref (g.1 1)), (1, .int y1), (2, .int y2)]) hx hb dX2_statusFor_20 rfl hl (by decide) rfl (fun ls hl => ?_)
    refine lv_iload_n hx hb dX2_statusFor_21 rfl (lv_at hl 0 rfl) ?_
    refine lv_aload_n hx hb dX2_statusFor_22 rfl (lv_at hl 1 rfl) ?_
    refine gX2_changed S hW kf_X2_24 dX2_statusFor_23 ?_
    refine lv_iload_n hx hb dX2_statusFor_26 rfl (lv_at hl 2 rfl) ?_
    refine lv_ishr hx hb dX2_statusFor_27 ?_
    refine lv_iconst (v := 1) hx hb dX2_statusFor_28 (by decide) ?_
    refine lv_iand hx hb dX2_statusFor_29 ?_
    refine lv_if_eq (tgt := 38) hx hb dX2_statusFor_30 (by decide) (fun c24 => ?_) (fun c24 => ?_)
    · replace hf := if_t c24 hf
      refine lv_iconst (v := 0) hx hb dX2_statusFor_38 (by decide) ?_
      exact J_39 z y1 y2 k0 0 _ _ ls hW (lv_sub hl [1, 2, 3] rfl) hf
    · replace hf := if_f c24 hf
      refine lv_bipush (v := 64) hx hb dX2_statusFor_33 (by decide) ?_
      refine lv_goto (tgt := 39) hx hb dX2_statusFor_35 (by decide) ?_
      exact J_39 z y1 y2 k0 64 _ _ ls hW (lv_sub hl [1, 2, 3] rfl) hf
  unfold f_X2_statusFor at hf
  refine lv_aload_n hx hb dX2_statusFor_0 rfl (lv_at hl 0 rfl) ?_
  refine lv_iconst (v := 0) hx hb dX2_statusFor_1 (by decide) ?_
  obtain ⟨r21, er21, hf⟩ := bd_e hf
  refine ct_V (As := [.int 0]) (rest := []) (st1 := [.int r21.1]) (q0 := 1) (ci := 2) S hA hW (c_X2_variableAt l D g z 0 er21) (wG_V km_X2_40 ki_yX2_variableAt ks_yX2_variableAt kn_X2 kc_yX2_variableAt) ⟨rfl, rfl⟩ hd_X2_variableAt (by rw [hR]; exact ⟨Nat.le_of_ble_eq_true rfl, Nat.le_of_ble_eq_true rfl⟩) rfl rfl rfl rfl hl.1 rfl (Nat.le_of_ble_eq_true rfl) ⟨Nat.zero_le _, Nat.zero_le _⟩ dX2_statusFor_2 rfl (fun H locs hW => ?_)
  obtain ⟨x22, ex22, hf⟩ := bd_e hf
  refine lv_nmi ex22 ?_
  refine lv_istore_n (lv' := [(2, .int x22), (0, .ref (g.1 1)), (1, .int x1)]) hx hb dX2_statusFor_5 rfl hl (by decide) rfl (fun ls hl => ?_)
  refine lv_aload_n hx hb dX2_statusFor_6 rfl (lv_at hl 1 rfl) ?_
  refine gX2_failed S hW kf_X2_44 dX2_statusFor_7 ?_
  refine lv_if_eq (tgt := 19) hx hb dX2_statusFor_10 (by decide) (fun c23 => ?_) (fun c23 => ?_)
  · replace hf := if_t c23 hf
    refine lv_iconst (v := 0) hx hb dX2_statusFor_19 (by decide) ?_
    exact J_20 r21.2 x1 x22 0 _ _ ls hW (lv_sub hl [1, 2, 0] rfl) hf
  · replace hf := if_f c23 hf
    refine lv_sipush (v := 128) hx hb dX2_statusFor_13 (by decide) ?_
    refine lv_goto (tgt := 20) hx hb dX2_statusFor_16 (by decide) ?_
    exact J_20 r21.2 x1 x22 128 _ _ ls hW (lv_sub hl [1, 2, 0] rfl) hf
def f_X2_level (z : Sg)  : Int32 × Sg := bd ((Int32.toInt64 (gI z 13)) - (Int32.toInt64 (gI z 12))) (fun x21 => (if 0 < (lg_cmp x21 (0 : Int64)) then bd (f_X2_variableAt z 0) (fun r23 => bd (((((Int32.toInt64 r23.1) - (Int32.toInt64 (gI r23.2 12))) * (16000 : Int64)) / x21) + (4000 : Int64)) (fun x25 => bd ((if x25 < (20500 : Int64) then x25 else (20500 : Int64))) (fun x26 => bd ((if x26 < (3800 : Int64) then (3800 : Int64) else x26)) (fun x27 => (Int64.toInt32 x27, r23.2))))) else (3800, z)))
def s_X2_level (z : Sg)  : Prop := bd ((Int32.toInt64 (gI z 13)) - (Int32.toInt64 (gI z 12))) (fun x21 => (0 < (lg_cmp x21 (0 : Int64)) → bd (f_X2_variableAt z 0) (fun r23 => (¬ x21 = 0) ∧ True)) ∧ (¬ 0 < (lg_cmp x21 (0 : Int64)) → True))
theorem hd_X2_level : yX2_level.cls = RX2 ∧ yX2_level.cls ≠ "java/lang/invoke/MethodHandle" ∧ yX2_level.cls ≠ "java/lang/invoke/VarHandle" ∧ (parseMethodDescriptor yX2_level.desc).map (fun d => d.parameters.length) = some 0 := by decide +kernel
set_option maxHeartbeats 4000000 in
set_option maxRecDepth 100000 in
theorem c_X2_level (l : Launch) (D : va_G) (g : Gv) (z : Sg)  {r : Int32 × Sg} (er : r = f_X2_level z ) (hs : s_X2_level z ) : CT D (wD g) (tD g) l yX2_level (wG yX2_level cX2_level 5 (some .int)) { frames := 1, cells := 0, slots := 0, locals := 21 } [.ref (g.1 1)] z (some (.int r.1)) r.2 := by
  refine CT.ofW (by decide) (Nat.le_of_ble_eq_true rfl) ?_
  intro p e R s m args below meth c A hR S hr hlocks hA hW ls hl
  have S : CallFix p m c cX2_level 5 s args wsL_law RX2 := S
  have hl : lv_has ls 5 [(0, .ref (g.1 1))] := hl
  have hx := S.1
  have hb := S.2.1
  have hf := er.symm
  clear er
  unfold f_X2_level at hf
  unfold s_X2_level at hs
  refine lv_aload_n hx hb dX2_level_0 rfl (lv_at hl 0 rfl) ?_
  refine gX2_upper S hW kf_X2_21 dX2_level_1 ?_
  refine lv_i2l hx hb dX2_level_4 rfl ?_
  refine lv_aload_n hx hb dX2_level_5 rfl (lv_at hl 0 rfl) ?_
  refine gX2_lower S hW kf_X2_48 dX2_level_6 ?_
  refine lv_i2l hx hb dX2_level_9 rfl ?_
  refine lv_lsub hx hb dX2_level_10 ?_
  obtain ⟨x21, ex21, hf⟩ := bd_e hf
  replace hs := bd_s ex21 hs
  refine lv_nml ex21 ?_
  refine lv_lstore_n (lv' := [(1, .long x21), (0, .ref (g.1 1))]) hx hb dX2_level_11 rfl hl (by decide) rfl (fun ls hl => ?_)
  refine lv_lload_n hx hb dX2_level_12 rfl (lv_at hl 0 rfl) ?_
  refine lv_lconst (v := 0) hx hb dX2_level_13 (by decide) ?_
  refine W.lcmp hx hb dX2_level_14 ?_
  refine lv_if_gt (tgt := 22) hx hb dX2_level_15 (by decide) (fun c22 => ?_) (fun c22 => ?_)
  · replace hf := if_t c22 hf
    replace hs := hs.1 c22
    refine lv_aload_n hx hb dX2_level_22 rfl (lv_at hl 1 rfl) ?_
    refine lv_iconst (v := 0) hx hb dX2_level_23 (by decide) ?_
    obtain ⟨r23, er23, hf⟩ := bd_e hf
    replace hs := bd_s er23 hs
    refine ct_V (As := [.int 0]) (rest := []) (st1 := [.int r23.1]) (q0 := 1) (ci := 2) S hA hW (c_X2_variableAt l D g z 0 er23) (wG_V km_X2_40 ki_yX2_variableAt ks_yX2_variableAt kn_X2 kc_yX2_variableAt) ⟨rfl, rfl⟩ hd_X2_variableAt (by rw [hR]; exact ⟨Nat.le_of_ble_eq_true rfl, Nat.le_of_ble_eq_true rfl⟩) rfl rfl rfl rfl hl.1 rfl (Nat.le_of_ble_eq_true rfl) ⟨Nat.zero_le _, Nat.zero_le _⟩ dX2_level_24 rfl (fun H locs hW => ?_)
    refine lv_i2l hx hb dX2_level_27 rfl ?_
    refine lv_aload_n hx hb dX2_level_28 rfl (lv_at hl 1 rfl) ?_
    refine gX2_lower S hW kf_X2_48 dX2_level_29 ?_
    refine lv_i2l hx hb dX2_level_32 rfl ?_
    refine lv_lsub hx hb dX2_level_33 ?_
    refine lv_ldc2 (v := 16000) hx hb S.2.2.2.1 (S.2.2.2.2 _ kl_X2_51) dX2_level_34 ?_
    refine lv_lmul hx hb dX2_level_37 ?_
    refine lv_lload_n hx hb dX2_level_38 rfl (lv_at hl 0 rfl) ?_
    obtain ⟨q24, hs⟩ := hs
    refine lv_ldiv hx hb dX2_level_39 q24 ?_
    refine lv_ldc2 (v := 4000) hx hb S.2.2.2.1 (S.2.2.2.2 _ kl_X2_53) dX2_level_40 ?_
    refine lv_ladd hx hb dX2_level_43 ?_
    obtain ⟨x25, ex25, hf⟩ := bd_e hf
    refine lv_nml ex25 ?_
    refine lv_lstore_n (lv' := [(3, .long x25), (1, .long x21), (0, .ref (g.1 1))]) hx hb dX2_level_44 rfl hl (by decide) rfl (fun ls hl => ?_)
    refine lv_ldc2 (v := 3800) hx hb S.2.2.2.1 (S.2.2.2.2 _ kl_X2_55) dX2_level_45 ?_
    refine lv_ldc2 (v := 20500) hx hb S.2.2.2.1 (S.2.2.2.2 _ kl_X2_57) dX2_level_48 ?_
    refine lv_lload_n hx hb dX2_level_51 rfl (lv_at hl 0 rfl) ?_
    refine va_mmin_long hx hb (S.2.2.1.trans hl.1.symm) S.2.2.2.1 (S.2.2.2.2 _ km_X2_59) (S.2.2.2.2 _ kz_Lib_MathLoose_min_long_x) (S.2.2.2.2 _ kn_Math) (S.2.2.2.2 _ kc_Lib_MathLoose_min_long_x) (by rw [hR]; exact Nat.le_of_ble_eq_true rfl) (by rw [hR]; exact Nat.le_of_ble_eq_true rfl) (Nat.zero_le _) (Nat.zero_le _) dX2_level_52 ?_
    obtain ⟨x26, ex26, hf⟩ := bd_e hf
    refine lv_nml ex26 ?_
    refine va_mmax_long hx hb (S.2.2.1.trans hl.1.symm) S.2.2.2.1 (S.2.2.2.2 _ km_X2_65) (S.2.2.2.2 _ kz_Lib_MathLoose_max_long_x) (S.2.2.2.2 _ kn_Math) (S.2.2.2.2 _ kc_Lib_MathLoose_max_long_x) (by rw [hR]; exact Nat.le_of_ble_eq_true rfl) (by rw [hR]; exact Nat.le_of_ble_eq_true rfl) (Nat.zero_le _) (Nat.zero_le _) dX2_level_55 ?_
    obtain ⟨x27, ex27, hf⟩ := bd_e hf
    refine lv_nml ex27 ?_
    refine lv_l2i hx hb dX2_level_58 rfl ?_
    subst hf
    exact ct_i S hr hlocks hW dX2_level_59
  · replace hf := if_f c22 hf
    replace hs := hs.2 c22
    refine lv_sipush (v := 3800) hx hb dX2_level_18 (by decide) ?_
    subst hf
    exact ct_i S hr hlocks hW dX2_level_21
