def f_X0_beginAnew (z : Sg)  : Sg := bd (pI z 23 0) (fun z21 => bd (pI z21 24 0) (fun z22 => z22))
theorem hd_X0_beginAnew : yX0_beginAnew.cls = RX0 ∧ yX0_beginAnew.cls ≠ "java/lang/invoke/MethodHandle" ∧ yX0_beginAnew.cls ≠ "java/lang/invoke/VarHandle" ∧ (parseMethodDescriptor yX0_beginAnew.desc).map (fun d => d.parameters.length) = some 0 := by decide +kernel
set_option maxHeartbeats 4000000 in
set_option maxRecDepth 100000 in
theorem c_X0_beginAnew (l : Launch) (D : va_G) (g : Gv) (z : Sg)  {r : Sg} (er : r = f_X0_beginAnew z ) : CT D (wD g) (tD g) l yX0_beginAnew (wG yX0_beginAnew cX0_beginAnew 1 none) { frames := 0, cells := 0, slots := 0, locals := 0 } [.ref (g.1 2)] z none r := by
  refine CT.ofW (by decide) (Nat.le_of_ble_eq_true rfl) ?_
  intro p e R s m args below meth c A hR S hr hlocks hA hW ls hl
  have S : CallFix p m c cX0_beginAnew 1 s args wsL_law RX0 := S
  have hl : lv_has ls 1 [(0, .ref (g.1 2))] := hl
  have hx := S.1
  have hb := S.2.1
  have hf := er.symm
  clear er
  unfold f_X0_beginAnew at hf
  refine lv_aload_n hx hb dX0_beginAnew_0 rfl (lv_at hl 0 rfl) ?_
  refine lv_iconst (v := 0) hx hb dX0_beginAnew_1 (by decide) ?_
  obtain ⟨z21, ez21, hf⟩ := bd_e hf
  refine pX0_place S hW kf_X0_18 dX0_beginAnew_2 ez21 (fun H locs hW => ?_)
  refine lv_aload_n hx hb dX0_beginAnew_5 rfl (lv_at hl 0 rfl) ?_
  refine lv_iconst (v := 0) hx hb dX0_beginAnew_6 (by decide) ?_
  obtain ⟨z22, ez22, hf⟩ := bd_e hf
  refine pX0_preamble S hW kf_X0_22 dX0_beginAnew_7 ez22 (fun H locs hW => ?_)
  subst hf
  exact ct_v S hr hlocks hW dX0_beginAnew_10
def f_X0_takePreamble_56 (z : Sg) (y1 : Int32) : Sg := (if y1 = 130 then bd (pI z 19 1) (fun z34 => bd (pI z34 26 y1) (fun z35 => bd (pI z35 25 0) (fun z36 => bd (pI z36 23 1) (fun z37 => z37)))) else bd (pI z 19 0) (fun z30 => bd (pI z30 26 y1) (fun z31 => bd (pI z31 25 0) (fun z32 => bd (pI z32 23 1) (fun z33 => z33)))))
def f_X0_takePreamble_35 (z : Sg) (y1 : Int32) (k0 : Int32) : Sg := bd (f_X0_beginAnew z) (fun z25 => (if k0 = 0 then z25 else (if y1 = 2 then f_X0_takePreamble_56 z25 y1 else (if y1 = 130 then f_X0_takePreamble_56 z25 y1 else z25))))
def f_X0_takePreamble (z : Sg) (x1 : Int32) : Sg := (if x1 = 255 then bd ((if 3 < ((gI z 24) + 1) then 3 else ((gI z 24) + 1))) (fun x23 => bd (pI z 24 x23) (fun z24 => z24)) else (if (gI z 24) < 3 then f_X0_takePreamble_35 z x1 0 else f_X0_takePreamble_35 z x1 1))
theorem hd_X0_takePreamble : yX0_takePreamble.cls = RX0 ∧ yX0_takePreamble.cls ≠ "java/lang/invoke/MethodHandle" ∧ yX0_takePreamble.cls ≠ "java/lang/invoke/VarHandle" ∧ (parseMethodDescriptor yX0_takePreamble.desc).map (fun d => d.parameters.length) = some 1 := by decide +kernel
set_option maxHeartbeats 4000000 in
set_option maxRecDepth 100000 in
theorem c_X0_takePreamble (l : Launch) (D : va_G) (g : Gv) (z : Sg) (x1 : Int32) {r : Sg} (er : r = f_X0_takePreamble z x1) : CT D (wD g) (tD g) l yX0_takePreamble (wG yX0_takePreamble cX0_takePreamble 3 none) { frames := 1, cells := 0, slots := 0, locals := 20 } [.ref (g.1 2), .int x1] z none r := by
  refine CT.ofW (by decide) (Nat.le_of_ble_eq_true rfl) ?_
  intro p e R s m args below meth c A hR S hr hlocks hA hW ls hl
  have S : CallFix p m c cX0_takePreamble 3 s args wsL_law RX0 := S
  have hl : lv_has ls 3 [(0, .ref (g.1 2)), (1, .int x1)] := hl
  have hx := S.1
  have hb := S.2.1
  have hf := er.symm
  clear er
  have J_56 : ∀ (z : Sg) (y1 : Int32) (H : Heap) (locs : List Loc) (ls : Array Slot), Wd D (wD g) (tD g) A s H locs z → lv_has ls 3 [(0, .ref (g.1 2)), (1, .int y1)] → f_X0_takePreamble_56 z y1 = r → W p l e R s m args below meth c H locs 0 0 (MQ below (CQ D (wD g) A none r) args s 0 0 A) (F0 m 56 ls []) := by
    intro z y1 H locs ls hW hl hf
    unfold f_X0_takePreamble_56 at hf
    refine lv_aload_n hx hb dX0_takePreamble_56 rfl (lv_at hl 0 rfl) ?_
    refine lv_iload_n hx hb dX0_takePreamble_57 rfl (lv_at hl 1 rfl) ?_
    refine lv_sipush (v := 130) hx hb dX0_takePreamble_58 (by decide) ?_
    refine lv_icmp_ne (tgt := 68) hx hb dX0_takePreamble_61 (by decide) (fun c29 => ?_) (fun c29 => ?_)
    · replace hf := if_f c29 hf
      refine lv_iconst (v := 0) hx hb dX0_takePreamble_68 (by decide) ?_
      obtain ⟨z30, ez30, hf⟩ := bd_e hf
      refine pX0_isLong (by decide) S hW kf_X0_57 dX0_takePreamble_69 ez30 (fun H locs hW => ?_)
      refine lv_aload_n hx hb dX0_takePreamble_72 rfl (lv_at hl 0 rfl) ?_
      refine lv_iload_n hx hb dX0_takePreamble_73 rfl (lv_at hl 1 rfl) ?_
      obtain ⟨z31, ez31, hf⟩ := bd_e hf
      refine pX0_sum S hW kf_X0_25 dX0_takePreamble_74 ez31 (fun H locs hW => ?_)
      refine lv_aload_n hx hb dX0_takePreamble_77 rfl (lv_at hl 0 rfl) ?_
      refine lv_iconst (v := 0) hx hb dX0_takePreamble_78 (by decide) ?_
      obtain ⟨z32, ez32, hf⟩ := bd_e hf
      refine pX0_taken S hW kf_X0_60 dX0_takePreamble_79 ez32 (fun H locs hW => ?_)
      refine lv_aload_n hx hb dX0_takePreamble_82 rfl (lv_at hl 0 rfl) ?_
      refine lv_iconst (v := 1) hx hb dX0_takePreamble_83 (by decide) ?_
      obtain ⟨z33, ez33, hf⟩ := bd_e hf
      refine pX0_place S hW kf_X0_18 dX0_takePreamble_84 ez33 (fun H locs hW => ?_)
      subst hf
      exact ct_v S hr hlocks hW dX0_takePreamble_87
    · replace hf := if_t c29 hf
      refine lv_iconst (v := 1) hx hb dX0_takePreamble_64 (by decide) ?_
      refine lv_goto (tgt := 69) hx hb dX0_takePreamble_65 (by decide) ?_
      obtain ⟨z34, ez34, hf⟩ := bd_e hf
      refine pX0_isLong (by decide) S hW kf_X0_57 dX0_takePreamble_69 ez34 (fun H locs hW => ?_)
      refine lv_aload_n hx hb dX0_takePreamble_72 rfl (lv_at hl 0 rfl) ?_
      refine lv_iload_n hx hb dX0_takePreamble_73 rfl (lv_at hl 1 rfl) ?_
      obtain ⟨z35, ez35, hf⟩ := bd_e hf
      refine pX0_sum S hW kf_X0_25 dX0_takePreamble_74 ez35 (fun H locs hW => ?_)
      refine lv_aload_n hx hb dX0_takePreamble_77 rfl (lv_at hl 0 rfl) ?_
      refine lv_iconst (v := 0) hx hb dX0_takePreamble_78 (by decide) ?_
      obtain ⟨z36, ez36, hf⟩ := bd_e hf
      refine pX0_taken S hW kf_X0_60 dX0_takePreamble_79 ez36 (fun H locs hW => ?_)
      refine lv_aload_n hx hb dX0_takePreamble_82 rfl (lv_at hl 0 rfl) ?_
      refine lv_iconst (v := 1) hx hb dX0_takePreamble_83 (by decide) ?_
      obtain ⟨z37, ez37, hf⟩ := bd_e hf
      refine pX0_place S hW kf_X0_18 dX0_takePreamble_84 ez37 (fun H locs hW => ?_)
      subst hf
      exact ct_v S hr hlocks hW dX0_takePreamble_87
  have J_35 : ∀ (z : Sg) (y1 : Int32) (k0 : Int32) (H : Heap) (locs : List Loc) (ls : Array Slot), Wd D (wD g) (tD g) A s H locs z → lv_has ls 3 [(0, .ref (g.1 2)), (1, .int y1)] → f_X0_takePreamble_35 z y1 k0 = r → W p l e R s m args below meth c H locs 0 0 (MQ below (CQ D (wD g) A none r) args s 0 0 A) (F0 m 35 ls [.int k0]) := by
    intro z y1 k0 H locs ls hW hl hf
    unfold f_X0_takePreamble_35 at hf
    refine lv_istore_n (lv' := [(2, .int k0), (0, .ref (g.1 2)), (1, .int y1)]) hx hb dX0_takePreamble_35 rfl hl (by decide) rfl (fun ls hl => ?_)
    refine lv_aload_n hx hb dX0_takePreamble_36 rfl (lv_at hl 1 rfl) ?_
    obtain ⟨z25, ez25, hf⟩ := bd_e hf
    refine ct_V (As := []) (rest := []) (st1 := []) (q0 := 2) (ci := 0) S hA hW (c_X0_beginAnew l D g z ez25) (wG_V km_X0_32 ki_yX0_beginAnew ks_yX0_beginAnew kn_X0 kc_yX0_beginAnew) ⟨rfl, rfl⟩ hd_X0_beginAnew (by rw [hR]; exact ⟨Nat.le_of_ble_eq_true rfl, Nat.le_of_ble_eq_true rfl⟩) rfl rfl rfl rfl hl.1 rfl (Nat.le_of_ble_eq_true rfl) ⟨Nat.zero_le _, Nat.zero_le _⟩ dX0_takePreamble_37 rfl (fun H locs hW => ?_)
    refine lv_iload_n hx hb dX0_takePreamble_40 rfl (lv_at hl 0 rfl) ?_
    refine lv_if_eq (tgt := 87) hx hb dX0_takePreamble_41 (by decide) (fun c26 => ?_) (fun c26 => ?_)
    · replace hf := if_t c26 hf
      subst hf
      exact ct_v S hr hlocks hW dX0_takePreamble_87
    · replace hf := if_f c26 hf
      refine lv_iload_n hx hb dX0_takePreamble_44 rfl (lv_at hl 2 rfl) ?_
      refine lv_iconst (v := 2) hx hb dX0_takePreamble_45 (by decide) ?_
      refine lv_icmp_eq (tgt := 56) hx hb dX0_takePreamble_46 (by decide) (fun c27 => ?_) (fun c27 => ?_)
      · replace hf := if_t c27 hf
        exact J_56 z25 y1 _ _ ls hW (lv_sub hl [1, 2] rfl) hf
      · replace hf := if_f c27 hf
        refine lv_iload_n hx hb dX0_takePreamble_49 rfl (lv_at hl 2 rfl) ?_
        refine lv_sipush (v := 130) hx hb dX0_takePreamble_50 (by decide) ?_
        refine lv_icmp_ne (tgt := 87) hx hb dX0_takePreamble_53 (by decide) (fun c28 => ?_) (fun c28 => ?_)
        · replace hf := if_f c28 hf
          subst hf
          exact ct_v S hr hlocks hW dX0_takePreamble_87
        · replace hf := if_t c28 hf
          exact J_56 z25 y1 _ _ ls hW (lv_sub hl [1, 2] rfl) hf
  unfold f_X0_takePreamble at hf
  refine lv_iload_n hx hb dX0_takePreamble_0 rfl (lv_at hl 1 rfl) ?_
  refine lv_sipush (v := 255) hx hb dX0_takePreamble_1 (by decide) ?_
  refine lv_icmp_ne (tgt := 22) hx hb dX0_takePreamble_4 (by decide) (fun c21 => ?_) (fun c21 => ?_)
  · replace hf := if_f c21 hf
    refine lv_aload_n hx hb dX0_takePreamble_22 rfl (lv_at hl 0 rfl) ?_
    refine gX0_preamble S hW kf_X0_22 dX0_takePreamble_23 ?_
    refine lv_iconst (v := 3) hx hb dX0_takePreamble_26 (by decide) ?_
    refine lv_icmp_lt (tgt := 34) hx hb dX0_takePreamble_27 (by decide) (fun c22 => ?_) (fun c22 => ?_)
    · replace hf := if_t c22 hf
      refine lv_iconst (v := 0) hx hb dX0_takePreamble_34 (by decide) ?_
      exact J_35 z x1 0 _ _ ls hW (lv_sub hl [0, 1] rfl) hf
    · replace hf := if_f c22 hf
      refine lv_iconst (v := 1) hx hb dX0_takePreamble_30 (by decide) ?_
      refine lv_goto (tgt := 35) hx hb dX0_takePreamble_31 (by decide) ?_
      exact J_35 z x1 1 _ _ ls hW (lv_sub hl [0, 1] rfl) hf
  · replace hf := if_t c21 hf
    refine lv_aload_n hx hb dX0_takePreamble_7 rfl (lv_at hl 0 rfl) ?_
    refine lv_aload_n hx hb dX0_takePreamble_8 rfl (lv_at hl 0 rfl) ?_
    refine gX0_preamble S hW kf_X0_22 dX0_takePreamble_9 ?_
    refine lv_iconst (v := 1) hx hb dX0_takePreamble_12 (by decide) ?_
    refine lv_iadd hx hb dX0_takePreamble_13 ?_
    refine lv_iconst (v := 3) hx hb dX0_takePreamble_14 (by decide) ?_
    refine va_mmin hx hb (S.2.2.1.trans hl.1.symm) S.2.2.2.1 (S.2.2.2.2 _ km_X0_51) (S.2.2.2.2 _ kz_Lib_Math_min_name) (S.2.2.2.2 _ kn_Math) (S.2.2.2.2 _ kc_Lib_Math_min_name) (by rw [hR]; exact Nat.le_of_ble_eq_true rfl) (by rw [hR]; exact Nat.le_of_ble_eq_true rfl) (Nat.zero_le _) (Nat.zero_le _) dX0_takePreamble_15 ?_
    obtain ⟨x23, ex23, hf⟩ := bd_e hf
    refine lv_nmi ex23 ?_
    obtain ⟨z24, ez24, hf⟩ := bd_e hf
    refine pX0_preamble S hW kf_X0_22 dX0_takePreamble_18 ez24 (fun H locs hW => ?_)
    subst hf
    exact ct_v S hr hlocks hW dX0_takePreamble_21
def f_X0_takeAddress_55 (z : Sg) (k0 : Int32) (k1 : Int32) : Sg := (if k0 < k1 then z else bd (pI z 23 2) (fun z27 => z27))
def f_X0_takeAddress_29 (z : Sg)  : Sg := bd (pI z 25 ((gI z 25) + 1)) (fun z24 => (if (gI z24 19) = 0 then f_X0_takeAddress_55 z24 (gI z24 25) 1 else f_X0_takeAddress_55 z24 (gI z24 25) 5))
def f_X0_takeAddress (z : Sg) (x1 : Int32) : Sg := (if (gI z 25) < 0 then f_X0_takeAddress_29 z else (if 5 ≤ (gI z 25) then f_X0_takeAddress_29 z else bd (pA z 2 (Int32.toNatClampNeg (gI z 25)) x1) (fun z23 => f_X0_takeAddress_29 z23)))
theorem hd_X0_takeAddress : yX0_takeAddress.cls = RX0 ∧ yX0_takeAddress.cls ≠ "java/lang/invoke/MethodHandle" ∧ yX0_takeAddress.cls ≠ "java/lang/invoke/VarHandle" ∧ (parseMethodDescriptor yX0_takeAddress.desc).map (fun d => d.parameters.length) = some 1 := by decide +kernel
set_option maxHeartbeats 4000000 in
set_option maxRecDepth 100000 in
theorem c_X0_takeAddress (l : Launch) (D : va_G) (g : Gv) (z : Sg) (x1 : Int32) {r : Sg} (er : r = f_X0_takeAddress z x1) : CT D (wD g) (tD g) l yX0_takeAddress (wG yX0_takeAddress cX0_takeAddress 2 none) { frames := 0, cells := 0, slots := 0, locals := 0 } [.ref (g.1 2), .int x1] z none r := by
  refine CT.ofW (by decide) (Nat.le_of_ble_eq_true rfl) ?_
  intro p e R s m args below meth c A hR S hr hlocks hA hW ls hl
  have S : CallFix p m c cX0_takeAddress 2 s args wsL_law RX0 := S
  have hl : lv_has ls 2 [(0, .ref (g.1 2)), (1, .int x1)] := hl
  have hx := S.1
  have hb := S.2.1
  have hf := er.symm
  clear er
  have J_55 : ∀ (z : Sg) (k0 : Int32) (k1 : Int32) (H : Heap) (locs : List Loc) (ls : Array Slot), Wd D (wD g) (tD g) A s H locs z → lv_has ls 2 [(0, .ref (g.1 2))] → f_X0_takeAddress_55 z k0 k1 = r → W p l e R s m args below meth c H locs 0 0 (MQ below (CQ D (wD g) A none r) args s 0 0 A) (F0 m 55 ls [.int k1, .int k0]) := by
    intro z k0 k1 H locs ls hW hl hf
    unfold f_X0_takeAddress_55 at hf
    refine lv_icmp_lt (tgt := 63) hx hb dX0_takeAddress_55 (by decide) (fun c26 => ?_) (fun c26 => ?_)
    · replace hf := if_t c26 hf
      subst hf
      exact ct_v S hr hlocks hW dX0_takeAddress_63
    · replace hf := if_f c26 hf
      refine lv_aload_n hx hb dX0_takeAddress_58 rfl (lv_at hl 0 rfl) ?_
      refine lv_iconst (v := 2) hx hb dX0_takeAddress_59 (by decide) ?_
      obtain ⟨z27, ez27, hf⟩ := bd_e hf
      refine pX0_place S hW kf_X0_18 dX0_takeAddress_60 ez27 (fun H locs hW => ?_)
      subst hf
      exact ct_v S hr hlocks hW dX0_takeAddress_63
  have J_29 : ∀ (z : Sg)  (H : Heap) (locs : List Loc) (ls : Array Slot), Wd D (wD g) (tD g) A s H locs z → lv_has ls 2 [(0, .ref (g.1 2))] → f_X0_takeAddress_29 z  = r → W p l e R s m args below meth c H locs 0 0 (MQ below (CQ D (wD g) A none r) args s 0 0 A) (F0 m 29 ls []) := by
    intro z  H locs ls hW hl hf
    unfold f_X0_takeAddress_29 at hf
    refine lv_aload_n hx hb dX0_takeAddress_29 rfl (lv_at hl 0 rfl) ?_
    refine lv_dup hx hb dX0_takeAddress_30 rfl ?_
    refine gX0_taken S hW kf_X0_60 dX0_takeAddress_31 ?_
    refine lv_iconst (v := 1) hx hb dX0_takeAddress_34 (by decide) ?_
    refine lv_iadd hx hb dX0_takeAddress_35 ?_
    obtain ⟨z24, ez24, hf⟩ := bd_e hf
    refine pX0_taken S hW kf_X0_60 dX0_takeAddress_36 ez24 (fun H locs hW => ?_)
    refine lv_aload_n hx hb dX0_takeAddress_39 rfl (lv_at hl 0 rfl) ?_
    refine gX0_taken S hW kf_X0_60 dX0_takeAddress_40 ?_
    refine lv_aload_n hx hb dX0_takeAddress_43 rfl (lv_at hl 0 rfl) ?_
    refine gX0_isLong S hW kf_X0_57 dX0_takeAddress_44 ?_
    refine lv_if_eq (tgt := 54) hx hb dX0_takeAddress_47 (by decide) (fun c25 => ?_) (fun c25 => ?_)
    · replace hf := if_t c25 hf
      refine lv_iconst (v := 1) hx hb dX0_takeAddress_54 (by decide) ?_
      exact J_55 z24 (gI z24 25) 1 _ _ ls hW (lv_sub hl [0] rfl) hf
    · replace hf := if_f c25 hf
      refine lv_iconst (v := 5) hx hb dX0_takeAddress_50 (by decide) ?_
      refine lv_goto (tgt := 55) hx hb dX0_takeAddress_51 (by decide) ?_
      exact J_55 z24 (gI z24 25) 5 _ _ ls hW (lv_sub hl [0] rfl) hf
  unfold f_X0_takeAddress at hf
  refine lv_aload_n hx hb dX0_takeAddress_0 rfl (lv_at hl 0 rfl) ?_
  refine gX0_taken S hW kf_X0_60 dX0_takeAddress_1 ?_
  refine lv_if_lt (tgt := 29) hx hb dX0_takeAddress_4 (by decide) (fun c21 => ?_) (fun c21 => ?_)
  · replace hf := if_t c21 hf
    exact J_29 z _ _ ls hW (lv_sub hl [0] rfl) hf
  · replace hf := if_f c21 hf
    refine lv_aload_n hx hb dX0_takeAddress_7 rfl (lv_at hl 0 rfl) ?_
    refine gX0_taken S hW kf_X0_60 dX0_takeAddress_8 ?_
    refine lv_aload_n hx hb dX0_takeAddress_11 rfl (lv_at hl 0 rfl) ?_
    refine gX0_address S hW kf_X0_11 dX0_takeAddress_12 ?_
    refine nD2 S hW dX0_takeAddress_15 ?_
    refine lv_icmp_ge (tgt := 29) hx hb dX0_takeAddress_16 (by decide) (fun c22 => ?_) (fun c22 => ?_)
    · replace hf := if_t c22 hf
      exact J_29 z _ _ ls hW (lv_sub hl [0] rfl) hf
    · replace hf := if_f c22 hf
      refine lv_aload_n hx hb dX0_takeAddress_19 rfl (lv_at hl 0 rfl) ?_
      refine gX0_address S hW kf_X0_11 dX0_takeAddress_20 ?_
      refine lv_aload_n hx hb dX0_takeAddress_23 rfl (lv_at hl 0 rfl) ?_
      refine gX0_taken S hW kf_X0_60 dX0_takeAddress_24 ?_
      refine lv_iload_n hx hb dX0_takeAddress_27 rfl (lv_at hl 1 rfl) ?_
      obtain ⟨z23, ez23, hf⟩ := bd_e hf
      refine sD2 S hW (vi_of2 (M := 5) (by decide) c21 c22) dX0_takeAddress_28 ez23 (fun H locs hW => ?_)
      exact J_29 z23 _ _ ls hW (lv_sub hl [0] rfl) hf
def f_X0_takeCount (z : Sg) (x1 : Int32) : Sg := (if x1 ≤ 20 then bd (pI z 21 x1) (fun z22 => bd (pI z22 25 0) (fun z23 => (if (gI z23 21) = 0 then bd (pI z23 23 5) (fun z26 => z26) else bd (pI z23 23 4) (fun z25 => z25)))) else bd (f_X0_beginAnew z) (fun z27 => z27))
theorem hd_X0_takeCount : yX0_takeCount.cls = RX0 ∧ yX0_takeCount.cls ≠ "java/lang/invoke/MethodHandle" ∧ yX0_takeCount.cls ≠ "java/lang/invoke/VarHandle" ∧ (parseMethodDescriptor yX0_takeCount.desc).map (fun d => d.parameters.length) = some 1 := by decide +kernel
set_option maxHeartbeats 4000000 in
set_option maxRecDepth 100000 in
theorem c_X0_takeCount (l : Launch) (D : va_G) (g : Gv) (z : Sg) (x1 : Int32) {r : Sg} (er : r = f_X0_takeCount z x1) : CT D (wD g) (tD g) l yX0_takeCount (wG yX0_takeCount cX0_takeCount 2 none) { frames := 1, cells := 0, slots := 0, locals := 20 } [.ref (g.1 2), .int x1] z none r := by
  refine CT.ofW (by decide) (Nat.le_of_ble_eq_true rfl) ?_
  intro p e R s m args below meth c A hR S hr hlocks hA hW ls hl
  have S : CallFix p m c cX0_takeCount 2 s args wsL_law RX0 := S
  have hl : lv_has ls 2 [(0, .ref (g.1 2)), (1, .int x1)] := hl
  have hx := S.1
  have hb := S.2.1
  have hf := er.symm
  clear er
  unfold f_X0_takeCount at hf
  refine lv_iload_n hx hb dX0_takeCount_0 rfl (lv_at hl 1 rfl) ?_
  refine lv_bipush (v := 20) hx hb dX0_takeCount_1 (by decide) ?_
  refine lv_icmp_le (tgt := 11) hx hb dX0_takeCount_3 (by decide) (fun c21 => ?_) (fun c21 => ?_)
  · replace hf := if_t c21 hf
    refine lv_aload_n hx hb dX0_takeCount_11 rfl (lv_at hl 0 rfl) ?_
    refine lv_iload_n hx hb dX0_takeCount_12 rfl (lv_at hl 1 rfl) ?_
    obtain ⟨z22, ez22, hf⟩ := bd_e hf
    refine pX0_count S hW kf_X0_63 dX0_takeCount_13 ez22 (fun H locs hW => ?_)
    refine lv_aload_n hx hb dX0_takeCount_16 rfl (lv_at hl 0 rfl) ?_
    refine lv_iconst (v := 0) hx hb dX0_takeCount_17 (by decide) ?_
    obtain ⟨z23, ez23, hf⟩ := bd_e hf
    refine pX0_taken S hW kf_X0_60 dX0_takeCount_18 ez23 (fun H locs hW => ?_)
    refine lv_aload_n hx hb dX0_takeCount_21 rfl (lv_at hl 0 rfl) ?_
    refine lv_aload_n hx hb dX0_takeCount_22 rfl (lv_at hl 0 rfl) ?_
    refine gX0_count S hW kf_X0_63 dX0_takeCount_23 ?_
    refine lv_if_ne (tgt := 33) hx hb dX0_takeCount_26 (by decide) (fun c24 => ?_) (fun c24 => ?_)
    · replace hf := if_f c24 hf
      refine lv_iconst (v := 4) hx hb dX0_takeCount_33 (by decide) ?_
      obtain ⟨z25, ez25, hf⟩ := bd_e hf
      refine pX0_place S hW kf_X0_18 dX0_takeCount_34 ez25 (fun H locs hW => ?_)
      subst hf
      exact ct_v S hr hlocks hW dX0_takeCount_37
    · replace hf := if_t c24 hf
      refine lv_iconst (v := 5) hx hb dX0_takeCount_29 (by decide) ?_
      refine lv_goto (tgt := 34) hx hb dX0_takeCount_30 (by decide) ?_
      obtain ⟨z26, ez26, hf⟩ := bd_e hf
      refine pX0_place S hW kf_X0_18 dX0_takeCount_34 ez26 (fun H locs hW => ?_)
      subst hf
      exact ct_v S hr hlocks hW dX0_takeCount_37
  · replace hf := if_f c21 hf
    refine lv_aload_n hx hb dX0_takeCount_6 rfl (lv_at hl 0 rfl) ?_
    obtain ⟨z27, ez27, hf⟩ := bd_e hf
    refine ct_V (As := []) (rest := []) (st1 := []) (q0 := 2) (ci := 0) S hA hW (c_X0_beginAnew l D g z ez27) (wG_V km_X0_32 ki_yX0_beginAnew ks_yX0_beginAnew kn_X0 kc_yX0_beginAnew) ⟨rfl, rfl⟩ hd_X0_beginAnew (by rw [hR]; exact ⟨Nat.le_of_ble_eq_true rfl, Nat.le_of_ble_eq_true rfl⟩) rfl rfl rfl rfl hl.1 rfl (Nat.le_of_ble_eq_true rfl) ⟨Nat.zero_le _, Nat.zero_le _⟩ dX0_takeCount_7 rfl (fun H locs hW => ?_)
    subst hf
    exact ct_v S hr hlocks hW dX0_takeCount_10
def f_X0_takeData_29 (z : Sg)  : Sg := bd (pI z 25 ((gI z 25) + 1)) (fun z24 => (if (gI z24 25) < (gI z24 21) then z24 else bd (pI z24 23 5) (fun z26 => z26)))
def f_X0_takeData (z : Sg) (x1 : Int32) : Sg := (if (gI z 25) < 0 then f_X0_takeData_29 z else (if 20 ≤ (gI z 25) then f_X0_takeData_29 z else bd (pA z 3 (Int32.toNatClampNeg (gI z 25)) x1) (fun z23 => f_X0_takeData_29 z23)))
theorem hd_X0_takeData : yX0_takeData.cls = RX0 ∧ yX0_takeData.cls ≠ "java/lang/invoke/MethodHandle" ∧ yX0_takeData.cls ≠ "java/lang/invoke/VarHandle" ∧ (parseMethodDescriptor yX0_takeData.desc).map (fun d => d.parameters.length) = some 1 := by decide +kernel
set_option maxHeartbeats 4000000 in
set_option maxRecDepth 100000 in
theorem c_X0_takeData (l : Launch) (D : va_G) (g : Gv) (z : Sg) (x1 : Int32) {r : Sg} (er : r = f_X0_takeData z x1) : CT D (wD g) (tD g) l yX0_takeData (wG yX0_takeData cX0_takeData 2 none) { frames := 0, cells := 0, slots := 0, locals := 0 } [.ref (g.1 2), .int x1] z none r := by
  refine CT.ofW (by decide) (Nat.le_of_ble_eq_true rfl) ?_
  intro p e R s m args below meth c A hR S hr hlocks hA hW ls hl
  have S : CallFix p m c cX0_takeData 2 s args wsL_law RX0 := S
  have hl : lv_has ls 2 [(0, .ref (g.1 2)), (1, .int x1)] := hl
  have hx := S.1
  have hb := S.2.1
  have hf := er.symm
  clear er
  have J_29 : ∀ (z : Sg)  (H : Heap) (locs : List Loc) (ls : Array Slot), Wd D (wD g) (tD g) A s H locs z → lv_has ls 2 [(0, .ref (g.1 2))] → f_X0_takeData_29 z  = r → W p l e R s m args below meth c H locs 0 0 (MQ below (CQ D (wD g) A none r) args s 0 0 A) (F0 m 29 ls []) := by
    intro z  H locs ls hW hl hf
    unfold f_X0_takeData_29 at hf
    refine lv_aload_n hx hb dX0_takeData_29 rfl (lv_at hl 0 rfl) ?_
    refine lv_dup hx hb dX0_takeData_30 rfl ?_
    refine gX0_taken S hW kf_X0_60 dX0_takeData_31 ?_
    refine lv_iconst (v := 1) hx hb dX0_takeData_34 (by decide) ?_
    refine lv_iadd hx hb dX0_takeData_35 ?_
    obtain ⟨z24, ez24, hf⟩ := bd_e hf
    refine pX0_taken S hW kf_X0_60 dX0_takeData_36 ez24 (fun H locs hW => ?_)
    refine lv_aload_n hx hb dX0_takeData_39 rfl (lv_at hl 0 rfl) ?_
    refine gX0_taken S hW kf_X0_60 dX0_takeData_40 ?_
    refine lv_aload_n hx hb dX0_takeData_43 rfl (lv_at hl 0 rfl) ?_
    refine gX0_count S hW kf_X0_63 dX0_takeData_44 ?_
    refine lv_icmp_lt (tgt := 55) hx hb dX0_takeData_47 (by decide) (fun c25 => ?_) (fun c25 => ?_)
    · replace hf := if_t c25 hf
      subst hf
      exact ct_v S hr hlocks hW dX0_takeData_55
    · replace hf := if_f c25 hf
      refine lv_aload_n hx hb dX0_takeData_50 rfl (lv_at hl 0 rfl) ?_
      refine lv_iconst (v := 5) hx hb dX0_takeData_51 (by decide) ?_
      obtain ⟨z26, ez26, hf⟩ := bd_e hf
      refine pX0_place S hW kf_X0_18 dX0_takeData_52 ez26 (fun H locs hW => ?_)
      subst hf
      exact ct_v S hr hlocks hW dX0_takeData_55
  unfold f_X0_takeData at hf
  refine lv_aload_n hx hb dX0_takeData_0 rfl (lv_at hl 0 rfl) ?_
  refine gX0_taken S hW kf_X0_60 dX0_takeData_1 ?_
  refine lv_if_lt (tgt := 29) hx hb dX0_takeData_4 (by decide) (fun c21 => ?_) (fun c21 => ?_)
  · replace hf := if_t c21 hf
    exact J_29 z _ _ ls hW (lv_sub hl [0] rfl) hf
  · replace hf := if_f c21 hf
    refine lv_aload_n hx hb dX0_takeData_7 rfl (lv_at hl 0 rfl) ?_
    refine gX0_taken S hW kf_X0_60 dX0_takeData_8 ?_
    refine lv_aload_n hx hb dX0_takeData_11 rfl (lv_at hl 0 rfl) ?_
    refine gX0_data S hW kf_X0_15 dX0_takeData_12 ?_
    refine nD3 S hW dX0_takeData_15 ?_
    refine lv_icmp_ge (tgt := 29) hx hb dX0_takeData_16 (by decide) (fun c22 => ?_) (fun c22 => ?_)
    · replace hf := if_t c22 hf
      exact J_29 z _ _ ls hW (lv_sub hl [0] rfl) hf
    · replace hf := if_f c22 hf
      refine lv_aload_n hx hb dX0_takeData_19 rfl (lv_at hl 0 rfl) ?_
      refine gX0_data S hW kf_X0_15 dX0_takeData_20 ?_
      refine lv_aload_n hx hb dX0_takeData_23 rfl (lv_at hl 0 rfl) ?_
      refine gX0_taken S hW kf_X0_60 dX0_takeData_24 ?_
      refine lv_iload_n hx hb dX0_takeData_27 rfl (lv_at hl 1 rfl) ?_
      obtain ⟨z23, ez23, hf⟩ := bd_e hf
      refine sD3 S hW (vi_of2 (M := 20) (by decide) c21 c22) dX0_takeData_28 ez23 (fun H locs hW => ?_)
      exact J_29 z23 _ _ ls hW (lv_sub hl [0] rfl) hf
def f_X0_take (z : Sg) (x1 : Int32) : Int32 × Sg := (if (gI z 23) = 5 then (if x1 = (gI z 26) then bd (pI z 22 1) (fun z36 => bd (f_X0_beginAnew z36) (fun z37 => (1, z37))) else bd (pI z 22 0) (fun z34 => bd (f_X0_beginAnew z34) (fun z35 => (1, z35)))) else bd (pI z 26 ((gI z 26) ^^^ x1)) (fun z22 => (if (gI z22 23) = 1 then bd (f_X0_takeAddress z22 x1) (fun z24 => (0, z24)) else (if (gI z22 23) = 2 then bd (pI z22 20 x1) (fun z26 => bd (pI z26 23 3) (fun z27 => (0, z27))) else (if (gI z22 23) = 3 then bd (f_X0_takeCount z22 x1) (fun z29 => (0, z29)) else (if (gI z22 23) = 4 then bd (f_X0_takeData z22 x1) (fun z31 => (0, z31)) else bd (f_X0_takePreamble z22 x1) (fun z32 => (0, z32))))))))
theorem hd_X0_take : yX0_take.cls = RX0 ∧ yX0_take.cls ≠ "java/lang/invoke/MethodHandle" ∧ yX0_take.cls ≠ "java/lang/invoke/VarHandle" ∧ (parseMethodDescriptor yX0_take.desc).map (fun d => d.parameters.length) = some 1 := by decide +kernel
set_option maxHeartbeats 4000000 in
set_option maxRecDepth 100000 in
theorem c_X0_take (l : Launch) (D : va_G) (g : Gv) (z : Sg) (x1 : Int32) {r : Int32 × Sg} (er : r = f_X0_take z x1) : CT D (wD g) (tD g) l yX0_take (wG yX0_take cX0_take 2 (some .boolean)) { frames := 2, cells := 0, slots := 0, locals := 42 } [.ref (g.1 2), .int x1] z (some (.int r.1)) r.2 := by
  refine CT.ofW (by decide) (Nat.le_of_ble_eq_true rfl) ?_
  intro p e R s m args below meth c A hR S hr hlocks hA hW ls hl
  have S : CallFix p m c cX0_take 2 s args wsL_law RX0 := S
  have hl : lv_has ls 2 [(0, .ref (g.1 2)), (1, .int x1)] := hl
  have hx := S.1
  have hb := S.2.1
  have hf := er.symm
  clear er
  unfold f_X0_take at hf
  refine lv_aload_n hx hb dX0_take_0 rfl (lv_at hl 0 rfl) ?_
  refine gX0_place S hW kf_X0_18 dX0_take_1 ?_
  refine lv_iconst (v := 5) hx hb dX0_take_4 (by decide) ?_
  refine lv_icmp_ne (tgt := 31) hx hb dX0_take_5 (by decide) (fun c21 => ?_) (fun c21 => ?_)
  · replace hf := if_f c21 hf
    refine lv_aload_n hx hb dX0_take_31 rfl (lv_at hl 0 rfl) ?_
    refine lv_dup hx hb dX0_take_32 rfl ?_
    refine gX0_sum S hW kf_X0_25 dX0_take_33 ?_
    refine lv_iload_n hx hb dX0_take_36 rfl (lv_at hl 1 rfl) ?_
    refine lv_ixor hx hb dX0_take_37 ?_
    obtain ⟨z22, ez22, hf⟩ := bd_e hf
    refine pX0_sum S hW kf_X0_25 dX0_take_38 ez22 (fun H locs hW => ?_)
    refine lv_aload_n hx hb dX0_take_41 rfl (lv_at hl 0 rfl) ?_
    refine gX0_place S hW kf_X0_18 dX0_take_42 ?_
    by_cases c23 : (gI z22 23) = 1
    · replace hf := if_t c23 hf
      refine lv_tableIn (off := 31) (tgt := 76) hx hb dX0_take_45 (by rw [c23]; decide) (by rw [c23]; decide) (by rw [c23]; rfl) (by decide) ?_
      refine lv_aload_n hx hb dX0_take_76 rfl (lv_at hl 0 rfl) ?_
      refine lv_iload_n hx hb dX0_take_77 rfl (lv_at hl 1 rfl) ?_
      obtain ⟨z24, ez24, hf⟩ := bd_e hf
      refine ct_V (As := [.int x1]) (rest := []) (st1 := []) (q0 := 2) (ci := 0) S hA hW (c_X0_takeAddress l D g z22 x1 ez24) (wG_V km_X0_35 ki_yX0_takeAddress ks_yX0_takeAddress kn_X0 kc_yX0_takeAddress) ⟨rfl, rfl⟩ hd_X0_takeAddress (by rw [hR]; exact ⟨Nat.le_of_ble_eq_true rfl, Nat.le_of_ble_eq_true rfl⟩) rfl rfl rfl rfl hl.1 rfl (Nat.le_of_ble_eq_true rfl) ⟨Nat.zero_le _, Nat.zero_le _⟩ dX0_take_78 rfl (fun H locs hW => ?_)
      refine lv_goto (tgt := 118) hx hb dX0_take_81 (by decide) ?_
      refine lv_iconst (v := 0) hx hb dX0_take_118 (by decide) ?_
      subst hf
      exact ct_z (Or.inl rfl) S hr hlocks hW dX0_take_119
    replace hf := if_f c23 hf
    by_cases c25 : (gI z22 23) = 2
    · replace hf := if_t c25 hf
      refine lv_tableIn (off := 39) (tgt := 84) hx hb dX0_take_45 (by rw [c25]; decide) (by rw [c25]; decide) (by rw [c25]; rfl) (by decide) ?_
      refine lv_aload_n hx hb dX0_take_84 rfl (lv_at hl 0 rfl) ?_
      refine lv_iload_n hx hb dX0_take_85 rfl (lv_at hl 1 rfl) ?_
      obtain ⟨z26, ez26, hf⟩ := bd_e hf
      refine pX0_command S hW kf_X0_39 dX0_take_86 ez26 (fun H locs hW => ?_)
      refine lv_aload_n hx hb dX0_take_89 rfl (lv_at hl 0 rfl) ?_
      refine lv_iconst (v := 3) hx hb dX0_take_90 (by decide) ?_
      obtain ⟨z27, ez27, hf⟩ := bd_e hf
      refine pX0_place S hW kf_X0_18 dX0_take_91 ez27 (fun H locs hW => ?_)
      refine lv_goto (tgt := 118) hx hb dX0_take_94 (by decide) ?_
      refine lv_iconst (v := 0) hx hb dX0_take_118 (by decide) ?_
      subst hf
      exact ct_z (Or.inl rfl) S hr hlocks hW dX0_take_119
    replace hf := if_f c25 hf
    by_cases c28 : (gI z22 23) = 3
    · replace hf := if_t c28 hf
      refine lv_tableIn (off := 52) (tgt := 97) hx hb dX0_take_45 (by rw [c28]; decide) (by rw [c28]; decide) (by rw [c28]; rfl) (by decide) ?_
      refine lv_aload_n hx hb dX0_take_97 rfl (lv_at hl 0 rfl) ?_
      refine lv_iload_n hx hb dX0_take_98 rfl (lv_at hl 1 rfl) ?_
      obtain ⟨z29, ez29, hf⟩ := bd_e hf
      refine ct_V (As := [.int x1]) (rest := []) (st1 := []) (q0 := 2) (ci := 0) S hA hW (c_X0_takeCount l D g z22 x1 ez29) (wG_V km_X0_42 ki_yX0_takeCount ks_yX0_takeCount kn_X0 kc_yX0_takeCount) ⟨rfl, rfl⟩ hd_X0_takeCount (by rw [hR]; exact ⟨Nat.le_of_ble_eq_true rfl, Nat.le_of_ble_eq_true rfl⟩) rfl rfl rfl rfl hl.1 rfl (Nat.le_of_ble_eq_true rfl) ⟨Nat.zero_le _, Nat.zero_le _⟩ dX0_take_99 rfl (fun H locs hW => ?_)
      refine lv_goto (tgt := 118) hx hb dX0_take_102 (by decide) ?_
      refine lv_iconst (v := 0) hx hb dX0_take_118 (by decide) ?_
      subst hf
      exact ct_z (Or.inl rfl) S hr hlocks hW dX0_take_119
    replace hf := if_f c28 hf
    by_cases c30 : (gI z22 23) = 4
    · replace hf := if_t c30 hf
      refine lv_tableIn (off := 60) (tgt := 105) hx hb dX0_take_45 (by rw [c30]; decide) (by rw [c30]; decide) (by rw [c30]; rfl) (by decide) ?_
      refine lv_aload_n hx hb dX0_take_105 rfl (lv_at hl 0 rfl) ?_
      refine lv_iload_n hx hb dX0_take_106 rfl (lv_at hl 1 rfl) ?_
      obtain ⟨z31, ez31, hf⟩ := bd_e hf
      refine ct_V (As := [.int x1]) (rest := []) (st1 := []) (q0 := 2) (ci := 0) S hA hW (c_X0_takeData l D g z22 x1 ez31) (wG_V km_X0_45 ki_yX0_takeData ks_yX0_takeData kn_X0 kc_yX0_takeData) ⟨rfl, rfl⟩ hd_X0_takeData (by rw [hR]; exact ⟨Nat.le_of_ble_eq_true rfl, Nat.le_of_ble_eq_true rfl⟩) rfl rfl rfl rfl hl.1 rfl (Nat.le_of_ble_eq_true rfl) ⟨Nat.zero_le _, Nat.zero_le _⟩ dX0_take_107 rfl (fun H locs hW => ?_)
      refine lv_goto (tgt := 118) hx hb dX0_take_110 (by decide) ?_
      refine lv_iconst (v := 0) hx hb dX0_take_118 (by decide) ?_
      subst hf
      exact ct_z (Or.inl rfl) S hr hlocks hW dX0_take_119
    replace hf := if_f c30 hf
    refine lv_tableOut (tgt := 113) hx hb dX0_take_45 (by have h1 := lv_neT (k := 1) (a := 1) c23 (by decide); have h2 := lv_neT (k := 2) (a := 2) c25 (by decide); have h3 := lv_neT (k := 3) (a := 3) c28 (by decide); have h4 := lv_neT (k := 4) (a := 4) c30 (by decide); omega) (by decide) ?_
    refine lv_aload_n hx hb dX0_take_113 rfl (lv_at hl 0 rfl) ?_
    refine lv_iload_n hx hb dX0_take_114 rfl (lv_at hl 1 rfl) ?_
    obtain ⟨z32, ez32, hf⟩ := bd_e hf
    refine ct_V (As := [.int x1]) (rest := []) (st1 := []) (q0 := 2) (ci := 0) S hA hW (c_X0_takePreamble l D g z22 x1 ez32) (wG_V km_X0_48 ki_yX0_takePreamble ks_yX0_takePreamble kn_X0 kc_yX0_takePreamble) ⟨rfl, rfl⟩ hd_X0_takePreamble (by rw [hR]; exact ⟨Nat.le_of_ble_eq_true rfl, Nat.le_of_ble_eq_true rfl⟩) rfl rfl rfl rfl hl.1 rfl (Nat.le_of_ble_eq_true rfl) ⟨Nat.zero_le _, Nat.zero_le _⟩ dX0_take_115 rfl (fun H locs hW => ?_)
    refine lv_iconst (v := 0) hx hb dX0_take_118 (by decide) ?_
    subst hf
    exact ct_z (Or.inl rfl) S hr hlocks hW dX0_take_119
  · replace hf := if_t c21 hf
    refine lv_aload_n hx hb dX0_take_8 rfl (lv_at hl 0 rfl) ?_
    refine lv_iload_n hx hb dX0_take_9 rfl (lv_at hl 1 rfl) ?_
    refine lv_aload_n hx hb dX0_take_10 rfl (lv_at hl 0 rfl) ?_
    refine gX0_sum S hW kf_X0_25 dX0_take_11 ?_
    refine lv_icmp_ne (tgt := 21) hx hb dX0_take_14 (by decide) (fun c33 => ?_) (fun c33 => ?_)
    · replace hf := if_f c33 hf
      refine lv_iconst (v := 0) hx hb dX0_take_21 (by decide) ?_
      obtain ⟨z34, ez34, hf⟩ := bd_e hf
      refine pX0_sumIsRight (by decide) S hW kf_X0_28 dX0_take_22 ez34 (fun H locs hW => ?_)
      refine lv_aload_n hx hb dX0_take_25 rfl (lv_at hl 0 rfl) ?_
      obtain ⟨z35, ez35, hf⟩ := bd_e hf
      refine ct_V (As := []) (rest := []) (st1 := []) (q0 := 2) (ci := 0) S hA hW (c_X0_beginAnew l D g z34 ez35) (wG_V km_X0_32 ki_yX0_beginAnew ks_yX0_beginAnew kn_X0 kc_yX0_beginAnew) ⟨rfl, rfl⟩ hd_X0_beginAnew (by rw [hR]; exact ⟨Nat.le_of_ble_eq_true rfl, Nat.le_of_ble_eq_true rfl⟩) rfl rfl rfl rfl hl.1 rfl (Nat.le_of_ble_eq_true rfl) ⟨Nat.zero_le _, Nat.zero_le _⟩ dX0_take_26 rfl (fun H locs hW => ?_)
      refine lv_iconst (v := 1) hx hb dX0_take_29 (by decide) ?_
      subst hf
      exact ct_z (Or.inr rfl) S hr hlocks hW dX0_take_30
    · replace hf := if_t c33 hf
      refine lv_iconst (v := 1) hx hb dX0_take_17 (by decide) ?_
      refine lv_goto (tgt := 22) hx hb dX0_take_18 (by decide) ?_
      obtain ⟨z36, ez36, hf⟩ := bd_e hf
      refine pX0_sumIsRight (by decide) S hW kf_X0_28 dX0_take_22 ez36 (fun H locs hW => ?_)
      refine lv_aload_n hx hb dX0_take_25 rfl (lv_at hl 0 rfl) ?_
      obtain ⟨z37, ez37, hf⟩ := bd_e hf
      refine ct_V (As := []) (rest := []) (st1 := []) (q0 := 2) (ci := 0) S hA hW (c_X0_beginAnew l D g z36 ez37) (wG_V km_X0_32 ki_yX0_beginAnew ks_yX0_beginAnew kn_X0 kc_yX0_beginAnew) ⟨rfl, rfl⟩ hd_X0_beginAnew (by rw [hR]; exact ⟨Nat.le_of_ble_eq_true rfl, Nat.le_of_ble_eq_true rfl⟩) rfl rfl rfl rfl hl.1 rfl (Nat.le_of_ble_eq_true rfl) ⟨Nat.zero_le _, Nat.zero_le _⟩ dX0_take_26 rfl (fun H locs hW => ?_)
      refine lv_iconst (v := 1) hx hb dX0_take_29 (by decide) ?_
      subst hf
      exact ct_z (Or.inr rfl) S hr hlocks hW dX0_take_30
def f_X0_addressAt (z : Sg) (x1 : Int32) : Int32 × Sg := (if x1 < 0 then (0, z) else (if 5 ≤ x1 then (0, z) else (gA z 2 (Int32.toNatClampNeg x1), z)))
theorem hd_X0_addressAt : yX0_addressAt.cls = RX0 ∧ yX0_addressAt.cls ≠ "java/lang/invoke/MethodHandle" ∧ yX0_addressAt.cls ≠ "java/lang/invoke/VarHandle" ∧ (parseMethodDescriptor yX0_addressAt.desc).map (fun d => d.parameters.length) = some 1 := by decide +kernel
set_option maxHeartbeats 4000000 in
set_option maxRecDepth 100000 in
theorem c_X0_addressAt (l : Launch) (D : va_G) (g : Gv) (z : Sg) (x1 : Int32) {r : Int32 × Sg} (er : r = f_X0_addressAt z x1) : CT D (wD g) (tD g) l yX0_addressAt (wG yX0_addressAt cX0_addressAt 2 (some .int)) { frames := 0, cells := 0, slots := 0, locals := 0 } [.ref (g.1 2), .int x1] z (some (.int r.1)) r.2 := by
  refine CT.ofW (by decide) (Nat.le_of_ble_eq_true rfl) ?_
  intro p e R s m args below meth c A hR S hr hlocks hA hW ls hl
  have S : CallFix p m c cX0_addressAt 2 s args wsL_law RX0 := S
  have hl : lv_has ls 2 [(0, .ref (g.1 2)), (1, .int x1)] := hl
  have hx := S.1
  have hb := S.2.1
  have hf := er.symm
  clear er
  unfold f_X0_addressAt at hf
  refine lv_iload_n hx hb dX0_addressAt_0 rfl (lv_at hl 1 rfl) ?_
  refine lv_if_lt (tgt := 22) hx hb dX0_addressAt_1 (by decide) (fun c21 => ?_) (fun c21 => ?_)
  · replace hf := if_t c21 hf
    refine lv_iconst (v := 0) hx hb dX0_addressAt_22 (by decide) ?_
    subst hf
    exact ct_i S hr hlocks hW dX0_addressAt_23
  · replace hf := if_f c21 hf
    refine lv_iload_n hx hb dX0_addressAt_4 rfl (lv_at hl 1 rfl) ?_
    refine lv_aload_n hx hb dX0_addressAt_5 rfl (lv_at hl 0 rfl) ?_
    refine gX0_address S hW kf_X0_11 dX0_addressAt_6 ?_
    refine nD2 S hW dX0_addressAt_9 ?_
    refine lv_icmp_ge (tgt := 22) hx hb dX0_addressAt_10 (by decide) (fun c22 => ?_) (fun c22 => ?_)
    · replace hf := if_t c22 hf
      refine lv_iconst (v := 0) hx hb dX0_addressAt_22 (by decide) ?_
      subst hf
      exact ct_i S hr hlocks hW dX0_addressAt_23
    · replace hf := if_f c22 hf
      refine lv_aload_n hx hb dX0_addressAt_13 rfl (lv_at hl 0 rfl) ?_
      refine gX0_address S hW kf_X0_11 dX0_addressAt_14 ?_
      refine lv_iload_n hx hb dX0_addressAt_17 rfl (lv_at hl 1 rfl) ?_
      refine aD2 S hW (vi_of2 (M := 5) (by decide) c21 c22) dX0_addressAt_18 ?_
      refine lv_goto (tgt := 23) hx hb dX0_addressAt_19 (by decide) ?_
      subst hf
      exact ct_i S hr hlocks hW dX0_addressAt_23
def f_X0_master (z : Sg)  : Int32 × Sg := bd (f_X0_addressAt z 0) (fun r21 => (if (r21.1 &&& 128) = 0 then (1, r21.2) else (0, r21.2)))
theorem hd_X0_master : yX0_master.cls = RX0 ∧ yX0_master.cls ≠ "java/lang/invoke/MethodHandle" ∧ yX0_master.cls ≠ "java/lang/invoke/VarHandle" ∧ (parseMethodDescriptor yX0_master.desc).map (fun d => d.parameters.length) = some 0 := by decide +kernel
set_option maxHeartbeats 4000000 in
set_option maxRecDepth 100000 in
theorem c_X0_master (l : Launch) (D : va_G) (g : Gv) (z : Sg)  {r : Int32 × Sg} (er : r = f_X0_master z ) : CT D (wD g) (tD g) l yX0_master (wG yX0_master cX0_master 1 (some .int)) { frames := 1, cells := 0, slots := 0, locals := 21 } [.ref (g.1 2)] z (some (.int r.1)) r.2 := by
  refine CT.ofW (by decide) (Nat.le_of_ble_eq_true rfl) ?_
  intro p e R s m args below meth c A hR S hr hlocks hA hW ls hl
  have S : CallFix p m c cX0_master 1 s args wsL_law RX0 := S
  have hl : lv_has ls 1 [(0, .ref (g.1 2))] := hl
  have hx := S.1
  have hb := S.2.1
  have hf := er.symm
  clear er
  unfold f_X0_master at hf
  refine lv_aload_n hx hb dX0_master_0 rfl (lv_at hl 0 rfl) ?_
  refine lv_iconst (v := 0) hx hb dX0_master_1 (by decide) ?_
  obtain ⟨r21, er21, hf⟩ := bd_e hf
  refine ct_V (As := [.int 0]) (rest := []) (st1 := [.int r21.1]) (q0 := 2) (ci := 0) S hA hW (c_X0_addressAt l D g z 0 er21) (wG_V km_X0_66 ki_yX0_addressAt ks_yX0_addressAt kn_X0 kc_yX0_addressAt) ⟨rfl, rfl⟩ hd_X0_addressAt (by rw [hR]; exact ⟨Nat.le_of_ble_eq_true rfl, Nat.le_of_ble_eq_true rfl⟩) rfl rfl rfl rfl hl.1 rfl (Nat.le_of_ble_eq_true rfl) ⟨Nat.zero_le _, Nat.zero_le _⟩ dX0_master_2 rfl (fun H locs hW => ?_)
  refine lv_sipush (v := 128) hx hb dX0_master_5 (by decide) ?_
  refine lv_iand hx hb dX0_master_8 ?_
  refine lv_if_eq (tgt := 16) hx hb dX0_master_9 (by decide) (fun c22 => ?_) (fun c22 => ?_)
  · replace hf := if_t c22 hf
    refine lv_iconst (v := 1) hx hb dX0_master_16 (by decide) ?_
    subst hf
    exact ct_i S hr hlocks hW dX0_master_17
  · replace hf := if_f c22 hf
    refine lv_iconst (v := 0) hx hb dX0_master_12 (by decide) ?_
    refine lv_goto (tgt := 17) hx hb dX0_master_13 (by decide) ?_
    subst hf
    exact ct_i S hr hlocks hW dX0_master_17
def f_X0_station (z : Sg)  : Int32 × Sg := bd (f_X0_addressAt z 0) (fun r21 => (r21.1 &&& 63, r21.2))
theorem hd_X0_station : yX0_station.cls = RX0 ∧ yX0_station.cls ≠ "java/lang/invoke/MethodHandle" ∧ yX0_station.cls ≠ "java/lang/invoke/VarHandle" ∧ (parseMethodDescriptor yX0_station.desc).map (fun d => d.parameters.length) = some 0 := by decide +kernel
set_option maxHeartbeats 4000000 in
set_option maxRecDepth 100000 in
theorem c_X0_station (l : Launch) (D : va_G) (g : Gv) (z : Sg)  {r : Int32 × Sg} (er : r = f_X0_station z ) : CT D (wD g) (tD g) l yX0_station (wG yX0_station cX0_station 1 (some .int)) { frames := 1, cells := 0, slots := 0, locals := 21 } [.ref (g.1 2)] z (some (.int r.1)) r.2 := by
  refine CT.ofW (by decide) (Nat.le_of_ble_eq_true rfl) ?_
  intro p e R s m args below meth c A hR S hr hlocks hA hW ls hl
  have S : CallFix p m c cX0_station 1 s args wsL_law RX0 := S
  have hl : lv_has ls 1 [(0, .ref (g.1 2))] := hl
  have hx := S.1
  have hb := S.2.1
  have hf := er.symm
  clear er
  unfold f_X0_station at hf
  refine lv_aload_n hx hb dX0_station_0 rfl (lv_at hl 0 rfl) ?_
  refine lv_iconst (v := 0) hx hb dX0_station_1 (by decide) ?_
  obtain ⟨r21, er21, hf⟩ := bd_e hf
  refine ct_V (As := [.int 0]) (rest := []) (st1 := [.int r21.1]) (q0 := 2) (ci := 0) S hA hW (c_X0_addressAt l D g z 0 er21) (wG_V km_X0_66 ki_yX0_addressAt ks_yX0_addressAt kn_X0 kc_yX0_addressAt) ⟨rfl, rfl⟩ hd_X0_addressAt (by rw [hR]; exact ⟨Nat.le_of_ble_eq_true rfl, Nat.le_of_ble_eq_true rfl⟩) rfl rfl rfl rfl hl.1 rfl (Nat.le_of_ble_eq_true rfl) ⟨Nat.zero_le _, Nat.zero_le _⟩ dX0_station_2 rfl (fun H locs hW => ?_)
  refine lv_bipush (v := 63) hx hb dX0_station_5 (by decide) ?_
  refine lv_iand hx hb dX0_station_7 ?_
  subst hf
  exact ct_i S hr hlocks hW dX0_station_8
def f_X0_kind (z : Sg)  : Int32 × Sg := bd (f_X0_addressAt z 1) (fun r21 => (r21.1, r21.2))
theorem hd_X0_kind : yX0_kind.cls = RX0 ∧ yX0_kind.cls ≠ "java/lang/invoke/MethodHandle" ∧ yX0_kind.cls ≠ "java/lang/invoke/VarHandle" ∧ (parseMethodDescriptor yX0_kind.desc).map (fun d => d.parameters.length) = some 0 := by decide +kernel
set_option maxHeartbeats 4000000 in
set_option maxRecDepth 100000 in
theorem c_X0_kind (l : Launch) (D : va_G) (g : Gv) (z : Sg)  {r : Int32 × Sg} (er : r = f_X0_kind z ) : CT D (wD g) (tD g) l yX0_kind (wG yX0_kind cX0_kind 1 (some .int)) { frames := 1, cells := 0, slots := 0, locals := 21 } [.ref (g.1 2)] z (some (.int r.1)) r.2 := by
  refine CT.ofW (by decide) (Nat.le_of_ble_eq_true rfl) ?_
  intro p e R s m args below meth c A hR S hr hlocks hA hW ls hl
  have S : CallFix p m c cX0_kind 1 s args wsL_law RX0 := S
  have hl : lv_has ls 1 [(0, .ref (g.1 2))] := hl
  have hx := S.1
  have hb := S.2.1
  have hf := er.symm
  clear er
  unfold f_X0_kind at hf
  refine lv_aload_n hx hb dX0_kind_0 rfl (lv_at hl 0 rfl) ?_
  refine lv_iconst (v := 1) hx hb dX0_kind_1 (by decide) ?_
  obtain ⟨r21, er21, hf⟩ := bd_e hf
  refine ct_V (As := [.int 1]) (rest := []) (st1 := [.int r21.1]) (q0 := 2) (ci := 0) S hA hW (c_X0_addressAt l D g z 1 er21) (wG_V km_X0_66 ki_yX0_addressAt ks_yX0_addressAt kn_X0 kc_yX0_addressAt) ⟨rfl, rfl⟩ hd_X0_addressAt (by rw [hR]; exact ⟨Nat.le_of_ble_eq_true rfl, Nat.le_of_ble_eq_true rfl⟩) rfl rfl rfl rfl hl.1 rfl (Nat.le_of_ble_eq_true rfl) ⟨Nat.zero_le _, Nat.zero_le _⟩ dX0_kind_2 rfl (fun H locs hW => ?_)
  subst hf
  exact ct_i S hr hlocks hW dX0_kind_5
def f_X0_number (z : Sg)  : Int32 × Sg := bd (f_X0_addressAt z 2) (fun r21 => bd (f_X0_addressAt r21.2 3) (fun r22 => bd (f_X0_addressAt r22.2 4) (fun r23 => (((r21.1 <<< (16 &&& 31)) ||| (r22.1 <<< (8 &&& 31))) ||| r23.1, r23.2))))
theorem hd_X0_number : yX0_number.cls = RX0 ∧ yX0_number.cls ≠ "java/lang/invoke/MethodHandle" ∧ yX0_number.cls ≠ "java/lang/invoke/VarHandle" ∧ (parseMethodDescriptor yX0_number.desc).map (fun d => d.parameters.length) = some 0 := by decide +kernel
set_option maxHeartbeats 4000000 in
set_option maxRecDepth 100000 in
theorem c_X0_number (l : Launch) (D : va_G) (g : Gv) (z : Sg)  {r : Int32 × Sg} (er : r = f_X0_number z ) : CT D (wD g) (tD g) l yX0_number (wG yX0_number cX0_number 1 (some .int)) { frames := 1, cells := 0, slots := 0, locals := 21 } [.ref (g.1 2)] z (some (.int r.1)) r.2 := by
  refine CT.ofW (by decide) (Nat.le_of_ble_eq_true rfl) ?_
  intro p e R s m args below meth c A hR S hr hlocks hA hW ls hl
  have S : CallFix p m c cX0_number 1 s args wsL_law RX0 := S
  have hl : lv_has ls 1 [(0, .ref (g.1 2))] := hl
  have hx := S.1
  have hb := S.2.1
  have hf := er.symm
  clear er
  unfold f_X0_number at hf
  refine lv_aload_n hx hb dX0_number_0 rfl (lv_at hl 0 rfl) ?_
  refine lv_iconst (v := 2) hx hb dX0_number_1 (by decide) ?_
  obtain ⟨r21, er21, hf⟩ := bd_e hf
  refine ct_V (As := [.int 2]) (rest := []) (st1 := [.int r21.1]) (q0 := 2) (ci := 0) S hA hW (c_X0_addressAt l D g z 2 er21) (wG_V km_X0_66 ki_yX0_addressAt ks_yX0_addressAt kn_X0 kc_yX0_addressAt) ⟨rfl, rfl⟩ hd_X0_addressAt (by rw [hR]; exact ⟨Nat.le_of_ble_eq_true rfl, Nat.le_of_ble_eq_true rfl⟩) rfl rfl rfl rfl hl.1 rfl (Nat.le_of_ble_eq_true rfl) ⟨Nat.zero_le _, Nat.zero_le _⟩ dX0_number_2 rfl (fun H locs hW => ?_)
  refine lv_bipush (v := 16) hx hb dX0_number_5 (by decide) ?_
  refine lv_ishl hx hb dX0_number_7 ?_
  refine lv_aload_n hx hb dX0_number_8 rfl (lv_at hl 0 rfl) ?_
  refine lv_iconst (v := 3) hx hb dX0_number_9 (by decide) ?_
  obtain ⟨r22, er22, hf⟩ := bd_e hf
  refine ct_V (As := [.int 3]) (rest := [.int (r21.1 <<< (16 &&& 31))]) (st1 := [.int r22.1, .int (r21.1 <<< (16 &&& 31))]) (q0 := 2) (ci := 0) S hA hW (c_X0_addressAt l D g r21.2 3 er22) (wG_V km_X0_66 ki_yX0_addressAt ks_yX0_addressAt kn_X0 kc_yX0_addressAt) ⟨rfl, rfl⟩ hd_X0_addressAt (by rw [hR]; exact ⟨Nat.le_of_ble_eq_true rfl, Nat.le_of_ble_eq_true rfl⟩) rfl rfl rfl rfl hl.1 rfl (Nat.le_of_ble_eq_true rfl) ⟨Nat.zero_le _, Nat.zero_le _⟩ dX0_number_10 rfl (fun H locs hW => ?_)
  refine lv_bipush (v := 8) hx hb dX0_number_13 (by decide) ?_
  refine lv_ishl hx hb dX0_number_15 ?_
  refine lv_ior hx hb dX0_number_16 ?_
  refine lv_aload_n hx hb dX0_number_17 rfl (lv_at hl 0 rfl) ?_
  refine lv_iconst (v := 4) hx hb dX0_number_18 (by decide) ?_
  obtain ⟨r23, er23, hf⟩ := bd_e hf
  refine ct_V (As := [.int 4]) (rest := [.int ((r21.1 <<< (16 &&& 31)) ||| (r22.1 <<< (8 &&& 31)))]) (st1 := [.int r23.1, .int ((r21.1 <<< (16 &&& 31)) ||| (r22.1 <<< (8 &&& 31)))]) (q0 := 2) (ci := 0) S hA hW (c_X0_addressAt l D g r22.2 4 er23) (wG_V km_X0_66 ki_yX0_addressAt ks_yX0_addressAt kn_X0 kc_yX0_addressAt) ⟨rfl, rfl⟩ hd_X0_addressAt (by rw [hR]; exact ⟨Nat.le_of_ble_eq_true rfl, Nat.le_of_ble_eq_true rfl⟩) rfl rfl rfl rfl hl.1 rfl (Nat.le_of_ble_eq_true rfl) ⟨Nat.zero_le _, Nat.zero_le _⟩ dX0_number_19 rfl (fun H locs hW => ?_)
  refine lv_ior hx hb dX0_number_22 ?_
  subst hf
  exact ct_i S hr hlocks hW dX0_number_23
def f_X0_dataAt (z : Sg) (x1 : Int32) : Int32 × Sg := (if x1 < 0 then (0, z) else (if (gI z 21) ≤ x1 then (0, z) else (if 20 ≤ x1 then (0, z) else (gA z 3 (Int32.toNatClampNeg x1), z))))
theorem hd_X0_dataAt : yX0_dataAt.cls = RX0 ∧ yX0_dataAt.cls ≠ "java/lang/invoke/MethodHandle" ∧ yX0_dataAt.cls ≠ "java/lang/invoke/VarHandle" ∧ (parseMethodDescriptor yX0_dataAt.desc).map (fun d => d.parameters.length) = some 1 := by decide +kernel
set_option maxHeartbeats 4000000 in
set_option maxRecDepth 100000 in
theorem c_X0_dataAt (l : Launch) (D : va_G) (g : Gv) (z : Sg) (x1 : Int32) {r : Int32 × Sg} (er : r = f_X0_dataAt z x1) : CT D (wD g) (tD g) l yX0_dataAt (wG yX0_dataAt cX0_dataAt 2 (some .int)) { frames := 0, cells := 0, slots := 0, locals := 0 } [.ref (g.1 2), .int x1] z (some (.int r.1)) r.2 := by
  refine CT.ofW (by decide) (Nat.le_of_ble_eq_true rfl) ?_
  intro p e R s m args below meth c A hR S hr hlocks hA hW ls hl
  have S : CallFix p m c cX0_dataAt 2 s args wsL_law RX0 := S
  have hl : lv_has ls 2 [(0, .ref (g.1 2)), (1, .int x1)] := hl
  have hx := S.1
  have hb := S.2.1
  have hf := er.symm
  clear er
  unfold f_X0_dataAt at hf
  refine lv_iload_n hx hb dX0_dataAt_0 rfl (lv_at hl 1 rfl) ?_
  refine lv_if_lt (tgt := 30) hx hb dX0_dataAt_1 (by decide) (fun c21 => ?_) (fun c21 => ?_)
  · replace hf := if_t c21 hf
    refine lv_iconst (v := 0) hx hb dX0_dataAt_30 (by decide) ?_
    subst hf
    exact ct_i S hr hlocks hW dX0_dataAt_31
  · replace hf := if_f c21 hf
    refine lv_iload_n hx hb dX0_dataAt_4 rfl (lv_at hl 1 rfl) ?_
    refine lv_aload_n hx hb dX0_dataAt_5 rfl (lv_at hl 0 rfl) ?_
    refine gX0_count S hW kf_X0_63 dX0_dataAt_6 ?_
    refine lv_icmp_ge (tgt := 30) hx hb dX0_dataAt_9 (by decide) (fun c22 => ?_) (fun c22 => ?_)
    · replace hf := if_t c22 hf
      refine lv_iconst (v := 0) hx hb dX0_dataAt_30 (by decide) ?_
      subst hf
      exact ct_i S hr hlocks hW dX0_dataAt_31
    · replace hf := if_f c22 hf
      refine lv_iload_n hx hb dX0_dataAt_12 rfl (lv_at hl 1 rfl) ?_
      refine lv_aload_n hx hb dX0_dataAt_13 rfl (lv_at hl 0 rfl) ?_
      refine gX0_data S hW kf_X0_15 dX0_dataAt_14 ?_
      refine nD3 S hW dX0_dataAt_17 ?_
      refine lv_icmp_ge (tgt := 30) hx hb dX0_dataAt_18 (by decide) (fun c23 => ?_) (fun c23 => ?_)
      · replace hf := if_t c23 hf
        refine lv_iconst (v := 0) hx hb dX0_dataAt_30 (by decide) ?_
        subst hf
        exact ct_i S hr hlocks hW dX0_dataAt_31
      · replace hf := if_f c23 hf
        refine lv_aload_n hx hb dX0_dataAt_21 rfl (lv_at hl 0 rfl) ?_
        refine gX0_data S hW kf_X0_15 dX0_dataAt_22 ?_
        refine lv_iload_n hx hb dX0_dataAt_25 rfl (lv_at hl 1 rfl) ?_
        refine aD3 S hW (vi_of2 (M := 20) (by decide) c21 c23) dX0_dataAt_26 ?_
        refine lv_goto (tgt := 31) hx hb dX0_dataAt_27 (by decide) ?_
        subst hf
        exact ct_i S hr hlocks hW dX0_dataAt_31
def f_X0_fourAt (z : Sg) (x1 : Int32) : Int32 × Sg := bd (f_X0_dataAt z x1) (fun r21 => bd (f_X0_dataAt r21.2 (x1 + 1)) (fun r22 => bd (f_X0_dataAt r22.2 (x1 + 2)) (fun r23 => bd (f_X0_dataAt r23.2 (x1 + 3)) (fun r24 => ((((r21.1 <<< (24 &&& 31)) ||| (r22.1 <<< (16 &&& 31))) ||| (r23.1 <<< (8 &&& 31))) ||| r24.1, r24.2)))))
theorem hd_X0_fourAt : yX0_fourAt.cls = RX0 ∧ yX0_fourAt.cls ≠ "java/lang/invoke/MethodHandle" ∧ yX0_fourAt.cls ≠ "java/lang/invoke/VarHandle" ∧ (parseMethodDescriptor yX0_fourAt.desc).map (fun d => d.parameters.length) = some 1 := by decide +kernel
set_option maxHeartbeats 4000000 in
set_option maxRecDepth 100000 in
theorem c_X0_fourAt (l : Launch) (D : va_G) (g : Gv) (z : Sg) (x1 : Int32) {r : Int32 × Sg} (er : r = f_X0_fourAt z x1) : CT D (wD g) (tD g) l yX0_fourAt (wG yX0_fourAt cX0_fourAt 2 (some .int)) { frames := 1, cells := 0, slots := 0, locals := 21 } [.ref (g.1 2), .int x1] z (some (.int r.1)) r.2 := by
  refine CT.ofW (by decide) (Nat.le_of_ble_eq_true rfl) ?_
  intro p e R s m args below meth c A hR S hr hlocks hA hW ls hl
  have S : CallFix p m c cX0_fourAt 2 s args wsL_law RX0 := S
  have hl : lv_has ls 2 [(0, .ref (g.1 2)), (1, .int x1)] := hl
  have hx := S.1
  have hb := S.2.1
  have hf := er.symm
  clear er
  unfold f_X0_fourAt at hf
  refine lv_aload_n hx hb dX0_fourAt_0 rfl (lv_at hl 0 rfl) ?_
  refine lv_iload_n hx hb dX0_fourAt_1 rfl (lv_at hl 1 rfl) ?_
  obtain ⟨r21, er21, hf⟩ := bd_e hf
  refine ct_V (As := [.int x1]) (rest := []) (st1 := [.int r21.1]) (q0 := 2) (ci := 0) S hA hW (c_X0_dataAt l D g z x1 er21) (wG_V km_X0_70 ki_yX0_dataAt ks_yX0_dataAt kn_X0 kc_yX0_dataAt) ⟨rfl, rfl⟩ hd_X0_dataAt (by rw [hR]; exact ⟨Nat.le_of_ble_eq_true rfl, Nat.le_of_ble_eq_true rfl⟩) rfl rfl rfl rfl hl.1 rfl (Nat.le_of_ble_eq_true rfl) ⟨Nat.zero_le _, Nat.zero_le _⟩ dX0_fourAt_2 rfl (fun H locs hW => ?_)
  refine lv_bipush (v := 24) hx hb dX0_fourAt_5 (by decide) ?_
  refine lv_ishl hx hb dX0_fourAt_7 ?_
  refine lv_aload_n hx hb dX0_fourAt_8 rfl (lv_at hl 0 rfl) ?_
  refine lv_iload_n hx hb dX0_fourAt_9 rfl (lv_at hl 1 rfl) ?_
  refine lv_iconst (v := 1) hx hb dX0_fourAt_10 (by decide) ?_
  refine lv_iadd hx hb dX0_fourAt_11 ?_
  obtain ⟨r22, er22, hf⟩ := bd_e hf
  refine ct_V (As := [.int (x1 + 1)]) (rest := [.int (r21.1 <<< (24 &&& 31))]) (st1 := [.int r22.1, .int (r21.1 <<< (24 &&& 31))]) (q0 := 2) (ci := 0) S hA hW (c_X0_dataAt l D g r21.2 (x1 + 1) er22) (wG_V km_X0_70 ki_yX0_dataAt ks_yX0_dataAt kn_X0 kc_yX0_dataAt) ⟨rfl, rfl⟩ hd_X0_dataAt (by rw [hR]; exact ⟨Nat.le_of_ble_eq_true rfl, Nat.le_of_ble_eq_true rfl⟩) rfl rfl rfl rfl hl.1 rfl (Nat.le_of_ble_eq_true rfl) ⟨Nat.zero_le _, Nat.zero_le _⟩ dX0_fourAt_12 rfl (fun H locs hW => ?_)
  refine lv_bipush (v := 16) hx hb dX0_fourAt_15 (by decide) ?_
  refine lv_ishl hx hb dX0_fourAt_17 ?_
  refine lv_ior hx hb dX0_fourAt_18 ?_
  refine lv_aload_n hx hb dX0_fourAt_19 rfl (lv_at hl 0 rfl) ?_
  refine lv_iload_n hx hb dX0_fourAt_20 rfl (lv_at hl 1 rfl) ?_
  refine lv_iconst (v := 2) hx hb dX0_fourAt_21 (by decide) ?_
  refine lv_iadd hx hb dX0_fourAt_22 ?_
  obtain ⟨r23, er23, hf⟩ := bd_e hf
  refine ct_V (As := [.int (x1 + 2)]) (rest := [.int ((r21.1 <<< (24 &&& 31)) ||| (r22.1 <<< (16 &&& 31)))]) (st1 := [.int r23.1, .int ((r21.1 <<< (24 &&& 31)) ||| (r22.1 <<< (16 &&& 31)))]) (q0 := 2) (ci := 0) S hA hW (c_X0_dataAt l D g r22.2 (x1 + 2) er23) (wG_V km_X0_70 ki_yX0_dataAt ks_yX0_dataAt kn_X0 kc_yX0_dataAt) ⟨rfl, rfl⟩ hd_X0_dataAt (by rw [hR]; exact ⟨Nat.le_of_ble_eq_true rfl, Nat.le_of_ble_eq_true rfl⟩) rfl rfl rfl rfl hl.1 rfl (Nat.le_of_ble_eq_true rfl) ⟨Nat.zero_le _, Nat.zero_le _⟩ dX0_fourAt_23 rfl (fun H locs hW => ?_)
  refine lv_bipush (v := 8) hx hb dX0_fourAt_26 (by decide) ?_
  refine lv_ishl hx hb dX0_fourAt_28 ?_
  refine lv_ior hx hb dX0_fourAt_29 ?_
  refine lv_aload_n hx hb dX0_fourAt_30 rfl (lv_at hl 0 rfl) ?_
  refine lv_iload_n hx hb dX0_fourAt_31 rfl (lv_at hl 1 rfl) ?_
  refine lv_iconst (v := 3) hx hb dX0_fourAt_32 (by decide) ?_
  refine lv_iadd hx hb dX0_fourAt_33 ?_
  obtain ⟨r24, er24, hf⟩ := bd_e hf
  refine ct_V (As := [.int (x1 + 3)]) (rest := [.int (((r21.1 <<< (24 &&& 31)) ||| (r22.1 <<< (16 &&& 31))) ||| (r23.1 <<< (8 &&& 31)))]) (st1 := [.int r24.1, .int (((r21.1 <<< (24 &&& 31)) ||| (r22.1 <<< (16 &&& 31))) ||| (r23.1 <<< (8 &&& 31)))]) (q0 := 2) (ci := 0) S hA hW (c_X0_dataAt l D g r23.2 (x1 + 3) er24) (wG_V km_X0_70 ki_yX0_dataAt ks_yX0_dataAt kn_X0 kc_yX0_dataAt) ⟨rfl, rfl⟩ hd_X0_dataAt (by rw [hR]; exact ⟨Nat.le_of_ble_eq_true rfl, Nat.le_of_ble_eq_true rfl⟩) rfl rfl rfl rfl hl.1 rfl (Nat.le_of_ble_eq_true rfl) ⟨Nat.zero_le _, Nat.zero_le _⟩ dX0_fourAt_34 rfl (fun H locs hW => ?_)
  refine lv_ior hx hb dX0_fourAt_37 ?_
  subst hf
  exact ct_i S hr hlocks hW dX0_fourAt_38
