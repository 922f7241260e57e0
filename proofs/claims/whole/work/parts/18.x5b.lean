def f_X5_put (z : Sg) (x1 : Int32) : Sg := bd (pA z 6 (Int32.toNatClampNeg (gI z 11)) (x1 &&& 255)) (fun z22 => bd (pI z22 11 ((gI z22 11) + 1)) (fun z23 => z23))
def s_X5_put (z : Sg) (x1 : Int32) : Prop := (vp_in (gI z 11) 64) ∧ True
theorem hd_X5_put : yX5_put.cls = RX5 ∧ yX5_put.cls ≠ "java/lang/invoke/MethodHandle" ∧ yX5_put.cls ≠ "java/lang/invoke/VarHandle" ∧ (parseMethodDescriptor yX5_put.desc).map (fun d => d.parameters.length) = some 1 := by decide +kernel
set_option maxHeartbeats 4000000 in
set_option maxRecDepth 100000 in
theorem c_X5_put (l : Launch) (D : va_G) (g : Gv) (z : Sg) (x1 : Int32) {r : Sg} (er : r = f_X5_put z x1) (hs : s_X5_put z x1) : CT D (wM g) (tM g) l yX5_put (wG yX5_put cX5_put 2 none) { frames := 0, cells := 0, slots := 0, locals := 0 } [.ref (g.1 0), .int x1] z none r := by
  refine CT.ofW (by decide) (Nat.le_of_ble_eq_true rfl) ?_
  intro p e R s m args below meth c A hR S hr hlocks hA hW ls hl
  have S : CallFix p m c cX5_put 2 s args wsL_law RX5 := S
  have hl : lv_has ls 2 [(0, .ref (g.1 0)), (1, .int x1)] := hl
  have hx := S.1
  have hb := S.2.1
  have hf := er.symm
  clear er
  unfold f_X5_put at hf
  unfold s_X5_put at hs
  refine lv_aload_n hx hb dX5_put_0 rfl (lv_at hl 0 rfl) ?_
  refine gX5_out S hW kf_X5_36 dX5_put_1 ?_
  refine lv_aload_n hx hb dX5_put_4 rfl (lv_at hl 0 rfl) ?_
  refine gX5_outSize S hW kf_X5_109 dX5_put_5 ?_
  refine lv_iload_n hx hb dX5_put_8 rfl (lv_at hl 1 rfl) ?_
  refine lv_sipush (v := 255) hx hb dX5_put_9 (by decide) ?_
  refine lv_iand hx hb dX5_put_12 ?_
  obtain ⟨q21, hs⟩ := hs
  obtain ⟨z22, ez22, hf⟩ := bd_e hf
  refine sM6 S hW q21 dX5_put_13 ez22 (fun H locs hW => ?_)
  refine lv_aload_n hx hb dX5_put_14 rfl (lv_at hl 0 rfl) ?_
  refine lv_dup hx hb dX5_put_15 rfl ?_
  refine gX5_outSize S hW kf_X5_109 dX5_put_16 ?_
  refine lv_iconst (v := 1) hx hb dX5_put_19 (by decide) ?_
  refine lv_iadd hx hb dX5_put_20 ?_
  obtain ⟨z23, ez23, hf⟩ := bd_e hf
  refine pX5_outSize S hW kf_X5_109 dX5_put_21 ez23 (fun H locs hW => ?_)
  subst hf
  exact ct_v S hr hlocks hW dX5_put_24
def f_X5_putWord (z : Sg) (x1 : Int32) : Sg := bd (f_X5_put z (x1 >>> (24 &&& 31))) (fun z22 => bd (f_X5_put z22 (x1 >>> (16 &&& 31))) (fun z24 => bd (f_X5_put z24 (x1 >>> (8 &&& 31))) (fun z26 => bd (f_X5_put z26 x1) (fun z28 => z28))))
def s_X5_putWord (z : Sg) (x1 : Int32) : Prop := (s_X5_put z (x1 >>> (24 &&& 31))) ∧ bd (f_X5_put z (x1 >>> (24 &&& 31))) (fun z22 => (s_X5_put z22 (x1 >>> (16 &&& 31))) ∧ bd (f_X5_put z22 (x1 >>> (16 &&& 31))) (fun z24 => (s_X5_put z24 (x1 >>> (8 &&& 31))) ∧ bd (f_X5_put z24 (x1 >>> (8 &&& 31))) (fun z26 => (s_X5_put z26 x1) ∧ True)))
theorem hd_X5_putWord : yX5_putWord.cls = RX5 ∧ yX5_putWord.cls ≠ "java/lang/invoke/MethodHandle" ∧ yX5_putWord.cls ≠ "java/lang/invoke/VarHandle" ∧ (parseMethodDescriptor yX5_putWord.desc).map (fun d => d.parameters.length) = some 1 := by decide +kernel
set_option maxHeartbeats 4000000 in
set_option maxRecDepth 100000 in
theorem c_X5_putWord (l : Launch) (D : va_G) (g : Gv) (z : Sg) (x1 : Int32) {r : Sg} (er : r = f_X5_putWord z x1) (hs : s_X5_putWord z x1) : CT D (wM g) (tM g) l yX5_putWord (wG yX5_putWord cX5_putWord 2 none) { frames := 1, cells := 0, slots := 0, locals := 21 } [.ref (g.1 0), .int x1] z none r := by
  refine CT.ofW (by decide) (Nat.le_of_ble_eq_true rfl) ?_
  intro p e R s m args below meth c A hR S hr hlocks hA hW ls hl
  have S : CallFix p m c cX5_putWord 2 s args wsL_law RX5 := S
  have hl : lv_has ls 2 [(0, .ref (g.1 0)), (1, .int x1)] := hl
  have hx := S.1
  have hb := S.2.1
  have hf := er.symm
  clear er
  unfold f_X5_putWord at hf
  unfold s_X5_putWord at hs
  refine lv_aload_n hx hb dX5_putWord_0 rfl (lv_at hl 0 rfl) ?_
  refine lv_iload_n hx hb dX5_putWord_1 rfl (lv_at hl 1 rfl) ?_
  refine lv_bipush (v := 24) hx hb dX5_putWord_2 (by decide) ?_
  refine lv_ishr hx hb dX5_putWord_4 ?_
  obtain ⟨q21, hs⟩ := hs
  obtain ⟨z22, ez22, hf⟩ := bd_e hf
  replace hs := bd_s ez22 hs
  refine ct_V (As := [.int (x1 >>> (24 &&& 31))]) (rest := []) (st1 := []) (q0 := 0) (ci := 5) S hA hW (c_X5_put l D g z (x1 >>> (24 &&& 31)) ez22 q21) (wG_V km_X5_112 ki_yX5_put ks_yX5_put kn_X5 kc_yX5_put) ⟨rfl, rfl⟩ hd_X5_put (by rw [hR]; exact ⟨Nat.le_of_ble_eq_true rfl, Nat.le_of_ble_eq_true rfl⟩) rfl rfl rfl rfl hl.1 rfl (Nat.le_of_ble_eq_true rfl) ⟨Nat.zero_le _, Nat.zero_le _⟩ dX5_putWord_5 rfl (fun H locs hW => ?_)
  refine lv_aload_n hx hb dX5_putWord_8 rfl (lv_at hl 0 rfl) ?_
  refine lv_iload_n hx hb dX5_putWord_9 rfl (lv_at hl 1 rfl) ?_
  refine lv_bipush (v := 16) hx hb dX5_putWord_10 (by decide) ?_
  refine lv_ishr hx hb dX5_putWord_12 ?_
  obtain ⟨q23, hs⟩ := hs
  obtain ⟨z24, ez24, hf⟩ := bd_e hf
  replace hs := bd_s ez24 hs
  refine ct_V (As := [.int (x1 >>> (16 &&& 31))]) (rest := []) (st1 := []) (q0 := 0) (ci := 5) S hA hW (c_X5_put l D g z22 (x1 >>> (16 &&& 31)) ez24 q23) (wG_V km_X5_112 ki_yX5_put ks_yX5_put kn_X5 kc_yX5_put) ⟨rfl, rfl⟩ hd_X5_put (by rw [hR]; exact ⟨Nat.le_of_ble_eq_true rfl, Nat.le_of_ble_eq_true rfl⟩) rfl rfl rfl rfl hl.1 rfl (Nat.le_of_ble_eq_true rfl) ⟨Nat.zero_le _, Nat.zero_le _⟩ dX5_putWord_13 rfl (fun H locs hW => ?_)
  refine lv_aload_n hx hb dX5_putWord_16 rfl (lv_at hl 0 rfl) ?_
  refine lv_iload_n hx hb dX5_putWord_17 rfl (lv_at hl 1 rfl) ?_
  refine lv_bipush (v := 8) hx hb dX5_putWord_18 (by decide) ?_
  refine lv_ishr hx hb dX5_putWord_20 ?_
  obtain ⟨q25, hs⟩ := hs
  obtain ⟨z26, ez26, hf⟩ := bd_e hf
  replace hs := bd_s ez26 hs
  refine ct_V (As := [.int (x1 >>> (8 &&& 31))]) (rest := []) (st1 := []) (q0 := 0) (ci := 5) S hA hW (c_X5_put l D g z24 (x1 >>> (8 &&& 31)) ez26 q25) (wG_V km_X5_112 ki_yX5_put ks_yX5_put kn_X5 kc_yX5_put) ⟨rfl, rfl⟩ hd_X5_put (by rw [hR]; exact ⟨Nat.le_of_ble_eq_true rfl, Nat.le_of_ble_eq_true rfl⟩) rfl rfl rfl rfl hl.1 rfl (Nat.le_of_ble_eq_true rfl) ⟨Nat.zero_le _, Nat.zero_le _⟩ dX5_putWord_21 rfl (fun H locs hW => ?_)
  refine lv_aload_n hx hb dX5_putWord_24 rfl (lv_at hl 0 rfl) ?_
  refine lv_iload_n hx hb dX5_putWord_25 rfl (lv_at hl 1 rfl) ?_
  obtain ⟨q27, hs⟩ := hs
  obtain ⟨z28, ez28, hf⟩ := bd_e hf
  refine ct_V (As := [.int x1]) (rest := []) (st1 := []) (q0 := 0) (ci := 5) S hA hW (c_X5_put l D g z26 x1 ez28 q27) (wG_V km_X5_112 ki_yX5_put ks_yX5_put kn_X5 kc_yX5_put) ⟨rfl, rfl⟩ hd_X5_put (by rw [hR]; exact ⟨Nat.le_of_ble_eq_true rfl, Nat.le_of_ble_eq_true rfl⟩) rfl rfl rfl rfl hl.1 rfl (Nat.le_of_ble_eq_true rfl) ⟨Nat.zero_le _, Nat.zero_le _⟩ dX5_putWord_26 rfl (fun H locs hW => ?_)
  subst hf
  exact ct_v S hr hlocks hW dX5_putWord_29
def f_X5_putLevel (z : Sg)  : Sg := bd ((Int32.toInt64 (gA z 2 (Int32.toNatClampNeg 0))) - (Int32.toInt64 (gI z 3))) (fun x21 => bd (((x21 * (16000 : Int64)) / ((Int32.toInt64 (gI z 4)) - (Int32.toInt64 (gI z 3)))) + (4000 : Int64)) (fun x23 => (if 0 ≤ (lg_cmp x23 (3800 : Int64)) then (if (lg_cmp x23 (20500 : Int64)) ≤ 0 then bd (f_X5_putWord z (Int64.toInt32 x23)) (fun z27 => z27) else bd (f_X5_putWord z 20500) (fun z29 => z29)) else bd (f_X5_putWord z 3800) (fun z31 => z31))))
def s_X5_putLevel (z : Sg)  : Prop := bd ((Int32.toInt64 (gA z 2 (Int32.toNatClampNeg 0))) - (Int32.toInt64 (gI z 3))) (fun x21 => (¬ ((Int32.toInt64 (gI z 4)) - (Int32.toInt64 (gI z 3))) = 0) ∧ bd (((x21 * (16000 : Int64)) / ((Int32.toInt64 (gI z 4)) - (Int32.toInt64 (gI z 3)))) + (4000 : Int64)) (fun x23 => (0 ≤ (lg_cmp x23 (3800 : Int64)) → ((lg_cmp x23 (20500 : Int64)) ≤ 0 → (s_X5_putWord z (Int64.toInt32 x23)) ∧ True) ∧ (¬ (lg_cmp x23 (20500 : Int64)) ≤ 0 → (s_X5_putWord z 20500) ∧ True)) ∧ (¬ 0 ≤ (lg_cmp x23 (3800 : Int64)) → (s_X5_putWord z 3800) ∧ True)))
theorem hd_X5_putLevel : yX5_putLevel.cls = RX5 ∧ yX5_putLevel.cls ≠ "java/lang/invoke/MethodHandle" ∧ yX5_putLevel.cls ≠ "java/lang/invoke/VarHandle" ∧ (parseMethodDescriptor yX5_putLevel.desc).map (fun d => d.parameters.length) = some 0 := by decide +kernel
set_option maxHeartbeats 4000000 in
set_option maxRecDepth 100000 in
theorem c_X5_putLevel (l : Launch) (D : va_G) (g : Gv) (z : Sg)  {r : Sg} (er : r = f_X5_putLevel z ) (hs : s_X5_putLevel z ) : CT D (wM g) (tM g) l yX5_putLevel (wG yX5_putLevel cX5_putLevel 5 none) { frames := 2, cells := 0, slots := 0, locals := 42 } [.ref (g.1 0)] z none r := by
  refine CT.ofW (by decide) (Nat.le_of_ble_eq_true rfl) ?_
  intro p e R s m args below meth c A hR S hr hlocks hA hW ls hl
  have S : CallFix p m c cX5_putLevel 5 s args wsL_law RX5 := S
  have hl : lv_has ls 5 [(0, .ref (g.1 0))] := hl
  have hx := S.1
  have hb := S.2.1
  have hf := er.symm
  clear er
  unfold f_X5_putLevel at hf
  unfold s_X5_putLevel at hs
  refine lv_aload_n hx hb dX5_putLevel_0 rfl (lv_at hl 0 rfl) ?_
  refine gX5_variables S hW kf_X5_16 dX5_putLevel_1 ?_
  refine lv_iconst (v := 0) hx hb dX5_putLevel_4 (by decide) ?_
  refine aM2 S hW (vi_of (M := 4) (by decide) (by decide) (by decide)) dX5_putLevel_5 ?_
  refine lv_i2l hx hb dX5_putLevel_6 rfl ?_
  refine lv_aload_n hx hb dX5_putLevel_7 rfl (lv_at hl 0 rfl) ?_
  refine gX5_lower S hW kf_X5_102 dX5_putLevel_8 ?_
  refine lv_i2l hx hb dX5_putLevel_11 rfl ?_
  refine lv_lsub hx hb dX5_putLevel_12 ?_
  obtain ⟨x21, ex21, hf⟩ := bd_e hf
  replace hs := bd_s ex21 hs
  refine lv_nml ex21 ?_
  refine lv_lstore_n (lv' := [(1, .long x21), (0, .ref (g.1 0))]) hx hb dX5_putLevel_13 rfl hl (by decide) rfl (fun ls hl => ?_)
  refine lv_lload_n hx hb dX5_putLevel_14 rfl (lv_at hl 0 rfl) ?_
  refine lv_ldc2 (v := 16000) hx hb S.2.2.2.1 (S.2.2.2.2 _ kl_X5_116) dX5_putLevel_15 ?_
  refine lv_lmul hx hb dX5_putLevel_18 ?_
  refine lv_aload_n hx hb dX5_putLevel_19 rfl (lv_at hl 1 rfl) ?_
  refine gX5_upper S hW kf_X5_19 dX5_putLevel_20 ?_
  refine lv_i2l hx hb dX5_putLevel_23 rfl ?_
  refine lv_aload_n hx hb dX5_putLevel_24 rfl (lv_at hl 1 rfl) ?_
  refine gX5_lower S hW kf_X5_102 dX5_putLevel_25 ?_
  refine lv_i2l hx hb dX5_putLevel_28 rfl ?_
  refine lv_lsub hx hb dX5_putLevel_29 ?_
  obtain ⟨q22, hs⟩ := hs
  refine lv_ldiv hx hb dX5_putLevel_30 q22 ?_
  refine lv_ldc2 (v := 4000) hx hb S.2.2.2.1 (S.2.2.2.2 _ kl_X5_118) dX5_putLevel_31 ?_
  refine lv_ladd hx hb dX5_putLevel_34 ?_
  obtain ⟨x23, ex23, hf⟩ := bd_e hf
  replace hs := bd_s ex23 hs
  refine lv_nml ex23 ?_
  refine lv_lstore_n (lv' := [(3, .long x23), (1, .long x21), (0, .ref (g.1 0))]) hx hb dX5_putLevel_35 rfl hl (by decide) rfl (fun ls hl => ?_)
  refine lv_aload_n hx hb dX5_putLevel_36 rfl (lv_at hl 2 rfl) ?_
  refine lv_lload_n hx hb dX5_putLevel_37 rfl (lv_at hl 0 rfl) ?_
  refine lv_ldc2 (v := 3800) hx hb S.2.2.2.1 (S.2.2.2.2 _ kl_X5_120) dX5_putLevel_38 ?_
  refine W.lcmp hx hb dX5_putLevel_41 ?_
  refine lv_if_ge (tgt := 51) hx hb dX5_putLevel_42 (by decide) (fun c24 => ?_) (fun c24 => ?_)
  · replace hf := if_t c24 hf
    replace hs := hs.1 c24
    refine lv_lload_n hx hb dX5_putLevel_51 rfl (lv_at hl 0 rfl) ?_
    refine lv_ldc2 (v := 20500) hx hb S.2.2.2.1 (S.2.2.2.2 _ kl_X5_122) dX5_putLevel_52 ?_
    refine W.lcmp hx hb dX5_putLevel_55 ?_
    refine lv_if_le (tgt := 65) hx hb dX5_putLevel_56 (by decide) (fun c25 => ?_) (fun c25 => ?_)
    · replace hf := if_t c25 hf
      replace hs := hs.1 c25
      refine lv_lload_n hx hb dX5_putLevel_65 rfl (lv_at hl 0 rfl) ?_
      refine lv_l2i hx hb dX5_putLevel_66 rfl ?_
      obtain ⟨q26, hs⟩ := hs
      obtain ⟨z27, ez27, hf⟩ := bd_e hf
      refine ct_V (As := [.int (Int64.toInt32 x23)]) (rest := []) (st1 := []) (q0 := 0) (ci := 5) S hA hW (c_X5_putWord l D g z (Int64.toInt32 x23) ez27 q26) (wG_V km_X5_124 ki_yX5_putWord ks_yX5_putWord kn_X5 kc_yX5_putWord) ⟨rfl, rfl⟩ hd_X5_putWord (by rw [hR]; exact ⟨Nat.le_of_ble_eq_true rfl, Nat.le_of_ble_eq_true rfl⟩) rfl rfl rfl rfl hl.1 rfl (Nat.le_of_ble_eq_true rfl) ⟨Nat.zero_le _, Nat.zero_le _⟩ dX5_putLevel_67 rfl (fun H locs hW => ?_)
      subst hf
      exact ct_v S hr hlocks hW dX5_putLevel_70
    · replace hf := if_f c25 hf
      replace hs := hs.2 c25
      refine lv_sipush (v := 20500) hx hb dX5_putLevel_59 (by decide) ?_
      refine lv_goto (tgt := 67) hx hb dX5_putLevel_62 (by decide) ?_
      obtain ⟨q28, hs⟩ := hs
      obtain ⟨z29, ez29, hf⟩ := bd_e hf
      refine ct_V (As := [.int 20500]) (rest := []) (st1 := []) (q0 := 0) (ci := 5) S hA hW (c_X5_putWord l D g z 20500 ez29 q28) (wG_V km_X5_124 ki_yX5_putWord ks_yX5_putWord kn_X5 kc_yX5_putWord) ⟨rfl, rfl⟩ hd_X5_putWord (by rw [hR]; exact ⟨Nat.le_of_ble_eq_true rfl, Nat.le_of_ble_eq_true rfl⟩) rfl rfl rfl rfl hl.1 rfl (Nat.le_of_ble_eq_true rfl) ⟨Nat.zero_le _, Nat.zero_le _⟩ dX5_putLevel_67 rfl (fun H locs hW => ?_)
      subst hf
      exact ct_v S hr hlocks hW dX5_putLevel_70
  · replace hf := if_f c24 hf
    replace hs := hs.2 c24
    refine lv_sipush (v := 3800) hx hb dX5_putLevel_45 (by decide) ?_
    refine lv_goto (tgt := 67) hx hb dX5_putLevel_48 (by decide) ?_
    obtain ⟨q30, hs⟩ := hs
    obtain ⟨z31, ez31, hf⟩ := bd_e hf
    refine ct_V (As := [.int 3800]) (rest := []) (st1 := []) (q0 := 0) (ci := 5) S hA hW (c_X5_putWord l D g z 3800 ez31 q30) (wG_V km_X5_124 ki_yX5_putWord ks_yX5_putWord kn_X5 kc_yX5_putWord) ⟨rfl, rfl⟩ hd_X5_putWord (by rw [hR]; exact ⟨Nat.le_of_ble_eq_true rfl, Nat.le_of_ble_eq_true rfl⟩) rfl rfl rfl rfl hl.1 rfl (Nat.le_of_ble_eq_true rfl) ⟨Nat.zero_le _, Nat.zero_le _⟩ dX5_putLevel_67 rfl (fun H locs hW => ?_)
    subst hf
    exact ct_v S hr hlocks hW dX5_putLevel_70
def f_X5_putData_10 (z : Sg)  : Sg := bd (f_X5_put z 254) (fun z59 => bd (f_X5_put z59 (gA z59 0 (Int32.toNatClampNeg 0))) (fun z61 => bd (f_X5_put z61 (gA z61 0 (Int32.toNatClampNeg 1))) (fun z63 => bd (f_X5_put z63 5) (fun z65 => bd (f_X5_put z65 (gA z65 0 (Int32.toNatClampNeg 2))) (fun z67 => bd (f_X5_put z67 (gA z67 0 (Int32.toNatClampNeg 3))) (fun z69 => bd (f_X5_put z69 (gA z69 0 (Int32.toNatClampNeg 4))) (fun z71 => z71)))))))
def s_X5_putData_10 (z : Sg)  : Prop := (s_X5_put z 254) ∧ bd (f_X5_put z 254) (fun z59 => (s_X5_put z59 (gA z59 0 (Int32.toNatClampNeg 0))) ∧ bd (f_X5_put z59 (gA z59 0 (Int32.toNatClampNeg 0))) (fun z61 => (s_X5_put z61 (gA z61 0 (Int32.toNatClampNeg 1))) ∧ bd (f_X5_put z61 (gA z61 0 (Int32.toNatClampNeg 1))) (fun z63 => (s_X5_put z63 5) ∧ bd (f_X5_put z63 5) (fun z65 => (s_X5_put z65 (gA z65 0 (Int32.toNatClampNeg 2))) ∧ bd (f_X5_put z65 (gA z65 0 (Int32.toNatClampNeg 2))) (fun z67 => (s_X5_put z67 (gA z67 0 (Int32.toNatClampNeg 3))) ∧ bd (f_X5_put z67 (gA z67 0 (Int32.toNatClampNeg 3))) (fun z69 => (s_X5_put z69 (gA z69 0 (Int32.toNatClampNeg 4))) ∧ True))))))
def f_X5_putData_200 (z : Sg) (k1 : Int32) : Sg := bd (f_X5_put z k1) (fun z81 => bd (f_X5_put z81 (gI z81 13)) (fun z83 => z83))
def s_X5_putData_200 (z : Sg) (k1 : Int32) : Prop := (s_X5_put z k1) ∧ bd (f_X5_put z k1) (fun z81 => (s_X5_put z81 (gI z81 13)) ∧ True)
def f_X5_putData_222 : Nat → Sg → Int32 → Sg
  | 0, z, _ => z
  | n + 1, z, y2 => bd (f_X5_count z) (fun r73 => (if r73.1 ≤ y2 then r73.2 else bd (f_X5_data r73.2 y2) (fun r76 => bd (f_X5_put r76.2 r76.1) (fun z78 => bd (y2 + 1) (fun x79 => f_X5_putData_222 n z78 x79)))))
def s_X5_putData_222 : Nat → Sg → Int32 → Prop
  | 0, _, _ => False
  | n + 1, z, y2 => (s_X5_count z) ∧ bd (f_X5_count z) (fun r73 => (r73.1 ≤ y2 → True) ∧ (¬ r73.1 ≤ y2 → (s_X5_data r73.2 y2) ∧ bd (f_X5_data r73.2 y2) (fun r76 => (s_X5_put r76.2 r76.1) ∧ bd (f_X5_put r76.2 r76.1) (fun z78 => bd (y2 + 1) (fun x79 => s_X5_putData_222 n z78 x79)))))
def f_X5_putData (z : Sg) (x1 : Int32) : Sg := (if x1 = 0 then f_X5_putData_10 z else (if x1 = 11 then f_X5_putData_10 z else (if x1 = 1 then bd (f_X5_put z (gI z 2)) (fun z55 => bd (f_X5_putWord z55 (gA z55 2 (Int32.toNatClampNeg 0))) (fun z57 => z57)) else (if x1 = 2 then bd (f_X5_putLevel z) (fun z53 => z53) else (if x1 = 3 then bd (f_X5_putLevel z) (fun z43 => bd (f_X5_putWord z43 (gA z43 2 (Int32.toNatClampNeg 0))) (fun z45 => bd (f_X5_putWord z45 (gA z45 2 (Int32.toNatClampNeg 1))) (fun z47 => bd (f_X5_putWord z47 (gA z47 2 (Int32.toNatClampNeg 2))) (fun z49 => bd (f_X5_putWord z49 (gA z49 2 (Int32.toNatClampNeg 3))) (fun z51 => z51))))) else (if x1 = 13 then bd (f_X5_put z (gA z 1 (Int32.toNatClampNeg 0))) (fun z31 => bd (f_X5_put z31 (gA z31 1 (Int32.toNatClampNeg 1))) (fun z33 => bd (f_X5_put z33 (gA z33 1 (Int32.toNatClampNeg 2))) (fun z35 => bd (f_X5_put z35 (gA z35 1 (Int32.toNatClampNeg 3))) (fun z37 => bd (f_X5_put z37 (gA z37 1 (Int32.toNatClampNeg 4))) (fun z39 => bd (f_X5_put z39 (gA z39 1 (Int32.toNatClampNeg 5))) (fun z41 => z41)))))) else (if x1 = 48 then (if (gI z 5) = 0 then f_X5_putData_200 z 0 else f_X5_putData_200 z 1) else (if x1 = 38 then z else f_X5_putData_222 64 z 0))))))))
def s_X5_putData (z : Sg) (x1 : Int32) : Prop := (x1 = 0 → s_X5_putData_10 z) ∧ (¬ x1 = 0 → (x1 = 11 → s_X5_putData_10 z) ∧ (¬ x1 = 11 → (x1 = 1 → (s_X5_put z (gI z 2)) ∧ bd (f_X5_put z (gI z 2)) (fun z55 => (s_X5_putWord z55 (gA z55 2 (Int32.toNatClampNeg 0))) ∧ True)) ∧ (¬ x1 = 1 → (x1 = 2 → (s_X5_putLevel z) ∧ True) ∧ (¬ x1 = 2 → (x1 = 3 → (s_X5_putLevel z) ∧ bd (f_X5_putLevel z) (fun z43 => (s_X5_putWord z43 (gA z43 2 (Int32.toNatClampNeg 0))) ∧ bd (f_X5_putWord z43 (gA z43 2 (Int32.toNatClampNeg 0))) (fun z45 => (s_X5_putWord z45 (gA z45 2 (Int32.toNatClampNeg 1))) ∧ bd (f_X5_putWord z45 (gA z45 2 (Int32.toNatClampNeg 1))) (fun z47 => (s_X5_putWord z47 (gA z47 2 (Int32.toNatClampNeg 2))) ∧ bd (f_X5_putWord z47 (gA z47 2 (Int32.toNatClampNeg 2))) (fun z49 => (s_X5_putWord z49 (gA z49 2 (Int32.toNatClampNeg 3))) ∧ True))))) ∧ (¬ x1 = 3 → (x1 = 13 → (s_X5_put z (gA z 1 (Int32.toNatClampNeg 0))) ∧ bd (f_X5_put z (gA z 1 (Int32.toNatClampNeg 0))) (fun z31 => (s_X5_put z31 (gA z31 1 (Int32.toNatClampNeg 1))) ∧ bd (f_X5_put z31 (gA z31 1 (Int32.toNatClampNeg 1))) (fun z33 => (s_X5_put z33 (gA z33 1 (Int32.toNatClampNeg 2))) ∧ bd (f_X5_put z33 (gA z33 1 (Int32.toNatClampNeg 2))) (fun z35 => (s_X5_put z35 (gA z35 1 (Int32.toNatClampNeg 3))) ∧ bd (f_X5_put z35 (gA z35 1 (Int32.toNatClampNeg 3))) (fun z37 => (s_X5_put z37 (gA z37 1 (Int32.toNatClampNeg 4))) ∧ bd (f_X5_put z37 (gA z37 1 (Int32.toNatClampNeg 4))) (fun z39 => (s_X5_put z39 (gA z39 1 (Int32.toNatClampNeg 5))) ∧ True)))))) ∧ (¬ x1 = 13 → (x1 = 48 → ((gI z 5) = 0 → s_X5_putData_200 z 0) ∧ (¬ (gI z 5) = 0 → s_X5_putData_200 z 1)) ∧ (¬ x1 = 48 → (x1 = 38 → True) ∧ (¬ x1 = 38 → s_X5_putData_222 64 z 0))))))))
theorem hd_X5_putData : yX5_putData.cls = RX5 ∧ yX5_putData.cls ≠ "java/lang/invoke/MethodHandle" ∧ yX5_putData.cls ≠ "java/lang/invoke/VarHandle" ∧ (parseMethodDescriptor yX5_putData.desc).map (fun d => d.parameters.length) = some 1 := by decide +kernel
set_option maxHeartbeats 4000000 in
set_option maxRecDepth 100000 in
theorem c_X5_putData (l : Launch) (D : va_G) (g : Gv) (z : Sg) (x1 : Int32) {r : Sg} (er : r = f_X5_putData z x1) (hs : s_X5_putData z x1) : CT D (wM g) (tM g) l yX5_putData (wG yX5_putData cX5_putData 3 none) { frames := 3, cells := 0, slots := 0, locals := 66 } [.ref (g.1 0), .int x1] z none r := by
  refine CT.ofW (by decide) (Nat.le_of_ble_eq_true rfl) ?_
  intro p e R s m args below meth c A hR S hr hlocks hA hW ls hl
  have S : CallFix p m c cX5_putData 3 s args wsL_law RX5 := S
  have hl : lv_has ls 3 [(0, .ref (g.1 0)), (1, .int x1)] := hl
  have hx := S.1
  have hb := S.2.1
  have hf := er.symm
  clear er
  have J_10 : ∀ (z : Sg)  (H : Heap) (locs : List Loc) (ls : Array Slot), Wd D (wM g) (tM g) A s H locs z → lv_has ls 3 [(0, .ref (g.1 0))] → s_X5_putData_10 z  → f_X5_putData_10 z  = r → W p l e R s m args below meth c H locs 0 0 (MQ below (CQ D (wM g) A none r) args s 0 0 A) (F0 m 10 ls []) := by
    intro z  H locs ls hW hl hs hf
    unfold f_X5_putData_10 at hf
    unfold s_X5_putData_10 at hs
    refine lv_aload_n hx hb dX5_putData_10 rfl (lv_at hl 0 rfl) ?_
    refine lv_sipush (v := 254) hx hb dX5_putData_11 (by decide) ?_
    obtain ⟨q58, hs⟩ := hs
    obtain ⟨z59, ez59, hf⟩ := bd_e hf
    replace hs := bd_s ez59 hs
    refine ct_V (As := [.int 254]) (rest := []) (st1 := []) (q0 := 0) (ci := 5) S hA hW (c_X5_put l D g z 254 ez59 q58) (wG_V km_X5_112 ki_yX5_put ks_yX5_put kn_X5 kc_yX5_put) ⟨rfl, rfl⟩ hd_X5_put (by rw [hR]; exact ⟨Nat.le_of_ble_eq_true rfl, Nat.le_of_ble_eq_true rfl⟩) rfl rfl rfl rfl hl.1 rfl (Nat.le_of_ble_eq_true rfl) ⟨Nat.zero_le _, Nat.zero_le _⟩ dX5_putData_14 rfl (fun H locs hW => ?_)
    refine lv_aload_n hx hb dX5_putData_17 rfl (lv_at hl 0 rfl) ?_
    refine lv_aload_n hx hb dX5_putData_18 rfl (lv_at hl 0 rfl) ?_
    refine gX5_own S hW kf_X5_7 dX5_putData_19 ?_
    refine lv_iconst (v := 0) hx hb dX5_putData_22 (by decide) ?_
    refine aM0 S hW (vi_of (M := 5) (by decide) (by decide) (by decide)) dX5_putData_23 ?_
    obtain ⟨q60, hs⟩ := hs
    obtain ⟨z61, ez61, hf⟩ := bd_e hf
    replace hs := bd_s ez61 hs
    refine ct_V (As := [.int (gA z59 0 (Int32.toNatClampNeg 0))]) (rest := []) (st1 := []) (q0 := 0) (ci := 5) S hA hW (c_X5_put l D g z59 (gA z59 0 (Int32.toNatClampNeg 0)) ez61 q60) (wG_V km_X5_112 ki_yX5_put ks_yX5_put kn_X5 kc_yX5_put) ⟨rfl, rfl⟩ hd_X5_put (by rw [hR]; exact ⟨Nat.le_of_ble_eq_true rfl, Nat.le_of_ble_eq_true rfl⟩) rfl rfl rfl rfl hl.1 rfl (Nat.le_of_ble_eq_true rfl) ⟨Nat.zero_le _, Nat.zero_le _⟩ dX5_putData_24 rfl (fun H locs hW => ?_)
    refine lv_aload_n hx hb dX5_putData_27 rfl (lv_at hl 0 rfl) ?_
    refine lv_aload_n hx hb dX5_putData_28 rfl (lv_at hl 0 rfl) ?_
    refine gX5_own S hW kf_X5_7 dX5_putData_29 ?_
    refine lv_iconst (v := 1) hx hb dX5_putData_32 (by decide) ?_
    refine aM0 S hW (vi_of (M := 5) (by decide) (by decide) (by decide)) dX5_putData_33 ?_
    obtain ⟨q62, hs⟩ := hs
    obtain ⟨z63, ez63, hf⟩ := bd_e hf
    replace hs := bd_s ez63 hs
    refine ct_V (As := [.int (gA z61 0 (Int32.toNatClampNeg 1))]) (rest := []) (st1 := []) (q0 := 0) (ci := 5) S hA hW (c_X5_put l D g z61 (gA z61 0 (Int32.toNatClampNeg 1)) ez63 q62) (wG_V km_X5_112 ki_yX5_put ks_yX5_put kn_X5 kc_yX5_put) ⟨rfl, rfl⟩ hd_X5_put (by rw [hR]; exact ⟨Nat.le_of_ble_eq_true rfl, Nat.le_of_ble_eq_true rfl⟩) rfl rfl rfl rfl hl.1 rfl (Nat.le_of_ble_eq_true rfl) ⟨Nat.zero_le _, Nat.zero_le _⟩ dX5_putData_34 rfl (fun H locs hW => ?_)
    refine lv_aload_n hx hb dX5_putData_37 rfl (lv_at hl 0 rfl) ?_
    refine lv_iconst (v := 5) hx hb dX5_putData_38 (by decide) ?_
    obtain ⟨q64, hs⟩ := hs
    obtain ⟨z65, ez65, hf⟩ := bd_e hf
    replace hs := bd_s ez65 hs
    refine ct_V (As := [.int 5]) (rest := []) (st1 := []) (q0 := 0) (ci := 5) S hA hW (c_X5_put l D g z63 5 ez65 q64) (wG_V km_X5_112 ki_yX5_put ks_yX5_put kn_X5 kc_yX5_put) ⟨rfl, rfl⟩ hd_X5_put (by rw [hR]; exact ⟨Nat.le_of_ble_eq_true rfl, Nat.le_of_ble_eq_true rfl⟩) rfl rfl rfl rfl hl.1 rfl (Nat.le_of_ble_eq_true rfl) ⟨Nat.zero_le _, Nat.zero_le _⟩ dX5_putData_39 rfl (fun H locs hW => ?_)
    refine lv_aload_n hx hb dX5_putData_42 rfl (lv_at hl 0 rfl) ?_
    refine lv_aload_n hx hb dX5_putData_43 rfl (lv_at hl 0 rfl) ?_
    refine gX5_own S hW kf_X5_7 dX5_putData_44 ?_
    refine lv_iconst (v := 2) hx hb dX5_putData_47 (by decide) ?_
    refine aM0 S hW (vi_of (M := 5) (by decide) (by decide) (by decide)) dX5_putData_48 ?_
    obtain ⟨q66, hs⟩ := hs
    obtain ⟨z67, ez67, hf⟩ := bd_e hf
    replace hs := bd_s ez67 hs
    refine ct_V (As := [.int (gA z65 0 (Int32.toNatClampNeg 2))]) (rest := []) (st1 := []) (q0 := 0) (ci := 5) S hA hW (c_X5_put l D g z65 (gA z65 0 (Int32.toNatClampNeg 2)) ez67 q66) (wG_V km_X5_112 ki_yX5_put ks_yX5_put kn_X5 kc_yX5_put) ⟨rfl, rfl⟩ hd_X5_put (by rw [hR]; exact ⟨Nat.le_of_ble_eq_true rfl, Nat.le_of_ble_eq_true rfl⟩) rfl rfl rfl rfl hl.1 rfl (Nat.le_of_ble_eq_true rfl) ⟨Nat.zero_le _, Nat.zero_le _⟩ dX5_putData_49 rfl (fun H locs hW => ?_)
    refine lv_aload_n hx hb dX5_putData_52 rfl (lv_at hl 0 rfl) ?_
    refine lv_aload_n hx hb dX5_putData_53 rfl (lv_at hl 0 rfl) ?_
    refine gX5_own S hW kf_X5_7 dX5_putData_54 ?_
    refine lv_iconst (v := 3) hx hb dX5_putData_57 (by decide) ?_
    refine aM0 S hW (vi_of (M := 5) (by decide) (by decide) (by decide)) dX5_putData_58 ?_
    obtain ⟨q68, hs⟩ := hs
    obtain ⟨z69, ez69, hf⟩ := bd_e hf
    replace hs := bd_s ez69 hs
    refine ct_V (As := [.int (gA z67 0 (Int32.toNatClampNeg 3))]) (rest := []) (st1 := []) (q0 := 0) (ci := 5) S hA hW (c_X5_put l D g z67 (gA z67 0 (Int32.toNatClampNeg 3)) ez69 q68) (wG_V km_X5_112 ki_yX5_put ks_yX5_put kn_X5 kc_yX5_put) ⟨rfl, rfl⟩ hd_X5_put (by rw [hR]; exact ⟨Nat.le_of_ble_eq_true rfl, Nat.le_of_ble_eq_true rfl⟩) rfl rfl rfl rfl hl.1 rfl (Nat.le_of_ble_eq_true rfl) ⟨Nat.zero_le _, Nat.zero_le _⟩ dX5_putData_59 rfl (fun H locs hW => ?_)
    refine lv_aload_n hx hb dX5_putData_62 rfl (lv_at hl 0 rfl) ?_
    refine lv_aload_n hx hb dX5_putData_63 rfl (lv_at hl 0 rfl) ?_
    refine gX5_own S hW kf_X5_7 dX5_putData_64 ?_
    refine lv_iconst (v := 4) hx hb dX5_putData_67 (by decide) ?_
    refine aM0 S hW (vi_of (M := 5) (by decide) (by decide) (by decide)) dX5_putData_68 ?_
    obtain ⟨q70, hs⟩ := hs
    obtain ⟨z71, ez71, hf⟩ := bd_e hf
    refine ct_V (As := [.int (gA z69 0 (Int32.toNatClampNeg 4))]) (rest := []) (st1 := []) (q0 := 0) (ci := 5) S hA hW (c_X5_put l D g z69 (gA z69 0 (Int32.toNatClampNeg 4)) ez71 q70) (wG_V km_X5_112 ki_yX5_put ks_yX5_put kn_X5 kc_yX5_put) ⟨rfl, rfl⟩ hd_X5_put (by rw [hR]; exact ⟨Nat.le_of_ble_eq_true rfl, Nat.le_of_ble_eq_true rfl⟩) rfl rfl rfl rfl hl.1 rfl (Nat.le_of_ble_eq_true rfl) ⟨Nat.zero_le _, Nat.zero_le _⟩ dX5_putData_69 rfl (fun H locs hW => ?_)
    refine lv_goto (tgt := 245) hx hb dX5_putData_72 (by decide) ?_
    subst hf
    exact ct_v S hr hlocks hW dX5_putData_245
  have J_200 : ∀ (z : Sg) (k1 : Int32) (H : Heap) (locs : List Loc) (ls : Array Slot), Wd D (wM g) (tM g) A s H locs z → lv_has ls 3 [(0, .ref (g.1 0))] → s_X5_putData_200 z k1 → f_X5_putData_200 z k1 = r → W p l e R s m args below meth c H locs 0 0 (MQ below (CQ D (wM g) A none r) args s 0 0 A) (F0 m 200 ls [.int k1, .ref (g.1 0)]) := by
    intro z k1 H locs ls hW hl hs hf
    unfold f_X5_putData_200 at hf
    unfold s_X5_putData_200 at hs
    obtain ⟨q80, hs⟩ := hs
    obtain ⟨z81, ez81, hf⟩ := bd_e hf
    replace hs := bd_s ez81 hs
    refine ct_V (As := [.int k1]) (rest := []) (st1 := []) (q0 := 0) (ci := 5) S hA hW (c_X5_put l D g z k1 ez81 q80) (wG_V km_X5_112 ki_yX5_put ks_yX5_put kn_X5 kc_yX5_put) ⟨rfl, rfl⟩ hd_X5_put (by rw [hR]; exact ⟨Nat.le_of_ble_eq_true rfl, Nat.le_of_ble_eq_true rfl⟩) rfl rfl rfl rfl hl.1 rfl (Nat.le_of_ble_eq_true rfl) ⟨Nat.zero_le _, Nat.zero_le _⟩ dX5_putData_200 rfl (fun H locs hW => ?_)
    refine lv_aload_n hx hb dX5_putData_203 rfl (lv_at hl 0 rfl) ?_
    refine lv_aload_n hx hb dX5_putData_204 rfl (lv_at hl 0 rfl) ?_
    refine gX5_answers S hW kf_X5_133 dX5_putData_205 ?_
    obtain ⟨q82, hs⟩ := hs
    obtain ⟨z83, ez83, hf⟩ := bd_e hf
    refine ct_V (As := [.int (gI z81 13)]) (rest := []) (st1 := []) (q0 := 0) (ci := 5) S hA hW (c_X5_put l D g z81 (gI z81 13) ez83 q82) (wG_V km_X5_112 ki_yX5_put ks_yX5_put kn_X5 kc_yX5_put) ⟨rfl, rfl⟩ hd_X5_put (by rw [hR]; exact ⟨Nat.le_of_ble_eq_true rfl, Nat.le_of_ble_eq_true rfl⟩) rfl rfl rfl rfl hl.1 rfl (Nat.le_of_ble_eq_true rfl) ⟨Nat.zero_le _, Nat.zero_le _⟩ dX5_putData_208 rfl (fun H locs hW => ?_)
    refine lv_goto (tgt := 245) hx hb dX5_putData_211 (by decide) ?_
    subst hf
    exact ct_v S hr hlocks hW dX5_putData_245
  have J_222 : ∀ (n : Nat) (z : Sg) (y2 : Int32) (H : Heap) (locs : List Loc) (ls : Array Slot), Wd D (wM g) (tM g) A s H locs z → lv_has ls 3 [(0, .ref (g.1 0)), (2, .int y2)] → s_X5_putData_222 n z y2 → f_X5_putData_222 n z y2 = r → W p l e R s m args below meth c H locs 0 0 (MQ below (CQ D (wM g) A none r) args s 0 0 A) (F0 m 222 ls []) := by
    intro n
    induction n with
    | zero =>
      intro z y2 H locs ls hW hl hs hf
      exact absurd hs (by rw [s_X5_putData_222]; exact id)
    | succ n ih =>
      intro z y2 H locs ls hW hl hs hf
      rw [f_X5_putData_222] at hf
      rw [s_X5_putData_222] at hs
      refine lv_iload_n hx hb dX5_putData_222 rfl (lv_at hl 1 rfl) ?_
      refine lv_aload_n hx hb dX5_putData_223 rfl (lv_at hl 0 rfl) ?_
      obtain ⟨q72, hs⟩ := hs
      obtain ⟨r73, er73, hf⟩ := bd_e hf
      replace hs := bd_s er73 hs
      refine ct_V (As := []) (rest := [.int y2]) (st1 := [.int r73.1, .int y2]) (q0 := 0) (ci := 5) S hA hW (c_X5_count l D g z er73 q72) (wG_V km_X5_71 ki_yX5_count ks_yX5_count kn_X5 kc_yX5_count) ⟨rfl, rfl⟩ hd_X5_count (by rw [hR]; exact ⟨Nat.le_of_ble_eq_true rfl, Nat.le_of_ble_eq_true rfl⟩) rfl rfl rfl rfl hl.1 rfl (Nat.le_of_ble_eq_true rfl) ⟨Nat.zero_le _, Nat.zero_le _⟩ dX5_putData_224 rfl (fun H locs hW => ?_)
      refine lv_icmp_ge (tgt := 245) hx hb dX5_putData_227 (by decide) (fun c74 => ?_) (fun c74 => ?_)
      · replace hf := if_t c74 hf
        replace hs := hs.1 c74
        subst hf
        exact ct_v S hr hlocks hW dX5_putData_245
      · replace hf := if_f c74 hf
        replace hs := hs.2 c74
        refine lv_aload_n hx hb dX5_putData_230 rfl (lv_at hl 0 rfl) ?_
        refine lv_aload_n hx hb dX5_putData_231 rfl (lv_at hl 0 rfl) ?_
        refine lv_iload_n hx hb dX5_putData_232 rfl (lv_at hl 1 rfl) ?_
        obtain ⟨q75, hs⟩ := hs
        obtain ⟨r76, er76, hf⟩ := bd_e hf
        replace hs := bd_s er76 hs
        refine ct_V (As := [.int y2]) (rest := [.ref (g.1 0)]) (st1 := [.int r76.1, .ref (g.1 0)]) (q0 := 0) (ci := 5) S hA hW (c_X5_data l D g r73.2 y2 er76 q75) (wG_V km_X5_61 ki_yX5_data ks_yX5_data kn_X5 kc_yX5_data) ⟨rfl, rfl⟩ hd_X5_data (by rw [hR]; exact ⟨Nat.le_of_ble_eq_true rfl, Nat.le_of_ble_eq_true rfl⟩) rfl rfl rfl rfl hl.1 rfl (Nat.le_of_ble_eq_true rfl) ⟨Nat.zero_le _, Nat.zero_le _⟩ dX5_putData_233 rfl (fun H locs hW => ?_)
        obtain ⟨q77, hs⟩ := hs
        obtain ⟨z78, ez78, hf⟩ := bd_e hf
        replace hs := bd_s ez78 hs
        refine ct_V (As := [.int r76.1]) (rest := []) (st1 := []) (q0 := 0) (ci := 5) S hA hW (c_X5_put l D g r76.2 r76.1 ez78 q77) (wG_V km_X5_112 ki_yX5_put ks_yX5_put kn_X5 kc_yX5_put) ⟨rfl, rfl⟩ hd_X5_put (by rw [hR]; exact ⟨Nat.le_of_ble_eq_true rfl, Nat.le_of_ble_eq_true rfl⟩) rfl rfl rfl rfl hl.1 rfl (Nat.le_of_ble_eq_true rfl) ⟨Nat.zero_le _, Nat.zero_le _⟩ dX5_putData_236 rfl (fun H locs hW => ?_)
        obtain ⟨x79, ex79, hf⟩ := bd_e hf
        replace hs := bd_s ex79 hs
        refine lv_iinc (v := x79) (lv' := [(2, .int x79), (0, .ref (g.1 0))]) hx hb dX5_putData_239 hl (k := 1) rfl ex79.symm (by decide) rfl (fun ls hl => ?_)
        refine lv_goto (tgt := 222) hx hb dX5_putData_242 (by decide) ?_
        exact ih z78 x79 _ _ ls hW (lv_sub hl [1, 0] rfl) hs hf
  unfold f_X5_putData at hf
  unfold s_X5_putData at hs
  refine lv_iload_n hx hb dX5_putData_0 rfl (lv_at hl 1 rfl) ?_
  refine lv_if_eq (tgt := 10) hx hb dX5_putData_1 (by decide) (fun c21 => ?_) (fun c21 => ?_)
  · replace hf := if_t c21 hf
    replace hs := hs.1 c21
    exact J_10 z _ _ ls hW (lv_sub hl [0] rfl) hs hf
  · replace hf := if_f c21 hf
    replace hs := hs.2 c21
    refine lv_iload_n hx hb dX5_putData_4 rfl (lv_at hl 1 rfl) ?_
    refine lv_bipush (v := 11) hx hb dX5_putData_5 (by decide) ?_
    refine lv_icmp_ne (tgt := 75) hx hb dX5_putData_7 (by decide) (fun c22 => ?_) (fun c22 => ?_)
    · replace hf := if_f c22 hf
      replace hs := hs.2 c22
      refine lv_iload_n hx hb dX5_putData_75 rfl (lv_at hl 1 rfl) ?_
      refine lv_iconst (v := 1) hx hb dX5_putData_76 (by decide) ?_
      refine lv_icmp_ne (tgt := 101) hx hb dX5_putData_77 (by decide) (fun c23 => ?_) (fun c23 => ?_)
      · replace hf := if_f c23 hf
        replace hs := hs.2 c23
        refine lv_iload_n hx hb dX5_putData_101 rfl (lv_at hl 1 rfl) ?_
        refine lv_iconst (v := 2) hx hb dX5_putData_102 (by decide) ?_
        refine lv_icmp_ne (tgt := 113) hx hb dX5_putData_103 (by decide) (fun c24 => ?_) (fun c24 => ?_)
        · replace hf := if_f c24 hf
          replace hs := hs.2 c24
          refine lv_iload_n hx hb dX5_putData_113 rfl (lv_at hl 1 rfl) ?_
          refine lv_iconst (v := 3) hx hb dX5_putData_114 (by decide) ?_
          refine lv_icmp_ne (tgt := 148) hx hb dX5_putData_115 (by decide) (fun c25 => ?_) (fun c25 => ?_)
          · replace hf := if_f c25 hf
            replace hs := hs.2 c25
            refine lv_iload_n hx hb dX5_putData_148 rfl (lv_at hl 1 rfl) ?_
            refine lv_bipush (v := 13) hx hb dX5_putData_149 (by decide) ?_
            refine lv_icmp_ne (tgt := 181) hx hb dX5_putData_151 (by decide) (fun c26 => ?_) (fun c26 => ?_)
            · replace hf := if_f c26 hf
              replace hs := hs.2 c26
              refine lv_iload_n hx hb dX5_putData_181 rfl (lv_at hl 1 rfl) ?_
              refine lv_bipush (v := 48) hx hb dX5_putData_182 (by decide) ?_
              refine lv_icmp_ne (tgt := 214) hx hb dX5_putData_184 (by decide) (fun c27 => ?_) (fun c27 => ?_)
              · replace hf := if_f c27 hf
                replace hs := hs.2 c27
                refine lv_iload_n hx hb dX5_putData_214 rfl (lv_at hl 1 rfl) ?_
                refine lv_bipush (v := 38) hx hb dX5_putData_215 (by decide) ?_
                refine lv_icmp_eq (tgt := 245) hx hb dX5_putData_217 (by decide) (fun c28 => ?_) (fun c28 => ?_)
                · replace hf := if_t c28 hf
                  replace hs := hs.1 c28
                  subst hf
                  exact ct_v S hr hlocks hW dX5_putData_245
                · replace hf := if_f c28 hf
                  replace hs := hs.2 c28
                  refine lv_iconst (v := 0) hx hb dX5_putData_220 (by decide) ?_
                  refine lv_istore_n (lv' := [(2, .int 0), (0, .ref (g.1 0)), (1, .int x1)]) hx hb dX5_putData_221 rfl hl (by decide) rfl (fun ls hl => ?_)
                  exact (J_222 64) z 0 _ _ ls hW (lv_sub hl [1, 0] rfl) hs hf
              · replace hf := if_t c27 hf
                replace hs := hs.1 c27
                refine lv_aload_n hx hb dX5_putData_187 rfl (lv_at hl 0 rfl) ?_
                refine lv_aload_n hx hb dX5_putData_188 rfl (lv_at hl 0 rfl) ?_
                refine gX5_hasFailed S hW kf_X5_130 dX5_putData_189 ?_
                refine lv_if_eq (tgt := 199) hx hb dX5_putData_192 (by decide) (fun c29 => ?_) (fun c29 => ?_)
                · replace hf := if_t c29 hf
                  replace hs := hs.1 c29
                  refine lv_iconst (v := 0) hx hb dX5_putData_199 (by decide) ?_
                  exact J_200 z 0 _ _ ls hW (lv_sub hl [0] rfl) hs hf
                · replace hf := if_f c29 hf
                  replace hs := hs.2 c29
                  refine lv_iconst (v := 1) hx hb dX5_putData_195 (by decide) ?_
                  refine lv_goto (tgt := 200) hx hb dX5_putData_196 (by decide) ?_
                  exact J_200 z 1 _ _ ls hW (lv_sub hl [0] rfl) hs hf
            · replace hf := if_t c26 hf
              replace hs := hs.1 c26
              refine lv_iconst (v := 0) hx hb dX5_putData_154 (by decide) ?_
              refine lv_istore_n (lv' := [(2, .int 0), (0, .ref (g.1 0)), (1, .int x1)]) hx hb dX5_putData_155 rfl hl (by decide) rfl (fun ls hl => ?_)
              refine lv_iload_n hx hb dX5_putData_156 rfl (lv_at hl 0 rfl) ?_
              refine lv_bipush (v := 6) hx hb dX5_putData_157 (by decide) ?_
              refine lv_icmp_ge (tgt := 178) hx hb dX5_putData_159 (by decide) (fun c => absurd c (by decide)) (fun _ => ?_)
              refine lv_aload_n hx hb dX5_putData_162 rfl (lv_at hl 1 rfl) ?_
              refine lv_aload_n hx hb dX5_putData_163 rfl (lv_at hl 1 rfl) ?_
              refine gX5_tags S hW kf_X5_13 dX5_putData_164 ?_
              refine lv_iload_n hx hb dX5_putData_167 rfl (lv_at hl 0 rfl) ?_
              refine aM1 S hW (vi_of (M := 6) (by decide) (by decide) (by decide)) dX5_putData_168 ?_
              obtain ⟨q30, hs⟩ := hs
              obtain ⟨z31, ez31, hf⟩ := bd_e hf
              replace hs := bd_s ez31 hs
              refine ct_V (As := [.int (gA z 1 (Int32.toNatClampNeg 0))]) (rest := []) (st1 := []) (q0 := 0) (ci := 5) S hA hW (c_X5_put l D g z (gA z 1 (Int32.toNatClampNeg 0)) ez31 q30) (wG_V km_X5_112 ki_yX5_put ks_yX5_put kn_X5 kc_yX5_put) ⟨rfl, rfl⟩ hd_X5_put (by rw [hR]; exact ⟨Nat.le_of_ble_eq_true rfl, Nat.le_of_ble_eq_true rfl⟩) rfl rfl rfl rfl hl.1 rfl (Nat.le_of_ble_eq_true rfl) ⟨Nat.zero_le _, Nat.zero_le _⟩ dX5_putData_169 rfl (fun H locs hW => ?_)
              refine lv_iinc (v := 1) (lv' := [(2, .int 1), (0, .ref (g.1 0)), (1, .int x1)]) hx hb dX5_putData_172 hl (k := 0) rfl (by decide) (by decide) rfl (fun ls hl => ?_)
              refine lv_goto (tgt := 156) hx hb dX5_putData_175 (by decide) ?_
              refine lv_iload_n hx hb dX5_putData_156 rfl (lv_at hl 0 rfl) ?_
              refine lv_bipush (v := 6) hx hb dX5_putData_157 (by decide) ?_
              refine lv_icmp_ge (tgt := 178) hx hb dX5_putData_159 (by decide) (fun c => absurd c (by decide)) (fun _ => ?_)
              refine lv_aload_n hx hb dX5_putData_162 rfl (lv_at hl 1 rfl) ?_
              refine lv_aload_n hx hb dX5_putData_163 rfl (lv_at hl 1 rfl) ?_
              refine gX5_tags S hW kf_X5_13 dX5_putData_164 ?_
              refine lv_iload_n hx hb dX5_putData_167 rfl (lv_at hl 0 rfl) ?_
              refine aM1 S hW (vi_of (M := 6) (by decide) (by decide) (by decide)) dX5_putData_168 ?_
              obtain ⟨q32, hs⟩ := hs
              obtain ⟨z33, ez33, hf⟩ := bd_e hf
              replace hs := bd_s ez33 hs
              refine ct_V (As := [.int (gA z31 1 (Int32.toNatClampNeg 1))]) (rest := []) (st1 := []) (q0 := 0) (ci := 5) S hA hW (c_X5_put l D g z31 (gA z31 1 (Int32.toNatClampNeg 1)) ez33 q32) (wG_V km_X5_112 ki_yX5_put ks_yX5_put kn_X5 kc_yX5_put) ⟨rfl, rfl⟩ hd_X5_put (by rw [hR]; exact ⟨Nat.le_of_ble_eq_true rfl, Nat.le_of_ble_eq_true rfl⟩) rfl rfl rfl rfl hl.1 rfl (Nat.le_of_ble_eq_true rfl) ⟨Nat.zero_le _, Nat.zero_le _⟩ dX5_putData_169 rfl (fun H locs hW => ?_)
              refine lv_iinc (v := 2) (lv' := [(2, .int 2), (0, .ref (g.1 0)), (1, .int x1)]) hx hb dX5_putData_172 hl (k := 0) rfl (by decide) (by decide) rfl (fun ls hl => ?_)
              refine lv_goto (tgt := 156) hx hb dX5_putData_175 (by decide) ?_
              refine lv_iload_n hx hb dX5_putData_156 rfl (lv_at hl 0 rfl) ?_
              refine lv_bipush (v := 6) hx hb dX5_putData_157 (by decide) ?_
              refine lv_icmp_ge (tgt := 178) hx hb dX5_putData_159 (by decide) (fun c => absurd c (by decide)) (fun _ => ?_)
              refine lv_aload_n hx hb dX5_putData_162 rfl (lv_at hl 1 rfl) ?_
              refine lv_aload_n hx hb dX5_putData_163 rfl (lv_at hl 1 rfl) ?_
              refine gX5_tags S hW kf_X5_13 dX5_putData_164 ?_
              refine lv_iload_n hx hb dX5_putData_167 rfl (lv_at hl 0 rfl) ?_
              refine aM1 S hW (vi_of (M := 6) (by decide) (by decide) (by decide)) dX5_putData_168 ?_
              obtain ⟨q34, hs⟩ := hs
              obtain ⟨z35, ez35, hf⟩ := bd_e hf
              replace hs := bd_s ez35 hs
              refine ct_V (As := [.int (gA z33 1 (Int32.toNatClampNeg 2))]) (rest := []) (st1 := []) (q0 := 0) (ci := 5) S hA hW (c_X5_put l D g z33 (gA z33 1 (Int32.toNatClampNeg 2)) ez35 q34) (wG_V km_X5_112 ki_yX5_put ks_yX5_put kn_X5 kc_yX5_put) ⟨rfl, rfl⟩ hd_X5_put (by rw [hR]; exact ⟨Nat.le_of_ble_eq_true rfl, Nat.le_of_ble_eq_true rfl⟩) rfl rfl rfl rfl hl.1 rfl (Nat.le_of_ble_eq_true rfl) ⟨Nat.zero_le _, Nat.zero_le _⟩ dX5_putData_169 rfl (fun H locs hW => ?_)
              refine lv_iinc (v := 3) (lv' := [(2, .int 3), (0, .ref (g.1 0)), (1, .int x1)]) hx hb dX5_putData_172 hl (k := 0) rfl (by decide) (by decide) rfl (fun ls hl => ?_)
              refine lv_goto (tgt := 156) hx hb dX5_putData_175 (by decide) ?_
              refine lv_iload_n hx hb dX5_putData_156 rfl (lv_at hl 0 rfl) ?_
              refine lv_bipush (v := 6) hx hb dX5_putData_157 (by decide) ?_
              refine lv_icmp_ge (tgt := 178) hx hb dX5_putData_159 (by decide) (fun c => absurd c (by decide)) (fun _ => ?_)
              refine lv_aload_n hx hb dX5_putData_162 rfl (lv_at hl 1 rfl) ?_
              refine lv_aload_n hx hb dX5_putData_163 rfl (lv_at hl 1 rfl) ?_
              refine gX5_tags S hW kf_X5_13 dX5_putData_164 ?_
              refine lv_iload_n hx hb dX5_putData_167 rfl (lv_at hl 0 rfl) ?_
              refine aM1 S hW (vi_of (M := 6) (by decide) (by decide) (by decide)) dX5_putData_168 ?_
              obtain ⟨q36, hs⟩ := hs
              obtain ⟨z37, ez37, hf⟩ := bd_e hf
              replace hs := bd_s ez37 hs
              refine ct_V (As := [.int (gA z35 1 (Int32.toNatClampNeg 3))]) (rest := []) (st1 := []) (q0 := 0) (ci := 5) S hA hW (c_X5_put l D g z35 (gA z35 1 (Int32.toNatClampNeg 3)) ez37 q36) (wG_V km_X5_112 ki_yX5_put ks_yX5_put kn_X5 kc_yX5_put) ⟨rfl, rfl⟩ hd_X5_put (by rw [hR]; exact ⟨Nat.le_of_ble_eq_true rfl, Nat.le_of_ble_eq_true rfl⟩) rfl rfl rfl rfl hl.1 rfl (Nat.le_of_ble_eq_true rfl) ⟨Nat.zero_le _, Nat.zero_le _⟩ dX5_putData_169 rfl (fun H locs hW => ?_)
              refine lv_iinc (v := 4) (lv' := [(2, .int 4), (0, .ref (g.1 0)), (1, .int x1)]) hx hb dX5_putData_172 hl (k := 0) rfl (by decide) (by decide) rfl (fun ls hl => ?_)
              refine lv_goto (tgt := 156) hx hb dX5_putData_175 (by decide) ?_
              refine lv_iload_n hx hb dX5_putData_156 rfl (lv_at hl 0 rfl) ?_
              refine lv_bipush (v := 6) hx hb dX5_putData_157 (by decide) ?_
              refine lv_icmp_ge (tgt := 178) hx hb dX5_putData_159 (by decide) (fun c => absurd c (by decide)) (fun _ => ?_)
              refine lv_aload_n hx hb dX5_putData_162 rfl (lv_at hl 1 rfl) ?_
              refine lv_aload_n hx hb dX5_putData_163 rfl (lv_at hl 1 rfl) ?_
              refine gX5_tags S hW kf_X5_13 dX5_putData_164 ?_
              refine lv_iload_n hx hb dX5_putData_167 rfl (lv_at hl 0 rfl) ?_
              refine aM1 S hW (vi_of (M := 6) (by decide) (by decide) (by decide)) dX5_putData_168 ?_
              obtain ⟨q38, hs⟩ := hs
              obtain ⟨z39, ez39, hf⟩ := bd_e hf
              replace hs := bd_s ez39 hs
              refine ct_V (As := [.int (gA z37 1 (Int32.toNatClampNeg 4))]) (rest := []) (st1 := []) (q0 := 0) (ci := 5) S hA hW (c_X5_put l D g z37 (gA z37 1 (Int32.toNatClampNeg 4)) ez39 q38) (wG_V km_X5_112 ki_yX5_put ks_yX5_put kn_X5 kc_yX5_put) ⟨rfl, rfl⟩ hd_X5_put (by rw [hR]; exact ⟨Nat.le_of_ble_eq_true rfl, Nat.le_of_ble_eq_true rfl⟩) rfl rfl rfl rfl hl.1 rfl (Nat.le_of_ble_eq_true rfl) ⟨Nat.zero_le _, Nat.zero_le _⟩ dX5_putData_169 rfl (fun H locs hW => ?_)
              refine lv_iinc (v := 5) (lv' := [(2, .int 5), (0, .ref (g.1 0)), (1, .int x1)]) hx hb dX5_putData_172 hl (k := 0) rfl (by decide) (by decide) rfl (fun ls hl => ?_)
              refine lv_goto (tgt := 156) hx hb dX5_putData_175 (by decide) ?_
              refine lv_iload_n hx hb dX5_putData_156 rfl (lv_at hl 0 rfl) ?_
              refine lv_bipush (v := 6) hx hb dX5_putData_157 (by decide) ?_
              refine lv_icmp_ge (tgt := 178) hx hb dX5_putData_159 (by decide) (fun c => absurd c (by decide)) (fun _ => ?_)
              refine lv_aload_n hx hb dX5_putData_162 rfl (lv_at hl 1 rfl) ?_
              refine lv_aload_n hx hb dX5_putData_163 rfl (lv_at hl 1 rfl) ?_
              refine gX5_tags S hW kf_X5_13 dX5_putData_164 ?_
              refine lv_iload_n hx hb dX5_putData_167 rfl (lv_at hl 0 rfl) ?_
              refine aM1 S hW (vi_of (M := 6) (by decide) (by decide) (by decide)) dX5_putData_168 ?_
              obtain ⟨q40, hs⟩ := hs
              obtain ⟨z41, ez41, hf⟩ := bd_e hf
              refine ct_V (As := [.int (gA z39 1 (Int32.toNatClampNeg 5))]) (rest := []) (st1 := []) (q0 := 0) (ci := 5) S hA hW (c_X5_put l D g z39 (gA z39 1 (Int32.toNatClampNeg 5)) ez41 q40) (wG_V km_X5_112 ki_yX5_put ks_yX5_put kn_X5 kc_yX5_put) ⟨rfl, rfl⟩ hd_X5_put (by rw [hR]; exact ⟨Nat.le_of_ble_eq_true rfl, Nat.le_of_ble_eq_true rfl⟩) rfl rfl rfl rfl hl.1 rfl (Nat.le_of_ble_eq_true rfl) ⟨Nat.zero_le _, Nat.zero_le _⟩ dX5_putData_169 rfl (fun H locs hW => ?_)
              refine lv_iinc (v := 6) (lv' := [(2, .int 6), (0, .ref (g.1 0)), (1, .int x1)]) hx hb dX5_putData_172 hl (k := 0) rfl (by decide) (by decide) rfl (fun ls hl => ?_)
              refine lv_goto (tgt := 156) hx hb dX5_putData_175 (by decide) ?_
              refine lv_iload_n hx hb dX5_putData_156 rfl (lv_at hl 0 rfl) ?_
              refine lv_bipush (v := 6) hx hb dX5_putData_157 (by decide) ?_
              refine lv_icmp_ge (tgt := 178) hx hb dX5_putData_159 (by decide) (fun _ => ?_) (fun c => absurd (by decide) c)
              refine lv_goto (tgt := 245) hx hb dX5_putData_178 (by decide) ?_
              subst hf
              exact ct_v S hr hlocks hW dX5_putData_245
          · replace hf := if_t c25 hf
            replace hs := hs.1 c25
            refine lv_aload_n hx hb dX5_putData_118 rfl (lv_at hl 0 rfl) ?_
            obtain ⟨q42, hs⟩ := hs
            obtain ⟨z43, ez43, hf⟩ := bd_e hf
            replace hs := bd_s ez43 hs
            refine ct_V (As := []) (rest := []) (st1 := []) (q0 := 0) (ci := 5) S hA hW (c_X5_putLevel l D g z ez43 q42) (wG_V km_X5_127 ki_yX5_putLevel ks_yX5_putLevel kn_X5 kc_yX5_putLevel) ⟨rfl, rfl⟩ hd_X5_putLevel (by rw [hR]; exact ⟨Nat.le_of_ble_eq_true rfl, Nat.le_of_ble_eq_true rfl⟩) rfl rfl rfl rfl hl.1 rfl (Nat.le_of_ble_eq_true rfl) ⟨Nat.zero_le _, Nat.zero_le _⟩ dX5_putData_119 rfl (fun H locs hW => ?_)
            refine lv_iconst (v := 0) hx hb dX5_putData_122 (by decide) ?_
            refine lv_istore_n (lv' := [(2, .int 0), (0, .ref (g.1 0)), (1, .int x1)]) hx hb dX5_putData_123 rfl hl (by decide) rfl (fun ls hl => ?_)
            refine lv_iload_n hx hb dX5_putData_124 rfl (lv_at hl 0 rfl) ?_
            refine lv_iconst (v := 4) hx hb dX5_putData_125 (by decide) ?_
            refine lv_icmp_ge (tgt := 145) hx hb dX5_putData_126 (by decide) (fun c => absurd c (by decide)) (fun _ => ?_)
            refine lv_aload_n hx hb dX5_putData_129 rfl (lv_at hl 1 rfl) ?_
            refine lv_aload_n hx hb dX5_putData_130 rfl (lv_at hl 1 rfl) ?_
            refine gX5_variables S hW kf_X5_16 dX5_putData_131 ?_
            refine lv_iload_n hx hb dX5_putData_134 rfl (lv_at hl 0 rfl) ?_
            refine aM2 S hW (vi_of (M := 4) (by decide) (by decide) (by decide)) dX5_putData_135 ?_
            obtain ⟨q44, hs⟩ := hs
            obtain ⟨z45, ez45, hf⟩ := bd_e hf
            replace hs := bd_s ez45 hs
            refine ct_V (As := [.int (gA z43 2 (Int32.toNatClampNeg 0))]) (rest := []) (st1 := []) (q0 := 0) (ci := 5) S hA hW (c_X5_putWord l D g z43 (gA z43 2 (Int32.toNatClampNeg 0)) ez45 q44) (wG_V km_X5_124 ki_yX5_putWord ks_yX5_putWord kn_X5 kc_yX5_putWord) ⟨rfl, rfl⟩ hd_X5_putWord (by rw [hR]; exact ⟨Nat.le_of_ble_eq_true rfl, Nat.le_of_ble_eq_true rfl⟩) rfl rfl rfl rfl hl.1 rfl (Nat.le_of_ble_eq_true rfl) ⟨Nat.zero_le _, Nat.zero_le _⟩ dX5_putData_136 rfl (fun H locs hW => ?_)
            refine lv_iinc (v := 1) (lv' := [(2, .int 1), (0, .ref (g.1 0)), (1, .int x1)]) hx hb dX5_putData_139 hl (k := 0) rfl (by decide) (by decide) rfl (fun ls hl => ?_)
            refine lv_goto (tgt := 124) hx hb dX5_putData_142 (by decide) ?_
            refine lv_iload_n hx hb dX5_putData_124 rfl (lv_at hl 0 rfl) ?_
            refine lv_iconst (v := 4) hx hb dX5_putData_125 (by decide) ?_
            refine lv_icmp_ge (tgt := 145) hx hb dX5_putData_126 (by decide) (fun c => absurd c (by decide)) (fun _ => ?_)
            refine lv_aload_n hx hb dX5_putData_129 rfl (lv_at hl 1 rfl) ?_
            refine lv_aload_n hx hb dX5_putData_130 rfl (lv_at hl 1 rfl) ?_
            refine gX5_variables S hW kf_X5_16 dX5_putData_131 ?_
            refine lv_iload_n hx hb dX5_putData_134 rfl (lv_at hl 0 rfl) ?_
            refine aM2 S hW (vi_of (M := 4) (by decide) (by decide) (by decide)) dX5_putData_135 ?_
            obtain ⟨q46, hs⟩ := hs
            obtain ⟨z47, ez47, hf⟩ := bd_e hf
            replace hs := bd_s ez47 hs
            refine ct_V (As := [.int (gA z45 2 (Int32.toNatClampNeg 1))]) (rest := []) (st1 := []) (q0 := 0) (ci := 5) S hA hW (c_X5_putWord l D g z45 (gA z45 2 (Int32.toNatClampNeg 1)) ez47 q46) (wG_V km_X5_124 ki_yX5_putWord ks_yX5_putWord kn_X5 kc_yX5_putWord) ⟨rfl, rfl⟩ hd_X5_putWord (by rw [hR]; exact ⟨Nat.le_of_ble_eq_true rfl, Nat.le_of_ble_eq_true rfl⟩) rfl rfl rfl rfl hl.1 rfl (Nat.le_of_ble_eq_true rfl) ⟨Nat.zero_le _, Nat.zero_le _⟩ dX5_putData_136 rfl (fun H locs hW => ?_)
            refine lv_iinc (v := 2) (lv' := [(2, .int 2), (0, .ref (g.1 0)), (1, .int x1)]) hx hb dX5_putData_139 hl (k := 0) rfl (by decide) (by decide) rfl (fun ls hl => ?_)
            refine lv_goto (tgt := 124) hx hb dX5_putData_142 (by decide) ?_
            refine lv_iload_n hx hb dX5_putData_124 rfl (lv_at hl 0 rfl) ?_
            refine lv_iconst (v := 4) hx hb dX5_putData_125 (by decide) ?_
            refine lv_icmp_ge (tgt := 145) hx hb dX5_putData_126 (by decide) (fun c => absurd c (by decide)) (fun _ => ?_)
            refine lv_aload_n hx hb dX5_putData_129 rfl (lv_at hl 1 rfl) ?_
            refine lv_aload_n hx hb dX5_putData_130 rfl (lv_at hl 1 rfl) ?_
            refine gX5_variables S hW kf_X5_16 dX5_putData_131 ?_
            refine lv_iload_n hx hb dX5_putData_134 rfl (lv_at hl 0 rfl) ?_
            refine aM2 S hW (vi_of (M := 4) (by decide) (by decide) (by decide)) dX5_putData_135 ?_
            obtain ⟨q48, hs⟩ := hs
            obtain ⟨z49, ez49, hf⟩ := bd_e hf
            replace hs := bd_s ez49 hs
            refine ct_V (As := [.int (gA z47 2 (Int32.toNatClampNeg 2))]) (rest := []) (st1 := []) (q0 := 0) (ci := 5) S hA hW (c_X5_putWord l D g z47 (gA z47 2 (Int32.toNatClampNeg 2)) ez49 q48) (wG_V km_X5_124 ki_yX5_putWord ks_yX5_putWord kn_X5 kc_yX5_putWord) ⟨rfl, rfl⟩ hd_X5_putWord (by rw [hR]; exact ⟨Nat.le_of_ble_eq_true rfl, Nat.le_of_ble_eq_true rfl⟩) rfl rfl rfl rfl hl.1 rfl (Nat.le_of_ble_eq_true rfl) ⟨Nat.zero_le _, Nat.zero_le _⟩ dX5_putData_136 rfl (fun H locs hW => ?_)
            refine lv_iinc (v := 3) (lv' := [(2, .int 3), (0, .ref (g.1 0)), (1, .int x1)]) hx hb dX5_putData_139 hl (k := 0) rfl (by decide) (by decide) rfl (fun ls hl => ?_)
            refine lv_goto (tgt := 124) hx hb dX5_putData_142 (by decide) ?_
            refine lv_iload_n hx hb dX5_putData_124 rfl (lv_at hl 0 rfl) ?_
            refine lv_iconst (v := 4) hx hb dX5_putData_125 (by decide) ?_
            refine lv_icmp_ge (tgt := 145) hx hb dX5_putData_126 (by decide) (fun c => absurd c (by decide)) (fun _ => ?_)
            refine lv_aload_n hx hb dX5_putData_129 rfl (lv_at hl 1 rfl) ?_
            refine lv_aload_n hx hb dX5_putData_130 rfl (lv_at hl 1 rfl) ?_
            refine gX5_variables S hW kf_X5_16 dX5_putData_131 ?_
            refine lv_iload_n hx hb dX5_putData_134 rfl (lv_at hl 0 rfl) ?_
            refine aM2 S hW (vi_of (M := 4) (by decide) (by decide) (by decide)) dX5_putData_135 ?_
            obtain ⟨q50, hs⟩ := hs
            obtain ⟨z51, ez51, hf⟩ := bd_e hf
            refine ct_V (As := [.int (gA z49 2 (Int32.toNatClampNeg 3))]) (rest := []) (st1 := []) (q0 := 0) (ci := 5) S hA hW (c_X5_putWord l D g z49 (gA z49 2 (Int32.toNatClampNeg 3)) ez51 q50) (wG_V km_X5_124 ki_yX5_putWord ks_yX5_putWord kn_X5 kc_yX5_putWord) ⟨rfl, rfl⟩ hd_X5_putWord (by rw [hR]; exact ⟨Nat.le_of_ble_eq_true rfl, Nat.le_of_ble_eq_true rfl⟩) rfl rfl rfl rfl hl.1 rfl (Nat.le_of_ble_eq_true rfl) ⟨Nat.zero_le _, Nat.zero_le _⟩ dX5_putData_136 rfl (fun H locs hW => ?_)
            refine lv_iinc (v := 4) (lv' := [(2, .int 4), (0, .ref (g.1 0)), (1, .int x1)]) hx hb dX5_putData_139 hl (k := 0) rfl (by decide) (by decide) rfl (fun ls hl => ?_)
            refine lv_goto (tgt := 124) hx hb dX5_putData_142 (by decide) ?_
            refine lv_iload_n hx hb dX5_putData_124 rfl (lv_at hl 0 rfl) ?_
            refine lv_iconst (v := 4) hx hb dX5_putData_125 (by decide) ?_
            refine lv_icmp_ge (tgt := 145) hx hb dX5_putData_126 (by decide) (fun _ => ?_) (fun c => absurd (by decide) c)
            refine lv_goto (tgt := 245) hx hb dX5_putData_145 (by decide) ?_
            subst hf
            exact ct_v S hr hlocks hW dX5_putData_245
        · replace hf := if_t c24 hf
          replace hs := hs.1 c24
          refine lv_aload_n hx hb dX5_putData_106 rfl (lv_at hl 0 rfl) ?_
          obtain ⟨q52, hs⟩ := hs
          obtain ⟨z53, ez53, hf⟩ := bd_e hf
          refine ct_V (As := []) (rest := []) (st1 := []) (q0 := 0) (ci := 5) S hA hW (c_X5_putLevel l D g z ez53 q52) (wG_V km_X5_127 ki_yX5_putLevel ks_yX5_putLevel kn_X5 kc_yX5_putLevel) ⟨rfl, rfl⟩ hd_X5_putLevel (by rw [hR]; exact ⟨Nat.le_of_ble_eq_true rfl, Nat.le_of_ble_eq_true rfl⟩) rfl rfl rfl rfl hl.1 rfl (Nat.le_of_ble_eq_true rfl) ⟨Nat.zero_le _, Nat.zero_le _⟩ dX5_putData_107 rfl (fun H locs hW => ?_)
          refine lv_goto (tgt := 245) hx hb dX5_putData_110 (by decide) ?_
          subst hf
          exact ct_v S hr hlocks hW dX5_putData_245
      · replace hf := if_t c23 hf
        replace hs := hs.1 c23
        refine lv_aload_n hx hb dX5_putData_80 rfl (lv_at hl 0 rfl) ?_
        refine lv_aload_n hx hb dX5_putData_81 rfl (lv_at hl 0 rfl) ?_
        refine gX5_unit S hW kf_X5_99 dX5_putData_82 ?_
        obtain ⟨q54, hs⟩ := hs
        obtain ⟨z55, ez55, hf⟩ := bd_e hf
        replace hs := bd_s ez55 hs
        refine ct_V (As := [.int (gI z 2)]) (rest := []) (st1 := []) (q0 := 0) (ci := 5) S hA hW (c_X5_put l D g z (gI z 2) ez55 q54) (wG_V km_X5_112 ki_yX5_put ks_yX5_put kn_X5 kc_yX5_put) ⟨rfl, rfl⟩ hd_X5_put (by rw [hR]; exact ⟨Nat.le_of_ble_eq_true rfl, Nat.le_of_ble_eq_true rfl⟩) rfl rfl rfl rfl hl.1 rfl (Nat.le_of_ble_eq_true rfl) ⟨Nat.zero_le _, Nat.zero_le _⟩ dX5_putData_85 rfl (fun H locs hW => ?_)
        refine lv_aload_n hx hb dX5_putData_88 rfl (lv_at hl 0 rfl) ?_
        refine lv_aload_n hx hb dX5_putData_89 rfl (lv_at hl 0 rfl) ?_
        refine gX5_variables S hW kf_X5_16 dX5_putData_90 ?_
        refine lv_iconst (v := 0) hx hb dX5_putData_93 (by decide) ?_
        refine aM2 S hW (vi_of (M := 4) (by decide) (by decide) (by decide)) dX5_putData_94 ?_
        obtain ⟨q56, hs⟩ := hs
        obtain ⟨z57, ez57, hf⟩ := bd_e hf
        refine ct_V (As := [.int (gA z55 2 (Int32.toNatClampNeg 0))]) (rest := []) (st1 := []) (q0 := 0) (ci := 5) S hA hW (c_X5_putWord l D g z55 (gA z55 2 (Int32.toNatClampNeg 0)) ez57 q56) (wG_V km_X5_124 ki_yX5_putWord ks_yX5_putWord kn_X5 kc_yX5_putWord) ⟨rfl, rfl⟩ hd_X5_putWord (by rw [hR]; exact ⟨Nat.le_of_ble_eq_true rfl, Nat.le_of_ble_eq_true rfl⟩) rfl rfl rfl rfl hl.1 rfl (Nat.le_of_ble_eq_true rfl) ⟨Nat.zero_le _, Nat.zero_le _⟩ dX5_putData_95 rfl (fun H locs hW => ?_)
        refine lv_goto (tgt := 245) hx hb dX5_putData_98 (by decide) ?_
        subst hf
        exact ct_v S hr hlocks hW dX5_putData_245
    · replace hf := if_t c22 hf
      replace hs := hs.1 c22
      exact J_10 z _ _ ls hW (lv_sub hl [0] rfl) hs hf
def f_X5_statusOf_77 (z : Sg) (y2 : Int32) : Int32 × Sg := (y2 + 8, z)
def f_X5_statusOf_50 (z : Sg) (k0 : Int32) : Int32 × Sg := (if (gA z 2 (Int32.toNatClampNeg 0)) < (gI z 3) then f_X5_statusOf_77 z k0 else (if (gA z 2 (Int32.toNatClampNeg 0)) ≤ (gI z 4) then (k0, z) else f_X5_statusOf_77 z k0))
def f_X5_statusOf_32 (z : Sg) (y1 : Int32) (k0 : Int32) : Int32 × Sg := (if (gA z 4 (Int32.toNatClampNeg y1)) = 0 then f_X5_statusOf_50 z k0 else f_X5_statusOf_50 z (k0 + 32))
def s_X5_statusOf_32 (z : Sg) (y1 : Int32) (k0 : Int32) : Prop := (vp_in y1 2) ∧ ((gA z 4 (Int32.toNatClampNeg y1)) = 0 → True) ∧ (¬ (gA z 4 (Int32.toNatClampNeg y1)) = 0 → True)
def f_X5_statusOf_14 (z : Sg) (y1 : Int32) (k0 : Int32) : Int32 × Sg := (if (gA z 3 (Int32.toNatClampNeg y1)) = 0 then f_X5_statusOf_32 z y1 k0 else f_X5_statusOf_32 z y1 (k0 + 64))
def s_X5_statusOf_14 (z : Sg) (y1 : Int32) (k0 : Int32) : Prop := (vp_in y1 2) ∧ ((gA z 3 (Int32.toNatClampNeg y1)) = 0 → s_X5_statusOf_32 z y1 k0) ∧ (¬ (gA z 3 (Int32.toNatClampNeg y1)) = 0 → s_X5_statusOf_32 z y1 (k0 + 64))
def f_X5_statusOf (z : Sg) (x1 : Int32) : Int32 × Sg := (if (gI z 5) = 0 then f_X5_statusOf_14 z x1 0 else f_X5_statusOf_14 z x1 128)
def s_X5_statusOf (z : Sg) (x1 : Int32) : Prop := ((gI z 5) = 0 → s_X5_statusOf_14 z x1 0) ∧ (¬ (gI z 5) = 0 → s_X5_statusOf_14 z x1 128)
theorem hd_X5_statusOf : yX5_statusOf.cls = RX5 ∧ yX5_statusOf.cls ≠ "java/lang/invoke/MethodHandle" ∧ yX5_statusOf.cls ≠ "java/lang/invoke/VarHandle" ∧ (parseMethodDescriptor yX5_statusOf.desc).map (fun d => d.parameters.length) = some 1 := by decide +kernel
set_option maxHeartbeats 4000000 in
set_option maxRecDepth 100000 in
theorem c_X5_statusOf (l : Launch) (D : va_G) (g : Gv) (z : Sg) (x1 : Int32) {r : Int32 × Sg} (er : r = f_X5_statusOf z x1) (hs : s_X5_statusOf z x1) : CT D (wM g) (tM g) l yX5_statusOf (wG yX5_statusOf cX5_statusOf 3 (some .int)) { frames := 0, cells := 0, slots := 0, locals := 0 } [.ref (g.1 0), .int x1] z (some (.int r.1)) r.2 := by
  refine CT.ofW (by decide) (Nat.le_of_ble_eq_true rfl) ?_
  intro p e R s m args below meth c A hR S hr hlocks hA hW ls hl
  have S : CallFix p m c cX5_statusOf 3 s args wsL_law RX5 := S
  have hl : lv_has ls 3 [(0, .ref (g.1 0)), (1, .int x1)] := hl
  have hx := S.1
  have hb := S.2.1
  have hf := er.symm
  clear er
  have J_77 : ∀ (z : Sg) (y2 : Int32) (H : Heap) (locs : List Loc) (ls : Array Slot), Wd D (wM g) (tM g) A s H locs z → lv_has ls 3 [(2, .int y2)] → f_X5_statusOf_77 z y2 = r → W p l e R s m args below meth c H locs 0 0 (MQ below (CQ D (wM g) A (some (.int r.1)) r.2) args s 0 0 A) (F0 m 77 ls []) := by
    intro z y2 H locs ls hW hl hf
    unfold f_X5_statusOf_77 at hf
    refine lv_iload_n hx hb dX5_statusOf_77 rfl (lv_at hl 0 rfl) ?_
    refine lv_bipush (v := 8) hx hb dX5_statusOf_78 (by decide) ?_
    refine lv_iadd hx hb dX5_statusOf_80 ?_
    refine lv_goto (tgt := 85) hx hb dX5_statusOf_81 (by decide) ?_
    subst hf
    exact ct_i S hr hlocks hW dX5_statusOf_85
  have J_50 : ∀ (z : Sg) (k0 : Int32) (H : Heap) (locs : List Loc) (ls : Array Slot), Wd D (wM g) (tM g) A s H locs z → lv_has ls 3 [(0, .ref (g.1 0))] → f_X5_statusOf_50 z k0 = r → W p l e R s m args below meth c H locs 0 0 (MQ below (CQ D (wM g) A (some (.int r.1)) r.2) args s 0 0 A) (F0 m 50 ls [.int k0]) := by
    intro z k0 H locs ls hW hl hf
    unfold f_X5_statusOf_50 at hf
    refine lv_istore_n (lv' := [(2, .int k0), (0, .ref (g.1 0))]) hx hb dX5_statusOf_50 rfl hl (by decide) rfl (fun ls hl => ?_)
    refine lv_aload_n hx hb dX5_statusOf_51 rfl (lv_at hl 1 rfl) ?_
    refine gX5_variables S hW kf_X5_16 dX5_statusOf_52 ?_
    refine lv_iconst (v := 0) hx hb dX5_statusOf_55 (by decide) ?_
    refine aM2 S hW (vi_of (M := 4) (by decide) (by decide) (by decide)) dX5_statusOf_56 ?_
    refine lv_aload_n hx hb dX5_statusOf_57 rfl (lv_at hl 1 rfl) ?_
    refine gX5_lower S hW kf_X5_102 dX5_statusOf_58 ?_
    refine lv_icmp_lt (tgt := 77) hx hb dX5_statusOf_61 (by decide) (fun c26 => ?_) (fun c26 => ?_)
    · replace hf := if_t c26 hf
      exact J_77 z k0 _ _ ls hW (lv_sub hl [0] rfl) hf
    · replace hf := if_f c26 hf
      refine lv_aload_n hx hb dX5_statusOf_64 rfl (lv_at hl 1 rfl) ?_
      refine gX5_variables S hW kf_X5_16 dX5_statusOf_65 ?_
      refine lv_iconst (v := 0) hx hb dX5_statusOf_68 (by decide) ?_
      refine aM2 S hW (vi_of (M := 4) (by decide) (by decide) (by decide)) dX5_statusOf_69 ?_
      refine lv_aload_n hx hb dX5_statusOf_70 rfl (lv_at hl 1 rfl) ?_
      refine gX5_upper S hW kf_X5_19 dX5_statusOf_71 ?_
      refine lv_icmp_le (tgt := 84) hx hb dX5_statusOf_74 (by decide) (fun c27 => ?_) (fun c27 => ?_)
      · replace hf := if_t c27 hf
        refine lv_iload_n hx hb dX5_statusOf_84 rfl (lv_at hl 0 rfl) ?_
        subst hf
        exact ct_i S hr hlocks hW dX5_statusOf_85
      · replace hf := if_f c27 hf
        exact J_77 z k0 _ _ ls hW (lv_sub hl [0] rfl) hf
  have J_32 : ∀ (z : Sg) (y1 : Int32) (k0 : Int32) (H : Heap) (locs : List Loc) (ls : Array Slot), Wd D (wM g) (tM g) A s H locs z → lv_has ls 3 [(0, .ref (g.1 0)), (1, .int y1)] → s_X5_statusOf_32 z y1 k0 → f_X5_statusOf_32 z y1 k0 = r → W p l e R s m args below meth c H locs 0 0 (MQ below (CQ D (wM g) A (some (.int r.1)) r.2) args s 0 0 A) (F0 m 32 ls [.int k0]) := by
    intro z y1 k0 H locs ls hW hl hs hf
    unfold f_X5_statusOf_32 at hf
    unfold s_X5_statusOf_32 at hs
    refine lv_istore_n (lv' := [(2, .int k0), (0, .ref (g.1 0)), (1, .int y1)]) hx hb dX5_statusOf_32 rfl hl (by decide) rfl (fun ls hl => ?_)
    refine lv_aload_n hx hb dX5_statusOf_33 rfl (lv_at hl 1 rfl) ?_
    refine gX5_isCold S hW kf_X5_27 dX5_statusOf_34 ?_
    refine lv_iload_n hx hb dX5_statusOf_37 rfl (lv_at hl 2 rfl) ?_
    obtain ⟨q24, hs⟩ := hs
    refine aM4 S hW q24 dX5_statusOf_38 ?_
    refine lv_if_eq (tgt := 49) hx hb dX5_statusOf_39 (by decide) (fun c25 => ?_) (fun c25 => ?_)
    · replace hf := if_t c25 hf
      replace hs := hs.1 c25
      refine lv_iload_n hx hb dX5_statusOf_49 rfl (lv_at hl 0 rfl) ?_
      exact J_50 z k0 _ _ ls hW (lv_sub hl [1] rfl) hf
    · replace hf := if_f c25 hf
      replace hs := hs.2 c25
      refine lv_iload_n hx hb dX5_statusOf_42 rfl (lv_at hl 0 rfl) ?_
      refine lv_bipush (v := 32) hx hb dX5_statusOf_43 (by decide) ?_
      refine lv_iadd hx hb dX5_statusOf_45 ?_
      refine lv_goto (tgt := 50) hx hb dX5_statusOf_46 (by decide) ?_
      exact J_50 z (k0 + 32) _ _ ls hW (lv_sub hl [1] rfl) hf
  have J_14 : ∀ (z : Sg) (y1 : Int32) (k0 : Int32) (H : Heap) (locs : List Loc) (ls : Array Slot), Wd D (wM g) (tM g) A s H locs z → lv_has ls 3 [(0, .ref (g.1 0)), (1, .int y1)] → s_X5_statusOf_14 z y1 k0 → f_X5_statusOf_14 z y1 k0 = r → W p l e R s m args below meth c H locs 0 0 (MQ below (CQ D (wM g) A (some (.int r.1)) r.2) args s 0 0 A) (F0 m 14 ls [.int k0]) := by
    intro z y1 k0 H locs ls hW hl hs hf
    unfold f_X5_statusOf_14 at hf
    unfold s_X5_statusOf_14 at hs
    refine lv_istore_n (lv' := [(2, .int k0), (0, .ref (g.1 0)), (1, .int y1)]) hx hb dX5_statusOf_14 rfl hl (by decide) rfl (fun ls hl => ?_)
    refine lv_aload_n hx hb dX5_statusOf_15 rfl (lv_at hl 1 rfl) ?_
    refine gX5_isChanged S hW kf_X5_23 dX5_statusOf_16 ?_
    refine lv_iload_n hx hb dX5_statusOf_19 rfl (lv_at hl 2 rfl) ?_
    obtain ⟨q22, hs⟩ := hs
    refine aM3 S hW q22 dX5_statusOf_20 ?_
    refine lv_if_eq (tgt := 31) hx hb dX5_statusOf_21 (by decide) (fun c23 => ?_) (fun c23 => ?_)
    · replace hf := if_t c23 hf
      replace hs := hs.1 c23
      refine lv_iload_n hx hb dX5_statusOf_31 rfl (lv_at hl 0 rfl) ?_
      exact J_32 z y1 k0 _ _ ls hW (lv_sub hl [1, 2] rfl) hs hf
    · replace hf := if_f c23 hf
      replace hs := hs.2 c23
      refine lv_iload_n hx hb dX5_statusOf_24 rfl (lv_at hl 0 rfl) ?_
      refine lv_bipush (v := 64) hx hb dX5_statusOf_25 (by decide) ?_
      refine lv_iadd hx hb dX5_statusOf_27 ?_
      refine lv_goto (tgt := 32) hx hb dX5_statusOf_28 (by decide) ?_
      exact J_32 z y1 (k0 + 64) _ _ ls hW (lv_sub hl [1, 2] rfl) hs hf
  unfold f_X5_statusOf at hf
  unfold s_X5_statusOf at hs
  refine lv_aload_n hx hb dX5_statusOf_0 rfl (lv_at hl 0 rfl) ?_
  refine gX5_hasFailed S hW kf_X5_130 dX5_statusOf_1 ?_
  refine lv_if_eq (tgt := 13) hx hb dX5_statusOf_4 (by decide) (fun c21 => ?_) (fun c21 => ?_)
  · replace hf := if_t c21 hf
    replace hs := hs.1 c21
    refine lv_iconst (v := 0) hx hb dX5_statusOf_13 (by decide) ?_
    exact J_14 z x1 0 _ _ ls hW (lv_sub hl [0, 1] rfl) hs hf
  · replace hf := if_f c21 hf
    replace hs := hs.2 c21
    refine lv_sipush (v := 128) hx hb dX5_statusOf_7 (by decide) ?_
    refine lv_goto (tgt := 14) hx hb dX5_statusOf_10 (by decide) ?_
    exact J_14 z x1 128 _ _ ls hW (lv_sub hl [0, 1] rfl) hs hf
def f_X5_send_192 : Nat → Sg → Int32 → Int32 → Sg
  | 0, z, _, _ => z
  | n + 1, z, y9, y10 => (if (gI z 11) ≤ y10 then bd (f_X5_put z y9) (fun z70 => z70) else bd (y9 ^^^ (gA z 6 (Int32.toNatClampNeg y10))) (fun x72 => bd (y10 + 1) (fun x73 => f_X5_send_192 n z x72 x73)))
def s_X5_send_192 : Nat → Sg → Int32 → Int32 → Prop
  | 0, _, _, _ => False
  | n + 1, z, y9, y10 => ((gI z 11) ≤ y10 → (s_X5_put z y9) ∧ True) ∧ (¬ (gI z 11) ≤ y10 → (vp_in y10 64) ∧ bd (y9 ^^^ (gA z 6 (Int32.toNatClampNeg y10))) (fun x72 => bd (y10 + 1) (fun x73 => s_X5_send_192 n z x72 x73)))
def f_X5_send_170 (z : Sg) (y8 : Int32) : Sg := bd (pA z 6 (Int32.toNatClampNeg y8) (((gI z 11) - y8) - 1)) (fun z67 => f_X5_send_192 64 z67 0 5)
def s_X5_send_170 (z : Sg) (y8 : Int32) : Prop := (vp_in y8 64) ∧ bd (pA z 6 (Int32.toNatClampNeg y8) (((gI z 11) - y8) - 1)) (fun z67 => s_X5_send_192 64 z67 0 5)
def f_X5_send_129 (z : Sg) (y2 : Int32) (y3 : Int32) (y4 : Int32) : Sg := bd (f_X5_put z y3) (fun z53 => bd (gI z53 11) (fun x54 => bd (f_X5_put z53 0) (fun z56 => bd (f_X5_put z56 y4) (fun z58 => bd (f_X5_statusOf z58 y2) (fun r60 => bd (f_X5_put r60.2 r60.1) (fun z62 => (if y4 = 0 then bd (f_X5_putData z62 y3) (fun z65 => f_X5_send_170 z65 x54) else f_X5_send_170 z62 x54)))))))
def s_X5_send_129 (z : Sg) (y2 : Int32) (y3 : Int32) (y4 : Int32) : Prop := (s_X5_put z y3) ∧ bd (f_X5_put z y3) (fun z53 => bd (gI z53 11) (fun x54 => (s_X5_put z53 0) ∧ bd (f_X5_put z53 0) (fun z56 => (s_X5_put z56 y4) ∧ bd (f_X5_put z56 y4) (fun z58 => (s_X5_statusOf z58 y2) ∧ bd (f_X5_statusOf z58 y2) (fun r60 => (s_X5_put r60.2 r60.1) ∧ bd (f_X5_put r60.2 r60.1) (fun z62 => (y4 = 0 → (s_X5_putData z62 y3) ∧ bd (f_X5_putData z62 y3) (fun z65 => s_X5_send_170 z65 x54)) ∧ (¬ y4 = 0 → s_X5_send_170 z62 x54)))))))
def f_X5_send_94 (z : Sg) (y1 : Int32) (y2 : Int32) (y3 : Int32) (y4 : Int32) (k1 : Int32) : Sg := bd (f_X5_put z k1) (fun z39 => (if y1 = 6 then f_X5_send_129 z39 y2 y3 y4 else bd (f_X5_put z39 (gA z39 0 (Int32.toNatClampNeg 1))) (fun z42 => (if y1 = 6 then f_X5_send_129 z42 y2 y3 y4 else bd (f_X5_put z42 (gA z42 0 (Int32.toNatClampNeg 2))) (fun z45 => (if y1 = 6 then f_X5_send_129 z45 y2 y3 y4 else bd (f_X5_put z45 (gA z45 0 (Int32.toNatClampNeg 3))) (fun z48 => (if y1 = 6 then f_X5_send_129 z48 y2 y3 y4 else bd (f_X5_put z48 (gA z48 0 (Int32.toNatClampNeg 4))) (fun z51 => f_X5_send_129 z51 y2 y3 y4)))))))))
def s_X5_send_94 (z : Sg) (y1 : Int32) (y2 : Int32) (y3 : Int32) (y4 : Int32) (k1 : Int32) : Prop := (s_X5_put z k1) ∧ bd (f_X5_put z k1) (fun z39 => (y1 = 6 → s_X5_send_129 z39 y2 y3 y4) ∧ (¬ y1 = 6 → (s_X5_put z39 (gA z39 0 (Int32.toNatClampNeg 1))) ∧ bd (f_X5_put z39 (gA z39 0 (Int32.toNatClampNeg 1))) (fun z42 => (y1 = 6 → s_X5_send_129 z42 y2 y3 y4) ∧ (¬ y1 = 6 → (s_X5_put z42 (gA z42 0 (Int32.toNatClampNeg 2))) ∧ bd (f_X5_put z42 (gA z42 0 (Int32.toNatClampNeg 2))) (fun z45 => (y1 = 6 → s_X5_send_129 z45 y2 y3 y4) ∧ (¬ y1 = 6 → (s_X5_put z45 (gA z45 0 (Int32.toNatClampNeg 3))) ∧ bd (f_X5_put z45 (gA z45 0 (Int32.toNatClampNeg 3))) (fun z48 => (y1 = 6 → s_X5_send_129 z48 y2 y3 y4) ∧ (¬ y1 = 6 → (s_X5_put z48 (gA z48 0 (Int32.toNatClampNeg 4))) ∧ bd (f_X5_put z48 (gA z48 0 (Int32.toNatClampNeg 4))) (fun z51 => s_X5_send_129 z51 y2 y3 y4)))))))))
def f_X5_send_74 (z : Sg) (y1 : Int32) (y2 : Int32) (y3 : Int32) (y4 : Int32) (k0 : Int32) : Sg := (if (gI z 6) = 0 then f_X5_send_94 z y1 y2 y3 y4 k0 else f_X5_send_94 z y1 y2 y3 y4 (k0 + 64))
def s_X5_send_74 (z : Sg) (y1 : Int32) (y2 : Int32) (y3 : Int32) (y4 : Int32) (k0 : Int32) : Prop := ((gI z 6) = 0 → s_X5_send_94 z y1 y2 y3 y4 k0) ∧ (¬ (gI z 6) = 0 → s_X5_send_94 z y1 y2 y3 y4 (k0 + 64))
def f_X5_send_57 (z : Sg) (y1 : Int32) (y2 : Int32) (y3 : Int32) (y4 : Int32) (k0 : Int32) : Sg := (if y2 = 0 then f_X5_send_74 z y1 y2 y3 y4 (k0 + 128) else f_X5_send_74 z y1 y2 y3 y4 k0)
def s_X5_send_57 (z : Sg) (y1 : Int32) (y2 : Int32) (y3 : Int32) (y4 : Int32) (k0 : Int32) : Prop := (y2 = 0 → s_X5_send_74 z y1 y2 y3 y4 (k0 + 128)) ∧ (¬ y2 = 0 → s_X5_send_74 z y1 y2 y3 y4 k0)
def f_X5_send (z : Sg) (x1 : Int32) (x2 : Int32) (x3 : Int32) (x4 : Int32) (x5 : Int64) : Sg := bd (pI z 11 0) (fun z21 => bd (pL z21 0 x5) (fun z22 => bd (f_X5_put z22 255) (fun z24 => bd (f_X5_put z24 255) (fun z26 => bd (f_X5_put z26 255) (fun z28 => bd (f_X5_put z28 255) (fun z30 => bd (f_X5_put z30 255) (fun z32 => bd (f_X5_put z32 x1) (fun z34 => (if x1 = 6 then f_X5_send_57 z34 x1 x2 x3 x4 (gI z34 1) else f_X5_send_57 z34 x1 x2 x3 x4 (gA z34 0 (Int32.toNatClampNeg 0)))))))))))
def s_X5_send (z : Sg) (x1 : Int32) (x2 : Int32) (x3 : Int32) (x4 : Int32) (x5 : Int64) : Prop := bd (pI z 11 0) (fun z21 => bd (pL z21 0 x5) (fun z22 => (s_X5_put z22 255) ∧ bd (f_X5_put z22 255) (fun z24 => (s_X5_put z24 255) ∧ bd (f_X5_put z24 255) (fun z26 => (s_X5_put z26 255) ∧ bd (f_X5_put z26 255) (fun z28 => (s_X5_put z28 255) ∧ bd (f_X5_put z28 255) (fun z30 => (s_X5_put z30 255) ∧ bd (f_X5_put z30 255) (fun z32 => (s_X5_put z32 x1) ∧ bd (f_X5_put z32 x1) (fun z34 => (x1 = 6 → s_X5_send_57 z34 x1 x2 x3 x4 (gI z34 1)) ∧ (¬ x1 = 6 → s_X5_send_57 z34 x1 x2 x3 x4 (gA z34 0 (Int32.toNatClampNeg 0)))))))))))
theorem hd_X5_send : yX5_send.cls = RX5 ∧ yX5_send.cls ≠ "java/lang/invoke/MethodHandle" ∧ yX5_send.cls ≠ "java/lang/invoke/VarHandle" ∧ (parseMethodDescriptor yX5_send.desc).map (fun d => d.parameters.length) = some 5 := by decide +kernel
set_option maxHeartbeats 4000000 in
set_option maxRecDepth 100000 in
theorem c_X5_send (l : Launch) (D : va_G) (g : Gv) (z : Sg) (x1 : Int32) (x2 : Int32) (x3 : Int32) (x4 : Int32) (x5 : Int64) {r : Sg} (er : r = f_X5_send z x1 x2 x3 x4 x5) (hs : s_X5_send z x1 x2 x3 x4 x5) : CT D (wM g) (tM g) l yX5_send (wG yX5_send cX5_send 11 none) { frames := 4, cells := 0, slots := 0, locals := 88 } [.ref (g.1 0), .int x1, .int x2, .int x3, .int x4, .long x5] z none r := by
  refine CT.ofW (by decide) (Nat.le_of_ble_eq_true rfl) ?_
  intro p e R s m args below meth c A hR S hr hlocks hA hW ls hl
  have S : CallFix p m c cX5_send 11 s args wsL_law RX5 := S
  have hl : lv_has ls 11 [(0, .ref (g.1 0)), (1, .int x1), (2, .int x2), (3, .int x3), (4, .int x4), (5, .long x5)] := hl
  have hx := S.1
  have hb := S.2.1
  have hf := er.symm
  clear er
  have J_192 : ∀ (n : Nat) (z : Sg) (y9 : Int32) (y10 : Int32) (H : Heap) (locs : List Loc) (ls : Array Slot), Wd D (wM g) (tM g) A s H locs z → lv_has ls 11 [(0, .ref (g.1 0)), (9, .int y9), (10, .int y10)] → s_X5_send_192 n z y9 y10 → f_X5_send_192 n z y9 y10 = r → W p l e R s m args below meth c H locs 0 0 (MQ below (CQ D (wM g) A none r) args s 0 0 A) (F0 m 192 ls []) := by
    intro n
    induction n with
    | zero =>
      intro z y9 y10 H locs ls hW hl hs hf
      exact absurd hs (by rw [s_X5_send_192]; exact id)
    | succ n ih =>
      intro z y9 y10 H locs ls hW hl hs hf
      rw [f_X5_send_192] at hf
      rw [s_X5_send_192] at hs
      refine lv_iload hx hb dX5_send_192 (lv_at hl 2 rfl) ?_
      refine lv_aload_n hx hb dX5_send_194 rfl (lv_at hl 0 rfl) ?_
      refine gX5_outSize S hW kf_X5_109 dX5_send_195 ?_
      refine lv_icmp_ge (tgt := 219) hx hb dX5_send_198 (by decide) (fun c68 => ?_) (fun c68 => ?_)
      · replace hf := if_t c68 hf
        replace hs := hs.1 c68
        refine lv_aload_n hx hb dX5_send_219 rfl (lv_at hl 0 rfl) ?_
        refine lv_iload hx hb dX5_send_220 (lv_at hl 1 rfl) ?_
        obtain ⟨q69, hs⟩ := hs
        obtain ⟨z70, ez70, hf⟩ := bd_e hf
        refine ct_V (As := [.int y9]) (rest := []) (st1 := []) (q0 := 0) (ci := 5) S hA hW (c_X5_put l D g z y9 ez70 q69) (wG_V km_X5_112 ki_yX5_put ks_yX5_put kn_X5 kc_yX5_put) ⟨rfl, rfl⟩ hd_X5_put (by rw [hR]; exact ⟨Nat.le_of_ble_eq_true rfl, Nat.le_of_ble_eq_true rfl⟩) rfl rfl rfl rfl hl.1 rfl (Nat.le_of_ble_eq_true rfl) ⟨Nat.zero_le _, Nat.zero_le _⟩ dX5_send_222 rfl (fun H locs hW => ?_)
        subst hf
        exact ct_v S hr hlocks hW dX5_send_225
      · replace hf := if_f c68 hf
        replace hs := hs.2 c68
        refine lv_iload hx hb dX5_send_201 (lv_at hl 1 rfl) ?_
        refine lv_aload_n hx hb dX5_send_203 rfl (lv_at hl 0 rfl) ?_
        refine gX5_out S hW kf_X5_36 dX5_send_204 ?_
        refine lv_iload hx hb dX5_send_207 (lv_at hl 2 rfl) ?_
        obtain ⟨q71, hs⟩ := hs
        refine aM6 S hW q71 dX5_send_209 ?_
        refine lv_ixor hx hb dX5_send_210 ?_
        obtain ⟨x72, ex72, hf⟩ := bd_e hf
        replace hs := bd_s ex72 hs
        refine lv_nmi ex72 ?_
        refine lv_istore (lv' := [(9, .int x72), (0, .ref (g.1 0)), (10, .int y10)]) hx hb dX5_send_211 hl (by decide) rfl (fun ls hl => ?_)
        obtain ⟨x73, ex73, hf⟩ := bd_e hf
        replace hs := bd_s ex73 hs
        refine lv_iinc (v := x73) (lv' := [(10, .int x73), (9, .int x72), (0, .ref (g.1 0))]) hx hb dX5_send_213 hl (k := 2) rfl ex73.symm (by decide) rfl (fun ls hl => ?_)
        refine lv_goto (tgt := 192) hx hb dX5_send_216 (by decide) ?_
        exact ih z x72 x73 _ _ ls hW (lv_sub hl [2, 1, 0] rfl) hs hf
  have J_170 : ∀ (z : Sg) (y8 : Int32) (H : Heap) (locs : List Loc) (ls : Array Slot), Wd D (wM g) (tM g) A s H locs z → lv_has ls 11 [(0, .ref (g.1 0)), (8, .int y8)] → s_X5_send_170 z y8 → f_X5_send_170 z y8 = r → W p l e R s m args below meth c H locs 0 0 (MQ below (CQ D (wM g) A none r) args s 0 0 A) (F0 m 170 ls []) := by
    intro z y8 H locs ls hW hl hs hf
    unfold f_X5_send_170 at hf
    unfold s_X5_send_170 at hs
    refine lv_aload_n hx hb dX5_send_170 rfl (lv_at hl 0 rfl) ?_
    refine gX5_out S hW kf_X5_36 dX5_send_171 ?_
    refine lv_iload hx hb dX5_send_174 (lv_at hl 1 rfl) ?_
    refine lv_aload_n hx hb dX5_send_176 rfl (lv_at hl 0 rfl) ?_
    refine gX5_outSize S hW kf_X5_109 dX5_send_177 ?_
    refine lv_iload hx hb dX5_send_180 (lv_at hl 1 rfl) ?_
    refine lv_isub hx hb dX5_send_182 ?_
    refine lv_iconst (v := 1) hx hb dX5_send_183 (by decide) ?_
    refine lv_isub hx hb dX5_send_184 ?_
    obtain ⟨q66, hs⟩ := hs
    obtain ⟨z67, ez67, hf⟩ := bd_e hf
    replace hs := bd_s ez67 hs
    refine sM6 S hW q66 dX5_send_185 ez67 (fun H locs hW => ?_)
    refine lv_iconst (v := 0) hx hb dX5_send_186 (by decide) ?_
    refine lv_istore (lv' := [(9, .int 0), (0, .ref (g.1 0)), (8, .int y8)]) hx hb dX5_send_187 hl (by decide) rfl (fun ls hl => ?_)
    refine lv_iconst (v := 5) hx hb dX5_send_189 (by decide) ?_
    refine lv_istore (lv' := [(10, .int 5), (9, .int 0), (0, .ref (g.1 0)), (8, .int y8)]) hx hb dX5_send_190 hl (by decide) rfl (fun ls hl => ?_)
    exact (J_192 64) z67 0 5 _ _ ls hW (lv_sub hl [2, 1, 0] rfl) hs hf
  have J_129 : ∀ (z : Sg) (y2 : Int32) (y3 : Int32) (y4 : Int32) (H : Heap) (locs : List Loc) (ls : Array Slot), Wd D (wM g) (tM g) A s H locs z → lv_has ls 11 [(0, .ref (g.1 0)), (2, .int y2), (3, .int y3), (4, .int y4)] → s_X5_send_129 z y2 y3 y4 → f_X5_send_129 z y2 y3 y4 = r → W p l e R s m args below meth c H locs 0 0 (MQ below (CQ D (wM g) A none r) args s 0 0 A) (F0 m 129 ls []) := by
    intro z y2 y3 y4 H locs ls hW hl hs hf
    unfold f_X5_send_129 at hf
    unfold s_X5_send_129 at hs
    refine lv_aload_n hx hb dX5_send_129 rfl (lv_at hl 0 rfl) ?_
    refine lv_iload_n hx hb dX5_send_130 rfl (lv_at hl 2 rfl) ?_
    obtain ⟨q52, hs⟩ := hs
    obtain ⟨z53, ez53, hf⟩ := bd_e hf
    replace hs := bd_s ez53 hs
    refine ct_V (As := [.int y3]) (rest := []) (st1 := []) (q0 := 0) (ci := 5) S hA hW (c_X5_put l D g z y3 ez53 q52) (wG_V km_X5_112 ki_yX5_put ks_yX5_put kn_X5 kc_yX5_put) ⟨rfl, rfl⟩ hd_X5_put (by rw [hR]; exact ⟨Nat.le_of_ble_eq_true rfl, Nat.le_of_ble_eq_true rfl⟩) rfl rfl rfl rfl hl.1 rfl (Nat.le_of_ble_eq_true rfl) ⟨Nat.zero_le _, Nat.zero_le _⟩ dX5_send_131 rfl (fun H locs hW => ?_)
    refine lv_aload_n hx hb dX5_send_134 rfl (lv_at hl 0 rfl) ?_
    refine gX5_outSize S hW kf_X5_109 dX5_send_135 ?_
    obtain ⟨x54, ex54, hf⟩ := bd_e hf
    replace hs := bd_s ex54 hs
    refine lv_nmi ex54 ?_
    refine lv_istore (lv' := [(8, .int x54), (0, .ref (g.1 0)), (2, .int y2), (3, .int y3), (4, .int y4)]) hx hb dX5_send_138 hl (by decide) rfl (fun ls hl => ?_)
    refine lv_aload_n hx hb dX5_send_140 rfl (lv_at hl 1 rfl) ?_
    refine lv_iconst (v := 0) hx hb dX5_send_141 (by decide) ?_
    obtain ⟨q55, hs⟩ := hs
    obtain ⟨z56, ez56, hf⟩ := bd_e hf
    replace hs := bd_s ez56 hs
    refine ct_V (As := [.int 0]) (rest := []) (st1 := []) (q0 := 0) (ci := 5) S hA hW (c_X5_put l D g z53 0 ez56 q55) (wG_V km_X5_112 ki_yX5_put ks_yX5_put kn_X5 kc_yX5_put) ⟨rfl, rfl⟩ hd_X5_put (by rw [hR]; exact ⟨Nat.le_of_ble_eq_true rfl, Nat.le_of_ble_eq_true rfl⟩) rfl rfl rfl rfl hl.1 rfl (Nat.le_of_ble_eq_true rfl) ⟨Nat.zero_le _, Nat.zero_le _⟩ dX5_send_142 rfl (fun H locs hW => ?_)
    refine lv_aload_n hx hb dX5_send_145 rfl (lv_at hl 1 rfl) ?_
    refine lv_iload hx hb dX5_send_146 (lv_at hl 4 rfl) ?_
    obtain ⟨q57, hs⟩ := hs
    obtain ⟨z58, ez58, hf⟩ := bd_e hf
    replace hs := bd_s ez58 hs
    refine ct_V (As := [.int y4]) (rest := []) (st1 := []) (q0 := 0) (ci := 5) S hA hW (c_X5_put l D g z56 y4 ez58 q57) (wG_V km_X5_112 ki_yX5_put ks_yX5_put kn_X5 kc_yX5_put) ⟨rfl, rfl⟩ hd_X5_put (by rw [hR]; exact ⟨Nat.le_of_ble_eq_true rfl, Nat.le_of_ble_eq_true rfl⟩) rfl rfl rfl rfl hl.1 rfl (Nat.le_of_ble_eq_true rfl) ⟨Nat.zero_le _, Nat.zero_le _⟩ dX5_send_148 rfl (fun H locs hW => ?_)
    refine lv_aload_n hx hb dX5_send_151 rfl (lv_at hl 1 rfl) ?_
    refine lv_aload_n hx hb dX5_send_152 rfl (lv_at hl 1 rfl) ?_
    refine lv_iload_n hx hb dX5_send_153 rfl (lv_at hl 2 rfl) ?_
    obtain ⟨q59, hs⟩ := hs
    obtain ⟨r60, er60, hf⟩ := bd_e hf
    replace hs := bd_s er60 hs
    refine ct_V (As := [.int y2]) (rest := [.ref (g.1 0)]) (st1 := [.int r60.1, .ref (g.1 0)]) (q0 := 0) (ci := 5) S hA hW (c_X5_statusOf l D g z58 y2 er60 q59) (wG_V km_X5_136 ki_yX5_statusOf ks_yX5_statusOf kn_X5 kc_yX5_statusOf) ⟨rfl, rfl⟩ hd_X5_statusOf (by rw [hR]; exact ⟨Nat.le_of_ble_eq_true rfl, Nat.le_of_ble_eq_true rfl⟩) rfl rfl rfl rfl hl.1 rfl (Nat.le_of_ble_eq_true rfl) ⟨Nat.zero_le _, Nat.zero_le _⟩ dX5_send_154 rfl (fun H locs hW => ?_)
    obtain ⟨q61, hs⟩ := hs
    obtain ⟨z62, ez62, hf⟩ := bd_e hf
    replace hs := bd_s ez62 hs
    refine ct_V (As := [.int r60.1]) (rest := []) (st1 := []) (q0 := 0) (ci := 5) S hA hW (c_X5_put l D g r60.2 r60.1 ez62 q61) (wG_V km_X5_112 ki_yX5_put ks_yX5_put kn_X5 kc_yX5_put) ⟨rfl, rfl⟩ hd_X5_put (by rw [hR]; exact ⟨Nat.le_of_ble_eq_true rfl, Nat.le_of_ble_eq_true rfl⟩) rfl rfl rfl rfl hl.1 rfl (Nat.le_of_ble_eq_true rfl) ⟨Nat.zero_le _, Nat.zero_le _⟩ dX5_send_157 rfl (fun H locs hW => ?_)
    refine lv_iload hx hb dX5_send_160 (lv_at hl 4 rfl) ?_
    refine lv_if_ne (tgt := 170) hx hb dX5_send_162 (by decide) (fun c63 => ?_) (fun c63 => ?_)
    · replace hf := if_f c63 hf
      replace hs := hs.2 c63
      exact J_170 z62 x54 _ _ ls hW (lv_sub hl [1, 0] rfl) hs hf
    · replace hf := if_t c63 hf
      replace hs := hs.1 c63
      refine lv_aload_n hx hb dX5_send_165 rfl (lv_at hl 1 rfl) ?_
      refine lv_iload_n hx hb dX5_send_166 rfl (lv_at hl 3 rfl) ?_
      obtain ⟨q64, hs⟩ := hs
      obtain ⟨z65, ez65, hf⟩ := bd_e hf
      replace hs := bd_s ez65 hs
      refine ct_V (As := [.int y3]) (rest := []) (st1 := []) (q0 := 0) (ci := 5) S hA hW (c_X5_putData l D g z62 y3 ez65 q64) (wG_V km_X5_139 ki_yX5_putData ks_yX5_putData kn_X5 kc_yX5_putData) ⟨rfl, rfl⟩ hd_X5_putData (by rw [hR]; exact ⟨Nat.le_of_ble_eq_true rfl, Nat.le_of_ble_eq_true rfl⟩) rfl rfl rfl rfl hl.1 rfl (Nat.le_of_ble_eq_true rfl) ⟨Nat.zero_le _, Nat.zero_le _⟩ dX5_send_167 rfl (fun H locs hW => ?_)
      exact J_170 z65 x54 _ _ ls hW (lv_sub hl [1, 0] rfl) hs hf
  have J_94 : ∀ (z : Sg) (y1 : Int32) (y2 : Int32) (y3 : Int32) (y4 : Int32) (k1 : Int32) (H : Heap) (locs : List Loc) (ls : Array Slot), Wd D (wM g) (tM g) A s H locs z → lv_has ls 11 [(0, .ref (g.1 0)), (1, .int y1), (2, .int y2), (3, .int y3), (4, .int y4)] → s_X5_send_94 z y1 y2 y3 y4 k1 → f_X5_send_94 z y1 y2 y3 y4 k1 = r → W p l e R s m args below meth c H locs 0 0 (MQ below (CQ D (wM g) A none r) args s 0 0 A) (F0 m 94 ls [.int k1, .ref (g.1 0)]) := by
    intro z y1 y2 y3 y4 k1 H locs ls hW hl hs hf
    unfold f_X5_send_94 at hf
    unfold s_X5_send_94 at hs
    obtain ⟨q38, hs⟩ := hs
    obtain ⟨z39, ez39, hf⟩ := bd_e hf
    replace hs := bd_s ez39 hs
    refine ct_V (As := [.int k1]) (rest := []) (st1 := []) (q0 := 0) (ci := 5) S hA hW (c_X5_put l D g z k1 ez39 q38) (wG_V km_X5_112 ki_yX5_put ks_yX5_put kn_X5 kc_yX5_put) ⟨rfl, rfl⟩ hd_X5_put (by rw [hR]; exact ⟨Nat.le_of_ble_eq_true rfl, Nat.le_of_ble_eq_true rfl⟩) rfl rfl rfl rfl hl.1 rfl (Nat.le_of_ble_eq_true rfl) ⟨Nat.zero_le _, Nat.zero_le _⟩ dX5_send_94 rfl (fun H locs hW => ?_)
    refine lv_iconst (v := 1) hx hb dX5_send_97 (by decide) ?_
    refine lv_istore (lv' := [(8, .int 1), (0, .ref (g.1 0)), (1, .int y1), (2, .int y2), (3, .int y3), (4, .int y4)]) hx hb dX5_send_98 hl (by decide) rfl (fun ls hl => ?_)
    refine lv_iload hx hb dX5_send_100 (lv_at hl 0 rfl) ?_
    refine lv_iconst (v := 5) hx hb dX5_send_102 (by decide) ?_
    refine lv_icmp_ge (tgt := 129) hx hb dX5_send_103 (by decide) (fun c => absurd c (by decide)) (fun _ => ?_)
    refine lv_iload_n hx hb dX5_send_106 rfl (lv_at hl 2 rfl) ?_
    refine lv_bipush (v := 6) hx hb dX5_send_107 (by decide) ?_
    refine lv_icmp_eq (tgt := 129) hx hb dX5_send_109 (by decide) (fun c40 => ?_) (fun c40 => ?_)
    · replace hf := if_t c40 hf
      replace hs := hs.1 c40
      exact J_129 z39 y2 y3 y4 _ _ ls hW (lv_sub hl [1, 3, 4, 5] rfl) hs hf
    · replace hf := if_f c40 hf
      replace hs := hs.2 c40
      refine lv_aload_n hx hb dX5_send_112 rfl (lv_at hl 1 rfl) ?_
      refine lv_aload_n hx hb dX5_send_113 rfl (lv_at hl 1 rfl) ?_
      refine gX5_own S hW kf_X5_7 dX5_send_114 ?_
      refine lv_iload hx hb dX5_send_117 (lv_at hl 0 rfl) ?_
      refine aM0 S hW (vi_of (M := 5) (by decide) (by decide) (by decide)) dX5_send_119 ?_
      obtain ⟨q41, hs⟩ := hs
      obtain ⟨z42, ez42, hf⟩ := bd_e hf
      replace hs := bd_s ez42 hs
      refine ct_V (As := [.int (gA z39 0 (Int32.toNatClampNeg 1))]) (rest := []) (st1 := []) (q0 := 0) (ci := 5) S hA hW (c_X5_put l D g z39 (gA z39 0 (Int32.toNatClampNeg 1)) ez42 q41) (wG_V km_X5_112 ki_yX5_put ks_yX5_put kn_X5 kc_yX5_put) ⟨rfl, rfl⟩ hd_X5_put (by rw [hR]; exact ⟨Nat.le_of_ble_eq_true rfl, Nat.le_of_ble_eq_true rfl⟩) rfl rfl rfl rfl hl.1 rfl (Nat.le_of_ble_eq_true rfl) ⟨Nat.zero_le _, Nat.zero_le _⟩ dX5_send_120 rfl (fun H locs hW => ?_)
      refine lv_iinc (v := 2) (lv' := [(8, .int 2), (0, .ref (g.1 0)), (1, .int y1), (2, .int y2), (3, .int y3), (4, .int y4)]) hx hb dX5_send_123 hl (k := 0) rfl (by decide) (by decide) rfl (fun ls hl => ?_)
      refine lv_goto (tgt := 100) hx hb dX5_send_126 (by decide) ?_
      refine lv_iload hx hb dX5_send_100 (lv_at hl 0 rfl) ?_
      refine lv_iconst (v := 5) hx hb dX5_send_102 (by decide) ?_
      refine lv_icmp_ge (tgt := 129) hx hb dX5_send_103 (by decide) (fun c => absurd c (by decide)) (fun _ => ?_)
      refine lv_iload_n hx hb dX5_send_106 rfl (lv_at hl 2 rfl) ?_
      refine lv_bipush (v := 6) hx hb dX5_send_107 (by decide) ?_
      refine lv_icmp_eq (tgt := 129) hx hb dX5_send_109 (by decide) (fun c43 => ?_) (fun c43 => ?_)
      · replace hf := if_t c43 hf
        replace hs := hs.1 c43
        exact J_129 z42 y2 y3 y4 _ _ ls hW (lv_sub hl [1, 3, 4, 5] rfl) hs hf
      · replace hf := if_f c43 hf
        replace hs := hs.2 c43
        refine lv_aload_n hx hb dX5_send_112 rfl (lv_at hl 1 rfl) ?_
        refine lv_aload_n hx hb dX5_send_113 rfl (lv_at hl 1 rfl) ?_
        refine gX5_own S hW kf_X5_7 dX5_send_114 ?_
        refine lv_iload hx hb dX5_send_117 (lv_at hl 0 rfl) ?_
        refine aM0 S hW (vi_of (M := 5) (by decide) (by decide) (by decide)) dX5_send_119 ?_
        obtain ⟨q44, hs⟩ := hs
        obtain ⟨z45, ez45, hf⟩ := bd_e hf
        replace hs := bd_s ez45 hs
        refine ct_V (As := [.int (gA z42 0 (Int32.toNatClampNeg 2))]) (rest := []) (st1 := []) (q0 := 0) (ci := 5) S hA hW (c_X5_put l D g z42 (gA z42 0 (Int32.toNatClampNeg 2)) ez45 q44) (wG_V km_X5_112 ki_yX5_put ks_yX5_put kn_X5 kc_yX5_put) ⟨rfl, rfl⟩ hd_X5_put (by rw [hR]; exact ⟨Nat.le_of_ble_eq_true rfl, Nat.le_of_ble_eq_true rfl⟩) rfl rfl rfl rfl hl.1 rfl (Nat.le_of_ble_eq_true rfl) ⟨Nat.zero_le _, Nat.zero_le _⟩ dX5_send_120 rfl (fun H locs hW => ?_)
        refine lv_iinc (v := 3) (lv' := [(8, .int 3), (0, .ref (g.1 0)), (1, .int y1), (2, .int y2), (3, .int y3), (4, .int y4)]) hx hb dX5_send_123 hl (k := 0) rfl (by decide) (by decide) rfl (fun ls hl => ?_)
        refine lv_goto (tgt := 100) hx hb dX5_send_126 (by decide) ?_
        refine lv_iload hx hb dX5_send_100 (lv_at hl 0 rfl) ?_
        refine lv_iconst (v := 5) hx hb dX5_send_102 (by decide) ?_
        refine lv_icmp_ge (tgt := 129) hx hb dX5_send_103 (by decide) (fun c => absurd c (by decide)) (fun _ => ?_)
        refine lv_iload_n hx hb dX5_send_106 rfl (lv_at hl 2 rfl) ?_
        refine lv_bipush (v := 6) hx hb dX5_send_107 (by decide) ?_
        refine lv_icmp_eq (tgt := 129) hx hb dX5_send_109 (by decide) (fun c46 => ?_) (fun c46 => ?_)
        · replace hf := if_t c46 hf
          replace hs := hs.1 c46
          exact J_129 z45 y2 y3 y4 _ _ ls hW (lv_sub hl [1, 3, 4, 5] rfl) hs hf
        · replace hf := if_f c46 hf
          replace hs := hs.2 c46
          refine lv_aload_n hx hb dX5_send_112 rfl (lv_at hl 1 rfl) ?_
          refine lv_aload_n hx hb dX5_send_113 rfl (lv_at hl 1 rfl) ?_
          refine gX5_own S hW kf_X5_7 dX5_send_114 ?_
          refine lv_iload hx hb dX5_send_117 (lv_at hl 0 rfl) ?_
          refine aM0 S hW (vi_of (M := 5) (by decide) (by decide) (by decide)) dX5_send_119 ?_
          obtain ⟨q47, hs⟩ := hs
          obtain ⟨z48, ez48, hf⟩ := bd_e hf
          replace hs := bd_s ez48 hs
          refine ct_V (As := [.int (gA z45 0 (Int32.toNatClampNeg 3))]) (rest := []) (st1 := []) (q0 := 0) (ci := 5) S hA hW (c_X5_put l D g z45 (gA z45 0 (Int32.toNatClampNeg 3)) ez48 q47) (wG_V km_X5_112 ki_yX5_put ks_yX5_put kn_X5 kc_yX5_put) ⟨rfl, rfl⟩ hd_X5_put (by rw [hR]; exact ⟨Nat.le_of_ble_eq_true rfl, Nat.le_of_ble_eq_true rfl⟩) rfl rfl rfl rfl hl.1 rfl (Nat.le_of_ble_eq_true rfl) ⟨Nat.zero_le _, Nat.zero_le _⟩ dX5_send_120 rfl (fun H locs hW => ?_)
          refine lv_iinc (v := 4) (lv' := [(8, .int 4), (0, .ref (g.1 0)), (1, .int y1), (2, .int y2), (3, .int y3), (4, .int y4)]) hx hb dX5_send_123 hl (k := 0) rfl (by decide) (by decide) rfl (fun ls hl => ?_)
          refine lv_goto (tgt := 100) hx hb dX5_send_126 (by decide) ?_
          refine lv_iload hx hb dX5_send_100 (lv_at hl 0 rfl) ?_
          refine lv_iconst (v := 5) hx hb dX5_send_102 (by decide) ?_
          refine lv_icmp_ge (tgt := 129) hx hb dX5_send_103 (by decide) (fun c => absurd c (by decide)) (fun _ => ?_)
          refine lv_iload_n hx hb dX5_send_106 rfl (lv_at hl 2 rfl) ?_
          refine lv_bipush (v := 6) hx hb dX5_send_107 (by decide) ?_
          refine lv_icmp_eq (tgt := 129) hx hb dX5_send_109 (by decide) (fun c49 => ?_) (fun c49 => ?_)
          · replace hf := if_t c49 hf
            replace hs := hs.1 c49
            exact J_129 z48 y2 y3 y4 _ _ ls hW (lv_sub hl [1, 3, 4, 5] rfl) hs hf
          · replace hf := if_f c49 hf
            replace hs := hs.2 c49
            refine lv_aload_n hx hb dX5_send_112 rfl (lv_at hl 1 rfl) ?_
            refine lv_aload_n hx hb dX5_send_113 rfl (lv_at hl 1 rfl) ?_
            refine gX5_own S hW kf_X5_7 dX5_send_114 ?_
            refine lv_iload hx hb dX5_send_117 (lv_at hl 0 rfl) ?_
            refine aM0 S hW (vi_of (M := 5) (by decide) (by decide) (by decide)) dX5_send_119 ?_
            obtain ⟨q50, hs⟩ := hs
            obtain ⟨z51, ez51, hf⟩ := bd_e hf
            replace hs := bd_s ez51 hs
            refine ct_V (As := [.int (gA z48 0 (Int32.toNatClampNeg 4))]) (rest := []) (st1 := []) (q0 := 0) (ci := 5) S hA hW (c_X5_put l D g z48 (gA z48 0 (Int32.toNatClampNeg 4)) ez51 q50) (wG_V km_X5_112 ki_yX5_put ks_yX5_put kn_X5 kc_yX5_put) ⟨rfl, rfl⟩ hd_X5_put (by rw [hR]; exact ⟨Nat.le_of_ble_eq_true rfl, Nat.le_of_ble_eq_true rfl⟩) rfl rfl rfl rfl hl.1 rfl (Nat.le_of_ble_eq_true rfl) ⟨Nat.zero_le _, Nat.zero_le _⟩ dX5_send_120 rfl (fun H locs hW => ?_)
            refine lv_iinc (v := 5) (lv' := [(8, .int 5), (0, .ref (g.1 0)), (1, .int y1), (2, .int y2), (3, .int y3), (4, .int y4)]) hx hb dX5_send_123 hl (k := 0) rfl (by decide) (by decide) rfl (fun ls hl => ?_)
            refine lv_goto (tgt := 100) hx hb dX5_send_126 (by decide) ?_
            refine lv_iload hx hb dX5_send_100 (lv_at hl 0 rfl) ?_
            refine lv_iconst (v := 5) hx hb dX5_send_102 (by decide) ?_
            refine lv_icmp_ge (tgt := 129) hx hb dX5_send_103 (by decide) (fun _ => ?_) (fun c => absurd (by decide) c)
            exact J_129 z51 y2 y3 y4 _ _ ls hW (lv_sub hl [1, 3, 4, 5] rfl) hs hf
  have J_74 : ∀ (z : Sg) (y1 : Int32) (y2 : Int32) (y3 : Int32) (y4 : Int32) (k0 : Int32) (H : Heap) (locs : List Loc) (ls : Array Slot), Wd D (wM g) (tM g) A s H locs z → lv_has ls 11 [(0, .ref (g.1 0)), (1, .int y1), (2, .int y2), (3, .int y3), (4, .int y4)] → s_X5_send_74 z y1 y2 y3 y4 k0 → f_X5_send_74 z y1 y2 y3 y4 k0 = r → W p l e R s m args below meth c H locs 0 0 (MQ below (CQ D (wM g) A none r) args s 0 0 A) (F0 m 74 ls [.int k0]) := by
    intro z y1 y2 y3 y4 k0 H locs ls hW hl hs hf
    unfold f_X5_send_74 at hf
    unfold s_X5_send_74 at hs
    refine lv_istore (lv' := [(7, .int k0), (0, .ref (g.1 0)), (1, .int y1), (2, .int y2), (3, .int y3), (4, .int y4)]) hx hb dX5_send_74 hl (by decide) rfl (fun ls hl => ?_)
    refine lv_aload_n hx hb dX5_send_76 rfl (lv_at hl 1 rfl) ?_
    refine lv_aload_n hx hb dX5_send_77 rfl (lv_at hl 1 rfl) ?_
    refine gX5_isBurst S hW kf_X5_105 dX5_send_78 ?_
    refine lv_if_eq (tgt := 92) hx hb dX5_send_81 (by decide) (fun c37 => ?_) (fun c37 => ?_)
    · replace hf := if_t c37 hf
      replace hs := hs.1 c37
      refine lv_iload hx hb dX5_send_92 (lv_at hl 0 rfl) ?_
      exact J_94 z y1 y2 y3 y4 k0 _ _ ls hW (lv_sub hl [1, 2, 3, 4, 5] rfl) hs hf
    · replace hf := if_f c37 hf
      replace hs := hs.2 c37
      refine lv_iload hx hb dX5_send_84 (lv_at hl 0 rfl) ?_
      refine lv_bipush (v := 64) hx hb dX5_send_86 (by decide) ?_
      refine lv_iadd hx hb dX5_send_88 ?_
      refine lv_goto (tgt := 94) hx hb dX5_send_89 (by decide) ?_
      exact J_94 z y1 y2 y3 y4 (k0 + 64) _ _ ls hW (lv_sub hl [1, 2, 3, 4, 5] rfl) hs hf
  have J_57 : ∀ (z : Sg) (y1 : Int32) (y2 : Int32) (y3 : Int32) (y4 : Int32) (k0 : Int32) (H : Heap) (locs : List Loc) (ls : Array Slot), Wd D (wM g) (tM g) A s H locs z → lv_has ls 11 [(0, .ref (g.1 0)), (1, .int y1), (2, .int y2), (3, .int y3), (4, .int y4)] → s_X5_send_57 z y1 y2 y3 y4 k0 → f_X5_send_57 z y1 y2 y3 y4 k0 = r → W p l e R s m args below meth c H locs 0 0 (MQ below (CQ D (wM g) A none r) args s 0 0 A) (F0 m 57 ls [.int k0]) := by
    intro z y1 y2 y3 y4 k0 H locs ls hW hl hs hf
    unfold f_X5_send_57 at hf
    unfold s_X5_send_57 at hs
    refine lv_istore (lv' := [(7, .int k0), (0, .ref (g.1 0)), (1, .int y1), (2, .int y2), (3, .int y3), (4, .int y4)]) hx hb dX5_send_57 hl (by decide) rfl (fun ls hl => ?_)
    refine lv_iload_n hx hb dX5_send_59 rfl (lv_at hl 3 rfl) ?_
    refine lv_if_ne (tgt := 72) hx hb dX5_send_60 (by decide) (fun c36 => ?_) (fun c36 => ?_)
    · replace hf := if_f c36 hf
      replace hs := hs.2 c36
      refine lv_iload hx hb dX5_send_72 (lv_at hl 0 rfl) ?_
      exact J_74 z y1 y2 y3 y4 k0 _ _ ls hW (lv_sub hl [1, 2, 3, 4, 5] rfl) hs hf
    · replace hf := if_t c36 hf
      replace hs := hs.1 c36
      refine lv_iload hx hb dX5_send_63 (lv_at hl 0 rfl) ?_
      refine lv_sipush (v := 128) hx hb dX5_send_65 (by decide) ?_
      refine lv_iadd hx hb dX5_send_68 ?_
      refine lv_goto (tgt := 74) hx hb dX5_send_69 (by decide) ?_
      exact J_74 z y1 y2 y3 y4 (k0 + 128) _ _ ls hW (lv_sub hl [1, 2, 3, 4, 5] rfl) hs hf
  unfold f_X5_send at hf
  unfold s_X5_send at hs
  refine lv_aload_n hx hb dX5_send_0 rfl (lv_at hl 0 rfl) ?_
  refine lv_iconst (v := 0) hx hb dX5_send_1 (by decide) ?_
  obtain ⟨z21, ez21, hf⟩ := bd_e hf
  replace hs := bd_s ez21 hs
  refine pX5_outSize S hW kf_X5_109 dX5_send_2 ez21 (fun H locs hW => ?_)
  refine lv_aload_n hx hb dX5_send_5 rfl (lv_at hl 0 rfl) ?_
  refine lv_lload hx hb dX5_send_6 (lv_at hl 5 rfl) ?_
  obtain ⟨z22, ez22, hf⟩ := bd_e hf
  replace hs := bd_s ez22 hs
  refine pX5_outFrom S hW kf_X5_41 dX5_send_8 ez22 (fun H locs hW => ?_)
  refine lv_iconst (v := 0) hx hb dX5_send_11 (by decide) ?_
  refine lv_istore (lv' := [(7, .int 0), (0, .ref (g.1 0)), (1, .int x1), (2, .int x2), (3, .int x3), (4, .int x4), (5, .long x5)]) hx hb dX5_send_12 hl (by decide) rfl (fun ls hl => ?_)
  refine lv_iload hx hb dX5_send_14 (lv_at hl 0 rfl) ?_
  refine lv_iconst (v := 5) hx hb dX5_send_16 (by decide) ?_
  refine lv_icmp_ge (tgt := 33) hx hb dX5_send_17 (by decide) (fun c => absurd c (by decide)) (fun _ => ?_)
  refine lv_aload_n hx hb dX5_send_20 rfl (lv_at hl 1 rfl) ?_
  refine lv_sipush (v := 255) hx hb dX5_send_21 (by decide) ?_
  obtain ⟨q23, hs⟩ := hs
  obtain ⟨z24, ez24, hf⟩ := bd_e hf
  replace hs := bd_s ez24 hs
  refine ct_V (As := [.int 255]) (rest := []) (st1 := []) (q0 := 0) (ci := 5) S hA hW (c_X5_put l D g z22 255 ez24 q23) (wG_V km_X5_112 ki_yX5_put ks_yX5_put kn_X5 kc_yX5_put) ⟨rfl, rfl⟩ hd_X5_put (by rw [hR]; exact ⟨Nat.le_of_ble_eq_true rfl, Nat.le_of_ble_eq_true rfl⟩) rfl rfl rfl rfl hl.1 rfl (Nat.le_of_ble_eq_true rfl) ⟨Nat.zero_le _, Nat.zero_le _⟩ dX5_send_24 rfl (fun H locs hW => ?_)
  refine lv_iinc (v := 1) (lv' := [(7, .int 1), (0, .ref (g.1 0)), (1, .int x1), (2, .int x2), (3, .int x3), (4, .int x4), (5, .long x5)]) hx hb dX5_send_27 hl (k := 0) rfl (by decide) (by decide) rfl (fun ls hl => ?_)
  refine lv_goto (tgt := 14) hx hb dX5_send_30 (by decide) ?_
  refine lv_iload hx hb dX5_send_14 (lv_at hl 0 rfl) ?_
  refine lv_iconst (v := 5) hx hb dX5_send_16 (by decide) ?_
  refine lv_icmp_ge (tgt := 33) hx hb dX5_send_17 (by decide) (fun c => absurd c (by decide)) (fun _ => ?_)
  refine lv_aload_n hx hb dX5_send_20 rfl (lv_at hl 1 rfl) ?_
  refine lv_sipush (v := 255) hx hb dX5_send_21 (by decide) ?_
  obtain ⟨q25, hs⟩ := hs
  obtain ⟨z26, ez26, hf⟩ := bd_e hf
  replace hs := bd_s ez26 hs
  refine ct_V (As := [.int 255]) (rest := []) (st1 := []) (q0 := 0) (ci := 5) S hA hW (c_X5_put l D g z24 255 ez26 q25) (wG_V km_X5_112 ki_yX5_put ks_yX5_put kn_X5 kc_yX5_put) ⟨rfl, rfl⟩ hd_X5_put (by rw [hR]; exact ⟨Nat.le_of_ble_eq_true rfl, Nat.le_of_ble_eq_true rfl⟩) rfl rfl rfl rfl hl.1 rfl (Nat.le_of_ble_eq_true rfl) ⟨Nat.zero_le _, Nat.zero_le _⟩ dX5_send_24 rfl (fun H locs hW => ?_)
  refine lv_iinc (v := 2) (lv' := [(7, .int 2), (0, .ref (g.1 0)), (1, .int x1), (2, .int x2), (3, .int x3), (4, .int x4), (5, .long x5)]) hx hb dX5_send_27 hl (k := 0) rfl (by decide) (by decide) rfl (fun ls hl => ?_)
  refine lv_goto (tgt := 14) hx hb dX5_send_30 (by decide) ?_
  refine lv_iload hx hb dX5_send_14 (lv_at hl 0 rfl) ?_
  refine lv_iconst (v := 5) hx hb dX5_send_16 (by decide) ?_
  refine lv_icmp_ge (tgt := 33) hx hb dX5_send_17 (by decide) (fun c => absurd c (by decide)) (fun _ => ?_)
  refine lv_aload_n hx hb dX5_send_20 rfl (lv_at hl 1 rfl) ?_
  refine lv_sipush (v := 255) hx hb dX5_send_21 (by decide) ?_
  obtain ⟨q27, hs⟩ := hs
  obtain ⟨z28, ez28, hf⟩ := bd_e hf
  replace hs := bd_s ez28 hs
  refine ct_V (As := [.int 255]) (rest := []) (st1 := []) (q0 := 0) (ci := 5) S hA hW (c_X5_put l D g z26 255 ez28 q27) (wG_V km_X5_112 ki_yX5_put ks_yX5_put kn_X5 kc_yX5_put) ⟨rfl, rfl⟩ hd_X5_put (by rw [hR]; exact ⟨Nat.le_of_ble_eq_true rfl, Nat.le_of_ble_eq_true rfl⟩) rfl rfl rfl rfl hl.1 rfl (Nat.le_of_ble_eq_true rfl) ⟨Nat.zero_le _, Nat.zero_le _⟩ dX5_send_24 rfl (fun H locs hW => ?_)
  refine lv_iinc (v := 3) (lv' := [(7, .int 3), (0, .ref (g.1 0)), (1, .int x1), (2, .int x2), (3, .int x3), (4, .int x4), (5, .long x5)]) hx hb dX5_send_27 hl (k := 0) rfl (by decide) (by decide) rfl (fun ls hl => ?_)
  refine lv_goto (tgt := 14) hx hb dX5_send_30 (by decide) ?_
  refine lv_iload hx hb dX5_send_14 (lv_at hl 0 rfl) ?_
  refine lv_iconst (v := 5) hx hb dX5_send_16 (by decide) ?_
  refine lv_icmp_ge (tgt := 33) hx hb dX5_send_17 (by decide) (fun c => absurd c (by decide)) (fun _ => ?_)
  refine lv_aload_n hx hb dX5_send_20 rfl (lv_at hl 1 rfl) ?_
  refine lv_sipush (v := 255) hx hb dX5_send_21 (by decide) ?_
  obtain ⟨q29, hs⟩ := hs
  obtain ⟨z30, ez30, hf⟩ := bd_e hf
  replace hs := bd_s ez30 hs
  refine ct_V (As := [.int 255]) (rest := []) (st1 := []) (q0 := 0) (ci := 5) S hA hW (c_X5_put l D g z28 255 ez30 q29) (wG_V km_X5_112 ki_yX5_put ks_yX5_put kn_X5 kc_yX5_put) ⟨rfl, rfl⟩ hd_X5_put (by rw [hR]; exact ⟨Nat.le_of_ble_eq_true rfl, Nat.le_of_ble_eq_true rfl⟩) rfl rfl rfl rfl hl.1 rfl (Nat.le_of_ble_eq_true rfl) ⟨Nat.zero_le _, Nat.zero_le _⟩ dX5_send_24 rfl (fun H locs hW => ?_)
  refine lv_iinc (v := 4) (lv' := [(7, .int 4), (0, .ref (g.1 0)), (1, .int x1), (2, .int x2), (3, .int x3), (4, .int x4), (5, .long x5)]) hx hb dX5_send_27 hl (k := 0) rfl (by decide) (by decide) rfl (fun ls hl => ?_)
  refine lv_goto (tgt := 14) hx hb dX5_send_30 (by decide) ?_
  refine lv_iload hx hb dX5_send_14 (lv_at hl 0 rfl) ?_
  refine lv_iconst (v := 5) hx hb dX5_send_16 (by decide) ?_
  refine lv_icmp_ge (tgt := 33) hx hb dX5_send_17 (by decide) (fun c => absurd c (by decide)) (fun _ => ?_)
  refine lv_aload_n hx hb dX5_send_20 rfl (lv_at hl 1 rfl) ?_
  refine lv_sipush (v := 255) hx hb dX5_send_21 (by decide) ?_
  obtain ⟨q31, hs⟩ := hs
  obtain ⟨z32, ez32, hf⟩ := bd_e hf
  replace hs := bd_s ez32 hs
  refine ct_V (As := [.int 255]) (rest := []) (st1 := []) (q0 := 0) (ci := 5) S hA hW (c_X5_put l D g z30 255 ez32 q31) (wG_V km_X5_112 ki_yX5_put ks_yX5_put kn_X5 kc_yX5_put) ⟨rfl, rfl⟩ hd_X5_put (by rw [hR]; exact ⟨Nat.le_of_ble_eq_true rfl, Nat.le_of_ble_eq_true rfl⟩) rfl rfl rfl rfl hl.1 rfl (Nat.le_of_ble_eq_true rfl) ⟨Nat.zero_le _, Nat.zero_le _⟩ dX5_send_24 rfl (fun H locs hW => ?_)
  refine lv_iinc (v := 5) (lv' := [(7, .int 5), (0, .ref (g.1 0)), (1, .int x1), (2, .int x2), (3, .int x3), (4, .int x4), (5, .long x5)]) hx hb dX5_send_27 hl (k := 0) rfl (by decide) (by decide) rfl (fun ls hl => ?_)
  refine lv_goto (tgt := 14) hx hb dX5_send_30 (by decide) ?_
  refine lv_iload hx hb dX5_send_14 (lv_at hl 0 rfl) ?_
  refine lv_iconst (v := 5) hx hb dX5_send_16 (by decide) ?_
  refine lv_icmp_ge (tgt := 33) hx hb dX5_send_17 (by decide) (fun _ => ?_) (fun c => absurd (by decide) c)
  refine lv_aload_n hx hb dX5_send_33 rfl (lv_at hl 1 rfl) ?_
  refine lv_iload_n hx hb dX5_send_34 rfl (lv_at hl 2 rfl) ?_
  obtain ⟨q33, hs⟩ := hs
  obtain ⟨z34, ez34, hf⟩ := bd_e hf
  replace hs := bd_s ez34 hs
  refine ct_V (As := [.int x1]) (rest := []) (st1 := []) (q0 := 0) (ci := 5) S hA hW (c_X5_put l D g z32 x1 ez34 q33) (wG_V km_X5_112 ki_yX5_put ks_yX5_put kn_X5 kc_yX5_put) ⟨rfl, rfl⟩ hd_X5_put (by rw [hR]; exact ⟨Nat.le_of_ble_eq_true rfl, Nat.le_of_ble_eq_true rfl⟩) rfl rfl rfl rfl hl.1 rfl (Nat.le_of_ble_eq_true rfl) ⟨Nat.zero_le _, Nat.zero_le _⟩ dX5_send_35 rfl (fun H locs hW => ?_)
  refine lv_iload_n hx hb dX5_send_38 rfl (lv_at hl 2 rfl) ?_
  refine lv_bipush (v := 6) hx hb dX5_send_39 (by decide) ?_
  refine lv_icmp_ne (tgt := 51) hx hb dX5_send_41 (by decide) (fun c35 => ?_) (fun c35 => ?_)
  · replace hf := if_f c35 hf
    replace hs := hs.2 c35
    refine lv_aload_n hx hb dX5_send_51 rfl (lv_at hl 1 rfl) ?_
    refine gX5_own S hW kf_X5_7 dX5_send_52 ?_
    refine lv_iconst (v := 0) hx hb dX5_send_55 (by decide) ?_
    refine aM0 S hW (vi_of (M := 5) (by decide) (by decide) (by decide)) dX5_send_56 ?_
    exact J_57 z34 x1 x2 x3 x4 (gA z34 0 (Int32.toNatClampNeg 0)) _ _ ls hW (lv_sub hl [1, 2, 3, 4, 5] rfl) hs hf
  · replace hf := if_t c35 hf
    replace hs := hs.1 c35
    refine lv_aload_n hx hb dX5_send_44 rfl (lv_at hl 1 rfl) ?_
    refine gX5_shortAddress S hW kf_X5_80 dX5_send_45 ?_
    refine lv_goto (tgt := 57) hx hb dX5_send_48 (by decide) ?_
    exact J_57 z34 x1 x2 x3 x4 (gI z34 1) _ _ ls hW (lv_sub hl [1, 2, 3, 4, 5] rfl) hs hf
def f_X5_answer_62 (z : Sg) (y1 : Int32) (k1 : Int32) : Sg := bd (f_X5_master z) (fun r35 => bd (f_X5_command r35.2) (fun r37 => bd (f_X5_send r37.2 k1 r35.1 r37.1 y1 ((Int32.toInt64 (gI r37.2 12)) + (2 : Int64))) (fun z39 => bd (f_X5_master z39) (fun r40 => bd (pA r40.2 4 (Int32.toNatClampNeg r40.1) (vp_nar .boolean 0)) (fun z42 => z42)))))
def s_X5_answer_62 (z : Sg) (y1 : Int32) (k1 : Int32) : Prop := bd (f_X5_master z) (fun r35 => (s_X5_command r35.2) ∧ bd (f_X5_command r35.2) (fun r37 => (s_X5_send r37.2 k1 r35.1 r37.1 y1 ((Int32.toInt64 (gI r37.2 12)) + (2 : Int64))) ∧ bd (f_X5_send r37.2 k1 r35.1 r37.1 y1 ((Int32.toInt64 (gI r37.2 12)) + (2 : Int64))) (fun z39 => bd (f_X5_master z39) (fun r40 => (vp_in r40.1 2) ∧ True))))
def f_X5_answer_35 (z : Sg) (y1 : Int32) : Sg := bd (pI z 13 ((gI z 13) + 1)) (fun z32 => bd (f_X5_addressSize z32) (fun r33 => (if r33.1 = 5 then f_X5_answer_62 r33.2 y1 134 else f_X5_answer_62 r33.2 y1 6)))
def s_X5_answer_35 (z : Sg) (y1 : Int32) : Prop := bd (pI z 13 ((gI z 13) + 1)) (fun z32 => bd (f_X5_addressSize z32) (fun r33 => (r33.1 = 5 → s_X5_answer_62 r33.2 y1 134) ∧ (¬ r33.1 = 5 → s_X5_answer_62 r33.2 y1 6)))
def f_X5_answer_27 (z : Sg) (y1 : Int32) : Sg := (if y1 = 0 then bd (f_X5_obey z) (fun z31 => f_X5_answer_35 z31 y1) else f_X5_answer_35 z y1)
def s_X5_answer_27 (z : Sg) (y1 : Int32) : Prop := (y1 = 0 → (s_X5_obey z) ∧ bd (f_X5_obey z) (fun z31 => s_X5_answer_35 z31 y1)) ∧ (¬ y1 = 0 → s_X5_answer_35 z y1)
def f_X5_answer (z : Sg)  : Sg := bd (pI z 14 ((gI z 14) + 1)) (fun z21 => bd (f_X5_codeOf z21) (fun r23 => bd (r23.1) (fun x24 => bd (f_X5_isBroadcast r23.2) (fun r26 => (if r26.1 = 0 then f_X5_answer_27 r26.2 x24 else (if x24 = 0 then f_X5_answer_27 r26.2 x24 else r26.2))))))
def s_X5_answer (z : Sg)  : Prop := bd (pI z 14 ((gI z 14) + 1)) (fun z21 => (s_X5_codeOf z21) ∧ bd (f_X5_codeOf z21) (fun r23 => bd (r23.1) (fun x24 => (s_X5_isBroadcast r23.2) ∧ bd (f_X5_isBroadcast r23.2) (fun r26 => (r26.1 = 0 → s_X5_answer_27 r26.2 x24) ∧ (¬ r26.1 = 0 → (x24 = 0 → s_X5_answer_27 r26.2 x24) ∧ (¬ x24 = 0 → True))))))
theorem hd_X5_answer : yX5_answer.cls = RX5 ∧ yX5_answer.cls ≠ "java/lang/invoke/MethodHandle" ∧ yX5_answer.cls ≠ "java/lang/invoke/VarHandle" ∧ (parseMethodDescriptor yX5_answer.desc).map (fun d => d.parameters.length) = some 0 := by decide +kernel
set_option maxHeartbeats 4000000 in
set_option maxRecDepth 100000 in
theorem c_X5_answer (l : Launch) (D : va_G) (g : Gv) (z : Sg)  {r : Sg} (er : r = f_X5_answer z ) (hs : s_X5_answer z ) : CT D (wM g) (tM g) l yX5_answer (wG yX5_answer cX5_answer 2 none) { frames := 5, cells := 0, slots := 0, locals := 118 } [.ref (g.1 0)] z none r := by
  refine CT.ofW (by decide) (Nat.le_of_ble_eq_true rfl) ?_
  intro p e R s m args below meth c A hR S hr hlocks hA hW ls hl
  have S : CallFix p m c cX5_answer 2 s args wsL_law RX5 := S
  have hl : lv_has ls 2 [(0, .ref (g.1 0))] := hl
  have hx := S.1
  have hb := S.2.1
  have hf := er.symm
  clear er
  have J_62 : ∀ (z : Sg) (y1 : Int32) (k1 : Int32) (H : Heap) (locs : List Loc) (ls : Array Slot), Wd D (wM g) (tM g) A s H locs z → lv_has ls 2 [(0, .ref (g.1 0)), (1, .int y1)] → s_X5_answer_62 z y1 k1 → f_X5_answer_62 z y1 k1 = r → W p l e R s m args below meth c H locs 0 0 (MQ below (CQ D (wM g) A none r) args s 0 0 A) (F0 m 62 ls [.int k1, .ref (g.1 0)]) := by
    intro z y1 k1 H locs ls hW hl hs hf
    unfold f_X5_answer_62 at hf
    unfold s_X5_answer_62 at hs
    refine lv_aload_n hx hb dX5_answer_62 rfl (lv_at hl 0 rfl) ?_
    obtain ⟨r35, er35, hf⟩ := bd_e hf
    replace hs := bd_s er35 hs
    refine ct_V (As := []) (rest := [.int k1, .ref (g.1 0)]) (st1 := [.int r35.1, .int k1, .ref (g.1 0)]) (q0 := 0) (ci := 5) S hA hW (c_X5_master l D g z er35) (wG_V km_X5_96 ki_yX5_master ks_yX5_master kn_X5 kc_yX5_master) ⟨rfl, rfl⟩ hd_X5_master (by rw [hR]; exact ⟨Nat.le_of_ble_eq_true rfl, Nat.le_of_ble_eq_true rfl⟩) rfl rfl rfl rfl hl.1 rfl (Nat.le_of_ble_eq_true rfl) ⟨Nat.zero_le _, Nat.zero_le _⟩ dX5_answer_63 rfl (fun H locs hW => ?_)
    refine lv_aload_n hx hb dX5_answer_66 rfl (lv_at hl 0 rfl) ?_
    obtain ⟨q36, hs⟩ := hs
    obtain ⟨r37, er37, hf⟩ := bd_e hf
    replace hs := bd_s er37 hs
    refine ct_V (As := []) (rest := [.int r35.1, .int k1, .ref (g.1 0)]) (st1 := [.int r37.1, .int r35.1, .int k1, .ref (g.1 0)]) (q0 := 0) (ci := 5) S hA hW (c_X5_command l D g r35.2 er37 q36) (wG_V km_X5_77 ki_yX5_command ks_yX5_command kn_X5 kc_yX5_command) ⟨rfl, rfl⟩ hd_X5_command (by rw [hR]; exact ⟨Nat.le_of_ble_eq_true rfl, Nat.le_of_ble_eq_true rfl⟩) rfl rfl rfl rfl hl.1 rfl (Nat.le_of_ble_eq_true rfl) ⟨Nat.zero_le _, Nat.zero_le _⟩ dX5_answer_67 rfl (fun H locs hW => ?_)
    refine lv_iload_n hx hb dX5_answer_70 rfl (lv_at hl 1 rfl) ?_
    refine lv_aload_n hx hb dX5_answer_71 rfl (lv_at hl 0 rfl) ?_
    refine gX5_now S hW kf_X5_151 dX5_answer_72 ?_
    refine lv_i2l hx hb dX5_answer_75 rfl ?_
    refine lv_ldc2 (v := 2) hx hb S.2.2.2.1 (S.2.2.2.2 _ kl_X5_154) dX5_answer_76 ?_
    refine lv_ladd hx hb dX5_answer_79 ?_
    obtain ⟨q38, hs⟩ := hs
    obtain ⟨z39, ez39, hf⟩ := bd_e hf
    replace hs := bd_s ez39 hs
    refine ct_V (As := [.int k1, .int r35.1, .int r37.1, .int y1, .long ((Int32.toInt64 (gI r37.2 12)) + (2 : Int64))]) (rest := []) (st1 := []) (q0 := 0) (ci := 5) S hA hW (c_X5_send l D g r37.2 k1 r35.1 r37.1 y1 ((Int32.toInt64 (gI r37.2 12)) + (2 : Int64)) ez39 q38) (wG_V km_X5_156 ki_yX5_send ks_yX5_send kn_X5 kc_yX5_send) ⟨rfl, rfl⟩ hd_X5_send (by rw [hR]; exact ⟨Nat.le_of_ble_eq_true rfl, Nat.le_of_ble_eq_true rfl⟩) rfl rfl rfl rfl hl.1 rfl (Nat.le_of_ble_eq_true rfl) ⟨Nat.zero_le _, Nat.zero_le _⟩ dX5_answer_80 rfl (fun H locs hW => ?_)
    refine lv_aload_n hx hb dX5_answer_83 rfl (lv_at hl 0 rfl) ?_
    refine gX5_isCold S hW kf_X5_27 dX5_answer_84 ?_
    refine lv_aload_n hx hb dX5_answer_87 rfl (lv_at hl 0 rfl) ?_
    obtain ⟨r40, er40, hf⟩ := bd_e hf
    replace hs := bd_s er40 hs
    refine ct_V (As := []) (rest := [.ref (g.1 5)]) (st1 := [.int r40.1, .ref (g.1 5)]) (q0 := 0) (ci := 5) S hA hW (c_X5_master l D g z39 er40) (wG_V km_X5_96 ki_yX5_master ks_yX5_master kn_X5 kc_yX5_master) ⟨rfl, rfl⟩ hd_X5_master (by rw [hR]; exact ⟨Nat.le_of_ble_eq_true rfl, Nat.le_of_ble_eq_true rfl⟩) rfl rfl rfl rfl hl.1 rfl (Nat.le_of_ble_eq_true rfl) ⟨Nat.zero_le _, Nat.zero_le _⟩ dX5_answer_88 rfl (fun H locs hW => ?_)
    refine lv_iconst (v := 0) hx hb dX5_answer_91 (by decide) ?_
    obtain ⟨q41, hs⟩ := hs
    obtain ⟨z42, ez42, hf⟩ := bd_e hf
    refine sM4 S hW q41 dX5_answer_92 ez42 (fun H locs hW => ?_)
    subst hf
    exact ct_v S hr hlocks hW dX5_answer_93
  have J_35 : ∀ (z : Sg) (y1 : Int32) (H : Heap) (locs : List Loc) (ls : Array Slot), Wd D (wM g) (tM g) A s H locs z → lv_has ls 2 [(0, .ref (g.1 0)), (1, .int y1)] → s_X5_answer_35 z y1 → f_X5_answer_35 z y1 = r → W p l e R s m args below meth c H locs 0 0 (MQ below (CQ D (wM g) A none r) args s 0 0 A) (F0 m 35 ls []) := by
    intro z y1 H locs ls hW hl hs hf
    unfold f_X5_answer_35 at hf
    unfold s_X5_answer_35 at hs
    refine lv_aload_n hx hb dX5_answer_35 rfl (lv_at hl 0 rfl) ?_
    refine lv_dup hx hb dX5_answer_36 rfl ?_
    refine gX5_answers S hW kf_X5_133 dX5_answer_37 ?_
    refine lv_iconst (v := 1) hx hb dX5_answer_40 (by decide) ?_
    refine lv_iadd hx hb dX5_answer_41 ?_
    obtain ⟨z32, ez32, hf⟩ := bd_e hf
    replace hs := bd_s ez32 hs
    refine pX5_answers S hW kf_X5_133 dX5_answer_42 ez32 (fun H locs hW => ?_)
    refine lv_aload_n hx hb dX5_answer_45 rfl (lv_at hl 0 rfl) ?_
    refine lv_aload_n hx hb dX5_answer_46 rfl (lv_at hl 0 rfl) ?_
    obtain ⟨r33, er33, hf⟩ := bd_e hf
    replace hs := bd_s er33 hs
    refine ct_V (As := []) (rest := [.ref (g.1 0)]) (st1 := [.int r33.1, .ref (g.1 0)]) (q0 := 0) (ci := 5) S hA hW (c_X5_addressSize l D g z32 er33) (wG_V km_X5_57 ki_yX5_addressSize ks_yX5_addressSize kn_X5 kc_yX5_addressSize) ⟨rfl, rfl⟩ hd_X5_addressSize (by rw [hR]; exact ⟨Nat.le_of_ble_eq_true rfl, Nat.le_of_ble_eq_true rfl⟩) rfl rfl rfl rfl hl.1 rfl (Nat.le_of_ble_eq_true rfl) ⟨Nat.zero_le _, Nat.zero_le _⟩ dX5_answer_47 rfl (fun H locs hW => ?_)
    refine lv_iconst (v := 5) hx hb dX5_answer_50 (by decide) ?_
    refine lv_icmp_ne (tgt := 60) hx hb dX5_answer_51 (by decide) (fun c34 => ?_) (fun c34 => ?_)
    · replace hf := if_f c34 hf
      replace hs := hs.2 c34
      refine lv_bipush (v := 6) hx hb dX5_answer_60 (by decide) ?_
      exact J_62 r33.2 y1 6 _ _ ls hW (lv_sub hl [0, 1] rfl) hs hf
    · replace hf := if_t c34 hf
      replace hs := hs.1 c34
      refine lv_sipush (v := 134) hx hb dX5_answer_54 (by decide) ?_
      refine lv_goto (tgt := 62) hx hb dX5_answer_57 (by decide) ?_
      exact J_62 r33.2 y1 134 _ _ ls hW (lv_sub hl [0, 1] rfl) hs hf
  have J_27 : ∀ (z : Sg) (y1 : Int32) (H : Heap) (locs : List Loc) (ls : Array Slot), Wd D (wM g) (tM g) A s H locs z → lv_has ls 2 [(0, .ref (g.1 0)), (1, .int y1)] → s_X5_answer_27 z y1 → f_X5_answer_27 z y1 = r → W p l e R s m args below meth c H locs 0 0 (MQ below (CQ D (wM g) A none r) args s 0 0 A) (F0 m 27 ls []) := by
    intro z y1 H locs ls hW hl hs hf
    unfold f_X5_answer_27 at hf
    unfold s_X5_answer_27 at hs
    refine lv_iload_n hx hb dX5_answer_27 rfl (lv_at hl 1 rfl) ?_
    refine lv_if_ne (tgt := 35) hx hb dX5_answer_28 (by decide) (fun c29 => ?_) (fun c29 => ?_)
    · replace hf := if_f c29 hf
      replace hs := hs.2 c29
      exact J_35 z y1 _ _ ls hW (lv_sub hl [0, 1] rfl) hs hf
    · replace hf := if_t c29 hf
      replace hs := hs.1 c29
      refine lv_aload_n hx hb dX5_answer_31 rfl (lv_at hl 0 rfl) ?_
      obtain ⟨q30, hs⟩ := hs
      obtain ⟨z31, ez31, hf⟩ := bd_e hf
      replace hs := bd_s ez31 hs
      refine ct_V (As := []) (rest := []) (st1 := []) (q0 := 0) (ci := 5) S hA hW (c_X5_obey l D g z ez31 q30) (wG_V km_X5_148 ki_yX5_obey ks_yX5_obey kn_X5 kc_yX5_obey) ⟨rfl, rfl⟩ hd_X5_obey (by rw [hR]; exact ⟨Nat.le_of_ble_eq_true rfl, Nat.le_of_ble_eq_true rfl⟩) rfl rfl rfl rfl hl.1 rfl (Nat.le_of_ble_eq_true rfl) ⟨Nat.zero_le _, Nat.zero_le _⟩ dX5_answer_32 rfl (fun H locs hW => ?_)
      exact J_35 z31 y1 _ _ ls hW (lv_sub hl [0, 1] rfl) hs hf
  unfold f_X5_answer at hf
  unfold s_X5_answer at hs
  refine lv_aload_n hx hb dX5_answer_0 rfl (lv_at hl 0 rfl) ?_
  refine lv_dup hx hb dX5_answer_1 rfl ?_
  refine gX5_good S hW kf_X5_142 dX5_answer_2 ?_
  refine lv_iconst (v := 1) hx hb dX5_answer_5 (by decide) ?_
  refine lv_iadd hx hb dX5_answer_6 ?_
  obtain ⟨z21, ez21, hf⟩ := bd_e hf
  replace hs := bd_s ez21 hs
  refine pX5_good S hW kf_X5_142 dX5_answer_7 ez21 (fun H locs hW => ?_)
  refine lv_aload_n hx hb dX5_answer_10 rfl (lv_at hl 0 rfl) ?_
  obtain ⟨q22, hs⟩ := hs
  obtain ⟨r23, er23, hf⟩ := bd_e hf
  replace hs := bd_s er23 hs
  refine ct_V (As := []) (rest := []) (st1 := [.int r23.1]) (q0 := 0) (ci := 5) S hA hW (c_X5_codeOf l D g z21 er23 q22) (wG_V km_X5_145 ki_yX5_codeOf ks_yX5_codeOf kn_X5 kc_yX5_codeOf) ⟨rfl, rfl⟩ hd_X5_codeOf (by rw [hR]; exact ⟨Nat.le_of_ble_eq_true rfl, Nat.le_of_ble_eq_true rfl⟩) rfl rfl rfl rfl hl.1 rfl (Nat.le_of_ble_eq_true rfl) ⟨Nat.zero_le _, Nat.zero_le _⟩ dX5_answer_11 rfl (fun H locs hW => ?_)
  obtain ⟨x24, ex24, hf⟩ := bd_e hf
  replace hs := bd_s ex24 hs
  refine lv_nmi ex24 ?_
  refine lv_istore_n (lv' := [(1, .int x24), (0, .ref (g.1 0))]) hx hb dX5_answer_14 rfl hl (by decide) rfl (fun ls hl => ?_)
  refine lv_aload_n hx hb dX5_answer_15 rfl (lv_at hl 1 rfl) ?_
  obtain ⟨q25, hs⟩ := hs
  obtain ⟨r26, er26, hf⟩ := bd_e hf
  replace hs := bd_s er26 hs
  refine ct_V (As := []) (rest := []) (st1 := [.int r26.1]) (q0 := 0) (ci := 5) S hA hW (c_X5_isBroadcast l D g r23.2 er26 q25) (wG_V km_X5_83 ki_yX5_isBroadcast ks_yX5_isBroadcast kn_X5 kc_yX5_isBroadcast) ⟨rfl, rfl⟩ hd_X5_isBroadcast (by rw [hR]; exact ⟨Nat.le_of_ble_eq_true rfl, Nat.le_of_ble_eq_true rfl⟩) rfl rfl rfl rfl hl.1 rfl (Nat.le_of_ble_eq_true rfl) ⟨Nat.zero_le _, Nat.zero_le _⟩ dX5_answer_16 rfl (fun H locs hW => ?_)
  refine lv_if_eq (tgt := 27) hx hb dX5_answer_19 (by decide) (fun c27 => ?_) (fun c27 => ?_)
  · replace hf := if_t c27 hf
    replace hs := hs.1 c27
    exact J_27 r26.2 x24 _ _ ls hW (lv_sub hl [1, 0] rfl) hs hf
  · replace hf := if_f c27 hf
    replace hs := hs.2 c27
    refine lv_iload_n hx hb dX5_answer_22 rfl (lv_at hl 0 rfl) ?_
    refine lv_if_eq (tgt := 27) hx hb dX5_answer_23 (by decide) (fun c28 => ?_) (fun c28 => ?_)
    · replace hf := if_t c28 hf
      replace hs := hs.1 c28
      exact J_27 r26.2 x24 _ _ ls hW (lv_sub hl [1, 0] rfl) hs hf
    · replace hf := if_f c28 hf
      replace hs := hs.2 c28
      subst hf
      exact ct_v S hr hlocks hW dX5_answer_26
def f_X5_isBusy (z : Sg)  : Int32 × Sg := (if (lg_cmp (gL z 0) (-1 : Int64)) = 0 then (0, z) else (1, z))
theorem hd_X5_isBusy : yX5_isBusy.cls = RX5 ∧ yX5_isBusy.cls ≠ "java/lang/invoke/MethodHandle" ∧ yX5_isBusy.cls ≠ "java/lang/invoke/VarHandle" ∧ (parseMethodDescriptor yX5_isBusy.desc).map (fun d => d.parameters.length) = some 0 := by decide +kernel
set_option maxHeartbeats 4000000 in
set_option maxRecDepth 100000 in
theorem c_X5_isBusy (l : Launch) (D : va_G) (g : Gv) (z : Sg)  {r : Int32 × Sg} (er : r = f_X5_isBusy z ) : CT D (wM g) (tM g) l yX5_isBusy (wG yX5_isBusy cX5_isBusy 1 (some .boolean)) { frames := 0, cells := 0, slots := 0, locals := 0 } [.ref (g.1 0)] z (some (.int r.1)) r.2 := by
  refine CT.ofW (by decide) (Nat.le_of_ble_eq_true rfl) ?_
  intro p e R s m args below meth c A hR S hr hlocks hA hW ls hl
  have S : CallFix p m c cX5_isBusy 1 s args wsL_law RX5 := S
  have hl : lv_has ls 1 [(0, .ref (g.1 0))] := hl
  have hx := S.1
  have hb := S.2.1
  have hf := er.symm
  clear er
  unfold f_X5_isBusy at hf
  refine lv_aload_n hx hb dX5_isBusy_0 rfl (lv_at hl 0 rfl) ?_
  refine gX5_outFrom S hW kf_X5_41 dX5_isBusy_1 ?_
  refine lv_ldc2 (v := (-1)) hx hb S.2.2.2.1 (S.2.2.2.2 _ kl_X5_39) dX5_isBusy_4 ?_
  refine W.lcmp hx hb dX5_isBusy_7 ?_
  refine lv_if_eq (tgt := 15) hx hb dX5_isBusy_8 (by decide) (fun c21 => ?_) (fun c21 => ?_)
  · replace hf := if_t c21 hf
    refine lv_iconst (v := 0) hx hb dX5_isBusy_15 (by decide) ?_
    subst hf
    exact ct_z (Or.inl rfl) S hr hlocks hW dX5_isBusy_16
  · replace hf := if_f c21 hf
    refine lv_iconst (v := 1) hx hb dX5_isBusy_11 (by decide) ?_
    refine lv_goto (tgt := 16) hx hb dX5_isBusy_12 (by decide) ?_
    subst hf
    exact ct_z (Or.inr rfl) S hr hlocks hW dX5_isBusy_16
def f_X5_quiet (z : Sg)  : Int64 × Sg := (((Int32.toInt64 (gI z 12)) - (1 : Int64)) - (gL z 1), z)
theorem hd_X5_quiet : yX5_quiet.cls = RX5 ∧ yX5_quiet.cls ≠ "java/lang/invoke/MethodHandle" ∧ yX5_quiet.cls ≠ "java/lang/invoke/VarHandle" ∧ (parseMethodDescriptor yX5_quiet.desc).map (fun d => d.parameters.length) = some 0 := by decide +kernel
set_option maxHeartbeats 4000000 in
set_option maxRecDepth 100000 in
theorem c_X5_quiet (l : Launch) (D : va_G) (g : Gv) (z : Sg)  {r : Int64 × Sg} (er : r = f_X5_quiet z ) : CT D (wM g) (tM g) l yX5_quiet (wG yX5_quiet cX5_quiet 1 (some .long)) { frames := 0, cells := 0, slots := 0, locals := 0 } [.ref (g.1 0)] z (some (.long r.1)) r.2 := by
  refine CT.ofW (by decide) (Nat.le_of_ble_eq_true rfl) ?_
  intro p e R s m args below meth c A hR S hr hlocks hA hW ls hl
  have S : CallFix p m c cX5_quiet 1 s args wsL_law RX5 := S
  have hl : lv_has ls 1 [(0, .ref (g.1 0))] := hl
  have hx := S.1
  have hb := S.2.1
  have hf := er.symm
  clear er
  unfold f_X5_quiet at hf
  refine lv_aload_n hx hb dX5_quiet_0 rfl (lv_at hl 0 rfl) ?_
  refine gX5_now S hW kf_X5_151 dX5_quiet_1 ?_
  refine lv_i2l hx hb dX5_quiet_4 rfl ?_
  refine lv_lconst (v := 1) hx hb dX5_quiet_5 (by decide) ?_
  refine lv_lsub hx hb dX5_quiet_6 ?_
  refine lv_aload_n hx hb dX5_quiet_7 rfl (lv_at hl 0 rfl) ?_
  refine gX5_latest S hW kf_X5_45 dX5_quiet_8 ?_
  refine lv_lsub hx hb dX5_quiet_11 ?_
  subst hf
  exact ct_l S hr hlocks hW dX5_quiet_12
def f_X5_pass_275 (z : Sg) (k1 : Int64) : Sg := bd (pL z 1 k1) (fun z62 => bd (pI z62 12 ((gI z62 12) + 1)) (fun z63 => z63))
def f_X5_pass_257 (z : Sg) (y1 : Int32) : Sg := (if y1 = (-1) then f_X5_pass_275 z (gL z 1) else f_X5_pass_275 z (Int32.toInt64 (gI z 12)))
def f_X5_pass_253 (z : Sg) (y1 : Int32) : Sg := bd (f_X5_forget z) (fun z61 => f_X5_pass_257 z61 y1)
def f_X5_pass_243 (z : Sg) (y1 : Int32) : Sg := bd (pI z 15 ((gI z 15) + 1)) (fun z60 => f_X5_pass_253 z60 y1)
def f_X5_pass_207 (z : Sg) (y1 : Int32) : Sg := bd (f_X5_forget z) (fun z58 => f_X5_pass_257 z58 y1)
def f_X5_pass_198 (z : Sg) (y1 : Int32) (y2 : Int32) : Sg := (if y2 = 0 then (if y1 = (-1) then f_X5_pass_207 z y1 else bd (f_X5_keep z y1) (fun r47 => (if r47.1 = 0 then f_X5_pass_257 r47.2 y1 else bd (f_X5_isRight r47.2) (fun r50 => (if r50.1 = 0 then f_X5_pass_243 r50.2 y1 else bd (f_X5_isOwn r50.2) (fun r53 => (if r53.1 = 0 then f_X5_pass_243 r53.2 y1 else bd (f_X5_answer r53.2) (fun z56 => f_X5_pass_253 z56 y1)))))))) else f_X5_pass_207 z y1)
def s_X5_pass_198 (z : Sg) (y1 : Int32) (y2 : Int32) : Prop := (y2 = 0 → (y1 = (-1) → True) ∧ (¬ y1 = (-1) → (s_X5_keep z y1) ∧ bd (f_X5_keep z y1) (fun r47 => (r47.1 = 0 → True) ∧ (¬ r47.1 = 0 → (s_X5_isRight r47.2) ∧ bd (f_X5_isRight r47.2) (fun r50 => (r50.1 = 0 → True) ∧ (¬ r50.1 = 0 → (s_X5_isOwn r50.2) ∧ bd (f_X5_isOwn r50.2) (fun r53 => (r53.1 = 0 → True) ∧ (¬ r53.1 = 0 → (s_X5_answer r53.2) ∧ bd (f_X5_answer r53.2) (fun z56 => True))))))))) ∧ (¬ y2 = 0 → True)
def f_X5_pass_195 (z : Sg) (y1 : Int32) (y2 : Int32) (k1 : Int64) : Sg := bd (pL z 0 k1) (fun z57 => f_X5_pass_198 z57 y1 y2)
def s_X5_pass_195 (z : Sg) (y1 : Int32) (y2 : Int32) (k1 : Int64) : Prop := bd (pL z 0 k1) (fun z57 => s_X5_pass_198 z57 y1 y2)
def f_X5_pass_78 (z : Sg) (y1 : Int32) (y2 : Int32) : Sg := bd (f_X5_isBusy z) (fun r33 => (if r33.1 = 0 then f_X5_pass_198 r33.2 y1 y2 else (if (lg_cmp (Int32.toInt64 (gI r33.2 12)) (gL r33.2 0)) < 0 then f_X5_pass_198 r33.2 y1 y2 else bd (pA r33.2 7 (Int32.toNatClampNeg ((gI r33.2 16) - (gI r33.2 16) / 2000 * 2000)) (gA r33.2 6 (Int32.toNatClampNeg (Int64.toInt32 ((Int32.toInt64 (gI r33.2 12)) - (gL r33.2 0)))))) (fun z38 => bd (pA z38 8 (Int32.toNatClampNeg ((gI z38 16) - (gI z38 16) / 2000 * 2000)) (gI z38 12)) (fun z40 => bd (pI z40 16 ((gI z40 16) + 1)) (fun z41 => bd (pL z41 1 (Int32.toInt64 (gI z41 12))) (fun z42 => (if (lg_cmp (((Int32.toInt64 (gI z42 12)) - (gL z42 0)) + (1 : Int64)) (Int32.toInt64 (gI z42 11))) = 0 then f_X5_pass_195 z42 y1 y2 (-1 : Int64) else f_X5_pass_195 z42 y1 y2 (gL z42 0)))))))))
def s_X5_pass_78 (z : Sg) (y1 : Int32) (y2 : Int32) : Prop := bd (f_X5_isBusy z) (fun r33 => (r33.1 = 0 → s_X5_pass_198 r33.2 y1 y2) ∧ (¬ r33.1 = 0 → ((lg_cmp (Int32.toInt64 (gI r33.2 12)) (gL r33.2 0)) < 0 → s_X5_pass_198 r33.2 y1 y2) ∧ (¬ (lg_cmp (Int32.toInt64 (gI r33.2 12)) (gL r33.2 0)) < 0 → (vp_in (Int64.toInt32 ((Int32.toInt64 (gI r33.2 12)) - (gL r33.2 0))) 64) ∧ (vp_in ((gI r33.2 16) - (gI r33.2 16) / 2000 * 2000) 2000) ∧ bd (pA r33.2 7 (Int32.toNatClampNeg ((gI r33.2 16) - (gI r33.2 16) / 2000 * 2000)) (gA r33.2 6 (Int32.toNatClampNeg (Int64.toInt32 ((Int32.toInt64 (gI r33.2 12)) - (gL r33.2 0)))))) (fun z38 => (vp_in ((gI z38 16) - (gI z38 16) / 2000 * 2000) 2000) ∧ bd (pA z38 8 (Int32.toNatClampNeg ((gI z38 16) - (gI z38 16) / 2000 * 2000)) (gI z38 12)) (fun z40 => bd (pI z40 16 ((gI z40 16) + 1)) (fun z41 => bd (pL z41 1 (Int32.toInt64 (gI z41 12))) (fun z42 => ((lg_cmp (((Int32.toInt64 (gI z42 12)) - (gL z42 0)) + (1 : Int64)) (Int32.toInt64 (gI z42 11))) = 0 → s_X5_pass_195 z42 y1 y2 (-1 : Int64)) ∧ (¬ (lg_cmp (((Int32.toInt64 (gI z42 12)) - (gL z42 0)) + (1 : Int64)) (Int32.toInt64 (gI z42 11))) = 0 → s_X5_pass_195 z42 y1 y2 (gL z42 0)))))))))
def f_X5_pass (z : Sg) (x1 : Int32) : Sg := bd (f_X5_isBusy z) (fun r21 => bd (r21.1) (fun x22 => (if x22 = 0 then (if (gI r21.2 6) = 0 then f_X5_pass_78 r21.2 x1 x22 else (if (gI r21.2 9) = 0 then (if (gI r21.2 10) = 0 then bd (f_X5_quiet r21.2) (fun r27 => (if (lg_cmp r27.1 (8 : Int64)) < 0 then f_X5_pass_78 r27.2 x1 x22 else bd ((gI r27.2 8) - (gI r27.2 8) / 2 * 2) (fun x29 => bd (pI r27.2 8 ((gI r27.2 8) + 1)) (fun z30 => bd (f_X5_send z30 129 x29 (gI z30 7) 0 (Int32.toInt64 (gI z30 12))) (fun z32 => f_X5_pass_78 z32 x1 1))))) else f_X5_pass_78 r21.2 x1 x22) else f_X5_pass_78 r21.2 x1 x22)) else f_X5_pass_78 r21.2 x1 x22)))
def s_X5_pass (z : Sg) (x1 : Int32) : Prop := bd (f_X5_isBusy z) (fun r21 => bd (r21.1) (fun x22 => (x22 = 0 → ((gI r21.2 6) = 0 → s_X5_pass_78 r21.2 x1 x22) ∧ (¬ (gI r21.2 6) = 0 → ((gI r21.2 9) = 0 → ((gI r21.2 10) = 0 → bd (f_X5_quiet r21.2) (fun r27 => ((lg_cmp r27.1 (8 : Int64)) < 0 → s_X5_pass_78 r27.2 x1 x22) ∧ (¬ (lg_cmp r27.1 (8 : Int64)) < 0 → bd ((gI r27.2 8) - (gI r27.2 8) / 2 * 2) (fun x29 => bd (pI r27.2 8 ((gI r27.2 8) + 1)) (fun z30 => (s_X5_send z30 129 x29 (gI z30 7) 0 (Int32.toInt64 (gI z30 12))) ∧ bd (f_X5_send z30 129 x29 (gI z30 7) 0 (Int32.toInt64 (gI z30 12))) (fun z32 => s_X5_pass_78 z32 x1 1)))))) ∧ (¬ (gI r21.2 10) = 0 → s_X5_pass_78 r21.2 x1 x22)) ∧ (¬ (gI r21.2 9) = 0 → s_X5_pass_78 r21.2 x1 x22))) ∧ (¬ x22 = 0 → s_X5_pass_78 r21.2 x1 x22)))
theorem hd_X5_pass : yX5_pass.cls = RX5 ∧ yX5_pass.cls ≠ "java/lang/invoke/MethodHandle" ∧ yX5_pass.cls ≠ "java/lang/invoke/VarHandle" ∧ (parseMethodDescriptor yX5_pass.desc).map (fun d => d.parameters.length) = some 1 := by decide +kernel
set_option maxHeartbeats 4000000 in
set_option maxRecDepth 100000 in
theorem c_X5_pass (l : Launch) (D : va_G) (g : Gv) (z : Sg) (x1 : Int32) {r : Sg} (er : r = f_X5_pass z x1) (hs : s_X5_pass z x1) : CT D (wM g) (tM g) l yX5_pass (wG yX5_pass cX5_pass 4 none) { frames := 6, cells := 0, slots := 0, locals := 139 } [.ref (g.1 0), .int x1] z none r := by
  refine CT.ofW (by decide) (Nat.le_of_ble_eq_true rfl) ?_
  intro p e R s m args below meth c A hR S hr hlocks hA hW ls hl
  have S : CallFix p m c cX5_pass 4 s args wsL_law RX5 := S
  have hl : lv_has ls 4 [(0, .ref (g.1 0)), (1, .int x1)] := hl
  have hx := S.1
  have hb := S.2.1
  have hf := er.symm
  clear er
  have J_275 : ∀ (z : Sg) (k1 : Int64) (H : Heap) (locs : List Loc) (ls : Array Slot), Wd D (wM g) (tM g) A s H locs z → lv_has ls 4 [(0, .ref (g.1 0))] → f_X5_pass_275 z k1 = r → W p l e R s m args below meth c H locs 0 0 (MQ below (CQ D (wM g) A none r) args s 0 0 A) (F0 m 275 ls [.long k1, .ref (g.1 0)]) := by
    intro z k1 H locs ls hW hl hf
    unfold f_X5_pass_275 at hf
    obtain ⟨z62, ez62, hf⟩ := bd_e hf
    refine pX5_latest S hW kf_X5_45 dX5_pass_275 ez62 (fun H locs hW => ?_)
    refine lv_aload_n hx hb dX5_pass_278 rfl (lv_at hl 0 rfl) ?_
    refine lv_dup hx hb dX5_pass_279 rfl ?_
    refine gX5_now S hW kf_X5_151 dX5_pass_280 ?_
    refine lv_iconst (v := 1) hx hb dX5_pass_283 (by decide) ?_
    refine lv_iadd hx hb dX5_pass_284 ?_
    obtain ⟨z63, ez63, hf⟩ := bd_e hf
    refine pX5_now S hW kf_X5_151 dX5_pass_285 ez63 (fun H locs hW => ?_)
    subst hf
    exact ct_v S hr hlocks hW dX5_pass_288
  have J_257 : ∀ (z : Sg) (y1 : Int32) (H : Heap) (locs : List Loc) (ls : Array Slot), Wd D (wM g) (tM g) A s H locs z → lv_has ls 4 [(0, .ref (g.1 0)), (1, .int y1)] → f_X5_pass_257 z y1 = r → W p l e R s m args below meth c H locs 0 0 (MQ below (CQ D (wM g) A none r) args s 0 0 A) (F0 m 257 ls []) := by
    intro z y1 H locs ls hW hl hf
    unfold f_X5_pass_257 at hf
    refine lv_aload_n hx hb dX5_pass_257 rfl (lv_at hl 0 rfl) ?_
    refine lv_iload_n hx hb dX5_pass_258 rfl (lv_at hl 1 rfl) ?_
    refine lv_iconst (v := (-1)) hx hb dX5_pass_259 (by decide) ?_
    refine lv_icmp_ne (tgt := 270) hx hb dX5_pass_260 (by decide) (fun c59 => ?_) (fun c59 => ?_)
    · replace hf := if_f c59 hf
      refine lv_aload_n hx hb dX5_pass_270 rfl (lv_at hl 0 rfl) ?_
      refine gX5_now S hW kf_X5_151 dX5_pass_271 ?_
      refine lv_i2l hx hb dX5_pass_274 rfl ?_
      exact J_275 z (Int32.toInt64 (gI z 12)) _ _ ls hW (lv_sub hl [0] rfl) hf
    · replace hf := if_t c59 hf
      refine lv_aload_n hx hb dX5_pass_263 rfl (lv_at hl 0 rfl) ?_
      refine gX5_latest S hW kf_X5_45 dX5_pass_264 ?_
      refine lv_goto (tgt := 275) hx hb dX5_pass_267 (by decide) ?_
      exact J_275 z (gL z 1) _ _ ls hW (lv_sub hl [0] rfl) hf
  have J_253 : ∀ (z : Sg) (y1 : Int32) (H : Heap) (locs : List Loc) (ls : Array Slot), Wd D (wM g) (tM g) A s H locs z → lv_has ls 4 [(0, .ref (g.1 0)), (1, .int y1)] → f_X5_pass_253 z y1 = r → W p l e R s m args below meth c H locs 0 0 (MQ below (CQ D (wM g) A none r) args s 0 0 A) (F0 m 253 ls []) := by
    intro z y1 H locs ls hW hl hf
    unfold f_X5_pass_253 at hf
    refine lv_aload_n hx hb dX5_pass_253 rfl (lv_at hl 0 rfl) ?_
    obtain ⟨z61, ez61, hf⟩ := bd_e hf
    refine ct_V (As := []) (rest := []) (st1 := []) (q0 := 0) (ci := 5) S hA hW (c_X5_forget l D g z ez61) (wG_V km_X5_74 ki_yX5_forget ks_yX5_forget kn_X5 kc_yX5_forget) ⟨rfl, rfl⟩ hd_X5_forget (by rw [hR]; exact ⟨Nat.le_of_ble_eq_true rfl, Nat.le_of_ble_eq_true rfl⟩) rfl rfl rfl rfl hl.1 rfl (Nat.le_of_ble_eq_true rfl) ⟨Nat.zero_le _, Nat.zero_le _⟩ dX5_pass_254 rfl (fun H locs hW => ?_)
    exact J_257 z61 y1 _ _ ls hW (lv_sub hl [0, 1] rfl) hf
  have J_243 : ∀ (z : Sg) (y1 : Int32) (H : Heap) (locs : List Loc) (ls : Array Slot), Wd D (wM g) (tM g) A s H locs z → lv_has ls 4 [(0, .ref (g.1 0)), (1, .int y1)] → f_X5_pass_243 z y1 = r → W p l e R s m args below meth c H locs 0 0 (MQ below (CQ D (wM g) A none r) args s 0 0 A) (F0 m 243 ls []) := by
    intro z y1 H locs ls hW hl hf
    unfold f_X5_pass_243 at hf
    refine lv_aload_n hx hb dX5_pass_243 rfl (lv_at hl 0 rfl) ?_
    refine lv_dup hx hb dX5_pass_244 rfl ?_
    refine gX5_bad S hW kf_X5_188 dX5_pass_245 ?_
    refine lv_iconst (v := 1) hx hb dX5_pass_248 (by decide) ?_
    refine lv_iadd hx hb dX5_pass_249 ?_
    obtain ⟨z60, ez60, hf⟩ := bd_e hf
    refine pX5_bad S hW kf_X5_188 dX5_pass_250 ez60 (fun H locs hW => ?_)
    exact J_253 z60 y1 _ _ ls hW (lv_sub hl [0, 1] rfl) hf
  have J_207 : ∀ (z : Sg) (y1 : Int32) (H : Heap) (locs : List Loc) (ls : Array Slot), Wd D (wM g) (tM g) A s H locs z → lv_has ls 4 [(0, .ref (g.1 0)), (1, .int y1)] → f_X5_pass_207 z y1 = r → W p l e R s m args below meth c H locs 0 0 (MQ below (CQ D (wM g) A none r) args s 0 0 A) (F0 m 207 ls []) := by
    intro z y1 H locs ls hW hl hf
    unfold f_X5_pass_207 at hf
    refine lv_aload_n hx hb dX5_pass_207 rfl (lv_at hl 0 rfl) ?_
    obtain ⟨z58, ez58, hf⟩ := bd_e hf
    refine ct_V (As := []) (rest := []) (st1 := []) (q0 := 0) (ci := 5) S hA hW (c_X5_forget l D g z ez58) (wG_V km_X5_74 ki_yX5_forget ks_yX5_forget kn_X5 kc_yX5_forget) ⟨rfl, rfl⟩ hd_X5_forget (by rw [hR]; exact ⟨Nat.le_of_ble_eq_true rfl, Nat.le_of_ble_eq_true rfl⟩) rfl rfl rfl rfl hl.1 rfl (Nat.le_of_ble_eq_true rfl) ⟨Nat.zero_le _, Nat.zero_le _⟩ dX5_pass_208 rfl (fun H locs hW => ?_)
    refine lv_goto (tgt := 257) hx hb dX5_pass_211 (by decide) ?_
    exact J_257 z58 y1 _ _ ls hW (lv_sub hl [0, 1] rfl) hf
  have J_198 : ∀ (z : Sg) (y1 : Int32) (y2 : Int32) (H : Heap) (locs : List Loc) (ls : Array Slot), Wd D (wM g) (tM g) A s H locs z → lv_has ls 4 [(0, .ref (g.1 0)), (1, .int y1), (2, .int y2)] → s_X5_pass_198 z y1 y2 → f_X5_pass_198 z y1 y2 = r → W p l e R s m args below meth c H locs 0 0 (MQ below (CQ D (wM g) A none r) args s 0 0 A) (F0 m 198 ls []) := by
    intro z y1 y2 H locs ls hW hl hs hf
    unfold f_X5_pass_198 at hf
    unfold s_X5_pass_198 at hs
    refine lv_iload_n hx hb dX5_pass_198 rfl (lv_at hl 2 rfl) ?_
    refine lv_if_ne (tgt := 207) hx hb dX5_pass_199 (by decide) (fun c44 => ?_) (fun c44 => ?_)
    · replace hf := if_f c44 hf
      replace hs := hs.2 c44
      exact J_207 z y1 _ _ ls hW (lv_sub hl [0, 1] rfl) hf
    · replace hf := if_t c44 hf
      replace hs := hs.1 c44
      refine lv_iload_n hx hb dX5_pass_202 rfl (lv_at hl 1 rfl) ?_
      refine lv_iconst (v := (-1)) hx hb dX5_pass_203 (by decide) ?_
      refine lv_icmp_ne (tgt := 214) hx hb dX5_pass_204 (by decide) (fun c45 => ?_) (fun c45 => ?_)
      · replace hf := if_f c45 hf
        replace hs := hs.2 c45
        refine lv_aload_n hx hb dX5_pass_214 rfl (lv_at hl 0 rfl) ?_
        refine lv_iload_n hx hb dX5_pass_215 rfl (lv_at hl 1 rfl) ?_
        obtain ⟨q46, hs⟩ := hs
        obtain ⟨r47, er47, hf⟩ := bd_e hf
        replace hs := bd_s er47 hs
        refine ct_V (As := [.int y1]) (rest := []) (st1 := [.int r47.1]) (q0 := 0) (ci := 5) S hA hW (c_X5_keep l D g z y1 er47 q46) (wG_V km_X5_175 ki_yX5_keep ks_yX5_keep kn_X5 kc_yX5_keep) ⟨rfl, rfl⟩ hd_X5_keep (by rw [hR]; exact ⟨Nat.le_of_ble_eq_true rfl, Nat.le_of_ble_eq_true rfl⟩) rfl rfl rfl rfl hl.1 rfl (Nat.le_of_ble_eq_true rfl) ⟨Nat.zero_le _, Nat.zero_le _⟩ dX5_pass_216 rfl (fun H locs hW => ?_)
        refine lv_if_eq (tgt := 257) hx hb dX5_pass_219 (by decide) (fun c48 => ?_) (fun c48 => ?_)
        · replace hf := if_t c48 hf
          replace hs := hs.1 c48
          exact J_257 r47.2 y1 _ _ ls hW (lv_sub hl [0, 1] rfl) hf
        · replace hf := if_f c48 hf
          replace hs := hs.2 c48
          refine lv_aload_n hx hb dX5_pass_222 rfl (lv_at hl 0 rfl) ?_
          obtain ⟨q49, hs⟩ := hs
          obtain ⟨r50, er50, hf⟩ := bd_e hf
          replace hs := bd_s er50 hs
          refine ct_V (As := []) (rest := []) (st1 := [.int r50.1]) (q0 := 0) (ci := 5) S hA hW (c_X5_isRight l D g r47.2 er50 q49) (wG_V km_X5_179 ki_yX5_isRight ks_yX5_isRight kn_X5 kc_yX5_isRight) ⟨rfl, rfl⟩ hd_X5_isRight (by rw [hR]; exact ⟨Nat.le_of_ble_eq_true rfl, Nat.le_of_ble_eq_true rfl⟩) rfl rfl rfl rfl hl.1 rfl (Nat.le_of_ble_eq_true rfl) ⟨Nat.zero_le _, Nat.zero_le _⟩ dX5_pass_223 rfl (fun H locs hW => ?_)
          refine lv_if_eq (tgt := 243) hx hb dX5_pass_226 (by decide) (fun c51 => ?_) (fun c51 => ?_)
          · replace hf := if_t c51 hf
            replace hs := hs.1 c51
            exact J_243 r50.2 y1 _ _ ls hW (lv_sub hl [0, 1] rfl) hf
          · replace hf := if_f c51 hf
            replace hs := hs.2 c51
            refine lv_aload_n hx hb dX5_pass_229 rfl (lv_at hl 0 rfl) ?_
            obtain ⟨q52, hs⟩ := hs
            obtain ⟨r53, er53, hf⟩ := bd_e hf
            replace hs := bd_s er53 hs
            refine ct_V (As := []) (rest := []) (st1 := [.int r53.1]) (q0 := 0) (ci := 5) S hA hW (c_X5_isOwn l D g r50.2 er53 q52) (wG_V km_X5_182 ki_yX5_isOwn ks_yX5_isOwn kn_X5 kc_yX5_isOwn) ⟨rfl, rfl⟩ hd_X5_isOwn (by rw [hR]; exact ⟨Nat.le_of_ble_eq_true rfl, Nat.le_of_ble_eq_true rfl⟩) rfl rfl rfl rfl hl.1 rfl (Nat.le_of_ble_eq_true rfl) ⟨Nat.zero_le _, Nat.zero_le _⟩ dX5_pass_230 rfl (fun H locs hW => ?_)
            refine lv_if_eq (tgt := 243) hx hb dX5_pass_233 (by decide) (fun c54 => ?_) (fun c54 => ?_)
            · replace hf := if_t c54 hf
              replace hs := hs.1 c54
              exact J_243 r53.2 y1 _ _ ls hW (lv_sub hl [0, 1] rfl) hf
            · replace hf := if_f c54 hf
              replace hs := hs.2 c54
              refine lv_aload_n hx hb dX5_pass_236 rfl (lv_at hl 0 rfl) ?_
              obtain ⟨q55, hs⟩ := hs
              obtain ⟨z56, ez56, hf⟩ := bd_e hf
              replace hs := bd_s ez56 hs
              refine ct_V (As := []) (rest := []) (st1 := []) (q0 := 0) (ci := 5) S hA hW (c_X5_answer l D g r53.2 ez56 q55) (wG_V km_X5_185 ki_yX5_answer ks_yX5_answer kn_X5 kc_yX5_answer) ⟨rfl, rfl⟩ hd_X5_answer (by rw [hR]; exact ⟨Nat.le_of_ble_eq_true rfl, Nat.le_of_ble_eq_true rfl⟩) rfl rfl rfl rfl hl.1 rfl (Nat.le_of_ble_eq_true rfl) ⟨Nat.zero_le _, Nat.zero_le _⟩ dX5_pass_237 rfl (fun H locs hW => ?_)
              refine lv_goto (tgt := 253) hx hb dX5_pass_240 (by decide) ?_
              exact J_253 z56 y1 _ _ ls hW (lv_sub hl [0, 1] rfl) hf
      · replace hf := if_t c45 hf
        replace hs := hs.1 c45
        exact J_207 z y1 _ _ ls hW (lv_sub hl [0, 1] rfl) hf
  have J_195 : ∀ (z : Sg) (y1 : Int32) (y2 : Int32) (k1 : Int64) (H : Heap) (locs : List Loc) (ls : Array Slot), Wd D (wM g) (tM g) A s H locs z → lv_has ls 4 [(0, .ref (g.1 0)), (1, .int y1), (2, .int y2)] → s_X5_pass_195 z y1 y2 k1 → f_X5_pass_195 z y1 y2 k1 = r → W p l e R s m args below meth c H locs 0 0 (MQ below (CQ D (wM g) A none r) args s 0 0 A) (F0 m 195 ls [.long k1, .ref (g.1 0)]) := by
    intro z y1 y2 k1 H locs ls hW hl hs hf
    unfold f_X5_pass_195 at hf
    unfold s_X5_pass_195 at hs
    obtain ⟨z57, ez57, hf⟩ := bd_e hf
    replace hs := bd_s ez57 hs
    refine pX5_outFrom S hW kf_X5_41 dX5_pass_195 ez57 (fun H locs hW => ?_)
    exact J_198 z57 y1 y2 _ _ ls hW (lv_sub hl [0, 1, 2] rfl) hs hf
  have J_78 : ∀ (z : Sg) (y1 : Int32) (y2 : Int32) (H : Heap) (locs : List Loc) (ls : Array Slot), Wd D (wM g) (tM g) A s H locs z → lv_has ls 4 [(0, .ref (g.1 0)), (1, .int y1), (2, .int y2)] → s_X5_pass_78 z y1 y2 → f_X5_pass_78 z y1 y2 = r → W p l e R s m args below meth c H locs 0 0 (MQ below (CQ D (wM g) A none r) args s 0 0 A) (F0 m 78 ls []) := by
    intro z y1 y2 H locs ls hW hl hs hf
    unfold f_X5_pass_78 at hf
    unfold s_X5_pass_78 at hs
    refine lv_aload_n hx hb dX5_pass_78 rfl (lv_at hl 0 rfl) ?_
    obtain ⟨r33, er33, hf⟩ := bd_e hf
    replace hs := bd_s er33 hs
    refine ct_V (As := []) (rest := []) (st1 := [.int r33.1]) (q0 := 0) (ci := 5) S hA hW (c_X5_isBusy l D g z er33) (wG_V km_X5_160 ki_yX5_isBusy ks_yX5_isBusy kn_X5 kc_yX5_isBusy) ⟨rfl, rfl⟩ hd_X5_isBusy (by rw [hR]; exact ⟨Nat.le_of_ble_eq_true rfl, Nat.le_of_ble_eq_true rfl⟩) rfl rfl rfl rfl hl.1 rfl (Nat.le_of_ble_eq_true rfl) ⟨Nat.zero_le _, Nat.zero_le _⟩ dX5_pass_79 rfl (fun H locs hW => ?_)
    refine lv_if_eq (tgt := 198) hx hb dX5_pass_82 (by decide) (fun c34 => ?_) (fun c34 => ?_)
    · replace hf := if_t c34 hf
      replace hs := hs.1 c34
      exact J_198 r33.2 y1 y2 _ _ ls hW (lv_sub hl [0, 1, 2] rfl) hs hf
    · replace hf := if_f c34 hf
      replace hs := hs.2 c34
      refine lv_aload_n hx hb dX5_pass_85 rfl (lv_at hl 0 rfl) ?_
      refine gX5_now S hW kf_X5_151 dX5_pass_86 ?_
      refine lv_i2l hx hb dX5_pass_89 rfl ?_
      refine lv_aload_n hx hb dX5_pass_90 rfl (lv_at hl 0 rfl) ?_
      refine gX5_outFrom S hW kf_X5_41 dX5_pass_91 ?_
      refine W.lcmp hx hb dX5_pass_94 ?_
      refine lv_if_lt (tgt := 198) hx hb dX5_pass_95 (by decide) (fun c35 => ?_) (fun c35 => ?_)
      · replace hf := if_t c35 hf
        replace hs := hs.1 c35
        exact J_198 r33.2 y1 y2 _ _ ls hW (lv_sub hl [0, 1, 2] rfl) hs hf
      · replace hf := if_f c35 hf
        replace hs := hs.2 c35
        refine lv_aload_n hx hb dX5_pass_98 rfl (lv_at hl 0 rfl) ?_
        refine gX5_sentBytes S hW kf_X5_48 dX5_pass_99 ?_
        refine lv_aload_n hx hb dX5_pass_102 rfl (lv_at hl 0 rfl) ?_
        refine gX5_sent S hW kf_X5_172 dX5_pass_103 ?_
        refine lv_sipush (v := 2000) hx hb dX5_pass_106 (by decide) ?_
        refine lv_irem hx hb dX5_pass_109 (by decide) ?_
        refine lv_aload_n hx hb dX5_pass_110 rfl (lv_at hl 0 rfl) ?_
        refine gX5_out S hW kf_X5_36 dX5_pass_111 ?_
        refine lv_aload_n hx hb dX5_pass_114 rfl (lv_at hl 0 rfl) ?_
        refine gX5_now S hW kf_X5_151 dX5_pass_115 ?_
        refine lv_i2l hx hb dX5_pass_118 rfl ?_
        refine lv_aload_n hx hb dX5_pass_119 rfl (lv_at hl 0 rfl) ?_
        refine gX5_outFrom S hW kf_X5_41 dX5_pass_120 ?_
        refine lv_lsub hx hb dX5_pass_123 ?_
        refine lv_l2i hx hb dX5_pass_124 rfl ?_
        obtain ⟨q36, hs⟩ := hs
        refine aM6 S hW q36 dX5_pass_125 ?_
        obtain ⟨q37, hs⟩ := hs
        obtain ⟨z38, ez38, hf⟩ := bd_e hf
        replace hs := bd_s ez38 hs
        refine sM7 S hW q37 dX5_pass_126 ez38 (fun H locs hW => ?_)
        refine lv_aload_n hx hb dX5_pass_127 rfl (lv_at hl 0 rfl) ?_
        refine gX5_sentTicks S hW kf_X5_51 dX5_pass_128 ?_
        refine lv_aload_n hx hb dX5_pass_131 rfl (lv_at hl 0 rfl) ?_
        refine gX5_sent S hW kf_X5_172 dX5_pass_132 ?_
        refine lv_sipush (v := 2000) hx hb dX5_pass_135 (by decide) ?_
        refine lv_irem hx hb dX5_pass_138 (by decide) ?_
        refine lv_aload_n hx hb dX5_pass_139 rfl (lv_at hl 0 rfl) ?_
        refine gX5_now S hW kf_X5_151 dX5_pass_140 ?_
        obtain ⟨q39, hs⟩ := hs
        obtain ⟨z40, ez40, hf⟩ := bd_e hf
        replace hs := bd_s ez40 hs
        refine sM8 S hW q39 dX5_pass_143 ez40 (fun H locs hW => ?_)
        refine lv_aload_n hx hb dX5_pass_144 rfl (lv_at hl 0 rfl) ?_
        refine lv_dup hx hb dX5_pass_145 rfl ?_
        refine gX5_sent S hW kf_X5_172 dX5_pass_146 ?_
        refine lv_iconst (v := 1) hx hb dX5_pass_149 (by decide) ?_
        refine lv_iadd hx hb dX5_pass_150 ?_
        obtain ⟨z41, ez41, hf⟩ := bd_e hf
        replace hs := bd_s ez41 hs
        refine pX5_sent S hW kf_X5_172 dX5_pass_151 ez41 (fun H locs hW => ?_)
        refine lv_aload_n hx hb dX5_pass_154 rfl (lv_at hl 0 rfl) ?_
        refine lv_aload_n hx hb dX5_pass_155 rfl (lv_at hl 0 rfl) ?_
        refine gX5_now S hW kf_X5_151 dX5_pass_156 ?_
        refine lv_i2l hx hb dX5_pass_159 rfl ?_
        obtain ⟨z42, ez42, hf⟩ := bd_e hf
        replace hs := bd_s ez42 hs
        refine pX5_latest S hW kf_X5_45 dX5_pass_160 ez42 (fun H locs hW => ?_)
        refine lv_aload_n hx hb dX5_pass_163 rfl (lv_at hl 0 rfl) ?_
        refine lv_aload_n hx hb dX5_pass_164 rfl (lv_at hl 0 rfl) ?_
        refine gX5_now S hW kf_X5_151 dX5_pass_165 ?_
        refine lv_i2l hx hb dX5_pass_168 rfl ?_
        refine lv_aload_n hx hb dX5_pass_169 rfl (lv_at hl 0 rfl) ?_
        refine gX5_outFrom S hW kf_X5_41 dX5_pass_170 ?_
        refine lv_lsub hx hb dX5_pass_173 ?_
        refine lv_lconst (v := 1) hx hb dX5_pass_174 (by decide) ?_
        refine lv_ladd hx hb dX5_pass_175 ?_
        refine lv_aload_n hx hb dX5_pass_176 rfl (lv_at hl 0 rfl) ?_
        refine gX5_outSize S hW kf_X5_109 dX5_pass_177 ?_
        refine lv_i2l hx hb dX5_pass_180 rfl ?_
        refine W.lcmp hx hb dX5_pass_181 ?_
        refine lv_if_ne (tgt := 191) hx hb dX5_pass_182 (by decide) (fun c43 => ?_) (fun c43 => ?_)
        · replace hf := if_f c43 hf
          replace hs := hs.2 c43
          refine lv_aload_n hx hb dX5_pass_191 rfl (lv_at hl 0 rfl) ?_
          refine gX5_outFrom S hW kf_X5_41 dX5_pass_192 ?_
          exact J_195 z42 y1 y2 (gL z42 0) _ _ ls hW (lv_sub hl [0, 1, 2] rfl) hs hf
        · replace hf := if_t c43 hf
          replace hs := hs.1 c43
          refine lv_ldc2 (v := (-1)) hx hb S.2.2.2.1 (S.2.2.2.2 _ kl_X5_39) dX5_pass_185 ?_
          refine lv_goto (tgt := 195) hx hb dX5_pass_188 (by decide) ?_
          exact J_195 z42 y1 y2 (-1 : Int64) _ _ ls hW (lv_sub hl [0, 1, 2] rfl) hs hf
  unfold f_X5_pass at hf
  unfold s_X5_pass at hs
  refine lv_aload_n hx hb dX5_pass_0 rfl (lv_at hl 0 rfl) ?_
  obtain ⟨r21, er21, hf⟩ := bd_e hf
  replace hs := bd_s er21 hs
  refine ct_V (As := []) (rest := []) (st1 := [.int r21.1]) (q0 := 0) (ci := 5) S hA hW (c_X5_isBusy l D g z er21) (wG_V km_X5_160 ki_yX5_isBusy ks_yX5_isBusy kn_X5 kc_yX5_isBusy) ⟨rfl, rfl⟩ hd_X5_isBusy (by rw [hR]; exact ⟨Nat.le_of_ble_eq_true rfl, Nat.le_of_ble_eq_true rfl⟩) rfl rfl rfl rfl hl.1 rfl (Nat.le_of_ble_eq_true rfl) ⟨Nat.zero_le _, Nat.zero_le _⟩ dX5_pass_1 rfl (fun H locs hW => ?_)
  obtain ⟨x22, ex22, hf⟩ := bd_e hf
  replace hs := bd_s ex22 hs
  refine lv_nmi ex22 ?_
  refine lv_istore_n (lv' := [(2, .int x22), (0, .ref (g.1 0)), (1, .int x1)]) hx hb dX5_pass_4 rfl hl (by decide) rfl (fun ls hl => ?_)
  refine lv_iload_n hx hb dX5_pass_5 rfl (lv_at hl 0 rfl) ?_
  refine lv_if_ne (tgt := 78) hx hb dX5_pass_6 (by decide) (fun c23 => ?_) (fun c23 => ?_)
  · replace hf := if_f c23 hf
    replace hs := hs.2 c23
    exact J_78 r21.2 x1 x22 _ _ ls hW (lv_sub hl [1, 2, 0] rfl) hs hf
  · replace hf := if_t c23 hf
    replace hs := hs.1 c23
    refine lv_aload_n hx hb dX5_pass_9 rfl (lv_at hl 1 rfl) ?_
    refine gX5_isBurst S hW kf_X5_105 dX5_pass_10 ?_
    refine lv_if_eq (tgt := 78) hx hb dX5_pass_13 (by decide) (fun c24 => ?_) (fun c24 => ?_)
    · replace hf := if_t c24 hf
      replace hs := hs.1 c24
      exact J_78 r21.2 x1 x22 _ _ ls hW (lv_sub hl [1, 2, 0] rfl) hs hf
    · replace hf := if_f c24 hf
      replace hs := hs.2 c24
      refine lv_aload_n hx hb dX5_pass_16 rfl (lv_at hl 1 rfl) ?_
      refine gX5_preamble S hW kf_X5_65 dX5_pass_17 ?_
      refine lv_if_ne (tgt := 78) hx hb dX5_pass_20 (by decide) (fun c25 => ?_) (fun c25 => ?_)
      · replace hf := if_f c25 hf
        replace hs := hs.2 c25
        exact J_78 r21.2 x1 x22 _ _ ls hW (lv_sub hl [1, 2, 0] rfl) hs hf
      · replace hf := if_t c25 hf
        replace hs := hs.1 c25
        refine lv_aload_n hx hb dX5_pass_23 rfl (lv_at hl 1 rfl) ?_
        refine gX5_came S hW kf_X5_68 dX5_pass_24 ?_
        refine lv_if_ne (tgt := 78) hx hb dX5_pass_27 (by decide) (fun c26 => ?_) (fun c26 => ?_)
        · replace hf := if_f c26 hf
          replace hs := hs.2 c26
          exact J_78 r21.2 x1 x22 _ _ ls hW (lv_sub hl [1, 2, 0] rfl) hs hf
        · replace hf := if_t c26 hf
          replace hs := hs.1 c26
          refine lv_aload_n hx hb dX5_pass_30 rfl (lv_at hl 1 rfl) ?_
          obtain ⟨r27, er27, hf⟩ := bd_e hf
          replace hs := bd_s er27 hs
          refine ct_V (As := []) (rest := []) (st1 := [.long r27.1]) (q0 := 0) (ci := 5) S hA hW (c_X5_quiet l D g r21.2 er27) (wG_V km_X5_163 ki_yX5_quiet ks_yX5_quiet kn_X5 kc_yX5_quiet) ⟨rfl, rfl⟩ hd_X5_quiet (by rw [hR]; exact ⟨Nat.le_of_ble_eq_true rfl, Nat.le_of_ble_eq_true rfl⟩) rfl rfl rfl rfl hl.1 rfl (Nat.le_of_ble_eq_true rfl) ⟨Nat.zero_le _, Nat.zero_le _⟩ dX5_pass_31 rfl (fun H locs hW => ?_)
          refine lv_ldc2 (v := 8) hx hb S.2.2.2.1 (S.2.2.2.2 _ kl_X5_167) dX5_pass_34 ?_
          refine W.lcmp hx hb dX5_pass_37 ?_
          refine lv_if_lt (tgt := 78) hx hb dX5_pass_38 (by decide) (fun c28 => ?_) (fun c28 => ?_)
          · replace hf := if_t c28 hf
            replace hs := hs.1 c28
            exact J_78 r27.2 x1 x22 _ _ ls hW (lv_sub hl [1, 2, 0] rfl) hs hf
          · replace hf := if_f c28 hf
            replace hs := hs.2 c28
            refine lv_aload_n hx hb dX5_pass_41 rfl (lv_at hl 1 rfl) ?_
            refine gX5_bursts S hW kf_X5_169 dX5_pass_42 ?_
            refine lv_iconst (v := 2) hx hb dX5_pass_45 (by decide) ?_
            refine lv_irem hx hb dX5_pass_46 (by decide) ?_
            obtain ⟨x29, ex29, hf⟩ := bd_e hf
            replace hs := bd_s ex29 hs
            refine lv_nmi ex29 ?_
            refine lv_istore_n (lv' := [(3, .int x29), (2, .int x22), (0, .ref (g.1 0)), (1, .int x1)]) hx hb dX5_pass_47 rfl hl (by decide) rfl (fun ls hl => ?_)
            refine lv_aload_n hx hb dX5_pass_48 rfl (lv_at hl 2 rfl) ?_
            refine lv_dup hx hb dX5_pass_49 rfl ?_
            refine gX5_bursts S hW kf_X5_169 dX5_pass_50 ?_
            refine lv_iconst (v := 1) hx hb dX5_pass_53 (by decide) ?_
            refine lv_iadd hx hb dX5_pass_54 ?_
            obtain ⟨z30, ez30, hf⟩ := bd_e hf
            replace hs := bd_s ez30 hs
            refine pX5_bursts S hW kf_X5_169 dX5_pass_55 ez30 (fun H locs hW => ?_)
            refine lv_aload_n hx hb dX5_pass_58 rfl (lv_at hl 2 rfl) ?_
            refine lv_sipush (v := 129) hx hb dX5_pass_59 (by decide) ?_
            refine lv_iload_n hx hb dX5_pass_62 rfl (lv_at hl 0 rfl) ?_
            refine lv_aload_n hx hb dX5_pass_63 rfl (lv_at hl 2 rfl) ?_
            refine gX5_burstCommand S hW kf_X5_30 dX5_pass_64 ?_
            refine lv_iconst (v := 0) hx hb dX5_pass_67 (by decide) ?_
            refine lv_aload_n hx hb dX5_pass_68 rfl (lv_at hl 2 rfl) ?_
            refine gX5_now S hW kf_X5_151 dX5_pass_69 ?_
            refine lv_i2l hx hb dX5_pass_72 rfl ?_
            obtain ⟨q31, hs⟩ := hs
            obtain ⟨z32, ez32, hf⟩ := bd_e hf
            replace hs := bd_s ez32 hs
            refine ct_V (As := [.int 129, .int x29, .int (gI z30 7), .int 0, .long (Int32.toInt64 (gI z30 12))]) (rest := []) (st1 := []) (q0 := 0) (ci := 5) S hA hW (c_X5_send l D g z30 129 x29 (gI z30 7) 0 (Int32.toInt64 (gI z30 12)) ez32 q31) (wG_V km_X5_156 ki_yX5_send ks_yX5_send kn_X5 kc_yX5_send) ⟨rfl, rfl⟩ hd_X5_send (by rw [hR]; exact ⟨Nat.le_of_ble_eq_true rfl, Nat.le_of_ble_eq_true rfl⟩) rfl rfl rfl rfl hl.1 rfl (Nat.le_of_ble_eq_true rfl) ⟨Nat.zero_le _, Nat.zero_le _⟩ dX5_pass_73 rfl (fun H locs hW => ?_)
            refine lv_iconst (v := 1) hx hb dX5_pass_76 (by decide) ?_
            refine lv_istore_n (lv' := [(2, .int 1), (3, .int x29), (0, .ref (g.1 0)), (1, .int x1)]) hx hb dX5_pass_77 rfl hl (by decide) rfl (fun ls hl => ?_)
            exact J_78 z32 x1 1 _ _ ls hW (lv_sub hl [2, 3, 0] rfl) hs hf
