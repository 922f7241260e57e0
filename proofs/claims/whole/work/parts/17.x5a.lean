def f_X5_addressSize (z : Sg)  : Int32 × Sg := (if (gA z 5 (Int32.toNatClampNeg 0)) = 130 then (5, z) else (1, z))
theorem hd_X5_addressSize : yX5_addressSize.cls = RX5 ∧ yX5_addressSize.cls ≠ "java/lang/invoke/MethodHandle" ∧ yX5_addressSize.cls ≠ "java/lang/invoke/VarHandle" ∧ (parseMethodDescriptor yX5_addressSize.desc).map (fun d => d.parameters.length) = some 0 := by decide +kernel
set_option maxHeartbeats 4000000 in
set_option maxRecDepth 100000 in
theorem c_X5_addressSize (l : Launch) (D : va_G) (g : Gv) (z : Sg)  {r : Int32 × Sg} (er : r = f_X5_addressSize z ) : CT D (wM g) (tM g) l yX5_addressSize (wG yX5_addressSize cX5_addressSize 1 (some .int)) { frames := 0, cells := 0, slots := 0, locals := 0 } [.ref (g.1 0)] z (some (.int r.1)) r.2 := by
  refine CT.ofW (by decide) (Nat.le_of_ble_eq_true rfl) ?_
  intro p e R s m args below meth c A hR S hr hlocks hA hW ls hl
  have S : CallFix p m c cX5_addressSize 1 s args wsL_law RX5 := S
  have hl : lv_has ls 1 [(0, .ref (g.1 0))] := hl
  have hx := S.1
  have hb := S.2.1
  have hf := er.symm
  clear er
  unfold f_X5_addressSize at hf
  refine lv_aload_n hx hb dX5_addressSize_0 rfl (lv_at hl 0 rfl) ?_
  refine gX5_frame S hW kf_X5_33 dX5_addressSize_1 ?_
  refine lv_iconst (v := 0) hx hb dX5_addressSize_4 (by decide) ?_
  refine aM5 S hW (vi_of (M := 40) (by decide) (by decide) (by decide)) dX5_addressSize_5 ?_
  refine lv_sipush (v := 130) hx hb dX5_addressSize_6 (by decide) ?_
  refine lv_icmp_ne (tgt := 16) hx hb dX5_addressSize_9 (by decide) (fun c21 => ?_) (fun c21 => ?_)
  · replace hf := if_f c21 hf
    refine lv_iconst (v := 1) hx hb dX5_addressSize_16 (by decide) ?_
    subst hf
    exact ct_i S hr hlocks hW dX5_addressSize_17
  · replace hf := if_t c21 hf
    refine lv_iconst (v := 5) hx hb dX5_addressSize_12 (by decide) ?_
    refine lv_goto (tgt := 17) hx hb dX5_addressSize_13 (by decide) ?_
    subst hf
    exact ct_i S hr hlocks hW dX5_addressSize_17
def f_X5_command (z : Sg)  : Int32 × Sg := bd (f_X5_addressSize z) (fun r21 => (gA r21.2 5 (Int32.toNatClampNeg (1 + r21.1)), r21.2))
def s_X5_command (z : Sg)  : Prop := bd (f_X5_addressSize z) (fun r21 => (vp_in (1 + r21.1) 40) ∧ True)
theorem hd_X5_command : yX5_command.cls = RX5 ∧ yX5_command.cls ≠ "java/lang/invoke/MethodHandle" ∧ yX5_command.cls ≠ "java/lang/invoke/VarHandle" ∧ (parseMethodDescriptor yX5_command.desc).map (fun d => d.parameters.length) = some 0 := by decide +kernel
set_option maxHeartbeats 4000000 in
set_option maxRecDepth 100000 in
theorem c_X5_command (l : Launch) (D : va_G) (g : Gv) (z : Sg)  {r : Int32 × Sg} (er : r = f_X5_command z ) (hs : s_X5_command z ) : CT D (wM g) (tM g) l yX5_command (wG yX5_command cX5_command 1 (some .int)) { frames := 1, cells := 0, slots := 0, locals := 20 } [.ref (g.1 0)] z (some (.int r.1)) r.2 := by
  refine CT.ofW (by decide) (Nat.le_of_ble_eq_true rfl) ?_
  intro p e R s m args below meth c A hR S hr hlocks hA hW ls hl
  have S : CallFix p m c cX5_command 1 s args wsL_law RX5 := S
  have hl : lv_has ls 1 [(0, .ref (g.1 0))] := hl
  have hx := S.1
  have hb := S.2.1
  have hf := er.symm
  clear er
  unfold f_X5_command at hf
  unfold s_X5_command at hs
  refine lv_aload_n hx hb dX5_command_0 rfl (lv_at hl 0 rfl) ?_
  refine gX5_frame S hW kf_X5_33 dX5_command_1 ?_
  refine lv_iconst (v := 1) hx hb dX5_command_4 (by decide) ?_
  refine lv_aload_n hx hb dX5_command_5 rfl (lv_at hl 0 rfl) ?_
  obtain ⟨r21, er21, hf⟩ := bd_e hf
  replace hs := bd_s er21 hs
  refine ct_V (As := []) (rest := [.int 1, .ref (g.1 6)]) (st1 := [.int r21.1, .int 1, .ref (g.1 6)]) (q0 := 0) (ci := 5) S hA hW (c_X5_addressSize l D g z er21) (wG_V km_X5_57 ki_yX5_addressSize ks_yX5_addressSize kn_X5 kc_yX5_addressSize) ⟨rfl, rfl⟩ hd_X5_addressSize (by rw [hR]; exact ⟨Nat.le_of_ble_eq_true rfl, Nat.le_of_ble_eq_true rfl⟩) rfl rfl rfl rfl hl.1 rfl (Nat.le_of_ble_eq_true rfl) ⟨Nat.zero_le _, Nat.zero_le _⟩ dX5_command_6 rfl (fun H locs hW => ?_)
  refine lv_iadd hx hb dX5_command_9 ?_
  obtain ⟨q22, hs⟩ := hs
  refine aM5 S hW q22 dX5_command_10 ?_
  subst hf
  exact ct_i S hr hlocks hW dX5_command_11
def f_X5_count (z : Sg)  : Int32 × Sg := bd (f_X5_addressSize z) (fun r21 => (gA r21.2 5 (Int32.toNatClampNeg (2 + r21.1)), r21.2))
def s_X5_count (z : Sg)  : Prop := bd (f_X5_addressSize z) (fun r21 => (vp_in (2 + r21.1) 40) ∧ True)
theorem hd_X5_count : yX5_count.cls = RX5 ∧ yX5_count.cls ≠ "java/lang/invoke/MethodHandle" ∧ yX5_count.cls ≠ "java/lang/invoke/VarHandle" ∧ (parseMethodDescriptor yX5_count.desc).map (fun d => d.parameters.length) = some 0 := by decide +kernel
set_option maxHeartbeats 4000000 in
set_option maxRecDepth 100000 in
theorem c_X5_count (l : Launch) (D : va_G) (g : Gv) (z : Sg)  {r : Int32 × Sg} (er : r = f_X5_count z ) (hs : s_X5_count z ) : CT D (wM g) (tM g) l yX5_count (wG yX5_count cX5_count 1 (some .int)) { frames := 1, cells := 0, slots := 0, locals := 20 } [.ref (g.1 0)] z (some (.int r.1)) r.2 := by
  refine CT.ofW (by decide) (Nat.le_of_ble_eq_true rfl) ?_
  intro p e R s m args below meth c A hR S hr hlocks hA hW ls hl
  have S : CallFix p m c cX5_count 1 s args wsL_law RX5 := S
  have hl : lv_has ls 1 [(0, .ref (g.1 0))] := hl
  have hx := S.1
  have hb := S.2.1
  have hf := er.symm
  clear er
  unfold f_X5_count at hf
  unfold s_X5_count at hs
  refine lv_aload_n hx hb dX5_count_0 rfl (lv_at hl 0 rfl) ?_
  refine gX5_frame S hW kf_X5_33 dX5_count_1 ?_
  refine lv_iconst (v := 2) hx hb dX5_count_4 (by decide) ?_
  refine lv_aload_n hx hb dX5_count_5 rfl (lv_at hl 0 rfl) ?_
  obtain ⟨r21, er21, hf⟩ := bd_e hf
  replace hs := bd_s er21 hs
  refine ct_V (As := []) (rest := [.int 2, .ref (g.1 6)]) (st1 := [.int r21.1, .int 2, .ref (g.1 6)]) (q0 := 0) (ci := 5) S hA hW (c_X5_addressSize l D g z er21) (wG_V km_X5_57 ki_yX5_addressSize ks_yX5_addressSize kn_X5 kc_yX5_addressSize) ⟨rfl, rfl⟩ hd_X5_addressSize (by rw [hR]; exact ⟨Nat.le_of_ble_eq_true rfl, Nat.le_of_ble_eq_true rfl⟩) rfl rfl rfl rfl hl.1 rfl (Nat.le_of_ble_eq_true rfl) ⟨Nat.zero_le _, Nat.zero_le _⟩ dX5_count_6 rfl (fun H locs hW => ?_)
  refine lv_iadd hx hb dX5_count_9 ?_
  obtain ⟨q22, hs⟩ := hs
  refine aM5 S hW q22 dX5_count_10 ?_
  subst hf
  exact ct_i S hr hlocks hW dX5_count_11
def f_X5_data (z : Sg) (x1 : Int32) : Int32 × Sg := bd (f_X5_addressSize z) (fun r21 => (gA r21.2 5 (Int32.toNatClampNeg ((3 + r21.1) + x1)), r21.2))
def s_X5_data (z : Sg) (x1 : Int32) : Prop := bd (f_X5_addressSize z) (fun r21 => (vp_in ((3 + r21.1) + x1) 40) ∧ True)
theorem hd_X5_data : yX5_data.cls = RX5 ∧ yX5_data.cls ≠ "java/lang/invoke/MethodHandle" ∧ yX5_data.cls ≠ "java/lang/invoke/VarHandle" ∧ (parseMethodDescriptor yX5_data.desc).map (fun d => d.parameters.length) = some 1 := by decide +kernel
set_option maxHeartbeats 4000000 in
set_option maxRecDepth 100000 in
theorem c_X5_data (l : Launch) (D : va_G) (g : Gv) (z : Sg) (x1 : Int32) {r : Int32 × Sg} (er : r = f_X5_data z x1) (hs : s_X5_data z x1) : CT D (wM g) (tM g) l yX5_data (wG yX5_data cX5_data 2 (some .int)) { frames := 1, cells := 0, slots := 0, locals := 20 } [.ref (g.1 0), .int x1] z (some (.int r.1)) r.2 := by
  refine CT.ofW (by decide) (Nat.le_of_ble_eq_true rfl) ?_
  intro p e R s m args below meth c A hR S hr hlocks hA hW ls hl
  have S : CallFix p m c cX5_data 2 s args wsL_law RX5 := S
  have hl : lv_has ls 2 [(0, .ref (g.1 0)), (1, .int x1)] := hl
  have hx := S.1
  have hb := S.2.1
  have hf := er.symm
  clear er
  unfold f_X5_data at hf
  unfold s_X5_data at hs
  refine lv_aload_n hx hb dX5_data_0 rfl (lv_at hl 0 rfl) ?_
  refine gX5_frame S hW kf_X5_33 dX5_data_1 ?_
  refine lv_iconst (v := 3) hx hb dX5_data_4 (by decide) ?_
  refine lv_aload_n hx hb dX5_data_5 rfl (lv_at hl 0 rfl) ?_
  obtain ⟨r21, er21, hf⟩ := bd_e hf
  replace hs := bd_s er21 hs
  refine ct_V (As := []) (rest := [.int 3, .ref (g.1 6)]) (st1 := [.int r21.1, .int 3, .ref (g.1 6)]) (q0 := 0) (ci := 5) S hA hW (c_X5_addressSize l D g z er21) (wG_V km_X5_57 ki_yX5_addressSize ks_yX5_addressSize kn_X5 kc_yX5_addressSize) ⟨rfl, rfl⟩ hd_X5_addressSize (by rw [hR]; exact ⟨Nat.le_of_ble_eq_true rfl, Nat.le_of_ble_eq_true rfl⟩) rfl rfl rfl rfl hl.1 rfl (Nat.le_of_ble_eq_true rfl) ⟨Nat.zero_le _, Nat.zero_le _⟩ dX5_data_6 rfl (fun H locs hW => ?_)
  refine lv_iadd hx hb dX5_data_9 ?_
  refine lv_iload_n hx hb dX5_data_10 rfl (lv_at hl 1 rfl) ?_
  refine lv_iadd hx hb dX5_data_11 ?_
  obtain ⟨q22, hs⟩ := hs
  refine aM5 S hW q22 dX5_data_12 ?_
  subst hf
  exact ct_i S hr hlocks hW dX5_data_13
def f_X5_word (z : Sg) (x1 : Int32) : Int32 × Sg := bd (f_X5_data z x1) (fun r22 => bd (f_X5_data r22.2 (x1 + 1)) (fun r24 => bd (f_X5_data r24.2 (x1 + 2)) (fun r26 => bd (f_X5_data r26.2 (x1 + 3)) (fun r28 => ((((r22.1 <<< (24 &&& 31)) ||| (r24.1 <<< (16 &&& 31))) ||| (r26.1 <<< (8 &&& 31))) ||| r28.1, r28.2)))))
def s_X5_word (z : Sg) (x1 : Int32) : Prop := (s_X5_data z x1) ∧ bd (f_X5_data z x1) (fun r22 => (s_X5_data r22.2 (x1 + 1)) ∧ bd (f_X5_data r22.2 (x1 + 1)) (fun r24 => (s_X5_data r24.2 (x1 + 2)) ∧ bd (f_X5_data r24.2 (x1 + 2)) (fun r26 => (s_X5_data r26.2 (x1 + 3)) ∧ True)))
theorem hd_X5_word : yX5_word.cls = RX5 ∧ yX5_word.cls ≠ "java/lang/invoke/MethodHandle" ∧ yX5_word.cls ≠ "java/lang/invoke/VarHandle" ∧ (parseMethodDescriptor yX5_word.desc).map (fun d => d.parameters.length) = some 1 := by decide +kernel
set_option maxHeartbeats 4000000 in
set_option maxRecDepth 100000 in
theorem c_X5_word (l : Launch) (D : va_G) (g : Gv) (z : Sg) (x1 : Int32) {r : Int32 × Sg} (er : r = f_X5_word z x1) (hs : s_X5_word z x1) : CT D (wM g) (tM g) l yX5_word (wG yX5_word cX5_word 2 (some .int)) { frames := 2, cells := 0, slots := 0, locals := 41 } [.ref (g.1 0), .int x1] z (some (.int r.1)) r.2 := by
  refine CT.ofW (by decide) (Nat.le_of_ble_eq_true rfl) ?_
  intro p e R s m args below meth c A hR S hr hlocks hA hW ls hl
  have S : CallFix p m c cX5_word 2 s args wsL_law RX5 := S
  have hl : lv_has ls 2 [(0, .ref (g.1 0)), (1, .int x1)] := hl
  have hx := S.1
  have hb := S.2.1
  have hf := er.symm
  clear er
  unfold f_X5_word at hf
  unfold s_X5_word at hs
  refine lv_aload_n hx hb dX5_word_0 rfl (lv_at hl 0 rfl) ?_
  refine lv_iload_n hx hb dX5_word_1 rfl (lv_at hl 1 rfl) ?_
  obtain ⟨q21, hs⟩ := hs
  obtain ⟨r22, er22, hf⟩ := bd_e hf
  replace hs := bd_s er22 hs
  refine ct_V (As := [.int x1]) (rest := []) (st1 := [.int r22.1]) (q0 := 0) (ci := 5) S hA hW (c_X5_data l D g z x1 er22 q21) (wG_V km_X5_61 ki_yX5_data ks_yX5_data kn_X5 kc_yX5_data) ⟨rfl, rfl⟩ hd_X5_data (by rw [hR]; exact ⟨Nat.le_of_ble_eq_true rfl, Nat.le_of_ble_eq_true rfl⟩) rfl rfl rfl rfl hl.1 rfl (Nat.le_of_ble_eq_true rfl) ⟨Nat.zero_le _, Nat.zero_le _⟩ dX5_word_2 rfl (fun H locs hW => ?_)
  refine lv_bipush (v := 24) hx hb dX5_word_5 (by decide) ?_
  refine lv_ishl hx hb dX5_word_7 ?_
  refine lv_aload_n hx hb dX5_word_8 rfl (lv_at hl 0 rfl) ?_
  refine lv_iload_n hx hb dX5_word_9 rfl (lv_at hl 1 rfl) ?_
  refine lv_iconst (v := 1) hx hb dX5_word_10 (by decide) ?_
  refine lv_iadd hx hb dX5_word_11 ?_
  obtain ⟨q23, hs⟩ := hs
  obtain ⟨r24, er24, hf⟩ := bd_e hf
  replace hs := bd_s er24 hs
  refine ct_V (As := [.int (x1 + 1)]) (rest := [.int (r22.1 <<< (24 &&& 31))]) (st1 := [.int r24.1, .int (r22.1 <<< (24 &&& 31))]) (q0 := 0) (ci := 5) S hA hW (c_X5_data l D g r22.2 (x1 + 1) er24 q23) (wG_V km_X5_61 ki_yX5_data ks_yX5_data kn_X5 kc_yX5_data) ⟨rfl, rfl⟩ hd_X5_data (by rw [hR]; exact ⟨Nat.le_of_ble_eq_true rfl, Nat.le_of_ble_eq_true rfl⟩) rfl rfl rfl rfl hl.1 rfl (Nat.le_of_ble_eq_true rfl) ⟨Nat.zero_le _, Nat.zero_le _⟩ dX5_word_12 rfl (fun H locs hW => ?_)
  refine lv_bipush (v := 16) hx hb dX5_word_15 (by decide) ?_
  refine lv_ishl hx hb dX5_word_17 ?_
  refine lv_ior hx hb dX5_word_18 ?_
  refine lv_aload_n hx hb dX5_word_19 rfl (lv_at hl 0 rfl) ?_
  refine lv_iload_n hx hb dX5_word_20 rfl (lv_at hl 1 rfl) ?_
  refine lv_iconst (v := 2) hx hb dX5_word_21 (by decide) ?_
  refine lv_iadd hx hb dX5_word_22 ?_
  obtain ⟨q25, hs⟩ := hs
  obtain ⟨r26, er26, hf⟩ := bd_e hf
  replace hs := bd_s er26 hs
  refine ct_V (As := [.int (x1 + 2)]) (rest := [.int ((r22.1 <<< (24 &&& 31)) ||| (r24.1 <<< (16 &&& 31)))]) (st1 := [.int r26.1, .int ((r22.1 <<< (24 &&& 31)) ||| (r24.1 <<< (16 &&& 31)))]) (q0 := 0) (ci := 5) S hA hW (c_X5_data l D g r24.2 (x1 + 2) er26 q25) (wG_V km_X5_61 ki_yX5_data ks_yX5_data kn_X5 kc_yX5_data) ⟨rfl, rfl⟩ hd_X5_data (by rw [hR]; exact ⟨Nat.le_of_ble_eq_true rfl, Nat.le_of_ble_eq_true rfl⟩) rfl rfl rfl rfl hl.1 rfl (Nat.le_of_ble_eq_true rfl) ⟨Nat.zero_le _, Nat.zero_le _⟩ dX5_word_23 rfl (fun H locs hW => ?_)
  refine lv_bipush (v := 8) hx hb dX5_word_26 (by decide) ?_
  refine lv_ishl hx hb dX5_word_28 ?_
  refine lv_ior hx hb dX5_word_29 ?_
  refine lv_aload_n hx hb dX5_word_30 rfl (lv_at hl 0 rfl) ?_
  refine lv_iload_n hx hb dX5_word_31 rfl (lv_at hl 1 rfl) ?_
  refine lv_iconst (v := 3) hx hb dX5_word_32 (by decide) ?_
  refine lv_iadd hx hb dX5_word_33 ?_
  obtain ⟨q27, hs⟩ := hs
  obtain ⟨r28, er28, hf⟩ := bd_e hf
  refine ct_V (As := [.int (x1 + 3)]) (rest := [.int (((r22.1 <<< (24 &&& 31)) ||| (r24.1 <<< (16 &&& 31))) ||| (r26.1 <<< (8 &&& 31)))]) (st1 := [.int r28.1, .int (((r22.1 <<< (24 &&& 31)) ||| (r24.1 <<< (16 &&& 31))) ||| (r26.1 <<< (8 &&& 31)))]) (q0 := 0) (ci := 5) S hA hW (c_X5_data l D g r26.2 (x1 + 3) er28 q27) (wG_V km_X5_61 ki_yX5_data ks_yX5_data kn_X5 kc_yX5_data) ⟨rfl, rfl⟩ hd_X5_data (by rw [hR]; exact ⟨Nat.le_of_ble_eq_true rfl, Nat.le_of_ble_eq_true rfl⟩) rfl rfl rfl rfl hl.1 rfl (Nat.le_of_ble_eq_true rfl) ⟨Nat.zero_le _, Nat.zero_le _⟩ dX5_word_34 rfl (fun H locs hW => ?_)
  refine lv_ior hx hb dX5_word_37 ?_
  subst hf
  exact ct_i S hr hlocks hW dX5_word_38
def f_X5_master (z : Sg)  : Int32 × Sg := (if (gA z 5 (Int32.toNatClampNeg 1)) ≤ 127 then (1, z) else (0, z))
theorem hd_X5_master : yX5_master.cls = RX5 ∧ yX5_master.cls ≠ "java/lang/invoke/MethodHandle" ∧ yX5_master.cls ≠ "java/lang/invoke/VarHandle" ∧ (parseMethodDescriptor yX5_master.desc).map (fun d => d.parameters.length) = some 0 := by decide +kernel
set_option maxHeartbeats 4000000 in
set_option maxRecDepth 100000 in
theorem c_X5_master (l : Launch) (D : va_G) (g : Gv) (z : Sg)  {r : Int32 × Sg} (er : r = f_X5_master z ) : CT D (wM g) (tM g) l yX5_master (wG yX5_master cX5_master 1 (some .int)) { frames := 0, cells := 0, slots := 0, locals := 0 } [.ref (g.1 0)] z (some (.int r.1)) r.2 := by
  refine CT.ofW (by decide) (Nat.le_of_ble_eq_true rfl) ?_
  intro p e R s m args below meth c A hR S hr hlocks hA hW ls hl
  have S : CallFix p m c cX5_master 1 s args wsL_law RX5 := S
  have hl : lv_has ls 1 [(0, .ref (g.1 0))] := hl
  have hx := S.1
  have hb := S.2.1
  have hf := er.symm
  clear er
  unfold f_X5_master at hf
  refine lv_aload_n hx hb dX5_master_0 rfl (lv_at hl 0 rfl) ?_
  refine gX5_frame S hW kf_X5_33 dX5_master_1 ?_
  refine lv_iconst (v := 1) hx hb dX5_master_4 (by decide) ?_
  refine aM5 S hW (vi_of (M := 40) (by decide) (by decide) (by decide)) dX5_master_5 ?_
  refine lv_bipush (v := 127) hx hb dX5_master_6 (by decide) ?_
  refine lv_icmp_le (tgt := 15) hx hb dX5_master_8 (by decide) (fun c21 => ?_) (fun c21 => ?_)
  · replace hf := if_t c21 hf
    refine lv_iconst (v := 1) hx hb dX5_master_15 (by decide) ?_
    subst hf
    exact ct_i S hr hlocks hW dX5_master_16
  · replace hf := if_f c21 hf
    refine lv_iconst (v := 0) hx hb dX5_master_11 (by decide) ?_
    refine lv_goto (tgt := 16) hx hb dX5_master_12 (by decide) ?_
    subst hf
    exact ct_i S hr hlocks hW dX5_master_16
def f_X5_forget (z : Sg)  : Sg := bd (pI z 9 0) (fun z21 => bd (pI z21 10 0) (fun z22 => z22))
theorem hd_X5_forget : yX5_forget.cls = RX5 ∧ yX5_forget.cls ≠ "java/lang/invoke/MethodHandle" ∧ yX5_forget.cls ≠ "java/lang/invoke/VarHandle" ∧ (parseMethodDescriptor yX5_forget.desc).map (fun d => d.parameters.length) = some 0 := by decide +kernel
set_option maxHeartbeats 4000000 in
set_option maxRecDepth 100000 in
theorem c_X5_forget (l : Launch) (D : va_G) (g : Gv) (z : Sg)  {r : Sg} (er : r = f_X5_forget z ) : CT D (wM g) (tM g) l yX5_forget (wG yX5_forget cX5_forget 1 none) { frames := 0, cells := 0, slots := 0, locals := 0 } [.ref (g.1 0)] z none r := by
  refine CT.ofW (by decide) (Nat.le_of_ble_eq_true rfl) ?_
  intro p e R s m args below meth c A hR S hr hlocks hA hW ls hl
  have S : CallFix p m c cX5_forget 1 s args wsL_law RX5 := S
  have hl : lv_has ls 1 [(0, .ref (g.1 0))] := hl
  have hx := S.1
  have hb := S.2.1
  have hf := er.symm
  clear er
  unfold f_X5_forget at hf
  refine lv_aload_n hx hb dX5_forget_0 rfl (lv_at hl 0 rfl) ?_
  refine lv_iconst (v := 0) hx hb dX5_forget_1 (by decide) ?_
  obtain ⟨z21, ez21, hf⟩ := bd_e hf
  refine pX5_preamble S hW kf_X5_65 dX5_forget_2 ez21 (fun H locs hW => ?_)
  refine lv_aload_n hx hb dX5_forget_5 rfl (lv_at hl 0 rfl) ?_
  refine lv_iconst (v := 0) hx hb dX5_forget_6 (by decide) ?_
  obtain ⟨z22, ez22, hf⟩ := bd_e hf
  refine pX5_came S hW kf_X5_68 dX5_forget_7 ez22 (fun H locs hW => ?_)
  subst hf
  exact ct_v S hr hlocks hW dX5_forget_10
def f_X5_keep_51 (z : Sg) (y1 : Int32) (y2 : Int32) (k1 : Int32) : Int32 × Sg := bd (pI z 9 k1) (fun z43 => (if y2 = 0 then (0, z43) else bd (pA z43 5 (Int32.toNatClampNeg 0) y1) (fun z45 => bd (pI z45 10 1) (fun z46 => (0, z46)))))
def f_X5_keep_122 (z : Sg) (y2 : Int32) : Int32 × Sg := (if (gI z 10) ≤ y2 then (0, z) else bd (f_X5_count z) (fun r41 => (if (gI z 10) = ((y2 + r41.1) + 1) then (1, r41.2) else (0, r41.2))))
def s_X5_keep_122 (z : Sg) (y2 : Int32) : Prop := ((gI z 10) ≤ y2 → True) ∧ (¬ (gI z 10) ≤ y2 → (s_X5_count z) ∧ True)
def f_X5_keep (z : Sg) (x1 : Int32) : Int32 × Sg := (if (gI z 10) = 0 then (if (gI z 9) ≤ 2 then (if x1 = 255 then f_X5_keep_51 z x1 0 ((gI z 9) + 1) else f_X5_keep_51 z x1 0 0) else (if x1 = 2 then (if x1 = 255 then f_X5_keep_51 z x1 1 ((gI z 9) + 1) else f_X5_keep_51 z x1 1 0) else (if x1 = 130 then (if x1 = 255 then f_X5_keep_51 z x1 1 ((gI z 9) + 1) else f_X5_keep_51 z x1 1 0) else (if x1 = 255 then f_X5_keep_51 z x1 0 ((gI z 9) + 1) else f_X5_keep_51 z x1 0 0)))) else bd (pA z 5 (Int32.toNatClampNeg (gI z 10)) x1) (fun z23 => bd (pI z23 10 ((gI z23 10) + 1)) (fun z24 => bd (f_X5_addressSize z24) (fun r25 => bd (3 + r25.1) (fun x26 => (if (gI r25.2 10) = x26 then bd (f_X5_count r25.2) (fun r29 => (if r29.1 ≤ 20 then f_X5_keep_122 r29.2 x26 else bd (f_X5_forget r29.2) (fun z31 => (0, z31)))) else f_X5_keep_122 r25.2 x26))))))
def s_X5_keep (z : Sg) (x1 : Int32) : Prop := ((gI z 10) = 0 → ((gI z 9) ≤ 2 → (x1 = 255 → True) ∧ (¬ x1 = 255 → True)) ∧ (¬ (gI z 9) ≤ 2 → (x1 = 2 → (x1 = 255 → True) ∧ (¬ x1 = 255 → True)) ∧ (¬ x1 = 2 → (x1 = 130 → (x1 = 255 → True) ∧ (¬ x1 = 255 → True)) ∧ (¬ x1 = 130 → (x1 = 255 → True) ∧ (¬ x1 = 255 → True))))) ∧ (¬ (gI z 10) = 0 → (vp_in (gI z 10) 40) ∧ bd (pA z 5 (Int32.toNatClampNeg (gI z 10)) x1) (fun z23 => bd (pI z23 10 ((gI z23 10) + 1)) (fun z24 => bd (f_X5_addressSize z24) (fun r25 => bd (3 + r25.1) (fun x26 => ((gI r25.2 10) = x26 → (s_X5_count r25.2) ∧ bd (f_X5_count r25.2) (fun r29 => (r29.1 ≤ 20 → s_X5_keep_122 r29.2 x26) ∧ (¬ r29.1 ≤ 20 → True))) ∧ (¬ (gI r25.2 10) = x26 → s_X5_keep_122 r25.2 x26))))))
theorem hd_X5_keep : yX5_keep.cls = RX5 ∧ yX5_keep.cls ≠ "java/lang/invoke/MethodHandle" ∧ yX5_keep.cls ≠ "java/lang/invoke/VarHandle" ∧ (parseMethodDescriptor yX5_keep.desc).map (fun d => d.parameters.length) = some 1 := by decide +kernel
set_option maxHeartbeats 4000000 in
set_option maxRecDepth 100000 in
theorem c_X5_keep (l : Launch) (D : va_G) (g : Gv) (z : Sg) (x1 : Int32) {r : Int32 × Sg} (er : r = f_X5_keep z x1) (hs : s_X5_keep z x1) : CT D (wM g) (tM g) l yX5_keep (wG yX5_keep cX5_keep 3 (some .boolean)) { frames := 2, cells := 0, slots := 0, locals := 40 } [.ref (g.1 0), .int x1] z (some (.int r.1)) r.2 := by
  refine CT.ofW (by decide) (Nat.le_of_ble_eq_true rfl) ?_
  intro p e R s m args below meth c A hR S hr hlocks hA hW ls hl
  have S : CallFix p m c cX5_keep 3 s args wsL_law RX5 := S
  have hl : lv_has ls 3 [(0, .ref (g.1 0)), (1, .int x1)] := hl
  have hx := S.1
  have hb := S.2.1
  have hf := er.symm
  clear er
  have J_51 : ∀ (z : Sg) (y1 : Int32) (y2 : Int32) (k1 : Int32) (H : Heap) (locs : List Loc) (ls : Array Slot), Wd D (wM g) (tM g) A s H locs z → lv_has ls 3 [(0, .ref (g.1 0)), (1, .int y1), (2, .int y2)] → f_X5_keep_51 z y1 y2 k1 = r → W p l e R s m args below meth c H locs 0 0 (MQ below (CQ D (wM g) A (some (.int r.1)) r.2) args s 0 0 A) (F0 m 51 ls [.int k1, .ref (g.1 0)]) := by
    intro z y1 y2 k1 H locs ls hW hl hf
    unfold f_X5_keep_51 at hf
    obtain ⟨z43, ez43, hf⟩ := bd_e hf
    refine pX5_preamble S hW kf_X5_65 dX5_keep_51 ez43 (fun H locs hW => ?_)
    refine lv_iload_n hx hb dX5_keep_54 rfl (lv_at hl 2 rfl) ?_
    refine lv_if_eq (tgt := 70) hx hb dX5_keep_55 (by decide) (fun c44 => ?_) (fun c44 => ?_)
    · replace hf := if_t c44 hf
      refine lv_iconst (v := 0) hx hb dX5_keep_70 (by decide) ?_
      subst hf
      exact ct_z (Or.inl rfl) S hr hlocks hW dX5_keep_71
    · replace hf := if_f c44 hf
      refine lv_aload_n hx hb dX5_keep_58 rfl (lv_at hl 0 rfl) ?_
      refine gX5_frame S hW kf_X5_33 dX5_keep_59 ?_
      refine lv_iconst (v := 0) hx hb dX5_keep_62 (by decide) ?_
      refine lv_iload_n hx hb dX5_keep_63 rfl (lv_at hl 1 rfl) ?_
      obtain ⟨z45, ez45, hf⟩ := bd_e hf
      refine sM5 S hW (vi_of (M := 40) (by decide) (by decide) (by decide)) dX5_keep_64 ez45 (fun H locs hW => ?_)
      refine lv_aload_n hx hb dX5_keep_65 rfl (lv_at hl 0 rfl) ?_
      refine lv_iconst (v := 1) hx hb dX5_keep_66 (by decide) ?_
      obtain ⟨z46, ez46, hf⟩ := bd_e hf
      refine pX5_came S hW kf_X5_68 dX5_keep_67 ez46 (fun H locs hW => ?_)
      refine lv_iconst (v := 0) hx hb dX5_keep_70 (by decide) ?_
      subst hf
      exact ct_z (Or.inl rfl) S hr hlocks hW dX5_keep_71
  have J_122 : ∀ (z : Sg) (y2 : Int32) (H : Heap) (locs : List Loc) (ls : Array Slot), Wd D (wM g) (tM g) A s H locs z → lv_has ls 3 [(0, .ref (g.1 0)), (2, .int y2)] → s_X5_keep_122 z y2 → f_X5_keep_122 z y2 = r → W p l e R s m args below meth c H locs 0 0 (MQ below (CQ D (wM g) A (some (.int r.1)) r.2) args s 0 0 A) (F0 m 122 ls []) := by
    intro z y2 H locs ls hW hl hs hf
    unfold f_X5_keep_122 at hf
    unfold s_X5_keep_122 at hs
    refine lv_aload_n hx hb dX5_keep_122 rfl (lv_at hl 0 rfl) ?_
    refine gX5_came S hW kf_X5_68 dX5_keep_123 ?_
    refine lv_iload_n hx hb dX5_keep_126 rfl (lv_at hl 1 rfl) ?_
    refine lv_icmp_le (tgt := 149) hx hb dX5_keep_127 (by decide) (fun c39 => ?_) (fun c39 => ?_)
    · replace hf := if_t c39 hf
      replace hs := hs.1 c39
      refine lv_iconst (v := 0) hx hb dX5_keep_149 (by decide) ?_
      subst hf
      exact ct_z (Or.inl rfl) S hr hlocks hW dX5_keep_150
    · replace hf := if_f c39 hf
      replace hs := hs.2 c39
      refine lv_aload_n hx hb dX5_keep_130 rfl (lv_at hl 0 rfl) ?_
      refine gX5_came S hW kf_X5_68 dX5_keep_131 ?_
      refine lv_iload_n hx hb dX5_keep_134 rfl (lv_at hl 1 rfl) ?_
      refine lv_aload_n hx hb dX5_keep_135 rfl (lv_at hl 0 rfl) ?_
      obtain ⟨q40, hs⟩ := hs
      obtain ⟨r41, er41, hf⟩ := bd_e hf
      refine ct_V (As := []) (rest := [.int y2, .int (gI z 10)]) (st1 := [.int r41.1, .int y2, .int (gI z 10)]) (q0 := 0) (ci := 5) S hA hW (c_X5_count l D g z er41 q40) (wG_V km_X5_71 ki_yX5_count ks_yX5_count kn_X5 kc_yX5_count) ⟨rfl, rfl⟩ hd_X5_count (by rw [hR]; exact ⟨Nat.le_of_ble_eq_true rfl, Nat.le_of_ble_eq_true rfl⟩) rfl rfl rfl rfl hl.1 rfl (Nat.le_of_ble_eq_true rfl) ⟨Nat.zero_le _, Nat.zero_le _⟩ dX5_keep_136 rfl (fun H locs hW => ?_)
      refine lv_iadd hx hb dX5_keep_139 ?_
      refine lv_iconst (v := 1) hx hb dX5_keep_140 (by decide) ?_
      refine lv_iadd hx hb dX5_keep_141 ?_
      refine lv_icmp_ne (tgt := 149) hx hb dX5_keep_142 (by decide) (fun c42 => ?_) (fun c42 => ?_)
      · replace hf := if_f c42 hf
        refine lv_iconst (v := 0) hx hb dX5_keep_149 (by decide) ?_
        subst hf
        exact ct_z (Or.inl rfl) S hr hlocks hW dX5_keep_150
      · replace hf := if_t c42 hf
        refine lv_iconst (v := 1) hx hb dX5_keep_145 (by decide) ?_
        refine lv_goto (tgt := 150) hx hb dX5_keep_146 (by decide) ?_
        subst hf
        exact ct_z (Or.inr rfl) S hr hlocks hW dX5_keep_150
  unfold f_X5_keep at hf
  unfold s_X5_keep at hs
  refine lv_aload_n hx hb dX5_keep_0 rfl (lv_at hl 0 rfl) ?_
  refine gX5_came S hW kf_X5_68 dX5_keep_1 ?_
  refine lv_if_ne (tgt := 72) hx hb dX5_keep_4 (by decide) (fun c21 => ?_) (fun c21 => ?_)
  · replace hf := if_f c21 hf
    replace hs := hs.2 c21
    refine lv_aload_n hx hb dX5_keep_72 rfl (lv_at hl 0 rfl) ?_
    refine gX5_frame S hW kf_X5_33 dX5_keep_73 ?_
    refine lv_aload_n hx hb dX5_keep_76 rfl (lv_at hl 0 rfl) ?_
    refine gX5_came S hW kf_X5_68 dX5_keep_77 ?_
    refine lv_iload_n hx hb dX5_keep_80 rfl (lv_at hl 1 rfl) ?_
    obtain ⟨q22, hs⟩ := hs
    obtain ⟨z23, ez23, hf⟩ := bd_e hf
    replace hs := bd_s ez23 hs
    refine sM5 S hW q22 dX5_keep_81 ez23 (fun H locs hW => ?_)
    refine lv_aload_n hx hb dX5_keep_82 rfl (lv_at hl 0 rfl) ?_
    refine lv_dup hx hb dX5_keep_83 rfl ?_
    refine gX5_came S hW kf_X5_68 dX5_keep_84 ?_
    refine lv_iconst (v := 1) hx hb dX5_keep_87 (by decide) ?_
    refine lv_iadd hx hb dX5_keep_88 ?_
    obtain ⟨z24, ez24, hf⟩ := bd_e hf
    replace hs := bd_s ez24 hs
    refine pX5_came S hW kf_X5_68 dX5_keep_89 ez24 (fun H locs hW => ?_)
    refine lv_iconst (v := 3) hx hb dX5_keep_92 (by decide) ?_
    refine lv_aload_n hx hb dX5_keep_93 rfl (lv_at hl 0 rfl) ?_
    obtain ⟨r25, er25, hf⟩ := bd_e hf
    replace hs := bd_s er25 hs
    refine ct_V (As := []) (rest := [.int 3]) (st1 := [.int r25.1, .int 3]) (q0 := 0) (ci := 5) S hA hW (c_X5_addressSize l D g z24 er25) (wG_V km_X5_57 ki_yX5_addressSize ks_yX5_addressSize kn_X5 kc_yX5_addressSize) ⟨rfl, rfl⟩ hd_X5_addressSize (by rw [hR]; exact ⟨Nat.le_of_ble_eq_true rfl, Nat.le_of_ble_eq_true rfl⟩) rfl rfl rfl rfl hl.1 rfl (Nat.le_of_ble_eq_true rfl) ⟨Nat.zero_le _, Nat.zero_le _⟩ dX5_keep_94 rfl (fun H locs hW => ?_)
    refine lv_iadd hx hb dX5_keep_97 ?_
    obtain ⟨x26, ex26, hf⟩ := bd_e hf
    replace hs := bd_s ex26 hs
    refine lv_nmi ex26 ?_
    refine lv_istore_n (lv' := [(2, .int x26), (0, .ref (g.1 0)), (1, .int x1)]) hx hb dX5_keep_98 rfl hl (by decide) rfl (fun ls hl => ?_)
    refine lv_aload_n hx hb dX5_keep_99 rfl (lv_at hl 1 rfl) ?_
    refine gX5_came S hW kf_X5_68 dX5_keep_100 ?_
    refine lv_iload_n hx hb dX5_keep_103 rfl (lv_at hl 0 rfl) ?_
    refine lv_icmp_ne (tgt := 122) hx hb dX5_keep_104 (by decide) (fun c27 => ?_) (fun c27 => ?_)
    · replace hf := if_f c27 hf
      replace hs := hs.2 c27
      exact J_122 r25.2 x26 _ _ ls hW (lv_sub hl [1, 0] rfl) hs hf
    · replace hf := if_t c27 hf
      replace hs := hs.1 c27
      refine lv_aload_n hx hb dX5_keep_107 rfl (lv_at hl 1 rfl) ?_
      obtain ⟨q28, hs⟩ := hs
      obtain ⟨r29, er29, hf⟩ := bd_e hf
      replace hs := bd_s er29 hs
      refine ct_V (As := []) (rest := []) (st1 := [.int r29.1]) (q0 := 0) (ci := 5) S hA hW (c_X5_count l D g r25.2 er29 q28) (wG_V km_X5_71 ki_yX5_count ks_yX5_count kn_X5 kc_yX5_count) ⟨rfl, rfl⟩ hd_X5_count (by rw [hR]; exact ⟨Nat.le_of_ble_eq_true rfl, Nat.le_of_ble_eq_true rfl⟩) rfl rfl rfl rfl hl.1 rfl (Nat.le_of_ble_eq_true rfl) ⟨Nat.zero_le _, Nat.zero_le _⟩ dX5_keep_108 rfl (fun H locs hW => ?_)
      refine lv_bipush (v := 20) hx hb dX5_keep_111 (by decide) ?_
      refine lv_icmp_le (tgt := 122) hx hb dX5_keep_113 (by decide) (fun c30 => ?_) (fun c30 => ?_)
      · replace hf := if_t c30 hf
        replace hs := hs.1 c30
        exact J_122 r29.2 x26 _ _ ls hW (lv_sub hl [1, 0] rfl) hs hf
      · replace hf := if_f c30 hf
        replace hs := hs.2 c30
        refine lv_aload_n hx hb dX5_keep_116 rfl (lv_at hl 1 rfl) ?_
        obtain ⟨z31, ez31, hf⟩ := bd_e hf
        refine ct_V (As := []) (rest := []) (st1 := []) (q0 := 0) (ci := 5) S hA hW (c_X5_forget l D g r29.2 ez31) (wG_V km_X5_74 ki_yX5_forget ks_yX5_forget kn_X5 kc_yX5_forget) ⟨rfl, rfl⟩ hd_X5_forget (by rw [hR]; exact ⟨Nat.le_of_ble_eq_true rfl, Nat.le_of_ble_eq_true rfl⟩) rfl rfl rfl rfl hl.1 rfl (Nat.le_of_ble_eq_true rfl) ⟨Nat.zero_le _, Nat.zero_le _⟩ dX5_keep_117 rfl (fun H locs hW => ?_)
        refine lv_iconst (v := 0) hx hb dX5_keep_120 (by decide) ?_
        subst hf
        exact ct_z (Or.inl rfl) S hr hlocks hW dX5_keep_121
  · replace hf := if_t c21 hf
    replace hs := hs.1 c21
    refine lv_aload_n hx hb dX5_keep_7 rfl (lv_at hl 0 rfl) ?_
    refine gX5_preamble S hW kf_X5_65 dX5_keep_8 ?_
    refine lv_iconst (v := 2) hx hb dX5_keep_11 (by decide) ?_
    refine lv_icmp_le (tgt := 31) hx hb dX5_keep_12 (by decide) (fun c32 => ?_) (fun c32 => ?_)
    · replace hf := if_t c32 hf
      replace hs := hs.1 c32
      refine lv_iconst (v := 0) hx hb dX5_keep_31 (by decide) ?_
      refine lv_istore_n (lv' := [(2, .int 0), (0, .ref (g.1 0)), (1, .int x1)]) hx hb dX5_keep_32 rfl hl (by decide) rfl (fun ls hl => ?_)
      refine lv_aload_n hx hb dX5_keep_33 rfl (lv_at hl 1 rfl) ?_
      refine lv_iload_n hx hb dX5_keep_34 rfl (lv_at hl 2 rfl) ?_
      refine lv_sipush (v := 255) hx hb dX5_keep_35 (by decide) ?_
      refine lv_icmp_ne (tgt := 50) hx hb dX5_keep_38 (by decide) (fun c33 => ?_) (fun c33 => ?_)
      · replace hf := if_f c33 hf
        replace hs := hs.2 c33
        refine lv_iconst (v := 0) hx hb dX5_keep_50 (by decide) ?_
        exact J_51 z x1 0 0 _ _ ls hW (lv_sub hl [1, 2, 0] rfl) hf
      · replace hf := if_t c33 hf
        replace hs := hs.1 c33
        refine lv_aload_n hx hb dX5_keep_41 rfl (lv_at hl 1 rfl) ?_
        refine gX5_preamble S hW kf_X5_65 dX5_keep_42 ?_
        refine lv_iconst (v := 1) hx hb dX5_keep_45 (by decide) ?_
        refine lv_iadd hx hb dX5_keep_46 ?_
        refine lv_goto (tgt := 51) hx hb dX5_keep_47 (by decide) ?_
        exact J_51 z x1 0 ((gI z 9) + 1) _ _ ls hW (lv_sub hl [1, 2, 0] rfl) hf
    · replace hf := if_f c32 hf
      replace hs := hs.2 c32
      refine lv_iload_n hx hb dX5_keep_15 rfl (lv_at hl 1 rfl) ?_
      refine lv_iconst (v := 2) hx hb dX5_keep_16 (by decide) ?_
      refine lv_icmp_eq (tgt := 27) hx hb dX5_keep_17 (by decide) (fun c34 => ?_) (fun c34 => ?_)
      · replace hf := if_t c34 hf
        replace hs := hs.1 c34
        refine lv_iconst (v := 1) hx hb dX5_keep_27 (by decide) ?_
        refine lv_goto (tgt := 32) hx hb dX5_keep_28 (by decide) ?_
        refine lv_istore_n (lv' := [(2, .int 1), (0, .ref (g.1 0)), (1, .int x1)]) hx hb dX5_keep_32 rfl hl (by decide) rfl (fun ls hl => ?_)
        refine lv_aload_n hx hb dX5_keep_33 rfl (lv_at hl 1 rfl) ?_
        refine lv_iload_n hx hb dX5_keep_34 rfl (lv_at hl 2 rfl) ?_
        refine lv_sipush (v := 255) hx hb dX5_keep_35 (by decide) ?_
        refine lv_icmp_ne (tgt := 50) hx hb dX5_keep_38 (by decide) (fun c35 => ?_) (fun c35 => ?_)
        · replace hf := if_f c35 hf
          replace hs := hs.2 c35
          refine lv_iconst (v := 0) hx hb dX5_keep_50 (by decide) ?_
          exact J_51 z x1 1 0 _ _ ls hW (lv_sub hl [1, 2, 0] rfl) hf
        · replace hf := if_t c35 hf
          replace hs := hs.1 c35
          refine lv_aload_n hx hb dX5_keep_41 rfl (lv_at hl 1 rfl) ?_
          refine gX5_preamble S hW kf_X5_65 dX5_keep_42 ?_
          refine lv_iconst (v := 1) hx hb dX5_keep_45 (by decide) ?_
          refine lv_iadd hx hb dX5_keep_46 ?_
          refine lv_goto (tgt := 51) hx hb dX5_keep_47 (by decide) ?_
          exact J_51 z x1 1 ((gI z 9) + 1) _ _ ls hW (lv_sub hl [1, 2, 0] rfl) hf
      · replace hf := if_f c34 hf
        replace hs := hs.2 c34
        refine lv_iload_n hx hb dX5_keep_20 rfl (lv_at hl 1 rfl) ?_
        refine lv_sipush (v := 130) hx hb dX5_keep_21 (by decide) ?_
        refine lv_icmp_ne (tgt := 31) hx hb dX5_keep_24 (by decide) (fun c36 => ?_) (fun c36 => ?_)
        · replace hf := if_f c36 hf
          replace hs := hs.2 c36
          refine lv_iconst (v := 0) hx hb dX5_keep_31 (by decide) ?_
          refine lv_istore_n (lv' := [(2, .int 0), (0, .ref (g.1 0)), (1, .int x1)]) hx hb dX5_keep_32 rfl hl (by decide) rfl (fun ls hl => ?_)
          refine lv_aload_n hx hb dX5_keep_33 rfl (lv_at hl 1 rfl) ?_
          refine lv_iload_n hx hb dX5_keep_34 rfl (lv_at hl 2 rfl) ?_
          refine lv_sipush (v := 255) hx hb dX5_keep_35 (by decide) ?_
          refine lv_icmp_ne (tgt := 50) hx hb dX5_keep_38 (by decide) (fun c37 => ?_) (fun c37 => ?_)
          · replace hf := if_f c37 hf
            replace hs := hs.2 c37
            refine lv_iconst (v := 0) hx hb dX5_keep_50 (by decide) ?_
            exact J_51 z x1 0 0 _ _ ls hW (lv_sub hl [1, 2, 0] rfl) hf
          · replace hf := if_t c37 hf
            replace hs := hs.1 c37
            refine lv_aload_n hx hb dX5_keep_41 rfl (lv_at hl 1 rfl) ?_
            refine gX5_preamble S hW kf_X5_65 dX5_keep_42 ?_
            refine lv_iconst (v := 1) hx hb dX5_keep_45 (by decide) ?_
            refine lv_iadd hx hb dX5_keep_46 ?_
            refine lv_goto (tgt := 51) hx hb dX5_keep_47 (by decide) ?_
            exact J_51 z x1 0 ((gI z 9) + 1) _ _ ls hW (lv_sub hl [1, 2, 0] rfl) hf
        · replace hf := if_t c36 hf
          replace hs := hs.1 c36
          refine lv_iconst (v := 1) hx hb dX5_keep_27 (by decide) ?_
          refine lv_goto (tgt := 32) hx hb dX5_keep_28 (by decide) ?_
          refine lv_istore_n (lv' := [(2, .int 1), (0, .ref (g.1 0)), (1, .int x1)]) hx hb dX5_keep_32 rfl hl (by decide) rfl (fun ls hl => ?_)
          refine lv_aload_n hx hb dX5_keep_33 rfl (lv_at hl 1 rfl) ?_
          refine lv_iload_n hx hb dX5_keep_34 rfl (lv_at hl 2 rfl) ?_
          refine lv_sipush (v := 255) hx hb dX5_keep_35 (by decide) ?_
          refine lv_icmp_ne (tgt := 50) hx hb dX5_keep_38 (by decide) (fun c38 => ?_) (fun c38 => ?_)
          · replace hf := if_f c38 hf
            replace hs := hs.2 c38
            refine lv_iconst (v := 0) hx hb dX5_keep_50 (by decide) ?_
            exact J_51 z x1 1 0 _ _ ls hW (lv_sub hl [1, 2, 0] rfl) hf
          · replace hf := if_t c38 hf
            replace hs := hs.1 c38
            refine lv_aload_n hx hb dX5_keep_41 rfl (lv_at hl 1 rfl) ?_
            refine gX5_preamble S hW kf_X5_65 dX5_keep_42 ?_
            refine lv_iconst (v := 1) hx hb dX5_keep_45 (by decide) ?_
            refine lv_iadd hx hb dX5_keep_46 ?_
            refine lv_goto (tgt := 51) hx hb dX5_keep_47 (by decide) ?_
            exact J_51 z x1 1 ((gI z 9) + 1) _ _ ls hW (lv_sub hl [1, 2, 0] rfl) hf
def f_X5_isRight_4 : Nat → Sg → Int32 → Int32 → Int32 × Sg
  | 0, z, _, _ => (0, z)
  | n + 1, z, y1, y2 => (if (gI z 10) ≤ y2 then (if y1 = 0 then (1, z) else (0, z)) else bd (y1 ^^^ (gA z 5 (Int32.toNatClampNeg y2))) (fun x24 => bd (y2 + 1) (fun x25 => f_X5_isRight_4 n z x24 x25)))
def s_X5_isRight_4 : Nat → Sg → Int32 → Int32 → Prop
  | 0, _, _, _ => False
  | n + 1, z, y1, y2 => ((gI z 10) ≤ y2 → True) ∧ (¬ (gI z 10) ≤ y2 → (vp_in y2 40) ∧ bd (y1 ^^^ (gA z 5 (Int32.toNatClampNeg y2))) (fun x24 => bd (y2 + 1) (fun x25 => s_X5_isRight_4 n z x24 x25)))
def f_X5_isRight (z : Sg)  : Int32 × Sg := f_X5_isRight_4 64 z 0 0
def s_X5_isRight (z : Sg)  : Prop := s_X5_isRight_4 64 z 0 0
theorem hd_X5_isRight : yX5_isRight.cls = RX5 ∧ yX5_isRight.cls ≠ "java/lang/invoke/MethodHandle" ∧ yX5_isRight.cls ≠ "java/lang/invoke/VarHandle" ∧ (parseMethodDescriptor yX5_isRight.desc).map (fun d => d.parameters.length) = some 0 := by decide +kernel
set_option maxHeartbeats 4000000 in
set_option maxRecDepth 100000 in
theorem c_X5_isRight (l : Launch) (D : va_G) (g : Gv) (z : Sg)  {r : Int32 × Sg} (er : r = f_X5_isRight z ) (hs : s_X5_isRight z ) : CT D (wM g) (tM g) l yX5_isRight (wG yX5_isRight cX5_isRight 3 (some .boolean)) { frames := 0, cells := 0, slots := 0, locals := 0 } [.ref (g.1 0)] z (some (.int r.1)) r.2 := by
  refine CT.ofW (by decide) (Nat.le_of_ble_eq_true rfl) ?_
  intro p e R s m args below meth c A hR S hr hlocks hA hW ls hl
  have S : CallFix p m c cX5_isRight 3 s args wsL_law RX5 := S
  have hl : lv_has ls 3 [(0, .ref (g.1 0))] := hl
  have hx := S.1
  have hb := S.2.1
  have hf := er.symm
  clear er
  have J_4 : ∀ (n : Nat) (z : Sg) (y1 : Int32) (y2 : Int32) (H : Heap) (locs : List Loc) (ls : Array Slot), Wd D (wM g) (tM g) A s H locs z → lv_has ls 3 [(0, .ref (g.1 0)), (1, .int y1), (2, .int y2)] → s_X5_isRight_4 n z y1 y2 → f_X5_isRight_4 n z y1 y2 = r → W p l e R s m args below meth c H locs 0 0 (MQ below (CQ D (wM g) A (some (.int r.1)) r.2) args s 0 0 A) (F0 m 4 ls []) := by
    intro n
    induction n with
    | zero =>
      intro z y1 y2 H locs ls hW hl hs hf
      exact absurd hs (by rw [s_X5_isRight_4]; exact id)
    | succ n ih =>
      intro z y1 y2 H locs ls hW hl hs hf
      rw [f_X5_isRight_4] at hf
      rw [s_X5_isRight_4] at hs
      refine lv_iload_n hx hb dX5_isRight_4 rfl (lv_at hl 2 rfl) ?_
      refine lv_aload_n hx hb dX5_isRight_5 rfl (lv_at hl 0 rfl) ?_
      refine gX5_came S hW kf_X5_68 dX5_isRight_6 ?_
      refine lv_icmp_ge (tgt := 27) hx hb dX5_isRight_9 (by decide) (fun c21 => ?_) (fun c21 => ?_)
      · replace hf := if_t c21 hf
        replace hs := hs.1 c21
        refine lv_iload_n hx hb dX5_isRight_27 rfl (lv_at hl 1 rfl) ?_
        refine lv_if_ne (tgt := 35) hx hb dX5_isRight_28 (by decide) (fun c22 => ?_) (fun c22 => ?_)
        · replace hf := if_f c22 hf
          refine lv_iconst (v := 0) hx hb dX5_isRight_35 (by decide) ?_
          subst hf
          exact ct_z (Or.inl rfl) S hr hlocks hW dX5_isRight_36
        · replace hf := if_t c22 hf
          refine lv_iconst (v := 1) hx hb dX5_isRight_31 (by decide) ?_
          refine lv_goto (tgt := 36) hx hb dX5_isRight_32 (by decide) ?_
          subst hf
          exact ct_z (Or.inr rfl) S hr hlocks hW dX5_isRight_36
      · replace hf := if_f c21 hf
        replace hs := hs.2 c21
        refine lv_iload_n hx hb dX5_isRight_12 rfl (lv_at hl 1 rfl) ?_
        refine lv_aload_n hx hb dX5_isRight_13 rfl (lv_at hl 0 rfl) ?_
        refine gX5_frame S hW kf_X5_33 dX5_isRight_14 ?_
        refine lv_iload_n hx hb dX5_isRight_17 rfl (lv_at hl 2 rfl) ?_
        obtain ⟨q23, hs⟩ := hs
        refine aM5 S hW q23 dX5_isRight_18 ?_
        refine lv_ixor hx hb dX5_isRight_19 ?_
        obtain ⟨x24, ex24, hf⟩ := bd_e hf
        replace hs := bd_s ex24 hs
        refine lv_nmi ex24 ?_
        refine lv_istore_n (lv' := [(1, .int x24), (0, .ref (g.1 0)), (2, .int y2)]) hx hb dX5_isRight_20 rfl hl (by decide) rfl (fun ls hl => ?_)
        obtain ⟨x25, ex25, hf⟩ := bd_e hf
        replace hs := bd_s ex25 hs
        refine lv_iinc (v := x25) (lv' := [(2, .int x25), (1, .int x24), (0, .ref (g.1 0))]) hx hb dX5_isRight_21 hl (k := 2) rfl ex25.symm (by decide) rfl (fun ls hl => ?_)
        refine lv_goto (tgt := 4) hx hb dX5_isRight_24 (by decide) ?_
        exact ih z x24 x25 _ _ ls hW (lv_sub hl [2, 1, 0] rfl) hs hf
  unfold f_X5_isRight at hf
  unfold s_X5_isRight at hs
  refine lv_iconst (v := 0) hx hb dX5_isRight_0 (by decide) ?_
  refine lv_istore_n (lv' := [(1, .int 0), (0, .ref (g.1 0))]) hx hb dX5_isRight_1 rfl hl (by decide) rfl (fun ls hl => ?_)
  refine lv_iconst (v := 0) hx hb dX5_isRight_2 (by decide) ?_
  refine lv_istore_n (lv' := [(2, .int 0), (1, .int 0), (0, .ref (g.1 0))]) hx hb dX5_isRight_3 rfl hl (by decide) rfl (fun ls hl => ?_)
  exact (J_4 64) z 0 0 _ _ ls hW (lv_sub hl [2, 1, 0] rfl) hs hf
def f_X5_isBroadcast (z : Sg)  : Int32 × Sg := bd (f_X5_addressSize z) (fun r21 => (if r21.1 = 5 then (if ((gA r21.2 5 (Int32.toNatClampNeg 1)) - (gA r21.2 5 (Int32.toNatClampNeg 1)) / 64 * 64) = 0 then (if (gA r21.2 5 (Int32.toNatClampNeg 2)) = 0 then (if (gA r21.2 5 (Int32.toNatClampNeg 3)) = 0 then (if (gA r21.2 5 (Int32.toNatClampNeg 4)) = 0 then (if (gA r21.2 5 (Int32.toNatClampNeg 5)) = 0 then bd (f_X5_command r21.2) (fun r29 => (if r29.1 = 11 then (1, r29.2) else (0, r29.2))) else (0, r21.2)) else (0, r21.2)) else (0, r21.2)) else (0, r21.2)) else (0, r21.2)) else (0, r21.2)))
def s_X5_isBroadcast (z : Sg)  : Prop := bd (f_X5_addressSize z) (fun r21 => (r21.1 = 5 → (((gA r21.2 5 (Int32.toNatClampNeg 1)) - (gA r21.2 5 (Int32.toNatClampNeg 1)) / 64 * 64) = 0 → ((gA r21.2 5 (Int32.toNatClampNeg 2)) = 0 → ((gA r21.2 5 (Int32.toNatClampNeg 3)) = 0 → ((gA r21.2 5 (Int32.toNatClampNeg 4)) = 0 → ((gA r21.2 5 (Int32.toNatClampNeg 5)) = 0 → (s_X5_command r21.2) ∧ True) ∧ (¬ (gA r21.2 5 (Int32.toNatClampNeg 5)) = 0 → True)) ∧ (¬ (gA r21.2 5 (Int32.toNatClampNeg 4)) = 0 → True)) ∧ (¬ (gA r21.2 5 (Int32.toNatClampNeg 3)) = 0 → True)) ∧ (¬ (gA r21.2 5 (Int32.toNatClampNeg 2)) = 0 → True)) ∧ (¬ ((gA r21.2 5 (Int32.toNatClampNeg 1)) - (gA r21.2 5 (Int32.toNatClampNeg 1)) / 64 * 64) = 0 → True)) ∧ (¬ r21.1 = 5 → True))
theorem hd_X5_isBroadcast : yX5_isBroadcast.cls = RX5 ∧ yX5_isBroadcast.cls ≠ "java/lang/invoke/MethodHandle" ∧ yX5_isBroadcast.cls ≠ "java/lang/invoke/VarHandle" ∧ (parseMethodDescriptor yX5_isBroadcast.desc).map (fun d => d.parameters.length) = some 0 := by decide +kernel
set_option maxHeartbeats 4000000 in
set_option maxRecDepth 100000 in
theorem c_X5_isBroadcast (l : Launch) (D : va_G) (g : Gv) (z : Sg)  {r : Int32 × Sg} (er : r = f_X5_isBroadcast z ) (hs : s_X5_isBroadcast z ) : CT D (wM g) (tM g) l yX5_isBroadcast (wG yX5_isBroadcast cX5_isBroadcast 1 (some .boolean)) { frames := 2, cells := 0, slots := 0, locals := 40 } [.ref (g.1 0)] z (some (.int r.1)) r.2 := by
  refine CT.ofW (by decide) (Nat.le_of_ble_eq_true rfl) ?_
  intro p e R s m args below meth c A hR S hr hlocks hA hW ls hl
  have S : CallFix p m c cX5_isBroadcast 1 s args wsL_law RX5 := S
  have hl : lv_has ls 1 [(0, .ref (g.1 0))] := hl
  have hx := S.1
  have hb := S.2.1
  have hf := er.symm
  clear er
  unfold f_X5_isBroadcast at hf
  unfold s_X5_isBroadcast at hs
  refine lv_aload_n hx hb dX5_isBroadcast_0 rfl (lv_at hl 0 rfl) ?_
  obtain ⟨r21, er21, hf⟩ := bd_e hf
  replace hs := bd_s er21 hs
  refine ct_V (As := []) (rest := []) (st1 := [.int r21.1]) (q0 := 0) (ci := 5) S hA hW (c_X5_addressSize l D g z er21) (wG_V km_X5_57 ki_yX5_addressSize ks_yX5_addressSize kn_X5 kc_yX5_addressSize) ⟨rfl, rfl⟩ hd_X5_addressSize (by rw [hR]; exact ⟨Nat.le_of_ble_eq_true rfl, Nat.le_of_ble_eq_true rfl⟩) rfl rfl rfl rfl hl.1 rfl (Nat.le_of_ble_eq_true rfl) ⟨Nat.zero_le _, Nat.zero_le _⟩ dX5_isBroadcast_1 rfl (fun H locs hW => ?_)
  refine lv_iconst (v := 5) hx hb dX5_isBroadcast_4 (by decide) ?_
  refine lv_icmp_ne (tgt := 69) hx hb dX5_isBroadcast_5 (by decide) (fun c22 => ?_) (fun c22 => ?_)
  · replace hf := if_f c22 hf
    replace hs := hs.2 c22
    refine lv_iconst (v := 0) hx hb dX5_isBroadcast_69 (by decide) ?_
    subst hf
    exact ct_z (Or.inl rfl) S hr hlocks hW dX5_isBroadcast_70
  · replace hf := if_t c22 hf
    replace hs := hs.1 c22
    refine lv_aload_n hx hb dX5_isBroadcast_8 rfl (lv_at hl 0 rfl) ?_
    refine gX5_frame S hW kf_X5_33 dX5_isBroadcast_9 ?_
    refine lv_iconst (v := 1) hx hb dX5_isBroadcast_12 (by decide) ?_
    refine aM5 S hW (vi_of (M := 40) (by decide) (by decide) (by decide)) dX5_isBroadcast_13 ?_
    refine lv_bipush (v := 64) hx hb dX5_isBroadcast_14 (by decide) ?_
    refine lv_irem hx hb dX5_isBroadcast_16 (by decide) ?_
    refine lv_if_ne (tgt := 69) hx hb dX5_isBroadcast_17 (by decide) (fun c23 => ?_) (fun c23 => ?_)
    · replace hf := if_f c23 hf
      replace hs := hs.2 c23
      refine lv_iconst (v := 0) hx hb dX5_isBroadcast_69 (by decide) ?_
      subst hf
      exact ct_z (Or.inl rfl) S hr hlocks hW dX5_isBroadcast_70
    · replace hf := if_t c23 hf
      replace hs := hs.1 c23
      refine lv_aload_n hx hb dX5_isBroadcast_20 rfl (lv_at hl 0 rfl) ?_
      refine gX5_frame S hW kf_X5_33 dX5_isBroadcast_21 ?_
      refine lv_iconst (v := 2) hx hb dX5_isBroadcast_24 (by decide) ?_
      refine aM5 S hW (vi_of (M := 40) (by decide) (by decide) (by decide)) dX5_isBroadcast_25 ?_
      refine lv_if_ne (tgt := 69) hx hb dX5_isBroadcast_26 (by decide) (fun c24 => ?_) (fun c24 => ?_)
      · replace hf := if_f c24 hf
        replace hs := hs.2 c24
        refine lv_iconst (v := 0) hx hb dX5_isBroadcast_69 (by decide) ?_
        subst hf
        exact ct_z (Or.inl rfl) S hr hlocks hW dX5_isBroadcast_70
      · replace hf := if_t c24 hf
        replace hs := hs.1 c24
        refine lv_aload_n hx hb dX5_isBroadcast_29 rfl (lv_at hl 0 rfl) ?_
        refine gX5_frame S hW kf_X5_33 dX5_isBroadcast_30 ?_
        refine lv_iconst (v := 3) hx hb dX5_isBroadcast_33 (by decide) ?_
        refine aM5 S hW (vi_of (M := 40) (by decide) (by decide) (by decide)) dX5_isBroadcast_34 ?_
        refine lv_if_ne (tgt := 69) hx hb dX5_isBroadcast_35 (by decide) (fun c25 => ?_) (fun c25 => ?_)
        · replace hf := if_f c25 hf
          replace hs := hs.2 c25
          refine lv_iconst (v := 0) hx hb dX5_isBroadcast_69 (by decide) ?_
          subst hf
          exact ct_z (Or.inl rfl) S hr hlocks hW dX5_isBroadcast_70
        · replace hf := if_t c25 hf
          replace hs := hs.1 c25
          refine lv_aload_n hx hb dX5_isBroadcast_38 rfl (lv_at hl 0 rfl) ?_
          refine gX5_frame S hW kf_X5_33 dX5_isBroadcast_39 ?_
          refine lv_iconst (v := 4) hx hb dX5_isBroadcast_42 (by decide) ?_
          refine aM5 S hW (vi_of (M := 40) (by decide) (by decide) (by decide)) dX5_isBroadcast_43 ?_
          refine lv_if_ne (tgt := 69) hx hb dX5_isBroadcast_44 (by decide) (fun c26 => ?_) (fun c26 => ?_)
          · replace hf := if_f c26 hf
            replace hs := hs.2 c26
            refine lv_iconst (v := 0) hx hb dX5_isBroadcast_69 (by decide) ?_
            subst hf
            exact ct_z (Or.inl rfl) S hr hlocks hW dX5_isBroadcast_70
          · replace hf := if_t c26 hf
            replace hs := hs.1 c26
            refine lv_aload_n hx hb dX5_isBroadcast_47 rfl (lv_at hl 0 rfl) ?_
            refine gX5_frame S hW kf_X5_33 dX5_isBroadcast_48 ?_
            refine lv_iconst (v := 5) hx hb dX5_isBroadcast_51 (by decide) ?_
            refine aM5 S hW (vi_of (M := 40) (by decide) (by decide) (by decide)) dX5_isBroadcast_52 ?_
            refine lv_if_ne (tgt := 69) hx hb dX5_isBroadcast_53 (by decide) (fun c27 => ?_) (fun c27 => ?_)
            · replace hf := if_f c27 hf
              replace hs := hs.2 c27
              refine lv_iconst (v := 0) hx hb dX5_isBroadcast_69 (by decide) ?_
              subst hf
              exact ct_z (Or.inl rfl) S hr hlocks hW dX5_isBroadcast_70
            · replace hf := if_t c27 hf
              replace hs := hs.1 c27
              refine lv_aload_n hx hb dX5_isBroadcast_56 rfl (lv_at hl 0 rfl) ?_
              obtain ⟨q28, hs⟩ := hs
              obtain ⟨r29, er29, hf⟩ := bd_e hf
              refine ct_V (As := []) (rest := []) (st1 := [.int r29.1]) (q0 := 0) (ci := 5) S hA hW (c_X5_command l D g r21.2 er29 q28) (wG_V km_X5_77 ki_yX5_command ks_yX5_command kn_X5 kc_yX5_command) ⟨rfl, rfl⟩ hd_X5_command (by rw [hR]; exact ⟨Nat.le_of_ble_eq_true rfl, Nat.le_of_ble_eq_true rfl⟩) rfl rfl rfl rfl hl.1 rfl (Nat.le_of_ble_eq_true rfl) ⟨Nat.zero_le _, Nat.zero_le _⟩ dX5_isBroadcast_57 rfl (fun H locs hW => ?_)
              refine lv_bipush (v := 11) hx hb dX5_isBroadcast_60 (by decide) ?_
              refine lv_icmp_ne (tgt := 69) hx hb dX5_isBroadcast_62 (by decide) (fun c30 => ?_) (fun c30 => ?_)
              · replace hf := if_f c30 hf
                refine lv_iconst (v := 0) hx hb dX5_isBroadcast_69 (by decide) ?_
                subst hf
                exact ct_z (Or.inl rfl) S hr hlocks hW dX5_isBroadcast_70
              · replace hf := if_t c30 hf
                refine lv_iconst (v := 1) hx hb dX5_isBroadcast_65 (by decide) ?_
                refine lv_goto (tgt := 70) hx hb dX5_isBroadcast_66 (by decide) ?_
                subst hf
                exact ct_z (Or.inr rfl) S hr hlocks hW dX5_isBroadcast_70
def f_X5_isOwn (z : Sg)  : Int32 × Sg := bd (f_X5_addressSize z) (fun r21 => (if r21.1 = 1 then (if ((gA r21.2 5 (Int32.toNatClampNeg 1)) - (gA r21.2 5 (Int32.toNatClampNeg 1)) / 64 * 64) = (gI r21.2 1) then (1, r21.2) else (0, r21.2)) else (if ((gA r21.2 5 (Int32.toNatClampNeg 1)) - (gA r21.2 5 (Int32.toNatClampNeg 1)) / 64 * 64) = (gA r21.2 0 (Int32.toNatClampNeg 0)) then (if (gA r21.2 5 (Int32.toNatClampNeg (1 + 1))) = (gA r21.2 0 (Int32.toNatClampNeg 1)) then (if (gA r21.2 5 (Int32.toNatClampNeg (1 + 2))) = (gA r21.2 0 (Int32.toNatClampNeg 2)) then (if (gA r21.2 5 (Int32.toNatClampNeg (1 + 3))) = (gA r21.2 0 (Int32.toNatClampNeg 3)) then (if (gA r21.2 5 (Int32.toNatClampNeg (1 + 4))) = (gA r21.2 0 (Int32.toNatClampNeg 4)) then (1, r21.2) else bd (f_X5_isBroadcast r21.2) (fun r45 => (if r45.1 = 0 then (0, r45.2) else (1, r45.2)))) else bd (f_X5_isBroadcast r21.2) (fun r40 => (if r40.1 = 0 then (0, r40.2) else (1, r40.2)))) else bd (f_X5_isBroadcast r21.2) (fun r35 => (if r35.1 = 0 then (0, r35.2) else (1, r35.2)))) else bd (f_X5_isBroadcast r21.2) (fun r30 => (if r30.1 = 0 then (0, r30.2) else (1, r30.2)))) else bd (f_X5_isBroadcast r21.2) (fun r25 => (if r25.1 = 0 then (0, r25.2) else (1, r25.2))))))
def s_X5_isOwn (z : Sg)  : Prop := bd (f_X5_addressSize z) (fun r21 => (r21.1 = 1 → True) ∧ (¬ r21.1 = 1 → (((gA r21.2 5 (Int32.toNatClampNeg 1)) - (gA r21.2 5 (Int32.toNatClampNeg 1)) / 64 * 64) = (gA r21.2 0 (Int32.toNatClampNeg 0)) → (vp_in (1 + 1) 40) ∧ ((gA r21.2 5 (Int32.toNatClampNeg (1 + 1))) = (gA r21.2 0 (Int32.toNatClampNeg 1)) → (vp_in (1 + 2) 40) ∧ ((gA r21.2 5 (Int32.toNatClampNeg (1 + 2))) = (gA r21.2 0 (Int32.toNatClampNeg 2)) → (vp_in (1 + 3) 40) ∧ ((gA r21.2 5 (Int32.toNatClampNeg (1 + 3))) = (gA r21.2 0 (Int32.toNatClampNeg 3)) → (vp_in (1 + 4) 40) ∧ ((gA r21.2 5 (Int32.toNatClampNeg (1 + 4))) = (gA r21.2 0 (Int32.toNatClampNeg 4)) → True) ∧ (¬ (gA r21.2 5 (Int32.toNatClampNeg (1 + 4))) = (gA r21.2 0 (Int32.toNatClampNeg 4)) → (s_X5_isBroadcast r21.2) ∧ True)) ∧ (¬ (gA r21.2 5 (Int32.toNatClampNeg (1 + 3))) = (gA r21.2 0 (Int32.toNatClampNeg 3)) → (s_X5_isBroadcast r21.2) ∧ True)) ∧ (¬ (gA r21.2 5 (Int32.toNatClampNeg (1 + 2))) = (gA r21.2 0 (Int32.toNatClampNeg 2)) → (s_X5_isBroadcast r21.2) ∧ True)) ∧ (¬ (gA r21.2 5 (Int32.toNatClampNeg (1 + 1))) = (gA r21.2 0 (Int32.toNatClampNeg 1)) → (s_X5_isBroadcast r21.2) ∧ True)) ∧ (¬ ((gA r21.2 5 (Int32.toNatClampNeg 1)) - (gA r21.2 5 (Int32.toNatClampNeg 1)) / 64 * 64) = (gA r21.2 0 (Int32.toNatClampNeg 0)) → (s_X5_isBroadcast r21.2) ∧ True)))
theorem hd_X5_isOwn : yX5_isOwn.cls = RX5 ∧ yX5_isOwn.cls ≠ "java/lang/invoke/MethodHandle" ∧ yX5_isOwn.cls ≠ "java/lang/invoke/VarHandle" ∧ (parseMethodDescriptor yX5_isOwn.desc).map (fun d => d.parameters.length) = some 0 := by decide +kernel
set_option maxHeartbeats 4000000 in
set_option maxRecDepth 100000 in
theorem c_X5_isOwn (l : Launch) (D : va_G) (g : Gv) (z : Sg)  {r : Int32 × Sg} (er : r = f_X5_isOwn z ) (hs : s_X5_isOwn z ) : CT D (wM g) (tM g) l yX5_isOwn (wG yX5_isOwn cX5_isOwn 3 (some .boolean)) { frames := 3, cells := 0, slots := 0, locals := 60 } [.ref (g.1 0)] z (some (.int r.1)) r.2 := by
  refine CT.ofW (by decide) (Nat.le_of_ble_eq_true rfl) ?_
  intro p e R s m args below meth c A hR S hr hlocks hA hW ls hl
  have S : CallFix p m c cX5_isOwn 3 s args wsL_law RX5 := S
  have hl : lv_has ls 3 [(0, .ref (g.1 0))] := hl
  have hx := S.1
  have hb := S.2.1
  have hf := er.symm
  clear er
  unfold f_X5_isOwn at hf
  unfold s_X5_isOwn at hs
  refine lv_aload_n hx hb dX5_isOwn_0 rfl (lv_at hl 0 rfl) ?_
  obtain ⟨r21, er21, hf⟩ := bd_e hf
  replace hs := bd_s er21 hs
  refine ct_V (As := []) (rest := []) (st1 := [.int r21.1]) (q0 := 0) (ci := 5) S hA hW (c_X5_addressSize l D g z er21) (wG_V km_X5_57 ki_yX5_addressSize ks_yX5_addressSize kn_X5 kc_yX5_addressSize) ⟨rfl, rfl⟩ hd_X5_addressSize (by rw [hR]; exact ⟨Nat.le_of_ble_eq_true rfl, Nat.le_of_ble_eq_true rfl⟩) rfl rfl rfl rfl hl.1 rfl (Nat.le_of_ble_eq_true rfl) ⟨Nat.zero_le _, Nat.zero_le _⟩ dX5_isOwn_1 rfl (fun H locs hW => ?_)
  refine lv_iconst (v := 1) hx hb dX5_isOwn_4 (by decide) ?_
  refine lv_icmp_ne (tgt := 30) hx hb dX5_isOwn_5 (by decide) (fun c22 => ?_) (fun c22 => ?_)
  · replace hf := if_f c22 hf
    replace hs := hs.2 c22
    refine lv_aload_n hx hb dX5_isOwn_30 rfl (lv_at hl 0 rfl) ?_
    refine gX5_frame S hW kf_X5_33 dX5_isOwn_31 ?_
    refine lv_iconst (v := 1) hx hb dX5_isOwn_34 (by decide) ?_
    refine aM5 S hW (vi_of (M := 40) (by decide) (by decide) (by decide)) dX5_isOwn_35 ?_
    refine lv_bipush (v := 64) hx hb dX5_isOwn_36 (by decide) ?_
    refine lv_irem hx hb dX5_isOwn_38 (by decide) ?_
    refine lv_aload_n hx hb dX5_isOwn_39 rfl (lv_at hl 0 rfl) ?_
    refine gX5_own S hW kf_X5_7 dX5_isOwn_40 ?_
    refine lv_iconst (v := 0) hx hb dX5_isOwn_43 (by decide) ?_
    refine aM0 S hW (vi_of (M := 5) (by decide) (by decide) (by decide)) dX5_isOwn_44 ?_
    refine lv_icmp_ne (tgt := 52) hx hb dX5_isOwn_45 (by decide) (fun c23 => ?_) (fun c23 => ?_)
    · replace hf := if_f c23 hf
      replace hs := hs.2 c23
      refine lv_iconst (v := 0) hx hb dX5_isOwn_52 (by decide) ?_
      refine lv_istore_n (lv' := [(1, .int 0), (0, .ref (g.1 0))]) hx hb dX5_isOwn_53 rfl hl (by decide) rfl (fun ls hl => ?_)
      refine lv_iconst (v := 1) hx hb dX5_isOwn_54 (by decide) ?_
      refine lv_istore_n (lv' := [(2, .int 1), (1, .int 0), (0, .ref (g.1 0))]) hx hb dX5_isOwn_55 rfl hl (by decide) rfl (fun ls hl => ?_)
      refine lv_iload_n hx hb dX5_isOwn_56 rfl (lv_at hl 0 rfl) ?_
      refine lv_iconst (v := 5) hx hb dX5_isOwn_57 (by decide) ?_
      refine lv_icmp_ge (tgt := 94) hx hb dX5_isOwn_58 (by decide) (fun c => absurd c (by decide)) (fun _ => ?_)
      refine lv_iload_n hx hb dX5_isOwn_61 rfl (lv_at hl 1 rfl) ?_
      refine lv_if_eq (tgt := 86) hx hb dX5_isOwn_62 (by decide) (fun _ => ?_) (fun c => absurd (by decide) c)
      refine lv_iconst (v := 0) hx hb dX5_isOwn_86 (by decide) ?_
      refine lv_istore_n (lv' := [(1, .int 0), (2, .int 1), (0, .ref (g.1 0))]) hx hb dX5_isOwn_87 rfl hl (by decide) rfl (fun ls hl => ?_)
      refine lv_iinc (v := 2) (lv' := [(2, .int 2), (1, .int 0), (0, .ref (g.1 0))]) hx hb dX5_isOwn_88 hl (k := 1) rfl (by decide) (by decide) rfl (fun ls hl => ?_)
      refine lv_goto (tgt := 56) hx hb dX5_isOwn_91 (by decide) ?_
      refine lv_iload_n hx hb dX5_isOwn_56 rfl (lv_at hl 0 rfl) ?_
      refine lv_iconst (v := 5) hx hb dX5_isOwn_57 (by decide) ?_
      refine lv_icmp_ge (tgt := 94) hx hb dX5_isOwn_58 (by decide) (fun c => absurd c (by decide)) (fun _ => ?_)
      refine lv_iload_n hx hb dX5_isOwn_61 rfl (lv_at hl 1 rfl) ?_
      refine lv_if_eq (tgt := 86) hx hb dX5_isOwn_62 (by decide) (fun _ => ?_) (fun c => absurd (by decide) c)
      refine lv_iconst (v := 0) hx hb dX5_isOwn_86 (by decide) ?_
      refine lv_istore_n (lv' := [(1, .int 0), (2, .int 2), (0, .ref (g.1 0))]) hx hb dX5_isOwn_87 rfl hl (by decide) rfl (fun ls hl => ?_)
      refine lv_iinc (v := 3) (lv' := [(2, .int 3), (1, .int 0), (0, .ref (g.1 0))]) hx hb dX5_isOwn_88 hl (k := 1) rfl (by decide) (by decide) rfl (fun ls hl => ?_)
      refine lv_goto (tgt := 56) hx hb dX5_isOwn_91 (by decide) ?_
      refine lv_iload_n hx hb dX5_isOwn_56 rfl (lv_at hl 0 rfl) ?_
      refine lv_iconst (v := 5) hx hb dX5_isOwn_57 (by decide) ?_
      refine lv_icmp_ge (tgt := 94) hx hb dX5_isOwn_58 (by decide) (fun c => absurd c (by decide)) (fun _ => ?_)
      refine lv_iload_n hx hb dX5_isOwn_61 rfl (lv_at hl 1 rfl) ?_
      refine lv_if_eq (tgt := 86) hx hb dX5_isOwn_62 (by decide) (fun _ => ?_) (fun c => absurd (by decide) c)
      refine lv_iconst (v := 0) hx hb dX5_isOwn_86 (by decide) ?_
      refine lv_istore_n (lv' := [(1, .int 0), (2, .int 3), (0, .ref (g.1 0))]) hx hb dX5_isOwn_87 rfl hl (by decide) rfl (fun ls hl => ?_)
      refine lv_iinc (v := 4) (lv' := [(2, .int 4), (1, .int 0), (0, .ref (g.1 0))]) hx hb dX5_isOwn_88 hl (k := 1) rfl (by decide) (by decide) rfl (fun ls hl => ?_)
      refine lv_goto (tgt := 56) hx hb dX5_isOwn_91 (by decide) ?_
      refine lv_iload_n hx hb dX5_isOwn_56 rfl (lv_at hl 0 rfl) ?_
      refine lv_iconst (v := 5) hx hb dX5_isOwn_57 (by decide) ?_
      refine lv_icmp_ge (tgt := 94) hx hb dX5_isOwn_58 (by decide) (fun c => absurd c (by decide)) (fun _ => ?_)
      refine lv_iload_n hx hb dX5_isOwn_61 rfl (lv_at hl 1 rfl) ?_
      refine lv_if_eq (tgt := 86) hx hb dX5_isOwn_62 (by decide) (fun _ => ?_) (fun c => absurd (by decide) c)
      refine lv_iconst (v := 0) hx hb dX5_isOwn_86 (by decide) ?_
      refine lv_istore_n (lv' := [(1, .int 0), (2, .int 4), (0, .ref (g.1 0))]) hx hb dX5_isOwn_87 rfl hl (by decide) rfl (fun ls hl => ?_)
      refine lv_iinc (v := 5) (lv' := [(2, .int 5), (1, .int 0), (0, .ref (g.1 0))]) hx hb dX5_isOwn_88 hl (k := 1) rfl (by decide) (by decide) rfl (fun ls hl => ?_)
      refine lv_goto (tgt := 56) hx hb dX5_isOwn_91 (by decide) ?_
      refine lv_iload_n hx hb dX5_isOwn_56 rfl (lv_at hl 0 rfl) ?_
      refine lv_iconst (v := 5) hx hb dX5_isOwn_57 (by decide) ?_
      refine lv_icmp_ge (tgt := 94) hx hb dX5_isOwn_58 (by decide) (fun _ => ?_) (fun c => absurd (by decide) c)
      refine lv_iload_n hx hb dX5_isOwn_94 rfl (lv_at hl 1 rfl) ?_
      refine lv_if_ne (tgt := 105) hx hb dX5_isOwn_95 (by decide) (fun c => absurd (by decide) c) (fun _ => ?_)
      refine lv_aload_n hx hb dX5_isOwn_98 rfl (lv_at hl 2 rfl) ?_
      obtain ⟨q24, hs⟩ := hs
      obtain ⟨r25, er25, hf⟩ := bd_e hf
      refine ct_V (As := []) (rest := []) (st1 := [.int r25.1]) (q0 := 0) (ci := 5) S hA hW (c_X5_isBroadcast l D g r21.2 er25 q24) (wG_V km_X5_83 ki_yX5_isBroadcast ks_yX5_isBroadcast kn_X5 kc_yX5_isBroadcast) ⟨rfl, rfl⟩ hd_X5_isBroadcast (by rw [hR]; exact ⟨Nat.le_of_ble_eq_true rfl, Nat.le_of_ble_eq_true rfl⟩) rfl rfl rfl rfl hl.1 rfl (Nat.le_of_ble_eq_true rfl) ⟨Nat.zero_le _, Nat.zero_le _⟩ dX5_isOwn_99 rfl (fun H locs hW => ?_)
      refine lv_if_eq (tgt := 109) hx hb dX5_isOwn_102 (by decide) (fun c26 => ?_) (fun c26 => ?_)
      · replace hf := if_t c26 hf
        refine lv_iconst (v := 0) hx hb dX5_isOwn_109 (by decide) ?_
        subst hf
        exact ct_z (Or.inl rfl) S hr hlocks hW dX5_isOwn_110
      · replace hf := if_f c26 hf
        refine lv_iconst (v := 1) hx hb dX5_isOwn_105 (by decide) ?_
        refine lv_goto (tgt := 110) hx hb dX5_isOwn_106 (by decide) ?_
        subst hf
        exact ct_z (Or.inr rfl) S hr hlocks hW dX5_isOwn_110
    · replace hf := if_t c23 hf
      replace hs := hs.1 c23
      refine lv_iconst (v := 1) hx hb dX5_isOwn_48 (by decide) ?_
      refine lv_goto (tgt := 53) hx hb dX5_isOwn_49 (by decide) ?_
      refine lv_istore_n (lv' := [(1, .int 1), (0, .ref (g.1 0))]) hx hb dX5_isOwn_53 rfl hl (by decide) rfl (fun ls hl => ?_)
      refine lv_iconst (v := 1) hx hb dX5_isOwn_54 (by decide) ?_
      refine lv_istore_n (lv' := [(2, .int 1), (1, .int 1), (0, .ref (g.1 0))]) hx hb dX5_isOwn_55 rfl hl (by decide) rfl (fun ls hl => ?_)
      refine lv_iload_n hx hb dX5_isOwn_56 rfl (lv_at hl 0 rfl) ?_
      refine lv_iconst (v := 5) hx hb dX5_isOwn_57 (by decide) ?_
      refine lv_icmp_ge (tgt := 94) hx hb dX5_isOwn_58 (by decide) (fun c => absurd c (by decide)) (fun _ => ?_)
      refine lv_iload_n hx hb dX5_isOwn_61 rfl (lv_at hl 1 rfl) ?_
      refine lv_if_eq (tgt := 86) hx hb dX5_isOwn_62 (by decide) (fun c => absurd c (by decide)) (fun _ => ?_)
      refine lv_aload_n hx hb dX5_isOwn_65 rfl (lv_at hl 2 rfl) ?_
      refine gX5_frame S hW kf_X5_33 dX5_isOwn_66 ?_
      refine lv_iconst (v := 1) hx hb dX5_isOwn_69 (by decide) ?_
      refine lv_iload_n hx hb dX5_isOwn_70 rfl (lv_at hl 0 rfl) ?_
      refine lv_iadd hx hb dX5_isOwn_71 ?_
      obtain ⟨q27, hs⟩ := hs
      refine aM5 S hW q27 dX5_isOwn_72 ?_
      refine lv_aload_n hx hb dX5_isOwn_73 rfl (lv_at hl 2 rfl) ?_
      refine gX5_own S hW kf_X5_7 dX5_isOwn_74 ?_
      refine lv_iload_n hx hb dX5_isOwn_77 rfl (lv_at hl 0 rfl) ?_
      refine aM0 S hW (vi_of (M := 5) (by decide) (by decide) (by decide)) dX5_isOwn_78 ?_
      refine lv_icmp_ne (tgt := 86) hx hb dX5_isOwn_79 (by decide) (fun c28 => ?_) (fun c28 => ?_)
      · replace hf := if_f c28 hf
        replace hs := hs.2 c28
        refine lv_iconst (v := 0) hx hb dX5_isOwn_86 (by decide) ?_
        refine lv_istore_n (lv' := [(1, .int 0), (2, .int 1), (0, .ref (g.1 0))]) hx hb dX5_isOwn_87 rfl hl (by decide) rfl (fun ls hl => ?_)
        refine lv_iinc (v := 2) (lv' := [(2, .int 2), (1, .int 0), (0, .ref (g.1 0))]) hx hb dX5_isOwn_88 hl (k := 1) rfl (by decide) (by decide) rfl (fun ls hl => ?_)
        refine lv_goto (tgt := 56) hx hb dX5_isOwn_91 (by decide) ?_
        refine lv_iload_n hx hb dX5_isOwn_56 rfl (lv_at hl 0 rfl) ?_
        refine lv_iconst (v := 5) hx hb dX5_isOwn_57 (by decide) ?_
        refine lv_icmp_ge (tgt := 94) hx hb dX5_isOwn_58 (by decide) (fun c => absurd c (by decide)) (fun _ => ?_)
        refine lv_iload_n hx hb dX5_isOwn_61 rfl (lv_at hl 1 rfl) ?_
        refine lv_if_eq (tgt := 86) hx hb dX5_isOwn_62 (by decide) (fun _ => ?_) (fun c => absurd (by decide) c)
        refine lv_iconst (v := 0) hx hb dX5_isOwn_86 (by decide) ?_
        refine lv_istore_n (lv' := [(1, .int 0), (2, .int 2), (0, .ref (g.1 0))]) hx hb dX5_isOwn_87 rfl hl (by decide) rfl (fun ls hl => ?_)
        refine lv_iinc (v := 3) (lv' := [(2, .int 3), (1, .int 0), (0, .ref (g.1 0))]) hx hb dX5_isOwn_88 hl (k := 1) rfl (by decide) (by decide) rfl (fun ls hl => ?_)
        refine lv_goto (tgt := 56) hx hb dX5_isOwn_91 (by decide) ?_
        refine lv_iload_n hx hb dX5_isOwn_56 rfl (lv_at hl 0 rfl) ?_
        refine lv_iconst (v := 5) hx hb dX5_isOwn_57 (by decide) ?_
        refine lv_icmp_ge (tgt := 94) hx hb dX5_isOwn_58 (by decide) (fun c => absurd c (by decide)) (fun _ => ?_)
        refine lv_iload_n hx hb dX5_isOwn_61 rfl (lv_at hl 1 rfl) ?_
        refine lv_if_eq (tgt := 86) hx hb dX5_isOwn_62 (by decide) (fun _ => ?_) (fun c => absurd (by decide) c)
        refine lv_iconst (v := 0) hx hb dX5_isOwn_86 (by decide) ?_
        refine lv_istore_n (lv' := [(1, .int 0), (2, .int 3), (0, .ref (g.1 0))]) hx hb dX5_isOwn_87 rfl hl (by decide) rfl (fun ls hl => ?_)
        refine lv_iinc (v := 4) (lv' := [(2, .int 4), (1, .int 0), (0, .ref (g.1 0))]) hx hb dX5_isOwn_88 hl (k := 1) rfl (by decide) (by decide) rfl (fun ls hl => ?_)
        refine lv_goto (tgt := 56) hx hb dX5_isOwn_91 (by decide) ?_
        refine lv_iload_n hx hb dX5_isOwn_56 rfl (lv_at hl 0 rfl) ?_
        refine lv_iconst (v := 5) hx hb dX5_isOwn_57 (by decide) ?_
        refine lv_icmp_ge (tgt := 94) hx hb dX5_isOwn_58 (by decide) (fun c => absurd c (by decide)) (fun _ => ?_)
        refine lv_iload_n hx hb dX5_isOwn_61 rfl (lv_at hl 1 rfl) ?_
        refine lv_if_eq (tgt := 86) hx hb dX5_isOwn_62 (by decide) (fun _ => ?_) (fun c => absurd (by decide) c)
        refine lv_iconst (v := 0) hx hb dX5_isOwn_86 (by decide) ?_
        refine lv_istore_n (lv' := [(1, .int 0), (2, .int 4), (0, .ref (g.1 0))]) hx hb dX5_isOwn_87 rfl hl (by decide) rfl (fun ls hl => ?_)
        refine lv_iinc (v := 5) (lv' := [(2, .int 5), (1, .int 0), (0, .ref (g.1 0))]) hx hb dX5_isOwn_88 hl (k := 1) rfl (by decide) (by decide) rfl (fun ls hl => ?_)
        refine lv_goto (tgt := 56) hx hb dX5_isOwn_91 (by decide) ?_
        refine lv_iload_n hx hb dX5_isOwn_56 rfl (lv_at hl 0 rfl) ?_
        refine lv_iconst (v := 5) hx hb dX5_isOwn_57 (by decide) ?_
        refine lv_icmp_ge (tgt := 94) hx hb dX5_isOwn_58 (by decide) (fun _ => ?_) (fun c => absurd (by decide) c)
        refine lv_iload_n hx hb dX5_isOwn_94 rfl (lv_at hl 1 rfl) ?_
        refine lv_if_ne (tgt := 105) hx hb dX5_isOwn_95 (by decide) (fun c => absurd (by decide) c) (fun _ => ?_)
        refine lv_aload_n hx hb dX5_isOwn_98 rfl (lv_at hl 2 rfl) ?_
        obtain ⟨q29, hs⟩ := hs
        obtain ⟨r30, er30, hf⟩ := bd_e hf
        refine ct_V (As := []) (rest := []) (st1 := [.int r30.1]) (q0 := 0) (ci := 5) S hA hW (c_X5_isBroadcast l D g r21.2 er30 q29) (wG_V km_X5_83 ki_yX5_isBroadcast ks_yX5_isBroadcast kn_X5 kc_yX5_isBroadcast) ⟨rfl, rfl⟩ hd_X5_isBroadcast (by rw [hR]; exact ⟨Nat.le_of_ble_eq_true rfl, Nat.le_of_ble_eq_true rfl⟩) rfl rfl rfl rfl hl.1 rfl (Nat.le_of_ble_eq_true rfl) ⟨Nat.zero_le _, Nat.zero_le _⟩ dX5_isOwn_99 rfl (fun H locs hW => ?_)
        refine lv_if_eq (tgt := 109) hx hb dX5_isOwn_102 (by decide) (fun c31 => ?_) (fun c31 => ?_)
        · replace hf := if_t c31 hf
          refine lv_iconst (v := 0) hx hb dX5_isOwn_109 (by decide) ?_
          subst hf
          exact ct_z (Or.inl rfl) S hr hlocks hW dX5_isOwn_110
        · replace hf := if_f c31 hf
          refine lv_iconst (v := 1) hx hb dX5_isOwn_105 (by decide) ?_
          refine lv_goto (tgt := 110) hx hb dX5_isOwn_106 (by decide) ?_
          subst hf
          exact ct_z (Or.inr rfl) S hr hlocks hW dX5_isOwn_110
      · replace hf := if_t c28 hf
        replace hs := hs.1 c28
        refine lv_iconst (v := 1) hx hb dX5_isOwn_82 (by decide) ?_
        refine lv_goto (tgt := 87) hx hb dX5_isOwn_83 (by decide) ?_
        refine lv_istore_n (lv' := [(1, .int 1), (2, .int 1), (0, .ref (g.1 0))]) hx hb dX5_isOwn_87 rfl hl (by decide) rfl (fun ls hl => ?_)
        refine lv_iinc (v := 2) (lv' := [(2, .int 2), (1, .int 1), (0, .ref (g.1 0))]) hx hb dX5_isOwn_88 hl (k := 1) rfl (by decide) (by decide) rfl (fun ls hl => ?_)
        refine lv_goto (tgt := 56) hx hb dX5_isOwn_91 (by decide) ?_
        refine lv_iload_n hx hb dX5_isOwn_56 rfl (lv_at hl 0 rfl) ?_
        refine lv_iconst (v := 5) hx hb dX5_isOwn_57 (by decide) ?_
        refine lv_icmp_ge (tgt := 94) hx hb dX5_isOwn_58 (by decide) (fun c => absurd c (by decide)) (fun _ => ?_)
        refine lv_iload_n hx hb dX5_isOwn_61 rfl (lv_at hl 1 rfl) ?_
        refine lv_if_eq (tgt := 86) hx hb dX5_isOwn_62 (by decide) (fun c => absurd c (by decide)) (fun _ => ?_)
        refine lv_aload_n hx hb dX5_isOwn_65 rfl (lv_at hl 2 rfl) ?_
        refine gX5_frame S hW kf_X5_33 dX5_isOwn_66 ?_
        refine lv_iconst (v := 1) hx hb dX5_isOwn_69 (by decide) ?_
        refine lv_iload_n hx hb dX5_isOwn_70 rfl (lv_at hl 0 rfl) ?_
        refine lv_iadd hx hb dX5_isOwn_71 ?_
        obtain ⟨q32, hs⟩ := hs
        refine aM5 S hW q32 dX5_isOwn_72 ?_
        refine lv_aload_n hx hb dX5_isOwn_73 rfl (lv_at hl 2 rfl) ?_
        refine gX5_own S hW kf_X5_7 dX5_isOwn_74 ?_
        refine lv_iload_n hx hb dX5_isOwn_77 rfl (lv_at hl 0 rfl) ?_
        refine aM0 S hW (vi_of (M := 5) (by decide) (by decide) (by decide)) dX5_isOwn_78 ?_
        refine lv_icmp_ne (tgt := 86) hx hb dX5_isOwn_79 (by decide) (fun c33 => ?_) (fun c33 => ?_)
        · replace hf := if_f c33 hf
          replace hs := hs.2 c33
          refine lv_iconst (v := 0) hx hb dX5_isOwn_86 (by decide) ?_
          refine lv_istore_n (lv' := [(1, .int 0), (2, .int 2), (0, .ref (g.1 0))]) hx hb dX5_isOwn_87 rfl hl (by decide) rfl (fun ls hl => ?_)
          refine lv_iinc (v := 3) (lv' := [(2, .int 3), (1, .int 0), (0, .ref (g.1 0))]) hx hb dX5_isOwn_88 hl (k := 1) rfl (by decide) (by decide) rfl (fun ls hl => ?_)
          refine lv_goto (tgt := 56) hx hb dX5_isOwn_91 (by decide) ?_
          refine lv_iload_n hx hb dX5_isOwn_56 rfl (lv_at hl 0 rfl) ?_
          refine lv_iconst (v := 5) hx hb dX5_isOwn_57 (by decide) ?_
          refine lv_icmp_ge (tgt := 94) hx hb dX5_isOwn_58 (by decide) (fun c => absurd c (by decide)) (fun _ => ?_)
          refine lv_iload_n hx hb dX5_isOwn_61 rfl (lv_at hl 1 rfl) ?_
          refine lv_if_eq (tgt := 86) hx hb dX5_isOwn_62 (by decide) (fun _ => ?_) (fun c => absurd (by decide) c)
          refine lv_iconst (v := 0) hx hb dX5_isOwn_86 (by decide) ?_
          refine lv_istore_n (lv' := [(1, .int 0), (2, .int 3), (0, .ref (g.1 0))]) hx hb dX5_isOwn_87 rfl hl (by decide) rfl (fun ls hl => ?_)
          refine lv_iinc (v := 4) (lv' := [(2, .int 4), (1, .int 0), (0, .ref (g.1 0))]) hx hb dX5_isOwn_88 hl (k := 1) rfl (by decide) (by decide) rfl (fun ls hl => ?_)
          refine lv_goto (tgt := 56) hx hb dX5_isOwn_91 (by decide) ?_
          refine lv_iload_n hx hb dX5_isOwn_56 rfl (lv_at hl 0 rfl) ?_
          refine lv_iconst (v := 5) hx hb dX5_isOwn_57 (by decide) ?_
          refine lv_icmp_ge (tgt := 94) hx hb dX5_isOwn_58 (by decide) (fun c => absurd c (by decide)) (fun _ => ?_)
          refine lv_iload_n hx hb dX5_isOwn_61 rfl (lv_at hl 1 rfl) ?_
          refine lv_if_eq (tgt := 86) hx hb dX5_isOwn_62 (by decide) (fun _ => ?_) (fun c => absurd (by decide) c)
          refine lv_iconst (v := 0) hx hb dX5_isOwn_86 (by decide) ?_
          refine lv_istore_n (lv' := [(1, .int 0), (2, .int 4), (0, .ref (g.1 0))]) hx hb dX5_isOwn_87 rfl hl (by decide) rfl (fun ls hl => ?_)
          refine lv_iinc (v := 5) (lv' := [(2, .int 5), (1, .int 0), (0, .ref (g.1 0))]) hx hb dX5_isOwn_88 hl (k := 1) rfl (by decide) (by decide) rfl (fun ls hl => ?_)
          refine lv_goto (tgt := 56) hx hb dX5_isOwn_91 (by decide) ?_
          refine lv_iload_n hx hb dX5_isOwn_56 rfl (lv_at hl 0 rfl) ?_
          refine lv_iconst (v := 5) hx hb dX5_isOwn_57 (by decide) ?_
          refine lv_icmp_ge (tgt := 94) hx hb dX5_isOwn_58 (by decide) (fun _ => ?_) (fun c => absurd (by decide) c)
          refine lv_iload_n hx hb dX5_isOwn_94 rfl (lv_at hl 1 rfl) ?_
          refine lv_if_ne (tgt := 105) hx hb dX5_isOwn_95 (by decide) (fun c => absurd (by decide) c) (fun _ => ?_)
          refine lv_aload_n hx hb dX5_isOwn_98 rfl (lv_at hl 2 rfl) ?_
          obtain ⟨q34, hs⟩ := hs
          obtain ⟨r35, er35, hf⟩ := bd_e hf
          refine ct_V (As := []) (rest := []) (st1 := [.int r35.1]) (q0 := 0) (ci := 5) S hA hW (c_X5_isBroadcast l D g r21.2 er35 q34) (wG_V km_X5_83 ki_yX5_isBroadcast ks_yX5_isBroadcast kn_X5 kc_yX5_isBroadcast) ⟨rfl, rfl⟩ hd_X5_isBroadcast (by rw [hR]; exact ⟨Nat.le_of_ble_eq_true rfl, Nat.le_of_ble_eq_true rfl⟩) rfl rfl rfl rfl hl.1 rfl (Nat.le_of_ble_eq_true rfl) ⟨Nat.zero_le _, Nat.zero_le _⟩ dX5_isOwn_99 rfl (fun H locs hW => ?_)
          refine lv_if_eq (tgt := 109) hx hb dX5_isOwn_102 (by decide) (fun c36 => ?_) (fun c36 => ?_)
          · replace hf := if_t c36 hf
            refine lv_iconst (v := 0) hx hb dX5_isOwn_109 (by decide) ?_
            subst hf
            exact ct_z (Or.inl rfl) S hr hlocks hW dX5_isOwn_110
          · replace hf := if_f c36 hf
            refine lv_iconst (v := 1) hx hb dX5_isOwn_105 (by decide) ?_
            refine lv_goto (tgt := 110) hx hb dX5_isOwn_106 (by decide) ?_
            subst hf
            exact ct_z (Or.inr rfl) S hr hlocks hW dX5_isOwn_110
        · replace hf := if_t c33 hf
          replace hs := hs.1 c33
          refine lv_iconst (v := 1) hx hb dX5_isOwn_82 (by decide) ?_
          refine lv_goto (tgt := 87) hx hb dX5_isOwn_83 (by decide) ?_
          refine lv_istore_n (lv' := [(1, .int 1), (2, .int 2), (0, .ref (g.1 0))]) hx hb dX5_isOwn_87 rfl hl (by decide) rfl (fun ls hl => ?_)
          refine lv_iinc (v := 3) (lv' := [(2, .int 3), (1, .int 1), (0, .ref (g.1 0))]) hx hb dX5_isOwn_88 hl (k := 1) rfl (by decide) (by decide) rfl (fun ls hl => ?_)
          refine lv_goto (tgt := 56) hx hb dX5_isOwn_91 (by decide) ?_
          refine lv_iload_n hx hb dX5_isOwn_56 rfl (lv_at hl 0 rfl) ?_
          refine lv_iconst (v := 5) hx hb dX5_isOwn_57 (by decide) ?_
          refine lv_icmp_ge (tgt := 94) hx hb dX5_isOwn_58 (by decide) (fun c => absurd c (by decide)) (fun _ => ?_)
          refine lv_iload_n hx hb dX5_isOwn_61 rfl (lv_at hl 1 rfl) ?_
          refine lv_if_eq (tgt := 86) hx hb dX5_isOwn_62 (by decide) (fun c => absurd c (by decide)) (fun _ => ?_)
          refine lv_aload_n hx hb dX5_isOwn_65 rfl (lv_at hl 2 rfl) ?_
          refine gX5_frame S hW kf_X5_33 dX5_isOwn_66 ?_
          refine lv_iconst (v := 1) hx hb dX5_isOwn_69 (by decide) ?_
          refine lv_iload_n hx hb dX5_isOwn_70 rfl (lv_at hl 0 rfl) ?_
          refine lv_iadd hx hb dX5_isOwn_71 ?_
          obtain ⟨q37, hs⟩ := hs
          refine aM5 S hW q37 dX5_isOwn_72 ?_
          refine lv_aload_n hx hb dX5_isOwn_73 rfl (lv_at hl 2 rfl) ?_
          refine gX5_own S hW kf_X5_7 dX5_isOwn_74 ?_
          refine lv_iload_n hx hb dX5_isOwn_77 rfl (lv_at hl 0 rfl) ?_
          refine aM0 S hW (vi_of (M := 5) (by decide) (by decide) (by decide)) dX5_isOwn_78 ?_
          refine lv_icmp_ne (tgt := 86) hx hb dX5_isOwn_79 (by decide) (fun c38 => ?_) (fun c38 => ?_)
          · replace hf := if_f c38 hf
            replace hs := hs.2 c38
            refine lv_iconst (v := 0) hx hb dX5_isOwn_86 (by decide) ?_
            refine lv_istore_n (lv' := [(1, .int 0), (2, .int 3), (0, .ref (g.1 0))]) hx hb dX5_isOwn_87 rfl hl (by decide) rfl (fun ls hl => ?_)
            refine lv_iinc (v := 4) (lv' := [(2, .int 4), (1, .int 0), (0, .ref (g.1 0))]) hx hb dX5_isOwn_88 hl (k := 1) rfl (by decide) (by decide) rfl (fun ls hl => ?_)
            refine lv_goto (tgt := 56) hx hb dX5_isOwn_91 (by decide) ?_
            refine lv_iload_n hx hb dX5_isOwn_56 rfl (lv_at hl 0 rfl) ?_
            refine lv_iconst (v := 5) hx hb dX5_isOwn_57 (by decide) ?_
            refine lv_icmp_ge (tgt := 94) hx hb dX5_isOwn_58 (by decide) (fun c => absurd c (by decide)) (fun _ => ?_)
            refine lv_iload_n hx hb dX5_isOwn_61 rfl (lv_at hl 1 rfl) ?_
            refine lv_if_eq (tgt := 86) hx hb dX5_isOwn_62 (by decide) (fun _ => ?_) (fun c => absurd (by decide) c)
            refine lv_iconst (v := 0) hx hb dX5_isOwn_86 (by decide) ?_
            refine lv_istore_n (lv' := [(1, .int 0), (2, .int 4), (0, .ref (g.1 0))]) hx hb dX5_isOwn_87 rfl hl (by decide) rfl (fun ls hl => ?_)
            refine lv_iinc (v := 5) (lv' := [(2, .int 5), (1, .int 0), (0, .ref (g.1 0))]) hx hb dX5_isOwn_88 hl (k := 1) rfl (by decide) (by decide) rfl (fun ls hl => ?_)
            refine lv_goto (tgt := 56) hx hb dX5_isOwn_91 (by decide) ?_
            refine lv_iload_n hx hb dX5_isOwn_56 rfl (lv_at hl 0 rfl) ?_
            refine lv_iconst (v := 5) hx hb dX5_isOwn_57 (by decide) ?_
            refine lv_icmp_ge (tgt := 94) hx hb dX5_isOwn_58 (by decide) (fun _ => ?_) (fun c => absurd (by decide) c)
            refine lv_iload_n hx hb dX5_isOwn_94 rfl (lv_at hl 1 rfl) ?_
            refine lv_if_ne (tgt := 105) hx hb dX5_isOwn_95 (by decide) (fun c => absurd (by decide) c) (fun _ => ?_)
            refine lv_aload_n hx hb dX5_isOwn_98 rfl (lv_at hl 2 rfl) ?_
            obtain ⟨q39, hs⟩ := hs
            obtain ⟨r40, er40, hf⟩ := bd_e hf
            refine ct_V (As := []) (rest := []) (st1 := [.int r40.1]) (q0 := 0) (ci := 5) S hA hW (c_X5_isBroadcast l D g r21.2 er40 q39) (wG_V km_X5_83 ki_yX5_isBroadcast ks_yX5_isBroadcast kn_X5 kc_yX5_isBroadcast) ⟨rfl, rfl⟩ hd_X5_isBroadcast (by rw [hR]; exact ⟨Nat.le_of_ble_eq_true rfl, Nat.le_of_ble_eq_true rfl⟩) rfl rfl rfl rfl hl.1 rfl (Nat.le_of_ble_eq_true rfl) ⟨Nat.zero_le _, Nat.zero_le _⟩ dX5_isOwn_99 rfl (fun H locs hW => ?_)
            refine lv_if_eq (tgt := 109) hx hb dX5_isOwn_102 (by decide) (fun c41 => ?_) (fun c41 => ?_)
            · replace hf := if_t c41 hf
              refine lv_iconst (v := 0) hx hb dX5_isOwn_109 (by decide) ?_
              subst hf
              exact ct_z (Or.inl rfl) S hr hlocks hW dX5_isOwn_110
            · replace hf := if_f c41 hf
              refine lv_iconst (v := 1) hx hb dX5_isOwn_105 (by decide) ?_
              refine lv_goto (tgt := 110) hx hb dX5_isOwn_106 (by decide) ?_
              subst hf
              exact ct_z (Or.inr rfl) S hr hlocks hW dX5_isOwn_110
          · replace hf := if_t c38 hf
            replace hs := hs.1 c38
            refine lv_iconst (v := 1) hx hb dX5_isOwn_82 (by decide) ?_
            refine lv_goto (tgt := 87) hx hb dX5_isOwn_83 (by decide) ?_
            refine lv_istore_n (lv' := [(1, .int 1), (2, .int 3), (0, .ref (g.1 0))]) hx hb dX5_isOwn_87 rfl hl (by decide) rfl (fun ls hl => ?_)
            refine lv_iinc (v := 4) (lv' := [(2, .int 4), (1, .int 1), (0, .ref (g.1 0))]) hx hb dX5_isOwn_88 hl (k := 1) rfl (by decide) (by decide) rfl (fun ls hl => ?_)
            refine lv_goto (tgt := 56) hx hb dX5_isOwn_91 (by decide) ?_
            refine lv_iload_n hx hb dX5_isOwn_56 rfl (lv_at hl 0 rfl) ?_
            refine lv_iconst (v := 5) hx hb dX5_isOwn_57 (by decide) ?_
            refine lv_icmp_ge (tgt := 94) hx hb dX5_isOwn_58 (by decide) (fun c => absurd c (by decide)) (fun _ => ?_)
            refine lv_iload_n hx hb dX5_isOwn_61 rfl (lv_at hl 1 rfl) ?_
            refine lv_if_eq (tgt := 86) hx hb dX5_isOwn_62 (by decide) (fun c => absurd c (by decide)) (fun _ => ?_)
            refine lv_aload_n hx hb dX5_isOwn_65 rfl (lv_at hl 2 rfl) ?_
            refine gX5_frame S hW kf_X5_33 dX5_isOwn_66 ?_
            refine lv_iconst (v := 1) hx hb dX5_isOwn_69 (by decide) ?_
            refine lv_iload_n hx hb dX5_isOwn_70 rfl (lv_at hl 0 rfl) ?_
            refine lv_iadd hx hb dX5_isOwn_71 ?_
            obtain ⟨q42, hs⟩ := hs
            refine aM5 S hW q42 dX5_isOwn_72 ?_
            refine lv_aload_n hx hb dX5_isOwn_73 rfl (lv_at hl 2 rfl) ?_
            refine gX5_own S hW kf_X5_7 dX5_isOwn_74 ?_
            refine lv_iload_n hx hb dX5_isOwn_77 rfl (lv_at hl 0 rfl) ?_
            refine aM0 S hW (vi_of (M := 5) (by decide) (by decide) (by decide)) dX5_isOwn_78 ?_
            refine lv_icmp_ne (tgt := 86) hx hb dX5_isOwn_79 (by decide) (fun c43 => ?_) (fun c43 => ?_)
            · replace hf := if_f c43 hf
              replace hs := hs.2 c43
              refine lv_iconst (v := 0) hx hb dX5_isOwn_86 (by decide) ?_
              refine lv_istore_n (lv' := [(1, .int 0), (2, .int 4), (0, .ref (g.1 0))]) hx hb dX5_isOwn_87 rfl hl (by decide) rfl (fun ls hl => ?_)
              refine lv_iinc (v := 5) (lv' := [(2, .int 5), (1, .int 0), (0, .ref (g.1 0))]) hx hb dX5_isOwn_88 hl (k := 1) rfl (by decide) (by decide) rfl (fun ls hl => ?_)
              refine lv_goto (tgt := 56) hx hb dX5_isOwn_91 (by decide) ?_
              refine lv_iload_n hx hb dX5_isOwn_56 rfl (lv_at hl 0 rfl) ?_
              refine lv_iconst (v := 5) hx hb dX5_isOwn_57 (by decide) ?_
              refine lv_icmp_ge (tgt := 94) hx hb dX5_isOwn_58 (by decide) (fun _ => ?_) (fun c => absurd (by decide) c)
              refine lv_iload_n hx hb dX5_isOwn_94 rfl (lv_at hl 1 rfl) ?_
              refine lv_if_ne (tgt := 105) hx hb dX5_isOwn_95 (by decide) (fun c => absurd (by decide) c) (fun _ => ?_)
              refine lv_aload_n hx hb dX5_isOwn_98 rfl (lv_at hl 2 rfl) ?_
              obtain ⟨q44, hs⟩ := hs
              obtain ⟨r45, er45, hf⟩ := bd_e hf
              refine ct_V (As := []) (rest := []) (st1 := [.int r45.1]) (q0 := 0) (ci := 5) S hA hW (c_X5_isBroadcast l D g r21.2 er45 q44) (wG_V km_X5_83 ki_yX5_isBroadcast ks_yX5_isBroadcast kn_X5 kc_yX5_isBroadcast) ⟨rfl, rfl⟩ hd_X5_isBroadcast (by rw [hR]; exact ⟨Nat.le_of_ble_eq_true rfl, Nat.le_of_ble_eq_true rfl⟩) rfl rfl rfl rfl hl.1 rfl (Nat.le_of_ble_eq_true rfl) ⟨Nat.zero_le _, Nat.zero_le _⟩ dX5_isOwn_99 rfl (fun H locs hW => ?_)
              refine lv_if_eq (tgt := 109) hx hb dX5_isOwn_102 (by decide) (fun c46 => ?_) (fun c46 => ?_)
              · replace hf := if_t c46 hf
                refine lv_iconst (v := 0) hx hb dX5_isOwn_109 (by decide) ?_
                subst hf
                exact ct_z (Or.inl rfl) S hr hlocks hW dX5_isOwn_110
              · replace hf := if_f c46 hf
                refine lv_iconst (v := 1) hx hb dX5_isOwn_105 (by decide) ?_
                refine lv_goto (tgt := 110) hx hb dX5_isOwn_106 (by decide) ?_
                subst hf
                exact ct_z (Or.inr rfl) S hr hlocks hW dX5_isOwn_110
            · replace hf := if_t c43 hf
              replace hs := hs.1 c43
              refine lv_iconst (v := 1) hx hb dX5_isOwn_82 (by decide) ?_
              refine lv_goto (tgt := 87) hx hb dX5_isOwn_83 (by decide) ?_
              refine lv_istore_n (lv' := [(1, .int 1), (2, .int 4), (0, .ref (g.1 0))]) hx hb dX5_isOwn_87 rfl hl (by decide) rfl (fun ls hl => ?_)
              refine lv_iinc (v := 5) (lv' := [(2, .int 5), (1, .int 1), (0, .ref (g.1 0))]) hx hb dX5_isOwn_88 hl (k := 1) rfl (by decide) (by decide) rfl (fun ls hl => ?_)
              refine lv_goto (tgt := 56) hx hb dX5_isOwn_91 (by decide) ?_
              refine lv_iload_n hx hb dX5_isOwn_56 rfl (lv_at hl 0 rfl) ?_
              refine lv_iconst (v := 5) hx hb dX5_isOwn_57 (by decide) ?_
              refine lv_icmp_ge (tgt := 94) hx hb dX5_isOwn_58 (by decide) (fun _ => ?_) (fun c => absurd (by decide) c)
              refine lv_iload_n hx hb dX5_isOwn_94 rfl (lv_at hl 1 rfl) ?_
              refine lv_if_ne (tgt := 105) hx hb dX5_isOwn_95 (by decide) (fun _ => ?_) (fun c => absurd c (by decide))
              refine lv_iconst (v := 1) hx hb dX5_isOwn_105 (by decide) ?_
              refine lv_goto (tgt := 110) hx hb dX5_isOwn_106 (by decide) ?_
              subst hf
              exact ct_z (Or.inr rfl) S hr hlocks hW dX5_isOwn_110
  · replace hf := if_t c22 hf
    replace hs := hs.1 c22
    refine lv_aload_n hx hb dX5_isOwn_8 rfl (lv_at hl 0 rfl) ?_
    refine gX5_frame S hW kf_X5_33 dX5_isOwn_9 ?_
    refine lv_iconst (v := 1) hx hb dX5_isOwn_12 (by decide) ?_
    refine aM5 S hW (vi_of (M := 40) (by decide) (by decide) (by decide)) dX5_isOwn_13 ?_
    refine lv_bipush (v := 64) hx hb dX5_isOwn_14 (by decide) ?_
    refine lv_irem hx hb dX5_isOwn_16 (by decide) ?_
    refine lv_aload_n hx hb dX5_isOwn_17 rfl (lv_at hl 0 rfl) ?_
    refine gX5_shortAddress S hW kf_X5_80 dX5_isOwn_18 ?_
    refine lv_icmp_ne (tgt := 28) hx hb dX5_isOwn_21 (by decide) (fun c47 => ?_) (fun c47 => ?_)
    · replace hf := if_f c47 hf
      refine lv_iconst (v := 0) hx hb dX5_isOwn_28 (by decide) ?_
      subst hf
      exact ct_z (Or.inl rfl) S hr hlocks hW dX5_isOwn_29
    · replace hf := if_t c47 hf
      refine lv_iconst (v := 1) hx hb dX5_isOwn_24 (by decide) ?_
      refine lv_goto (tgt := 29) hx hb dX5_isOwn_25 (by decide) ?_
      subst hf
      exact ct_z (Or.inr rfl) S hr hlocks hW dX5_isOwn_29
def f_X5_countWanted_9 (z : Sg) (y0 : Int32) : Int32 × Sg := (if y0 = 13 then (0, z) else (if y0 = 38 then (0, z) else (if y0 = 48 then (0, z) else (if y0 = 6 then (1, z) else (if y0 = 108 then (1, z) else (if y0 = 109 then (1, z) else (if y0 = 11 then (6, z) else (if y0 = 18 then (6, z) else (if y0 = 35 then (9, z) else ((-1), z))))))))))
def f_X5_countWanted (z : Sg) (x0 : Int32) : Int32 × Sg := (if x0 < 0 then f_X5_countWanted_9 z x0 else (if x0 ≤ 3 then (0, z) else f_X5_countWanted_9 z x0))
theorem hd_X5_countWanted : yX5_countWanted.cls = RX5 ∧ yX5_countWanted.cls ≠ "java/lang/invoke/MethodHandle" ∧ yX5_countWanted.cls ≠ "java/lang/invoke/VarHandle" ∧ (parseMethodDescriptor yX5_countWanted.desc).map (fun d => d.parameters.length) = some 1 := by decide +kernel
set_option maxHeartbeats 4000000 in
set_option maxRecDepth 100000 in
theorem c_X5_countWanted (l : Launch) (D : va_G) (g : Gv) (z : Sg) (x0 : Int32) {r : Int32 × Sg} (er : r = f_X5_countWanted z x0) : CT D (wM g) (tM g) l yX5_countWanted (wG yX5_countWanted cX5_countWanted 1 (some .int)) { frames := 0, cells := 0, slots := 0, locals := 0 } [.int x0] z (some (.int r.1)) r.2 := by
  refine CT.ofW (by decide) (Nat.le_of_ble_eq_true rfl) ?_
  intro p e R s m args below meth c A hR S hr hlocks hA hW ls hl
  have S : CallFix p m c cX5_countWanted 1 s args wsL_law RX5 := S
  have hl : lv_has ls 1 [(0, .int x0)] := hl
  have hx := S.1
  have hb := S.2.1
  have hf := er.symm
  clear er
  have J_9 : ∀ (z : Sg) (y0 : Int32) (H : Heap) (locs : List Loc) (ls : Array Slot), Wd D (wM g) (tM g) A s H locs z → lv_has ls 1 [(0, .int y0)] → f_X5_countWanted_9 z y0 = r → W p l e R s m args below meth c H locs 0 0 (MQ below (CQ D (wM g) A (some (.int r.1)) r.2) args s 0 0 A) (F0 m 9 ls []) := by
    intro z y0 H locs ls hW hl hf
    unfold f_X5_countWanted_9 at hf
    refine lv_iload_n hx hb dX5_countWanted_9 rfl (lv_at hl 0 rfl) ?_
    refine lv_bipush (v := 13) hx hb dX5_countWanted_10 (by decide) ?_
    refine lv_icmp_eq (tgt := 27) hx hb dX5_countWanted_12 (by decide) (fun c23 => ?_) (fun c23 => ?_)
    · replace hf := if_t c23 hf
      refine lv_iconst (v := 0) hx hb dX5_countWanted_27 (by decide) ?_
      subst hf
      exact ct_i S hr hlocks hW dX5_countWanted_28
    · replace hf := if_f c23 hf
      refine lv_iload_n hx hb dX5_countWanted_15 rfl (lv_at hl 0 rfl) ?_
      refine lv_bipush (v := 38) hx hb dX5_countWanted_16 (by decide) ?_
      refine lv_icmp_eq (tgt := 27) hx hb dX5_countWanted_18 (by decide) (fun c24 => ?_) (fun c24 => ?_)
      · replace hf := if_t c24 hf
        refine lv_iconst (v := 0) hx hb dX5_countWanted_27 (by decide) ?_
        subst hf
        exact ct_i S hr hlocks hW dX5_countWanted_28
      · replace hf := if_f c24 hf
        refine lv_iload_n hx hb dX5_countWanted_21 rfl (lv_at hl 0 rfl) ?_
        refine lv_bipush (v := 48) hx hb dX5_countWanted_22 (by decide) ?_
        refine lv_icmp_ne (tgt := 29) hx hb dX5_countWanted_24 (by decide) (fun c25 => ?_) (fun c25 => ?_)
        · replace hf := if_f c25 hf
          refine lv_iload_n hx hb dX5_countWanted_29 rfl (lv_at hl 0 rfl) ?_
          refine lv_bipush (v := 6) hx hb dX5_countWanted_30 (by decide) ?_
          refine lv_icmp_eq (tgt := 47) hx hb dX5_countWanted_32 (by decide) (fun c26 => ?_) (fun c26 => ?_)
          · replace hf := if_t c26 hf
            refine lv_iconst (v := 1) hx hb dX5_countWanted_47 (by decide) ?_
            subst hf
            exact ct_i S hr hlocks hW dX5_countWanted_48
          · replace hf := if_f c26 hf
            refine lv_iload_n hx hb dX5_countWanted_35 rfl (lv_at hl 0 rfl) ?_
            refine lv_bipush (v := 108) hx hb dX5_countWanted_36 (by decide) ?_
            refine lv_icmp_eq (tgt := 47) hx hb dX5_countWanted_38 (by decide) (fun c27 => ?_) (fun c27 => ?_)
            · replace hf := if_t c27 hf
              refine lv_iconst (v := 1) hx hb dX5_countWanted_47 (by decide) ?_
              subst hf
              exact ct_i S hr hlocks hW dX5_countWanted_48
            · replace hf := if_f c27 hf
              refine lv_iload_n hx hb dX5_countWanted_41 rfl (lv_at hl 0 rfl) ?_
              refine lv_bipush (v := 109) hx hb dX5_countWanted_42 (by decide) ?_
              refine lv_icmp_ne (tgt := 49) hx hb dX5_countWanted_44 (by decide) (fun c28 => ?_) (fun c28 => ?_)
              · replace hf := if_f c28 hf
                refine lv_iload_n hx hb dX5_countWanted_49 rfl (lv_at hl 0 rfl) ?_
                refine lv_bipush (v := 11) hx hb dX5_countWanted_50 (by decide) ?_
                refine lv_icmp_eq (tgt := 61) hx hb dX5_countWanted_52 (by decide) (fun c29 => ?_) (fun c29 => ?_)
                · replace hf := if_t c29 hf
                  refine lv_bipush (v := 6) hx hb dX5_countWanted_61 (by decide) ?_
                  refine lv_goto (tgt := 78) hx hb dX5_countWanted_63 (by decide) ?_
                  subst hf
                  exact ct_i S hr hlocks hW dX5_countWanted_78
                · replace hf := if_f c29 hf
                  refine lv_iload_n hx hb dX5_countWanted_55 rfl (lv_at hl 0 rfl) ?_
                  refine lv_bipush (v := 18) hx hb dX5_countWanted_56 (by decide) ?_
                  refine lv_icmp_ne (tgt := 66) hx hb dX5_countWanted_58 (by decide) (fun c30 => ?_) (fun c30 => ?_)
                  · replace hf := if_f c30 hf
                    refine lv_iload_n hx hb dX5_countWanted_66 rfl (lv_at hl 0 rfl) ?_
                    refine lv_bipush (v := 35) hx hb dX5_countWanted_67 (by decide) ?_
                    refine lv_icmp_ne (tgt := 77) hx hb dX5_countWanted_69 (by decide) (fun c31 => ?_) (fun c31 => ?_)
                    · replace hf := if_f c31 hf
                      refine lv_iconst (v := (-1)) hx hb dX5_countWanted_77 (by decide) ?_
                      subst hf
                      exact ct_i S hr hlocks hW dX5_countWanted_78
                    · replace hf := if_t c31 hf
                      refine lv_bipush (v := 9) hx hb dX5_countWanted_72 (by decide) ?_
                      refine lv_goto (tgt := 78) hx hb dX5_countWanted_74 (by decide) ?_
                      subst hf
                      exact ct_i S hr hlocks hW dX5_countWanted_78
                  · replace hf := if_t c30 hf
                    refine lv_bipush (v := 6) hx hb dX5_countWanted_61 (by decide) ?_
                    refine lv_goto (tgt := 78) hx hb dX5_countWanted_63 (by decide) ?_
                    subst hf
                    exact ct_i S hr hlocks hW dX5_countWanted_78
              · replace hf := if_t c28 hf
                refine lv_iconst (v := 1) hx hb dX5_countWanted_47 (by decide) ?_
                subst hf
                exact ct_i S hr hlocks hW dX5_countWanted_48
        · replace hf := if_t c25 hf
          refine lv_iconst (v := 0) hx hb dX5_countWanted_27 (by decide) ?_
          subst hf
          exact ct_i S hr hlocks hW dX5_countWanted_28
  unfold f_X5_countWanted at hf
  refine lv_iload_n hx hb dX5_countWanted_0 rfl (lv_at hl 0 rfl) ?_
  refine lv_if_lt (tgt := 9) hx hb dX5_countWanted_1 (by decide) (fun c21 => ?_) (fun c21 => ?_)
  · replace hf := if_t c21 hf
    exact J_9 z x0 _ _ ls hW (lv_sub hl [0] rfl) hf
  · replace hf := if_f c21 hf
    refine lv_iload_n hx hb dX5_countWanted_4 rfl (lv_at hl 0 rfl) ?_
    refine lv_iconst (v := 3) hx hb dX5_countWanted_5 (by decide) ?_
    refine lv_icmp_le (tgt := 27) hx hb dX5_countWanted_6 (by decide) (fun c22 => ?_) (fun c22 => ?_)
    · replace hf := if_t c22 hf
      refine lv_iconst (v := 0) hx hb dX5_countWanted_27 (by decide) ?_
      subst hf
      exact ct_i S hr hlocks hW dX5_countWanted_28
    · replace hf := if_f c22 hf
      exact J_9 z x0 _ _ ls hW (lv_sub hl [0] rfl) hf
def f_X5_hasTag (z : Sg)  : Int32 × Sg := bd (f_X5_data z 0) (fun r22 => (if r22.1 = (gA r22.2 1 (Int32.toNatClampNeg 0)) then bd (f_X5_data r22.2 1) (fun r25 => (if r25.1 = (gA r25.2 1 (Int32.toNatClampNeg 1)) then bd (f_X5_data r25.2 2) (fun r28 => (if r28.1 = (gA r28.2 1 (Int32.toNatClampNeg 2)) then bd (f_X5_data r28.2 3) (fun r31 => (if r31.1 = (gA r31.2 1 (Int32.toNatClampNeg 3)) then bd (f_X5_data r31.2 4) (fun r34 => (if r34.1 = (gA r34.2 1 (Int32.toNatClampNeg 4)) then bd (f_X5_data r34.2 5) (fun r37 => (if r37.1 = (gA r37.2 1 (Int32.toNatClampNeg 5)) then (1, r37.2) else (0, r37.2))) else (0, r34.2))) else (0, r31.2))) else (0, r28.2))) else (0, r25.2))) else (0, r22.2)))
def s_X5_hasTag (z : Sg)  : Prop := (s_X5_data z 0) ∧ bd (f_X5_data z 0) (fun r22 => (r22.1 = (gA r22.2 1 (Int32.toNatClampNeg 0)) → (s_X5_data r22.2 1) ∧ bd (f_X5_data r22.2 1) (fun r25 => (r25.1 = (gA r25.2 1 (Int32.toNatClampNeg 1)) → (s_X5_data r25.2 2) ∧ bd (f_X5_data r25.2 2) (fun r28 => (r28.1 = (gA r28.2 1 (Int32.toNatClampNeg 2)) → (s_X5_data r28.2 3) ∧ bd (f_X5_data r28.2 3) (fun r31 => (r31.1 = (gA r31.2 1 (Int32.toNatClampNeg 3)) → (s_X5_data r31.2 4) ∧ bd (f_X5_data r31.2 4) (fun r34 => (r34.1 = (gA r34.2 1 (Int32.toNatClampNeg 4)) → (s_X5_data r34.2 5) ∧ True) ∧ (¬ r34.1 = (gA r34.2 1 (Int32.toNatClampNeg 4)) → True))) ∧ (¬ r31.1 = (gA r31.2 1 (Int32.toNatClampNeg 3)) → True))) ∧ (¬ r28.1 = (gA r28.2 1 (Int32.toNatClampNeg 2)) → True))) ∧ (¬ r25.1 = (gA r25.2 1 (Int32.toNatClampNeg 1)) → True))) ∧ (¬ r22.1 = (gA r22.2 1 (Int32.toNatClampNeg 0)) → True))
theorem hd_X5_hasTag : yX5_hasTag.cls = RX5 ∧ yX5_hasTag.cls ≠ "java/lang/invoke/MethodHandle" ∧ yX5_hasTag.cls ≠ "java/lang/invoke/VarHandle" ∧ (parseMethodDescriptor yX5_hasTag.desc).map (fun d => d.parameters.length) = some 0 := by decide +kernel
set_option maxHeartbeats 4000000 in
set_option maxRecDepth 100000 in
theorem c_X5_hasTag (l : Launch) (D : va_G) (g : Gv) (z : Sg)  {r : Int32 × Sg} (er : r = f_X5_hasTag z ) (hs : s_X5_hasTag z ) : CT D (wM g) (tM g) l yX5_hasTag (wG yX5_hasTag cX5_hasTag 3 (some .boolean)) { frames := 2, cells := 0, slots := 0, locals := 41 } [.ref (g.1 0)] z (some (.int r.1)) r.2 := by
  refine CT.ofW (by decide) (Nat.le_of_ble_eq_true rfl) ?_
  intro p e R s m args below meth c A hR S hr hlocks hA hW ls hl
  have S : CallFix p m c cX5_hasTag 3 s args wsL_law RX5 := S
  have hl : lv_has ls 3 [(0, .ref (g.1 0))] := hl
  have hx := S.1
  have hb := S.2.1
  have hf := er.symm
  clear er
  unfold f_X5_hasTag at hf
  unfold s_X5_hasTag at hs
  refine lv_iconst (v := 1) hx hb dX5_hasTag_0 (by decide) ?_
  refine lv_istore_n (lv' := [(1, .int 1), (0, .ref (g.1 0))]) hx hb dX5_hasTag_1 rfl hl (by decide) rfl (fun ls hl => ?_)
  refine lv_iconst (v := 0) hx hb dX5_hasTag_2 (by decide) ?_
  refine lv_istore_n (lv' := [(2, .int 0), (1, .int 1), (0, .ref (g.1 0))]) hx hb dX5_hasTag_3 rfl hl (by decide) rfl (fun ls hl => ?_)
  refine lv_iload_n hx hb dX5_hasTag_4 rfl (lv_at hl 0 rfl) ?_
  refine lv_bipush (v := 6) hx hb dX5_hasTag_5 (by decide) ?_
  refine lv_icmp_ge (tgt := 40) hx hb dX5_hasTag_7 (by decide) (fun c => absurd c (by decide)) (fun _ => ?_)
  refine lv_iload_n hx hb dX5_hasTag_10 rfl (lv_at hl 1 rfl) ?_
  refine lv_if_eq (tgt := 32) hx hb dX5_hasTag_11 (by decide) (fun c => absurd c (by decide)) (fun _ => ?_)
  refine lv_aload_n hx hb dX5_hasTag_14 rfl (lv_at hl 2 rfl) ?_
  refine lv_iload_n hx hb dX5_hasTag_15 rfl (lv_at hl 0 rfl) ?_
  obtain ⟨q21, hs⟩ := hs
  obtain ⟨r22, er22, hf⟩ := bd_e hf
  replace hs := bd_s er22 hs
  refine ct_V (As := [.int 0]) (rest := []) (st1 := [.int r22.1]) (q0 := 0) (ci := 5) S hA hW (c_X5_data l D g z 0 er22 q21) (wG_V km_X5_61 ki_yX5_data ks_yX5_data kn_X5 kc_yX5_data) ⟨rfl, rfl⟩ hd_X5_data (by rw [hR]; exact ⟨Nat.le_of_ble_eq_true rfl, Nat.le_of_ble_eq_true rfl⟩) rfl rfl rfl rfl hl.1 rfl (Nat.le_of_ble_eq_true rfl) ⟨Nat.zero_le _, Nat.zero_le _⟩ dX5_hasTag_16 rfl (fun H locs hW => ?_)
  refine lv_aload_n hx hb dX5_hasTag_19 rfl (lv_at hl 2 rfl) ?_
  refine gX5_tags S hW kf_X5_13 dX5_hasTag_20 ?_
  refine lv_iload_n hx hb dX5_hasTag_23 rfl (lv_at hl 0 rfl) ?_
  refine aM1 S hW (vi_of (M := 6) (by decide) (by decide) (by decide)) dX5_hasTag_24 ?_
  refine lv_icmp_ne (tgt := 32) hx hb dX5_hasTag_25 (by decide) (fun c23 => ?_) (fun c23 => ?_)
  · replace hf := if_f c23 hf
    replace hs := hs.2 c23
    refine lv_iconst (v := 0) hx hb dX5_hasTag_32 (by decide) ?_
    refine lv_istore_n (lv' := [(1, .int 0), (2, .int 0), (0, .ref (g.1 0))]) hx hb dX5_hasTag_33 rfl hl (by decide) rfl (fun ls hl => ?_)
    refine lv_iinc (v := 1) (lv' := [(2, .int 1), (1, .int 0), (0, .ref (g.1 0))]) hx hb dX5_hasTag_34 hl (k := 1) rfl (by decide) (by decide) rfl (fun ls hl => ?_)
    refine lv_goto (tgt := 4) hx hb dX5_hasTag_37 (by decide) ?_
    refine lv_iload_n hx hb dX5_hasTag_4 rfl (lv_at hl 0 rfl) ?_
    refine lv_bipush (v := 6) hx hb dX5_hasTag_5 (by decide) ?_
    refine lv_icmp_ge (tgt := 40) hx hb dX5_hasTag_7 (by decide) (fun c => absurd c (by decide)) (fun _ => ?_)
    refine lv_iload_n hx hb dX5_hasTag_10 rfl (lv_at hl 1 rfl) ?_
    refine lv_if_eq (tgt := 32) hx hb dX5_hasTag_11 (by decide) (fun _ => ?_) (fun c => absurd (by decide) c)
    refine lv_iconst (v := 0) hx hb dX5_hasTag_32 (by decide) ?_
    refine lv_istore_n (lv' := [(1, .int 0), (2, .int 1), (0, .ref (g.1 0))]) hx hb dX5_hasTag_33 rfl hl (by decide) rfl (fun ls hl => ?_)
    refine lv_iinc (v := 2) (lv' := [(2, .int 2), (1, .int 0), (0, .ref (g.1 0))]) hx hb dX5_hasTag_34 hl (k := 1) rfl (by decide) (by decide) rfl (fun ls hl => ?_)
    refine lv_goto (tgt := 4) hx hb dX5_hasTag_37 (by decide) ?_
    refine lv_iload_n hx hb dX5_hasTag_4 rfl (lv_at hl 0 rfl) ?_
    refine lv_bipush (v := 6) hx hb dX5_hasTag_5 (by decide) ?_
    refine lv_icmp_ge (tgt := 40) hx hb dX5_hasTag_7 (by decide) (fun c => absurd c (by decide)) (fun _ => ?_)
    refine lv_iload_n hx hb dX5_hasTag_10 rfl (lv_at hl 1 rfl) ?_
    refine lv_if_eq (tgt := 32) hx hb dX5_hasTag_11 (by decide) (fun _ => ?_) (fun c => absurd (by decide) c)
    refine lv_iconst (v := 0) hx hb dX5_hasTag_32 (by decide) ?_
    refine lv_istore_n (lv' := [(1, .int 0), (2, .int 2), (0, .ref (g.1 0))]) hx hb dX5_hasTag_33 rfl hl (by decide) rfl (fun ls hl => ?_)
    refine lv_iinc (v := 3) (lv' := [(2, .int 3), (1, .int 0), (0, .ref (g.1 0))]) hx hb dX5_hasTag_34 hl (k := 1) rfl (by decide) (by decide) rfl (fun ls hl => ?_)
    refine lv_goto (tgt := 4) hx hb dX5_hasTag_37 (by decide) ?_
    refine lv_iload_n hx hb dX5_hasTag_4 rfl (lv_at hl 0 rfl) ?_
    refine lv_bipush (v := 6) hx hb dX5_hasTag_5 (by decide) ?_
    refine lv_icmp_ge (tgt := 40) hx hb dX5_hasTag_7 (by decide) (fun c => absurd c (by decide)) (fun _ => ?_)
    refine lv_iload_n hx hb dX5_hasTag_10 rfl (lv_at hl 1 rfl) ?_
    refine lv_if_eq (tgt := 32) hx hb dX5_hasTag_11 (by decide) (fun _ => ?_) (fun c => absurd (by decide) c)
    refine lv_iconst (v := 0) hx hb dX5_hasTag_32 (by decide) ?_
    refine lv_istore_n (lv' := [(1, .int 0), (2, .int 3), (0, .ref (g.1 0))]) hx hb dX5_hasTag_33 rfl hl (by decide) rfl (fun ls hl => ?_)
    refine lv_iinc (v := 4) (lv' := [(2, .int 4), (1, .int 0), (0, .ref (g.1 0))]) hx hb dX5_hasTag_34 hl (k := 1) rfl (by decide) (by decide) rfl (fun ls hl => ?_)
    refine lv_goto (tgt := 4) hx hb dX5_hasTag_37 (by decide) ?_
    refine lv_iload_n hx hb dX5_hasTag_4 rfl (lv_at hl 0 rfl) ?_
    refine lv_bipush (v := 6) hx hb dX5_hasTag_5 (by decide) ?_
    refine lv_icmp_ge (tgt := 40) hx hb dX5_hasTag_7 (by decide) (fun c => absurd c (by decide)) (fun _ => ?_)
    refine lv_iload_n hx hb dX5_hasTag_10 rfl (lv_at hl 1 rfl) ?_
    refine lv_if_eq (tgt := 32) hx hb dX5_hasTag_11 (by decide) (fun _ => ?_) (fun c => absurd (by decide) c)
    refine lv_iconst (v := 0) hx hb dX5_hasTag_32 (by decide) ?_
    refine lv_istore_n (lv' := [(1, .int 0), (2, .int 4), (0, .ref (g.1 0))]) hx hb dX5_hasTag_33 rfl hl (by decide) rfl (fun ls hl => ?_)
    refine lv_iinc (v := 5) (lv' := [(2, .int 5), (1, .int 0), (0, .ref (g.1 0))]) hx hb dX5_hasTag_34 hl (k := 1) rfl (by decide) (by decide) rfl (fun ls hl => ?_)
    refine lv_goto (tgt := 4) hx hb dX5_hasTag_37 (by decide) ?_
    refine lv_iload_n hx hb dX5_hasTag_4 rfl (lv_at hl 0 rfl) ?_
    refine lv_bipush (v := 6) hx hb dX5_hasTag_5 (by decide) ?_
    refine lv_icmp_ge (tgt := 40) hx hb dX5_hasTag_7 (by decide) (fun c => absurd c (by decide)) (fun _ => ?_)
    refine lv_iload_n hx hb dX5_hasTag_10 rfl (lv_at hl 1 rfl) ?_
    refine lv_if_eq (tgt := 32) hx hb dX5_hasTag_11 (by decide) (fun _ => ?_) (fun c => absurd (by decide) c)
    refine lv_iconst (v := 0) hx hb dX5_hasTag_32 (by decide) ?_
    refine lv_istore_n (lv' := [(1, .int 0), (2, .int 5), (0, .ref (g.1 0))]) hx hb dX5_hasTag_33 rfl hl (by decide) rfl (fun ls hl => ?_)
    refine lv_iinc (v := 6) (lv' := [(2, .int 6), (1, .int 0), (0, .ref (g.1 0))]) hx hb dX5_hasTag_34 hl (k := 1) rfl (by decide) (by decide) rfl (fun ls hl => ?_)
    refine lv_goto (tgt := 4) hx hb dX5_hasTag_37 (by decide) ?_
    refine lv_iload_n hx hb dX5_hasTag_4 rfl (lv_at hl 0 rfl) ?_
    refine lv_bipush (v := 6) hx hb dX5_hasTag_5 (by decide) ?_
    refine lv_icmp_ge (tgt := 40) hx hb dX5_hasTag_7 (by decide) (fun _ => ?_) (fun c => absurd (by decide) c)
    refine lv_iload_n hx hb dX5_hasTag_40 rfl (lv_at hl 1 rfl) ?_
    subst hf
    exact ct_z (Or.inl rfl) S hr hlocks hW dX5_hasTag_41
  · replace hf := if_t c23 hf
    replace hs := hs.1 c23
    refine lv_iconst (v := 1) hx hb dX5_hasTag_28 (by decide) ?_
    refine lv_goto (tgt := 33) hx hb dX5_hasTag_29 (by decide) ?_
    refine lv_istore_n (lv' := [(1, .int 1), (2, .int 0), (0, .ref (g.1 0))]) hx hb dX5_hasTag_33 rfl hl (by decide) rfl (fun ls hl => ?_)
    refine lv_iinc (v := 1) (lv' := [(2, .int 1), (1, .int 1), (0, .ref (g.1 0))]) hx hb dX5_hasTag_34 hl (k := 1) rfl (by decide) (by decide) rfl (fun ls hl => ?_)
    refine lv_goto (tgt := 4) hx hb dX5_hasTag_37 (by decide) ?_
    refine lv_iload_n hx hb dX5_hasTag_4 rfl (lv_at hl 0 rfl) ?_
    refine lv_bipush (v := 6) hx hb dX5_hasTag_5 (by decide) ?_
    refine lv_icmp_ge (tgt := 40) hx hb dX5_hasTag_7 (by decide) (fun c => absurd c (by decide)) (fun _ => ?_)
    refine lv_iload_n hx hb dX5_hasTag_10 rfl (lv_at hl 1 rfl) ?_
    refine lv_if_eq (tgt := 32) hx hb dX5_hasTag_11 (by decide) (fun c => absurd c (by decide)) (fun _ => ?_)
    refine lv_aload_n hx hb dX5_hasTag_14 rfl (lv_at hl 2 rfl) ?_
    refine lv_iload_n hx hb dX5_hasTag_15 rfl (lv_at hl 0 rfl) ?_
    obtain ⟨q24, hs⟩ := hs
    obtain ⟨r25, er25, hf⟩ := bd_e hf
    replace hs := bd_s er25 hs
    refine ct_V (As := [.int 1]) (rest := []) (st1 := [.int r25.1]) (q0 := 0) (ci := 5) S hA hW (c_X5_data l D g r22.2 1 er25 q24) (wG_V km_X5_61 ki_yX5_data ks_yX5_data kn_X5 kc_yX5_data) ⟨rfl, rfl⟩ hd_X5_data (by rw [hR]; exact ⟨Nat.le_of_ble_eq_true rfl, Nat.le_of_ble_eq_true rfl⟩) rfl rfl rfl rfl hl.1 rfl (Nat.le_of_ble_eq_true rfl) ⟨Nat.zero_le _, Nat.zero_le _⟩ dX5_hasTag_16 rfl (fun H locs hW => ?_)
    refine lv_aload_n hx hb dX5_hasTag_19 rfl (lv_at hl 2 rfl) ?_
    refine gX5_tags S hW kf_X5_13 dX5_hasTag_20 ?_
    refine lv_iload_n hx hb dX5_hasTag_23 rfl (lv_at hl 0 rfl) ?_
    refine aM1 S hW (vi_of (M := 6) (by decide) (by decide) (by decide)) dX5_hasTag_24 ?_
    refine lv_icmp_ne (tgt := 32) hx hb dX5_hasTag_25 (by decide) (fun c26 => ?_) (fun c26 => ?_)
    · replace hf := if_f c26 hf
      replace hs := hs.2 c26
      refine lv_iconst (v := 0) hx hb dX5_hasTag_32 (by decide) ?_
      refine lv_istore_n (lv' := [(1, .int 0), (2, .int 1), (0, .ref (g.1 0))]) hx hb dX5_hasTag_33 rfl hl (by decide) rfl (fun ls hl => ?_)
      refine lv_iinc (v := 2) (lv' := [(2, .int 2), (1, .int 0), (0, .ref (g.1 0))]) hx hb dX5_hasTag_34 hl (k := 1) rfl (by decide) (by decide) rfl (fun ls hl => ?_)
      refine lv_goto (tgt := 4) hx hb dX5_hasTag_37 (by decide) ?_
      refine lv_iload_n hx hb dX5_hasTag_4 rfl (lv_at hl 0 rfl) ?_
      refine lv_bipush (v := 6) hx hb dX5_hasTag_5 (by decide) ?_
      refine lv_icmp_ge (tgt := 40) hx hb dX5_hasTag_7 (by decide) (fun c => absurd c (by decide)) (fun _ => ?_)
      refine lv_iload_n hx hb dX5_hasTag_10 rfl (lv_at hl 1 rfl) ?_
      refine lv_if_eq (tgt := 32) hx hb dX5_hasTag_11 (by decide) (fun _ => ?_) (fun c => absurd (by decide) c)
      refine lv_iconst (v := 0) hx hb dX5_hasTag_32 (by decide) ?_
      refine lv_istore_n (lv' := [(1, .int 0), (2, .int 2), (0, .ref (g.1 0))]) hx hb dX5_hasTag_33 rfl hl (by decide) rfl (fun ls hl => ?_)
      refine lv_iinc (v := 3) (lv' := [(2, .int 3), (1, .int 0), (0, .ref (g.1 0))]) hx hb dX5_hasTag_34 hl (k := 1) rfl (by decide) (by decide) rfl (fun ls hl => ?_)
      refine lv_goto (tgt := 4) hx hb dX5_hasTag_37 (by decide) ?_
      refine lv_iload_n hx hb dX5_hasTag_4 rfl (lv_at hl 0 rfl) ?_
      refine lv_bipush (v := 6) hx hb dX5_hasTag_5 (by decide) ?_
      refine lv_icmp_ge (tgt := 40) hx hb dX5_hasTag_7 (by decide) (fun c => absurd c (by decide)) (fun _ => ?_)
      refine lv_iload_n hx hb dX5_hasTag_10 rfl (lv_at hl 1 rfl) ?_
      refine lv_if_eq (tgt := 32) hx hb dX5_hasTag_11 (by decide) (fun _ => ?_) (fun c => absurd (by decide) c)
      refine lv_iconst (v := 0) hx hb dX5_hasTag_32 (by decide) ?_
      refine lv_istore_n (lv' := [(1, .int 0), (2, .int 3), (0, .ref (g.1 0))]) hx hb dX5_hasTag_33 rfl hl (by decide) rfl (fun ls hl => ?_)
      refine lv_iinc (v := 4) (lv' := [(2, .int 4), (1, .int 0), (0, .ref (g.1 0))]) hx hb dX5_hasTag_34 hl (k := 1) rfl (by decide) (by decide) rfl (fun ls hl => ?_)
      refine lv_goto (tgt := 4) hx hb dX5_hasTag_37 (by decide) ?_
      refine lv_iload_n hx hb dX5_hasTag_4 rfl (lv_at hl 0 rfl) ?_
      refine lv_bipush (v := 6) hx hb dX5_hasTag_5 (by decide) ?_
      refine lv_icmp_ge (tgt := 40) hx hb dX5_hasTag_7 (by decide) (fun c => absurd c (by decide)) (fun _ => ?_)
      refine lv_iload_n hx hb dX5_hasTag_10 rfl (lv_at hl 1 rfl) ?_
      refine lv_if_eq (tgt := 32) hx hb dX5_hasTag_11 (by decide) (fun _ => ?_) (fun c => absurd (by decide) c)
      refine lv_iconst (v := 0) hx hb dX5_hasTag_32 (by decide) ?_
      refine lv_istore_n (lv' := [(1, .int 0), (2, .int 4), (0, .ref (g.1 0))]) hx hb dX5_hasTag_33 rfl hl (by decide) rfl (fun ls hl => ?_)
      refine lv_iinc (v := 5) (lv' := [(2, .int 5), (1, .int 0), (0, .ref (g.1 0))]) hx hb dX5_hasTag_34 hl (k := 1) rfl (by decide) (by decide) rfl (fun ls hl => ?_)
      refine lv_goto (tgt := 4) hx hb dX5_hasTag_37 (by decide) ?_
      refine lv_iload_n hx hb dX5_hasTag_4 rfl (lv_at hl 0 rfl) ?_
      refine lv_bipush (v := 6) hx hb dX5_hasTag_5 (by decide) ?_
      refine lv_icmp_ge (tgt := 40) hx hb dX5_hasTag_7 (by decide) (fun c => absurd c (by decide)) (fun _ => ?_)
      refine lv_iload_n hx hb dX5_hasTag_10 rfl (lv_at hl 1 rfl) ?_
      refine lv_if_eq (tgt := 32) hx hb dX5_hasTag_11 (by decide) (fun _ => ?_) (fun c => absurd (by decide) c)
      refine lv_iconst (v := 0) hx hb dX5_hasTag_32 (by decide) ?_
      refine lv_istore_n (lv' := [(1, .int 0), (2, .int 5), (0, .ref (g.1 0))]) hx hb dX5_hasTag_33 rfl hl (by decide) rfl (fun ls hl => ?_)
      refine lv_iinc (v := 6) (lv' := [(2, .int 6), (1, .int 0), (0, .ref (g.1 0))]) hx hb dX5_hasTag_34 hl (k := 1) rfl (by decide) (by decide) rfl (fun ls hl => ?_)
      refine lv_goto (tgt := 4) hx hb dX5_hasTag_37 (by decide) ?_
      refine lv_iload_n hx hb dX5_hasTag_4 rfl (lv_at hl 0 rfl) ?_
      refine lv_bipush (v := 6) hx hb dX5_hasTag_5 (by decide) ?_
      refine lv_icmp_ge (tgt := 40) hx hb dX5_hasTag_7 (by decide) (fun _ => ?_) (fun c => absurd (by decide) c)
      refine lv_iload_n hx hb dX5_hasTag_40 rfl (lv_at hl 1 rfl) ?_
      subst hf
      exact ct_z (Or.inl rfl) S hr hlocks hW dX5_hasTag_41
    · replace hf := if_t c26 hf
      replace hs := hs.1 c26
      refine lv_iconst (v := 1) hx hb dX5_hasTag_28 (by decide) ?_
      refine lv_goto (tgt := 33) hx hb dX5_hasTag_29 (by decide) ?_
      refine lv_istore_n (lv' := [(1, .int 1), (2, .int 1), (0, .ref (g.1 0))]) hx hb dX5_hasTag_33 rfl hl (by decide) rfl (fun ls hl => ?_)
      refine lv_iinc (v := 2) (lv' := [(2, .int 2), (1, .int 1), (0, .ref (g.1 0))]) hx hb dX5_hasTag_34 hl (k := 1) rfl (by decide) (by decide) rfl (fun ls hl => ?_)
      refine lv_goto (tgt := 4) hx hb dX5_hasTag_37 (by decide) ?_
      refine lv_iload_n hx hb dX5_hasTag_4 rfl (lv_at hl 0 rfl) ?_
      refine lv_bipush (v := 6) hx hb dX5_hasTag_5 (by decide) ?_
      refine lv_icmp_ge (tgt := 40) hx hb dX5_hasTag_7 (by decide) (fun c => absurd c (by decide)) (fun _ => ?_)
      refine lv_iload_n hx hb dX5_hasTag_10 rfl (lv_at hl 1 rfl) ?_
      refine lv_if_eq (tgt := 32) hx hb dX5_hasTag_11 (by decide) (fun c => absurd c (by decide)) (fun _ => ?_)
      refine lv_aload_n hx hb dX5_hasTag_14 rfl (lv_at hl 2 rfl) ?_
      refine lv_iload_n hx hb dX5_hasTag_15 rfl (lv_at hl 0 rfl) ?_
      obtain ⟨q27, hs⟩ := hs
      obtain ⟨r28, er28, hf⟩ := bd_e hf
      replace hs := bd_s er28 hs
      refine ct_V (As := [.int 2]) (rest := []) (st1 := [.int r28.1]) (q0 := 0) (ci := 5) S hA hW (c_X5_data l D g r25.2 2 er28 q27) (wG_V km_X5_61 ki_yX5_data ks_yX5_data kn_X5 kc_yX5_data) ⟨rfl, rfl⟩ hd_X5_data (by rw [hR]; exact ⟨Nat.le_of_ble_eq_true rfl, Nat.le_of_ble_eq_true rfl⟩) rfl rfl rfl rfl hl.1 rfl (Nat.le_of_ble_eq_true rfl) ⟨Nat.zero_le _, Nat.zero_le _⟩ dX5_hasTag_16 rfl (fun H locs hW => ?_)
      refine lv_aload_n hx hb dX5_hasTag_19 rfl (lv_at hl 2 rfl) ?_
      refine gX5_tags S hW kf_X5_13 dX5_hasTag_20 ?_
      refine lv_iload_n hx hb dX5_hasTag_23 rfl (lv_at hl 0 rfl) ?_
      refine aM1 S hW (vi_of (M := 6) (by decide) (by decide) (by decide)) dX5_hasTag_24 ?_
      refine lv_icmp_ne (tgt := 32) hx hb dX5_hasTag_25 (by decide) (fun c29 => ?_) (fun c29 => ?_)
      · replace hf := if_f c29 hf
        replace hs := hs.2 c29
        refine lv_iconst (v := 0) hx hb dX5_hasTag_32 (by decide) ?_
        refine lv_istore_n (lv' := [(1, .int 0), (2, .int 2), (0, .ref (g.1 0))]) hx hb dX5_hasTag_33 rfl hl (by decide) rfl (fun ls hl => ?_)
        refine lv_iinc (v := 3) (lv' := [(2, .int 3), (1, .int 0), (0, .ref (g.1 0))]) hx hb dX5_hasTag_34 hl (k := 1) rfl (by decide) (by decide) rfl (fun ls hl => ?_)
        refine lv_goto (tgt := 4) hx hb dX5_hasTag_37 (by decide) ?_
        refine lv_iload_n hx hb dX5_hasTag_4 rfl (lv_at hl 0 rfl) ?_
        refine lv_bipush (v := 6) hx hb dX5_hasTag_5 (by decide) ?_
        refine lv_icmp_ge (tgt := 40) hx hb dX5_hasTag_7 (by decide) (fun c => absurd c (by decide)) (fun _ => ?_)
        refine lv_iload_n hx hb dX5_hasTag_10 rfl (lv_at hl 1 rfl) ?_
        refine lv_if_eq (tgt := 32) hx hb dX5_hasTag_11 (by decide) (fun _ => ?_) (fun c => absurd (by decide) c)
        refine lv_iconst (v := 0) hx hb dX5_hasTag_32 (by decide) ?_
        refine lv_istore_n (lv' := [(1, .int 0), (2, .int 3), (0, .ref (g.1 0))]) hx hb dX5_hasTag_33 rfl hl (by decide) rfl (fun ls hl => ?_)
        refine lv_iinc (v := 4) (lv' := [(2, .int 4), (1, .int 0), (0, .ref (g.1 0))]) hx hb dX5_hasTag_34 hl (k := 1) rfl (by decide) (by decide) rfl (fun ls hl => ?_)
        refine lv_goto (tgt := 4) hx hb dX5_hasTag_37 (by decide) ?_
        refine lv_iload_n hx hb dX5_hasTag_4 rfl (lv_at hl 0 rfl) ?_
        refine lv_bipush (v := 6) hx hb dX5_hasTag_5 (by decide) ?_
        refine lv_icmp_ge (tgt := 40) hx hb dX5_hasTag_7 (by decide) (fun c => absurd c (by decide)) (fun _ => ?_)
        refine lv_iload_n hx hb dX5_hasTag_10 rfl (lv_at hl 1 rfl) ?_
        refine lv_if_eq (tgt := 32) hx hb dX5_hasTag_11 (by decide) (fun _ => ?_) (fun c => absurd (by decide) c)
        refine lv_iconst (v := 0) hx hb dX5_hasTag_32 (by decide) ?_
        refine lv_istore_n (lv' := [(1, .int 0), (2, .int 4), (0, .ref (g.1 0))]) hx hb dX5_hasTag_33 rfl hl (by decide) rfl (fun ls hl => ?_)
        refine lv_iinc (v := 5) (lv' := [(2, .int 5), (1, .int 0), (0, .ref (g.1 0))]) hx hb dX5_hasTag_34 hl (k := 1) rfl (by decide) (by decide) rfl (fun ls hl => ?_)
        refine lv_goto (tgt := 4) hx hb dX5_hasTag_37 (by decide) ?_
        refine lv_iload_n hx hb dX5_hasTag_4 rfl (lv_at hl 0 rfl) ?_
        refine lv_bipush (v := 6) hx hb dX5_hasTag_5 (by decide) ?_
        refine lv_icmp_ge (tgt := 40) hx hb dX5_hasTag_7 (by decide) (fun c => absurd c (by decide)) (fun _ => ?_)
        refine lv_iload_n hx hb dX5_hasTag_10 rfl (lv_at hl 1 rfl) ?_
        refine lv_if_eq (tgt := 32) hx hb dX5_hasTag_11 (by decide) (fun _ => ?_) (fun c => absurd (by decide) c)
        refine lv_iconst (v := 0) hx hb dX5_hasTag_32 (by decide) ?_
        refine lv_istore_n (lv' := [(1, .int 0), (2, .int 5), (0, .ref (g.1 0))]) hx hb dX5_hasTag_33 rfl hl (by decide) rfl (fun ls hl => ?_)
        refine lv_iinc (v := 6) (lv' := [(2, .int 6), (1, .int 0), (0, .ref (g.1 0))]) hx hb dX5_hasTag_34 hl (k := 1) rfl (by decide) (by decide) rfl (fun ls hl => ?_)
        refine lv_goto (tgt := 4) hx hb dX5_hasTag_37 (by decide) ?_
        refine lv_iload_n hx hb dX5_hasTag_4 rfl (lv_at hl 0 rfl) ?_
        refine lv_bipush (v := 6) hx hb dX5_hasTag_5 (by decide) ?_
        refine lv_icmp_ge (tgt := 40) hx hb dX5_hasTag_7 (by decide) (fun _ => ?_) (fun c => absurd (by decide) c)
        refine lv_iload_n hx hb dX5_hasTag_40 rfl (lv_at hl 1 rfl) ?_
        subst hf
        exact ct_z (Or.inl rfl) S hr hlocks hW dX5_hasTag_41
      · replace hf := if_t c29 hf
        replace hs := hs.1 c29
        refine lv_iconst (v := 1) hx hb dX5_hasTag_28 (by decide) ?_
        refine lv_goto (tgt := 33) hx hb dX5_hasTag_29 (by decide) ?_
        refine lv_istore_n (lv' := [(1, .int 1), (2, .int 2), (0, .ref (g.1 0))]) hx hb dX5_hasTag_33 rfl hl (by decide) rfl (fun ls hl => ?_)
        refine lv_iinc (v := 3) (lv' := [(2, .int 3), (1, .int 1), (0, .ref (g.1 0))]) hx hb dX5_hasTag_34 hl (k := 1) rfl (by decide) (by decide) rfl (fun ls hl => ?_)
        refine lv_goto (tgt := 4) hx hb dX5_hasTag_37 (by decide) ?_
        refine lv_iload_n hx hb dX5_hasTag_4 rfl (lv_at hl 0 rfl) ?_
        refine lv_bipush (v := 6) hx hb dX5_hasTag_5 (by decide) ?_
        refine lv_icmp_ge (tgt := 40) hx hb dX5_hasTag_7 (by decide) (fun c => absurd c (by decide)) (fun _ => ?_)
        refine lv_iload_n hx hb dX5_hasTag_10 rfl (lv_at hl 1 rfl) ?_
        refine lv_if_eq (tgt := 32) hx hb dX5_hasTag_11 (by decide) (fun c => absurd c (by decide)) (fun _ => ?_)
        refine lv_aload_n hx hb dX5_hasTag_14 rfl (lv_at hl 2 rfl) ?_
        refine lv_iload_n hx hb dX5_hasTag_15 rfl (lv_at hl 0 rfl) ?_
        obtain ⟨q30, hs⟩ := hs
        obtain ⟨r31, er31, hf⟩ := bd_e hf
        replace hs := bd_s er31 hs
        refine ct_V (As := [.int 3]) (rest := []) (st1 := [.int r31.1]) (q0 := 0) (ci := 5) S hA hW (c_X5_data l D g r28.2 3 er31 q30) (wG_V km_X5_61 ki_yX5_data ks_yX5_data kn_X5 kc_yX5_data) ⟨rfl, rfl⟩ hd_X5_data (by rw [hR]; exact ⟨Nat.le_of_ble_eq_true rfl, Nat.le_of_ble_eq_true rfl⟩) rfl rfl rfl rfl hl.1 rfl (Nat.le_of_ble_eq_true rfl) ⟨Nat.zero_le _, Nat.zero_le _⟩ dX5_hasTag_16 rfl (fun H locs hW => ?_)
        refine lv_aload_n hx hb dX5_hasTag_19 rfl (lv_at hl 2 rfl) ?_
        refine gX5_tags S hW kf_X5_13 dX5_hasTag_20 ?_
        refine lv_iload_n hx hb dX5_hasTag_23 rfl (lv_at hl 0 rfl) ?_
        refine aM1 S hW (vi_of (M := 6) (by decide) (by decide) (by decide)) dX5_hasTag_24 ?_
        refine lv_icmp_ne (tgt := 32) hx hb dX5_hasTag_25 (by decide) (fun c32 => ?_) (fun c32 => ?_)
        · replace hf := if_f c32 hf
          replace hs := hs.2 c32
          refine lv_iconst (v := 0) hx hb dX5_hasTag_32 (by decide) ?_
          refine lv_istore_n (lv' := [(1, .int 0), (2, .int 3), (0, .ref (g.1 0))]) hx hb dX5_hasTag_33 rfl hl (by decide) rfl (fun ls hl => ?_)
          refine lv_iinc (v := 4) (lv' := [(2, .int 4), (1, .int 0), (0, .ref (g.1 0))]) hx hb dX5_hasTag_34 hl (k := 1) rfl (by decide) (by decide) rfl (fun ls hl => ?_)
          refine lv_goto (tgt := 4) hx hb dX5_hasTag_37 (by decide) ?_
          refine lv_iload_n hx hb dX5_hasTag_4 rfl (lv_at hl 0 rfl) ?_
          refine lv_bipush (v := 6) hx hb dX5_hasTag_5 (by decide) ?_
          refine lv_icmp_ge (tgt := 40) hx hb dX5_hasTag_7 (by decide) (fun c => absurd c (by decide)) (fun _ => ?_)
          refine lv_iload_n hx hb dX5_hasTag_10 rfl (lv_at hl 1 rfl) ?_
          refine lv_if_eq (tgt := 32) hx hb dX5_hasTag_11 (by decide) (fun _ => ?_) (fun c => absurd (by decide) c)
          refine lv_iconst (v := 0) hx hb dX5_hasTag_32 (by decide) ?_
          refine lv_istore_n (lv' := [(1, .int 0), (2, .int 4), (0, .ref (g.1 0))]) hx hb dX5_hasTag_33 rfl hl (by decide) rfl (fun ls hl => ?_)
          refine lv_iinc (v := 5) (lv' := [(2, .int 5), (1, .int 0), (0, .ref (g.1 0))]) hx hb dX5_hasTag_34 hl (k := 1) rfl (by decide) (by decide) rfl (fun ls hl => ?_)
          refine lv_goto (tgt := 4) hx hb dX5_hasTag_37 (by decide) ?_
          refine lv_iload_n hx hb dX5_hasTag_4 rfl (lv_at hl 0 rfl) ?_
          refine lv_bipush (v := 6) hx hb dX5_hasTag_5 (by decide) ?_
          refine lv_icmp_ge (tgt := 40) hx hb dX5_hasTag_7 (by decide) (fun c => absurd c (by decide)) (fun _ => ?_)
          refine lv_iload_n hx hb dX5_hasTag_10 rfl (lv_at hl 1 rfl) ?_
          refine lv_if_eq (tgt := 32) hx hb dX5_hasTag_11 (by decide) (fun _ => ?_) (fun c => absurd (by decide) c)
          refine lv_iconst (v := 0) hx hb dX5_hasTag_32 (by decide) ?_
          refine lv_istore_n (lv' := [(1, .int 0), (2, .int 5), (0, .ref (g.1 0))]) hx hb dX5_hasTag_33 rfl hl (by decide) rfl (fun ls hl => ?_)
          refine lv_iinc (v := 6) (lv' := [(2, .int 6), (1, .int 0), (0, .ref (g.1 0))]) hx hb dX5_hasTag_34 hl (k := 1) rfl (by decide) (by decide) rfl (fun ls hl => ?_)
          refine lv_goto (tgt := 4) hx hb dX5_hasTag_37 (by decide) ?_
          refine lv_iload_n hx hb dX5_hasTag_4 rfl (lv_at hl 0 rfl) ?_
          refine lv_bipush (v := 6) hx hb dX5_hasTag_5 (by decide) ?_
          refine lv_icmp_ge (tgt := 40) hx hb dX5_hasTag_7 (by decide) (fun _ => ?_) (fun c => absurd (by decide) c)
          refine lv_iload_n hx hb dX5_hasTag_40 rfl (lv_at hl 1 rfl) ?_
          subst hf
          exact ct_z (Or.inl rfl) S hr hlocks hW dX5_hasTag_41
        · replace hf := if_t c32 hf
          replace hs := hs.1 c32
          refine lv_iconst (v := 1) hx hb dX5_hasTag_28 (by decide) ?_
          refine lv_goto (tgt := 33) hx hb dX5_hasTag_29 (by decide) ?_
          refine lv_istore_n (lv' := [(1, .int 1), (2, .int 3), (0, .ref (g.1 0))]) hx hb dX5_hasTag_33 rfl hl (by decide) rfl (fun ls hl => ?_)
          refine lv_iinc (v := 4) (lv' := [(2, .int 4), (1, .int 1), (0, .ref (g.1 0))]) hx hb dX5_hasTag_34 hl (k := 1) rfl (by decide) (by decide) rfl (fun ls hl => ?_)
          refine lv_goto (tgt := 4) hx hb dX5_hasTag_37 (by decide) ?_
          refine lv_iload_n hx hb dX5_hasTag_4 rfl (lv_at hl 0 rfl) ?_
          refine lv_bipush (v := 6) hx hb dX5_hasTag_5 (by decide) ?_
          refine lv_icmp_ge (tgt := 40) hx hb dX5_hasTag_7 (by decide) (fun c => absurd c (by decide)) (fun _ => ?_)
          refine lv_iload_n hx hb dX5_hasTag_10 rfl (lv_at hl 1 rfl) ?_
          refine lv_if_eq (tgt := 32) hx hb dX5_hasTag_11 (by decide) (fun c => absurd c (by decide)) (fun _ => ?_)
          refine lv_aload_n hx hb dX5_hasTag_14 rfl (lv_at hl 2 rfl) ?_
          refine lv_iload_n hx hb dX5_hasTag_15 rfl (lv_at hl 0 rfl) ?_
          obtain ⟨q33, hs⟩ := hs
          obtain ⟨r34, er34, hf⟩ := bd_e hf
          replace hs := bd_s er34 hs
          refine ct_V (As := [.int 4]) (rest := []) (st1 := [.int r34.1]) (q0 := 0) (ci := 5) S hA hW (c_X5_data l D g r31.2 4 er34 q33) (wG_V km_X5_61 ki_yX5_data ks_yX5_data kn_X5 kc_yX5_data) ⟨rfl, rfl⟩ hd_X5_data (by rw [hR]; exact ⟨Nat.le_of_ble_eq_true rfl, Nat.le_of_ble_eq_true rfl⟩) rfl rfl rfl rfl hl.1 rfl (Nat.le_of_ble_eq_true rfl) ⟨Nat.zero_le _, Nat.zero_le _⟩ dX5_hasTag_16 rfl (fun H locs hW => ?_)
          refine lv_aload_n hx hb dX5_hasTag_19 rfl (lv_at hl 2 rfl) ?_
          refine gX5_tags S hW kf_X5_13 dX5_hasTag_20 ?_
          refine lv_iload_n hx hb dX5_hasTag_23 rfl (lv_at hl 0 rfl) ?_
          refine aM1 S hW (vi_of (M := 6) (by decide) (by decide) (by decide)) dX5_hasTag_24 ?_
          refine lv_icmp_ne (tgt := 32) hx hb dX5_hasTag_25 (by decide) (fun c35 => ?_) (fun c35 => ?_)
          · replace hf := if_f c35 hf
            replace hs := hs.2 c35
            refine lv_iconst (v := 0) hx hb dX5_hasTag_32 (by decide) ?_
            refine lv_istore_n (lv' := [(1, .int 0), (2, .int 4), (0, .ref (g.1 0))]) hx hb dX5_hasTag_33 rfl hl (by decide) rfl (fun ls hl => ?_)
            refine lv_iinc (v := 5) (lv' := [(2, .int 5), (1, .int 0), (0, .ref (g.1 0))]) hx hb dX5_hasTag_34 hl (k := 1) rfl (by decide) (by decide) rfl (fun ls hl => ?_)
            refine lv_goto (tgt := 4) hx hb dX5_hasTag_37 (by decide) ?_
            refine lv_iload_n hx hb dX5_hasTag_4 rfl (lv_at hl 0 rfl) ?_
            refine lv_bipush (v := 6) hx hb dX5_hasTag_5 (by decide) ?_
            refine lv_icmp_ge (tgt := 40) hx hb dX5_hasTag_7 (by decide) (fun c => absurd c (by decide)) (fun _ => ?_)
            refine lv_iload_n hx hb dX5_hasTag_10 rfl (lv_at hl 1 rfl) ?_
            refine lv_if_eq (tgt := 32) hx hb dX5_hasTag_11 (by decide) (fun _ => ?_) (fun c => absurd (by decide) c)
            refine lv_iconst (v := 0) hx hb dX5_hasTag_32 (by decide) ?_
            refine lv_istore_n (lv' := [(1, .int 0), (2, .int 5), (0, .ref (g.1 0))]) hx hb dX5_hasTag_33 rfl hl (by decide) rfl (fun ls hl => ?_)
            refine lv_iinc (v := 6) (lv' := [(2, .int 6), (1, .int 0), (0, .ref (g.1 0))]) hx hb dX5_hasTag_34 hl (k := 1) rfl (by decide) (by decide) rfl (fun ls hl => ?_)
            refine lv_goto (tgt := 4) hx hb dX5_hasTag_37 (by decide) ?_
            refine lv_iload_n hx hb dX5_hasTag_4 rfl (lv_at hl 0 rfl) ?_
            refine lv_bipush (v := 6) hx hb dX5_hasTag_5 (by decide) ?_
            refine lv_icmp_ge (tgt := 40) hx hb dX5_hasTag_7 (by decide) (fun _ => ?_) (fun c => absurd (by decide) c)
            refine lv_iload_n hx hb dX5_hasTag_40 rfl (lv_at hl 1 rfl) ?_
            subst hf
            exact ct_z (Or.inl rfl) S hr hlocks hW dX5_hasTag_41
          · replace hf := if_t c35 hf
            replace hs := hs.1 c35
            refine lv_iconst (v := 1) hx hb dX5_hasTag_28 (by decide) ?_
            refine lv_goto (tgt := 33) hx hb dX5_hasTag_29 (by decide) ?_
            refine lv_istore_n (lv' := [(1, .int 1), (2, .int 4), (0, .ref (g.1 0))]) hx hb dX5_hasTag_33 rfl hl (by decide) rfl (fun ls hl => ?_)
            refine lv_iinc (v := 5) (lv' := [(2, .int 5), (1, .int 1), (0, .ref (g.1 0))]) hx hb dX5_hasTag_34 hl (k := 1) rfl (by decide) (by decide) rfl (fun ls hl => ?_)
            refine lv_goto (tgt := 4) hx hb dX5_hasTag_37 (by decide) ?_
            refine lv_iload_n hx hb dX5_hasTag_4 rfl (lv_at hl 0 rfl) ?_
            refine lv_bipush (v := 6) hx hb dX5_hasTag_5 (by decide) ?_
            refine lv_icmp_ge (tgt := 40) hx hb dX5_hasTag_7 (by decide) (fun c => absurd c (by decide)) (fun _ => ?_)
            refine lv_iload_n hx hb dX5_hasTag_10 rfl (lv_at hl 1 rfl) ?_
            refine lv_if_eq (tgt := 32) hx hb dX5_hasTag_11 (by decide) (fun c => absurd c (by decide)) (fun _ => ?_)
            refine lv_aload_n hx hb dX5_hasTag_14 rfl (lv_at hl 2 rfl) ?_
            refine lv_iload_n hx hb dX5_hasTag_15 rfl (lv_at hl 0 rfl) ?_
            obtain ⟨q36, hs⟩ := hs
            obtain ⟨r37, er37, hf⟩ := bd_e hf
            refine ct_V (As := [.int 5]) (rest := []) (st1 := [.int r37.1]) (q0 := 0) (ci := 5) S hA hW (c_X5_data l D g r34.2 5 er37 q36) (wG_V km_X5_61 ki_yX5_data ks_yX5_data kn_X5 kc_yX5_data) ⟨rfl, rfl⟩ hd_X5_data (by rw [hR]; exact ⟨Nat.le_of_ble_eq_true rfl, Nat.le_of_ble_eq_true rfl⟩) rfl rfl rfl rfl hl.1 rfl (Nat.le_of_ble_eq_true rfl) ⟨Nat.zero_le _, Nat.zero_le _⟩ dX5_hasTag_16 rfl (fun H locs hW => ?_)
            refine lv_aload_n hx hb dX5_hasTag_19 rfl (lv_at hl 2 rfl) ?_
            refine gX5_tags S hW kf_X5_13 dX5_hasTag_20 ?_
            refine lv_iload_n hx hb dX5_hasTag_23 rfl (lv_at hl 0 rfl) ?_
            refine aM1 S hW (vi_of (M := 6) (by decide) (by decide) (by decide)) dX5_hasTag_24 ?_
            refine lv_icmp_ne (tgt := 32) hx hb dX5_hasTag_25 (by decide) (fun c38 => ?_) (fun c38 => ?_)
            · replace hf := if_f c38 hf
              refine lv_iconst (v := 0) hx hb dX5_hasTag_32 (by decide) ?_
              refine lv_istore_n (lv' := [(1, .int 0), (2, .int 5), (0, .ref (g.1 0))]) hx hb dX5_hasTag_33 rfl hl (by decide) rfl (fun ls hl => ?_)
              refine lv_iinc (v := 6) (lv' := [(2, .int 6), (1, .int 0), (0, .ref (g.1 0))]) hx hb dX5_hasTag_34 hl (k := 1) rfl (by decide) (by decide) rfl (fun ls hl => ?_)
              refine lv_goto (tgt := 4) hx hb dX5_hasTag_37 (by decide) ?_
              refine lv_iload_n hx hb dX5_hasTag_4 rfl (lv_at hl 0 rfl) ?_
              refine lv_bipush (v := 6) hx hb dX5_hasTag_5 (by decide) ?_
              refine lv_icmp_ge (tgt := 40) hx hb dX5_hasTag_7 (by decide) (fun _ => ?_) (fun c => absurd (by decide) c)
              refine lv_iload_n hx hb dX5_hasTag_40 rfl (lv_at hl 1 rfl) ?_
              subst hf
              exact ct_z (Or.inl rfl) S hr hlocks hW dX5_hasTag_41
            · replace hf := if_t c38 hf
              refine lv_iconst (v := 1) hx hb dX5_hasTag_28 (by decide) ?_
              refine lv_goto (tgt := 33) hx hb dX5_hasTag_29 (by decide) ?_
              refine lv_istore_n (lv' := [(1, .int 1), (2, .int 5), (0, .ref (g.1 0))]) hx hb dX5_hasTag_33 rfl hl (by decide) rfl (fun ls hl => ?_)
              refine lv_iinc (v := 6) (lv' := [(2, .int 6), (1, .int 1), (0, .ref (g.1 0))]) hx hb dX5_hasTag_34 hl (k := 1) rfl (by decide) (by decide) rfl (fun ls hl => ?_)
              refine lv_goto (tgt := 4) hx hb dX5_hasTag_37 (by decide) ?_
              refine lv_iload_n hx hb dX5_hasTag_4 rfl (lv_at hl 0 rfl) ?_
              refine lv_bipush (v := 6) hx hb dX5_hasTag_5 (by decide) ?_
              refine lv_icmp_ge (tgt := 40) hx hb dX5_hasTag_7 (by decide) (fun _ => ?_) (fun c => absurd (by decide) c)
              refine lv_iload_n hx hb dX5_hasTag_40 rfl (lv_at hl 1 rfl) ?_
              subst hf
              exact ct_z (Or.inr rfl) S hr hlocks hW dX5_hasTag_41
def f_X5_codeOf (z : Sg)  : Int32 × Sg := bd (f_X5_command z) (fun r22 => bd (r22.1) (fun x23 => bd (f_X5_countWanted r22.2 x23) (fun r24 => bd (r24.1) (fun x25 => (if x25 = (-1) then (64, r24.2) else bd (f_X5_count r24.2) (fun r28 => (if x25 = r28.1 then (if x23 = 6 then bd (f_X5_data r28.2 0) (fun r58 => (if r58.1 ≤ 15 then (0, r58.2) else (2, r58.2))) else (if x23 = 11 then bd (f_X5_hasTag r28.2) (fun r55 => (if r55.1 = 0 then (65, r55.2) else (0, r55.2))) else (if x23 = 35 then bd (f_X5_word r28.2 1) (fun r45 => bd (f_X5_word r45.2 5) (fun r47 => (if r45.1 = r47.1 then (9, r47.2) else bd (f_X5_word r47.2 1) (fun r50 => bd (f_X5_word r50.2 5) (fun r52 => (if r52.1 ≤ r50.1 then (0, r52.2) else (11, r52.2))))))) else (if x23 = 108 then bd (f_X5_data r28.2 0) (fun r39 => (if r39.1 = 0 then (2, r39.2) else bd (f_X5_data r39.2 0) (fun r42 => (if r42.1 ≤ 3 then (0, r42.2) else (2, r42.2))))) else (if x23 = 109 then bd (f_X5_data r28.2 0) (fun r36 => (if r36.1 ≤ 1 then (0, r36.2) else (2, r36.2))) else (0, r28.2)))))) else (5, r28.2))))))))
def s_X5_codeOf (z : Sg)  : Prop := (s_X5_command z) ∧ bd (f_X5_command z) (fun r22 => bd (r22.1) (fun x23 => bd (f_X5_countWanted r22.2 x23) (fun r24 => bd (r24.1) (fun x25 => (x25 = (-1) → True) ∧ (¬ x25 = (-1) → (s_X5_count r24.2) ∧ bd (f_X5_count r24.2) (fun r28 => (x25 = r28.1 → (x23 = 6 → (s_X5_data r28.2 0) ∧ True) ∧ (¬ x23 = 6 → (x23 = 11 → (s_X5_hasTag r28.2) ∧ True) ∧ (¬ x23 = 11 → (x23 = 35 → (s_X5_word r28.2 1) ∧ bd (f_X5_word r28.2 1) (fun r45 => (s_X5_word r45.2 5) ∧ bd (f_X5_word r45.2 5) (fun r47 => (r45.1 = r47.1 → True) ∧ (¬ r45.1 = r47.1 → (s_X5_word r47.2 1) ∧ bd (f_X5_word r47.2 1) (fun r50 => (s_X5_word r50.2 5) ∧ True))))) ∧ (¬ x23 = 35 → (x23 = 108 → (s_X5_data r28.2 0) ∧ bd (f_X5_data r28.2 0) (fun r39 => (r39.1 = 0 → True) ∧ (¬ r39.1 = 0 → (s_X5_data r39.2 0) ∧ True))) ∧ (¬ x23 = 108 → (x23 = 109 → (s_X5_data r28.2 0) ∧ True) ∧ (¬ x23 = 109 → True)))))) ∧ (¬ x25 = r28.1 → True)))))))
theorem hd_X5_codeOf : yX5_codeOf.cls = RX5 ∧ yX5_codeOf.cls ≠ "java/lang/invoke/MethodHandle" ∧ yX5_codeOf.cls ≠ "java/lang/invoke/VarHandle" ∧ (parseMethodDescriptor yX5_codeOf.desc).map (fun d => d.parameters.length) = some 0 := by decide +kernel
set_option maxHeartbeats 4000000 in
set_option maxRecDepth 100000 in
theorem c_X5_codeOf (l : Launch) (D : va_G) (g : Gv) (z : Sg)  {r : Int32 × Sg} (er : r = f_X5_codeOf z ) (hs : s_X5_codeOf z ) : CT D (wM g) (tM g) l yX5_codeOf (wG yX5_codeOf cX5_codeOf 3 (some .int)) { frames := 3, cells := 0, slots := 0, locals := 63 } [.ref (g.1 0)] z (some (.int r.1)) r.2 := by
  refine CT.ofW (by decide) (Nat.le_of_ble_eq_true rfl) ?_
  intro p e R s m args below meth c A hR S hr hlocks hA hW ls hl
  have S : CallFix p m c cX5_codeOf 3 s args wsL_law RX5 := S
  have hl : lv_has ls 3 [(0, .ref (g.1 0))] := hl
  have hx := S.1
  have hb := S.2.1
  have hf := er.symm
  clear er
  unfold f_X5_codeOf at hf
  unfold s_X5_codeOf at hs
  refine lv_aload_n hx hb dX5_codeOf_0 rfl (lv_at hl 0 rfl) ?_
  obtain ⟨q21, hs⟩ := hs
  obtain ⟨r22, er22, hf⟩ := bd_e hf
  replace hs := bd_s er22 hs
  refine ct_V (As := []) (rest := []) (st1 := [.int r22.1]) (q0 := 0) (ci := 5) S hA hW (c_X5_command l D g z er22 q21) (wG_V km_X5_77 ki_yX5_command ks_yX5_command kn_X5 kc_yX5_command) ⟨rfl, rfl⟩ hd_X5_command (by rw [hR]; exact ⟨Nat.le_of_ble_eq_true rfl, Nat.le_of_ble_eq_true rfl⟩) rfl rfl rfl rfl hl.1 rfl (Nat.le_of_ble_eq_true rfl) ⟨Nat.zero_le _, Nat.zero_le _⟩ dX5_codeOf_1 rfl (fun H locs hW => ?_)
  obtain ⟨x23, ex23, hf⟩ := bd_e hf
  replace hs := bd_s ex23 hs
  refine lv_nmi ex23 ?_
  refine lv_istore_n (lv' := [(1, .int x23), (0, .ref (g.1 0))]) hx hb dX5_codeOf_4 rfl hl (by decide) rfl (fun ls hl => ?_)
  refine lv_iload_n hx hb dX5_codeOf_5 rfl (lv_at hl 0 rfl) ?_
  obtain ⟨r24, er24, hf⟩ := bd_e hf
  replace hs := bd_s er24 hs
  refine ct_S (As := [.int x23]) (rest := []) (st1 := [.int r24.1]) S hA hW (c_X5_countWanted l D g r22.2 x23 er24) (wG_S km_X5_87 kz_yX5_countWanted kn_X5 kc_yX5_countWanted) ⟨rfl, rfl⟩ hd_X5_countWanted (by rw [hR]; exact ⟨Nat.le_of_ble_eq_true rfl, Nat.le_of_ble_eq_true rfl⟩) rfl rfl hl.1 rfl (Nat.le_of_ble_eq_true rfl) ⟨Nat.zero_le _, Nat.zero_le _⟩ dX5_codeOf_6 rfl (fun H locs hW => ?_)
  obtain ⟨x25, ex25, hf⟩ := bd_e hf
  replace hs := bd_s ex25 hs
  refine lv_nmi ex25 ?_
  refine lv_istore_n (lv' := [(2, .int x25), (1, .int x23), (0, .ref (g.1 0))]) hx hb dX5_codeOf_9 rfl hl (by decide) rfl (fun ls hl => ?_)
  refine lv_iload_n hx hb dX5_codeOf_10 rfl (lv_at hl 0 rfl) ?_
  refine lv_iconst (v := (-1)) hx hb dX5_codeOf_11 (by decide) ?_
  refine lv_icmp_ne (tgt := 18) hx hb dX5_codeOf_12 (by decide) (fun c26 => ?_) (fun c26 => ?_)
  · replace hf := if_f c26 hf
    replace hs := hs.2 c26
    refine lv_iload_n hx hb dX5_codeOf_18 rfl (lv_at hl 0 rfl) ?_
    refine lv_aload_n hx hb dX5_codeOf_19 rfl (lv_at hl 2 rfl) ?_
    obtain ⟨q27, hs⟩ := hs
    obtain ⟨r28, er28, hf⟩ := bd_e hf
    replace hs := bd_s er28 hs
    refine ct_V (As := []) (rest := [.int x25]) (st1 := [.int r28.1, .int x25]) (q0 := 0) (ci := 5) S hA hW (c_X5_count l D g r24.2 er28 q27) (wG_V km_X5_71 ki_yX5_count ks_yX5_count kn_X5 kc_yX5_count) ⟨rfl, rfl⟩ hd_X5_count (by rw [hR]; exact ⟨Nat.le_of_ble_eq_true rfl, Nat.le_of_ble_eq_true rfl⟩) rfl rfl rfl rfl hl.1 rfl (Nat.le_of_ble_eq_true rfl) ⟨Nat.zero_le _, Nat.zero_le _⟩ dX5_codeOf_20 rfl (fun H locs hW => ?_)
    refine lv_icmp_eq (tgt := 28) hx hb dX5_codeOf_23 (by decide) (fun c29 => ?_) (fun c29 => ?_)
    · replace hf := if_t c29 hf
      replace hs := hs.1 c29
      refine lv_iload_n hx hb dX5_codeOf_28 rfl (lv_at hl 1 rfl) ?_
      refine lv_bipush (v := 6) hx hb dX5_codeOf_29 (by decide) ?_
      refine lv_icmp_ne (tgt := 50) hx hb dX5_codeOf_31 (by decide) (fun c30 => ?_) (fun c30 => ?_)
      · replace hf := if_f c30 hf
        replace hs := hs.2 c30
        refine lv_iload_n hx hb dX5_codeOf_50 rfl (lv_at hl 1 rfl) ?_
        refine lv_bipush (v := 11) hx hb dX5_codeOf_51 (by decide) ?_
        refine lv_icmp_ne (tgt := 70) hx hb dX5_codeOf_53 (by decide) (fun c31 => ?_) (fun c31 => ?_)
        · replace hf := if_f c31 hf
          replace hs := hs.2 c31
          refine lv_iload_n hx hb dX5_codeOf_70 rfl (lv_at hl 1 rfl) ?_
          refine lv_bipush (v := 35) hx hb dX5_codeOf_71 (by decide) ?_
          refine lv_icmp_ne (tgt := 114) hx hb dX5_codeOf_73 (by decide) (fun c32 => ?_) (fun c32 => ?_)
          · replace hf := if_f c32 hf
            replace hs := hs.2 c32
            refine lv_iload_n hx hb dX5_codeOf_114 rfl (lv_at hl 1 rfl) ?_
            refine lv_bipush (v := 108) hx hb dX5_codeOf_115 (by decide) ?_
            refine lv_icmp_ne (tgt := 143) hx hb dX5_codeOf_117 (by decide) (fun c33 => ?_) (fun c33 => ?_)
            · replace hf := if_f c33 hf
              replace hs := hs.2 c33
              refine lv_iload_n hx hb dX5_codeOf_143 rfl (lv_at hl 1 rfl) ?_
              refine lv_bipush (v := 109) hx hb dX5_codeOf_144 (by decide) ?_
              refine lv_icmp_ne (tgt := 162) hx hb dX5_codeOf_146 (by decide) (fun c34 => ?_) (fun c34 => ?_)
              · replace hf := if_f c34 hf
                replace hs := hs.2 c34
                refine lv_iconst (v := 0) hx hb dX5_codeOf_162 (by decide) ?_
                subst hf
                exact ct_i S hr hlocks hW dX5_codeOf_163
              · replace hf := if_t c34 hf
                replace hs := hs.1 c34
                refine lv_aload_n hx hb dX5_codeOf_149 rfl (lv_at hl 2 rfl) ?_
                refine lv_iconst (v := 0) hx hb dX5_codeOf_150 (by decide) ?_
                obtain ⟨q35, hs⟩ := hs
                obtain ⟨r36, er36, hf⟩ := bd_e hf
                refine ct_V (As := [.int 0]) (rest := []) (st1 := [.int r36.1]) (q0 := 0) (ci := 5) S hA hW (c_X5_data l D g r28.2 0 er36 q35) (wG_V km_X5_61 ki_yX5_data ks_yX5_data kn_X5 kc_yX5_data) ⟨rfl, rfl⟩ hd_X5_data (by rw [hR]; exact ⟨Nat.le_of_ble_eq_true rfl, Nat.le_of_ble_eq_true rfl⟩) rfl rfl rfl rfl hl.1 rfl (Nat.le_of_ble_eq_true rfl) ⟨Nat.zero_le _, Nat.zero_le _⟩ dX5_codeOf_151 rfl (fun H locs hW => ?_)
                refine lv_iconst (v := 1) hx hb dX5_codeOf_154 (by decide) ?_
                refine lv_icmp_le (tgt := 162) hx hb dX5_codeOf_155 (by decide) (fun c37 => ?_) (fun c37 => ?_)
                · replace hf := if_t c37 hf
                  refine lv_iconst (v := 0) hx hb dX5_codeOf_162 (by decide) ?_
                  subst hf
                  exact ct_i S hr hlocks hW dX5_codeOf_163
                · replace hf := if_f c37 hf
                  refine lv_iconst (v := 2) hx hb dX5_codeOf_158 (by decide) ?_
                  refine lv_goto (tgt := 163) hx hb dX5_codeOf_159 (by decide) ?_
                  subst hf
                  exact ct_i S hr hlocks hW dX5_codeOf_163
            · replace hf := if_t c33 hf
              replace hs := hs.1 c33
              refine lv_aload_n hx hb dX5_codeOf_120 rfl (lv_at hl 2 rfl) ?_
              refine lv_iconst (v := 0) hx hb dX5_codeOf_121 (by decide) ?_
              obtain ⟨q38, hs⟩ := hs
              obtain ⟨r39, er39, hf⟩ := bd_e hf
              replace hs := bd_s er39 hs
              refine ct_V (As := [.int 0]) (rest := []) (st1 := [.int r39.1]) (q0 := 0) (ci := 5) S hA hW (c_X5_data l D g r28.2 0 er39 q38) (wG_V km_X5_61 ki_yX5_data ks_yX5_data kn_X5 kc_yX5_data) ⟨rfl, rfl⟩ hd_X5_data (by rw [hR]; exact ⟨Nat.le_of_ble_eq_true rfl, Nat.le_of_ble_eq_true rfl⟩) rfl rfl rfl rfl hl.1 rfl (Nat.le_of_ble_eq_true rfl) ⟨Nat.zero_le _, Nat.zero_le _⟩ dX5_codeOf_122 rfl (fun H locs hW => ?_)
              refine lv_if_eq (tgt := 137) hx hb dX5_codeOf_125 (by decide) (fun c40 => ?_) (fun c40 => ?_)
              · replace hf := if_t c40 hf
                replace hs := hs.1 c40
                refine lv_iconst (v := 2) hx hb dX5_codeOf_137 (by decide) ?_
                refine lv_goto (tgt := 142) hx hb dX5_codeOf_138 (by decide) ?_
                subst hf
                exact ct_i S hr hlocks hW dX5_codeOf_142
              · replace hf := if_f c40 hf
                replace hs := hs.2 c40
                refine lv_aload_n hx hb dX5_codeOf_128 rfl (lv_at hl 2 rfl) ?_
                refine lv_iconst (v := 0) hx hb dX5_codeOf_129 (by decide) ?_
                obtain ⟨q41, hs⟩ := hs
                obtain ⟨r42, er42, hf⟩ := bd_e hf
                refine ct_V (As := [.int 0]) (rest := []) (st1 := [.int r42.1]) (q0 := 0) (ci := 5) S hA hW (c_X5_data l D g r39.2 0 er42 q41) (wG_V km_X5_61 ki_yX5_data ks_yX5_data kn_X5 kc_yX5_data) ⟨rfl, rfl⟩ hd_X5_data (by rw [hR]; exact ⟨Nat.le_of_ble_eq_true rfl, Nat.le_of_ble_eq_true rfl⟩) rfl rfl rfl rfl hl.1 rfl (Nat.le_of_ble_eq_true rfl) ⟨Nat.zero_le _, Nat.zero_le _⟩ dX5_codeOf_130 rfl (fun H locs hW => ?_)
                refine lv_iconst (v := 3) hx hb dX5_codeOf_133 (by decide) ?_
                refine lv_icmp_le (tgt := 141) hx hb dX5_codeOf_134 (by decide) (fun c43 => ?_) (fun c43 => ?_)
                · replace hf := if_t c43 hf
                  refine lv_iconst (v := 0) hx hb dX5_codeOf_141 (by decide) ?_
                  subst hf
                  exact ct_i S hr hlocks hW dX5_codeOf_142
                · replace hf := if_f c43 hf
                  refine lv_iconst (v := 2) hx hb dX5_codeOf_137 (by decide) ?_
                  refine lv_goto (tgt := 142) hx hb dX5_codeOf_138 (by decide) ?_
                  subst hf
                  exact ct_i S hr hlocks hW dX5_codeOf_142
          · replace hf := if_t c32 hf
            replace hs := hs.1 c32
            refine lv_aload_n hx hb dX5_codeOf_76 rfl (lv_at hl 2 rfl) ?_
            refine lv_iconst (v := 1) hx hb dX5_codeOf_77 (by decide) ?_
            obtain ⟨q44, hs⟩ := hs
            obtain ⟨r45, er45, hf⟩ := bd_e hf
            replace hs := bd_s er45 hs
            refine ct_V (As := [.int 1]) (rest := []) (st1 := [.int r45.1]) (q0 := 0) (ci := 5) S hA hW (c_X5_word l D g r28.2 1 er45 q44) (wG_V km_X5_93 ki_yX5_word ks_yX5_word kn_X5 kc_yX5_word) ⟨rfl, rfl⟩ hd_X5_word (by rw [hR]; exact ⟨Nat.le_of_ble_eq_true rfl, Nat.le_of_ble_eq_true rfl⟩) rfl rfl rfl rfl hl.1 rfl (Nat.le_of_ble_eq_true rfl) ⟨Nat.zero_le _, Nat.zero_le _⟩ dX5_codeOf_78 rfl (fun H locs hW => ?_)
            refine lv_aload_n hx hb dX5_codeOf_81 rfl (lv_at hl 2 rfl) ?_
            refine lv_iconst (v := 5) hx hb dX5_codeOf_82 (by decide) ?_
            obtain ⟨q46, hs⟩ := hs
            obtain ⟨r47, er47, hf⟩ := bd_e hf
            replace hs := bd_s er47 hs
            refine ct_V (As := [.int 5]) (rest := [.int r45.1]) (st1 := [.int r47.1, .int r45.1]) (q0 := 0) (ci := 5) S hA hW (c_X5_word l D g r45.2 5 er47 q46) (wG_V km_X5_93 ki_yX5_word ks_yX5_word kn_X5 kc_yX5_word) ⟨rfl, rfl⟩ hd_X5_word (by rw [hR]; exact ⟨Nat.le_of_ble_eq_true rfl, Nat.le_of_ble_eq_true rfl⟩) rfl rfl rfl rfl hl.1 rfl (Nat.le_of_ble_eq_true rfl) ⟨Nat.zero_le _, Nat.zero_le _⟩ dX5_codeOf_83 rfl (fun H locs hW => ?_)
            refine lv_icmp_ne (tgt := 94) hx hb dX5_codeOf_86 (by decide) (fun c48 => ?_) (fun c48 => ?_)
            · replace hf := if_f c48 hf
              replace hs := hs.2 c48
              refine lv_aload_n hx hb dX5_codeOf_94 rfl (lv_at hl 2 rfl) ?_
              refine lv_iconst (v := 1) hx hb dX5_codeOf_95 (by decide) ?_
              obtain ⟨q49, hs⟩ := hs
              obtain ⟨r50, er50, hf⟩ := bd_e hf
              replace hs := bd_s er50 hs
              refine ct_V (As := [.int 1]) (rest := []) (st1 := [.int r50.1]) (q0 := 0) (ci := 5) S hA hW (c_X5_word l D g r47.2 1 er50 q49) (wG_V km_X5_93 ki_yX5_word ks_yX5_word kn_X5 kc_yX5_word) ⟨rfl, rfl⟩ hd_X5_word (by rw [hR]; exact ⟨Nat.le_of_ble_eq_true rfl, Nat.le_of_ble_eq_true rfl⟩) rfl rfl rfl rfl hl.1 rfl (Nat.le_of_ble_eq_true rfl) ⟨Nat.zero_le _, Nat.zero_le _⟩ dX5_codeOf_96 rfl (fun H locs hW => ?_)
              refine lv_aload_n hx hb dX5_codeOf_99 rfl (lv_at hl 2 rfl) ?_
              refine lv_iconst (v := 5) hx hb dX5_codeOf_100 (by decide) ?_
              obtain ⟨q51, hs⟩ := hs
              obtain ⟨r52, er52, hf⟩ := bd_e hf
              refine ct_V (As := [.int 5]) (rest := [.int r50.1]) (st1 := [.int r52.1, .int r50.1]) (q0 := 0) (ci := 5) S hA hW (c_X5_word l D g r50.2 5 er52 q51) (wG_V km_X5_93 ki_yX5_word ks_yX5_word kn_X5 kc_yX5_word) ⟨rfl, rfl⟩ hd_X5_word (by rw [hR]; exact ⟨Nat.le_of_ble_eq_true rfl, Nat.le_of_ble_eq_true rfl⟩) rfl rfl rfl rfl hl.1 rfl (Nat.le_of_ble_eq_true rfl) ⟨Nat.zero_le _, Nat.zero_le _⟩ dX5_codeOf_101 rfl (fun H locs hW => ?_)
              refine lv_icmp_ge (tgt := 112) hx hb dX5_codeOf_104 (by decide) (fun c53 => ?_) (fun c53 => ?_)
              · replace hf := if_t c53 hf
                refine lv_iconst (v := 0) hx hb dX5_codeOf_112 (by decide) ?_
                subst hf
                exact ct_i S hr hlocks hW dX5_codeOf_113
              · replace hf := if_f c53 hf
                refine lv_bipush (v := 11) hx hb dX5_codeOf_107 (by decide) ?_
                refine lv_goto (tgt := 113) hx hb dX5_codeOf_109 (by decide) ?_
                subst hf
                exact ct_i S hr hlocks hW dX5_codeOf_113
            · replace hf := if_t c48 hf
              replace hs := hs.1 c48
              refine lv_bipush (v := 9) hx hb dX5_codeOf_89 (by decide) ?_
              refine lv_goto (tgt := 113) hx hb dX5_codeOf_91 (by decide) ?_
              subst hf
              exact ct_i S hr hlocks hW dX5_codeOf_113
        · replace hf := if_t c31 hf
          replace hs := hs.1 c31
          refine lv_aload_n hx hb dX5_codeOf_56 rfl (lv_at hl 2 rfl) ?_
          obtain ⟨q54, hs⟩ := hs
          obtain ⟨r55, er55, hf⟩ := bd_e hf
          refine ct_V (As := []) (rest := []) (st1 := [.int r55.1]) (q0 := 0) (ci := 5) S hA hW (c_X5_hasTag l D g r28.2 er55 q54) (wG_V km_X5_90 ki_yX5_hasTag ks_yX5_hasTag kn_X5 kc_yX5_hasTag) ⟨rfl, rfl⟩ hd_X5_hasTag (by rw [hR]; exact ⟨Nat.le_of_ble_eq_true rfl, Nat.le_of_ble_eq_true rfl⟩) rfl rfl rfl rfl hl.1 rfl (Nat.le_of_ble_eq_true rfl) ⟨Nat.zero_le _, Nat.zero_le _⟩ dX5_codeOf_57 rfl (fun H locs hW => ?_)
          refine lv_if_eq (tgt := 67) hx hb dX5_codeOf_60 (by decide) (fun c56 => ?_) (fun c56 => ?_)
          · replace hf := if_t c56 hf
            refine lv_bipush (v := 65) hx hb dX5_codeOf_67 (by decide) ?_
            subst hf
            exact ct_i S hr hlocks hW dX5_codeOf_69
          · replace hf := if_f c56 hf
            refine lv_iconst (v := 0) hx hb dX5_codeOf_63 (by decide) ?_
            refine lv_goto (tgt := 69) hx hb dX5_codeOf_64 (by decide) ?_
            subst hf
            exact ct_i S hr hlocks hW dX5_codeOf_69
      · replace hf := if_t c30 hf
        replace hs := hs.1 c30
        refine lv_aload_n hx hb dX5_codeOf_34 rfl (lv_at hl 2 rfl) ?_
        refine lv_iconst (v := 0) hx hb dX5_codeOf_35 (by decide) ?_
        obtain ⟨q57, hs⟩ := hs
        obtain ⟨r58, er58, hf⟩ := bd_e hf
        refine ct_V (As := [.int 0]) (rest := []) (st1 := [.int r58.1]) (q0 := 0) (ci := 5) S hA hW (c_X5_data l D g r28.2 0 er58 q57) (wG_V km_X5_61 ki_yX5_data ks_yX5_data kn_X5 kc_yX5_data) ⟨rfl, rfl⟩ hd_X5_data (by rw [hR]; exact ⟨Nat.le_of_ble_eq_true rfl, Nat.le_of_ble_eq_true rfl⟩) rfl rfl rfl rfl hl.1 rfl (Nat.le_of_ble_eq_true rfl) ⟨Nat.zero_le _, Nat.zero_le _⟩ dX5_codeOf_36 rfl (fun H locs hW => ?_)
        refine lv_bipush (v := 15) hx hb dX5_codeOf_39 (by decide) ?_
        refine lv_icmp_le (tgt := 48) hx hb dX5_codeOf_41 (by decide) (fun c59 => ?_) (fun c59 => ?_)
        · replace hf := if_t c59 hf
          refine lv_iconst (v := 0) hx hb dX5_codeOf_48 (by decide) ?_
          subst hf
          exact ct_i S hr hlocks hW dX5_codeOf_49
        · replace hf := if_f c59 hf
          refine lv_iconst (v := 2) hx hb dX5_codeOf_44 (by decide) ?_
          refine lv_goto (tgt := 49) hx hb dX5_codeOf_45 (by decide) ?_
          subst hf
          exact ct_i S hr hlocks hW dX5_codeOf_49
    · replace hf := if_f c29 hf
      replace hs := hs.2 c29
      refine lv_iconst (v := 5) hx hb dX5_codeOf_26 (by decide) ?_
      subst hf
      exact ct_i S hr hlocks hW dX5_codeOf_27
  · replace hf := if_t c26 hf
    replace hs := hs.1 c26
    refine lv_bipush (v := 64) hx hb dX5_codeOf_15 (by decide) ?_
    subst hf
    exact ct_i S hr hlocks hW dX5_codeOf_17
def f_X5_obey_181 (z : Sg)  : Sg := bd (pA z 3 (Int32.toNatClampNeg 0) (vp_nar .boolean 1)) (fun z76 => bd (pA z76 3 (Int32.toNatClampNeg 1) (vp_nar .boolean 1)) (fun z77 => z77))
def f_X5_obey_151 (z : Sg) (y1 : Int32) : Sg := (if y1 = 6 then f_X5_obey_181 z else (if y1 = 18 then f_X5_obey_181 z else (if y1 = 35 then f_X5_obey_181 z else (if y1 = 108 then f_X5_obey_181 z else (if y1 = 109 then f_X5_obey_181 z else z)))))
def f_X5_obey_148 (z : Sg) (y1 : Int32) (k1 : Int32) : Sg := bd (pI z 6 k1) (fun z75 => f_X5_obey_151 z75 y1)
def s_X5_obey_148 (z : Sg) (y1 : Int32) (k1 : Int32) : Prop := (k1 = 0 ∨ k1 = 1) ∧ bd (pI z 6 k1) (fun z75 => True)
def f_X5_obey_21 (z : Sg) (y1 : Int32) : Sg := (if y1 = 6 then bd (f_X5_data z 0) (fun r67 => bd (pI r67.2 1 r67.1) (fun z68 => f_X5_obey_151 z68 y1)) else (if y1 = 18 then bd (f_X5_data z 0) (fun r49 => bd (pA r49.2 1 (Int32.toNatClampNeg 0) r49.1) (fun z50 => bd (f_X5_data z50 1) (fun r52 => bd (pA r52.2 1 (Int32.toNatClampNeg 1) r52.1) (fun z53 => bd (f_X5_data z53 2) (fun r55 => bd (pA r55.2 1 (Int32.toNatClampNeg 2) r55.1) (fun z56 => bd (f_X5_data z56 3) (fun r58 => bd (pA r58.2 1 (Int32.toNatClampNeg 3) r58.1) (fun z59 => bd (f_X5_data z59 4) (fun r61 => bd (pA r61.2 1 (Int32.toNatClampNeg 4) r61.1) (fun z62 => bd (f_X5_data z62 5) (fun r64 => bd (pA r64.2 1 (Int32.toNatClampNeg 5) r64.1) (fun z65 => f_X5_obey_151 z65 y1)))))))))))) else (if y1 = 35 then bd (f_X5_data z 0) (fun r40 => bd (pI r40.2 2 r40.1) (fun z41 => bd (f_X5_word z41 1) (fun r43 => bd (pI r43.2 4 r43.1) (fun z44 => bd (f_X5_word z44 5) (fun r46 => bd (pI r46.2 3 r46.1) (fun z47 => f_X5_obey_151 z47 y1)))))) else (if y1 = 108 then bd (f_X5_data z 0) (fun r37 => bd (pI r37.2 7 r37.1) (fun z38 => f_X5_obey_151 z38 y1)) else (if y1 = 109 then bd (f_X5_data z 0) (fun r34 => (if r34.1 = 1 then f_X5_obey_148 r34.2 y1 1 else f_X5_obey_148 r34.2 y1 0)) else f_X5_obey_151 z y1)))))
def s_X5_obey_21 (z : Sg) (y1 : Int32) : Prop := (y1 = 6 → (s_X5_data z 0) ∧ bd (f_X5_data z 0) (fun r67 => bd (pI r67.2 1 r67.1) (fun z68 => True))) ∧ (¬ y1 = 6 → (y1 = 18 → (s_X5_data z 0) ∧ bd (f_X5_data z 0) (fun r49 => bd (pA r49.2 1 (Int32.toNatClampNeg 0) r49.1) (fun z50 => (s_X5_data z50 1) ∧ bd (f_X5_data z50 1) (fun r52 => bd (pA r52.2 1 (Int32.toNatClampNeg 1) r52.1) (fun z53 => (s_X5_data z53 2) ∧ bd (f_X5_data z53 2) (fun r55 => bd (pA r55.2 1 (Int32.toNatClampNeg 2) r55.1) (fun z56 => (s_X5_data z56 3) ∧ bd (f_X5_data z56 3) (fun r58 => bd (pA r58.2 1 (Int32.toNatClampNeg 3) r58.1) (fun z59 => (s_X5_data z59 4) ∧ bd (f_X5_data z59 4) (fun r61 => bd (pA r61.2 1 (Int32.toNatClampNeg 4) r61.1) (fun z62 => (s_X5_data z62 5) ∧ bd (f_X5_data z62 5) (fun r64 => bd (pA r64.2 1 (Int32.toNatClampNeg 5) r64.1) (fun z65 => True))))))))))))) ∧ (¬ y1 = 18 → (y1 = 35 → (s_X5_data z 0) ∧ bd (f_X5_data z 0) (fun r40 => bd (pI r40.2 2 r40.1) (fun z41 => (s_X5_word z41 1) ∧ bd (f_X5_word z41 1) (fun r43 => bd (pI r43.2 4 r43.1) (fun z44 => (s_X5_word z44 5) ∧ bd (f_X5_word z44 5) (fun r46 => bd (pI r46.2 3 r46.1) (fun z47 => True))))))) ∧ (¬ y1 = 35 → (y1 = 108 → (s_X5_data z 0) ∧ bd (f_X5_data z 0) (fun r37 => bd (pI r37.2 7 r37.1) (fun z38 => True))) ∧ (¬ y1 = 108 → (y1 = 109 → (s_X5_data z 0) ∧ bd (f_X5_data z 0) (fun r34 => (r34.1 = 1 → s_X5_obey_148 r34.2 y1 1) ∧ (¬ r34.1 = 1 → s_X5_obey_148 r34.2 y1 0))) ∧ (¬ y1 = 109 → True)))))
def f_X5_obey (z : Sg)  : Sg := bd (f_X5_command z) (fun r22 => bd (r22.1) (fun x23 => (if x23 = 38 then bd (f_X5_master r22.2) (fun r25 => bd (pA r25.2 3 (Int32.toNatClampNeg r25.1) (vp_nar .boolean 0)) (fun z27 => f_X5_obey_21 z27 x23)) else f_X5_obey_21 r22.2 x23)))
def s_X5_obey (z : Sg)  : Prop := (s_X5_command z) ∧ bd (f_X5_command z) (fun r22 => bd (r22.1) (fun x23 => (x23 = 38 → bd (f_X5_master r22.2) (fun r25 => (vp_in r25.1 2) ∧ bd (pA r25.2 3 (Int32.toNatClampNeg r25.1) (vp_nar .boolean 0)) (fun z27 => s_X5_obey_21 z27 x23))) ∧ (¬ x23 = 38 → s_X5_obey_21 r22.2 x23)))
theorem hd_X5_obey : yX5_obey.cls = RX5 ∧ yX5_obey.cls ≠ "java/lang/invoke/MethodHandle" ∧ yX5_obey.cls ≠ "java/lang/invoke/VarHandle" ∧ (parseMethodDescriptor yX5_obey.desc).map (fun d => d.parameters.length) = some 0 := by decide +kernel
set_option maxHeartbeats 4000000 in
set_option maxRecDepth 100000 in
theorem c_X5_obey (l : Launch) (D : va_G) (g : Gv) (z : Sg)  {r : Sg} (er : r = f_X5_obey z ) (hs : s_X5_obey z ) : CT D (wM g) (tM g) l yX5_obey (wG yX5_obey cX5_obey 3 none) { frames := 3, cells := 0, slots := 0, locals := 62 } [.ref (g.1 0)] z none r := by
  refine CT.ofW (by decide) (Nat.le_of_ble_eq_true rfl) ?_
  intro p e R s m args below meth c A hR S hr hlocks hA hW ls hl
  have S : CallFix p m c cX5_obey 3 s args wsL_law RX5 := S
  have hl : lv_has ls 3 [(0, .ref (g.1 0))] := hl
  have hx := S.1
  have hb := S.2.1
  have hf := er.symm
  clear er
  have J_181 : ∀ (z : Sg)  (H : Heap) (locs : List Loc) (ls : Array Slot), Wd D (wM g) (tM g) A s H locs z → lv_has ls 3 [(0, .ref (g.1 0))] → f_X5_obey_181 z  = r → W p l e R s m args below meth c H locs 0 0 (MQ below (CQ D (wM g) A none r) args s 0 0 A) (F0 m 181 ls []) := by
    intro z  H locs ls hW hl hf
    unfold f_X5_obey_181 at hf
    refine lv_aload_n hx hb dX5_obey_181 rfl (lv_at hl 0 rfl) ?_
    refine gX5_isChanged S hW kf_X5_23 dX5_obey_182 ?_
    refine lv_iconst (v := 0) hx hb dX5_obey_185 (by decide) ?_
    refine lv_iconst (v := 1) hx hb dX5_obey_186 (by decide) ?_
    obtain ⟨z76, ez76, hf⟩ := bd_e hf
    refine sM3 S hW (vi_of (M := 2) (by decide) (by decide) (by decide)) dX5_obey_187 ez76 (fun H locs hW => ?_)
    refine lv_aload_n hx hb dX5_obey_188 rfl (lv_at hl 0 rfl) ?_
    refine gX5_isChanged S hW kf_X5_23 dX5_obey_189 ?_
    refine lv_iconst (v := 1) hx hb dX5_obey_192 (by decide) ?_
    refine lv_iconst (v := 1) hx hb dX5_obey_193 (by decide) ?_
    obtain ⟨z77, ez77, hf⟩ := bd_e hf
    refine sM3 S hW (vi_of (M := 2) (by decide) (by decide) (by decide)) dX5_obey_194 ez77 (fun H locs hW => ?_)
    subst hf
    exact ct_v S hr hlocks hW dX5_obey_195
  have J_151 : ∀ (z : Sg) (y1 : Int32) (H : Heap) (locs : List Loc) (ls : Array Slot), Wd D (wM g) (tM g) A s H locs z → lv_has ls 3 [(0, .ref (g.1 0)), (1, .int y1)] → f_X5_obey_151 z y1 = r → W p l e R s m args below meth c H locs 0 0 (MQ below (CQ D (wM g) A none r) args s 0 0 A) (F0 m 151 ls []) := by
    intro z y1 H locs ls hW hl hf
    unfold f_X5_obey_151 at hf
    refine lv_iload_n hx hb dX5_obey_151 rfl (lv_at hl 1 rfl) ?_
    refine lv_bipush (v := 6) hx hb dX5_obey_152 (by decide) ?_
    refine lv_icmp_eq (tgt := 181) hx hb dX5_obey_154 (by decide) (fun c69 => ?_) (fun c69 => ?_)
    · replace hf := if_t c69 hf
      exact J_181 z _ _ ls hW (lv_sub hl [0] rfl) hf
    · replace hf := if_f c69 hf
      refine lv_iload_n hx hb dX5_obey_157 rfl (lv_at hl 1 rfl) ?_
      refine lv_bipush (v := 18) hx hb dX5_obey_158 (by decide) ?_
      refine lv_icmp_eq (tgt := 181) hx hb dX5_obey_160 (by decide) (fun c70 => ?_) (fun c70 => ?_)
      · replace hf := if_t c70 hf
        exact J_181 z _ _ ls hW (lv_sub hl [0] rfl) hf
      · replace hf := if_f c70 hf
        refine lv_iload_n hx hb dX5_obey_163 rfl (lv_at hl 1 rfl) ?_
        refine lv_bipush (v := 35) hx hb dX5_obey_164 (by decide) ?_
        refine lv_icmp_eq (tgt := 181) hx hb dX5_obey_166 (by decide) (fun c71 => ?_) (fun c71 => ?_)
        · replace hf := if_t c71 hf
          exact J_181 z _ _ ls hW (lv_sub hl [0] rfl) hf
        · replace hf := if_f c71 hf
          refine lv_iload_n hx hb dX5_obey_169 rfl (lv_at hl 1 rfl) ?_
          refine lv_bipush (v := 108) hx hb dX5_obey_170 (by decide) ?_
          refine lv_icmp_eq (tgt := 181) hx hb dX5_obey_172 (by decide) (fun c72 => ?_) (fun c72 => ?_)
          · replace hf := if_t c72 hf
            exact J_181 z _ _ ls hW (lv_sub hl [0] rfl) hf
          · replace hf := if_f c72 hf
            refine lv_iload_n hx hb dX5_obey_175 rfl (lv_at hl 1 rfl) ?_
            refine lv_bipush (v := 109) hx hb dX5_obey_176 (by decide) ?_
            refine lv_icmp_ne (tgt := 195) hx hb dX5_obey_178 (by decide) (fun c73 => ?_) (fun c73 => ?_)
            · replace hf := if_f c73 hf
              subst hf
              exact ct_v S hr hlocks hW dX5_obey_195
            · replace hf := if_t c73 hf
              exact J_181 z _ _ ls hW (lv_sub hl [0] rfl) hf
  have J_148 : ∀ (z : Sg) (y1 : Int32) (k1 : Int32) (H : Heap) (locs : List Loc) (ls : Array Slot), Wd D (wM g) (tM g) A s H locs z → lv_has ls 3 [(0, .ref (g.1 0)), (1, .int y1)] → s_X5_obey_148 z y1 k1 → f_X5_obey_148 z y1 k1 = r → W p l e R s m args below meth c H locs 0 0 (MQ below (CQ D (wM g) A none r) args s 0 0 A) (F0 m 148 ls [.int k1, .ref (g.1 0)]) := by
    intro z y1 k1 H locs ls hW hl hs hf
    unfold f_X5_obey_148 at hf
    unfold s_X5_obey_148 at hs
    obtain ⟨q74, hs⟩ := hs
    obtain ⟨z75, ez75, hf⟩ := bd_e hf
    replace hs := bd_s ez75 hs
    refine pX5_isBurst q74 S hW kf_X5_105 dX5_obey_148 ez75 (fun H locs hW => ?_)
    exact J_151 z75 y1 _ _ ls hW (lv_sub hl [0, 1] rfl) hf
  have J_21 : ∀ (z : Sg) (y1 : Int32) (H : Heap) (locs : List Loc) (ls : Array Slot), Wd D (wM g) (tM g) A s H locs z → lv_has ls 3 [(0, .ref (g.1 0)), (1, .int y1)] → s_X5_obey_21 z y1 → f_X5_obey_21 z y1 = r → W p l e R s m args below meth c H locs 0 0 (MQ below (CQ D (wM g) A none r) args s 0 0 A) (F0 m 21 ls []) := by
    intro z y1 H locs ls hW hl hs hf
    unfold f_X5_obey_21 at hf
    unfold s_X5_obey_21 at hs
    refine lv_iload_n hx hb dX5_obey_21 rfl (lv_at hl 1 rfl) ?_
    refine lv_bipush (v := 6) hx hb dX5_obey_22 (by decide) ?_
    refine lv_icmp_ne (tgt := 39) hx hb dX5_obey_24 (by decide) (fun c28 => ?_) (fun c28 => ?_)
    · replace hf := if_f c28 hf
      replace hs := hs.2 c28
      refine lv_iload_n hx hb dX5_obey_39 rfl (lv_at hl 1 rfl) ?_
      refine lv_bipush (v := 18) hx hb dX5_obey_40 (by decide) ?_
      refine lv_icmp_ne (tgt := 73) hx hb dX5_obey_42 (by decide) (fun c29 => ?_) (fun c29 => ?_)
      · replace hf := if_f c29 hf
        replace hs := hs.2 c29
        refine lv_iload_n hx hb dX5_obey_73 rfl (lv_at hl 1 rfl) ?_
        refine lv_bipush (v := 35) hx hb dX5_obey_74 (by decide) ?_
        refine lv_icmp_ne (tgt := 109) hx hb dX5_obey_76 (by decide) (fun c30 => ?_) (fun c30 => ?_)
        · replace hf := if_f c30 hf
          replace hs := hs.2 c30
          refine lv_iload_n hx hb dX5_obey_109 rfl (lv_at hl 1 rfl) ?_
          refine lv_bipush (v := 108) hx hb dX5_obey_110 (by decide) ?_
          refine lv_icmp_ne (tgt := 127) hx hb dX5_obey_112 (by decide) (fun c31 => ?_) (fun c31 => ?_)
          · replace hf := if_f c31 hf
            replace hs := hs.2 c31
            refine lv_iload_n hx hb dX5_obey_127 rfl (lv_at hl 1 rfl) ?_
            refine lv_bipush (v := 109) hx hb dX5_obey_128 (by decide) ?_
            refine lv_icmp_ne (tgt := 151) hx hb dX5_obey_130 (by decide) (fun c32 => ?_) (fun c32 => ?_)
            · replace hf := if_f c32 hf
              replace hs := hs.2 c32
              exact J_151 z y1 _ _ ls hW (lv_sub hl [0, 1] rfl) hf
            · replace hf := if_t c32 hf
              replace hs := hs.1 c32
              refine lv_aload_n hx hb dX5_obey_133 rfl (lv_at hl 0 rfl) ?_
              refine lv_aload_n hx hb dX5_obey_134 rfl (lv_at hl 0 rfl) ?_
              refine lv_iconst (v := 0) hx hb dX5_obey_135 (by decide) ?_
              obtain ⟨q33, hs⟩ := hs
              obtain ⟨r34, er34, hf⟩ := bd_e hf
              replace hs := bd_s er34 hs
              refine ct_V (As := [.int 0]) (rest := [.ref (g.1 0)]) (st1 := [.int r34.1, .ref (g.1 0)]) (q0 := 0) (ci := 5) S hA hW (c_X5_data l D g z 0 er34 q33) (wG_V km_X5_61 ki_yX5_data ks_yX5_data kn_X5 kc_yX5_data) ⟨rfl, rfl⟩ hd_X5_data (by rw [hR]; exact ⟨Nat.le_of_ble_eq_true rfl, Nat.le_of_ble_eq_true rfl⟩) rfl rfl rfl rfl hl.1 rfl (Nat.le_of_ble_eq_true rfl) ⟨Nat.zero_le _, Nat.zero_le _⟩ dX5_obey_136 rfl (fun H locs hW => ?_)
              refine lv_iconst (v := 1) hx hb dX5_obey_139 (by decide) ?_
              refine lv_icmp_ne (tgt := 147) hx hb dX5_obey_140 (by decide) (fun c35 => ?_) (fun c35 => ?_)
              · replace hf := if_f c35 hf
                replace hs := hs.2 c35
                refine lv_iconst (v := 0) hx hb dX5_obey_147 (by decide) ?_
                exact J_148 r34.2 y1 0 _ _ ls hW (lv_sub hl [0, 1] rfl) hs hf
              · replace hf := if_t c35 hf
                replace hs := hs.1 c35
                refine lv_iconst (v := 1) hx hb dX5_obey_143 (by decide) ?_
                refine lv_goto (tgt := 148) hx hb dX5_obey_144 (by decide) ?_
                exact J_148 r34.2 y1 1 _ _ ls hW (lv_sub hl [0, 1] rfl) hs hf
          · replace hf := if_t c31 hf
            replace hs := hs.1 c31
            refine lv_aload_n hx hb dX5_obey_115 rfl (lv_at hl 0 rfl) ?_
            refine lv_aload_n hx hb dX5_obey_116 rfl (lv_at hl 0 rfl) ?_
            refine lv_iconst (v := 0) hx hb dX5_obey_117 (by decide) ?_
            obtain ⟨q36, hs⟩ := hs
            obtain ⟨r37, er37, hf⟩ := bd_e hf
            replace hs := bd_s er37 hs
            refine ct_V (As := [.int 0]) (rest := [.ref (g.1 0)]) (st1 := [.int r37.1, .ref (g.1 0)]) (q0 := 0) (ci := 5) S hA hW (c_X5_data l D g z 0 er37 q36) (wG_V km_X5_61 ki_yX5_data ks_yX5_data kn_X5 kc_yX5_data) ⟨rfl, rfl⟩ hd_X5_data (by rw [hR]; exact ⟨Nat.le_of_ble_eq_true rfl, Nat.le_of_ble_eq_true rfl⟩) rfl rfl rfl rfl hl.1 rfl (Nat.le_of_ble_eq_true rfl) ⟨Nat.zero_le _, Nat.zero_le _⟩ dX5_obey_118 rfl (fun H locs hW => ?_)
            obtain ⟨z38, ez38, hf⟩ := bd_e hf
            replace hs := bd_s ez38 hs
            refine pX5_burstCommand S hW kf_X5_30 dX5_obey_121 ez38 (fun H locs hW => ?_)
            refine lv_goto (tgt := 151) hx hb dX5_obey_124 (by decide) ?_
            exact J_151 z38 y1 _ _ ls hW (lv_sub hl [0, 1] rfl) hf
        · replace hf := if_t c30 hf
          replace hs := hs.1 c30
          refine lv_aload_n hx hb dX5_obey_79 rfl (lv_at hl 0 rfl) ?_
          refine lv_aload_n hx hb dX5_obey_80 rfl (lv_at hl 0 rfl) ?_
          refine lv_iconst (v := 0) hx hb dX5_obey_81 (by decide) ?_
          obtain ⟨q39, hs⟩ := hs
          obtain ⟨r40, er40, hf⟩ := bd_e hf
          replace hs := bd_s er40 hs
          refine ct_V (As := [.int 0]) (rest := [.ref (g.1 0)]) (st1 := [.int r40.1, .ref (g.1 0)]) (q0 := 0) (ci := 5) S hA hW (c_X5_data l D g z 0 er40 q39) (wG_V km_X5_61 ki_yX5_data ks_yX5_data kn_X5 kc_yX5_data) ⟨rfl, rfl⟩ hd_X5_data (by rw [hR]; exact ⟨Nat.le_of_ble_eq_true rfl, Nat.le_of_ble_eq_true rfl⟩) rfl rfl rfl rfl hl.1 rfl (Nat.le_of_ble_eq_true rfl) ⟨Nat.zero_le _, Nat.zero_le _⟩ dX5_obey_82 rfl (fun H locs hW => ?_)
          obtain ⟨z41, ez41, hf⟩ := bd_e hf
          replace hs := bd_s ez41 hs
          refine pX5_unit S hW kf_X5_99 dX5_obey_85 ez41 (fun H locs hW => ?_)
          refine lv_aload_n hx hb dX5_obey_88 rfl (lv_at hl 0 rfl) ?_
          refine lv_aload_n hx hb dX5_obey_89 rfl (lv_at hl 0 rfl) ?_
          refine lv_iconst (v := 1) hx hb dX5_obey_90 (by decide) ?_
          obtain ⟨q42, hs⟩ := hs
          obtain ⟨r43, er43, hf⟩ := bd_e hf
          replace hs := bd_s er43 hs
          refine ct_V (As := [.int 1]) (rest := [.ref (g.1 0)]) (st1 := [.int r43.1, .ref (g.1 0)]) (q0 := 0) (ci := 5) S hA hW (c_X5_word l D g z41 1 er43 q42) (wG_V km_X5_93 ki_yX5_word ks_yX5_word kn_X5 kc_yX5_word) ⟨rfl, rfl⟩ hd_X5_word (by rw [hR]; exact ⟨Nat.le_of_ble_eq_true rfl, Nat.le_of_ble_eq_true rfl⟩) rfl rfl rfl rfl hl.1 rfl (Nat.le_of_ble_eq_true rfl) ⟨Nat.zero_le _, Nat.zero_le _⟩ dX5_obey_91 rfl (fun H locs hW => ?_)
          obtain ⟨z44, ez44, hf⟩ := bd_e hf
          replace hs := bd_s ez44 hs
          refine pX5_upper S hW kf_X5_19 dX5_obey_94 ez44 (fun H locs hW => ?_)
          refine lv_aload_n hx hb dX5_obey_97 rfl (lv_at hl 0 rfl) ?_
          refine lv_aload_n hx hb dX5_obey_98 rfl (lv_at hl 0 rfl) ?_
          refine lv_iconst (v := 5) hx hb dX5_obey_99 (by decide) ?_
          obtain ⟨q45, hs⟩ := hs
          obtain ⟨r46, er46, hf⟩ := bd_e hf
          replace hs := bd_s er46 hs
          refine ct_V (As := [.int 5]) (rest := [.ref (g.1 0)]) (st1 := [.int r46.1, .ref (g.1 0)]) (q0 := 0) (ci := 5) S hA hW (c_X5_word l D g z44 5 er46 q45) (wG_V km_X5_93 ki_yX5_word ks_yX5_word kn_X5 kc_yX5_word) ⟨rfl, rfl⟩ hd_X5_word (by rw [hR]; exact ⟨Nat.le_of_ble_eq_true rfl, Nat.le_of_ble_eq_true rfl⟩) rfl rfl rfl rfl hl.1 rfl (Nat.le_of_ble_eq_true rfl) ⟨Nat.zero_le _, Nat.zero_le _⟩ dX5_obey_100 rfl (fun H locs hW => ?_)
          obtain ⟨z47, ez47, hf⟩ := bd_e hf
          replace hs := bd_s ez47 hs
          refine pX5_lower S hW kf_X5_102 dX5_obey_103 ez47 (fun H locs hW => ?_)
          refine lv_goto (tgt := 151) hx hb dX5_obey_106 (by decide) ?_
          exact J_151 z47 y1 _ _ ls hW (lv_sub hl [0, 1] rfl) hf
      · replace hf := if_t c29 hf
        replace hs := hs.1 c29
        refine lv_iconst (v := 0) hx hb dX5_obey_45 (by decide) ?_
        refine lv_istore_n (lv' := [(2, .int 0), (0, .ref (g.1 0)), (1, .int y1)]) hx hb dX5_obey_46 rfl hl (by decide) rfl (fun ls hl => ?_)
        refine lv_iload_n hx hb dX5_obey_47 rfl (lv_at hl 0 rfl) ?_
        refine lv_bipush (v := 6) hx hb dX5_obey_48 (by decide) ?_
        refine lv_icmp_ge (tgt := 70) hx hb dX5_obey_50 (by decide) (fun c => absurd c (by decide)) (fun _ => ?_)
        refine lv_aload_n hx hb dX5_obey_53 rfl (lv_at hl 1 rfl) ?_
        refine gX5_tags S hW kf_X5_13 dX5_obey_54 ?_
        refine lv_iload_n hx hb dX5_obey_57 rfl (lv_at hl 0 rfl) ?_
        refine lv_aload_n hx hb dX5_obey_58 rfl (lv_at hl 1 rfl) ?_
        refine lv_iload_n hx hb dX5_obey_59 rfl (lv_at hl 0 rfl) ?_
        obtain ⟨q48, hs⟩ := hs
        obtain ⟨r49, er49, hf⟩ := bd_e hf
        replace hs := bd_s er49 hs
        refine ct_V (As := [.int 0]) (rest := [.int 0, .ref (g.1 2)]) (st1 := [.int r49.1, .int 0, .ref (g.1 2)]) (q0 := 0) (ci := 5) S hA hW (c_X5_data l D g z 0 er49 q48) (wG_V km_X5_61 ki_yX5_data ks_yX5_data kn_X5 kc_yX5_data) ⟨rfl, rfl⟩ hd_X5_data (by rw [hR]; exact ⟨Nat.le_of_ble_eq_true rfl, Nat.le_of_ble_eq_true rfl⟩) rfl rfl rfl rfl hl.1 rfl (Nat.le_of_ble_eq_true rfl) ⟨Nat.zero_le _, Nat.zero_le _⟩ dX5_obey_60 rfl (fun H locs hW => ?_)
        obtain ⟨z50, ez50, hf⟩ := bd_e hf
        replace hs := bd_s ez50 hs
        refine sM1 S hW (vi_of (M := 6) (by decide) (by decide) (by decide)) dX5_obey_63 ez50 (fun H locs hW => ?_)
        refine lv_iinc (v := 1) (lv' := [(2, .int 1), (0, .ref (g.1 0)), (1, .int y1)]) hx hb dX5_obey_64 hl (k := 0) rfl (by decide) (by decide) rfl (fun ls hl => ?_)
        refine lv_goto (tgt := 47) hx hb dX5_obey_67 (by decide) ?_
        refine lv_iload_n hx hb dX5_obey_47 rfl (lv_at hl 0 rfl) ?_
        refine lv_bipush (v := 6) hx hb dX5_obey_48 (by decide) ?_
        refine lv_icmp_ge (tgt := 70) hx hb dX5_obey_50 (by decide) (fun c => absurd c (by decide)) (fun _ => ?_)
        refine lv_aload_n hx hb dX5_obey_53 rfl (lv_at hl 1 rfl) ?_
        refine gX5_tags S hW kf_X5_13 dX5_obey_54 ?_
        refine lv_iload_n hx hb dX5_obey_57 rfl (lv_at hl 0 rfl) ?_
        refine lv_aload_n hx hb dX5_obey_58 rfl (lv_at hl 1 rfl) ?_
        refine lv_iload_n hx hb dX5_obey_59 rfl (lv_at hl 0 rfl) ?_
        obtain ⟨q51, hs⟩ := hs
        obtain ⟨r52, er52, hf⟩ := bd_e hf
        replace hs := bd_s er52 hs
        refine ct_V (As := [.int 1]) (rest := [.int 1, .ref (g.1 2)]) (st1 := [.int r52.1, .int 1, .ref (g.1 2)]) (q0 := 0) (ci := 5) S hA hW (c_X5_data l D g z50 1 er52 q51) (wG_V km_X5_61 ki_yX5_data ks_yX5_data kn_X5 kc_yX5_data) ⟨rfl, rfl⟩ hd_X5_data (by rw [hR]; exact ⟨Nat.le_of_ble_eq_true rfl, Nat.le_of_ble_eq_true rfl⟩) rfl rfl rfl rfl hl.1 rfl (Nat.le_of_ble_eq_true rfl) ⟨Nat.zero_le _, Nat.zero_le _⟩ dX5_obey_60 rfl (fun H locs hW => ?_)
        obtain ⟨z53, ez53, hf⟩ := bd_e hf
        replace hs := bd_s ez53 hs
        refine sM1 S hW (vi_of (M := 6) (by decide) (by decide) (by decide)) dX5_obey_63 ez53 (fun H locs hW => ?_)
        refine lv_iinc (v := 2) (lv' := [(2, .int 2), (0, .ref (g.1 0)), (1, .int y1)]) hx hb dX5_obey_64 hl (k := 0) rfl (by decide) (by decide) rfl (fun ls hl => ?_)
        refine lv_goto (tgt := 47) hx hb dX5_obey_67 (by decide) ?_
        refine lv_iload_n hx hb dX5_obey_47 rfl (lv_at hl 0 rfl) ?_
        refine lv_bipush (v := 6) hx hb dX5_obey_48 (by decide) ?_
        refine lv_icmp_ge (tgt := 70) hx hb dX5_obey_50 (by decide) (fun c => absurd c (by decide)) (fun _ => ?_)
        refine lv_aload_n hx hb dX5_obey_53 rfl (lv_at hl 1 rfl) ?_
        refine gX5_tags S hW kf_X5_13 dX5_obey_54 ?_
        refine lv_iload_n hx hb dX5_obey_57 rfl (lv_at hl 0 rfl) ?_
        refine lv_aload_n hx hb dX5_obey_58 rfl (lv_at hl 1 rfl) ?_
        refine lv_iload_n hx hb dX5_obey_59 rfl (lv_at hl 0 rfl) ?_
        obtain ⟨q54, hs⟩ := hs
        obtain ⟨r55, er55, hf⟩ := bd_e hf
        replace hs := bd_s er55 hs
        refine ct_V (As := [.int 2]) (rest := [.int 2, .ref (g.1 2)]) (st1 := [.int r55.1, .int 2, .ref (g.1 2)]) (q0 := 0) (ci := 5) S hA hW (c_X5_data l D g z53 2 er55 q54) (wG_V km_X5_61 ki_yX5_data ks_yX5_data kn_X5 kc_yX5_data) ⟨rfl, rfl⟩ hd_X5_data (by rw [hR]; exact ⟨Nat.le_of_ble_eq_true rfl, Nat.le_of_ble_eq_true rfl⟩) rfl rfl rfl rfl hl.1 rfl (Nat.le_of_ble_eq_true rfl) ⟨Nat.zero_le _, Nat.zero_le _⟩ dX5_obey_60 rfl (fun H locs hW => ?_)
        obtain ⟨z56, ez56, hf⟩ := bd_e hf
        replace hs := bd_s ez56 hs
        refine sM1 S hW (vi_of (M := 6) (by decide) (by decide) (by decide)) dX5_obey_63 ez56 (fun H locs hW => ?_)
        refine lv_iinc (v := 3) (lv' := [(2, .int 3), (0, .ref (g.1 0)), (1, .int y1)]) hx hb dX5_obey_64 hl (k := 0) rfl (by decide) (by decide) rfl (fun ls hl => ?_)
        refine lv_goto (tgt := 47) hx hb dX5_obey_67 (by decide) ?_
        refine lv_iload_n hx hb dX5_obey_47 rfl (lv_at hl 0 rfl) ?_
        refine lv_bipush (v := 6) hx hb dX5_obey_48 (by decide) ?_
        refine lv_icmp_ge (tgt := 70) hx hb dX5_obey_50 (by decide) (fun c => absurd c (by decide)) (fun _ => ?_)
        refine lv_aload_n hx hb dX5_obey_53 rfl (lv_at hl 1 rfl) ?_
        refine gX5_tags S hW kf_X5_13 dX5_obey_54 ?_
        refine lv_iload_n hx hb dX5_obey_57 rfl (lv_at hl 0 rfl) ?_
        refine lv_aload_n hx hb dX5_obey_58 rfl (lv_at hl 1 rfl) ?_
        refine lv_iload_n hx hb dX5_obey_59 rfl (lv_at hl 0 rfl) ?_
        obtain ⟨q57, hs⟩ := hs
        obtain ⟨r58, er58, hf⟩ := bd_e hf
        replace hs := bd_s er58 hs
        refine ct_V (As := [.int 3]) (rest := [.int 3, .ref (g.1 2)]) (st1 := [.int r58.1, .int 3, .ref (g.1 2)]) (q0 := 0) (ci := 5) S hA hW (c_X5_data l D g z56 3 er58 q57) (wG_V km_X5_61 ki_yX5_data ks_yX5_data kn_X5 kc_yX5_data) ⟨rfl, rfl⟩ hd_X5_data (by rw [hR]; exact ⟨Nat.le_of_ble_eq_true rfl, Nat.le_of_ble_eq_true rfl⟩) rfl rfl rfl rfl hl.1 rfl (Nat.le_of_ble_eq_true rfl) ⟨Nat.zero_le _, Nat.zero_le _⟩ dX5_obey_60 rfl (fun H locs hW => ?_)
        obtain ⟨z59, ez59, hf⟩ := bd_e hf
        replace hs := bd_s ez59 hs
        refine sM1 S hW (vi_of (M := 6) (by decide) (by decide) (by decide)) dX5_obey_63 ez59 (fun H locs hW => ?_)
        refine lv_iinc (v := 4) (lv' := [(2, .int 4), (0, .ref (g.1 0)), (1, .int y1)]) hx hb dX5_obey_64 hl (k := 0) rfl (by decide) (by decide) rfl (fun ls hl => ?_)
        refine lv_goto (tgt := 47) hx hb dX5_obey_67 (by decide) ?_
        refine lv_iload_n hx hb dX5_obey_47 rfl (lv_at hl 0 rfl) ?_
        refine lv_bipush (v := 6) hx hb dX5_obey_48 (by decide) ?_
        refine lv_icmp_ge (tgt := 70) hx hb dX5_obey_50 (by decide) (fun c => absurd c (by decide)) (fun _ => ?_)
        refine lv_aload_n hx hb dX5_obey_53 rfl (lv_at hl 1 rfl) ?_
        refine gX5_tags S hW kf_X5_13 dX5_obey_54 ?_
        refine lv_iload_n hx hb dX5_obey_57 rfl (lv_at hl 0 rfl) ?_
        refine lv_aload_n hx hb dX5_obey_58 rfl (lv_at hl 1 rfl) ?_
        refine lv_iload_n hx hb dX5_obey_59 rfl (lv_at hl 0 rfl) ?_
        obtain ⟨q60, hs⟩ := hs
        obtain ⟨r61, er61, hf⟩ := bd_e hf
        replace hs := bd_s er61 hs
        refine ct_V (As := [.int 4]) (rest := [.int 4, .ref (g.1 2)]) (st1 := [.int r61.1, .int 4, .ref (g.1 2)]) (q0 := 0) (ci := 5) S hA hW (c_X5_data l D g z59 4 er61 q60) (wG_V km_X5_61 ki_yX5_data ks_yX5_data kn_X5 kc_yX5_data) ⟨rfl, rfl⟩ hd_X5_data (by rw [hR]; exact ⟨Nat.le_of_ble_eq_true rfl, Nat.le_of_ble_eq_true rfl⟩) rfl rfl rfl rfl hl.1 rfl (Nat.le_of_ble_eq_true rfl) ⟨Nat.zero_le _, Nat.zero_le _⟩ dX5_obey_60 rfl (fun H locs hW => ?_)
        obtain ⟨z62, ez62, hf⟩ := bd_e hf
        replace hs := bd_s ez62 hs
        refine sM1 S hW (vi_of (M := 6) (by decide) (by decide) (by decide)) dX5_obey_63 ez62 (fun H locs hW => ?_)
        refine lv_iinc (v := 5) (lv' := [(2, .int 5), (0, .ref (g.1 0)), (1, .int y1)]) hx hb dX5_obey_64 hl (k := 0) rfl (by decide) (by decide) rfl (fun ls hl => ?_)
        refine lv_goto (tgt := 47) hx hb dX5_obey_67 (by decide) ?_
        refine lv_iload_n hx hb dX5_obey_47 rfl (lv_at hl 0 rfl) ?_
        refine lv_bipush (v := 6) hx hb dX5_obey_48 (by decide) ?_
        refine lv_icmp_ge (tgt := 70) hx hb dX5_obey_50 (by decide) (fun c => absurd c (by decide)) (fun _ => ?_)
        refine lv_aload_n hx hb dX5_obey_53 rfl (lv_at hl 1 rfl) ?_
        refine gX5_tags S hW kf_X5_13 dX5_obey_54 ?_
        refine lv_iload_n hx hb dX5_obey_57 rfl (lv_at hl 0 rfl) ?_
        refine lv_aload_n hx hb dX5_obey_58 rfl (lv_at hl 1 rfl) ?_
        refine lv_iload_n hx hb dX5_obey_59 rfl (lv_at hl 0 rfl) ?_
        obtain ⟨q63, hs⟩ := hs
        obtain ⟨r64, er64, hf⟩ := bd_e hf
        replace hs := bd_s er64 hs
        refine ct_V (As := [.int 5]) (rest := [.int 5, .ref (g.1 2)]) (st1 := [.int r64.1, .int 5, .ref (g.1 2)]) (q0 := 0) (ci := 5) S hA hW (c_X5_data l D g z62 5 er64 q63) (wG_V km_X5_61 ki_yX5_data ks_yX5_data kn_X5 kc_yX5_data) ⟨rfl, rfl⟩ hd_X5_data (by rw [hR]; exact ⟨Nat.le_of_ble_eq_true rfl, Nat.le_of_ble_eq_true rfl⟩) rfl rfl rfl rfl hl.1 rfl (Nat.le_of_ble_eq_true rfl) ⟨Nat.zero_le _, Nat.zero_le _⟩ dX5_obey_60 rfl (fun H locs hW => ?_)
        obtain ⟨z65, ez65, hf⟩ := bd_e hf
        replace hs := bd_s ez65 hs
        refine sM1 S hW (vi_of (M := 6) (by decide) (by decide) (by decide)) dX5_obey_63 ez65 (fun H locs hW => ?_)
        refine lv_iinc (v := 6) (lv' := [(2, .int 6), (0, .ref (g.1 0)), (1, .int y1)]) hx hb dX5_obey_64 hl (k := 0) rfl (by decide) (by decide) rfl (fun ls hl => ?_)
        refine lv_goto (tgt := 47) hx hb dX5_obey_67 (by decide) ?_
        refine lv_iload_n hx hb dX5_obey_47 rfl (lv_at hl 0 rfl) ?_
        refine lv_bipush (v := 6) hx hb dX5_obey_48 (by decide) ?_
        refine lv_icmp_ge (tgt := 70) hx hb dX5_obey_50 (by decide) (fun _ => ?_) (fun c => absurd (by decide) c)
        refine lv_goto (tgt := 151) hx hb dX5_obey_70 (by decide) ?_
        exact J_151 z65 y1 _ _ ls hW (lv_sub hl [1, 2] rfl) hf
    · replace hf := if_t c28 hf
      replace hs := hs.1 c28
      refine lv_aload_n hx hb dX5_obey_27 rfl (lv_at hl 0 rfl) ?_
      refine lv_aload_n hx hb dX5_obey_28 rfl (lv_at hl 0 rfl) ?_
      refine lv_iconst (v := 0) hx hb dX5_obey_29 (by decide) ?_
      obtain ⟨q66, hs⟩ := hs
      obtain ⟨r67, er67, hf⟩ := bd_e hf
      replace hs := bd_s er67 hs
      refine ct_V (As := [.int 0]) (rest := [.ref (g.1 0)]) (st1 := [.int r67.1, .ref (g.1 0)]) (q0 := 0) (ci := 5) S hA hW (c_X5_data l D g z 0 er67 q66) (wG_V km_X5_61 ki_yX5_data ks_yX5_data kn_X5 kc_yX5_data) ⟨rfl, rfl⟩ hd_X5_data (by rw [hR]; exact ⟨Nat.le_of_ble_eq_true rfl, Nat.le_of_ble_eq_true rfl⟩) rfl rfl rfl rfl hl.1 rfl (Nat.le_of_ble_eq_true rfl) ⟨Nat.zero_le _, Nat.zero_le _⟩ dX5_obey_30 rfl (fun H locs hW => ?_)
      obtain ⟨z68, ez68, hf⟩ := bd_e hf
      replace hs := bd_s ez68 hs
      refine pX5_shortAddress S hW kf_X5_80 dX5_obey_33 ez68 (fun H locs hW => ?_)
      refine lv_goto (tgt := 151) hx hb dX5_obey_36 (by decide) ?_
      exact J_151 z68 y1 _ _ ls hW (lv_sub hl [0, 1] rfl) hf
  unfold f_X5_obey at hf
  unfold s_X5_obey at hs
  refine lv_aload_n hx hb dX5_obey_0 rfl (lv_at hl 0 rfl) ?_
  obtain ⟨q21, hs⟩ := hs
  obtain ⟨r22, er22, hf⟩ := bd_e hf
  replace hs := bd_s er22 hs
  refine ct_V (As := []) (rest := []) (st1 := [.int r22.1]) (q0 := 0) (ci := 5) S hA hW (c_X5_command l D g z er22 q21) (wG_V km_X5_77 ki_yX5_command ks_yX5_command kn_X5 kc_yX5_command) ⟨rfl, rfl⟩ hd_X5_command (by rw [hR]; exact ⟨Nat.le_of_ble_eq_true rfl, Nat.le_of_ble_eq_true rfl⟩) rfl rfl rfl rfl hl.1 rfl (Nat.le_of_ble_eq_true rfl) ⟨Nat.zero_le _, Nat.zero_le _⟩ dX5_obey_1 rfl (fun H locs hW => ?_)
  obtain ⟨x23, ex23, hf⟩ := bd_e hf
  replace hs := bd_s ex23 hs
  refine lv_nmi ex23 ?_
  refine lv_istore_n (lv' := [(1, .int x23), (0, .ref (g.1 0))]) hx hb dX5_obey_4 rfl hl (by decide) rfl (fun ls hl => ?_)
  refine lv_iload_n hx hb dX5_obey_5 rfl (lv_at hl 0 rfl) ?_
  refine lv_bipush (v := 38) hx hb dX5_obey_6 (by decide) ?_
  refine lv_icmp_ne (tgt := 21) hx hb dX5_obey_8 (by decide) (fun c24 => ?_) (fun c24 => ?_)
  · replace hf := if_f c24 hf
    replace hs := hs.2 c24
    exact J_21 r22.2 x23 _ _ ls hW (lv_sub hl [1, 0] rfl) hs hf
  · replace hf := if_t c24 hf
    replace hs := hs.1 c24
    refine lv_aload_n hx hb dX5_obey_11 rfl (lv_at hl 1 rfl) ?_
    refine gX5_isChanged S hW kf_X5_23 dX5_obey_12 ?_
    refine lv_aload_n hx hb dX5_obey_15 rfl (lv_at hl 1 rfl) ?_
    obtain ⟨r25, er25, hf⟩ := bd_e hf
    replace hs := bd_s er25 hs
    refine ct_V (As := []) (rest := [.ref (g.1 4)]) (st1 := [.int r25.1, .ref (g.1 4)]) (q0 := 0) (ci := 5) S hA hW (c_X5_master l D g r22.2 er25) (wG_V km_X5_96 ki_yX5_master ks_yX5_master kn_X5 kc_yX5_master) ⟨rfl, rfl⟩ hd_X5_master (by rw [hR]; exact ⟨Nat.le_of_ble_eq_true rfl, Nat.le_of_ble_eq_true rfl⟩) rfl rfl rfl rfl hl.1 rfl (Nat.le_of_ble_eq_true rfl) ⟨Nat.zero_le _, Nat.zero_le _⟩ dX5_obey_16 rfl (fun H locs hW => ?_)
    refine lv_iconst (v := 0) hx hb dX5_obey_19 (by decide) ?_
    obtain ⟨q26, hs⟩ := hs
    obtain ⟨z27, ez27, hf⟩ := bd_e hf
    replace hs := bd_s ez27 hs
    refine sM3 S hW q26 dX5_obey_20 ez27 (fun H locs hW => ?_)
    exact J_21 z27 x23 _ _ ls hW (lv_sub hl [1, 0] rfl) hs hf
