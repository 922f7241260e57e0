def f_X4_isBroadcast (z : Sg)  : Int32 × Sg := (if (gI z 19) = 0 then (0, z) else (if (gI z 20) = 11 then bd (f_X0_station z) (fun r23 => (if r23.1 = 0 then bd (f_X0_kind r23.2) (fun r25 => (if r25.1 = 0 then bd (f_X0_number r25.2) (fun r27 => (if r27.1 = 0 then (1, r27.2) else (0, r27.2))) else (0, r25.2))) else (0, r23.2))) else (0, z)))
theorem hd_X4_isBroadcast : yX4_isBroadcast.cls = RX4 ∧ yX4_isBroadcast.cls ≠ "java/lang/invoke/MethodHandle" ∧ yX4_isBroadcast.cls ≠ "java/lang/invoke/VarHandle" ∧ (parseMethodDescriptor yX4_isBroadcast.desc).map (fun d => d.parameters.length) = some 0 := by decide +kernel
set_option maxHeartbeats 4000000 in
set_option maxRecDepth 100000 in
theorem c_X4_isBroadcast (l : Launch) (D : va_G) (g : Gv) (z : Sg)  {r : Int32 × Sg} (er : r = f_X4_isBroadcast z ) : CT D (wD g) (tD g) l yX4_isBroadcast (wG yX4_isBroadcast cX4_isBroadcast 1 (some .boolean)) { frames := 2, cells := 0, slots := 0, locals := 41 } [.ref (g.1 0)] z (some (.int r.1)) r.2 := by
  refine CT.ofW (by decide) (Nat.le_of_ble_eq_true rfl) ?_
  intro p e R s m args below meth c A hR S hr hlocks hA hW ls hl
  have S : CallFix p m c cX4_isBroadcast 1 s args wsL_law RX4 := S
  have hl : lv_has ls 1 [(0, .ref (g.1 0))] := hl
  have hx := S.1
  have hb := S.2.1
  have hf := er.symm
  clear er
  unfold f_X4_isBroadcast at hf
  refine lv_aload_n hx hb dX4_isBroadcast_0 rfl (lv_at hl 0 rfl) ?_
  refine gX4_reader S hW kf_X4_22 dX4_isBroadcast_1 ?_
  refine gX0_isLong S hW kf_X4_150 dX4_isBroadcast_4 ?_
  refine lv_if_eq (tgt := 56) hx hb dX4_isBroadcast_7 (by decide) (fun c21 => ?_) (fun c21 => ?_)
  · replace hf := if_t c21 hf
    refine lv_iconst (v := 0) hx hb dX4_isBroadcast_56 (by decide) ?_
    subst hf
    exact ct_z (Or.inl rfl) S hr hlocks hW dX4_isBroadcast_57
  · replace hf := if_f c21 hf
    refine lv_aload_n hx hb dX4_isBroadcast_10 rfl (lv_at hl 0 rfl) ?_
    refine gX4_reader S hW kf_X4_22 dX4_isBroadcast_11 ?_
    refine gX0_command S hW kf_X4_169 dX4_isBroadcast_14 ?_
    refine lv_bipush (v := 11) hx hb dX4_isBroadcast_17 (by decide) ?_
    refine lv_icmp_ne (tgt := 56) hx hb dX4_isBroadcast_19 (by decide) (fun c22 => ?_) (fun c22 => ?_)
    · replace hf := if_f c22 hf
      refine lv_iconst (v := 0) hx hb dX4_isBroadcast_56 (by decide) ?_
      subst hf
      exact ct_z (Or.inl rfl) S hr hlocks hW dX4_isBroadcast_57
    · replace hf := if_t c22 hf
      refine lv_aload_n hx hb dX4_isBroadcast_22 rfl (lv_at hl 0 rfl) ?_
      refine gX4_reader S hW kf_X4_22 dX4_isBroadcast_23 ?_
      obtain ⟨r23, er23, hf⟩ := bd_e hf
      refine ct_V (As := []) (rest := []) (st1 := [.int r23.1]) (q0 := 2) (ci := 0) S hA hW (c_X0_station l D g z er23) (wG_V km_X4_153 ki_yX0_station ks_yX0_station kn_X0 kc_yX0_station) ⟨rfl, rfl⟩ hd_X0_station (by rw [hR]; exact ⟨Nat.le_of_ble_eq_true rfl, Nat.le_of_ble_eq_true rfl⟩) rfl rfl rfl rfl hl.1 rfl (Nat.le_of_ble_eq_true rfl) ⟨Nat.zero_le _, Nat.zero_le _⟩ dX4_isBroadcast_26 rfl (fun H locs hW => ?_)
      refine lv_if_ne (tgt := 56) hx hb dX4_isBroadcast_29 (by decide) (fun c24 => ?_) (fun c24 => ?_)
      · replace hf := if_f c24 hf
        refine lv_iconst (v := 0) hx hb dX4_isBroadcast_56 (by decide) ?_
        subst hf
        exact ct_z (Or.inl rfl) S hr hlocks hW dX4_isBroadcast_57
      · replace hf := if_t c24 hf
        refine lv_aload_n hx hb dX4_isBroadcast_32 rfl (lv_at hl 0 rfl) ?_
        refine gX4_reader S hW kf_X4_22 dX4_isBroadcast_33 ?_
        obtain ⟨r25, er25, hf⟩ := bd_e hf
        refine ct_V (As := []) (rest := []) (st1 := [.int r25.1]) (q0 := 2) (ci := 0) S hA hW (c_X0_kind l D g r23.2 er25) (wG_V km_X4_159 ki_yX0_kind ks_yX0_kind kn_X0 kc_yX0_kind) ⟨rfl, rfl⟩ hd_X0_kind (by rw [hR]; exact ⟨Nat.le_of_ble_eq_true rfl, Nat.le_of_ble_eq_true rfl⟩) rfl rfl rfl rfl hl.1 rfl (Nat.le_of_ble_eq_true rfl) ⟨Nat.zero_le _, Nat.zero_le _⟩ dX4_isBroadcast_36 rfl (fun H locs hW => ?_)
        refine lv_if_ne (tgt := 56) hx hb dX4_isBroadcast_39 (by decide) (fun c26 => ?_) (fun c26 => ?_)
        · replace hf := if_f c26 hf
          refine lv_iconst (v := 0) hx hb dX4_isBroadcast_56 (by decide) ?_
          subst hf
          exact ct_z (Or.inl rfl) S hr hlocks hW dX4_isBroadcast_57
        · replace hf := if_t c26 hf
          refine lv_aload_n hx hb dX4_isBroadcast_42 rfl (lv_at hl 0 rfl) ?_
          refine gX4_reader S hW kf_X4_22 dX4_isBroadcast_43 ?_
          obtain ⟨r27, er27, hf⟩ := bd_e hf
          refine ct_V (As := []) (rest := []) (st1 := [.int r27.1]) (q0 := 2) (ci := 0) S hA hW (c_X0_number l D g r25.2 er27) (wG_V km_X4_162 ki_yX0_number ks_yX0_number kn_X0 kc_yX0_number) ⟨rfl, rfl⟩ hd_X0_number (by rw [hR]; exact ⟨Nat.le_of_ble_eq_true rfl, Nat.le_of_ble_eq_true rfl⟩) rfl rfl rfl rfl hl.1 rfl (Nat.le_of_ble_eq_true rfl) ⟨Nat.zero_le _, Nat.zero_le _⟩ dX4_isBroadcast_46 rfl (fun H locs hW => ?_)
          refine lv_if_ne (tgt := 56) hx hb dX4_isBroadcast_49 (by decide) (fun c28 => ?_) (fun c28 => ?_)
          · replace hf := if_f c28 hf
            refine lv_iconst (v := 0) hx hb dX4_isBroadcast_56 (by decide) ?_
            subst hf
            exact ct_z (Or.inl rfl) S hr hlocks hW dX4_isBroadcast_57
          · replace hf := if_t c28 hf
            refine lv_iconst (v := 1) hx hb dX4_isBroadcast_52 (by decide) ?_
            refine lv_goto (tgt := 57) hx hb dX4_isBroadcast_53 (by decide) ?_
            subst hf
            exact ct_z (Or.inr rfl) S hr hlocks hW dX4_isBroadcast_57
def f_X4_isForDevice (z : Sg)  : Int32 × Sg := (if (gI z 19) = 0 then bd (f_X0_station z) (fun r29 => (if r29.1 = (gI r29.2 10) then (1, r29.2) else (0, r29.2))) else bd (f_X4_isBroadcast z) (fun r22 => (if r22.1 = 0 then bd (f_X0_station r22.2) (fun r24 => bd (f_X0_kind r24.2) (fun r25 => bd (f_X0_number r25.2) (fun r26 => bd (f_X2_hasLongAddress r26.2 r24.1 r25.1 r26.1) (fun r27 => (if r27.1 = 0 then (0, r27.2) else (1, r27.2)))))) else (1, r22.2))))
theorem hd_X4_isForDevice : yX4_isForDevice.cls = RX4 ∧ yX4_isForDevice.cls ≠ "java/lang/invoke/MethodHandle" ∧ yX4_isForDevice.cls ≠ "java/lang/invoke/VarHandle" ∧ (parseMethodDescriptor yX4_isForDevice.desc).map (fun d => d.parameters.length) = some 0 := by decide +kernel
set_option maxHeartbeats 4000000 in
set_option maxRecDepth 100000 in
theorem c_X4_isForDevice (l : Launch) (D : va_G) (g : Gv) (z : Sg)  {r : Int32 × Sg} (er : r = f_X4_isForDevice z ) : CT D (wD g) (tD g) l yX4_isForDevice (wG yX4_isForDevice cX4_isForDevice 1 (some .boolean)) { frames := 3, cells := 0, slots := 0, locals := 61 } [.ref (g.1 0)] z (some (.int r.1)) r.2 := by
  refine CT.ofW (by decide) (Nat.le_of_ble_eq_true rfl) ?_
  intro p e R s m args below meth c A hR S hr hlocks hA hW ls hl
  have S : CallFix p m c cX4_isForDevice 1 s args wsL_law RX4 := S
  have hl : lv_has ls 1 [(0, .ref (g.1 0))] := hl
  have hx := S.1
  have hb := S.2.1
  have hf := er.symm
  clear er
  unfold f_X4_isForDevice at hf
  refine lv_aload_n hx hb dX4_isForDevice_0 rfl (lv_at hl 0 rfl) ?_
  refine gX4_reader S hW kf_X4_22 dX4_isForDevice_1 ?_
  refine gX0_isLong S hW kf_X4_150 dX4_isForDevice_4 ?_
  refine lv_if_ne (tgt := 33) hx hb dX4_isForDevice_7 (by decide) (fun c21 => ?_) (fun c21 => ?_)
  · replace hf := if_f c21 hf
    refine lv_aload_n hx hb dX4_isForDevice_33 rfl (lv_at hl 0 rfl) ?_
    obtain ⟨r22, er22, hf⟩ := bd_e hf
    refine ct_V (As := []) (rest := []) (st1 := [.int r22.1]) (q0 := 0) (ci := 4) S hA hW (c_X4_isBroadcast l D g z er22) (wG_V km_X4_156 ki_yX4_isBroadcast ks_yX4_isBroadcast kn_X4 kc_yX4_isBroadcast) ⟨rfl, rfl⟩ hd_X4_isBroadcast (by rw [hR]; exact ⟨Nat.le_of_ble_eq_true rfl, Nat.le_of_ble_eq_true rfl⟩) rfl rfl rfl rfl hl.1 rfl (Nat.le_of_ble_eq_true rfl) ⟨Nat.zero_le _, Nat.zero_le _⟩ dX4_isForDevice_34 rfl (fun H locs hW => ?_)
    refine lv_if_ne (tgt := 71) hx hb dX4_isForDevice_37 (by decide) (fun c23 => ?_) (fun c23 => ?_)
    · replace hf := if_f c23 hf
      refine lv_iconst (v := 1) hx hb dX4_isForDevice_71 (by decide) ?_
      refine lv_goto (tgt := 76) hx hb dX4_isForDevice_72 (by decide) ?_
      subst hf
      exact ct_z (Or.inr rfl) S hr hlocks hW dX4_isForDevice_76
    · replace hf := if_t c23 hf
      refine lv_aload_n hx hb dX4_isForDevice_40 rfl (lv_at hl 0 rfl) ?_
      refine gX4_holdings S hW kf_X4_15 dX4_isForDevice_41 ?_
      refine lv_aload_n hx hb dX4_isForDevice_44 rfl (lv_at hl 0 rfl) ?_
      refine gX4_reader S hW kf_X4_22 dX4_isForDevice_45 ?_
      obtain ⟨r24, er24, hf⟩ := bd_e hf
      refine ct_V (As := []) (rest := [.ref (g.1 1)]) (st1 := [.int r24.1, .ref (g.1 1)]) (q0 := 2) (ci := 0) S hA hW (c_X0_station l D g r22.2 er24) (wG_V km_X4_153 ki_yX0_station ks_yX0_station kn_X0 kc_yX0_station) ⟨rfl, rfl⟩ hd_X0_station (by rw [hR]; exact ⟨Nat.le_of_ble_eq_true rfl, Nat.le_of_ble_eq_true rfl⟩) rfl rfl rfl rfl hl.1 rfl (Nat.le_of_ble_eq_true rfl) ⟨Nat.zero_le _, Nat.zero_le _⟩ dX4_isForDevice_48 rfl (fun H locs hW => ?_)
      refine lv_aload_n hx hb dX4_isForDevice_51 rfl (lv_at hl 0 rfl) ?_
      refine gX4_reader S hW kf_X4_22 dX4_isForDevice_52 ?_
      obtain ⟨r25, er25, hf⟩ := bd_e hf
      refine ct_V (As := []) (rest := [.int r24.1, .ref (g.1 1)]) (st1 := [.int r25.1, .int r24.1, .ref (g.1 1)]) (q0 := 2) (ci := 0) S hA hW (c_X0_kind l D g r24.2 er25) (wG_V km_X4_159 ki_yX0_kind ks_yX0_kind kn_X0 kc_yX0_kind) ⟨rfl, rfl⟩ hd_X0_kind (by rw [hR]; exact ⟨Nat.le_of_ble_eq_true rfl, Nat.le_of_ble_eq_true rfl⟩) rfl rfl rfl rfl hl.1 rfl (Nat.le_of_ble_eq_true rfl) ⟨Nat.zero_le _, Nat.zero_le _⟩ dX4_isForDevice_55 rfl (fun H locs hW => ?_)
      refine lv_aload_n hx hb dX4_isForDevice_58 rfl (lv_at hl 0 rfl) ?_
      refine gX4_reader S hW kf_X4_22 dX4_isForDevice_59 ?_
      obtain ⟨r26, er26, hf⟩ := bd_e hf
      refine ct_V (As := []) (rest := [.int r25.1, .int r24.1, .ref (g.1 1)]) (st1 := [.int r26.1, .int r25.1, .int r24.1, .ref (g.1 1)]) (q0 := 2) (ci := 0) S hA hW (c_X0_number l D g r25.2 er26) (wG_V km_X4_162 ki_yX0_number ks_yX0_number kn_X0 kc_yX0_number) ⟨rfl, rfl⟩ hd_X0_number (by rw [hR]; exact ⟨Nat.le_of_ble_eq_true rfl, Nat.le_of_ble_eq_true rfl⟩) rfl rfl rfl rfl hl.1 rfl (Nat.le_of_ble_eq_true rfl) ⟨Nat.zero_le _, Nat.zero_le _⟩ dX4_isForDevice_62 rfl (fun H locs hW => ?_)
      obtain ⟨r27, er27, hf⟩ := bd_e hf
      refine ct_V (As := [.int r24.1, .int r25.1, .int r26.1]) (rest := []) (st1 := [.int r27.1]) (q0 := 1) (ci := 2) S hA hW (c_X2_hasLongAddress l D g r26.2 r24.1 r25.1 r26.1 er27) (wG_V km_X4_165 ki_yX2_hasLongAddress ks_yX2_hasLongAddress kn_X2 kc_yX2_hasLongAddress) ⟨rfl, rfl⟩ hd_X2_hasLongAddress (by rw [hR]; exact ⟨Nat.le_of_ble_eq_true rfl, Nat.le_of_ble_eq_true rfl⟩) rfl rfl rfl rfl hl.1 rfl (Nat.le_of_ble_eq_true rfl) ⟨Nat.zero_le _, Nat.zero_le _⟩ dX4_isForDevice_65 rfl (fun H locs hW => ?_)
      refine lv_if_eq (tgt := 75) hx hb dX4_isForDevice_68 (by decide) (fun c28 => ?_) (fun c28 => ?_)
      · replace hf := if_t c28 hf
        refine lv_iconst (v := 0) hx hb dX4_isForDevice_75 (by decide) ?_
        subst hf
        exact ct_z (Or.inl rfl) S hr hlocks hW dX4_isForDevice_76
      · replace hf := if_f c28 hf
        refine lv_iconst (v := 1) hx hb dX4_isForDevice_71 (by decide) ?_
        refine lv_goto (tgt := 76) hx hb dX4_isForDevice_72 (by decide) ?_
        subst hf
        exact ct_z (Or.inr rfl) S hr hlocks hW dX4_isForDevice_76
  · replace hf := if_t c21 hf
    refine lv_aload_n hx hb dX4_isForDevice_10 rfl (lv_at hl 0 rfl) ?_
    refine gX4_reader S hW kf_X4_22 dX4_isForDevice_11 ?_
    obtain ⟨r29, er29, hf⟩ := bd_e hf
    refine ct_V (As := []) (rest := []) (st1 := [.int r29.1]) (q0 := 2) (ci := 0) S hA hW (c_X0_station l D g z er29) (wG_V km_X4_153 ki_yX0_station ks_yX0_station kn_X0 kc_yX0_station) ⟨rfl, rfl⟩ hd_X0_station (by rw [hR]; exact ⟨Nat.le_of_ble_eq_true rfl, Nat.le_of_ble_eq_true rfl⟩) rfl rfl rfl rfl hl.1 rfl (Nat.le_of_ble_eq_true rfl) ⟨Nat.zero_le _, Nat.zero_le _⟩ dX4_isForDevice_14 rfl (fun H locs hW => ?_)
    refine lv_aload_n hx hb dX4_isForDevice_17 rfl (lv_at hl 0 rfl) ?_
    refine gX4_holdings S hW kf_X4_15 dX4_isForDevice_18 ?_
    refine gX2_shortAddress S hW kf_X4_68 dX4_isForDevice_21 ?_
    refine lv_icmp_ne (tgt := 31) hx hb dX4_isForDevice_24 (by decide) (fun c30 => ?_) (fun c30 => ?_)
    · replace hf := if_f c30 hf
      refine lv_iconst (v := 0) hx hb dX4_isForDevice_31 (by decide) ?_
      subst hf
      exact ct_z (Or.inl rfl) S hr hlocks hW dX4_isForDevice_32
    · replace hf := if_t c30 hf
      refine lv_iconst (v := 1) hx hb dX4_isForDevice_27 (by decide) ?_
      refine lv_goto (tgt := 32) hx hb dX4_isForDevice_28 (by decide) ?_
      subst hf
      exact ct_z (Or.inr rfl) S hr hlocks hW dX4_isForDevice_32
def f_X4_countFrame (z : Sg)  : Int32 × Sg := (if (gI z 22) = 0 then bd (pI z 5 ((gI z 5) + 1)) (fun z22 => (0, z22)) else bd (f_X4_isForDevice z) (fun r23 => (if r23.1 = 0 then bd (pI r23.2 5 ((gI r23.2 5) + 1)) (fun z25 => (0, z25)) else bd (pI r23.2 4 ((gI r23.2 4) + 1)) (fun z26 => (1, z26)))))
theorem hd_X4_countFrame : yX4_countFrame.cls = RX4 ∧ yX4_countFrame.cls ≠ "java/lang/invoke/MethodHandle" ∧ yX4_countFrame.cls ≠ "java/lang/invoke/VarHandle" ∧ (parseMethodDescriptor yX4_countFrame.desc).map (fun d => d.parameters.length) = some 0 := by decide +kernel
set_option maxHeartbeats 4000000 in
set_option maxRecDepth 100000 in
theorem c_X4_countFrame (l : Launch) (D : va_G) (g : Gv) (z : Sg)  {r : Int32 × Sg} (er : r = f_X4_countFrame z ) : CT D (wD g) (tD g) l yX4_countFrame (wG yX4_countFrame cX4_countFrame 2 (some .boolean)) { frames := 4, cells := 0, slots := 0, locals := 81 } [.ref (g.1 0)] z (some (.int r.1)) r.2 := by
  refine CT.ofW (by decide) (Nat.le_of_ble_eq_true rfl) ?_
  intro p e R s m args below meth c A hR S hr hlocks hA hW ls hl
  have S : CallFix p m c cX4_countFrame 2 s args wsL_law RX4 := S
  have hl : lv_has ls 2 [(0, .ref (g.1 0))] := hl
  have hx := S.1
  have hb := S.2.1
  have hf := er.symm
  clear er
  unfold f_X4_countFrame at hf
  refine lv_aload_n hx hb dX4_countFrame_0 rfl (lv_at hl 0 rfl) ?_
  refine gX4_reader S hW kf_X4_22 dX4_countFrame_1 ?_
  refine gX0_sumIsRight S hW kf_X4_144 dX4_countFrame_4 ?_
  refine lv_if_eq (tgt := 21) hx hb dX4_countFrame_7 (by decide) (fun c21 => ?_) (fun c21 => ?_)
  · replace hf := if_t c21 hf
    refine lv_iconst (v := 0) hx hb dX4_countFrame_21 (by decide) ?_
    refine lv_istore_n (lv' := [(1, .int 0), (0, .ref (g.1 0))]) hx hb dX4_countFrame_22 rfl hl (by decide) rfl (fun ls hl => ?_)
    refine lv_iload_n hx hb dX4_countFrame_23 rfl (lv_at hl 0 rfl) ?_
    refine lv_if_eq (tgt := 40) hx hb dX4_countFrame_24 (by decide) (fun _ => ?_) (fun c => absurd (by decide) c)
    refine lv_aload_n hx hb dX4_countFrame_40 rfl (lv_at hl 1 rfl) ?_
    refine lv_dup hx hb dX4_countFrame_41 rfl ?_
    refine gX4_otherFrames S hW kf_X4_95 dX4_countFrame_42 ?_
    refine lv_iconst (v := 1) hx hb dX4_countFrame_45 (by decide) ?_
    refine lv_iadd hx hb dX4_countFrame_46 ?_
    obtain ⟨z22, ez22, hf⟩ := bd_e hf
    refine pX4_otherFrames S hW kf_X4_95 dX4_countFrame_47 ez22 (fun H locs hW => ?_)
    refine lv_iload_n hx hb dX4_countFrame_50 rfl (lv_at hl 0 rfl) ?_
    subst hf
    exact ct_z (Or.inl rfl) S hr hlocks hW dX4_countFrame_51
  · replace hf := if_f c21 hf
    refine lv_aload_n hx hb dX4_countFrame_10 rfl (lv_at hl 0 rfl) ?_
    obtain ⟨r23, er23, hf⟩ := bd_e hf
    refine ct_V (As := []) (rest := []) (st1 := [.int r23.1]) (q0 := 0) (ci := 4) S hA hW (c_X4_isForDevice l D g z er23) (wG_V km_X4_147 ki_yX4_isForDevice ks_yX4_isForDevice kn_X4 kc_yX4_isForDevice) ⟨rfl, rfl⟩ hd_X4_isForDevice (by rw [hR]; exact ⟨Nat.le_of_ble_eq_true rfl, Nat.le_of_ble_eq_true rfl⟩) rfl rfl rfl rfl hl.1 rfl (Nat.le_of_ble_eq_true rfl) ⟨Nat.zero_le _, Nat.zero_le _⟩ dX4_countFrame_11 rfl (fun H locs hW => ?_)
    refine lv_if_eq (tgt := 21) hx hb dX4_countFrame_14 (by decide) (fun c24 => ?_) (fun c24 => ?_)
    · replace hf := if_t c24 hf
      refine lv_iconst (v := 0) hx hb dX4_countFrame_21 (by decide) ?_
      refine lv_istore_n (lv' := [(1, .int 0), (0, .ref (g.1 0))]) hx hb dX4_countFrame_22 rfl hl (by decide) rfl (fun ls hl => ?_)
      refine lv_iload_n hx hb dX4_countFrame_23 rfl (lv_at hl 0 rfl) ?_
      refine lv_if_eq (tgt := 40) hx hb dX4_countFrame_24 (by decide) (fun _ => ?_) (fun c => absurd (by decide) c)
      refine lv_aload_n hx hb dX4_countFrame_40 rfl (lv_at hl 1 rfl) ?_
      refine lv_dup hx hb dX4_countFrame_41 rfl ?_
      refine gX4_otherFrames S hW kf_X4_95 dX4_countFrame_42 ?_
      refine lv_iconst (v := 1) hx hb dX4_countFrame_45 (by decide) ?_
      refine lv_iadd hx hb dX4_countFrame_46 ?_
      obtain ⟨z25, ez25, hf⟩ := bd_e hf
      refine pX4_otherFrames S hW kf_X4_95 dX4_countFrame_47 ez25 (fun H locs hW => ?_)
      refine lv_iload_n hx hb dX4_countFrame_50 rfl (lv_at hl 0 rfl) ?_
      subst hf
      exact ct_z (Or.inl rfl) S hr hlocks hW dX4_countFrame_51
    · replace hf := if_f c24 hf
      refine lv_iconst (v := 1) hx hb dX4_countFrame_17 (by decide) ?_
      refine lv_goto (tgt := 22) hx hb dX4_countFrame_18 (by decide) ?_
      refine lv_istore_n (lv' := [(1, .int 1), (0, .ref (g.1 0))]) hx hb dX4_countFrame_22 rfl hl (by decide) rfl (fun ls hl => ?_)
      refine lv_iload_n hx hb dX4_countFrame_23 rfl (lv_at hl 0 rfl) ?_
      refine lv_if_eq (tgt := 40) hx hb dX4_countFrame_24 (by decide) (fun c => absurd c (by decide)) (fun _ => ?_)
      refine lv_aload_n hx hb dX4_countFrame_27 rfl (lv_at hl 1 rfl) ?_
      refine lv_dup hx hb dX4_countFrame_28 rfl ?_
      refine gX4_goodFrames S hW kf_X4_92 dX4_countFrame_29 ?_
      refine lv_iconst (v := 1) hx hb dX4_countFrame_32 (by decide) ?_
      refine lv_iadd hx hb dX4_countFrame_33 ?_
      obtain ⟨z26, ez26, hf⟩ := bd_e hf
      refine pX4_goodFrames S hW kf_X4_92 dX4_countFrame_34 ez26 (fun H locs hW => ?_)
      refine lv_goto (tgt := 50) hx hb dX4_countFrame_37 (by decide) ?_
      refine lv_iload_n hx hb dX4_countFrame_50 rfl (lv_at hl 0 rfl) ?_
      subst hf
      exact ct_z (Or.inr rfl) S hr hlocks hW dX4_countFrame_51
def f_X4_tagIsInFrame (z : Sg)  : Int32 × Sg := bd (f_X0_dataAt z 0) (fun r21 => bd (f_X2_tagByte r21.2 0) (fun r22 => (if r21.1 = r22.1 then bd (f_X0_dataAt r22.2 1) (fun r24 => bd (f_X2_tagByte r24.2 1) (fun r25 => (if r24.1 = r25.1 then bd (f_X0_dataAt r25.2 2) (fun r27 => bd (f_X2_tagByte r27.2 2) (fun r28 => (if r27.1 = r28.1 then bd (f_X0_dataAt r28.2 3) (fun r30 => bd (f_X2_tagByte r30.2 3) (fun r31 => (if r30.1 = r31.1 then bd (f_X0_dataAt r31.2 4) (fun r33 => bd (f_X2_tagByte r33.2 4) (fun r34 => (if r33.1 = r34.1 then bd (f_X0_dataAt r34.2 5) (fun r36 => bd (f_X2_tagByte r36.2 5) (fun r37 => (if r36.1 = r37.1 then (1, r37.2) else (0, r37.2)))) else (0, r34.2)))) else (0, r31.2)))) else (0, r28.2)))) else (0, r25.2)))) else (0, r22.2))))
theorem hd_X4_tagIsInFrame : yX4_tagIsInFrame.cls = RX4 ∧ yX4_tagIsInFrame.cls ≠ "java/lang/invoke/MethodHandle" ∧ yX4_tagIsInFrame.cls ≠ "java/lang/invoke/VarHandle" ∧ (parseMethodDescriptor yX4_tagIsInFrame.desc).map (fun d => d.parameters.length) = some 0 := by decide +kernel
set_option maxHeartbeats 4000000 in
set_option maxRecDepth 100000 in
theorem c_X4_tagIsInFrame (l : Launch) (D : va_G) (g : Gv) (z : Sg)  {r : Int32 × Sg} (er : r = f_X4_tagIsInFrame z ) : CT D (wD g) (tD g) l yX4_tagIsInFrame (wG yX4_tagIsInFrame cX4_tagIsInFrame 2 (some .boolean)) { frames := 1, cells := 0, slots := 0, locals := 21 } [.ref (g.1 0)] z (some (.int r.1)) r.2 := by
  refine CT.ofW (by decide) (Nat.le_of_ble_eq_true rfl) ?_
  intro p e R s m args below meth c A hR S hr hlocks hA hW ls hl
  have S : CallFix p m c cX4_tagIsInFrame 2 s args wsL_law RX4 := S
  have hl : lv_has ls 2 [(0, .ref (g.1 0))] := hl
  have hx := S.1
  have hb := S.2.1
  have hf := er.symm
  clear er
  unfold f_X4_tagIsInFrame at hf
  refine lv_iconst (v := 0) hx hb dX4_tagIsInFrame_0 (by decide) ?_
  refine lv_istore_n (lv' := [(1, .int 0), (0, .ref (g.1 0))]) hx hb dX4_tagIsInFrame_1 rfl hl (by decide) rfl (fun ls hl => ?_)
  refine lv_iload_n hx hb dX4_tagIsInFrame_2 rfl (lv_at hl 0 rfl) ?_
  refine lv_bipush (v := 6) hx hb dX4_tagIsInFrame_3 (by decide) ?_
  refine lv_icmp_ge (tgt := 35) hx hb dX4_tagIsInFrame_5 (by decide) (fun c => absurd c (by decide)) (fun _ => ?_)
  refine lv_aload_n hx hb dX4_tagIsInFrame_8 rfl (lv_at hl 1 rfl) ?_
  refine gX4_reader S hW kf_X4_22 dX4_tagIsInFrame_9 ?_
  refine lv_iload_n hx hb dX4_tagIsInFrame_12 rfl (lv_at hl 0 rfl) ?_
  obtain ⟨r21, er21, hf⟩ := bd_e hf
  refine ct_V (As := [.int 0]) (rest := []) (st1 := [.int r21.1]) (q0 := 2) (ci := 0) S hA hW (c_X0_dataAt l D g z 0 er21) (wG_V km_X4_193 ki_yX0_dataAt ks_yX0_dataAt kn_X0 kc_yX0_dataAt) ⟨rfl, rfl⟩ hd_X0_dataAt (by rw [hR]; exact ⟨Nat.le_of_ble_eq_true rfl, Nat.le_of_ble_eq_true rfl⟩) rfl rfl rfl rfl hl.1 rfl (Nat.le_of_ble_eq_true rfl) ⟨Nat.zero_le _, Nat.zero_le _⟩ dX4_tagIsInFrame_13 rfl (fun H locs hW => ?_)
  refine lv_aload_n hx hb dX4_tagIsInFrame_16 rfl (lv_at hl 1 rfl) ?_
  refine gX4_holdings S hW kf_X4_15 dX4_tagIsInFrame_17 ?_
  refine lv_iload_n hx hb dX4_tagIsInFrame_20 rfl (lv_at hl 0 rfl) ?_
  obtain ⟨r22, er22, hf⟩ := bd_e hf
  refine ct_V (As := [.int 0]) (rest := [.int r21.1]) (st1 := [.int r22.1, .int r21.1]) (q0 := 1) (ci := 2) S hA hW (c_X2_tagByte l D g r21.2 0 er22) (wG_V km_X4_98 ki_yX2_tagByte ks_yX2_tagByte kn_X2 kc_yX2_tagByte) ⟨rfl, rfl⟩ hd_X2_tagByte (by rw [hR]; exact ⟨Nat.le_of_ble_eq_true rfl, Nat.le_of_ble_eq_true rfl⟩) rfl rfl rfl rfl hl.1 rfl (Nat.le_of_ble_eq_true rfl) ⟨Nat.zero_le _, Nat.zero_le _⟩ dX4_tagIsInFrame_21 rfl (fun H locs hW => ?_)
  refine lv_icmp_eq (tgt := 29) hx hb dX4_tagIsInFrame_24 (by decide) (fun c23 => ?_) (fun c23 => ?_)
  · replace hf := if_t c23 hf
    refine lv_iinc (v := 1) (lv' := [(1, .int 1), (0, .ref (g.1 0))]) hx hb dX4_tagIsInFrame_29 hl (k := 0) rfl (by decide) (by decide) rfl (fun ls hl => ?_)
    refine lv_goto (tgt := 2) hx hb dX4_tagIsInFrame_32 (by decide) ?_
    refine lv_iload_n hx hb dX4_tagIsInFrame_2 rfl (lv_at hl 0 rfl) ?_
    refine lv_bipush (v := 6) hx hb dX4_tagIsInFrame_3 (by decide) ?_
    refine lv_icmp_ge (tgt := 35) hx hb dX4_tagIsInFrame_5 (by decide) (fun c => absurd c (by decide)) (fun _ => ?_)
    refine lv_aload_n hx hb dX4_tagIsInFrame_8 rfl (lv_at hl 1 rfl) ?_
    refine gX4_reader S hW kf_X4_22 dX4_tagIsInFrame_9 ?_
    refine lv_iload_n hx hb dX4_tagIsInFrame_12 rfl (lv_at hl 0 rfl) ?_
    obtain ⟨r24, er24, hf⟩ := bd_e hf
    refine ct_V (As := [.int 1]) (rest := []) (st1 := [.int r24.1]) (q0 := 2) (ci := 0) S hA hW (c_X0_dataAt l D g r22.2 1 er24) (wG_V km_X4_193 ki_yX0_dataAt ks_yX0_dataAt kn_X0 kc_yX0_dataAt) ⟨rfl, rfl⟩ hd_X0_dataAt (by rw [hR]; exact ⟨Nat.le_of_ble_eq_true rfl, Nat.le_of_ble_eq_true rfl⟩) rfl rfl rfl rfl hl.1 rfl (Nat.le_of_ble_eq_true rfl) ⟨Nat.zero_le _, Nat.zero_le _⟩ dX4_tagIsInFrame_13 rfl (fun H locs hW => ?_)
    refine lv_aload_n hx hb dX4_tagIsInFrame_16 rfl (lv_at hl 1 rfl) ?_
    refine gX4_holdings S hW kf_X4_15 dX4_tagIsInFrame_17 ?_
    refine lv_iload_n hx hb dX4_tagIsInFrame_20 rfl (lv_at hl 0 rfl) ?_
    obtain ⟨r25, er25, hf⟩ := bd_e hf
    refine ct_V (As := [.int 1]) (rest := [.int r24.1]) (st1 := [.int r25.1, .int r24.1]) (q0 := 1) (ci := 2) S hA hW (c_X2_tagByte l D g r24.2 1 er25) (wG_V km_X4_98 ki_yX2_tagByte ks_yX2_tagByte kn_X2 kc_yX2_tagByte) ⟨rfl, rfl⟩ hd_X2_tagByte (by rw [hR]; exact ⟨Nat.le_of_ble_eq_true rfl, Nat.le_of_ble_eq_true rfl⟩) rfl rfl rfl rfl hl.1 rfl (Nat.le_of_ble_eq_true rfl) ⟨Nat.zero_le _, Nat.zero_le _⟩ dX4_tagIsInFrame_21 rfl (fun H locs hW => ?_)
    refine lv_icmp_eq (tgt := 29) hx hb dX4_tagIsInFrame_24 (by decide) (fun c26 => ?_) (fun c26 => ?_)
    · replace hf := if_t c26 hf
      refine lv_iinc (v := 2) (lv' := [(1, .int 2), (0, .ref (g.1 0))]) hx hb dX4_tagIsInFrame_29 hl (k := 0) rfl (by decide) (by decide) rfl (fun ls hl => ?_)
      refine lv_goto (tgt := 2) hx hb dX4_tagIsInFrame_32 (by decide) ?_
      refine lv_iload_n hx hb dX4_tagIsInFrame_2 rfl (lv_at hl 0 rfl) ?_
      refine lv_bipush (v := 6) hx hb dX4_tagIsInFrame_3 (by decide) ?_
      refine lv_icmp_ge (tgt := 35) hx hb dX4_tagIsInFrame_5 (by decide) (fun c => absurd c (by decide)) (fun _ => ?_)
      refine lv_aload_n hx hb dX4_tagIsInFrame_8 rfl (lv_at hl 1 rfl) ?_
      refine gX4_reader S hW kf_X4_22 dX4_tagIsInFrame_9 ?_
      refine lv_iload_n hx hb dX4_tagIsInFrame_12 rfl (lv_at hl 0 rfl) ?_
      obtain ⟨r27, er27, hf⟩ := bd_e hf
      refine ct_V (As := [.int 2]) (rest := []) (st1 := [.int r27.1]) (q0 := 2) (ci := 0) S hA hW (c_X0_dataAt l D g r25.2 2 er27) (wG_V km_X4_193 ki_yX0_dataAt ks_yX0_dataAt kn_X0 kc_yX0_dataAt) ⟨rfl, rfl⟩ hd_X0_dataAt (by rw [hR]; exact ⟨Nat.le_of_ble_eq_true rfl, Nat.le_of_ble_eq_true rfl⟩) rfl rfl rfl rfl hl.1 rfl (Nat.le_of_ble_eq_true rfl) ⟨Nat.zero_le _, Nat.zero_le _⟩ dX4_tagIsInFrame_13 rfl (fun H locs hW => ?_)
      refine lv_aload_n hx hb dX4_tagIsInFrame_16 rfl (lv_at hl 1 rfl) ?_
      refine gX4_holdings S hW kf_X4_15 dX4_tagIsInFrame_17 ?_
      refine lv_iload_n hx hb dX4_tagIsInFrame_20 rfl (lv_at hl 0 rfl) ?_
      obtain ⟨r28, er28, hf⟩ := bd_e hf
      refine ct_V (As := [.int 2]) (rest := [.int r27.1]) (st1 := [.int r28.1, .int r27.1]) (q0 := 1) (ci := 2) S hA hW (c_X2_tagByte l D g r27.2 2 er28) (wG_V km_X4_98 ki_yX2_tagByte ks_yX2_tagByte kn_X2 kc_yX2_tagByte) ⟨rfl, rfl⟩ hd_X2_tagByte (by rw [hR]; exact ⟨Nat.le_of_ble_eq_true rfl, Nat.le_of_ble_eq_true rfl⟩) rfl rfl rfl rfl hl.1 rfl (Nat.le_of_ble_eq_true rfl) ⟨Nat.zero_le _, Nat.zero_le _⟩ dX4_tagIsInFrame_21 rfl (fun H locs hW => ?_)
      refine lv_icmp_eq (tgt := 29) hx hb dX4_tagIsInFrame_24 (by decide) (fun c29 => ?_) (fun c29 => ?_)
      · replace hf := if_t c29 hf
        refine lv_iinc (v := 3) (lv' := [(1, .int 3), (0, .ref (g.1 0))]) hx hb dX4_tagIsInFrame_29 hl (k := 0) rfl (by decide) (by decide) rfl (fun ls hl => ?_)
        refine lv_goto (tgt := 2) hx hb dX4_tagIsInFrame_32 (by decide) ?_
        refine lv_iload_n hx hb dX4_tagIsInFrame_2 rfl (lv_at hl 0 rfl) ?_
        refine lv_bipush (v := 6) hx hb dX4_tagIsInFrame_3 (by decide) ?_
        refine lv_icmp_ge (tgt := 35) hx hb dX4_tagIsInFrame_5 (by decide) (fun c => absurd c (by decide)) (fun _ => ?_)
        refine lv_aload_n hx hb dX4_tagIsInFrame_8 rfl (lv_at hl 1 rfl) ?_
        refine gX4_reader S hW kf_X4_22 dX4_tagIsInFrame_9 ?_
        refine lv_iload_n hx hb dX4_tagIsInFrame_12 rfl (lv_at hl 0 rfl) ?_
        obtain ⟨r30, er30, hf⟩ := bd_e hf
        refine ct_V (As := [.int 3]) (rest := []) (st1 := [.int r30.1]) (q0 := 2) (ci := 0) S hA hW (c_X0_dataAt l D g r28.2 3 er30) (wG_V km_X4_193 ki_yX0_dataAt ks_yX0_dataAt kn_X0 kc_yX0_dataAt) ⟨rfl, rfl⟩ hd_X0_dataAt (by rw [hR]; exact ⟨Nat.le_of_ble_eq_true rfl, Nat.le_of_ble_eq_true rfl⟩) rfl rfl rfl rfl hl.1 rfl (Nat.le_of_ble_eq_true rfl) ⟨Nat.zero_le _, Nat.zero_le _⟩ dX4_tagIsInFrame_13 rfl (fun H locs hW => ?_)
        refine lv_aload_n hx hb dX4_tagIsInFrame_16 rfl (lv_at hl 1 rfl) ?_
        refine gX4_holdings S hW kf_X4_15 dX4_tagIsInFrame_17 ?_
        refine lv_iload_n hx hb dX4_tagIsInFrame_20 rfl (lv_at hl 0 rfl) ?_
        obtain ⟨r31, er31, hf⟩ := bd_e hf
        refine ct_V (As := [.int 3]) (rest := [.int r30.1]) (st1 := [.int r31.1, .int r30.1]) (q0 := 1) (ci := 2) S hA hW (c_X2_tagByte l D g r30.2 3 er31) (wG_V km_X4_98 ki_yX2_tagByte ks_yX2_tagByte kn_X2 kc_yX2_tagByte) ⟨rfl, rfl⟩ hd_X2_tagByte (by rw [hR]; exact ⟨Nat.le_of_ble_eq_true rfl, Nat.le_of_ble_eq_true rfl⟩) rfl rfl rfl rfl hl.1 rfl (Nat.le_of_ble_eq_true rfl) ⟨Nat.zero_le _, Nat.zero_le _⟩ dX4_tagIsInFrame_21 rfl (fun H locs hW => ?_)
        refine lv_icmp_eq (tgt := 29) hx hb dX4_tagIsInFrame_24 (by decide) (fun c32 => ?_) (fun c32 => ?_)
        · replace hf := if_t c32 hf
          refine lv_iinc (v := 4) (lv' := [(1, .int 4), (0, .ref (g.1 0))]) hx hb dX4_tagIsInFrame_29 hl (k := 0) rfl (by decide) (by decide) rfl (fun ls hl => ?_)
          refine lv_goto (tgt := 2) hx hb dX4_tagIsInFrame_32 (by decide) ?_
          refine lv_iload_n hx hb dX4_tagIsInFrame_2 rfl (lv_at hl 0 rfl) ?_
          refine lv_bipush (v := 6) hx hb dX4_tagIsInFrame_3 (by decide) ?_
          refine lv_icmp_ge (tgt := 35) hx hb dX4_tagIsInFrame_5 (by decide) (fun c => absurd c (by decide)) (fun _ => ?_)
          refine lv_aload_n hx hb dX4_tagIsInFrame_8 rfl (lv_at hl 1 rfl) ?_
          refine gX4_reader S hW kf_X4_22 dX4_tagIsInFrame_9 ?_
          refine lv_iload_n hx hb dX4_tagIsInFrame_12 rfl (lv_at hl 0 rfl) ?_
          obtain ⟨r33, er33, hf⟩ := bd_e hf
          refine ct_V (As := [.int 4]) (rest := []) (st1 := [.int r33.1]) (q0 := 2) (ci := 0) S hA hW (c_X0_dataAt l D g r31.2 4 er33) (wG_V km_X4_193 ki_yX0_dataAt ks_yX0_dataAt kn_X0 kc_yX0_dataAt) ⟨rfl, rfl⟩ hd_X0_dataAt (by rw [hR]; exact ⟨Nat.le_of_ble_eq_true rfl, Nat.le_of_ble_eq_true rfl⟩) rfl rfl rfl rfl hl.1 rfl (Nat.le_of_ble_eq_true rfl) ⟨Nat.zero_le _, Nat.zero_le _⟩ dX4_tagIsInFrame_13 rfl (fun H locs hW => ?_)
          refine lv_aload_n hx hb dX4_tagIsInFrame_16 rfl (lv_at hl 1 rfl) ?_
          refine gX4_holdings S hW kf_X4_15 dX4_tagIsInFrame_17 ?_
          refine lv_iload_n hx hb dX4_tagIsInFrame_20 rfl (lv_at hl 0 rfl) ?_
          obtain ⟨r34, er34, hf⟩ := bd_e hf
          refine ct_V (As := [.int 4]) (rest := [.int r33.1]) (st1 := [.int r34.1, .int r33.1]) (q0 := 1) (ci := 2) S hA hW (c_X2_tagByte l D g r33.2 4 er34) (wG_V km_X4_98 ki_yX2_tagByte ks_yX2_tagByte kn_X2 kc_yX2_tagByte) ⟨rfl, rfl⟩ hd_X2_tagByte (by rw [hR]; exact ⟨Nat.le_of_ble_eq_true rfl, Nat.le_of_ble_eq_true rfl⟩) rfl rfl rfl rfl hl.1 rfl (Nat.le_of_ble_eq_true rfl) ⟨Nat.zero_le _, Nat.zero_le _⟩ dX4_tagIsInFrame_21 rfl (fun H locs hW => ?_)
          refine lv_icmp_eq (tgt := 29) hx hb dX4_tagIsInFrame_24 (by decide) (fun c35 => ?_) (fun c35 => ?_)
          · replace hf := if_t c35 hf
            refine lv_iinc (v := 5) (lv' := [(1, .int 5), (0, .ref (g.1 0))]) hx hb dX4_tagIsInFrame_29 hl (k := 0) rfl (by decide) (by decide) rfl (fun ls hl => ?_)
            refine lv_goto (tgt := 2) hx hb dX4_tagIsInFrame_32 (by decide) ?_
            refine lv_iload_n hx hb dX4_tagIsInFrame_2 rfl (lv_at hl 0 rfl) ?_
            refine lv_bipush (v := 6) hx hb dX4_tagIsInFrame_3 (by decide) ?_
            refine lv_icmp_ge (tgt := 35) hx hb dX4_tagIsInFrame_5 (by decide) (fun c => absurd c (by decide)) (fun _ => ?_)
            refine lv_aload_n hx hb dX4_tagIsInFrame_8 rfl (lv_at hl 1 rfl) ?_
            refine gX4_reader S hW kf_X4_22 dX4_tagIsInFrame_9 ?_
            refine lv_iload_n hx hb dX4_tagIsInFrame_12 rfl (lv_at hl 0 rfl) ?_
            obtain ⟨r36, er36, hf⟩ := bd_e hf
            refine ct_V (As := [.int 5]) (rest := []) (st1 := [.int r36.1]) (q0 := 2) (ci := 0) S hA hW (c_X0_dataAt l D g r34.2 5 er36) (wG_V km_X4_193 ki_yX0_dataAt ks_yX0_dataAt kn_X0 kc_yX0_dataAt) ⟨rfl, rfl⟩ hd_X0_dataAt (by rw [hR]; exact ⟨Nat.le_of_ble_eq_true rfl, Nat.le_of_ble_eq_true rfl⟩) rfl rfl rfl rfl hl.1 rfl (Nat.le_of_ble_eq_true rfl) ⟨Nat.zero_le _, Nat.zero_le _⟩ dX4_tagIsInFrame_13 rfl (fun H locs hW => ?_)
            refine lv_aload_n hx hb dX4_tagIsInFrame_16 rfl (lv_at hl 1 rfl) ?_
            refine gX4_holdings S hW kf_X4_15 dX4_tagIsInFrame_17 ?_
            refine lv_iload_n hx hb dX4_tagIsInFrame_20 rfl (lv_at hl 0 rfl) ?_
            obtain ⟨r37, er37, hf⟩ := bd_e hf
            refine ct_V (As := [.int 5]) (rest := [.int r36.1]) (st1 := [.int r37.1, .int r36.1]) (q0 := 1) (ci := 2) S hA hW (c_X2_tagByte l D g r36.2 5 er37) (wG_V km_X4_98 ki_yX2_tagByte ks_yX2_tagByte kn_X2 kc_yX2_tagByte) ⟨rfl, rfl⟩ hd_X2_tagByte (by rw [hR]; exact ⟨Nat.le_of_ble_eq_true rfl, Nat.le_of_ble_eq_true rfl⟩) rfl rfl rfl rfl hl.1 rfl (Nat.le_of_ble_eq_true rfl) ⟨Nat.zero_le _, Nat.zero_le _⟩ dX4_tagIsInFrame_21 rfl (fun H locs hW => ?_)
            refine lv_icmp_eq (tgt := 29) hx hb dX4_tagIsInFrame_24 (by decide) (fun c38 => ?_) (fun c38 => ?_)
            · replace hf := if_t c38 hf
              refine lv_iinc (v := 6) (lv' := [(1, .int 6), (0, .ref (g.1 0))]) hx hb dX4_tagIsInFrame_29 hl (k := 0) rfl (by decide) (by decide) rfl (fun ls hl => ?_)
              refine lv_goto (tgt := 2) hx hb dX4_tagIsInFrame_32 (by decide) ?_
              refine lv_iload_n hx hb dX4_tagIsInFrame_2 rfl (lv_at hl 0 rfl) ?_
              refine lv_bipush (v := 6) hx hb dX4_tagIsInFrame_3 (by decide) ?_
              refine lv_icmp_ge (tgt := 35) hx hb dX4_tagIsInFrame_5 (by decide) (fun _ => ?_) (fun c => absurd (by decide) c)
              refine lv_iconst (v := 1) hx hb dX4_tagIsInFrame_35 (by decide) ?_
              subst hf
              exact ct_z (Or.inr rfl) S hr hlocks hW dX4_tagIsInFrame_36
            · replace hf := if_f c38 hf
              refine lv_iconst (v := 0) hx hb dX4_tagIsInFrame_27 (by decide) ?_
              subst hf
              exact ct_z (Or.inl rfl) S hr hlocks hW dX4_tagIsInFrame_28
          · replace hf := if_f c35 hf
            refine lv_iconst (v := 0) hx hb dX4_tagIsInFrame_27 (by decide) ?_
            subst hf
            exact ct_z (Or.inl rfl) S hr hlocks hW dX4_tagIsInFrame_28
        · replace hf := if_f c32 hf
          refine lv_iconst (v := 0) hx hb dX4_tagIsInFrame_27 (by decide) ?_
          subst hf
          exact ct_z (Or.inl rfl) S hr hlocks hW dX4_tagIsInFrame_28
      · replace hf := if_f c29 hf
        refine lv_iconst (v := 0) hx hb dX4_tagIsInFrame_27 (by decide) ?_
        subst hf
        exact ct_z (Or.inl rfl) S hr hlocks hW dX4_tagIsInFrame_28
    · replace hf := if_f c26 hf
      refine lv_iconst (v := 0) hx hb dX4_tagIsInFrame_27 (by decide) ?_
      subst hf
      exact ct_z (Or.inl rfl) S hr hlocks hW dX4_tagIsInFrame_28
  · replace hf := if_f c23 hf
    refine lv_iconst (v := 0) hx hb dX4_tagIsInFrame_27 (by decide) ?_
    subst hf
    exact ct_z (Or.inl rfl) S hr hlocks hW dX4_tagIsInFrame_28
def f_X4_codeOfFrame (z : Sg)  : Int32 × Sg := bd (f_X4_countOfCommand z (gI z 20)) (fun r21 => bd (r21.1) (fun x22 => (if x22 = (-1) then (64, r21.2) else (if (gI r21.2 21) = x22 then bd (f_X0_dataAt r21.2 0) (fun r25 => bd (r25.1) (fun x26 => (if (gI r25.2 20) = 6 then (if x26 ≤ 15 then (0, r25.2) else (2, r25.2)) else (if (gI r25.2 20) = 11 then bd (f_X4_tagIsInFrame r25.2) (fun r30 => (if r30.1 = 0 then (65, r30.2) else (0, r30.2))) else (if (gI r25.2 20) = 35 then bd (f_X0_fourAt r25.2 1) (fun r33 => bd (f_X0_fourAt r33.2 5) (fun r34 => bd (f_X4_codeOfEnds r34.2 r33.1 r34.1) (fun r35 => (r35.1, r35.2)))) else (if (gI r25.2 20) = 108 then (if x26 < 1 then (2, r25.2) else (if x26 ≤ 3 then (0, r25.2) else (2, r25.2))) else (if (gI r25.2 20) = 109 then (if x26 ≤ 1 then (0, r25.2) else (2, r25.2)) else (0, r25.2)))))))) else (5, r21.2)))))
theorem hd_X4_codeOfFrame : yX4_codeOfFrame.cls = RX4 ∧ yX4_codeOfFrame.cls ≠ "java/lang/invoke/MethodHandle" ∧ yX4_codeOfFrame.cls ≠ "java/lang/invoke/VarHandle" ∧ (parseMethodDescriptor yX4_codeOfFrame.desc).map (fun d => d.parameters.length) = some 0 := by decide +kernel
set_option maxHeartbeats 4000000 in
set_option maxRecDepth 100000 in
theorem c_X4_codeOfFrame (l : Launch) (D : va_G) (g : Gv) (z : Sg)  {r : Int32 × Sg} (er : r = f_X4_codeOfFrame z ) : CT D (wD g) (tD g) l yX4_codeOfFrame (wG yX4_codeOfFrame cX4_codeOfFrame 3 (some .int)) { frames := 2, cells := 0, slots := 0, locals := 42 } [.ref (g.1 0)] z (some (.int r.1)) r.2 := by
  refine CT.ofW (by decide) (Nat.le_of_ble_eq_true rfl) ?_
  intro p e R s m args below meth c A hR S hr hlocks hA hW ls hl
  have S : CallFix p m c cX4_codeOfFrame 3 s args wsL_law RX4 := S
  have hl : lv_has ls 3 [(0, .ref (g.1 0))] := hl
  have hx := S.1
  have hb := S.2.1
  have hf := er.symm
  clear er
  unfold f_X4_codeOfFrame at hf
  refine lv_aload_n hx hb dX4_codeOfFrame_0 rfl (lv_at hl 0 rfl) ?_
  refine gX4_reader S hW kf_X4_22 dX4_codeOfFrame_1 ?_
  refine gX0_command S hW kf_X4_169 dX4_codeOfFrame_4 ?_
  obtain ⟨r21, er21, hf⟩ := bd_e hf
  refine ct_S (As := [.int (gI z 20)]) (rest := []) (st1 := [.int r21.1]) S hA hW (c_X4_countOfCommand l D g z (gI z 20) er21) (wG_S km_X4_187 kz_yX4_countOfCommand kn_X4 kc_yX4_countOfCommand) ⟨rfl, rfl⟩ hd_X4_countOfCommand (by rw [hR]; exact ⟨Nat.le_of_ble_eq_true rfl, Nat.le_of_ble_eq_true rfl⟩) rfl rfl hl.1 rfl (Nat.le_of_ble_eq_true rfl) ⟨Nat.zero_le _, Nat.zero_le _⟩ dX4_codeOfFrame_7 rfl (fun H locs hW => ?_)
  obtain ⟨x22, ex22, hf⟩ := bd_e hf
  refine lv_nmi ex22 ?_
  refine lv_istore_n (lv' := [(1, .int x22), (0, .ref (g.1 0))]) hx hb dX4_codeOfFrame_10 rfl hl (by decide) rfl (fun ls hl => ?_)
  refine lv_iload_n hx hb dX4_codeOfFrame_11 rfl (lv_at hl 0 rfl) ?_
  refine lv_iconst (v := (-1)) hx hb dX4_codeOfFrame_12 (by decide) ?_
  refine lv_icmp_ne (tgt := 19) hx hb dX4_codeOfFrame_13 (by decide) (fun c23 => ?_) (fun c23 => ?_)
  · replace hf := if_f c23 hf
    refine lv_aload_n hx hb dX4_codeOfFrame_19 rfl (lv_at hl 1 rfl) ?_
    refine gX4_reader S hW kf_X4_22 dX4_codeOfFrame_20 ?_
    refine gX0_count S hW kf_X4_190 dX4_codeOfFrame_23 ?_
    refine lv_iload_n hx hb dX4_codeOfFrame_26 rfl (lv_at hl 0 rfl) ?_
    refine lv_icmp_eq (tgt := 32) hx hb dX4_codeOfFrame_27 (by decide) (fun c24 => ?_) (fun c24 => ?_)
    · replace hf := if_t c24 hf
      refine lv_aload_n hx hb dX4_codeOfFrame_32 rfl (lv_at hl 1 rfl) ?_
      refine gX4_reader S hW kf_X4_22 dX4_codeOfFrame_33 ?_
      refine lv_iconst (v := 0) hx hb dX4_codeOfFrame_36 (by decide) ?_
      obtain ⟨r25, er25, hf⟩ := bd_e hf
      refine ct_V (As := [.int 0]) (rest := []) (st1 := [.int r25.1]) (q0 := 2) (ci := 0) S hA hW (c_X0_dataAt l D g r21.2 0 er25) (wG_V km_X4_193 ki_yX0_dataAt ks_yX0_dataAt kn_X0 kc_yX0_dataAt) ⟨rfl, rfl⟩ hd_X0_dataAt (by rw [hR]; exact ⟨Nat.le_of_ble_eq_true rfl, Nat.le_of_ble_eq_true rfl⟩) rfl rfl rfl rfl hl.1 rfl (Nat.le_of_ble_eq_true rfl) ⟨Nat.zero_le _, Nat.zero_le _⟩ dX4_codeOfFrame_37 rfl (fun H locs hW => ?_)
      obtain ⟨x26, ex26, hf⟩ := bd_e hf
      refine lv_nmi ex26 ?_
      refine lv_istore_n (lv' := [(2, .int x26), (1, .int x22), (0, .ref (g.1 0))]) hx hb dX4_codeOfFrame_40 rfl hl (by decide) rfl (fun ls hl => ?_)
      refine lv_aload_n hx hb dX4_codeOfFrame_41 rfl (lv_at hl 2 rfl) ?_
      refine gX4_reader S hW kf_X4_22 dX4_codeOfFrame_42 ?_
      refine gX0_command S hW kf_X4_169 dX4_codeOfFrame_45 ?_
      by_cases c27 : (gI r25.2 20) = 6
      · replace hf := if_t c27 hf
        refine lv_lookup (off := 52) (tgt := 100) hx hb dX4_codeOfFrame_48 (by decide) (by rw [c27]; decide) (by decide) ?_
        refine lv_iload_n hx hb dX4_codeOfFrame_100 rfl (lv_at hl 0 rfl) ?_
        refine lv_bipush (v := 15) hx hb dX4_codeOfFrame_101 (by decide) ?_
        refine lv_icmp_le (tgt := 110) hx hb dX4_codeOfFrame_103 (by decide) (fun c28 => ?_) (fun c28 => ?_)
        · replace hf := if_t c28 hf
          refine lv_iconst (v := 0) hx hb dX4_codeOfFrame_110 (by decide) ?_
          subst hf
          exact ct_i S hr hlocks hW dX4_codeOfFrame_111
        · replace hf := if_f c28 hf
          refine lv_iconst (v := 2) hx hb dX4_codeOfFrame_106 (by decide) ?_
          refine lv_goto (tgt := 111) hx hb dX4_codeOfFrame_107 (by decide) ?_
          subst hf
          exact ct_i S hr hlocks hW dX4_codeOfFrame_111
      replace hf := if_f c27 hf
      by_cases c29 : (gI r25.2 20) = 11
      · replace hf := if_t c29 hf
        refine lv_lookup (off := 64) (tgt := 112) hx hb dX4_codeOfFrame_48 (by decide) (by rw [c29]; decide) (by decide) ?_
        refine lv_aload_n hx hb dX4_codeOfFrame_112 rfl (lv_at hl 2 rfl) ?_
        obtain ⟨r30, er30, hf⟩ := bd_e hf
        refine ct_V (As := []) (rest := []) (st1 := [.int r30.1]) (q0 := 0) (ci := 4) S hA hW (c_X4_tagIsInFrame l D g r25.2 er30) (wG_V km_X4_196 ki_yX4_tagIsInFrame ks_yX4_tagIsInFrame kn_X4 kc_yX4_tagIsInFrame) ⟨rfl, rfl⟩ hd_X4_tagIsInFrame (by rw [hR]; exact ⟨Nat.le_of_ble_eq_true rfl, Nat.le_of_ble_eq_true rfl⟩) rfl rfl rfl rfl hl.1 rfl (Nat.le_of_ble_eq_true rfl) ⟨Nat.zero_le _, Nat.zero_le _⟩ dX4_codeOfFrame_113 rfl (fun H locs hW => ?_)
        refine lv_if_eq (tgt := 123) hx hb dX4_codeOfFrame_116 (by decide) (fun c31 => ?_) (fun c31 => ?_)
        · replace hf := if_t c31 hf
          refine lv_bipush (v := 65) hx hb dX4_codeOfFrame_123 (by decide) ?_
          subst hf
          exact ct_i S hr hlocks hW dX4_codeOfFrame_125
        · replace hf := if_f c31 hf
          refine lv_iconst (v := 0) hx hb dX4_codeOfFrame_119 (by decide) ?_
          refine lv_goto (tgt := 125) hx hb dX4_codeOfFrame_120 (by decide) ?_
          subst hf
          exact ct_i S hr hlocks hW dX4_codeOfFrame_125
      replace hf := if_f c29 hf
      by_cases c32 : (gI r25.2 20) = 35
      · replace hf := if_t c32 hf
        refine lv_lookup (off := 78) (tgt := 126) hx hb dX4_codeOfFrame_48 (by decide) (by rw [c32]; decide) (by decide) ?_
        refine lv_aload_n hx hb dX4_codeOfFrame_126 rfl (lv_at hl 2 rfl) ?_
        refine gX4_reader S hW kf_X4_22 dX4_codeOfFrame_127 ?_
        refine lv_iconst (v := 1) hx hb dX4_codeOfFrame_130 (by decide) ?_
        obtain ⟨r33, er33, hf⟩ := bd_e hf
        refine ct_V (As := [.int 1]) (rest := []) (st1 := [.int r33.1]) (q0 := 2) (ci := 0) S hA hW (c_X0_fourAt l D g r25.2 1 er33) (wG_V km_X4_199 ki_yX0_fourAt ks_yX0_fourAt kn_X0 kc_yX0_fourAt) ⟨rfl, rfl⟩ hd_X0_fourAt (by rw [hR]; exact ⟨Nat.le_of_ble_eq_true rfl, Nat.le_of_ble_eq_true rfl⟩) rfl rfl rfl rfl hl.1 rfl (Nat.le_of_ble_eq_true rfl) ⟨Nat.zero_le _, Nat.zero_le _⟩ dX4_codeOfFrame_131 rfl (fun H locs hW => ?_)
        refine lv_aload_n hx hb dX4_codeOfFrame_134 rfl (lv_at hl 2 rfl) ?_
        refine gX4_reader S hW kf_X4_22 dX4_codeOfFrame_135 ?_
        refine lv_iconst (v := 5) hx hb dX4_codeOfFrame_138 (by decide) ?_
        obtain ⟨r34, er34, hf⟩ := bd_e hf
        refine ct_V (As := [.int 5]) (rest := [.int r33.1]) (st1 := [.int r34.1, .int r33.1]) (q0 := 2) (ci := 0) S hA hW (c_X0_fourAt l D g r33.2 5 er34) (wG_V km_X4_199 ki_yX0_fourAt ks_yX0_fourAt kn_X0 kc_yX0_fourAt) ⟨rfl, rfl⟩ hd_X0_fourAt (by rw [hR]; exact ⟨Nat.le_of_ble_eq_true rfl, Nat.le_of_ble_eq_true rfl⟩) rfl rfl rfl rfl hl.1 rfl (Nat.le_of_ble_eq_true rfl) ⟨Nat.zero_le _, Nat.zero_le _⟩ dX4_codeOfFrame_139 rfl (fun H locs hW => ?_)
        obtain ⟨r35, er35, hf⟩ := bd_e hf
        refine ct_S (As := [.int r33.1, .int r34.1]) (rest := []) (st1 := [.int r35.1]) S hA hW (c_X4_codeOfEnds l D g r34.2 r33.1 r34.1 er35) (wG_S km_X4_202 kz_yX4_codeOfEnds kn_X4 kc_yX4_codeOfEnds) ⟨rfl, rfl⟩ hd_X4_codeOfEnds (by rw [hR]; exact ⟨Nat.le_of_ble_eq_true rfl, Nat.le_of_ble_eq_true rfl⟩) rfl rfl hl.1 rfl (Nat.le_of_ble_eq_true rfl) ⟨Nat.zero_le _, Nat.zero_le _⟩ dX4_codeOfFrame_142 rfl (fun H locs hW => ?_)
        subst hf
        exact ct_i S hr hlocks hW dX4_codeOfFrame_145
      replace hf := if_f c32 hf
      by_cases c36 : (gI r25.2 20) = 108
      · replace hf := if_t c36 hf
        refine lv_lookup (off := 98) (tgt := 146) hx hb dX4_codeOfFrame_48 (by decide) (by rw [c36]; decide) (by decide) ?_
        refine lv_iload_n hx hb dX4_codeOfFrame_146 rfl (lv_at hl 0 rfl) ?_
        refine lv_iconst (v := 1) hx hb dX4_codeOfFrame_147 (by decide) ?_
        refine lv_icmp_lt (tgt := 156) hx hb dX4_codeOfFrame_148 (by decide) (fun c37 => ?_) (fun c37 => ?_)
        · replace hf := if_t c37 hf
          refine lv_iconst (v := 2) hx hb dX4_codeOfFrame_156 (by decide) ?_
          refine lv_goto (tgt := 161) hx hb dX4_codeOfFrame_157 (by decide) ?_
          subst hf
          exact ct_i S hr hlocks hW dX4_codeOfFrame_161
        · replace hf := if_f c37 hf
          refine lv_iload_n hx hb dX4_codeOfFrame_151 rfl (lv_at hl 0 rfl) ?_
          refine lv_iconst (v := 3) hx hb dX4_codeOfFrame_152 (by decide) ?_
          refine lv_icmp_le (tgt := 160) hx hb dX4_codeOfFrame_153 (by decide) (fun c38 => ?_) (fun c38 => ?_)
          · replace hf := if_t c38 hf
            refine lv_iconst (v := 0) hx hb dX4_codeOfFrame_160 (by decide) ?_
            subst hf
            exact ct_i S hr hlocks hW dX4_codeOfFrame_161
          · replace hf := if_f c38 hf
            refine lv_iconst (v := 2) hx hb dX4_codeOfFrame_156 (by decide) ?_
            refine lv_goto (tgt := 161) hx hb dX4_codeOfFrame_157 (by decide) ?_
            subst hf
            exact ct_i S hr hlocks hW dX4_codeOfFrame_161
      replace hf := if_f c36 hf
      by_cases c39 : (gI r25.2 20) = 109
      · replace hf := if_t c39 hf
        refine lv_lookup (off := 114) (tgt := 162) hx hb dX4_codeOfFrame_48 (by decide) (by rw [c39]; decide) (by decide) ?_
        refine lv_iload_n hx hb dX4_codeOfFrame_162 rfl (lv_at hl 0 rfl) ?_
        refine lv_iconst (v := 1) hx hb dX4_codeOfFrame_163 (by decide) ?_
        refine lv_icmp_le (tgt := 171) hx hb dX4_codeOfFrame_164 (by decide) (fun c40 => ?_) (fun c40 => ?_)
        · replace hf := if_t c40 hf
          refine lv_iconst (v := 0) hx hb dX4_codeOfFrame_171 (by decide) ?_
          subst hf
          exact ct_i S hr hlocks hW dX4_codeOfFrame_172
        · replace hf := if_f c40 hf
          refine lv_iconst (v := 2) hx hb dX4_codeOfFrame_167 (by decide) ?_
          refine lv_goto (tgt := 172) hx hb dX4_codeOfFrame_168 (by decide) ?_
          subst hf
          exact ct_i S hr hlocks hW dX4_codeOfFrame_172
      replace hf := if_f c39 hf
      refine lv_lookup (off := 125) (tgt := 173) hx hb dX4_codeOfFrame_48 (by decide) ((lv_osw (k := 6) c27 (by decide)).trans ((lv_osw (k := 11) c29 (by decide)).trans ((lv_osw (k := 35) c32 (by decide)).trans ((lv_osw (k := 108) c36 (by decide)).trans ((lv_osw (k := 109) c39 (by decide)).trans (rfl)))))) (by decide) ?_
      refine lv_iconst (v := 0) hx hb dX4_codeOfFrame_173 (by decide) ?_
      subst hf
      exact ct_i S hr hlocks hW dX4_codeOfFrame_174
    · replace hf := if_f c24 hf
      refine lv_iconst (v := 5) hx hb dX4_codeOfFrame_30 (by decide) ?_
      subst hf
      exact ct_i S hr hlocks hW dX4_codeOfFrame_31
  · replace hf := if_t c23 hf
    refine lv_bipush (v := 64) hx hb dX4_codeOfFrame_16 (by decide) ?_
    subst hf
    exact ct_i S hr hlocks hW dX4_codeOfFrame_18
def f_X4_carryOut_224 (z : Sg) (y1 : Int32) : Sg := bd (f_X4_setsSomething z y1) (fun r54 => (if r54.1 = 0 then r54.2 else bd (pI r54.2 14 3) (fun z56 => z56)))
def f_X4_carryOut (z : Sg) (x1 : Int32) (x2 : Int32) : Sg := (if x1 = 6 then bd (f_X0_dataAt z 0) (fun r22 => bd (pI r22.2 10 r22.1) (fun z23 => f_X4_carryOut_224 z23 x1)) else (if x1 = 18 then bd (f_X0_dataAt z 0) (fun r25 => bd (f_X2_setTagByte r25.2 0 r25.1) (fun z26 => bd (f_X0_dataAt z26 1) (fun r27 => bd (f_X2_setTagByte r27.2 1 r27.1) (fun z28 => bd (f_X0_dataAt z28 2) (fun r29 => bd (f_X2_setTagByte r29.2 2 r29.1) (fun z30 => bd (f_X0_dataAt z30 3) (fun r31 => bd (f_X2_setTagByte r31.2 3 r31.1) (fun z32 => bd (f_X0_dataAt z32 4) (fun r33 => bd (f_X2_setTagByte r33.2 4 r33.1) (fun z34 => bd (f_X0_dataAt z34 5) (fun r35 => bd (f_X2_setTagByte r35.2 5 r35.1) (fun z36 => f_X4_carryOut_224 z36 x1)))))))))))) else (if x1 = 35 then bd (f_X0_dataAt z 0) (fun r38 => bd (pI r38.2 11 r38.1) (fun z39 => bd (f_X0_fourAt z39 1) (fun r40 => bd (pI r40.2 13 r40.1) (fun z41 => bd (f_X0_fourAt z41 5) (fun r42 => bd (pI r42.2 12 r42.1) (fun z43 => f_X4_carryOut_224 z43 x1)))))) else (if x1 = 38 then bd (pI z 14 ((gI z 14) &&& ((1 <<< (x2 &&& 31)) ^^^ (-1)))) (fun z45 => f_X4_carryOut_224 z45 x1) else (if x1 = 108 then bd (f_X0_dataAt z 0) (fun r47 => bd (pI r47.2 18 r47.1) (fun z48 => f_X4_carryOut_224 z48 x1)) else (if x1 = 109 then bd (f_X0_dataAt z 0) (fun r50 => (if r50.1 = 1 then bd (pI r50.2 17 1) (fun z53 => f_X4_carryOut_224 z53 x1) else bd (pI r50.2 17 0) (fun z52 => f_X4_carryOut_224 z52 x1))) else f_X4_carryOut_224 z x1))))))
theorem hd_X4_carryOut : yX4_carryOut.cls = RX4 ∧ yX4_carryOut.cls ≠ "java/lang/invoke/MethodHandle" ∧ yX4_carryOut.cls ≠ "java/lang/invoke/VarHandle" ∧ (parseMethodDescriptor yX4_carryOut.desc).map (fun d => d.parameters.length) = some 2 := by decide +kernel
set_option maxHeartbeats 4000000 in
set_option maxRecDepth 100000 in
theorem c_X4_carryOut (l : Launch) (D : va_G) (g : Gv) (z : Sg) (x1 : Int32) (x2 : Int32) {r : Sg} (er : r = f_X4_carryOut z x1 x2) : CT D (wD g) (tD g) l yX4_carryOut (wG yX4_carryOut cX4_carryOut 4 none) { frames := 2, cells := 0, slots := 0, locals := 42 } [.ref (g.1 0), .int x1, .int x2] z none r := by
  refine CT.ofW (by decide) (Nat.le_of_ble_eq_true rfl) ?_
  intro p e R s m args below meth c A hR S hr hlocks hA hW ls hl
  have S : CallFix p m c cX4_carryOut 4 s args wsL_law RX4 := S
  have hl : lv_has ls 4 [(0, .ref (g.1 0)), (1, .int x1), (2, .int x2)] := hl
  have hx := S.1
  have hb := S.2.1
  have hf := er.symm
  clear er
  have J_224 : ∀ (z : Sg) (y1 : Int32) (H : Heap) (locs : List Loc) (ls : Array Slot), Wd D (wD g) (tD g) A s H locs z → lv_has ls 4 [(0, .ref (g.1 0)), (1, .int y1)] → f_X4_carryOut_224 z y1 = r → W p l e R s m args below meth c H locs 0 0 (MQ below (CQ D (wD g) A none r) args s 0 0 A) (F0 m 224 ls []) := by
    intro z y1 H locs ls hW hl hf
    unfold f_X4_carryOut_224 at hf
    refine lv_iload_n hx hb dX4_carryOut_224 rfl (lv_at hl 1 rfl) ?_
    obtain ⟨r54, er54, hf⟩ := bd_e hf
    refine ct_S (As := [.int y1]) (rest := []) (st1 := [.int r54.1]) S hA hW (c_X4_setsSomething l D g z y1 er54) (wG_S km_X4_212 kz_yX4_setsSomething kn_X4 kc_yX4_setsSomething) ⟨rfl, rfl⟩ hd_X4_setsSomething (by rw [hR]; exact ⟨Nat.le_of_ble_eq_true rfl, Nat.le_of_ble_eq_true rfl⟩) rfl rfl hl.1 rfl (Nat.le_of_ble_eq_true rfl) ⟨Nat.zero_le _, Nat.zero_le _⟩ dX4_carryOut_225 rfl (fun H locs hW => ?_)
    refine lv_if_eq (tgt := 239) hx hb dX4_carryOut_228 (by decide) (fun c55 => ?_) (fun c55 => ?_)
    · replace hf := if_t c55 hf
      subst hf
      exact ct_v S hr hlocks hW dX4_carryOut_239
    · replace hf := if_f c55 hf
      refine lv_aload_n hx hb dX4_carryOut_231 rfl (lv_at hl 0 rfl) ?_
      refine gX4_holdings S hW kf_X4_15 dX4_carryOut_232 ?_
      refine lv_iconst (v := 3) hx hb dX4_carryOut_235 (by decide) ?_
      obtain ⟨z56, ez56, hf⟩ := bd_e hf
      refine pX2_changed S hW kf_X4_209 dX4_carryOut_236 ez56 (fun H locs hW => ?_)
      subst hf
      exact ct_v S hr hlocks hW dX4_carryOut_239
  unfold f_X4_carryOut at hf
  refine lv_iload_n hx hb dX4_carryOut_0 rfl (lv_at hl 1 rfl) ?_
  by_cases c21 : x1 = 6
  · replace hf := if_t c21 hf
    refine lv_lookup (off := 59) (tgt := 60) hx hb dX4_carryOut_1 (by decide) (by rw [c21]; decide) (by decide) ?_
    refine lv_aload_n hx hb dX4_carryOut_60 rfl (lv_at hl 0 rfl) ?_
    refine gX4_holdings S hW kf_X4_15 dX4_carryOut_61 ?_
    refine lv_aload_n hx hb dX4_carryOut_64 rfl (lv_at hl 0 rfl) ?_
    refine gX4_reader S hW kf_X4_22 dX4_carryOut_65 ?_
    refine lv_iconst (v := 0) hx hb dX4_carryOut_68 (by decide) ?_
    obtain ⟨r22, er22, hf⟩ := bd_e hf
    refine ct_V (As := [.int 0]) (rest := [.ref (g.1 1)]) (st1 := [.int r22.1, .ref (g.1 1)]) (q0 := 2) (ci := 0) S hA hW (c_X0_dataAt l D g z 0 er22) (wG_V km_X4_193 ki_yX0_dataAt ks_yX0_dataAt kn_X0 kc_yX0_dataAt) ⟨rfl, rfl⟩ hd_X0_dataAt (by rw [hR]; exact ⟨Nat.le_of_ble_eq_true rfl, Nat.le_of_ble_eq_true rfl⟩) rfl rfl rfl rfl hl.1 rfl (Nat.le_of_ble_eq_true rfl) ⟨Nat.zero_le _, Nat.zero_le _⟩ dX4_carryOut_69 rfl (fun H locs hW => ?_)
    obtain ⟨z23, ez23, hf⟩ := bd_e hf
    refine pX2_shortAddress S hW kf_X4_68 dX4_carryOut_72 ez23 (fun H locs hW => ?_)
    refine lv_goto (tgt := 224) hx hb dX4_carryOut_75 (by decide) ?_
    exact J_224 z23 x1 _ _ ls hW (lv_sub hl [0, 1] rfl) hf
  replace hf := if_f c21 hf
  by_cases c24 : x1 = 18
  · replace hf := if_t c24 hf
    refine lv_lookup (off := 77) (tgt := 78) hx hb dX4_carryOut_1 (by decide) (by rw [c24]; decide) (by decide) ?_
    refine lv_iconst (v := 0) hx hb dX4_carryOut_78 (by decide) ?_
    refine lv_istore_n (lv' := [(3, .int 0), (0, .ref (g.1 0)), (1, .int x1), (2, .int x2)]) hx hb dX4_carryOut_79 rfl hl (by decide) rfl (fun ls hl => ?_)
    refine lv_iload_n hx hb dX4_carryOut_80 rfl (lv_at hl 0 rfl) ?_
    refine lv_bipush (v := 6) hx hb dX4_carryOut_81 (by decide) ?_
    refine lv_icmp_ge (tgt := 108) hx hb dX4_carryOut_83 (by decide) (fun c => absurd c (by decide)) (fun _ => ?_)
    refine lv_aload_n hx hb dX4_carryOut_86 rfl (lv_at hl 1 rfl) ?_
    refine gX4_holdings S hW kf_X4_15 dX4_carryOut_87 ?_
    refine lv_iload_n hx hb dX4_carryOut_90 rfl (lv_at hl 0 rfl) ?_
    refine lv_aload_n hx hb dX4_carryOut_91 rfl (lv_at hl 1 rfl) ?_
    refine gX4_reader S hW kf_X4_22 dX4_carryOut_92 ?_
    refine lv_iload_n hx hb dX4_carryOut_95 rfl (lv_at hl 0 rfl) ?_
    obtain ⟨r25, er25, hf⟩ := bd_e hf
    refine ct_V (As := [.int 0]) (rest := [.int 0, .ref (g.1 1)]) (st1 := [.int r25.1, .int 0, .ref (g.1 1)]) (q0 := 2) (ci := 0) S hA hW (c_X0_dataAt l D g z 0 er25) (wG_V km_X4_193 ki_yX0_dataAt ks_yX0_dataAt kn_X0 kc_yX0_dataAt) ⟨rfl, rfl⟩ hd_X0_dataAt (by rw [hR]; exact ⟨Nat.le_of_ble_eq_true rfl, Nat.le_of_ble_eq_true rfl⟩) rfl rfl rfl rfl hl.1 rfl (Nat.le_of_ble_eq_true rfl) ⟨Nat.zero_le _, Nat.zero_le _⟩ dX4_carryOut_96 rfl (fun H locs hW => ?_)
    obtain ⟨z26, ez26, hf⟩ := bd_e hf
    refine ct_V (As := [.int 0, .int r25.1]) (rest := []) (st1 := []) (q0 := 1) (ci := 2) S hA hW (c_X2_setTagByte l D g r25.2 0 r25.1 ez26) (wG_V km_X4_206 ki_yX2_setTagByte ks_yX2_setTagByte kn_X2 kc_yX2_setTagByte) ⟨rfl, rfl⟩ hd_X2_setTagByte (by rw [hR]; exact ⟨Nat.le_of_ble_eq_true rfl, Nat.le_of_ble_eq_true rfl⟩) rfl rfl rfl rfl hl.1 rfl (Nat.le_of_ble_eq_true rfl) ⟨Nat.zero_le _, Nat.zero_le _⟩ dX4_carryOut_99 rfl (fun H locs hW => ?_)
    refine lv_iinc (v := 1) (lv' := [(3, .int 1), (0, .ref (g.1 0)), (1, .int x1), (2, .int x2)]) hx hb dX4_carryOut_102 hl (k := 0) rfl (by decide) (by decide) rfl (fun ls hl => ?_)
    refine lv_goto (tgt := 80) hx hb dX4_carryOut_105 (by decide) ?_
    refine lv_iload_n hx hb dX4_carryOut_80 rfl (lv_at hl 0 rfl) ?_
    refine lv_bipush (v := 6) hx hb dX4_carryOut_81 (by decide) ?_
    refine lv_icmp_ge (tgt := 108) hx hb dX4_carryOut_83 (by decide) (fun c => absurd c (by decide)) (fun _ => ?_)
    refine lv_aload_n hx hb dX4_carryOut_86 rfl (lv_at hl 1 rfl) ?_
    refine gX4_holdings S hW kf_X4_15 dX4_carryOut_87 ?_
    refine lv_iload_n hx hb dX4_carryOut_90 rfl (lv_at hl 0 rfl) ?_
    refine lv_aload_n hx hb dX4_carryOut_91 rfl (lv_at hl 1 rfl) ?_
    refine gX4_reader S hW kf_X4_22 dX4_carryOut_92 ?_
    refine lv_iload_n hx hb dX4_carryOut_95 rfl (lv_at hl 0 rfl) ?_
    obtain ⟨r27, er27, hf⟩ := bd_e hf
    refine ct_V (As := [.int 1]) (rest := [.int 1, .ref (g.1 1)]) (st1 := [.int r27.1, .int 1, .ref (g.1 1)]) (q0 := 2) (ci := 0) S hA hW (c_X0_dataAt l D g z26 1 er27) (wG_V km_X4_193 ki_yX0_dataAt ks_yX0_dataAt kn_X0 kc_yX0_dataAt) ⟨rfl, rfl⟩ hd_X0_dataAt (by rw [hR]; exact ⟨Nat.le_of_ble_eq_true rfl, Nat.le_of_ble_eq_true rfl⟩) rfl rfl rfl rfl hl.1 rfl (Nat.le_of_ble_eq_true rfl) ⟨Nat.zero_le _, Nat.zero_le _⟩ dX4_carryOut_96 rfl (fun H locs hW => ?_)
    obtain ⟨z28, ez28, hf⟩ := bd_e hf
    refine ct_V (As := [.int 1, .int r27.1]) (rest := []) (st1 := []) (q0 := 1) (ci := 2) S hA hW (c_X2_setTagByte l D g r27.2 1 r27.1 ez28) (wG_V km_X4_206 ki_yX2_setTagByte ks_yX2_setTagByte kn_X2 kc_yX2_setTagByte) ⟨rfl, rfl⟩ hd_X2_setTagByte (by rw [hR]; exact ⟨Nat.le_of_ble_eq_true rfl, Nat.le_of_ble_eq_true rfl⟩) rfl rfl rfl rfl hl.1 rfl (Nat.le_of_ble_eq_true rfl) ⟨Nat.zero_le _, Nat.zero_le _⟩ dX4_carryOut_99 rfl (fun H locs hW => ?_)
    refine lv_iinc (v := 2) (lv' := [(3, .int 2), (0, .ref (g.1 0)), (1, .int x1), (2, .int x2)]) hx hb dX4_carryOut_102 hl (k := 0) rfl (by decide) (by decide) rfl (fun ls hl => ?_)
    refine lv_goto (tgt := 80) hx hb dX4_carryOut_105 (by decide) ?_
    refine lv_iload_n hx hb dX4_carryOut_80 rfl (lv_at hl 0 rfl) ?_
    refine lv_bipush (v := 6) hx hb dX4_carryOut_81 (by decide) ?_
    refine lv_icmp_ge (tgt := 108) hx hb dX4_carryOut_83 (by decide) (fun c => absurd c (by decide)) (fun _ => ?_)
    refine lv_aload_n hx hb dX4_carryOut_86 rfl (lv_at hl 1 rfl) ?_
    refine gX4_holdings S hW kf_X4_15 dX4_carryOut_87 ?_
    refine lv_iload_n hx hb dX4_carryOut_90 rfl (lv_at hl 0 rfl) ?_
    refine lv_aload_n hx hb dX4_carryOut_91 rfl (lv_at hl 1 rfl) ?_
    refine gX4_reader S hW kf_X4_22 dX4_carryOut_92 ?_
    refine lv_iload_n hx hb dX4_carryOut_95 rfl (lv_at hl 0 rfl) ?_
    obtain ⟨r29, er29, hf⟩ := bd_e hf
    refine ct_V (As := [.int 2]) (rest := [.int 2, .ref (g.1 1)]) (st1 := [.int r29.1, .int 2, .ref (g.1 1)]) (q0 := 2) (ci := 0) S hA hW (c_X0_dataAt l D g z28 2 er29) (wG_V km_X4_193 ki_yX0_dataAt ks_yX0_dataAt kn_X0 kc_yX0_dataAt) ⟨rfl, rfl⟩ hd_X0_dataAt (by rw [hR]; exact ⟨Nat.le_of_ble_eq_true rfl, Nat.le_of_ble_eq_true rfl⟩) rfl rfl rfl rfl hl.1 rfl (Nat.le_of_ble_eq_true rfl) ⟨Nat.zero_le _, Nat.zero_le _⟩ dX4_carryOut_96 rfl (fun H locs hW => ?_)
    obtain ⟨z30, ez30, hf⟩ := bd_e hf
    refine ct_V (As := [.int 2, .int r29.1]) (rest := []) (st1 := []) (q0 := 1) (ci := 2) S hA hW (c_X2_setTagByte l D g r29.2 2 r29.1 ez30) (wG_V km_X4_206 ki_yX2_setTagByte ks_yX2_setTagByte kn_X2 kc_yX2_setTagByte) ⟨rfl, rfl⟩ hd_X2_setTagByte (by rw [hR]; exact ⟨Nat.le_of_ble_eq_true rfl, Nat.le_of_ble_eq_true rfl⟩) rfl rfl rfl rfl hl.1 rfl (Nat.le_of_ble_eq_true rfl) ⟨Nat.zero_le _, Nat.zero_le _⟩ dX4_carryOut_99 rfl (fun H locs hW => ?_)
    refine lv_iinc (v := 3) (lv' := [(3, .int 3), (0, .ref (g.1 0)), (1, .int x1), (2, .int x2)]) hx hb dX4_carryOut_102 hl (k := 0) rfl (by decide) (by decide) rfl (fun ls hl => ?_)
    refine lv_goto (tgt := 80) hx hb dX4_carryOut_105 (by decide) ?_
    refine lv_iload_n hx hb dX4_carryOut_80 rfl (lv_at hl 0 rfl) ?_
    refine lv_bipush (v := 6) hx hb dX4_carryOut_81 (by decide) ?_
    refine lv_icmp_ge (tgt := 108) hx hb dX4_carryOut_83 (by decide) (fun c => absurd c (by decide)) (fun _ => ?_)
    refine lv_aload_n hx hb dX4_carryOut_86 rfl (lv_at hl 1 rfl) ?_
    refine gX4_holdings S hW kf_X4_15 dX4_carryOut_87 ?_
    refine lv_iload_n hx hb dX4_carryOut_90 rfl (lv_at hl 0 rfl) ?_
    refine lv_aload_n hx hb dX4_carryOut_91 rfl (lv_at hl 1 rfl) ?_
    refine gX4_reader S hW kf_X4_22 dX4_carryOut_92 ?_
    refine lv_iload_n hx hb dX4_carryOut_95 rfl (lv_at hl 0 rfl) ?_
    obtain ⟨r31, er31, hf⟩ := bd_e hf
    refine ct_V (As := [.int 3]) (rest := [.int 3, .ref (g.1 1)]) (st1 := [.int r31.1, .int 3, .ref (g.1 1)]) (q0 := 2) (ci := 0) S hA hW (c_X0_dataAt l D g z30 3 er31) (wG_V km_X4_193 ki_yX0_dataAt ks_yX0_dataAt kn_X0 kc_yX0_dataAt) ⟨rfl, rfl⟩ hd_X0_dataAt (by rw [hR]; exact ⟨Nat.le_of_ble_eq_true rfl, Nat.le_of_ble_eq_true rfl⟩) rfl rfl rfl rfl hl.1 rfl (Nat.le_of_ble_eq_true rfl) ⟨Nat.zero_le _, Nat.zero_le _⟩ dX4_carryOut_96 rfl (fun H locs hW => ?_)
    obtain ⟨z32, ez32, hf⟩ := bd_e hf
    refine ct_V (As := [.int 3, .int r31.1]) (rest := []) (st1 := []) (q0 := 1) (ci := 2) S hA hW (c_X2_setTagByte l D g r31.2 3 r31.1 ez32) (wG_V km_X4_206 ki_yX2_setTagByte ks_yX2_setTagByte kn_X2 kc_yX2_setTagByte) ⟨rfl, rfl⟩ hd_X2_setTagByte (by rw [hR]; exact ⟨Nat.le_of_ble_eq_true rfl, Nat.le_of_ble_eq_true rfl⟩) rfl rfl rfl rfl hl.1 rfl (Nat.le_of_ble_eq_true rfl) ⟨Nat.zero_le _, Nat.zero_le _⟩ dX4_carryOut_99 rfl (fun H locs hW => ?_)
    refine lv_iinc (v := 4) (lv' := [(3, .int 4), (0, .ref (g.1 0)), (1, .int x1), (2, .int x2)]) hx hb dX4_carryOut_102 hl (k := 0) rfl (by decide) (by decide) rfl (fun ls hl => ?_)
    refine lv_goto (tgt := 80) hx hb dX4_carryOut_105 (by decide) ?_
    refine lv_iload_n hx hb dX4_carryOut_80 rfl (lv_at hl 0 rfl) ?_
    refine lv_bipush (v := 6) hx hb dX4_carryOut_81 (by decide) ?_
    refine lv_icmp_ge (tgt := 108) hx hb dX4_carryOut_83 (by decide) (fun c => absurd c (by decide)) (fun _ => ?_)
    refine lv_aload_n hx hb dX4_carryOut_86 rfl (lv_at hl 1 rfl) ?_
    refine gX4_holdings S hW kf_X4_15 dX4_carryOut_87 ?_
    refine lv_iload_n hx hb dX4_carryOut_90 rfl (lv_at hl 0 rfl) ?_
    refine lv_aload_n hx hb dX4_carryOut_91 rfl (lv_at hl 1 rfl) ?_
    refine gX4_reader S hW kf_X4_22 dX4_carryOut_92 ?_
    refine lv_iload_n hx hb dX4_carryOut_95 rfl (lv_at hl 0 rfl) ?_
    obtain ⟨r33, er33, hf⟩ := bd_e hf
    refine ct_V (As := [.int 4]) (rest := [.int 4, .ref (g.1 1)]) (st1 := [.int r33.1, .int 4, .ref (g.1 1)]) (q0 := 2) (ci := 0) S hA hW (c_X0_dataAt l D g z32 4 er33) (wG_V km_X4_193 ki_yX0_dataAt ks_yX0_dataAt kn_X0 kc_yX0_dataAt) ⟨rfl, rfl⟩ hd_X0_dataAt (by rw [hR]; exact ⟨Nat.le_of_ble_eq_true rfl, Nat.le_of_ble_eq_true rfl⟩) rfl rfl rfl rfl hl.1 rfl (Nat.le_of_ble_eq_true rfl) ⟨Nat.zero_le _, Nat.zero_le _⟩ dX4_carryOut_96 rfl (fun H locs hW => ?_)
    obtain ⟨z34, ez34, hf⟩ := bd_e hf
    refine ct_V (As := [.int 4, .int r33.1]) (rest := []) (st1 := []) (q0 := 1) (ci := 2) S hA hW (c_X2_setTagByte l D g r33.2 4 r33.1 ez34) (wG_V km_X4_206 ki_yX2_setTagByte ks_yX2_setTagByte kn_X2 kc_yX2_setTagByte) ⟨rfl, rfl⟩ hd_X2_setTagByte (by rw [hR]; exact ⟨Nat.le_of_ble_eq_true rfl, Nat.le_of_ble_eq_true rfl⟩) rfl rfl rfl rfl hl.1 rfl (Nat.le_of_ble_eq_true rfl) ⟨Nat.zero_le _, Nat.zero_le _⟩ dX4_carryOut_99 rfl (fun H locs hW => ?_)
    refine lv_iinc (v := 5) (lv' := [(3, .int 5), (0, .ref (g.1 0)), (1, .int x1), (2, .int x2)]) hx hb dX4_carryOut_102 hl (k := 0) rfl (by decide) (by decide) rfl (fun ls hl => ?_)
    refine lv_goto (tgt := 80) hx hb dX4_carryOut_105 (by decide) ?_
    refine lv_iload_n hx hb dX4_carryOut_80 rfl (lv_at hl 0 rfl) ?_
    refine lv_bipush (v := 6) hx hb dX4_carryOut_81 (by decide) ?_
    refine lv_icmp_ge (tgt := 108) hx hb dX4_carryOut_83 (by decide) (fun c => absurd c (by decide)) (fun _ => ?_)
    refine lv_aload_n hx hb dX4_carryOut_86 rfl (lv_at hl 1 rfl) ?_
    refine gX4_holdings S hW kf_X4_15 dX4_carryOut_87 ?_
    refine lv_iload_n hx hb dX4_carryOut_90 rfl (lv_at hl 0 rfl) ?_
    refine lv_aload_n hx hb dX4_carryOut_91 rfl (lv_at hl 1 rfl) ?_
    refine gX4_reader S hW kf_X4_22 dX4_carryOut_92 ?_
    refine lv_iload_n hx hb dX4_carryOut_95 rfl (lv_at hl 0 rfl) ?_
    obtain ⟨r35, er35, hf⟩ := bd_e hf
    refine ct_V (As := [.int 5]) (rest := [.int 5, .ref (g.1 1)]) (st1 := [.int r35.1, .int 5, .ref (g.1 1)]) (q0 := 2) (ci := 0) S hA hW (c_X0_dataAt l D g z34 5 er35) (wG_V km_X4_193 ki_yX0_dataAt ks_yX0_dataAt kn_X0 kc_yX0_dataAt) ⟨rfl, rfl⟩ hd_X0_dataAt (by rw [hR]; exact ⟨Nat.le_of_ble_eq_true rfl, Nat.le_of_ble_eq_true rfl⟩) rfl rfl rfl rfl hl.1 rfl (Nat.le_of_ble_eq_true rfl) ⟨Nat.zero_le _, Nat.zero_le _⟩ dX4_carryOut_96 rfl (fun H locs hW => ?_)
    obtain ⟨z36, ez36, hf⟩ := bd_e hf
    refine ct_V (As := [.int 5, .int r35.1]) (rest := []) (st1 := []) (q0 := 1) (ci := 2) S hA hW (c_X2_setTagByte l D g r35.2 5 r35.1 ez36) (wG_V km_X4_206 ki_yX2_setTagByte ks_yX2_setTagByte kn_X2 kc_yX2_setTagByte) ⟨rfl, rfl⟩ hd_X2_setTagByte (by rw [hR]; exact ⟨Nat.le_of_ble_eq_true rfl, Nat.le_of_ble_eq_true rfl⟩) rfl rfl rfl rfl hl.1 rfl (Nat.le_of_ble_eq_true rfl) ⟨Nat.zero_le _, Nat.zero_le _⟩ dX4_carryOut_99 rfl (fun H locs hW => ?_)
    refine lv_iinc (v := 6) (lv' := [(3, .int 6), (0, .ref (g.1 0)), (1, .int x1), (2, .int x2)]) hx hb dX4_carryOut_102 hl (k := 0) rfl (by decide) (by decide) rfl (fun ls hl => ?_)
    refine lv_goto (tgt := 80) hx hb dX4_carryOut_105 (by decide) ?_
    refine lv_iload_n hx hb dX4_carryOut_80 rfl (lv_at hl 0 rfl) ?_
    refine lv_bipush (v := 6) hx hb dX4_carryOut_81 (by decide) ?_
    refine lv_icmp_ge (tgt := 108) hx hb dX4_carryOut_83 (by decide) (fun _ => ?_) (fun c => absurd (by decide) c)
    refine lv_goto (tgt := 224) hx hb dX4_carryOut_108 (by decide) ?_
    exact J_224 z36 x1 _ _ ls hW (lv_sub hl [1, 2] rfl) hf
  replace hf := if_f c24 hf
  by_cases c37 : x1 = 35
  · replace hf := if_t c37 hf
    refine lv_lookup (off := 110) (tgt := 111) hx hb dX4_carryOut_1 (by decide) (by rw [c37]; decide) (by decide) ?_
    refine lv_aload_n hx hb dX4_carryOut_111 rfl (lv_at hl 0 rfl) ?_
    refine gX4_holdings S hW kf_X4_15 dX4_carryOut_112 ?_
    refine lv_aload_n hx hb dX4_carryOut_115 rfl (lv_at hl 0 rfl) ?_
    refine gX4_reader S hW kf_X4_22 dX4_carryOut_116 ?_
    refine lv_iconst (v := 0) hx hb dX4_carryOut_119 (by decide) ?_
    obtain ⟨r38, er38, hf⟩ := bd_e hf
    refine ct_V (As := [.int 0]) (rest := [.ref (g.1 1)]) (st1 := [.int r38.1, .ref (g.1 1)]) (q0 := 2) (ci := 0) S hA hW (c_X0_dataAt l D g z 0 er38) (wG_V km_X4_193 ki_yX0_dataAt ks_yX0_dataAt kn_X0 kc_yX0_dataAt) ⟨rfl, rfl⟩ hd_X0_dataAt (by rw [hR]; exact ⟨Nat.le_of_ble_eq_true rfl, Nat.le_of_ble_eq_true rfl⟩) rfl rfl rfl rfl hl.1 rfl (Nat.le_of_ble_eq_true rfl) ⟨Nat.zero_le _, Nat.zero_le _⟩ dX4_carryOut_120 rfl (fun H locs hW => ?_)
    obtain ⟨z39, ez39, hf⟩ := bd_e hf
    refine pX2_unit S hW kf_X4_71 dX4_carryOut_123 ez39 (fun H locs hW => ?_)
    refine lv_aload_n hx hb dX4_carryOut_126 rfl (lv_at hl 0 rfl) ?_
    refine gX4_holdings S hW kf_X4_15 dX4_carryOut_127 ?_
    refine lv_aload_n hx hb dX4_carryOut_130 rfl (lv_at hl 0 rfl) ?_
    refine gX4_reader S hW kf_X4_22 dX4_carryOut_131 ?_
    refine lv_iconst (v := 1) hx hb dX4_carryOut_134 (by decide) ?_
    obtain ⟨r40, er40, hf⟩ := bd_e hf
    refine ct_V (As := [.int 1]) (rest := [.ref (g.1 1)]) (st1 := [.int r40.1, .ref (g.1 1)]) (q0 := 2) (ci := 0) S hA hW (c_X0_fourAt l D g z39 1 er40) (wG_V km_X4_199 ki_yX0_fourAt ks_yX0_fourAt kn_X0 kc_yX0_fourAt) ⟨rfl, rfl⟩ hd_X0_fourAt (by rw [hR]; exact ⟨Nat.le_of_ble_eq_true rfl, Nat.le_of_ble_eq_true rfl⟩) rfl rfl rfl rfl hl.1 rfl (Nat.le_of_ble_eq_true rfl) ⟨Nat.zero_le _, Nat.zero_le _⟩ dX4_carryOut_135 rfl (fun H locs hW => ?_)
    obtain ⟨z41, ez41, hf⟩ := bd_e hf
    refine pX2_upper S hW kf_X4_77 dX4_carryOut_138 ez41 (fun H locs hW => ?_)
    refine lv_aload_n hx hb dX4_carryOut_141 rfl (lv_at hl 0 rfl) ?_
    refine gX4_holdings S hW kf_X4_15 dX4_carryOut_142 ?_
    refine lv_aload_n hx hb dX4_carryOut_145 rfl (lv_at hl 0 rfl) ?_
    refine gX4_reader S hW kf_X4_22 dX4_carryOut_146 ?_
    refine lv_iconst (v := 5) hx hb dX4_carryOut_149 (by decide) ?_
    obtain ⟨r42, er42, hf⟩ := bd_e hf
    refine ct_V (As := [.int 5]) (rest := [.ref (g.1 1)]) (st1 := [.int r42.1, .ref (g.1 1)]) (q0 := 2) (ci := 0) S hA hW (c_X0_fourAt l D g z41 5 er42) (wG_V km_X4_199 ki_yX0_fourAt ks_yX0_fourAt kn_X0 kc_yX0_fourAt) ⟨rfl, rfl⟩ hd_X0_fourAt (by rw [hR]; exact ⟨Nat.le_of_ble_eq_true rfl, Nat.le_of_ble_eq_true rfl⟩) rfl rfl rfl rfl hl.1 rfl (Nat.le_of_ble_eq_true rfl) ⟨Nat.zero_le _, Nat.zero_le _⟩ dX4_carryOut_150 rfl (fun H locs hW => ?_)
    obtain ⟨z43, ez43, hf⟩ := bd_e hf
    refine pX2_lower S hW kf_X4_74 dX4_carryOut_153 ez43 (fun H locs hW => ?_)
    refine lv_goto (tgt := 224) hx hb dX4_carryOut_156 (by decide) ?_
    exact J_224 z43 x1 _ _ ls hW (lv_sub hl [0, 1] rfl) hf
  replace hf := if_f c37 hf
  by_cases c44 : x1 = 38
  · replace hf := if_t c44 hf
    refine lv_lookup (off := 203) (tgt := 204) hx hb dX4_carryOut_1 (by decide) (by rw [c44]; decide) (by decide) ?_
    refine lv_aload_n hx hb dX4_carryOut_204 rfl (lv_at hl 0 rfl) ?_
    refine gX4_holdings S hW kf_X4_15 dX4_carryOut_205 ?_
    refine lv_dup hx hb dX4_carryOut_208 rfl ?_
    refine gX2_changed S hW kf_X4_209 dX4_carryOut_209 ?_
    refine lv_iconst (v := 1) hx hb dX4_carryOut_212 (by decide) ?_
    refine lv_iload_n hx hb dX4_carryOut_213 rfl (lv_at hl 2 rfl) ?_
    refine lv_ishl hx hb dX4_carryOut_214 ?_
    refine lv_iconst (v := (-1)) hx hb dX4_carryOut_215 (by decide) ?_
    refine lv_ixor hx hb dX4_carryOut_216 ?_
    refine lv_iand hx hb dX4_carryOut_217 ?_
    obtain ⟨z45, ez45, hf⟩ := bd_e hf
    refine pX2_changed S hW kf_X4_209 dX4_carryOut_218 ez45 (fun H locs hW => ?_)
    refine lv_goto (tgt := 224) hx hb dX4_carryOut_221 (by decide) ?_
    exact J_224 z45 x1 _ _ ls hW (lv_sub hl [0, 1] rfl) hf
  replace hf := if_f c44 hf
  by_cases c46 : x1 = 108
  · replace hf := if_t c46 hf
    refine lv_lookup (off := 158) (tgt := 159) hx hb dX4_carryOut_1 (by decide) (by rw [c46]; decide) (by decide) ?_
    refine lv_aload_n hx hb dX4_carryOut_159 rfl (lv_at hl 0 rfl) ?_
    refine gX4_holdings S hW kf_X4_15 dX4_carryOut_160 ?_
    refine lv_aload_n hx hb dX4_carryOut_163 rfl (lv_at hl 0 rfl) ?_
    refine gX4_reader S hW kf_X4_22 dX4_carryOut_164 ?_
    refine lv_iconst (v := 0) hx hb dX4_carryOut_167 (by decide) ?_
    obtain ⟨r47, er47, hf⟩ := bd_e hf
    refine ct_V (As := [.int 0]) (rest := [.ref (g.1 1)]) (st1 := [.int r47.1, .ref (g.1 1)]) (q0 := 2) (ci := 0) S hA hW (c_X0_dataAt l D g z 0 er47) (wG_V km_X4_193 ki_yX0_dataAt ks_yX0_dataAt kn_X0 kc_yX0_dataAt) ⟨rfl, rfl⟩ hd_X0_dataAt (by rw [hR]; exact ⟨Nat.le_of_ble_eq_true rfl, Nat.le_of_ble_eq_true rfl⟩) rfl rfl rfl rfl hl.1 rfl (Nat.le_of_ble_eq_true rfl) ⟨Nat.zero_le _, Nat.zero_le _⟩ dX4_carryOut_168 rfl (fun H locs hW => ?_)
    obtain ⟨z48, ez48, hf⟩ := bd_e hf
    refine pX2_burstCommand S hW kf_X4_83 dX4_carryOut_171 ez48 (fun H locs hW => ?_)
    refine lv_goto (tgt := 224) hx hb dX4_carryOut_174 (by decide) ?_
    exact J_224 z48 x1 _ _ ls hW (lv_sub hl [0, 1] rfl) hf
  replace hf := if_f c46 hf
  by_cases c49 : x1 = 109
  · replace hf := if_t c49 hf
    refine lv_lookup (off := 176) (tgt := 177) hx hb dX4_carryOut_1 (by decide) (by rw [c49]; decide) (by decide) ?_
    refine lv_aload_n hx hb dX4_carryOut_177 rfl (lv_at hl 0 rfl) ?_
    refine gX4_holdings S hW kf_X4_15 dX4_carryOut_178 ?_
    refine lv_aload_n hx hb dX4_carryOut_181 rfl (lv_at hl 0 rfl) ?_
    refine gX4_reader S hW kf_X4_22 dX4_carryOut_182 ?_
    refine lv_iconst (v := 0) hx hb dX4_carryOut_185 (by decide) ?_
    obtain ⟨r50, er50, hf⟩ := bd_e hf
    refine ct_V (As := [.int 0]) (rest := [.ref (g.1 1)]) (st1 := [.int r50.1, .ref (g.1 1)]) (q0 := 2) (ci := 0) S hA hW (c_X0_dataAt l D g z 0 er50) (wG_V km_X4_193 ki_yX0_dataAt ks_yX0_dataAt kn_X0 kc_yX0_dataAt) ⟨rfl, rfl⟩ hd_X0_dataAt (by rw [hR]; exact ⟨Nat.le_of_ble_eq_true rfl, Nat.le_of_ble_eq_true rfl⟩) rfl rfl rfl rfl hl.1 rfl (Nat.le_of_ble_eq_true rfl) ⟨Nat.zero_le _, Nat.zero_le _⟩ dX4_carryOut_186 rfl (fun H locs hW => ?_)
    refine lv_iconst (v := 1) hx hb dX4_carryOut_189 (by decide) ?_
    refine lv_icmp_ne (tgt := 197) hx hb dX4_carryOut_190 (by decide) (fun c51 => ?_) (fun c51 => ?_)
    · replace hf := if_f c51 hf
      refine lv_iconst (v := 0) hx hb dX4_carryOut_197 (by decide) ?_
      obtain ⟨z52, ez52, hf⟩ := bd_e hf
      refine pX2_burstOn (by decide) S hW kf_X4_80 dX4_carryOut_198 ez52 (fun H locs hW => ?_)
      refine lv_goto (tgt := 224) hx hb dX4_carryOut_201 (by decide) ?_
      exact J_224 z52 x1 _ _ ls hW (lv_sub hl [0, 1] rfl) hf
    · replace hf := if_t c51 hf
      refine lv_iconst (v := 1) hx hb dX4_carryOut_193 (by decide) ?_
      refine lv_goto (tgt := 198) hx hb dX4_carryOut_194 (by decide) ?_
      obtain ⟨z53, ez53, hf⟩ := bd_e hf
      refine pX2_burstOn (by decide) S hW kf_X4_80 dX4_carryOut_198 ez53 (fun H locs hW => ?_)
      refine lv_goto (tgt := 224) hx hb dX4_carryOut_201 (by decide) ?_
      exact J_224 z53 x1 _ _ ls hW (lv_sub hl [0, 1] rfl) hf
  replace hf := if_f c49 hf
  refine lv_lookup (off := 223) (tgt := 224) hx hb dX4_carryOut_1 (by decide) ((lv_osw (k := 6) c21 (by decide)).trans ((lv_osw (k := 18) c24 (by decide)).trans ((lv_osw (k := 35) c37 (by decide)).trans ((lv_osw (k := 38) c44 (by decide)).trans ((lv_osw (k := 108) c46 (by decide)).trans ((lv_osw (k := 109) c49 (by decide)).trans (rfl))))))) (by decide) ?_
  exact J_224 z x1 _ _ ls hW (lv_sub hl [0, 1] rfl) hf
def f_X4_answerFrame_70 (z : Sg) (y1 : Int32) (y2 : Int32) (k1 : Int32) : Sg := bd (f_X4_compose z k1 y2 (gI z 20) y1) (fun z33 => bd (f_X1_waitOneTick z33) (fun z34 => bd (pI z34 15 ((gI z34 15) &&& ((1 <<< (y2 &&& 31)) ^^^ (-1)))) (fun z35 => z35)))
def s_X4_answerFrame_70 (z : Sg) (y1 : Int32) (y2 : Int32) (k1 : Int32) : Prop := (s_X4_compose z k1 y2 (gI z 20) y1) ∧ True
def f_X4_answerFrame_51 (z : Sg) (y1 : Int32) (y2 : Int32) : Sg := (if (gI z 19) = 0 then f_X4_answerFrame_70 z y1 y2 6 else f_X4_answerFrame_70 z y1 y2 134)
def s_X4_answerFrame_51 (z : Sg) (y1 : Int32) (y2 : Int32) : Prop := ((gI z 19) = 0 → s_X4_answerFrame_70 z y1 y2 6) ∧ (¬ (gI z 19) = 0 → s_X4_answerFrame_70 z y1 y2 134)
def f_X4_answerFrame_17 (z : Sg) (y1 : Int32) : Sg := bd (pI z 2 ((gI z 2) + 1)) (fun z26 => bd (f_X0_master z26) (fun r27 => bd (r27.1) (fun x28 => (if y1 = 0 then bd (f_X4_carryOut r27.2 (gI r27.2 20) x28) (fun z30 => f_X4_answerFrame_51 z30 y1 x28) else f_X4_answerFrame_51 r27.2 y1 x28))))
def s_X4_answerFrame_17 (z : Sg) (y1 : Int32) : Prop := bd (pI z 2 ((gI z 2) + 1)) (fun z26 => bd (f_X0_master z26) (fun r27 => bd (r27.1) (fun x28 => (y1 = 0 → bd (f_X4_carryOut r27.2 (gI r27.2 20) x28) (fun z30 => s_X4_answerFrame_51 z30 y1 x28)) ∧ (¬ y1 = 0 → s_X4_answerFrame_51 r27.2 y1 x28))))
def f_X4_answerFrame (z : Sg)  : Sg := bd (f_X4_codeOfFrame z) (fun r21 => bd (r21.1) (fun x22 => (if x22 = 0 then f_X4_answerFrame_17 r21.2 x22 else bd (f_X4_isBroadcast r21.2) (fun r24 => (if r24.1 = 0 then f_X4_answerFrame_17 r24.2 x22 else r24.2)))))
def s_X4_answerFrame (z : Sg)  : Prop := bd (f_X4_codeOfFrame z) (fun r21 => bd (r21.1) (fun x22 => (x22 = 0 → s_X4_answerFrame_17 r21.2 x22) ∧ (¬ x22 = 0 → bd (f_X4_isBroadcast r21.2) (fun r24 => (r24.1 = 0 → s_X4_answerFrame_17 r24.2 x22) ∧ (¬ r24.1 = 0 → True)))))
theorem hd_X4_answerFrame : yX4_answerFrame.cls = RX4 ∧ yX4_answerFrame.cls ≠ "java/lang/invoke/MethodHandle" ∧ yX4_answerFrame.cls ≠ "java/lang/invoke/VarHandle" ∧ (parseMethodDescriptor yX4_answerFrame.desc).map (fun d => d.parameters.length) = some 0 := by decide +kernel
set_option maxHeartbeats 4000000 in
set_option maxRecDepth 100000 in
theorem c_X4_answerFrame (l : Launch) (D : va_G) (g : Gv) (z : Sg)  {r : Sg} (er : r = f_X4_answerFrame z ) (hs : s_X4_answerFrame z ) : CT D (wD g) (tD g) l yX4_answerFrame (wG yX4_answerFrame cX4_answerFrame 3 none) { frames := 5, cells := 0, slots := 0, locals := 107 } [.ref (g.1 0)] z none r := by
  refine CT.ofW (by decide) (Nat.le_of_ble_eq_true rfl) ?_
  intro p e R s m args below meth c A hR S hr hlocks hA hW ls hl
  have S : CallFix p m c cX4_answerFrame 3 s args wsL_law RX4 := S
  have hl : lv_has ls 3 [(0, .ref (g.1 0))] := hl
  have hx := S.1
  have hb := S.2.1
  have hf := er.symm
  clear er
  have J_70 : ∀ (z : Sg) (y1 : Int32) (y2 : Int32) (k1 : Int32) (H : Heap) (locs : List Loc) (ls : Array Slot), Wd D (wD g) (tD g) A s H locs z → lv_has ls 3 [(0, .ref (g.1 0)), (1, .int y1), (2, .int y2)] → s_X4_answerFrame_70 z y1 y2 k1 → f_X4_answerFrame_70 z y1 y2 k1 = r → W p l e R s m args below meth c H locs 0 0 (MQ below (CQ D (wD g) A none r) args s 0 0 A) (F0 m 70 ls [.int k1, .ref (g.1 0)]) := by
    intro z y1 y2 k1 H locs ls hW hl hs hf
    unfold f_X4_answerFrame_70 at hf
    unfold s_X4_answerFrame_70 at hs
    refine lv_iload_n hx hb dX4_answerFrame_70 rfl (lv_at hl 2 rfl) ?_
    refine lv_aload_n hx hb dX4_answerFrame_71 rfl (lv_at hl 0 rfl) ?_
    refine gX4_reader S hW kf_X4_22 dX4_answerFrame_72 ?_
    refine gX0_command S hW kf_X4_169 dX4_answerFrame_75 ?_
    refine lv_iload_n hx hb dX4_answerFrame_78 rfl (lv_at hl 1 rfl) ?_
    obtain ⟨q32, hs⟩ := hs
    obtain ⟨z33, ez33, hf⟩ := bd_e hf
    refine ct_V (As := [.int k1, .int y2, .int (gI z 20), .int y1]) (rest := []) (st1 := []) (q0 := 0) (ci := 4) S hA hW (c_X4_compose l D g z k1 y2 (gI z 20) y1 ez33 q32) (wG_V km_X4_140 ki_yX4_compose ks_yX4_compose kn_X4 kc_yX4_compose) ⟨rfl, rfl⟩ hd_X4_compose (by rw [hR]; exact ⟨Nat.le_of_ble_eq_true rfl, Nat.le_of_ble_eq_true rfl⟩) rfl rfl rfl rfl hl.1 rfl (Nat.le_of_ble_eq_true rfl) ⟨Nat.zero_le _, Nat.zero_le _⟩ dX4_answerFrame_79 rfl (fun H locs hW => ?_)
    refine lv_aload_n hx hb dX4_answerFrame_82 rfl (lv_at hl 0 rfl) ?_
    refine gX4_writer S hW kf_X4_29 dX4_answerFrame_83 ?_
    obtain ⟨z34, ez34, hf⟩ := bd_e hf
    refine ct_V (As := []) (rest := []) (st1 := []) (q0 := 3) (ci := 1) S hA hW (c_X1_waitOneTick l D g z33 ez34) (wG_V km_X4_181 ki_yX1_waitOneTick ks_yX1_waitOneTick kn_X1 kc_yX1_waitOneTick) ⟨rfl, rfl⟩ hd_X1_waitOneTick (by rw [hR]; exact ⟨Nat.le_of_ble_eq_true rfl, Nat.le_of_ble_eq_true rfl⟩) rfl rfl rfl rfl hl.1 rfl (Nat.le_of_ble_eq_true rfl) ⟨Nat.zero_le _, Nat.zero_le _⟩ dX4_answerFrame_86 rfl (fun H locs hW => ?_)
    refine lv_aload_n hx hb dX4_answerFrame_89 rfl (lv_at hl 0 rfl) ?_
    refine gX4_holdings S hW kf_X4_15 dX4_answerFrame_90 ?_
    refine lv_dup hx hb dX4_answerFrame_93 rfl ?_
    refine gX2_cold S hW kf_X4_184 dX4_answerFrame_94 ?_
    refine lv_iconst (v := 1) hx hb dX4_answerFrame_97 (by decide) ?_
    refine lv_iload_n hx hb dX4_answerFrame_98 rfl (lv_at hl 2 rfl) ?_
    refine lv_ishl hx hb dX4_answerFrame_99 ?_
    refine lv_iconst (v := (-1)) hx hb dX4_answerFrame_100 (by decide) ?_
    refine lv_ixor hx hb dX4_answerFrame_101 ?_
    refine lv_iand hx hb dX4_answerFrame_102 ?_
    obtain ⟨z35, ez35, hf⟩ := bd_e hf
    refine pX2_cold S hW kf_X4_184 dX4_answerFrame_103 ez35 (fun H locs hW => ?_)
    subst hf
    exact ct_v S hr hlocks hW dX4_answerFrame_106
  have J_51 : ∀ (z : Sg) (y1 : Int32) (y2 : Int32) (H : Heap) (locs : List Loc) (ls : Array Slot), Wd D (wD g) (tD g) A s H locs z → lv_has ls 3 [(0, .ref (g.1 0)), (1, .int y1), (2, .int y2)] → s_X4_answerFrame_51 z y1 y2 → f_X4_answerFrame_51 z y1 y2 = r → W p l e R s m args below meth c H locs 0 0 (MQ below (CQ D (wD g) A none r) args s 0 0 A) (F0 m 51 ls []) := by
    intro z y1 y2 H locs ls hW hl hs hf
    unfold f_X4_answerFrame_51 at hf
    unfold s_X4_answerFrame_51 at hs
    refine lv_aload_n hx hb dX4_answerFrame_51 rfl (lv_at hl 0 rfl) ?_
    refine lv_aload_n hx hb dX4_answerFrame_52 rfl (lv_at hl 0 rfl) ?_
    refine gX4_reader S hW kf_X4_22 dX4_answerFrame_53 ?_
    refine gX0_isLong S hW kf_X4_150 dX4_answerFrame_56 ?_
    refine lv_if_eq (tgt := 68) hx hb dX4_answerFrame_59 (by decide) (fun c31 => ?_) (fun c31 => ?_)
    · replace hf := if_t c31 hf
      replace hs := hs.1 c31
      refine lv_bipush (v := 6) hx hb dX4_answerFrame_68 (by decide) ?_
      exact J_70 z y1 y2 6 _ _ ls hW (lv_sub hl [0, 1, 2] rfl) hs hf
    · replace hf := if_f c31 hf
      replace hs := hs.2 c31
      refine lv_sipush (v := 134) hx hb dX4_answerFrame_62 (by decide) ?_
      refine lv_goto (tgt := 70) hx hb dX4_answerFrame_65 (by decide) ?_
      exact J_70 z y1 y2 134 _ _ ls hW (lv_sub hl [0, 1, 2] rfl) hs hf
  have J_17 : ∀ (z : Sg) (y1 : Int32) (H : Heap) (locs : List Loc) (ls : Array Slot), Wd D (wD g) (tD g) A s H locs z → lv_has ls 3 [(0, .ref (g.1 0)), (1, .int y1)] → s_X4_answerFrame_17 z y1 → f_X4_answerFrame_17 z y1 = r → W p l e R s m args below meth c H locs 0 0 (MQ below (CQ D (wD g) A none r) args s 0 0 A) (F0 m 17 ls []) := by
    intro z y1 H locs ls hW hl hs hf
    unfold f_X4_answerFrame_17 at hf
    unfold s_X4_answerFrame_17 at hs
    refine lv_aload_n hx hb dX4_answerFrame_17 rfl (lv_at hl 0 rfl) ?_
    refine lv_dup hx hb dX4_answerFrame_18 rfl ?_
    refine gX4_answers S hW kf_X4_86 dX4_answerFrame_19 ?_
    refine lv_iconst (v := 1) hx hb dX4_answerFrame_22 (by decide) ?_
    refine lv_iadd hx hb dX4_answerFrame_23 ?_
    obtain ⟨z26, ez26, hf⟩ := bd_e hf
    replace hs := bd_s ez26 hs
    refine pX4_answers S hW kf_X4_86 dX4_answerFrame_24 ez26 (fun H locs hW => ?_)
    refine lv_aload_n hx hb dX4_answerFrame_27 rfl (lv_at hl 0 rfl) ?_
    refine gX4_reader S hW kf_X4_22 dX4_answerFrame_28 ?_
    obtain ⟨r27, er27, hf⟩ := bd_e hf
    replace hs := bd_s er27 hs
    refine ct_V (As := []) (rest := []) (st1 := [.int r27.1]) (q0 := 2) (ci := 0) S hA hW (c_X0_master l D g z26 er27) (wG_V km_X4_175 ki_yX0_master ks_yX0_master kn_X0 kc_yX0_master) ⟨rfl, rfl⟩ hd_X0_master (by rw [hR]; exact ⟨Nat.le_of_ble_eq_true rfl, Nat.le_of_ble_eq_true rfl⟩) rfl rfl rfl rfl hl.1 rfl (Nat.le_of_ble_eq_true rfl) ⟨Nat.zero_le _, Nat.zero_le _⟩ dX4_answerFrame_31 rfl (fun H locs hW => ?_)
    obtain ⟨x28, ex28, hf⟩ := bd_e hf
    replace hs := bd_s ex28 hs
    refine lv_nmi ex28 ?_
    refine lv_istore_n (lv' := [(2, .int x28), (0, .ref (g.1 0)), (1, .int y1)]) hx hb dX4_answerFrame_34 rfl hl (by decide) rfl (fun ls hl => ?_)
    refine lv_iload_n hx hb dX4_answerFrame_35 rfl (lv_at hl 2 rfl) ?_
    refine lv_if_ne (tgt := 51) hx hb dX4_answerFrame_36 (by decide) (fun c29 => ?_) (fun c29 => ?_)
    · replace hf := if_f c29 hf
      replace hs := hs.2 c29
      exact J_51 r27.2 y1 x28 _ _ ls hW (lv_sub hl [1, 2, 0] rfl) hs hf
    · replace hf := if_t c29 hf
      replace hs := hs.1 c29
      refine lv_aload_n hx hb dX4_answerFrame_39 rfl (lv_at hl 1 rfl) ?_
      refine lv_aload_n hx hb dX4_answerFrame_40 rfl (lv_at hl 1 rfl) ?_
      refine gX4_reader S hW kf_X4_22 dX4_answerFrame_41 ?_
      refine gX0_command S hW kf_X4_169 dX4_answerFrame_44 ?_
      refine lv_iload_n hx hb dX4_answerFrame_47 rfl (lv_at hl 0 rfl) ?_
      obtain ⟨z30, ez30, hf⟩ := bd_e hf
      replace hs := bd_s ez30 hs
      refine ct_V (As := [.int (gI r27.2 20), .int x28]) (rest := []) (st1 := []) (q0 := 0) (ci := 4) S hA hW (c_X4_carryOut l D g r27.2 (gI r27.2 20) x28 ez30) (wG_V km_X4_178 ki_yX4_carryOut ks_yX4_carryOut kn_X4 kc_yX4_carryOut) ⟨rfl, rfl⟩ hd_X4_carryOut (by rw [hR]; exact ⟨Nat.le_of_ble_eq_true rfl, Nat.le_of_ble_eq_true rfl⟩) rfl rfl rfl rfl hl.1 rfl (Nat.le_of_ble_eq_true rfl) ⟨Nat.zero_le _, Nat.zero_le _⟩ dX4_answerFrame_48 rfl (fun H locs hW => ?_)
      exact J_51 z30 y1 x28 _ _ ls hW (lv_sub hl [1, 2, 0] rfl) hs hf
  unfold f_X4_answerFrame at hf
  unfold s_X4_answerFrame at hs
  refine lv_aload_n hx hb dX4_answerFrame_0 rfl (lv_at hl 0 rfl) ?_
  obtain ⟨r21, er21, hf⟩ := bd_e hf
  replace hs := bd_s er21 hs
  refine ct_V (As := []) (rest := []) (st1 := [.int r21.1]) (q0 := 0) (ci := 4) S hA hW (c_X4_codeOfFrame l D g z er21) (wG_V km_X4_172 ki_yX4_codeOfFrame ks_yX4_codeOfFrame kn_X4 kc_yX4_codeOfFrame) ⟨rfl, rfl⟩ hd_X4_codeOfFrame (by rw [hR]; exact ⟨Nat.le_of_ble_eq_true rfl, Nat.le_of_ble_eq_true rfl⟩) rfl rfl rfl rfl hl.1 rfl (Nat.le_of_ble_eq_true rfl) ⟨Nat.zero_le _, Nat.zero_le _⟩ dX4_answerFrame_1 rfl (fun H locs hW => ?_)
  obtain ⟨x22, ex22, hf⟩ := bd_e hf
  replace hs := bd_s ex22 hs
  refine lv_nmi ex22 ?_
  refine lv_istore_n (lv' := [(1, .int x22), (0, .ref (g.1 0))]) hx hb dX4_answerFrame_4 rfl hl (by decide) rfl (fun ls hl => ?_)
  refine lv_iload_n hx hb dX4_answerFrame_5 rfl (lv_at hl 0 rfl) ?_
  refine lv_if_eq (tgt := 17) hx hb dX4_answerFrame_6 (by decide) (fun c23 => ?_) (fun c23 => ?_)
  · replace hf := if_t c23 hf
    replace hs := hs.1 c23
    exact J_17 r21.2 x22 _ _ ls hW (lv_sub hl [1, 0] rfl) hs hf
  · replace hf := if_f c23 hf
    replace hs := hs.2 c23
    refine lv_aload_n hx hb dX4_answerFrame_9 rfl (lv_at hl 1 rfl) ?_
    obtain ⟨r24, er24, hf⟩ := bd_e hf
    replace hs := bd_s er24 hs
    refine ct_V (As := []) (rest := []) (st1 := [.int r24.1]) (q0 := 0) (ci := 4) S hA hW (c_X4_isBroadcast l D g r21.2 er24) (wG_V km_X4_156 ki_yX4_isBroadcast ks_yX4_isBroadcast kn_X4 kc_yX4_isBroadcast) ⟨rfl, rfl⟩ hd_X4_isBroadcast (by rw [hR]; exact ⟨Nat.le_of_ble_eq_true rfl, Nat.le_of_ble_eq_true rfl⟩) rfl rfl rfl rfl hl.1 rfl (Nat.le_of_ble_eq_true rfl) ⟨Nat.zero_le _, Nat.zero_le _⟩ dX4_answerFrame_10 rfl (fun H locs hW => ?_)
    refine lv_if_eq (tgt := 17) hx hb dX4_answerFrame_13 (by decide) (fun c25 => ?_) (fun c25 => ?_)
    · replace hf := if_t c25 hf
      replace hs := hs.1 c25
      exact J_17 r24.2 x22 _ _ ls hW (lv_sub hl [1, 0] rfl) hs hf
    · replace hf := if_f c25 hf
      replace hs := hs.2 c25
      subst hf
      exact ct_v S hr hlocks hW dX4_answerFrame_16
def f_X4_beginBurst (z : Sg)  : Sg := bd (pI z 3 ((gI z 3) + 1)) (fun z21 => bd (f_X4_compose z21 129 (gI z21 6) (gI z21 18) 0) (fun z23 => bd (pI z23 6 (1 - (gI z23 6))) (fun z24 => z24)))
def s_X4_beginBurst (z : Sg)  : Prop := bd (pI z 3 ((gI z 3) + 1)) (fun z21 => (s_X4_compose z21 129 (gI z21 6) (gI z21 18) 0) ∧ True)
theorem hd_X4_beginBurst : yX4_beginBurst.cls = RX4 ∧ yX4_beginBurst.cls ≠ "java/lang/invoke/MethodHandle" ∧ yX4_beginBurst.cls ≠ "java/lang/invoke/VarHandle" ∧ (parseMethodDescriptor yX4_beginBurst.desc).map (fun d => d.parameters.length) = some 0 := by decide +kernel
set_option maxHeartbeats 4000000 in
set_option maxRecDepth 100000 in
theorem c_X4_beginBurst (l : Launch) (D : va_G) (g : Gv) (z : Sg)  {r : Sg} (er : r = f_X4_beginBurst z ) (hs : s_X4_beginBurst z ) : CT D (wD g) (tD g) l yX4_beginBurst (wG yX4_beginBurst cX4_beginBurst 1 none) { frames := 5, cells := 0, slots := 0, locals := 107 } [.ref (g.1 0)] z none r := by
  refine CT.ofW (by decide) (Nat.le_of_ble_eq_true rfl) ?_
  intro p e R s m args below meth c A hR S hr hlocks hA hW ls hl
  have S : CallFix p m c cX4_beginBurst 1 s args wsL_law RX4 := S
  have hl : lv_has ls 1 [(0, .ref (g.1 0))] := hl
  have hx := S.1
  have hb := S.2.1
  have hf := er.symm
  clear er
  unfold f_X4_beginBurst at hf
  unfold s_X4_beginBurst at hs
  refine lv_aload_n hx hb dX4_beginBurst_0 rfl (lv_at hl 0 rfl) ?_
  refine lv_dup hx hb dX4_beginBurst_1 rfl ?_
  refine gX4_bursts S hW kf_X4_89 dX4_beginBurst_2 ?_
  refine lv_iconst (v := 1) hx hb dX4_beginBurst_5 (by decide) ?_
  refine lv_iadd hx hb dX4_beginBurst_6 ?_
  obtain ⟨z21, ez21, hf⟩ := bd_e hf
  replace hs := bd_s ez21 hs
  refine pX4_bursts S hW kf_X4_89 dX4_beginBurst_7 ez21 (fun H locs hW => ?_)
  refine lv_aload_n hx hb dX4_beginBurst_10 rfl (lv_at hl 0 rfl) ?_
  refine lv_sipush (v := 129) hx hb dX4_beginBurst_11 (by decide) ?_
  refine lv_aload_n hx hb dX4_beginBurst_14 rfl (lv_at hl 0 rfl) ?_
  refine gX4_burstMaster S hW kf_X4_137 dX4_beginBurst_15 ?_
  refine lv_aload_n hx hb dX4_beginBurst_18 rfl (lv_at hl 0 rfl) ?_
  refine gX4_holdings S hW kf_X4_15 dX4_beginBurst_19 ?_
  refine gX2_burstCommand S hW kf_X4_83 dX4_beginBurst_22 ?_
  refine lv_iconst (v := 0) hx hb dX4_beginBurst_25 (by decide) ?_
  obtain ⟨q22, hs⟩ := hs
  obtain ⟨z23, ez23, hf⟩ := bd_e hf
  refine ct_V (As := [.int 129, .int (gI z21 6), .int (gI z21 18), .int 0]) (rest := []) (st1 := []) (q0 := 0) (ci := 4) S hA hW (c_X4_compose l D g z21 129 (gI z21 6) (gI z21 18) 0 ez23 q22) (wG_V km_X4_140 ki_yX4_compose ks_yX4_compose kn_X4 kc_yX4_compose) ⟨rfl, rfl⟩ hd_X4_compose (by rw [hR]; exact ⟨Nat.le_of_ble_eq_true rfl, Nat.le_of_ble_eq_true rfl⟩) rfl rfl rfl rfl hl.1 rfl (Nat.le_of_ble_eq_true rfl) ⟨Nat.zero_le _, Nat.zero_le _⟩ dX4_beginBurst_26 rfl (fun H locs hW => ?_)
  refine lv_aload_n hx hb dX4_beginBurst_29 rfl (lv_at hl 0 rfl) ?_
  refine lv_iconst (v := 1) hx hb dX4_beginBurst_30 (by decide) ?_
  refine lv_aload_n hx hb dX4_beginBurst_31 rfl (lv_at hl 0 rfl) ?_
  refine gX4_burstMaster S hW kf_X4_137 dX4_beginBurst_32 ?_
  refine lv_isub hx hb dX4_beginBurst_35 ?_
  obtain ⟨z24, ez24, hf⟩ := bd_e hf
  refine pX4_burstMaster S hW kf_X4_137 dX4_beginBurst_36 ez24 (fun H locs hW => ?_)
  subst hf
  exact ct_v S hr hlocks hW dX4_beginBurst_39
def f_X4_burstIsDue (z : Sg)  : Int32 × Sg := (if (gI z 17) = 0 then (0, z) else (if (gI z 1) < 8 then (0, z) else bd (f_X1_isBusy z) (fun r23 => (if r23.1 = 0 then (1, r23.2) else (0, r23.2)))))
theorem hd_X4_burstIsDue : yX4_burstIsDue.cls = RX4 ∧ yX4_burstIsDue.cls ≠ "java/lang/invoke/MethodHandle" ∧ yX4_burstIsDue.cls ≠ "java/lang/invoke/VarHandle" ∧ (parseMethodDescriptor yX4_burstIsDue.desc).map (fun d => d.parameters.length) = some 0 := by decide +kernel
set_option maxHeartbeats 4000000 in
set_option maxRecDepth 100000 in
theorem c_X4_burstIsDue (l : Launch) (D : va_G) (g : Gv) (z : Sg)  {r : Int32 × Sg} (er : r = f_X4_burstIsDue z ) : CT D (wD g) (tD g) l yX4_burstIsDue (wG yX4_burstIsDue cX4_burstIsDue 1 (some .boolean)) { frames := 1, cells := 0, slots := 0, locals := 20 } [.ref (g.1 0)] z (some (.int r.1)) r.2 := by
  refine CT.ofW (by decide) (Nat.le_of_ble_eq_true rfl) ?_
  intro p e R s m args below meth c A hR S hr hlocks hA hW ls hl
  have S : CallFix p m c cX4_burstIsDue 1 s args wsL_law RX4 := S
  have hl : lv_has ls 1 [(0, .ref (g.1 0))] := hl
  have hx := S.1
  have hb := S.2.1
  have hf := er.symm
  clear er
  unfold f_X4_burstIsDue at hf
  refine lv_aload_n hx hb dX4_burstIsDue_0 rfl (lv_at hl 0 rfl) ?_
  refine gX4_holdings S hW kf_X4_15 dX4_burstIsDue_1 ?_
  refine gX2_burstOn S hW kf_X4_80 dX4_burstIsDue_4 ?_
  refine lv_if_eq (tgt := 33) hx hb dX4_burstIsDue_7 (by decide) (fun c21 => ?_) (fun c21 => ?_)
  · replace hf := if_t c21 hf
    refine lv_iconst (v := 0) hx hb dX4_burstIsDue_33 (by decide) ?_
    subst hf
    exact ct_z (Or.inl rfl) S hr hlocks hW dX4_burstIsDue_34
  · replace hf := if_f c21 hf
    refine lv_aload_n hx hb dX4_burstIsDue_10 rfl (lv_at hl 0 rfl) ?_
    refine gX4_quietTicks S hW kf_X4_134 dX4_burstIsDue_11 ?_
    refine lv_bipush (v := 8) hx hb dX4_burstIsDue_14 (by decide) ?_
    refine lv_icmp_lt (tgt := 33) hx hb dX4_burstIsDue_16 (by decide) (fun c22 => ?_) (fun c22 => ?_)
    · replace hf := if_t c22 hf
      refine lv_iconst (v := 0) hx hb dX4_burstIsDue_33 (by decide) ?_
      subst hf
      exact ct_z (Or.inl rfl) S hr hlocks hW dX4_burstIsDue_34
    · replace hf := if_f c22 hf
      refine lv_aload_n hx hb dX4_burstIsDue_19 rfl (lv_at hl 0 rfl) ?_
      refine gX4_writer S hW kf_X4_29 dX4_burstIsDue_20 ?_
      obtain ⟨r23, er23, hf⟩ := bd_e hf
      refine ct_V (As := []) (rest := []) (st1 := [.int r23.1]) (q0 := 3) (ci := 1) S hA hW (c_X1_isBusy l D g z er23) (wG_V km_X4_111 ki_yX1_isBusy ks_yX1_isBusy kn_X1 kc_yX1_isBusy) ⟨rfl, rfl⟩ hd_X1_isBusy (by rw [hR]; exact ⟨Nat.le_of_ble_eq_true rfl, Nat.le_of_ble_eq_true rfl⟩) rfl rfl rfl rfl hl.1 rfl (Nat.le_of_ble_eq_true rfl) ⟨Nat.zero_le _, Nat.zero_le _⟩ dX4_burstIsDue_23 rfl (fun H locs hW => ?_)
      refine lv_if_ne (tgt := 33) hx hb dX4_burstIsDue_26 (by decide) (fun c24 => ?_) (fun c24 => ?_)
      · replace hf := if_f c24 hf
        refine lv_iconst (v := 0) hx hb dX4_burstIsDue_33 (by decide) ?_
        subst hf
        exact ct_z (Or.inl rfl) S hr hlocks hW dX4_burstIsDue_34
      · replace hf := if_t c24 hf
        refine lv_iconst (v := 1) hx hb dX4_burstIsDue_29 (by decide) ?_
        refine lv_goto (tgt := 34) hx hb dX4_burstIsDue_30 (by decide) ?_
        subst hf
        exact ct_z (Or.inr rfl) S hr hlocks hW dX4_burstIsDue_34
def f_X4_passTick_106 (z : Sg) (k1 : Int32) : Sg := bd (pI z 1 k1) (fun z42 => bd (pI z42 0 ((gI z42 0) + 1)) (fun z43 => z43))
def f_X4_passTick_105 (z : Sg)  : Sg := f_X4_passTick_106 z 0
def f_X4_passTick_85 (z : Sg) (y1 : Int32) (y3 : Int32) : Sg := (if y1 = (-1) then (if y3 = (-1) then f_X4_passTick_106 z ((gI z 1) + 1) else f_X4_passTick_105 z) else f_X4_passTick_105 z)
def f_X4_passTick_53 (z : Sg) (y1 : Int32) (y3 : Int32) : Sg := bd (f_X0_beginAnew z) (fun z39 => f_X4_passTick_85 z39 y1 y3)
def f_X4_passTick_44 (z : Sg) (y1 : Int32) (y2 : Int32) (y3 : Int32) : Sg := (if y2 = 0 then (if y1 = (-1) then f_X4_passTick_53 z y1 y3 else bd (f_X0_take z y1) (fun r33 => (if r33.1 = 0 then f_X4_passTick_85 r33.2 y1 y3 else bd (f_X4_countFrame r33.2) (fun r35 => (if r35.1 = 0 then f_X4_passTick_85 r35.2 y1 y3 else bd (f_X4_answerFrame r35.2) (fun z38 => f_X4_passTick_85 z38 y1 y3)))))) else f_X4_passTick_53 z y1 y3)
def s_X4_passTick_44 (z : Sg) (y1 : Int32) (y2 : Int32) (y3 : Int32) : Prop := (y2 = 0 → (y1 = (-1) → True) ∧ (¬ y1 = (-1) → bd (f_X0_take z y1) (fun r33 => (r33.1 = 0 → True) ∧ (¬ r33.1 = 0 → bd (f_X4_countFrame r33.2) (fun r35 => (r35.1 = 0 → True) ∧ (¬ r35.1 = 0 → (s_X4_answerFrame r35.2) ∧ bd (f_X4_answerFrame r35.2) (fun z38 => True))))))) ∧ (¬ y2 = 0 → True)
def f_X4_passTick_11 (z : Sg) (y1 : Int32) : Sg := bd (f_X1_isBusy z) (fun r25 => bd (r25.1) (fun x26 => bd (f_X1_takeNext r25.2) (fun r27 => bd (r27.1) (fun x28 => (if x28 = (-1) then f_X4_passTick_44 r27.2 y1 x26 x28 else bd (f_X3_add r27.2 x28 (gI r27.2 0)) (fun z30 => f_X4_passTick_44 z30 y1 x26 x28))))))
def s_X4_passTick_11 (z : Sg) (y1 : Int32) : Prop := bd (f_X1_isBusy z) (fun r25 => bd (r25.1) (fun x26 => bd (f_X1_takeNext r25.2) (fun r27 => bd (r27.1) (fun x28 => (x28 = (-1) → s_X4_passTick_44 r27.2 y1 x26 x28) ∧ (¬ x28 = (-1) → bd (f_X3_add r27.2 x28 (gI r27.2 0)) (fun z30 => s_X4_passTick_44 z30 y1 x26 x28))))))
def f_X4_passTick (z : Sg) (x1 : Int32) : Sg := bd (f_X4_burstIsDue z) (fun r21 => (if r21.1 = 0 then f_X4_passTick_11 r21.2 x1 else bd (f_X4_beginBurst r21.2) (fun z24 => f_X4_passTick_11 z24 x1)))
def s_X4_passTick (z : Sg) (x1 : Int32) : Prop := bd (f_X4_burstIsDue z) (fun r21 => (r21.1 = 0 → s_X4_passTick_11 r21.2 x1) ∧ (¬ r21.1 = 0 → (s_X4_beginBurst r21.2) ∧ bd (f_X4_beginBurst r21.2) (fun z24 => s_X4_passTick_11 z24 x1)))
theorem hd_X4_passTick : yX4_passTick.cls = RX4 ∧ yX4_passTick.cls ≠ "java/lang/invoke/MethodHandle" ∧ yX4_passTick.cls ≠ "java/lang/invoke/VarHandle" ∧ (parseMethodDescriptor yX4_passTick.desc).map (fun d => d.parameters.length) = some 1 := by decide +kernel
set_option maxHeartbeats 4000000 in
set_option maxRecDepth 100000 in
theorem c_X4_passTick (l : Launch) (D : va_G) (g : Gv) (z : Sg) (x1 : Int32) {r : Sg} (er : r = f_X4_passTick z x1) (hs : s_X4_passTick z x1) : CT D (wD g) (tD g) l yX4_passTick (wG yX4_passTick cX4_passTick 4 none) { frames := 6, cells := 0, slots := 0, locals := 129 } [.ref (g.1 0), .int x1] z none r := by
  refine CT.ofW (by decide) (Nat.le_of_ble_eq_true rfl) ?_
  intro p e R s m args below meth c A hR S hr hlocks hA hW ls hl
  have S : CallFix p m c cX4_passTick 4 s args wsL_law RX4 := S
  have hl : lv_has ls 4 [(0, .ref (g.1 0)), (1, .int x1)] := hl
  have hx := S.1
  have hb := S.2.1
  have hf := er.symm
  clear er
  have J_106 : ∀ (z : Sg) (k1 : Int32) (H : Heap) (locs : List Loc) (ls : Array Slot), Wd D (wD g) (tD g) A s H locs z → lv_has ls 4 [(0, .ref (g.1 0))] → f_X4_passTick_106 z k1 = r → W p l e R s m args below meth c H locs 0 0 (MQ below (CQ D (wD g) A none r) args s 0 0 A) (F0 m 106 ls [.int k1, .ref (g.1 0)]) := by
    intro z k1 H locs ls hW hl hf
    unfold f_X4_passTick_106 at hf
    obtain ⟨z42, ez42, hf⟩ := bd_e hf
    refine pX4_quietTicks S hW kf_X4_134 dX4_passTick_106 ez42 (fun H locs hW => ?_)
    refine lv_aload_n hx hb dX4_passTick_109 rfl (lv_at hl 0 rfl) ?_
    refine lv_dup hx hb dX4_passTick_110 rfl ?_
    refine gX4_ticks S hW kf_X4_101 dX4_passTick_111 ?_
    refine lv_iconst (v := 1) hx hb dX4_passTick_114 (by decide) ?_
    refine lv_iadd hx hb dX4_passTick_115 ?_
    obtain ⟨z43, ez43, hf⟩ := bd_e hf
    refine pX4_ticks S hW kf_X4_101 dX4_passTick_116 ez43 (fun H locs hW => ?_)
    subst hf
    exact ct_v S hr hlocks hW dX4_passTick_119
  have J_105 : ∀ (z : Sg)  (H : Heap) (locs : List Loc) (ls : Array Slot), Wd D (wD g) (tD g) A s H locs z → lv_has ls 4 [(0, .ref (g.1 0))] → f_X4_passTick_105 z  = r → W p l e R s m args below meth c H locs 0 0 (MQ below (CQ D (wD g) A none r) args s 0 0 A) (F0 m 105 ls [.ref (g.1 0)]) := by
    intro z  H locs ls hW hl hf
    unfold f_X4_passTick_105 at hf
    refine lv_iconst (v := 0) hx hb dX4_passTick_105 (by decide) ?_
    exact J_106 z 0 _ _ ls hW (lv_sub hl [0] rfl) hf
  have J_85 : ∀ (z : Sg) (y1 : Int32) (y3 : Int32) (H : Heap) (locs : List Loc) (ls : Array Slot), Wd D (wD g) (tD g) A s H locs z → lv_has ls 4 [(0, .ref (g.1 0)), (1, .int y1), (3, .int y3)] → f_X4_passTick_85 z y1 y3 = r → W p l e R s m args below meth c H locs 0 0 (MQ below (CQ D (wD g) A none r) args s 0 0 A) (F0 m 85 ls []) := by
    intro z y1 y3 H locs ls hW hl hf
    unfold f_X4_passTick_85 at hf
    refine lv_aload_n hx hb dX4_passTick_85 rfl (lv_at hl 0 rfl) ?_
    refine lv_iload_n hx hb dX4_passTick_86 rfl (lv_at hl 1 rfl) ?_
    refine lv_iconst (v := (-1)) hx hb dX4_passTick_87 (by decide) ?_
    refine lv_icmp_ne (tgt := 105) hx hb dX4_passTick_88 (by decide) (fun c40 => ?_) (fun c40 => ?_)
    · replace hf := if_f c40 hf
      exact J_105 z _ _ ls hW (lv_sub hl [0] rfl) hf
    · replace hf := if_t c40 hf
      refine lv_iload_n hx hb dX4_passTick_91 rfl (lv_at hl 2 rfl) ?_
      refine lv_iconst (v := (-1)) hx hb dX4_passTick_92 (by decide) ?_
      refine lv_icmp_ne (tgt := 105) hx hb dX4_passTick_93 (by decide) (fun c41 => ?_) (fun c41 => ?_)
      · replace hf := if_f c41 hf
        exact J_105 z _ _ ls hW (lv_sub hl [0] rfl) hf
      · replace hf := if_t c41 hf
        refine lv_aload_n hx hb dX4_passTick_96 rfl (lv_at hl 0 rfl) ?_
        refine gX4_quietTicks S hW kf_X4_134 dX4_passTick_97 ?_
        refine lv_iconst (v := 1) hx hb dX4_passTick_100 (by decide) ?_
        refine lv_iadd hx hb dX4_passTick_101 ?_
        refine lv_goto (tgt := 106) hx hb dX4_passTick_102 (by decide) ?_
        exact J_106 z ((gI z 1) + 1) _ _ ls hW (lv_sub hl [0] rfl) hf
  have J_53 : ∀ (z : Sg) (y1 : Int32) (y3 : Int32) (H : Heap) (locs : List Loc) (ls : Array Slot), Wd D (wD g) (tD g) A s H locs z → lv_has ls 4 [(0, .ref (g.1 0)), (1, .int y1), (3, .int y3)] → f_X4_passTick_53 z y1 y3 = r → W p l e R s m args below meth c H locs 0 0 (MQ below (CQ D (wD g) A none r) args s 0 0 A) (F0 m 53 ls []) := by
    intro z y1 y3 H locs ls hW hl hf
    unfold f_X4_passTick_53 at hf
    refine lv_aload_n hx hb dX4_passTick_53 rfl (lv_at hl 0 rfl) ?_
    refine gX4_reader S hW kf_X4_22 dX4_passTick_54 ?_
    obtain ⟨z39, ez39, hf⟩ := bd_e hf
    refine ct_V (As := []) (rest := []) (st1 := []) (q0 := 2) (ci := 0) S hA hW (c_X0_beginAnew l D g z ez39) (wG_V km_X4_121 ki_yX0_beginAnew ks_yX0_beginAnew kn_X0 kc_yX0_beginAnew) ⟨rfl, rfl⟩ hd_X0_beginAnew (by rw [hR]; exact ⟨Nat.le_of_ble_eq_true rfl, Nat.le_of_ble_eq_true rfl⟩) rfl rfl rfl rfl hl.1 rfl (Nat.le_of_ble_eq_true rfl) ⟨Nat.zero_le _, Nat.zero_le _⟩ dX4_passTick_57 rfl (fun H locs hW => ?_)
    refine lv_goto (tgt := 85) hx hb dX4_passTick_60 (by decide) ?_
    exact J_85 z39 y1 y3 _ _ ls hW (lv_sub hl [0, 1, 2] rfl) hf
  have J_44 : ∀ (z : Sg) (y1 : Int32) (y2 : Int32) (y3 : Int32) (H : Heap) (locs : List Loc) (ls : Array Slot), Wd D (wD g) (tD g) A s H locs z → lv_has ls 4 [(0, .ref (g.1 0)), (1, .int y1), (2, .int y2), (3, .int y3)] → s_X4_passTick_44 z y1 y2 y3 → f_X4_passTick_44 z y1 y2 y3 = r → W p l e R s m args below meth c H locs 0 0 (MQ below (CQ D (wD g) A none r) args s 0 0 A) (F0 m 44 ls []) := by
    intro z y1 y2 y3 H locs ls hW hl hs hf
    unfold f_X4_passTick_44 at hf
    unfold s_X4_passTick_44 at hs
    refine lv_iload_n hx hb dX4_passTick_44 rfl (lv_at hl 2 rfl) ?_
    refine lv_if_ne (tgt := 53) hx hb dX4_passTick_45 (by decide) (fun c31 => ?_) (fun c31 => ?_)
    · replace hf := if_f c31 hf
      replace hs := hs.2 c31
      exact J_53 z y1 y3 _ _ ls hW (lv_sub hl [0, 1, 3] rfl) hf
    · replace hf := if_t c31 hf
      replace hs := hs.1 c31
      refine lv_iload_n hx hb dX4_passTick_48 rfl (lv_at hl 1 rfl) ?_
      refine lv_iconst (v := (-1)) hx hb dX4_passTick_49 (by decide) ?_
      refine lv_icmp_ne (tgt := 63) hx hb dX4_passTick_50 (by decide) (fun c32 => ?_) (fun c32 => ?_)
      · replace hf := if_f c32 hf
        replace hs := hs.2 c32
        refine lv_aload_n hx hb dX4_passTick_63 rfl (lv_at hl 0 rfl) ?_
        refine gX4_reader S hW kf_X4_22 dX4_passTick_64 ?_
        refine lv_iload_n hx hb dX4_passTick_67 rfl (lv_at hl 1 rfl) ?_
        obtain ⟨r33, er33, hf⟩ := bd_e hf
        replace hs := bd_s er33 hs
        refine ct_V (As := [.int y1]) (rest := []) (st1 := [.int r33.1]) (q0 := 2) (ci := 0) S hA hW (c_X0_take l D g z y1 er33) (wG_V km_X4_124 ki_yX0_take ks_yX0_take kn_X0 kc_yX0_take) ⟨rfl, rfl⟩ hd_X0_take (by rw [hR]; exact ⟨Nat.le_of_ble_eq_true rfl, Nat.le_of_ble_eq_true rfl⟩) rfl rfl rfl rfl hl.1 rfl (Nat.le_of_ble_eq_true rfl) ⟨Nat.zero_le _, Nat.zero_le _⟩ dX4_passTick_68 rfl (fun H locs hW => ?_)
        refine lv_if_eq (tgt := 85) hx hb dX4_passTick_71 (by decide) (fun c34 => ?_) (fun c34 => ?_)
        · replace hf := if_t c34 hf
          replace hs := hs.1 c34
          exact J_85 r33.2 y1 y3 _ _ ls hW (lv_sub hl [0, 1, 3] rfl) hf
        · replace hf := if_f c34 hf
          replace hs := hs.2 c34
          refine lv_aload_n hx hb dX4_passTick_74 rfl (lv_at hl 0 rfl) ?_
          obtain ⟨r35, er35, hf⟩ := bd_e hf
          replace hs := bd_s er35 hs
          refine ct_V (As := []) (rest := []) (st1 := [.int r35.1]) (q0 := 0) (ci := 4) S hA hW (c_X4_countFrame l D g r33.2 er35) (wG_V km_X4_128 ki_yX4_countFrame ks_yX4_countFrame kn_X4 kc_yX4_countFrame) ⟨rfl, rfl⟩ hd_X4_countFrame (by rw [hR]; exact ⟨Nat.le_of_ble_eq_true rfl, Nat.le_of_ble_eq_true rfl⟩) rfl rfl rfl rfl hl.1 rfl (Nat.le_of_ble_eq_true rfl) ⟨Nat.zero_le _, Nat.zero_le _⟩ dX4_passTick_75 rfl (fun H locs hW => ?_)
          refine lv_if_eq (tgt := 85) hx hb dX4_passTick_78 (by decide) (fun c36 => ?_) (fun c36 => ?_)
          · replace hf := if_t c36 hf
            replace hs := hs.1 c36
            exact J_85 r35.2 y1 y3 _ _ ls hW (lv_sub hl [0, 1, 3] rfl) hf
          · replace hf := if_f c36 hf
            replace hs := hs.2 c36
            refine lv_aload_n hx hb dX4_passTick_81 rfl (lv_at hl 0 rfl) ?_
            obtain ⟨q37, hs⟩ := hs
            obtain ⟨z38, ez38, hf⟩ := bd_e hf
            replace hs := bd_s ez38 hs
            refine ct_V (As := []) (rest := []) (st1 := []) (q0 := 0) (ci := 4) S hA hW (c_X4_answerFrame l D g r35.2 ez38 q37) (wG_V km_X4_131 ki_yX4_answerFrame ks_yX4_answerFrame kn_X4 kc_yX4_answerFrame) ⟨rfl, rfl⟩ hd_X4_answerFrame (by rw [hR]; exact ⟨Nat.le_of_ble_eq_true rfl, Nat.le_of_ble_eq_true rfl⟩) rfl rfl rfl rfl hl.1 rfl (Nat.le_of_ble_eq_true rfl) ⟨Nat.zero_le _, Nat.zero_le _⟩ dX4_passTick_82 rfl (fun H locs hW => ?_)
            exact J_85 z38 y1 y3 _ _ ls hW (lv_sub hl [0, 1, 3] rfl) hf
      · replace hf := if_t c32 hf
        replace hs := hs.1 c32
        exact J_53 z y1 y3 _ _ ls hW (lv_sub hl [0, 1, 3] rfl) hf
  have J_11 : ∀ (z : Sg) (y1 : Int32) (H : Heap) (locs : List Loc) (ls : Array Slot), Wd D (wD g) (tD g) A s H locs z → lv_has ls 4 [(0, .ref (g.1 0)), (1, .int y1)] → s_X4_passTick_11 z y1 → f_X4_passTick_11 z y1 = r → W p l e R s m args below meth c H locs 0 0 (MQ below (CQ D (wD g) A none r) args s 0 0 A) (F0 m 11 ls []) := by
    intro z y1 H locs ls hW hl hs hf
    unfold f_X4_passTick_11 at hf
    unfold s_X4_passTick_11 at hs
    refine lv_aload_n hx hb dX4_passTick_11 rfl (lv_at hl 0 rfl) ?_
    refine gX4_writer S hW kf_X4_29 dX4_passTick_12 ?_
    obtain ⟨r25, er25, hf⟩ := bd_e hf
    replace hs := bd_s er25 hs
    refine ct_V (As := []) (rest := []) (st1 := [.int r25.1]) (q0 := 3) (ci := 1) S hA hW (c_X1_isBusy l D g z er25) (wG_V km_X4_111 ki_yX1_isBusy ks_yX1_isBusy kn_X1 kc_yX1_isBusy) ⟨rfl, rfl⟩ hd_X1_isBusy (by rw [hR]; exact ⟨Nat.le_of_ble_eq_true rfl, Nat.le_of_ble_eq_true rfl⟩) rfl rfl rfl rfl hl.1 rfl (Nat.le_of_ble_eq_true rfl) ⟨Nat.zero_le _, Nat.zero_le _⟩ dX4_passTick_15 rfl (fun H locs hW => ?_)
    obtain ⟨x26, ex26, hf⟩ := bd_e hf
    replace hs := bd_s ex26 hs
    refine lv_nmi ex26 ?_
    refine lv_istore_n (lv' := [(2, .int x26), (0, .ref (g.1 0)), (1, .int y1)]) hx hb dX4_passTick_18 rfl hl (by decide) rfl (fun ls hl => ?_)
    refine lv_aload_n hx hb dX4_passTick_19 rfl (lv_at hl 1 rfl) ?_
    refine gX4_writer S hW kf_X4_29 dX4_passTick_20 ?_
    obtain ⟨r27, er27, hf⟩ := bd_e hf
    replace hs := bd_s er27 hs
    refine ct_V (As := []) (rest := []) (st1 := [.int r27.1]) (q0 := 3) (ci := 1) S hA hW (c_X1_takeNext l D g r25.2 er27) (wG_V km_X4_114 ki_yX1_takeNext ks_yX1_takeNext kn_X1 kc_yX1_takeNext) ⟨rfl, rfl⟩ hd_X1_takeNext (by rw [hR]; exact ⟨Nat.le_of_ble_eq_true rfl, Nat.le_of_ble_eq_true rfl⟩) rfl rfl rfl rfl hl.1 rfl (Nat.le_of_ble_eq_true rfl) ⟨Nat.zero_le _, Nat.zero_le _⟩ dX4_passTick_23 rfl (fun H locs hW => ?_)
    obtain ⟨x28, ex28, hf⟩ := bd_e hf
    replace hs := bd_s ex28 hs
    refine lv_nmi ex28 ?_
    refine lv_istore_n (lv' := [(3, .int x28), (2, .int x26), (0, .ref (g.1 0)), (1, .int y1)]) hx hb dX4_passTick_26 rfl hl (by decide) rfl (fun ls hl => ?_)
    refine lv_iload_n hx hb dX4_passTick_27 rfl (lv_at hl 0 rfl) ?_
    refine lv_iconst (v := (-1)) hx hb dX4_passTick_28 (by decide) ?_
    refine lv_icmp_eq (tgt := 44) hx hb dX4_passTick_29 (by decide) (fun c29 => ?_) (fun c29 => ?_)
    · replace hf := if_t c29 hf
      replace hs := hs.1 c29
      exact J_44 r27.2 y1 x26 x28 _ _ ls hW (lv_sub hl [2, 3, 1, 0] rfl) hs hf
    · replace hf := if_f c29 hf
      replace hs := hs.2 c29
      refine lv_aload_n hx hb dX4_passTick_32 rfl (lv_at hl 2 rfl) ?_
      refine gX4_gone S hW kf_X4_36 dX4_passTick_33 ?_
      refine lv_iload_n hx hb dX4_passTick_36 rfl (lv_at hl 0 rfl) ?_
      refine lv_aload_n hx hb dX4_passTick_37 rfl (lv_at hl 2 rfl) ?_
      refine gX4_ticks S hW kf_X4_101 dX4_passTick_38 ?_
      obtain ⟨z30, ez30, hf⟩ := bd_e hf
      replace hs := bd_s ez30 hs
      refine ct_V (As := [.int x28, .int (gI r27.2 0)]) (rest := []) (st1 := []) (q0 := 4) (ci := 3) S hA hW (c_X3_add l D g r27.2 x28 (gI r27.2 0) ez30) (wG_V km_X4_118 ki_yX3_add ks_yX3_add kn_X3 kc_yX3_add) ⟨rfl, rfl⟩ hd_X3_add (by rw [hR]; exact ⟨Nat.le_of_ble_eq_true rfl, Nat.le_of_ble_eq_true rfl⟩) rfl rfl rfl rfl hl.1 rfl (Nat.le_of_ble_eq_true rfl) ⟨Nat.zero_le _, Nat.zero_le _⟩ dX4_passTick_41 rfl (fun H locs hW => ?_)
      exact J_44 z30 y1 x26 x28 _ _ ls hW (lv_sub hl [2, 3, 1, 0] rfl) hs hf
  unfold f_X4_passTick at hf
  unfold s_X4_passTick at hs
  refine lv_aload_n hx hb dX4_passTick_0 rfl (lv_at hl 0 rfl) ?_
  obtain ⟨r21, er21, hf⟩ := bd_e hf
  replace hs := bd_s er21 hs
  refine ct_V (As := []) (rest := []) (st1 := [.int r21.1]) (q0 := 0) (ci := 4) S hA hW (c_X4_burstIsDue l D g z er21) (wG_V km_X4_104 ki_yX4_burstIsDue ks_yX4_burstIsDue kn_X4 kc_yX4_burstIsDue) ⟨rfl, rfl⟩ hd_X4_burstIsDue (by rw [hR]; exact ⟨Nat.le_of_ble_eq_true rfl, Nat.le_of_ble_eq_true rfl⟩) rfl rfl rfl rfl hl.1 rfl (Nat.le_of_ble_eq_true rfl) ⟨Nat.zero_le _, Nat.zero_le _⟩ dX4_passTick_1 rfl (fun H locs hW => ?_)
  refine lv_if_eq (tgt := 11) hx hb dX4_passTick_4 (by decide) (fun c22 => ?_) (fun c22 => ?_)
  · replace hf := if_t c22 hf
    replace hs := hs.1 c22
    exact J_11 r21.2 x1 _ _ ls hW (lv_sub hl [0, 1] rfl) hs hf
  · replace hf := if_f c22 hf
    replace hs := hs.2 c22
    refine lv_aload_n hx hb dX4_passTick_7 rfl (lv_at hl 0 rfl) ?_
    obtain ⟨q23, hs⟩ := hs
    obtain ⟨z24, ez24, hf⟩ := bd_e hf
    replace hs := bd_s ez24 hs
    refine ct_V (As := []) (rest := []) (st1 := []) (q0 := 0) (ci := 4) S hA hW (c_X4_beginBurst l D g r21.2 ez24 q23) (wG_V km_X4_108 ki_yX4_beginBurst ks_yX4_beginBurst kn_X4 kc_yX4_beginBurst) ⟨rfl, rfl⟩ hd_X4_beginBurst (by rw [hR]; exact ⟨Nat.le_of_ble_eq_true rfl, Nat.le_of_ble_eq_true rfl⟩) rfl rfl rfl rfl hl.1 rfl (Nat.le_of_ble_eq_true rfl) ⟨Nat.zero_le _, Nat.zero_le _⟩ dX4_passTick_8 rfl (fun H locs hW => ?_)
    exact J_11 z24 x1 _ _ ls hW (lv_sub hl [0, 1] rfl) hs hf
