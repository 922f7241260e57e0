def f_X4_setsSomething (z : Sg) (x0 : Int32) : Int32 × Sg := (if x0 = 6 then (1, z) else (if x0 = 18 then (1, z) else (if x0 = 35 then (1, z) else (if x0 = 108 then (1, z) else (if x0 = 109 then (1, z) else (0, z))))))
theorem hd_X4_setsSomething : yX4_setsSomething.cls = RX4 ∧ yX4_setsSomething.cls ≠ "java/lang/invoke/MethodHandle" ∧ yX4_setsSomething.cls ≠ "java/lang/invoke/VarHandle" ∧ (parseMethodDescriptor yX4_setsSomething.desc).map (fun d => d.parameters.length) = some 1 := by decide +kernel
set_option maxHeartbeats 4000000 in
set_option maxRecDepth 100000 in
theorem c_X4_setsSomething (l : Launch) (D : va_G) (g : Gv) (z : Sg) (x0 : Int32) {r : Int32 × Sg} (er : r = f_X4_setsSomething z x0) : CT D (wD g) (tD g) l yX4_setsSomething (wG yX4_setsSomething cX4_setsSomething 1 (some .boolean)) { frames := 0, cells := 0, slots := 0, locals := 0 } [.int x0] z (some (.int r.1)) r.2 := by
  refine CT.ofW (by decide) (Nat.le_of_ble_eq_true rfl) ?_
  intro p e R s m args below meth c A hR S hr hlocks hA hW ls hl
  have S : CallFix p m c cX4_setsSomething 1 s args wsL_law RX4 := S
  have hl : lv_has ls 1 [(0, .int x0)] := hl
  have hx := S.1
  have hb := S.2.1
  have hf := er.symm
  clear er
  unfold f_X4_setsSomething at hf
  refine lv_iload_n hx hb dX4_setsSomething_0 rfl (lv_at hl 0 rfl) ?_
  refine lv_bipush (v := 6) hx hb dX4_setsSomething_1 (by decide) ?_
  refine lv_icmp_eq (tgt := 30) hx hb dX4_setsSomething_3 (by decide) (fun c21 => ?_) (fun c21 => ?_)
  · replace hf := if_t c21 hf
    refine lv_iconst (v := 1) hx hb dX4_setsSomething_30 (by decide) ?_
    refine lv_goto (tgt := 35) hx hb dX4_setsSomething_31 (by decide) ?_
    subst hf
    exact ct_z (Or.inr rfl) S hr hlocks hW dX4_setsSomething_35
  · replace hf := if_f c21 hf
    refine lv_iload_n hx hb dX4_setsSomething_6 rfl (lv_at hl 0 rfl) ?_
    refine lv_bipush (v := 18) hx hb dX4_setsSomething_7 (by decide) ?_
    refine lv_icmp_eq (tgt := 30) hx hb dX4_setsSomething_9 (by decide) (fun c22 => ?_) (fun c22 => ?_)
    · replace hf := if_t c22 hf
      refine lv_iconst (v := 1) hx hb dX4_setsSomething_30 (by decide) ?_
      refine lv_goto (tgt := 35) hx hb dX4_setsSomething_31 (by decide) ?_
      subst hf
      exact ct_z (Or.inr rfl) S hr hlocks hW dX4_setsSomething_35
    · replace hf := if_f c22 hf
      refine lv_iload_n hx hb dX4_setsSomething_12 rfl (lv_at hl 0 rfl) ?_
      refine lv_bipush (v := 35) hx hb dX4_setsSomething_13 (by decide) ?_
      refine lv_icmp_eq (tgt := 30) hx hb dX4_setsSomething_15 (by decide) (fun c23 => ?_) (fun c23 => ?_)
      · replace hf := if_t c23 hf
        refine lv_iconst (v := 1) hx hb dX4_setsSomething_30 (by decide) ?_
        refine lv_goto (tgt := 35) hx hb dX4_setsSomething_31 (by decide) ?_
        subst hf
        exact ct_z (Or.inr rfl) S hr hlocks hW dX4_setsSomething_35
      · replace hf := if_f c23 hf
        refine lv_iload_n hx hb dX4_setsSomething_18 rfl (lv_at hl 0 rfl) ?_
        refine lv_bipush (v := 108) hx hb dX4_setsSomething_19 (by decide) ?_
        refine lv_icmp_eq (tgt := 30) hx hb dX4_setsSomething_21 (by decide) (fun c24 => ?_) (fun c24 => ?_)
        · replace hf := if_t c24 hf
          refine lv_iconst (v := 1) hx hb dX4_setsSomething_30 (by decide) ?_
          refine lv_goto (tgt := 35) hx hb dX4_setsSomething_31 (by decide) ?_
          subst hf
          exact ct_z (Or.inr rfl) S hr hlocks hW dX4_setsSomething_35
        · replace hf := if_f c24 hf
          refine lv_iload_n hx hb dX4_setsSomething_24 rfl (lv_at hl 0 rfl) ?_
          refine lv_bipush (v := 109) hx hb dX4_setsSomething_25 (by decide) ?_
          refine lv_icmp_ne (tgt := 34) hx hb dX4_setsSomething_27 (by decide) (fun c25 => ?_) (fun c25 => ?_)
          · replace hf := if_f c25 hf
            refine lv_iconst (v := 0) hx hb dX4_setsSomething_34 (by decide) ?_
            subst hf
            exact ct_z (Or.inl rfl) S hr hlocks hW dX4_setsSomething_35
          · replace hf := if_t c25 hf
            refine lv_iconst (v := 1) hx hb dX4_setsSomething_30 (by decide) ?_
            refine lv_goto (tgt := 35) hx hb dX4_setsSomething_31 (by decide) ?_
            subst hf
            exact ct_z (Or.inr rfl) S hr hlocks hW dX4_setsSomething_35
def f_X4_countOfCommand (z : Sg) (x0 : Int32) : Int32 × Sg := (if x0 = 0 then (0, z) else (if x0 = 1 then (0, z) else (if x0 = 2 then (0, z) else (if x0 = 3 then (0, z) else (if x0 = 6 then (1, z) else (if x0 = 11 then (6, z) else (if x0 = 13 then (0, z) else (if x0 = 18 then (6, z) else (if x0 = 35 then (9, z) else (if x0 = 38 then (0, z) else (if x0 = 48 then (0, z) else (if x0 = 108 then (1, z) else (if x0 = 109 then (1, z) else ((-1), z))))))))))))))
theorem hd_X4_countOfCommand : yX4_countOfCommand.cls = RX4 ∧ yX4_countOfCommand.cls ≠ "java/lang/invoke/MethodHandle" ∧ yX4_countOfCommand.cls ≠ "java/lang/invoke/VarHandle" ∧ (parseMethodDescriptor yX4_countOfCommand.desc).map (fun d => d.parameters.length) = some 1 := by decide +kernel
set_option maxHeartbeats 4000000 in
set_option maxRecDepth 100000 in
theorem c_X4_countOfCommand (l : Launch) (D : va_G) (g : Gv) (z : Sg) (x0 : Int32) {r : Int32 × Sg} (er : r = f_X4_countOfCommand z x0) : CT D (wD g) (tD g) l yX4_countOfCommand (wG yX4_countOfCommand cX4_countOfCommand 1 (some .int)) { frames := 0, cells := 0, slots := 0, locals := 0 } [.int x0] z (some (.int r.1)) r.2 := by
  refine CT.ofW (by decide) (Nat.le_of_ble_eq_true rfl) ?_
  intro p e R s m args below meth c A hR S hr hlocks hA hW ls hl
  have S : CallFix p m c cX4_countOfCommand 1 s args wsL_law RX4 := S
  have hl : lv_has ls 1 [(0, .int x0)] := hl
  have hx := S.1
  have hb := S.2.1
  have hf := er.symm
  clear er
  unfold f_X4_countOfCommand at hf
  refine lv_iload_n hx hb dX4_countOfCommand_0 rfl (lv_at hl 0 rfl) ?_
  by_cases c21 : x0 = 0
  · replace hf := if_t c21 hf
    refine lv_lookup (off := 115) (tgt := 116) hx hb dX4_countOfCommand_1 (by decide) (by rw [c21]; decide) (by decide) ?_
    refine lv_iconst (v := 0) hx hb dX4_countOfCommand_116 (by decide) ?_
    subst hf
    exact ct_i S hr hlocks hW dX4_countOfCommand_117
  replace hf := if_f c21 hf
  by_cases c22 : x0 = 1
  · replace hf := if_t c22 hf
    refine lv_lookup (off := 115) (tgt := 116) hx hb dX4_countOfCommand_1 (by decide) (by rw [c22]; decide) (by decide) ?_
    refine lv_iconst (v := 0) hx hb dX4_countOfCommand_116 (by decide) ?_
    subst hf
    exact ct_i S hr hlocks hW dX4_countOfCommand_117
  replace hf := if_f c22 hf
  by_cases c23 : x0 = 2
  · replace hf := if_t c23 hf
    refine lv_lookup (off := 115) (tgt := 116) hx hb dX4_countOfCommand_1 (by decide) (by rw [c23]; decide) (by decide) ?_
    refine lv_iconst (v := 0) hx hb dX4_countOfCommand_116 (by decide) ?_
    subst hf
    exact ct_i S hr hlocks hW dX4_countOfCommand_117
  replace hf := if_f c23 hf
  by_cases c24 : x0 = 3
  · replace hf := if_t c24 hf
    refine lv_lookup (off := 115) (tgt := 116) hx hb dX4_countOfCommand_1 (by decide) (by rw [c24]; decide) (by decide) ?_
    refine lv_iconst (v := 0) hx hb dX4_countOfCommand_116 (by decide) ?_
    subst hf
    exact ct_i S hr hlocks hW dX4_countOfCommand_117
  replace hf := if_f c24 hf
  by_cases c25 : x0 = 6
  · replace hf := if_t c25 hf
    refine lv_lookup (off := 117) (tgt := 118) hx hb dX4_countOfCommand_1 (by decide) (by rw [c25]; decide) (by decide) ?_
    refine lv_iconst (v := 1) hx hb dX4_countOfCommand_118 (by decide) ?_
    subst hf
    exact ct_i S hr hlocks hW dX4_countOfCommand_119
  replace hf := if_f c25 hf
  by_cases c26 : x0 = 11
  · replace hf := if_t c26 hf
    refine lv_lookup (off := 119) (tgt := 120) hx hb dX4_countOfCommand_1 (by decide) (by rw [c26]; decide) (by decide) ?_
    refine lv_bipush (v := 6) hx hb dX4_countOfCommand_120 (by decide) ?_
    subst hf
    exact ct_i S hr hlocks hW dX4_countOfCommand_122
  replace hf := if_f c26 hf
  by_cases c27 : x0 = 13
  · replace hf := if_t c27 hf
    refine lv_lookup (off := 115) (tgt := 116) hx hb dX4_countOfCommand_1 (by decide) (by rw [c27]; decide) (by decide) ?_
    refine lv_iconst (v := 0) hx hb dX4_countOfCommand_116 (by decide) ?_
    subst hf
    exact ct_i S hr hlocks hW dX4_countOfCommand_117
  replace hf := if_f c27 hf
  by_cases c28 : x0 = 18
  · replace hf := if_t c28 hf
    refine lv_lookup (off := 119) (tgt := 120) hx hb dX4_countOfCommand_1 (by decide) (by rw [c28]; decide) (by decide) ?_
    refine lv_bipush (v := 6) hx hb dX4_countOfCommand_120 (by decide) ?_
    subst hf
    exact ct_i S hr hlocks hW dX4_countOfCommand_122
  replace hf := if_f c28 hf
  by_cases c29 : x0 = 35
  · replace hf := if_t c29 hf
    refine lv_lookup (off := 122) (tgt := 123) hx hb dX4_countOfCommand_1 (by decide) (by rw [c29]; decide) (by decide) ?_
    refine lv_bipush (v := 9) hx hb dX4_countOfCommand_123 (by decide) ?_
    subst hf
    exact ct_i S hr hlocks hW dX4_countOfCommand_125
  replace hf := if_f c29 hf
  by_cases c30 : x0 = 38
  · replace hf := if_t c30 hf
    refine lv_lookup (off := 115) (tgt := 116) hx hb dX4_countOfCommand_1 (by decide) (by rw [c30]; decide) (by decide) ?_
    refine lv_iconst (v := 0) hx hb dX4_countOfCommand_116 (by decide) ?_
    subst hf
    exact ct_i S hr hlocks hW dX4_countOfCommand_117
  replace hf := if_f c30 hf
  by_cases c31 : x0 = 48
  · replace hf := if_t c31 hf
    refine lv_lookup (off := 115) (tgt := 116) hx hb dX4_countOfCommand_1 (by decide) (by rw [c31]; decide) (by decide) ?_
    refine lv_iconst (v := 0) hx hb dX4_countOfCommand_116 (by decide) ?_
    subst hf
    exact ct_i S hr hlocks hW dX4_countOfCommand_117
  replace hf := if_f c31 hf
  by_cases c32 : x0 = 108
  · replace hf := if_t c32 hf
    refine lv_lookup (off := 117) (tgt := 118) hx hb dX4_countOfCommand_1 (by decide) (by rw [c32]; decide) (by decide) ?_
    refine lv_iconst (v := 1) hx hb dX4_countOfCommand_118 (by decide) ?_
    subst hf
    exact ct_i S hr hlocks hW dX4_countOfCommand_119
  replace hf := if_f c32 hf
  by_cases c33 : x0 = 109
  · replace hf := if_t c33 hf
    refine lv_lookup (off := 117) (tgt := 118) hx hb dX4_countOfCommand_1 (by decide) (by rw [c33]; decide) (by decide) ?_
    refine lv_iconst (v := 1) hx hb dX4_countOfCommand_118 (by decide) ?_
    subst hf
    exact ct_i S hr hlocks hW dX4_countOfCommand_119
  replace hf := if_f c33 hf
  refine lv_lookup (off := 125) (tgt := 126) hx hb dX4_countOfCommand_1 (by decide) ((lv_osw (k := 0) c21 (by decide)).trans ((lv_osw (k := 1) c22 (by decide)).trans ((lv_osw (k := 2) c23 (by decide)).trans ((lv_osw (k := 3) c24 (by decide)).trans ((lv_osw (k := 6) c25 (by decide)).trans ((lv_osw (k := 11) c26 (by decide)).trans ((lv_osw (k := 13) c27 (by decide)).trans ((lv_osw (k := 18) c28 (by decide)).trans ((lv_osw (k := 35) c29 (by decide)).trans ((lv_osw (k := 38) c30 (by decide)).trans ((lv_osw (k := 48) c31 (by decide)).trans ((lv_osw (k := 108) c32 (by decide)).trans ((lv_osw (k := 109) c33 (by decide)).trans (rfl)))))))))))))) (by decide) ?_
  refine lv_iconst (v := (-1)) hx hb dX4_countOfCommand_126 (by decide) ?_
  subst hf
  exact ct_i S hr hlocks hW dX4_countOfCommand_127
def f_X4_codeOfEnds (z : Sg) (x0 : Int32) (x1 : Int32) : Int32 × Sg := (if x0 = x1 then (9, z) else (if x1 ≤ x0 then (0, z) else (11, z)))
theorem hd_X4_codeOfEnds : yX4_codeOfEnds.cls = RX4 ∧ yX4_codeOfEnds.cls ≠ "java/lang/invoke/MethodHandle" ∧ yX4_codeOfEnds.cls ≠ "java/lang/invoke/VarHandle" ∧ (parseMethodDescriptor yX4_codeOfEnds.desc).map (fun d => d.parameters.length) = some 2 := by decide +kernel
set_option maxHeartbeats 4000000 in
set_option maxRecDepth 100000 in
theorem c_X4_codeOfEnds (l : Launch) (D : va_G) (g : Gv) (z : Sg) (x0 : Int32) (x1 : Int32) {r : Int32 × Sg} (er : r = f_X4_codeOfEnds z x0 x1) : CT D (wD g) (tD g) l yX4_codeOfEnds (wG yX4_codeOfEnds cX4_codeOfEnds 2 (some .int)) { frames := 0, cells := 0, slots := 0, locals := 0 } [.int x0, .int x1] z (some (.int r.1)) r.2 := by
  refine CT.ofW (by decide) (Nat.le_of_ble_eq_true rfl) ?_
  intro p e R s m args below meth c A hR S hr hlocks hA hW ls hl
  have S : CallFix p m c cX4_codeOfEnds 2 s args wsL_law RX4 := S
  have hl : lv_has ls 2 [(0, .int x0), (1, .int x1)] := hl
  have hx := S.1
  have hb := S.2.1
  have hf := er.symm
  clear er
  unfold f_X4_codeOfEnds at hf
  refine lv_iload_n hx hb dX4_codeOfEnds_0 rfl (lv_at hl 0 rfl) ?_
  refine lv_iload_n hx hb dX4_codeOfEnds_1 rfl (lv_at hl 1 rfl) ?_
  refine lv_icmp_ne (tgt := 8) hx hb dX4_codeOfEnds_2 (by decide) (fun c21 => ?_) (fun c21 => ?_)
  · replace hf := if_f c21 hf
    refine lv_iload_n hx hb dX4_codeOfEnds_8 rfl (lv_at hl 0 rfl) ?_
    refine lv_iload_n hx hb dX4_codeOfEnds_9 rfl (lv_at hl 1 rfl) ?_
    refine lv_icmp_ge (tgt := 18) hx hb dX4_codeOfEnds_10 (by decide) (fun c22 => ?_) (fun c22 => ?_)
    · replace hf := if_t c22 hf
      refine lv_iconst (v := 0) hx hb dX4_codeOfEnds_18 (by decide) ?_
      subst hf
      exact ct_i S hr hlocks hW dX4_codeOfEnds_19
    · replace hf := if_f c22 hf
      refine lv_bipush (v := 11) hx hb dX4_codeOfEnds_13 (by decide) ?_
      refine lv_goto (tgt := 19) hx hb dX4_codeOfEnds_15 (by decide) ?_
      subst hf
      exact ct_i S hr hlocks hW dX4_codeOfEnds_19
  · replace hf := if_t c21 hf
    refine lv_bipush (v := 9) hx hb dX4_codeOfEnds_5 (by decide) ?_
    subst hf
    exact ct_i S hr hlocks hW dX4_codeOfEnds_7
def f_X4_addNumber (z : Sg)  : Sg := bd (f_X1_add z (((gI z 9).toUInt32 >>> (Int32.toUInt32 16 &&& Int32.toUInt32 31)).toInt32)) (fun z21 => bd (f_X1_add z21 (((gI z21 9).toUInt32 >>> (Int32.toUInt32 8 &&& Int32.toUInt32 31)).toInt32)) (fun z22 => bd (f_X1_add z22 (gI z22 9)) (fun z23 => z23)))
theorem hd_X4_addNumber : yX4_addNumber.cls = RX4 ∧ yX4_addNumber.cls ≠ "java/lang/invoke/MethodHandle" ∧ yX4_addNumber.cls ≠ "java/lang/invoke/VarHandle" ∧ (parseMethodDescriptor yX4_addNumber.desc).map (fun d => d.parameters.length) = some 0 := by decide +kernel
set_option maxHeartbeats 4000000 in
set_option maxRecDepth 100000 in
theorem c_X4_addNumber (l : Launch) (D : va_G) (g : Gv) (z : Sg)  {r : Sg} (er : r = f_X4_addNumber z ) : CT D (wD g) (tD g) l yX4_addNumber (wG yX4_addNumber cX4_addNumber 1 none) { frames := 1, cells := 0, slots := 0, locals := 21 } [.ref (g.1 0)] z none r := by
  refine CT.ofW (by decide) (Nat.le_of_ble_eq_true rfl) ?_
  intro p e R s m args below meth c A hR S hr hlocks hA hW ls hl
  have S : CallFix p m c cX4_addNumber 1 s args wsL_law RX4 := S
  have hl : lv_has ls 1 [(0, .ref (g.1 0))] := hl
  have hx := S.1
  have hb := S.2.1
  have hf := er.symm
  clear er
  unfold f_X4_addNumber at hf
  refine lv_aload_n hx hb dX4_addNumber_0 rfl (lv_at hl 0 rfl) ?_
  refine gX4_writer S hW kf_X4_29 dX4_addNumber_1 ?_
  refine lv_aload_n hx hb dX4_addNumber_4 rfl (lv_at hl 0 rfl) ?_
  refine gX4_holdings S hW kf_X4_15 dX4_addNumber_5 ?_
  refine gX2_number S hW kf_X4_256 dX4_addNumber_8 ?_
  refine lv_bipush (v := 16) hx hb dX4_addNumber_11 (by decide) ?_
  refine lv_iushr hx hb dX4_addNumber_13 rfl ?_
  obtain ⟨z21, ez21, hf⟩ := bd_e hf
  refine ct_V (As := [.int (((gI z 9).toUInt32 >>> (Int32.toUInt32 16 &&& Int32.toUInt32 31)).toInt32)]) (rest := []) (st1 := []) (q0 := 3) (ci := 1) S hA hW (c_X1_add l D g z (((gI z 9).toUInt32 >>> (Int32.toUInt32 16 &&& Int32.toUInt32 31)).toInt32) ez21) (wG_V km_X4_222 ki_yX1_add ks_yX1_add kn_X1 kc_yX1_add) ⟨rfl, rfl⟩ hd_X1_add (by rw [hR]; exact ⟨Nat.le_of_ble_eq_true rfl, Nat.le_of_ble_eq_true rfl⟩) rfl rfl rfl rfl hl.1 rfl (Nat.le_of_ble_eq_true rfl) ⟨Nat.zero_le _, Nat.zero_le _⟩ dX4_addNumber_14 rfl (fun H locs hW => ?_)
  refine lv_aload_n hx hb dX4_addNumber_17 rfl (lv_at hl 0 rfl) ?_
  refine gX4_writer S hW kf_X4_29 dX4_addNumber_18 ?_
  refine lv_aload_n hx hb dX4_addNumber_21 rfl (lv_at hl 0 rfl) ?_
  refine gX4_holdings S hW kf_X4_15 dX4_addNumber_22 ?_
  refine gX2_number S hW kf_X4_256 dX4_addNumber_25 ?_
  refine lv_bipush (v := 8) hx hb dX4_addNumber_28 (by decide) ?_
  refine lv_iushr hx hb dX4_addNumber_30 rfl ?_
  obtain ⟨z22, ez22, hf⟩ := bd_e hf
  refine ct_V (As := [.int (((gI z21 9).toUInt32 >>> (Int32.toUInt32 8 &&& Int32.toUInt32 31)).toInt32)]) (rest := []) (st1 := []) (q0 := 3) (ci := 1) S hA hW (c_X1_add l D g z21 (((gI z21 9).toUInt32 >>> (Int32.toUInt32 8 &&& Int32.toUInt32 31)).toInt32) ez22) (wG_V km_X4_222 ki_yX1_add ks_yX1_add kn_X1 kc_yX1_add) ⟨rfl, rfl⟩ hd_X1_add (by rw [hR]; exact ⟨Nat.le_of_ble_eq_true rfl, Nat.le_of_ble_eq_true rfl⟩) rfl rfl rfl rfl hl.1 rfl (Nat.le_of_ble_eq_true rfl) ⟨Nat.zero_le _, Nat.zero_le _⟩ dX4_addNumber_31 rfl (fun H locs hW => ?_)
  refine lv_aload_n hx hb dX4_addNumber_34 rfl (lv_at hl 0 rfl) ?_
  refine gX4_writer S hW kf_X4_29 dX4_addNumber_35 ?_
  refine lv_aload_n hx hb dX4_addNumber_38 rfl (lv_at hl 0 rfl) ?_
  refine gX4_holdings S hW kf_X4_15 dX4_addNumber_39 ?_
  refine gX2_number S hW kf_X4_256 dX4_addNumber_42 ?_
  obtain ⟨z23, ez23, hf⟩ := bd_e hf
  refine ct_V (As := [.int (gI z22 9)]) (rest := []) (st1 := []) (q0 := 3) (ci := 1) S hA hW (c_X1_add l D g z22 (gI z22 9) ez23) (wG_V km_X4_222 ki_yX1_add ks_yX1_add kn_X1 kc_yX1_add) ⟨rfl, rfl⟩ hd_X1_add (by rw [hR]; exact ⟨Nat.le_of_ble_eq_true rfl, Nat.le_of_ble_eq_true rfl⟩) rfl rfl rfl rfl hl.1 rfl (Nat.le_of_ble_eq_true rfl) ⟨Nat.zero_le _, Nat.zero_le _⟩ dX4_addNumber_45 rfl (fun H locs hW => ?_)
  subst hf
  exact ct_v S hr hlocks hW dX4_addNumber_48
def f_X4_addIdentity (z : Sg)  : Sg := bd (f_X1_add z 254) (fun z21 => bd (f_X1_add z21 (gI z21 7)) (fun z22 => bd (f_X1_add z22 (gI z22 8)) (fun z23 => bd (f_X1_add z23 5) (fun z24 => bd (f_X4_addNumber z24) (fun z25 => z25)))))
theorem hd_X4_addIdentity : yX4_addIdentity.cls = RX4 ∧ yX4_addIdentity.cls ≠ "java/lang/invoke/MethodHandle" ∧ yX4_addIdentity.cls ≠ "java/lang/invoke/VarHandle" ∧ (parseMethodDescriptor yX4_addIdentity.desc).map (fun d => d.parameters.length) = some 0 := by decide +kernel
set_option maxHeartbeats 4000000 in
set_option maxRecDepth 100000 in
theorem c_X4_addIdentity (l : Launch) (D : va_G) (g : Gv) (z : Sg)  {r : Sg} (er : r = f_X4_addIdentity z ) : CT D (wD g) (tD g) l yX4_addIdentity (wG yX4_addIdentity cX4_addIdentity 1 none) { frames := 2, cells := 0, slots := 0, locals := 41 } [.ref (g.1 0)] z none r := by
  refine CT.ofW (by decide) (Nat.le_of_ble_eq_true rfl) ?_
  intro p e R s m args below meth c A hR S hr hlocks hA hW ls hl
  have S : CallFix p m c cX4_addIdentity 1 s args wsL_law RX4 := S
  have hl : lv_has ls 1 [(0, .ref (g.1 0))] := hl
  have hx := S.1
  have hb := S.2.1
  have hf := er.symm
  clear er
  unfold f_X4_addIdentity at hf
  refine lv_aload_n hx hb dX4_addIdentity_0 rfl (lv_at hl 0 rfl) ?_
  refine gX4_writer S hW kf_X4_29 dX4_addIdentity_1 ?_
  refine lv_sipush (v := 254) hx hb dX4_addIdentity_4 (by decide) ?_
  obtain ⟨z21, ez21, hf⟩ := bd_e hf
  refine ct_V (As := [.int 254]) (rest := []) (st1 := []) (q0 := 3) (ci := 1) S hA hW (c_X1_add l D g z 254 ez21) (wG_V km_X4_222 ki_yX1_add ks_yX1_add kn_X1 kc_yX1_add) ⟨rfl, rfl⟩ hd_X1_add (by rw [hR]; exact ⟨Nat.le_of_ble_eq_true rfl, Nat.le_of_ble_eq_true rfl⟩) rfl rfl rfl rfl hl.1 rfl (Nat.le_of_ble_eq_true rfl) ⟨Nat.zero_le _, Nat.zero_le _⟩ dX4_addIdentity_7 rfl (fun H locs hW => ?_)
  refine lv_aload_n hx hb dX4_addIdentity_10 rfl (lv_at hl 0 rfl) ?_
  refine gX4_writer S hW kf_X4_29 dX4_addIdentity_11 ?_
  refine lv_aload_n hx hb dX4_addIdentity_14 rfl (lv_at hl 0 rfl) ?_
  refine gX4_holdings S hW kf_X4_15 dX4_addIdentity_15 ?_
  refine gX2_maker S hW kf_X4_236 dX4_addIdentity_18 ?_
  obtain ⟨z22, ez22, hf⟩ := bd_e hf
  refine ct_V (As := [.int (gI z21 7)]) (rest := []) (st1 := []) (q0 := 3) (ci := 1) S hA hW (c_X1_add l D g z21 (gI z21 7) ez22) (wG_V km_X4_222 ki_yX1_add ks_yX1_add kn_X1 kc_yX1_add) ⟨rfl, rfl⟩ hd_X1_add (by rw [hR]; exact ⟨Nat.le_of_ble_eq_true rfl, Nat.le_of_ble_eq_true rfl⟩) rfl rfl rfl rfl hl.1 rfl (Nat.le_of_ble_eq_true rfl) ⟨Nat.zero_le _, Nat.zero_le _⟩ dX4_addIdentity_21 rfl (fun H locs hW => ?_)
  refine lv_aload_n hx hb dX4_addIdentity_24 rfl (lv_at hl 0 rfl) ?_
  refine gX4_writer S hW kf_X4_29 dX4_addIdentity_25 ?_
  refine lv_aload_n hx hb dX4_addIdentity_28 rfl (lv_at hl 0 rfl) ?_
  refine gX4_holdings S hW kf_X4_15 dX4_addIdentity_29 ?_
  refine gX2_kind S hW kf_X4_239 dX4_addIdentity_32 ?_
  obtain ⟨z23, ez23, hf⟩ := bd_e hf
  refine ct_V (As := [.int (gI z22 8)]) (rest := []) (st1 := []) (q0 := 3) (ci := 1) S hA hW (c_X1_add l D g z22 (gI z22 8) ez23) (wG_V km_X4_222 ki_yX1_add ks_yX1_add kn_X1 kc_yX1_add) ⟨rfl, rfl⟩ hd_X1_add (by rw [hR]; exact ⟨Nat.le_of_ble_eq_true rfl, Nat.le_of_ble_eq_true rfl⟩) rfl rfl rfl rfl hl.1 rfl (Nat.le_of_ble_eq_true rfl) ⟨Nat.zero_le _, Nat.zero_le _⟩ dX4_addIdentity_35 rfl (fun H locs hW => ?_)
  refine lv_aload_n hx hb dX4_addIdentity_38 rfl (lv_at hl 0 rfl) ?_
  refine gX4_writer S hW kf_X4_29 dX4_addIdentity_39 ?_
  refine lv_iconst (v := 5) hx hb dX4_addIdentity_42 (by decide) ?_
  obtain ⟨z24, ez24, hf⟩ := bd_e hf
  refine ct_V (As := [.int 5]) (rest := []) (st1 := []) (q0 := 3) (ci := 1) S hA hW (c_X1_add l D g z23 5 ez24) (wG_V km_X4_222 ki_yX1_add ks_yX1_add kn_X1 kc_yX1_add) ⟨rfl, rfl⟩ hd_X1_add (by rw [hR]; exact ⟨Nat.le_of_ble_eq_true rfl, Nat.le_of_ble_eq_true rfl⟩) rfl rfl rfl rfl hl.1 rfl (Nat.le_of_ble_eq_true rfl) ⟨Nat.zero_le _, Nat.zero_le _⟩ dX4_addIdentity_43 rfl (fun H locs hW => ?_)
  refine lv_aload_n hx hb dX4_addIdentity_46 rfl (lv_at hl 0 rfl) ?_
  obtain ⟨z25, ez25, hf⟩ := bd_e hf
  refine ct_V (As := []) (rest := []) (st1 := []) (q0 := 0) (ci := 4) S hA hW (c_X4_addNumber l D g z24 ez25) (wG_V km_X4_241 ki_yX4_addNumber ks_yX4_addNumber kn_X4 kc_yX4_addNumber) ⟨rfl, rfl⟩ hd_X4_addNumber (by rw [hR]; exact ⟨Nat.le_of_ble_eq_true rfl, Nat.le_of_ble_eq_true rfl⟩) rfl rfl rfl rfl hl.1 rfl (Nat.le_of_ble_eq_true rfl) ⟨Nat.zero_le _, Nat.zero_le _⟩ dX4_addIdentity_47 rfl (fun H locs hW => ?_)
  subst hf
  exact ct_v S hr hlocks hW dX4_addIdentity_50
def f_X4_addEcho_10 : Nat → Sg → Int32 → Sg
  | 0, z, _ => z
  | n + 1, z, y2 => (if (gI z 21) ≤ y2 then z else bd (f_X0_dataAt z y2) (fun r24 => bd (f_X1_add r24.2 r24.1) (fun z25 => bd (y2 + 1) (fun x26 => f_X4_addEcho_10 n z25 x26))))
def s_X4_addEcho_10 : Nat → Sg → Int32 → Prop
  | 0, _, _ => False
  | n + 1, z, y2 => ((gI z 21) ≤ y2 → True) ∧ (¬ (gI z 21) ≤ y2 → bd (f_X0_dataAt z y2) (fun r24 => bd (f_X1_add r24.2 r24.1) (fun z25 => bd (y2 + 1) (fun x26 => s_X4_addEcho_10 n z25 x26))))
def f_X4_addEcho (z : Sg) (x1 : Int32) : Sg := bd (f_X4_setsSomething z x1) (fun r21 => (if r21.1 = 0 then r21.2 else f_X4_addEcho_10 64 r21.2 0))
def s_X4_addEcho (z : Sg) (x1 : Int32) : Prop := bd (f_X4_setsSomething z x1) (fun r21 => (r21.1 = 0 → True) ∧ (¬ r21.1 = 0 → s_X4_addEcho_10 64 r21.2 0))
theorem hd_X4_addEcho : yX4_addEcho.cls = RX4 ∧ yX4_addEcho.cls ≠ "java/lang/invoke/MethodHandle" ∧ yX4_addEcho.cls ≠ "java/lang/invoke/VarHandle" ∧ (parseMethodDescriptor yX4_addEcho.desc).map (fun d => d.parameters.length) = some 1 := by decide +kernel
set_option maxHeartbeats 4000000 in
set_option maxRecDepth 100000 in
theorem c_X4_addEcho (l : Launch) (D : va_G) (g : Gv) (z : Sg) (x1 : Int32) {r : Sg} (er : r = f_X4_addEcho z x1) (hs : s_X4_addEcho z x1) : CT D (wD g) (tD g) l yX4_addEcho (wG yX4_addEcho cX4_addEcho 3 none) { frames := 1, cells := 0, slots := 0, locals := 21 } [.ref (g.1 0), .int x1] z none r := by
  refine CT.ofW (by decide) (Nat.le_of_ble_eq_true rfl) ?_
  intro p e R s m args below meth c A hR S hr hlocks hA hW ls hl
  have S : CallFix p m c cX4_addEcho 3 s args wsL_law RX4 := S
  have hl : lv_has ls 3 [(0, .ref (g.1 0)), (1, .int x1)] := hl
  have hx := S.1
  have hb := S.2.1
  have hf := er.symm
  clear er
  have J_10 : ∀ (n : Nat) (z : Sg) (y2 : Int32) (H : Heap) (locs : List Loc) (ls : Array Slot), Wd D (wD g) (tD g) A s H locs z → lv_has ls 3 [(0, .ref (g.1 0)), (2, .int y2)] → s_X4_addEcho_10 n z y2 → f_X4_addEcho_10 n z y2 = r → W p l e R s m args below meth c H locs 0 0 (MQ below (CQ D (wD g) A none r) args s 0 0 A) (F0 m 10 ls []) := by
    intro n
    induction n with
    | zero =>
      intro z y2 H locs ls hW hl hs hf
      exact absurd hs (by rw [s_X4_addEcho_10]; exact id)
    | succ n ih =>
      intro z y2 H locs ls hW hl hs hf
      rw [f_X4_addEcho_10] at hf
      rw [s_X4_addEcho_10] at hs
      refine lv_iload_n hx hb dX4_addEcho_10 rfl (lv_at hl 1 rfl) ?_
      refine lv_aload_n hx hb dX4_addEcho_11 rfl (lv_at hl 0 rfl) ?_
      refine gX4_reader S hW kf_X4_22 dX4_addEcho_12 ?_
      refine gX0_count S hW kf_X4_190 dX4_addEcho_15 ?_
      refine lv_icmp_ge (tgt := 42) hx hb dX4_addEcho_18 (by decide) (fun c23 => ?_) (fun c23 => ?_)
      · replace hf := if_t c23 hf
        replace hs := hs.1 c23
        subst hf
        exact ct_v S hr hlocks hW dX4_addEcho_42
      · replace hf := if_f c23 hf
        replace hs := hs.2 c23
        refine lv_aload_n hx hb dX4_addEcho_21 rfl (lv_at hl 0 rfl) ?_
        refine gX4_writer S hW kf_X4_29 dX4_addEcho_22 ?_
        refine lv_aload_n hx hb dX4_addEcho_25 rfl (lv_at hl 0 rfl) ?_
        refine gX4_reader S hW kf_X4_22 dX4_addEcho_26 ?_
        refine lv_iload_n hx hb dX4_addEcho_29 rfl (lv_at hl 1 rfl) ?_
        obtain ⟨r24, er24, hf⟩ := bd_e hf
        replace hs := bd_s er24 hs
        refine ct_V (As := [.int y2]) (rest := [.ref (g.1 3)]) (st1 := [.int r24.1, .ref (g.1 3)]) (q0 := 2) (ci := 0) S hA hW (c_X0_dataAt l D g z y2 er24) (wG_V km_X4_193 ki_yX0_dataAt ks_yX0_dataAt kn_X0 kc_yX0_dataAt) ⟨rfl, rfl⟩ hd_X0_dataAt (by rw [hR]; exact ⟨Nat.le_of_ble_eq_true rfl, Nat.le_of_ble_eq_true rfl⟩) rfl rfl rfl rfl hl.1 rfl (Nat.le_of_ble_eq_true rfl) ⟨Nat.zero_le _, Nat.zero_le _⟩ dX4_addEcho_30 rfl (fun H locs hW => ?_)
        obtain ⟨z25, ez25, hf⟩ := bd_e hf
        replace hs := bd_s ez25 hs
        refine ct_V (As := [.int r24.1]) (rest := []) (st1 := []) (q0 := 3) (ci := 1) S hA hW (c_X1_add l D g r24.2 r24.1 ez25) (wG_V km_X4_222 ki_yX1_add ks_yX1_add kn_X1 kc_yX1_add) ⟨rfl, rfl⟩ hd_X1_add (by rw [hR]; exact ⟨Nat.le_of_ble_eq_true rfl, Nat.le_of_ble_eq_true rfl⟩) rfl rfl rfl rfl hl.1 rfl (Nat.le_of_ble_eq_true rfl) ⟨Nat.zero_le _, Nat.zero_le _⟩ dX4_addEcho_33 rfl (fun H locs hW => ?_)
        obtain ⟨x26, ex26, hf⟩ := bd_e hf
        replace hs := bd_s ex26 hs
        refine lv_iinc (v := x26) (lv' := [(2, .int x26), (0, .ref (g.1 0))]) hx hb dX4_addEcho_36 hl (k := 1) rfl ex26.symm (by decide) rfl (fun ls hl => ?_)
        refine lv_goto (tgt := 10) hx hb dX4_addEcho_39 (by decide) ?_
        exact ih z25 x26 _ _ ls hW (lv_sub hl [1, 0] rfl) hs hf
  unfold f_X4_addEcho at hf
  unfold s_X4_addEcho at hs
  refine lv_iload_n hx hb dX4_addEcho_0 rfl (lv_at hl 1 rfl) ?_
  obtain ⟨r21, er21, hf⟩ := bd_e hf
  replace hs := bd_s er21 hs
  refine ct_S (As := [.int x1]) (rest := []) (st1 := [.int r21.1]) S hA hW (c_X4_setsSomething l D g z x1 er21) (wG_S km_X4_212 kz_yX4_setsSomething kn_X4 kc_yX4_setsSomething) ⟨rfl, rfl⟩ hd_X4_setsSomething (by rw [hR]; exact ⟨Nat.le_of_ble_eq_true rfl, Nat.le_of_ble_eq_true rfl⟩) rfl rfl hl.1 rfl (Nat.le_of_ble_eq_true rfl) ⟨Nat.zero_le _, Nat.zero_le _⟩ dX4_addEcho_1 rfl (fun H locs hW => ?_)
  refine lv_if_ne (tgt := 8) hx hb dX4_addEcho_4 (by decide) (fun c22 => ?_) (fun c22 => ?_)
  · replace hf := if_f c22 hf
    replace hs := hs.2 c22
    refine lv_iconst (v := 0) hx hb dX4_addEcho_8 (by decide) ?_
    refine lv_istore_n (lv' := [(2, .int 0), (0, .ref (g.1 0)), (1, .int x1)]) hx hb dX4_addEcho_9 rfl hl (by decide) rfl (fun ls hl => ?_)
    exact (J_10 64) r21.2 0 _ _ ls hW (lv_sub hl [1, 0] rfl) hs hf
  · replace hf := if_t c22 hf
    replace hs := hs.1 c22
    subst hf
    exact ct_v S hr hlocks hW dX4_addEcho_7
def f_X4_addData_220 (z : Sg) (k1 : Int32) : Sg := bd (f_X1_add z k1) (fun z62 => bd (f_X1_add z62 (gI z62 2)) (fun z63 => z63))
def f_X4_addData (z : Sg) (x1 : Int32) : Sg := (if x1 = 0 then bd (f_X4_addIdentity z) (fun z22 => z22) else (if x1 = 1 then bd (f_X1_add z (gI z 11)) (fun z24 => bd (f_X2_variableAt z24 0) (fun r25 => bd (f_X1_addFour r25.2 r25.1) (fun z26 => z26))) else (if x1 = 2 then bd (f_X2_level z) (fun r29 => bd (f_X1_addFour r29.2 r29.1) (fun z30 => z30)) else (if x1 = 3 then bd (f_X2_level z) (fun r33 => bd (f_X1_addFour r33.2 r33.1) (fun z34 => bd (f_X2_variableAt z34 0) (fun r35 => bd (f_X1_addFour r35.2 r35.1) (fun z36 => bd (f_X2_variableAt z36 1) (fun r37 => bd (f_X1_addFour r37.2 r37.1) (fun z38 => bd (f_X2_variableAt z38 2) (fun r39 => bd (f_X1_addFour r39.2 r39.1) (fun z40 => bd (f_X2_variableAt z40 3) (fun r41 => bd (f_X1_addFour r41.2 r41.1) (fun z42 => z42)))))))))) else (if x1 = 11 then bd (f_X4_addIdentity z) (fun z44 => z44) else (if x1 = 13 then bd (f_X2_tagByte z 0) (fun r46 => bd (f_X1_add r46.2 r46.1) (fun z47 => bd (f_X2_tagByte z47 1) (fun r48 => bd (f_X1_add r48.2 r48.1) (fun z49 => bd (f_X2_tagByte z49 2) (fun r50 => bd (f_X1_add r50.2 r50.1) (fun z51 => bd (f_X2_tagByte z51 3) (fun r52 => bd (f_X1_add r52.2 r52.1) (fun z53 => bd (f_X2_tagByte z53 4) (fun r54 => bd (f_X1_add r54.2 r54.1) (fun z55 => bd (f_X2_tagByte z55 5) (fun r56 => bd (f_X1_add r56.2 r56.1) (fun z57 => z57)))))))))))) else (if x1 = 48 then (if (gI z 16) = 0 then f_X4_addData_220 z 0 else f_X4_addData_220 z 1) else bd (f_X4_addEcho z x1) (fun z61 => z61))))))))
def s_X4_addData (z : Sg) (x1 : Int32) : Prop := (x1 = 0 → True) ∧ (¬ x1 = 0 → (x1 = 1 → True) ∧ (¬ x1 = 1 → (x1 = 2 → (s_X2_level z) ∧ True) ∧ (¬ x1 = 2 → (x1 = 3 → (s_X2_level z) ∧ True) ∧ (¬ x1 = 3 → (x1 = 11 → True) ∧ (¬ x1 = 11 → (x1 = 13 → True) ∧ (¬ x1 = 13 → (x1 = 48 → ((gI z 16) = 0 → True) ∧ (¬ (gI z 16) = 0 → True)) ∧ (¬ x1 = 48 → (s_X4_addEcho z x1) ∧ True)))))))
theorem hd_X4_addData : yX4_addData.cls = RX4 ∧ yX4_addData.cls ≠ "java/lang/invoke/MethodHandle" ∧ yX4_addData.cls ≠ "java/lang/invoke/VarHandle" ∧ (parseMethodDescriptor yX4_addData.desc).map (fun d => d.parameters.length) = some 1 := by decide +kernel
set_option maxHeartbeats 4000000 in
set_option maxRecDepth 100000 in
theorem c_X4_addData (l : Launch) (D : va_G) (g : Gv) (z : Sg) (x1 : Int32) {r : Sg} (er : r = f_X4_addData z x1) (hs : s_X4_addData z x1) : CT D (wD g) (tD g) l yX4_addData (wG yX4_addData cX4_addData 3 none) { frames := 3, cells := 0, slots := 0, locals := 61 } [.ref (g.1 0), .int x1] z none r := by
  refine CT.ofW (by decide) (Nat.le_of_ble_eq_true rfl) ?_
  intro p e R s m args below meth c A hR S hr hlocks hA hW ls hl
  have S : CallFix p m c cX4_addData 3 s args wsL_law RX4 := S
  have hl : lv_has ls 3 [(0, .ref (g.1 0)), (1, .int x1)] := hl
  have hx := S.1
  have hb := S.2.1
  have hf := er.symm
  clear er
  have J_220 : ∀ (z : Sg) (k1 : Int32) (H : Heap) (locs : List Loc) (ls : Array Slot), Wd D (wD g) (tD g) A s H locs z → lv_has ls 3 [(0, .ref (g.1 0))] → f_X4_addData_220 z k1 = r → W p l e R s m args below meth c H locs 0 0 (MQ below (CQ D (wD g) A none r) args s 0 0 A) (F0 m 220 ls [.int k1, .ref (g.1 3)]) := by
    intro z k1 H locs ls hW hl hf
    unfold f_X4_addData_220 at hf
    obtain ⟨z62, ez62, hf⟩ := bd_e hf
    refine ct_V (As := [.int k1]) (rest := []) (st1 := []) (q0 := 3) (ci := 1) S hA hW (c_X1_add l D g z k1 ez62) (wG_V km_X4_222 ki_yX1_add ks_yX1_add kn_X1 kc_yX1_add) ⟨rfl, rfl⟩ hd_X1_add (by rw [hR]; exact ⟨Nat.le_of_ble_eq_true rfl, Nat.le_of_ble_eq_true rfl⟩) rfl rfl rfl rfl hl.1 rfl (Nat.le_of_ble_eq_true rfl) ⟨Nat.zero_le _, Nat.zero_le _⟩ dX4_addData_220 rfl (fun H locs hW => ?_)
    refine lv_aload_n hx hb dX4_addData_223 rfl (lv_at hl 0 rfl) ?_
    refine gX4_writer S hW kf_X4_29 dX4_addData_224 ?_
    refine lv_aload_n hx hb dX4_addData_227 rfl (lv_at hl 0 rfl) ?_
    refine gX4_answers S hW kf_X4_86 dX4_addData_228 ?_
    obtain ⟨z63, ez63, hf⟩ := bd_e hf
    refine ct_V (As := [.int (gI z62 2)]) (rest := []) (st1 := []) (q0 := 3) (ci := 1) S hA hW (c_X1_add l D g z62 (gI z62 2) ez63) (wG_V km_X4_222 ki_yX1_add ks_yX1_add kn_X1 kc_yX1_add) ⟨rfl, rfl⟩ hd_X1_add (by rw [hR]; exact ⟨Nat.le_of_ble_eq_true rfl, Nat.le_of_ble_eq_true rfl⟩) rfl rfl rfl rfl hl.1 rfl (Nat.le_of_ble_eq_true rfl) ⟨Nat.zero_le _, Nat.zero_le _⟩ dX4_addData_231 rfl (fun H locs hW => ?_)
    refine lv_goto (tgt := 242) hx hb dX4_addData_234 (by decide) ?_
    subst hf
    exact ct_v S hr hlocks hW dX4_addData_242
  unfold f_X4_addData at hf
  unfold s_X4_addData at hs
  refine lv_iload_n hx hb dX4_addData_0 rfl (lv_at hl 1 rfl) ?_
  by_cases c21 : x1 = 0
  · replace hf := if_t c21 hf
    replace hs := hs.1 c21
    refine lv_lookup (off := 67) (tgt := 68) hx hb dX4_addData_1 (by decide) (by rw [c21]; decide) (by decide) ?_
    refine lv_aload_n hx hb dX4_addData_68 rfl (lv_at hl 0 rfl) ?_
    obtain ⟨z22, ez22, hf⟩ := bd_e hf
    refine ct_V (As := []) (rest := []) (st1 := []) (q0 := 0) (ci := 4) S hA hW (c_X4_addIdentity l D g z ez22) (wG_V km_X4_244 ki_yX4_addIdentity ks_yX4_addIdentity kn_X4 kc_yX4_addIdentity) ⟨rfl, rfl⟩ hd_X4_addIdentity (by rw [hR]; exact ⟨Nat.le_of_ble_eq_true rfl, Nat.le_of_ble_eq_true rfl⟩) rfl rfl rfl rfl hl.1 rfl (Nat.le_of_ble_eq_true rfl) ⟨Nat.zero_le _, Nat.zero_le _⟩ dX4_addData_69 rfl (fun H locs hW => ?_)
    refine lv_goto (tgt := 242) hx hb dX4_addData_72 (by decide) ?_
    subst hf
    exact ct_v S hr hlocks hW dX4_addData_242
  replace hf := if_f c21 hf
  replace hs := hs.2 c21
  by_cases c23 : x1 = 1
  · replace hf := if_t c23 hf
    replace hs := hs.1 c23
    refine lv_lookup (off := 74) (tgt := 75) hx hb dX4_addData_1 (by decide) (by rw [c23]; decide) (by decide) ?_
    refine lv_aload_n hx hb dX4_addData_75 rfl (lv_at hl 0 rfl) ?_
    refine gX4_writer S hW kf_X4_29 dX4_addData_76 ?_
    refine lv_aload_n hx hb dX4_addData_79 rfl (lv_at hl 0 rfl) ?_
    refine gX4_holdings S hW kf_X4_15 dX4_addData_80 ?_
    refine gX2_unit S hW kf_X4_71 dX4_addData_83 ?_
    obtain ⟨z24, ez24, hf⟩ := bd_e hf
    refine ct_V (As := [.int (gI z 11)]) (rest := []) (st1 := []) (q0 := 3) (ci := 1) S hA hW (c_X1_add l D g z (gI z 11) ez24) (wG_V km_X4_222 ki_yX1_add ks_yX1_add kn_X1 kc_yX1_add) ⟨rfl, rfl⟩ hd_X1_add (by rw [hR]; exact ⟨Nat.le_of_ble_eq_true rfl, Nat.le_of_ble_eq_true rfl⟩) rfl rfl rfl rfl hl.1 rfl (Nat.le_of_ble_eq_true rfl) ⟨Nat.zero_le _, Nat.zero_le _⟩ dX4_addData_86 rfl (fun H locs hW => ?_)
    refine lv_aload_n hx hb dX4_addData_89 rfl (lv_at hl 0 rfl) ?_
    refine gX4_writer S hW kf_X4_29 dX4_addData_90 ?_
    refine lv_aload_n hx hb dX4_addData_93 rfl (lv_at hl 0 rfl) ?_
    refine gX4_holdings S hW kf_X4_15 dX4_addData_94 ?_
    refine lv_iconst (v := 0) hx hb dX4_addData_97 (by decide) ?_
    obtain ⟨r25, er25, hf⟩ := bd_e hf
    refine ct_V (As := [.int 0]) (rest := [.ref (g.1 3)]) (st1 := [.int r25.1, .ref (g.1 3)]) (q0 := 1) (ci := 2) S hA hW (c_X2_variableAt l D g z24 0 er25) (wG_V km_X4_57 ki_yX2_variableAt ks_yX2_variableAt kn_X2 kc_yX2_variableAt) ⟨rfl, rfl⟩ hd_X2_variableAt (by rw [hR]; exact ⟨Nat.le_of_ble_eq_true rfl, Nat.le_of_ble_eq_true rfl⟩) rfl rfl rfl rfl hl.1 rfl (Nat.le_of_ble_eq_true rfl) ⟨Nat.zero_le _, Nat.zero_le _⟩ dX4_addData_98 rfl (fun H locs hW => ?_)
    obtain ⟨z26, ez26, hf⟩ := bd_e hf
    refine ct_V (As := [.int r25.1]) (rest := []) (st1 := []) (q0 := 3) (ci := 1) S hA hW (c_X1_addFour l D g r25.2 r25.1 ez26) (wG_V km_X4_247 ki_yX1_addFour ks_yX1_addFour kn_X1 kc_yX1_addFour) ⟨rfl, rfl⟩ hd_X1_addFour (by rw [hR]; exact ⟨Nat.le_of_ble_eq_true rfl, Nat.le_of_ble_eq_true rfl⟩) rfl rfl rfl rfl hl.1 rfl (Nat.le_of_ble_eq_true rfl) ⟨Nat.zero_le _, Nat.zero_le _⟩ dX4_addData_101 rfl (fun H locs hW => ?_)
    refine lv_goto (tgt := 242) hx hb dX4_addData_104 (by decide) ?_
    subst hf
    exact ct_v S hr hlocks hW dX4_addData_242
  replace hf := if_f c23 hf
  replace hs := hs.2 c23
  by_cases c27 : x1 = 2
  · replace hf := if_t c27 hf
    replace hs := hs.1 c27
    refine lv_lookup (off := 106) (tgt := 107) hx hb dX4_addData_1 (by decide) (by rw [c27]; decide) (by decide) ?_
    refine lv_aload_n hx hb dX4_addData_107 rfl (lv_at hl 0 rfl) ?_
    refine gX4_writer S hW kf_X4_29 dX4_addData_108 ?_
    refine lv_aload_n hx hb dX4_addData_111 rfl (lv_at hl 0 rfl) ?_
    refine gX4_holdings S hW kf_X4_15 dX4_addData_112 ?_
    obtain ⟨q28, hs⟩ := hs
    obtain ⟨r29, er29, hf⟩ := bd_e hf
    refine ct_V (As := []) (rest := [.ref (g.1 3)]) (st1 := [.int r29.1, .ref (g.1 3)]) (q0 := 1) (ci := 2) S hA hW (c_X2_level l D g z er29 q28) (wG_V km_X4_250 ki_yX2_level ks_yX2_level kn_X2 kc_yX2_level) ⟨rfl, rfl⟩ hd_X2_level (by rw [hR]; exact ⟨Nat.le_of_ble_eq_true rfl, Nat.le_of_ble_eq_true rfl⟩) rfl rfl rfl rfl hl.1 rfl (Nat.le_of_ble_eq_true rfl) ⟨Nat.zero_le _, Nat.zero_le _⟩ dX4_addData_115 rfl (fun H locs hW => ?_)
    obtain ⟨z30, ez30, hf⟩ := bd_e hf
    refine ct_V (As := [.int r29.1]) (rest := []) (st1 := []) (q0 := 3) (ci := 1) S hA hW (c_X1_addFour l D g r29.2 r29.1 ez30) (wG_V km_X4_247 ki_yX1_addFour ks_yX1_addFour kn_X1 kc_yX1_addFour) ⟨rfl, rfl⟩ hd_X1_addFour (by rw [hR]; exact ⟨Nat.le_of_ble_eq_true rfl, Nat.le_of_ble_eq_true rfl⟩) rfl rfl rfl rfl hl.1 rfl (Nat.le_of_ble_eq_true rfl) ⟨Nat.zero_le _, Nat.zero_le _⟩ dX4_addData_118 rfl (fun H locs hW => ?_)
    refine lv_goto (tgt := 242) hx hb dX4_addData_121 (by decide) ?_
    subst hf
    exact ct_v S hr hlocks hW dX4_addData_242
  replace hf := if_f c27 hf
  replace hs := hs.2 c27
  by_cases c31 : x1 = 3
  · replace hf := if_t c31 hf
    replace hs := hs.1 c31
    refine lv_lookup (off := 123) (tgt := 124) hx hb dX4_addData_1 (by decide) (by rw [c31]; decide) (by decide) ?_
    refine lv_aload_n hx hb dX4_addData_124 rfl (lv_at hl 0 rfl) ?_
    refine gX4_writer S hW kf_X4_29 dX4_addData_125 ?_
    refine lv_aload_n hx hb dX4_addData_128 rfl (lv_at hl 0 rfl) ?_
    refine gX4_holdings S hW kf_X4_15 dX4_addData_129 ?_
    obtain ⟨q32, hs⟩ := hs
    obtain ⟨r33, er33, hf⟩ := bd_e hf
    refine ct_V (As := []) (rest := [.ref (g.1 3)]) (st1 := [.int r33.1, .ref (g.1 3)]) (q0 := 1) (ci := 2) S hA hW (c_X2_level l D g z er33 q32) (wG_V km_X4_250 ki_yX2_level ks_yX2_level kn_X2 kc_yX2_level) ⟨rfl, rfl⟩ hd_X2_level (by rw [hR]; exact ⟨Nat.le_of_ble_eq_true rfl, Nat.le_of_ble_eq_true rfl⟩) rfl rfl rfl rfl hl.1 rfl (Nat.le_of_ble_eq_true rfl) ⟨Nat.zero_le _, Nat.zero_le _⟩ dX4_addData_132 rfl (fun H locs hW => ?_)
    obtain ⟨z34, ez34, hf⟩ := bd_e hf
    refine ct_V (As := [.int r33.1]) (rest := []) (st1 := []) (q0 := 3) (ci := 1) S hA hW (c_X1_addFour l D g r33.2 r33.1 ez34) (wG_V km_X4_247 ki_yX1_addFour ks_yX1_addFour kn_X1 kc_yX1_addFour) ⟨rfl, rfl⟩ hd_X1_addFour (by rw [hR]; exact ⟨Nat.le_of_ble_eq_true rfl, Nat.le_of_ble_eq_true rfl⟩) rfl rfl rfl rfl hl.1 rfl (Nat.le_of_ble_eq_true rfl) ⟨Nat.zero_le _, Nat.zero_le _⟩ dX4_addData_135 rfl (fun H locs hW => ?_)
    refine lv_iconst (v := 0) hx hb dX4_addData_138 (by decide) ?_
    refine lv_istore_n (lv' := [(2, .int 0), (0, .ref (g.1 0)), (1, .int x1)]) hx hb dX4_addData_139 rfl hl (by decide) rfl (fun ls hl => ?_)
    refine lv_iload_n hx hb dX4_addData_140 rfl (lv_at hl 0 rfl) ?_
    refine lv_iconst (v := 4) hx hb dX4_addData_141 (by decide) ?_
    refine lv_icmp_ge (tgt := 166) hx hb dX4_addData_142 (by decide) (fun c => absurd c (by decide)) (fun _ => ?_)
    refine lv_aload_n hx hb dX4_addData_145 rfl (lv_at hl 1 rfl) ?_
    refine gX4_writer S hW kf_X4_29 dX4_addData_146 ?_
    refine lv_aload_n hx hb dX4_addData_149 rfl (lv_at hl 1 rfl) ?_
    refine gX4_holdings S hW kf_X4_15 dX4_addData_150 ?_
    refine lv_iload_n hx hb dX4_addData_153 rfl (lv_at hl 0 rfl) ?_
    obtain ⟨r35, er35, hf⟩ := bd_e hf
    refine ct_V (As := [.int 0]) (rest := [.ref (g.1 3)]) (st1 := [.int r35.1, .ref (g.1 3)]) (q0 := 1) (ci := 2) S hA hW (c_X2_variableAt l D g z34 0 er35) (wG_V km_X4_57 ki_yX2_variableAt ks_yX2_variableAt kn_X2 kc_yX2_variableAt) ⟨rfl, rfl⟩ hd_X2_variableAt (by rw [hR]; exact ⟨Nat.le_of_ble_eq_true rfl, Nat.le_of_ble_eq_true rfl⟩) rfl rfl rfl rfl hl.1 rfl (Nat.le_of_ble_eq_true rfl) ⟨Nat.zero_le _, Nat.zero_le _⟩ dX4_addData_154 rfl (fun H locs hW => ?_)
    obtain ⟨z36, ez36, hf⟩ := bd_e hf
    refine ct_V (As := [.int r35.1]) (rest := []) (st1 := []) (q0 := 3) (ci := 1) S hA hW (c_X1_addFour l D g r35.2 r35.1 ez36) (wG_V km_X4_247 ki_yX1_addFour ks_yX1_addFour kn_X1 kc_yX1_addFour) ⟨rfl, rfl⟩ hd_X1_addFour (by rw [hR]; exact ⟨Nat.le_of_ble_eq_true rfl, Nat.le_of_ble_eq_true rfl⟩) rfl rfl rfl rfl hl.1 rfl (Nat.le_of_ble_eq_true rfl) ⟨Nat.zero_le _, Nat.zero_le _⟩ dX4_addData_157 rfl (fun H locs hW => ?_)
    refine lv_iinc (v := 1) (lv' := [(2, .int 1), (0, .ref (g.1 0)), (1, .int x1)]) hx hb dX4_addData_160 hl (k := 0) rfl (by decide) (by decide) rfl (fun ls hl => ?_)
    refine lv_goto (tgt := 140) hx hb dX4_addData_163 (by decide) ?_
    refine lv_iload_n hx hb dX4_addData_140 rfl (lv_at hl 0 rfl) ?_
    refine lv_iconst (v := 4) hx hb dX4_addData_141 (by decide) ?_
    refine lv_icmp_ge (tgt := 166) hx hb dX4_addData_142 (by decide) (fun c => absurd c (by decide)) (fun _ => ?_)
    refine lv_aload_n hx hb dX4_addData_145 rfl (lv_at hl 1 rfl) ?_
    refine gX4_writer S hW kf_X4_29 dX4_addData_146 ?_
    refine lv_aload_n hx hb dX4_addData_149 rfl (lv_at hl 1 rfl) ?_
    refine gX4_holdings S hW kf_X4_15 dX4_addData_150 ?_
    refine lv_iload_n hx hb dX4_addData_153 rfl (lv_at hl 0 rfl) ?_
    obtain ⟨r37, er37, hf⟩ := bd_e hf
    refine ct_V (As := [.int 1]) (rest := [.ref (g.1 3)]) (st1 := [.int r37.1, .ref (g.1 3)]) (q0 := 1) (ci := 2) S hA hW (c_X2_variableAt l D g z36 1 er37) (wG_V km_X4_57 ki_yX2_variableAt ks_yX2_variableAt kn_X2 kc_yX2_variableAt) ⟨rfl, rfl⟩ hd_X2_variableAt (by rw [hR]; exact ⟨Nat.le_of_ble_eq_true rfl, Nat.le_of_ble_eq_true rfl⟩) rfl rfl rfl rfl hl.1 rfl (Nat.le_of_ble_eq_true rfl) ⟨Nat.zero_le _, Nat.zero_le _⟩ dX4_addData_154 rfl (fun H locs hW => ?_)
    obtain ⟨z38, ez38, hf⟩ := bd_e hf
    refine ct_V (As := [.int r37.1]) (rest := []) (st1 := []) (q0 := 3) (ci := 1) S hA hW (c_X1_addFour l D g r37.2 r37.1 ez38) (wG_V km_X4_247 ki_yX1_addFour ks_yX1_addFour kn_X1 kc_yX1_addFour) ⟨rfl, rfl⟩ hd_X1_addFour (by rw [hR]; exact ⟨Nat.le_of_ble_eq_true rfl, Nat.le_of_ble_eq_true rfl⟩) rfl rfl rfl rfl hl.1 rfl (Nat.le_of_ble_eq_true rfl) ⟨Nat.zero_le _, Nat.zero_le _⟩ dX4_addData_157 rfl (fun H locs hW => ?_)
    refine lv_iinc (v := 2) (lv' := [(2, .int 2), (0, .ref (g.1 0)), (1, .int x1)]) hx hb dX4_addData_160 hl (k := 0) rfl (by decide) (by decide) rfl (fun ls hl => ?_)
    refine lv_goto (tgt := 140) hx hb dX4_addData_163 (by decide) ?_
    refine lv_iload_n hx hb dX4_addData_140 rfl (lv_at hl 0 rfl) ?_
    refine lv_iconst (v := 4) hx hb dX4_addData_141 (by decide) ?_
    refine lv_icmp_ge (tgt := 166) hx hb dX4_addData_142 (by decide) (fun c => absurd c (by decide)) (fun _ => ?_)
    refine lv_aload_n hx hb dX4_addData_145 rfl (lv_at hl 1 rfl) ?_
    refine gX4_writer S hW kf_X4_29 dX4_addData_146 ?_
    refine lv_aload_n hx hb dX4_addData_149 rfl (lv_at hl 1 rfl) ?_
    refine gX4_holdings S hW kf_X4_15 dX4_addData_150 ?_
    refine lv_iload_n hx hb dX4_addData_153 rfl (lv_at hl 0 rfl) ?_
    obtain ⟨r39, er39, hf⟩ := bd_e hf
    refine ct_V (As := [.int 2]) (rest := [.ref (g.1 3)]) (st1 := [.int r39.1, .ref (g.1 3)]) (q0 := 1) (ci := 2) S hA hW (c_X2_variableAt l D g z38 2 er39) (wG_V km_X4_57 ki_yX2_variableAt ks_yX2_variableAt kn_X2 kc_yX2_variableAt) ⟨rfl, rfl⟩ hd_X2_variableAt (by rw [hR]; exact ⟨Nat.le_of_ble_eq_true rfl, Nat.le_of_ble_eq_true rfl⟩) rfl rfl rfl rfl hl.1 rfl (Nat.le_of_ble_eq_true rfl) ⟨Nat.zero_le _, Nat.zero_le _⟩ dX4_addData_154 rfl (fun H locs hW => ?_)
    obtain ⟨z40, ez40, hf⟩ := bd_e hf
    refine ct_V (As := [.int r39.1]) (rest := []) (st1 := []) (q0 := 3) (ci := 1) S hA hW (c_X1_addFour l D g r39.2 r39.1 ez40) (wG_V km_X4_247 ki_yX1_addFour ks_yX1_addFour kn_X1 kc_yX1_addFour) ⟨rfl, rfl⟩ hd_X1_addFour (by rw [hR]; exact ⟨Nat.le_of_ble_eq_true rfl, Nat.le_of_ble_eq_true rfl⟩) rfl rfl rfl rfl hl.1 rfl (Nat.le_of_ble_eq_true rfl) ⟨Nat.zero_le _, Nat.zero_le _⟩ dX4_addData_157 rfl (fun H locs hW => ?_)
    refine lv_iinc (v := 3) (lv' := [(2, .int 3), (0, .ref (g.1 0)), (1, .int x1)]) hx hb dX4_addData_160 hl (k := 0) rfl (by decide) (by decide) rfl (fun ls hl => ?_)
    refine lv_goto (tgt := 140) hx hb dX4_addData_163 (by decide) ?_
    refine lv_iload_n hx hb dX4_addData_140 rfl (lv_at hl 0 rfl) ?_
    refine lv_iconst (v := 4) hx hb dX4_addData_141 (by decide) ?_
    refine lv_icmp_ge (tgt := 166) hx hb dX4_addData_142 (by decide) (fun c => absurd c (by decide)) (fun _ => ?_)
    refine lv_aload_n hx hb dX4_addData_145 rfl (lv_at hl 1 rfl) ?_
    refine gX4_writer S hW kf_X4_29 dX4_addData_146 ?_
    refine lv_aload_n hx hb dX4_addData_149 rfl (lv_at hl 1 rfl) ?_
    refine gX4_holdings S hW kf_X4_15 dX4_addData_150 ?_
    refine lv_iload_n hx hb dX4_addData_153 rfl (lv_at hl 0 rfl) ?_
    obtain ⟨r41, er41, hf⟩ := bd_e hf
    refine ct_V (As := [.int 3]) (rest := [.ref (g.1 3)]) (st1 := [.int r41.1, .ref (g.1 3)]) (q0 := 1) (ci := 2) S hA hW (c_X2_variableAt l D g z40 3 er41) (wG_V km_X4_57 ki_yX2_variableAt ks_yX2_variableAt kn_X2 kc_yX2_variableAt) ⟨rfl, rfl⟩ hd_X2_variableAt (by rw [hR]; exact ⟨Nat.le_of_ble_eq_true rfl, Nat.le_of_ble_eq_true rfl⟩) rfl rfl rfl rfl hl.1 rfl (Nat.le_of_ble_eq_true rfl) ⟨Nat.zero_le _, Nat.zero_le _⟩ dX4_addData_154 rfl (fun H locs hW => ?_)
    obtain ⟨z42, ez42, hf⟩ := bd_e hf
    refine ct_V (As := [.int r41.1]) (rest := []) (st1 := []) (q0 := 3) (ci := 1) S hA hW (c_X1_addFour l D g r41.2 r41.1 ez42) (wG_V km_X4_247 ki_yX1_addFour ks_yX1_addFour kn_X1 kc_yX1_addFour) ⟨rfl, rfl⟩ hd_X1_addFour (by rw [hR]; exact ⟨Nat.le_of_ble_eq_true rfl, Nat.le_of_ble_eq_true rfl⟩) rfl rfl rfl rfl hl.1 rfl (Nat.le_of_ble_eq_true rfl) ⟨Nat.zero_le _, Nat.zero_le _⟩ dX4_addData_157 rfl (fun H locs hW => ?_)
    refine lv_iinc (v := 4) (lv' := [(2, .int 4), (0, .ref (g.1 0)), (1, .int x1)]) hx hb dX4_addData_160 hl (k := 0) rfl (by decide) (by decide) rfl (fun ls hl => ?_)
    refine lv_goto (tgt := 140) hx hb dX4_addData_163 (by decide) ?_
    refine lv_iload_n hx hb dX4_addData_140 rfl (lv_at hl 0 rfl) ?_
    refine lv_iconst (v := 4) hx hb dX4_addData_141 (by decide) ?_
    refine lv_icmp_ge (tgt := 166) hx hb dX4_addData_142 (by decide) (fun _ => ?_) (fun c => absurd (by decide) c)
    refine lv_goto (tgt := 242) hx hb dX4_addData_166 (by decide) ?_
    subst hf
    exact ct_v S hr hlocks hW dX4_addData_242
  replace hf := if_f c31 hf
  replace hs := hs.2 c31
  by_cases c43 : x1 = 11
  · replace hf := if_t c43 hf
    replace hs := hs.1 c43
    refine lv_lookup (off := 67) (tgt := 68) hx hb dX4_addData_1 (by decide) (by rw [c43]; decide) (by decide) ?_
    refine lv_aload_n hx hb dX4_addData_68 rfl (lv_at hl 0 rfl) ?_
    obtain ⟨z44, ez44, hf⟩ := bd_e hf
    refine ct_V (As := []) (rest := []) (st1 := []) (q0 := 0) (ci := 4) S hA hW (c_X4_addIdentity l D g z ez44) (wG_V km_X4_244 ki_yX4_addIdentity ks_yX4_addIdentity kn_X4 kc_yX4_addIdentity) ⟨rfl, rfl⟩ hd_X4_addIdentity (by rw [hR]; exact ⟨Nat.le_of_ble_eq_true rfl, Nat.le_of_ble_eq_true rfl⟩) rfl rfl rfl rfl hl.1 rfl (Nat.le_of_ble_eq_true rfl) ⟨Nat.zero_le _, Nat.zero_le _⟩ dX4_addData_69 rfl (fun H locs hW => ?_)
    refine lv_goto (tgt := 242) hx hb dX4_addData_72 (by decide) ?_
    subst hf
    exact ct_v S hr hlocks hW dX4_addData_242
  replace hf := if_f c43 hf
  replace hs := hs.2 c43
  by_cases c45 : x1 = 13
  · replace hf := if_t c45 hf
    replace hs := hs.1 c45
    refine lv_lookup (off := 168) (tgt := 169) hx hb dX4_addData_1 (by decide) (by rw [c45]; decide) (by decide) ?_
    refine lv_iconst (v := 0) hx hb dX4_addData_169 (by decide) ?_
    refine lv_istore_n (lv' := [(2, .int 0), (0, .ref (g.1 0)), (1, .int x1)]) hx hb dX4_addData_170 rfl hl (by decide) rfl (fun ls hl => ?_)
    refine lv_iload_n hx hb dX4_addData_171 rfl (lv_at hl 0 rfl) ?_
    refine lv_bipush (v := 6) hx hb dX4_addData_172 (by decide) ?_
    refine lv_icmp_ge (tgt := 198) hx hb dX4_addData_174 (by decide) (fun c => absurd c (by decide)) (fun _ => ?_)
    refine lv_aload_n hx hb dX4_addData_177 rfl (lv_at hl 1 rfl) ?_
    refine gX4_writer S hW kf_X4_29 dX4_addData_178 ?_
    refine lv_aload_n hx hb dX4_addData_181 rfl (lv_at hl 1 rfl) ?_
    refine gX4_holdings S hW kf_X4_15 dX4_addData_182 ?_
    refine lv_iload_n hx hb dX4_addData_185 rfl (lv_at hl 0 rfl) ?_
    obtain ⟨r46, er46, hf⟩ := bd_e hf
    refine ct_V (As := [.int 0]) (rest := [.ref (g.1 3)]) (st1 := [.int r46.1, .ref (g.1 3)]) (q0 := 1) (ci := 2) S hA hW (c_X2_tagByte l D g z 0 er46) (wG_V km_X4_98 ki_yX2_tagByte ks_yX2_tagByte kn_X2 kc_yX2_tagByte) ⟨rfl, rfl⟩ hd_X2_tagByte (by rw [hR]; exact ⟨Nat.le_of_ble_eq_true rfl, Nat.le_of_ble_eq_true rfl⟩) rfl rfl rfl rfl hl.1 rfl (Nat.le_of_ble_eq_true rfl) ⟨Nat.zero_le _, Nat.zero_le _⟩ dX4_addData_186 rfl (fun H locs hW => ?_)
    obtain ⟨z47, ez47, hf⟩ := bd_e hf
    refine ct_V (As := [.int r46.1]) (rest := []) (st1 := []) (q0 := 3) (ci := 1) S hA hW (c_X1_add l D g r46.2 r46.1 ez47) (wG_V km_X4_222 ki_yX1_add ks_yX1_add kn_X1 kc_yX1_add) ⟨rfl, rfl⟩ hd_X1_add (by rw [hR]; exact ⟨Nat.le_of_ble_eq_true rfl, Nat.le_of_ble_eq_true rfl⟩) rfl rfl rfl rfl hl.1 rfl (Nat.le_of_ble_eq_true rfl) ⟨Nat.zero_le _, Nat.zero_le _⟩ dX4_addData_189 rfl (fun H locs hW => ?_)
    refine lv_iinc (v := 1) (lv' := [(2, .int 1), (0, .ref (g.1 0)), (1, .int x1)]) hx hb dX4_addData_192 hl (k := 0) rfl (by decide) (by decide) rfl (fun ls hl => ?_)
    refine lv_goto (tgt := 171) hx hb dX4_addData_195 (by decide) ?_
    refine lv_iload_n hx hb dX4_addData_171 rfl (lv_at hl 0 rfl) ?_
    refine lv_bipush (v := 6) hx hb dX4_addData_172 (by decide) ?_
    refine lv_icmp_ge (tgt := 198) hx hb dX4_addData_174 (by decide) (fun c => absurd c (by decide)) (fun _ => ?_)
    refine lv_aload_n hx hb dX4_addData_177 rfl (lv_at hl 1 rfl) ?_
    refine gX4_writer S hW kf_X4_29 dX4_addData_178 ?_
    refine lv_aload_n hx hb dX4_addData_181 rfl (lv_at hl 1 rfl) ?_
    refine gX4_holdings S hW kf_X4_15 dX4_addData_182 ?_
    refine lv_iload_n hx hb dX4_addData_185 rfl (lv_at hl 0 rfl) ?_
    obtain ⟨r48, er48, hf⟩ := bd_e hf
    refine ct_V (As := [.int 1]) (rest := [.ref (g.1 3)]) (st1 := [.int r48.1, .ref (g.1 3)]) (q0 := 1) (ci := 2) S hA hW (c_X2_tagByte l D g z47 1 er48) (wG_V km_X4_98 ki_yX2_tagByte ks_yX2_tagByte kn_X2 kc_yX2_tagByte) ⟨rfl, rfl⟩ hd_X2_tagByte (by rw [hR]; exact ⟨Nat.le_of_ble_eq_true rfl, Nat.le_of_ble_eq_true rfl⟩) rfl rfl rfl rfl hl.1 rfl (Nat.le_of_ble_eq_true rfl) ⟨Nat.zero_le _, Nat.zero_le _⟩ dX4_addData_186 rfl (fun H locs hW => ?_)
    obtain ⟨z49, ez49, hf⟩ := bd_e hf
    refine ct_V (As := [.int r48.1]) (rest := []) (st1 := []) (q0 := 3) (ci := 1) S hA hW (c_X1_add l D g r48.2 r48.1 ez49) (wG_V km_X4_222 ki_yX1_add ks_yX1_add kn_X1 kc_yX1_add) ⟨rfl, rfl⟩ hd_X1_add (by rw [hR]; exact ⟨Nat.le_of_ble_eq_true rfl, Nat.le_of_ble_eq_true rfl⟩) rfl rfl rfl rfl hl.1 rfl (Nat.le_of_ble_eq_true rfl) ⟨Nat.zero_le _, Nat.zero_le _⟩ dX4_addData_189 rfl (fun H locs hW => ?_)
    refine lv_iinc (v := 2) (lv' := [(2, .int 2), (0, .ref (g.1 0)), (1, .int x1)]) hx hb dX4_addData_192 hl (k := 0) rfl (by decide) (by decide) rfl (fun ls hl => ?_)
    refine lv_goto (tgt := 171) hx hb dX4_addData_195 (by decide) ?_
    refine lv_iload_n hx hb dX4_addData_171 rfl (lv_at hl 0 rfl) ?_
    refine lv_bipush (v := 6) hx hb dX4_addData_172 (by decide) ?_
    refine lv_icmp_ge (tgt := 198) hx hb dX4_addData_174 (by decide) (fun c => absurd c (by decide)) (fun _ => ?_)
    refine lv_aload_n hx hb dX4_addData_177 rfl (lv_at hl 1 rfl) ?_
    refine gX4_writer S hW kf_X4_29 dX4_addData_178 ?_
    refine lv_aload_n hx hb dX4_addData_181 rfl (lv_at hl 1 rfl) ?_
    refine gX4_holdings S hW kf_X4_15 dX4_addData_182 ?_
    refine lv_iload_n hx hb dX4_addData_185 rfl (lv_at hl 0 rfl) ?_
    obtain ⟨r50, er50, hf⟩ := bd_e hf
    refine ct_V (As := [.int 2]) (rest := [.ref (g.1 3)]) (st1 := [.int r50.1, .ref (g.1 3)]) (q0 := 1) (ci := 2) S hA hW (c_X2_tagByte l D g z49 2 er50) (wG_V km_X4_98 ki_yX2_tagByte ks_yX2_tagByte kn_X2 kc_yX2_tagByte) ⟨rfl, rfl⟩ hd_X2_tagByte (by rw [hR]; exact ⟨Nat.le_of_ble_eq_true rfl, Nat.le_of_ble_eq_true rfl⟩) rfl rfl rfl rfl hl.1 rfl (Nat.le_of_ble_eq_true rfl) ⟨Nat.zero_le _, Nat.zero_le _⟩ dX4_addData_186 rfl (fun H locs hW => ?_)
    obtain ⟨z51, ez51, hf⟩ := bd_e hf
    refine ct_V (As := [.int r50.1]) (rest := []) (st1 := []) (q0 := 3) (ci := 1) S hA hW (c_X1_add l D g r50.2 r50.1 ez51) (wG_V km_X4_222 ki_yX1_add ks_yX1_add kn_X1 kc_yX1_add) ⟨rfl, rfl⟩ hd_X1_add (by rw [hR]; exact ⟨Nat.le_of_ble_eq_true rfl, Nat.le_of_ble_eq_true rfl⟩) rfl rfl rfl rfl hl.1 rfl (Nat.le_of_ble_eq_true rfl) ⟨Nat.zero_le _, Nat.zero_le _⟩ dX4_addData_189 rfl (fun H locs hW => ?_)
    refine lv_iinc (v := 3) (lv' := [(2, .int 3), (0, .ref (g.1 0)), (1, .int x1)]) hx hb dX4_addData_192 hl (k := 0) rfl (by decide) (by decide) rfl (fun ls hl => ?_)
    refine lv_goto (tgt := 171) hx hb dX4_addData_195 (by decide) ?_
    refine lv_iload_n hx hb dX4_addData_171 rfl (lv_at hl 0 rfl) ?_
    refine lv_bipush (v := 6) hx hb dX4_addData_172 (by decide) ?_
    refine lv_icmp_ge (tgt := 198) hx hb dX4_addData_174 (by decide) (fun c => absurd c (by decide)) (fun _ => ?_)
    refine lv_aload_n hx hb dX4_addData_177 rfl (lv_at hl 1 rfl) ?_
    refine gX4_writer S hW kf_X4_29 dX4_addData_178 ?_
    refine lv_aload_n hx hb dX4_addData_181 rfl (lv_at hl 1 rfl) ?_
    refine gX4_holdings S hW kf_X4_15 dX4_addData_182 ?_
    refine lv_iload_n hx hb dX4_addData_185 rfl (lv_at hl 0 rfl) ?_
    obtain ⟨r52, er52, hf⟩ := bd_e hf
    refine ct_V (As := [.int 3]) (rest := [.ref (g.1 3)]) (st1 := [.int r52.1, .ref (g.1 3)]) (q0 := 1) (ci := 2) S hA hW (c_X2_tagByte l D g z51 3 er52) (wG_V km_X4_98 ki_yX2_tagByte ks_yX2_tagByte kn_X2 kc_yX2_tagByte) ⟨rfl, rfl⟩ hd_X2_tagByte (by rw [hR]; exact ⟨Nat.le_of_ble_eq_true rfl, Nat.le_of_ble_eq_true rfl⟩) rfl rfl rfl rfl hl.1 rfl (Nat.le_of_ble_eq_true rfl) ⟨Nat.zero_le _, Nat.zero_le _⟩ dX4_addData_186 rfl (fun H locs hW => ?_)
    obtain ⟨z53, ez53, hf⟩ := bd_e hf
    refine ct_V (As := [.int r52.1]) (rest := []) (st1 := []) (q0 := 3) (ci := 1) S hA hW (c_X1_add l D g r52.2 r52.1 ez53) (wG_V km_X4_222 ki_yX1_add ks_yX1_add kn_X1 kc_yX1_add) ⟨rfl, rfl⟩ hd_X1_add (by rw [hR]; exact ⟨Nat.le_of_ble_eq_true rfl, Nat.le_of_ble_eq_true rfl⟩) rfl rfl rfl rfl hl.1 rfl (Nat.le_of_ble_eq_true rfl) ⟨Nat.zero_le _, Nat.zero_le _⟩ dX4_addData_189 rfl (fun H locs hW => ?_)
    refine lv_iinc (v := 4) (lv' := [(2, .int 4), (0, .ref (g.1 0)), (1, .int x1)]) hx hb dX4_addData_192 hl (k := 0) rfl (by decide) (by decide) rfl (fun ls hl => ?_)
    refine lv_goto (tgt := 171) hx hb dX4_addData_195 (by decide) ?_
    refine lv_iload_n hx hb dX4_addData_171 rfl (lv_at hl 0 rfl) ?_
    refine lv_bipush (v := 6) hx hb dX4_addData_172 (by decide) ?_
    refine lv_icmp_ge (tgt := 198) hx hb dX4_addData_174 (by decide) (fun c => absurd c (by decide)) (fun _ => ?_)
    refine lv_aload_n hx hb dX4_addData_177 rfl (lv_at hl 1 rfl) ?_
    refine gX4_writer S hW kf_X4_29 dX4_addData_178 ?_
    refine lv_aload_n hx hb dX4_addData_181 rfl (lv_at hl 1 rfl) ?_
    refine gX4_holdings S hW kf_X4_15 dX4_addData_182 ?_
    refine lv_iload_n hx hb dX4_addData_185 rfl (lv_at hl 0 rfl) ?_
    obtain ⟨r54, er54, hf⟩ := bd_e hf
    refine ct_V (As := [.int 4]) (rest := [.ref (g.1 3)]) (st1 := [.int r54.1, .ref (g.1 3)]) (q0 := 1) (ci := 2) S hA hW (c_X2_tagByte l D g z53 4 er54) (wG_V km_X4_98 ki_yX2_tagByte ks_yX2_tagByte kn_X2 kc_yX2_tagByte) ⟨rfl, rfl⟩ hd_X2_tagByte (by rw [hR]; exact ⟨Nat.le_of_ble_eq_true rfl, Nat.le_of_ble_eq_true rfl⟩) rfl rfl rfl rfl hl.1 rfl (Nat.le_of_ble_eq_true rfl) ⟨Nat.zero_le _, Nat.zero_le _⟩ dX4_addData_186 rfl (fun H locs hW => ?_)
    obtain ⟨z55, ez55, hf⟩ := bd_e hf
    refine ct_V (As := [.int r54.1]) (rest := []) (st1 := []) (q0 := 3) (ci := 1) S hA hW (c_X1_add l D g r54.2 r54.1 ez55) (wG_V km_X4_222 ki_yX1_add ks_yX1_add kn_X1 kc_yX1_add) ⟨rfl, rfl⟩ hd_X1_add (by rw [hR]; exact ⟨Nat.le_of_ble_eq_true rfl, Nat.le_of_ble_eq_true rfl⟩) rfl rfl rfl rfl hl.1 rfl (Nat.le_of_ble_eq_true rfl) ⟨Nat.zero_le _, Nat.zero_le _⟩ dX4_addData_189 rfl (fun H locs hW => ?_)
    refine lv_iinc (v := 5) (lv' := [(2, .int 5), (0, .ref (g.1 0)), (1, .int x1)]) hx hb dX4_addData_192 hl (k := 0) rfl (by decide) (by decide) rfl (fun ls hl => ?_)
    refine lv_goto (tgt := 171) hx hb dX4_addData_195 (by decide) ?_
    refine lv_iload_n hx hb dX4_addData_171 rfl (lv_at hl 0 rfl) ?_
    refine lv_bipush (v := 6) hx hb dX4_addData_172 (by decide) ?_
    refine lv_icmp_ge (tgt := 198) hx hb dX4_addData_174 (by decide) (fun c => absurd c (by decide)) (fun _ => ?_)
    refine lv_aload_n hx hb dX4_addData_177 rfl (lv_at hl 1 rfl) ?_
    refine gX4_writer S hW kf_X4_29 dX4_addData_178 ?_
    refine lv_aload_n hx hb dX4_addData_181 rfl (lv_at hl 1 rfl) ?_
    refine gX4_holdings S hW kf_X4_15 dX4_addData_182 ?_
    refine lv_iload_n hx hb dX4_addData_185 rfl (lv_at hl 0 rfl) ?_
    obtain ⟨r56, er56, hf⟩ := bd_e hf
    refine ct_V (As := [.int 5]) (rest := [.ref (g.1 3)]) (st1 := [.int r56.1, .ref (g.1 3)]) (q0 := 1) (ci := 2) S hA hW (c_X2_tagByte l D g z55 5 er56) (wG_V km_X4_98 ki_yX2_tagByte ks_yX2_tagByte kn_X2 kc_yX2_tagByte) ⟨rfl, rfl⟩ hd_X2_tagByte (by rw [hR]; exact ⟨Nat.le_of_ble_eq_true rfl, Nat.le_of_ble_eq_true rfl⟩) rfl rfl rfl rfl hl.1 rfl (Nat.le_of_ble_eq_true rfl) ⟨Nat.zero_le _, Nat.zero_le _⟩ dX4_addData_186 rfl (fun H locs hW => ?_)
    obtain ⟨z57, ez57, hf⟩ := bd_e hf
    refine ct_V (As := [.int r56.1]) (rest := []) (st1 := []) (q0 := 3) (ci := 1) S hA hW (c_X1_add l D g r56.2 r56.1 ez57) (wG_V km_X4_222 ki_yX1_add ks_yX1_add kn_X1 kc_yX1_add) ⟨rfl, rfl⟩ hd_X1_add (by rw [hR]; exact ⟨Nat.le_of_ble_eq_true rfl, Nat.le_of_ble_eq_true rfl⟩) rfl rfl rfl rfl hl.1 rfl (Nat.le_of_ble_eq_true rfl) ⟨Nat.zero_le _, Nat.zero_le _⟩ dX4_addData_189 rfl (fun H locs hW => ?_)
    refine lv_iinc (v := 6) (lv' := [(2, .int 6), (0, .ref (g.1 0)), (1, .int x1)]) hx hb dX4_addData_192 hl (k := 0) rfl (by decide) (by decide) rfl (fun ls hl => ?_)
    refine lv_goto (tgt := 171) hx hb dX4_addData_195 (by decide) ?_
    refine lv_iload_n hx hb dX4_addData_171 rfl (lv_at hl 0 rfl) ?_
    refine lv_bipush (v := 6) hx hb dX4_addData_172 (by decide) ?_
    refine lv_icmp_ge (tgt := 198) hx hb dX4_addData_174 (by decide) (fun _ => ?_) (fun c => absurd (by decide) c)
    refine lv_goto (tgt := 242) hx hb dX4_addData_198 (by decide) ?_
    subst hf
    exact ct_v S hr hlocks hW dX4_addData_242
  replace hf := if_f c45 hf
  replace hs := hs.2 c45
  by_cases c58 : x1 = 48
  · replace hf := if_t c58 hf
    replace hs := hs.1 c58
    refine lv_lookup (off := 200) (tgt := 201) hx hb dX4_addData_1 (by decide) (by rw [c58]; decide) (by decide) ?_
    refine lv_aload_n hx hb dX4_addData_201 rfl (lv_at hl 0 rfl) ?_
    refine gX4_writer S hW kf_X4_29 dX4_addData_202 ?_
    refine lv_aload_n hx hb dX4_addData_205 rfl (lv_at hl 0 rfl) ?_
    refine gX4_holdings S hW kf_X4_15 dX4_addData_206 ?_
    refine gX2_failed S hW kf_X4_64 dX4_addData_209 ?_
    refine lv_if_eq (tgt := 219) hx hb dX4_addData_212 (by decide) (fun c59 => ?_) (fun c59 => ?_)
    · replace hf := if_t c59 hf
      replace hs := hs.1 c59
      refine lv_iconst (v := 0) hx hb dX4_addData_219 (by decide) ?_
      exact J_220 z 0 _ _ ls hW (lv_sub hl [0] rfl) hf
    · replace hf := if_f c59 hf
      replace hs := hs.2 c59
      refine lv_iconst (v := 1) hx hb dX4_addData_215 (by decide) ?_
      refine lv_goto (tgt := 220) hx hb dX4_addData_216 (by decide) ?_
      exact J_220 z 1 _ _ ls hW (lv_sub hl [0] rfl) hf
  replace hf := if_f c58 hf
  replace hs := hs.2 c58
  refine lv_lookup (off := 236) (tgt := 237) hx hb dX4_addData_1 (by decide) ((lv_osw (k := 0) c21 (by decide)).trans ((lv_osw (k := 1) c23 (by decide)).trans ((lv_osw (k := 2) c27 (by decide)).trans ((lv_osw (k := 3) c31 (by decide)).trans ((lv_osw (k := 11) c43 (by decide)).trans ((lv_osw (k := 13) c45 (by decide)).trans ((lv_osw (k := 48) c58 (by decide)).trans (rfl)))))))) (by decide) ?_
  refine lv_aload_n hx hb dX4_addData_237 rfl (lv_at hl 0 rfl) ?_
  refine lv_iload_n hx hb dX4_addData_238 rfl (lv_at hl 1 rfl) ?_
  obtain ⟨q60, hs⟩ := hs
  obtain ⟨z61, ez61, hf⟩ := bd_e hf
  refine ct_V (As := [.int x1]) (rest := []) (st1 := []) (q0 := 0) (ci := 4) S hA hW (c_X4_addEcho l D g z x1 ez61 q60) (wG_V km_X4_253 ki_yX4_addEcho ks_yX4_addEcho kn_X4 kc_yX4_addEcho) ⟨rfl, rfl⟩ hd_X4_addEcho (by rw [hR]; exact ⟨Nat.le_of_ble_eq_true rfl, Nat.le_of_ble_eq_true rfl⟩) rfl rfl rfl rfl hl.1 rfl (Nat.le_of_ble_eq_true rfl) ⟨Nat.zero_le _, Nat.zero_le _⟩ dX4_addData_239 rfl (fun H locs hW => ?_)
  subst hf
  exact ct_v S hr hlocks hW dX4_addData_242
def f_X4_addAddress_27 (z : Sg) (y1 : Int32) (k0 : Int32) (k1 : Int32) : Sg := bd (k0 ||| k1) (fun x23 => (if y1 = 0 then bd (f_X1_add z (x23 ||| (gI z 10))) (fun z25 => z25) else bd (f_X1_add z (x23 ||| (gI z 7))) (fun z26 => bd (f_X1_add z26 (gI z26 8)) (fun z27 => bd (f_X4_addNumber z27) (fun z28 => z28)))))
def f_X4_addAddress_11 (z : Sg) (y1 : Int32) (k0 : Int32) : Sg := (if (gI z 17) = 0 then f_X4_addAddress_27 z y1 k0 0 else f_X4_addAddress_27 z y1 k0 64)
def f_X4_addAddress (z : Sg) (x1 : Int32) (x2 : Int32) : Sg := (if x2 = 0 then f_X4_addAddress_11 z x1 128 else f_X4_addAddress_11 z x1 0)
theorem hd_X4_addAddress : yX4_addAddress.cls = RX4 ∧ yX4_addAddress.cls ≠ "java/lang/invoke/MethodHandle" ∧ yX4_addAddress.cls ≠ "java/lang/invoke/VarHandle" ∧ (parseMethodDescriptor yX4_addAddress.desc).map (fun d => d.parameters.length) = some 2 := by decide +kernel
set_option maxHeartbeats 4000000 in
set_option maxRecDepth 100000 in
theorem c_X4_addAddress (l : Launch) (D : va_G) (g : Gv) (z : Sg) (x1 : Int32) (x2 : Int32) {r : Sg} (er : r = f_X4_addAddress z x1 x2) : CT D (wD g) (tD g) l yX4_addAddress (wG yX4_addAddress cX4_addAddress 4 none) { frames := 2, cells := 0, slots := 0, locals := 41 } [.ref (g.1 0), .int x1, .int x2] z none r := by
  refine CT.ofW (by decide) (Nat.le_of_ble_eq_true rfl) ?_
  intro p e R s m args below meth c A hR S hr hlocks hA hW ls hl
  have S : CallFix p m c cX4_addAddress 4 s args wsL_law RX4 := S
  have hl : lv_has ls 4 [(0, .ref (g.1 0)), (1, .int x1), (2, .int x2)] := hl
  have hx := S.1
  have hb := S.2.1
  have hf := er.symm
  clear er
  have J_27 : ∀ (z : Sg) (y1 : Int32) (k0 : Int32) (k1 : Int32) (H : Heap) (locs : List Loc) (ls : Array Slot), Wd D (wD g) (tD g) A s H locs z → lv_has ls 4 [(0, .ref (g.1 0)), (1, .int y1)] → f_X4_addAddress_27 z y1 k0 k1 = r → W p l e R s m args below meth c H locs 0 0 (MQ below (CQ D (wD g) A none r) args s 0 0 A) (F0 m 27 ls [.int k1, .int k0]) := by
    intro z y1 k0 k1 H locs ls hW hl hf
    unfold f_X4_addAddress_27 at hf
    refine lv_ior hx hb dX4_addAddress_27 ?_
    obtain ⟨x23, ex23, hf⟩ := bd_e hf
    refine lv_nmi ex23 ?_
    refine lv_istore_n (lv' := [(3, .int x23), (0, .ref (g.1 0)), (1, .int y1)]) hx hb dX4_addAddress_28 rfl hl (by decide) rfl (fun ls hl => ?_)
    refine lv_iload_n hx hb dX4_addAddress_29 rfl (lv_at hl 2 rfl) ?_
    refine lv_if_eq (tgt := 70) hx hb dX4_addAddress_30 (by decide) (fun c24 => ?_) (fun c24 => ?_)
    · replace hf := if_t c24 hf
      refine lv_aload_n hx hb dX4_addAddress_70 rfl (lv_at hl 1 rfl) ?_
      refine gX4_writer S hW kf_X4_29 dX4_addAddress_71 ?_
      refine lv_iload_n hx hb dX4_addAddress_74 rfl (lv_at hl 0 rfl) ?_
      refine lv_aload_n hx hb dX4_addAddress_75 rfl (lv_at hl 1 rfl) ?_
      refine gX4_holdings S hW kf_X4_15 dX4_addAddress_76 ?_
      refine gX2_shortAddress S hW kf_X4_68 dX4_addAddress_79 ?_
      refine lv_ior hx hb dX4_addAddress_82 ?_
      obtain ⟨z25, ez25, hf⟩ := bd_e hf
      refine ct_V (As := [.int (x23 ||| (gI z 10))]) (rest := []) (st1 := []) (q0 := 3) (ci := 1) S hA hW (c_X1_add l D g z (x23 ||| (gI z 10)) ez25) (wG_V km_X4_222 ki_yX1_add ks_yX1_add kn_X1 kc_yX1_add) ⟨rfl, rfl⟩ hd_X1_add (by rw [hR]; exact ⟨Nat.le_of_ble_eq_true rfl, Nat.le_of_ble_eq_true rfl⟩) rfl rfl rfl rfl hl.1 rfl (Nat.le_of_ble_eq_true rfl) ⟨Nat.zero_le _, Nat.zero_le _⟩ dX4_addAddress_83 rfl (fun H locs hW => ?_)
      subst hf
      exact ct_v S hr hlocks hW dX4_addAddress_86
    · replace hf := if_f c24 hf
      refine lv_aload_n hx hb dX4_addAddress_33 rfl (lv_at hl 1 rfl) ?_
      refine gX4_writer S hW kf_X4_29 dX4_addAddress_34 ?_
      refine lv_iload_n hx hb dX4_addAddress_37 rfl (lv_at hl 0 rfl) ?_
      refine lv_aload_n hx hb dX4_addAddress_38 rfl (lv_at hl 1 rfl) ?_
      refine gX4_holdings S hW kf_X4_15 dX4_addAddress_39 ?_
      refine gX2_maker S hW kf_X4_236 dX4_addAddress_42 ?_
      refine lv_ior hx hb dX4_addAddress_45 ?_
      obtain ⟨z26, ez26, hf⟩ := bd_e hf
      refine ct_V (As := [.int (x23 ||| (gI z 7))]) (rest := []) (st1 := []) (q0 := 3) (ci := 1) S hA hW (c_X1_add l D g z (x23 ||| (gI z 7)) ez26) (wG_V km_X4_222 ki_yX1_add ks_yX1_add kn_X1 kc_yX1_add) ⟨rfl, rfl⟩ hd_X1_add (by rw [hR]; exact ⟨Nat.le_of_ble_eq_true rfl, Nat.le_of_ble_eq_true rfl⟩) rfl rfl rfl rfl hl.1 rfl (Nat.le_of_ble_eq_true rfl) ⟨Nat.zero_le _, Nat.zero_le _⟩ dX4_addAddress_46 rfl (fun H locs hW => ?_)
      refine lv_aload_n hx hb dX4_addAddress_49 rfl (lv_at hl 1 rfl) ?_
      refine gX4_writer S hW kf_X4_29 dX4_addAddress_50 ?_
      refine lv_aload_n hx hb dX4_addAddress_53 rfl (lv_at hl 1 rfl) ?_
      refine gX4_holdings S hW kf_X4_15 dX4_addAddress_54 ?_
      refine gX2_kind S hW kf_X4_239 dX4_addAddress_57 ?_
      obtain ⟨z27, ez27, hf⟩ := bd_e hf
      refine ct_V (As := [.int (gI z26 8)]) (rest := []) (st1 := []) (q0 := 3) (ci := 1) S hA hW (c_X1_add l D g z26 (gI z26 8) ez27) (wG_V km_X4_222 ki_yX1_add ks_yX1_add kn_X1 kc_yX1_add) ⟨rfl, rfl⟩ hd_X1_add (by rw [hR]; exact ⟨Nat.le_of_ble_eq_true rfl, Nat.le_of_ble_eq_true rfl⟩) rfl rfl rfl rfl hl.1 rfl (Nat.le_of_ble_eq_true rfl) ⟨Nat.zero_le _, Nat.zero_le _⟩ dX4_addAddress_60 rfl (fun H locs hW => ?_)
      refine lv_aload_n hx hb dX4_addAddress_63 rfl (lv_at hl 1 rfl) ?_
      obtain ⟨z28, ez28, hf⟩ := bd_e hf
      refine ct_V (As := []) (rest := []) (st1 := []) (q0 := 0) (ci := 4) S hA hW (c_X4_addNumber l D g z27 ez28) (wG_V km_X4_241 ki_yX4_addNumber ks_yX4_addNumber kn_X4 kc_yX4_addNumber) ⟨rfl, rfl⟩ hd_X4_addNumber (by rw [hR]; exact ⟨Nat.le_of_ble_eq_true rfl, Nat.le_of_ble_eq_true rfl⟩) rfl rfl rfl rfl hl.1 rfl (Nat.le_of_ble_eq_true rfl) ⟨Nat.zero_le _, Nat.zero_le _⟩ dX4_addAddress_64 rfl (fun H locs hW => ?_)
      refine lv_goto (tgt := 86) hx hb dX4_addAddress_67 (by decide) ?_
      subst hf
      exact ct_v S hr hlocks hW dX4_addAddress_86
  have J_11 : ∀ (z : Sg) (y1 : Int32) (k0 : Int32) (H : Heap) (locs : List Loc) (ls : Array Slot), Wd D (wD g) (tD g) A s H locs z → lv_has ls 4 [(0, .ref (g.1 0)), (1, .int y1)] → f_X4_addAddress_11 z y1 k0 = r → W p l e R s m args below meth c H locs 0 0 (MQ below (CQ D (wD g) A none r) args s 0 0 A) (F0 m 11 ls [.int k0]) := by
    intro z y1 k0 H locs ls hW hl hf
    unfold f_X4_addAddress_11 at hf
    refine lv_aload_n hx hb dX4_addAddress_11 rfl (lv_at hl 0 rfl) ?_
    refine gX4_holdings S hW kf_X4_15 dX4_addAddress_12 ?_
    refine gX2_burstOn S hW kf_X4_80 dX4_addAddress_15 ?_
    refine lv_if_eq (tgt := 26) hx hb dX4_addAddress_18 (by decide) (fun c22 => ?_) (fun c22 => ?_)
    · replace hf := if_t c22 hf
      refine lv_iconst (v := 0) hx hb dX4_addAddress_26 (by decide) ?_
      exact J_27 z y1 k0 0 _ _ ls hW (lv_sub hl [0, 1] rfl) hf
    · replace hf := if_f c22 hf
      refine lv_bipush (v := 64) hx hb dX4_addAddress_21 (by decide) ?_
      refine lv_goto (tgt := 27) hx hb dX4_addAddress_23 (by decide) ?_
      exact J_27 z y1 k0 64 _ _ ls hW (lv_sub hl [0, 1] rfl) hf
  unfold f_X4_addAddress at hf
  refine lv_iload_n hx hb dX4_addAddress_0 rfl (lv_at hl 2 rfl) ?_
  refine lv_if_ne (tgt := 10) hx hb dX4_addAddress_1 (by decide) (fun c21 => ?_) (fun c21 => ?_)
  · replace hf := if_f c21 hf
    refine lv_iconst (v := 0) hx hb dX4_addAddress_10 (by decide) ?_
    exact J_11 z x1 0 _ _ ls hW (lv_sub hl [0, 1] rfl) hf
  · replace hf := if_t c21 hf
    refine lv_sipush (v := 128) hx hb dX4_addAddress_4 (by decide) ?_
    refine lv_goto (tgt := 11) hx hb dX4_addAddress_7 (by decide) ?_
    exact J_11 z x1 128 _ _ ls hW (lv_sub hl [0, 1] rfl) hf
def f_X4_compose_20 (z : Sg) (y2 : Int32) (y3 : Int32) (y4 : Int32) (k1 : Int32) : Sg := bd (f_X4_addAddress z k1 y2) (fun z23 => bd (f_X1_add z23 y3) (fun z24 => bd (f_X1_beginCount z24) (fun z25 => bd (f_X1_add z25 y4) (fun z26 => bd (f_X2_statusFor z26 y2) (fun r27 => bd (f_X1_add r27.2 r27.1) (fun z28 => (if y4 = 0 then bd (f_X4_addData z28 y3) (fun z33 => bd (f_X1_end z33) (fun z35 => z35)) else bd (f_X1_end z28) (fun z31 => z31))))))))
def s_X4_compose_20 (z : Sg) (y2 : Int32) (y3 : Int32) (y4 : Int32) (k1 : Int32) : Prop := bd (f_X4_addAddress z k1 y2) (fun z23 => bd (f_X1_add z23 y3) (fun z24 => bd (f_X1_beginCount z24) (fun z25 => bd (f_X1_add z25 y4) (fun z26 => bd (f_X2_statusFor z26 y2) (fun r27 => bd (f_X1_add r27.2 r27.1) (fun z28 => (y4 = 0 → (s_X4_addData z28 y3) ∧ bd (f_X4_addData z28 y3) (fun z33 => (s_X1_end z33) ∧ True)) ∧ (¬ y4 = 0 → (s_X1_end z28) ∧ True)))))))
def f_X4_compose (z : Sg) (x1 : Int32) (x2 : Int32) (x3 : Int32) (x4 : Int32) : Sg := bd (f_X1_begin z x1) (fun z21 => (if x1 = 6 then f_X4_compose_20 z21 x2 x3 x4 0 else f_X4_compose_20 z21 x2 x3 x4 1))
def s_X4_compose (z : Sg) (x1 : Int32) (x2 : Int32) (x3 : Int32) (x4 : Int32) : Prop := bd (f_X1_begin z x1) (fun z21 => (x1 = 6 → s_X4_compose_20 z21 x2 x3 x4 0) ∧ (¬ x1 = 6 → s_X4_compose_20 z21 x2 x3 x4 1))
theorem hd_X4_compose : yX4_compose.cls = RX4 ∧ yX4_compose.cls ≠ "java/lang/invoke/MethodHandle" ∧ yX4_compose.cls ≠ "java/lang/invoke/VarHandle" ∧ (parseMethodDescriptor yX4_compose.desc).map (fun d => d.parameters.length) = some 4 := by decide +kernel
set_option maxHeartbeats 4000000 in
set_option maxRecDepth 100000 in
theorem c_X4_compose (l : Launch) (D : va_G) (g : Gv) (z : Sg) (x1 : Int32) (x2 : Int32) (x3 : Int32) (x4 : Int32) {r : Sg} (er : r = f_X4_compose z x1 x2 x3 x4) (hs : s_X4_compose z x1 x2 x3 x4) : CT D (wD g) (tD g) l yX4_compose (wG yX4_compose cX4_compose 5 none) { frames := 4, cells := 0, slots := 0, locals := 83 } [.ref (g.1 0), .int x1, .int x2, .int x3, .int x4] z none r := by
  refine CT.ofW (by decide) (Nat.le_of_ble_eq_true rfl) ?_
  intro p e R s m args below meth c A hR S hr hlocks hA hW ls hl
  have S : CallFix p m c cX4_compose 5 s args wsL_law RX4 := S
  have hl : lv_has ls 5 [(0, .ref (g.1 0)), (1, .int x1), (2, .int x2), (3, .int x3), (4, .int x4)] := hl
  have hx := S.1
  have hb := S.2.1
  have hf := er.symm
  clear er
  have J_20 : ∀ (z : Sg) (y2 : Int32) (y3 : Int32) (y4 : Int32) (k1 : Int32) (H : Heap) (locs : List Loc) (ls : Array Slot), Wd D (wD g) (tD g) A s H locs z → lv_has ls 5 [(0, .ref (g.1 0)), (2, .int y2), (3, .int y3), (4, .int y4)] → s_X4_compose_20 z y2 y3 y4 k1 → f_X4_compose_20 z y2 y3 y4 k1 = r → W p l e R s m args below meth c H locs 0 0 (MQ below (CQ D (wD g) A none r) args s 0 0 A) (F0 m 20 ls [.int k1, .ref (g.1 0)]) := by
    intro z y2 y3 y4 k1 H locs ls hW hl hs hf
    unfold f_X4_compose_20 at hf
    unfold s_X4_compose_20 at hs
    refine lv_iload_n hx hb dX4_compose_20 rfl (lv_at hl 1 rfl) ?_
    obtain ⟨z23, ez23, hf⟩ := bd_e hf
    replace hs := bd_s ez23 hs
    refine ct_V (As := [.int k1, .int y2]) (rest := []) (st1 := []) (q0 := 0) (ci := 4) S hA hW (c_X4_addAddress l D g z k1 y2 ez23) (wG_V km_X4_218 ki_yX4_addAddress ks_yX4_addAddress kn_X4 kc_yX4_addAddress) ⟨rfl, rfl⟩ hd_X4_addAddress (by rw [hR]; exact ⟨Nat.le_of_ble_eq_true rfl, Nat.le_of_ble_eq_true rfl⟩) rfl rfl rfl rfl hl.1 rfl (Nat.le_of_ble_eq_true rfl) ⟨Nat.zero_le _, Nat.zero_le _⟩ dX4_compose_21 rfl (fun H locs hW => ?_)
    refine lv_aload_n hx hb dX4_compose_24 rfl (lv_at hl 0 rfl) ?_
    refine gX4_writer S hW kf_X4_29 dX4_compose_25 ?_
    refine lv_iload_n hx hb dX4_compose_28 rfl (lv_at hl 2 rfl) ?_
    obtain ⟨z24, ez24, hf⟩ := bd_e hf
    replace hs := bd_s ez24 hs
    refine ct_V (As := [.int y3]) (rest := []) (st1 := []) (q0 := 3) (ci := 1) S hA hW (c_X1_add l D g z23 y3 ez24) (wG_V km_X4_222 ki_yX1_add ks_yX1_add kn_X1 kc_yX1_add) ⟨rfl, rfl⟩ hd_X1_add (by rw [hR]; exact ⟨Nat.le_of_ble_eq_true rfl, Nat.le_of_ble_eq_true rfl⟩) rfl rfl rfl rfl hl.1 rfl (Nat.le_of_ble_eq_true rfl) ⟨Nat.zero_le _, Nat.zero_le _⟩ dX4_compose_29 rfl (fun H locs hW => ?_)
    refine lv_aload_n hx hb dX4_compose_32 rfl (lv_at hl 0 rfl) ?_
    refine gX4_writer S hW kf_X4_29 dX4_compose_33 ?_
    obtain ⟨z25, ez25, hf⟩ := bd_e hf
    replace hs := bd_s ez25 hs
    refine ct_V (As := []) (rest := []) (st1 := []) (q0 := 3) (ci := 1) S hA hW (c_X1_beginCount l D g z24 ez25) (wG_V km_X4_224 ki_yX1_beginCount ks_yX1_beginCount kn_X1 kc_yX1_beginCount) ⟨rfl, rfl⟩ hd_X1_beginCount (by rw [hR]; exact ⟨Nat.le_of_ble_eq_true rfl, Nat.le_of_ble_eq_true rfl⟩) rfl rfl rfl rfl hl.1 rfl (Nat.le_of_ble_eq_true rfl) ⟨Nat.zero_le _, Nat.zero_le _⟩ dX4_compose_36 rfl (fun H locs hW => ?_)
    refine lv_aload_n hx hb dX4_compose_39 rfl (lv_at hl 0 rfl) ?_
    refine gX4_writer S hW kf_X4_29 dX4_compose_40 ?_
    refine lv_iload hx hb dX4_compose_43 (lv_at hl 3 rfl) ?_
    obtain ⟨z26, ez26, hf⟩ := bd_e hf
    replace hs := bd_s ez26 hs
    refine ct_V (As := [.int y4]) (rest := []) (st1 := []) (q0 := 3) (ci := 1) S hA hW (c_X1_add l D g z25 y4 ez26) (wG_V km_X4_222 ki_yX1_add ks_yX1_add kn_X1 kc_yX1_add) ⟨rfl, rfl⟩ hd_X1_add (by rw [hR]; exact ⟨Nat.le_of_ble_eq_true rfl, Nat.le_of_ble_eq_true rfl⟩) rfl rfl rfl rfl hl.1 rfl (Nat.le_of_ble_eq_true rfl) ⟨Nat.zero_le _, Nat.zero_le _⟩ dX4_compose_45 rfl (fun H locs hW => ?_)
    refine lv_aload_n hx hb dX4_compose_48 rfl (lv_at hl 0 rfl) ?_
    refine gX4_writer S hW kf_X4_29 dX4_compose_49 ?_
    refine lv_aload_n hx hb dX4_compose_52 rfl (lv_at hl 0 rfl) ?_
    refine gX4_holdings S hW kf_X4_15 dX4_compose_53 ?_
    refine lv_iload_n hx hb dX4_compose_56 rfl (lv_at hl 1 rfl) ?_
    obtain ⟨r27, er27, hf⟩ := bd_e hf
    replace hs := bd_s er27 hs
    refine ct_V (As := [.int y2]) (rest := [.ref (g.1 3)]) (st1 := [.int r27.1, .ref (g.1 3)]) (q0 := 1) (ci := 2) S hA hW (c_X2_statusFor l D g z26 y2 er27) (wG_V km_X4_227 ki_yX2_statusFor ks_yX2_statusFor kn_X2 kc_yX2_statusFor) ⟨rfl, rfl⟩ hd_X2_statusFor (by rw [hR]; exact ⟨Nat.le_of_ble_eq_true rfl, Nat.le_of_ble_eq_true rfl⟩) rfl rfl rfl rfl hl.1 rfl (Nat.le_of_ble_eq_true rfl) ⟨Nat.zero_le _, Nat.zero_le _⟩ dX4_compose_57 rfl (fun H locs hW => ?_)
    obtain ⟨z28, ez28, hf⟩ := bd_e hf
    replace hs := bd_s ez28 hs
    refine ct_V (As := [.int r27.1]) (rest := []) (st1 := []) (q0 := 3) (ci := 1) S hA hW (c_X1_add l D g r27.2 r27.1 ez28) (wG_V km_X4_222 ki_yX1_add ks_yX1_add kn_X1 kc_yX1_add) ⟨rfl, rfl⟩ hd_X1_add (by rw [hR]; exact ⟨Nat.le_of_ble_eq_true rfl, Nat.le_of_ble_eq_true rfl⟩) rfl rfl rfl rfl hl.1 rfl (Nat.le_of_ble_eq_true rfl) ⟨Nat.zero_le _, Nat.zero_le _⟩ dX4_compose_60 rfl (fun H locs hW => ?_)
    refine lv_iload hx hb dX4_compose_63 (lv_at hl 3 rfl) ?_
    refine lv_if_ne (tgt := 73) hx hb dX4_compose_65 (by decide) (fun c29 => ?_) (fun c29 => ?_)
    · replace hf := if_f c29 hf
      replace hs := hs.2 c29
      refine lv_aload_n hx hb dX4_compose_73 rfl (lv_at hl 0 rfl) ?_
      refine gX4_writer S hW kf_X4_29 dX4_compose_74 ?_
      obtain ⟨q30, hs⟩ := hs
      obtain ⟨z31, ez31, hf⟩ := bd_e hf
      refine ct_V (As := []) (rest := []) (st1 := []) (q0 := 3) (ci := 1) S hA hW (c_X1_end l D g z28 ez31 q30) (wG_V km_X4_233 ki_yX1_end ks_yX1_end kn_X1 kc_yX1_end) ⟨rfl, rfl⟩ hd_X1_end (by rw [hR]; exact ⟨Nat.le_of_ble_eq_true rfl, Nat.le_of_ble_eq_true rfl⟩) rfl rfl rfl rfl hl.1 rfl (Nat.le_of_ble_eq_true rfl) ⟨Nat.zero_le _, Nat.zero_le _⟩ dX4_compose_77 rfl (fun H locs hW => ?_)
      subst hf
      exact ct_v S hr hlocks hW dX4_compose_80
    · replace hf := if_t c29 hf
      replace hs := hs.1 c29
      refine lv_aload_n hx hb dX4_compose_68 rfl (lv_at hl 0 rfl) ?_
      refine lv_iload_n hx hb dX4_compose_69 rfl (lv_at hl 2 rfl) ?_
      obtain ⟨q32, hs⟩ := hs
      obtain ⟨z33, ez33, hf⟩ := bd_e hf
      replace hs := bd_s ez33 hs
      refine ct_V (As := [.int y3]) (rest := []) (st1 := []) (q0 := 0) (ci := 4) S hA hW (c_X4_addData l D g z28 y3 ez33 q32) (wG_V km_X4_230 ki_yX4_addData ks_yX4_addData kn_X4 kc_yX4_addData) ⟨rfl, rfl⟩ hd_X4_addData (by rw [hR]; exact ⟨Nat.le_of_ble_eq_true rfl, Nat.le_of_ble_eq_true rfl⟩) rfl rfl rfl rfl hl.1 rfl (Nat.le_of_ble_eq_true rfl) ⟨Nat.zero_le _, Nat.zero_le _⟩ dX4_compose_70 rfl (fun H locs hW => ?_)
      refine lv_aload_n hx hb dX4_compose_73 rfl (lv_at hl 0 rfl) ?_
      refine gX4_writer S hW kf_X4_29 dX4_compose_74 ?_
      obtain ⟨q34, hs⟩ := hs
      obtain ⟨z35, ez35, hf⟩ := bd_e hf
      refine ct_V (As := []) (rest := []) (st1 := []) (q0 := 3) (ci := 1) S hA hW (c_X1_end l D g z33 ez35 q34) (wG_V km_X4_233 ki_yX1_end ks_yX1_end kn_X1 kc_yX1_end) ⟨rfl, rfl⟩ hd_X1_end (by rw [hR]; exact ⟨Nat.le_of_ble_eq_true rfl, Nat.le_of_ble_eq_true rfl⟩) rfl rfl rfl rfl hl.1 rfl (Nat.le_of_ble_eq_true rfl) ⟨Nat.zero_le _, Nat.zero_le _⟩ dX4_compose_77 rfl (fun H locs hW => ?_)
      subst hf
      exact ct_v S hr hlocks hW dX4_compose_80
  unfold f_X4_compose at hf
  unfold s_X4_compose at hs
  refine lv_aload_n hx hb dX4_compose_0 rfl (lv_at hl 0 rfl) ?_
  refine gX4_writer S hW kf_X4_29 dX4_compose_1 ?_
  refine lv_iload_n hx hb dX4_compose_4 rfl (lv_at hl 1 rfl) ?_
  obtain ⟨z21, ez21, hf⟩ := bd_e hf
  replace hs := bd_s ez21 hs
  refine ct_V (As := [.int x1]) (rest := []) (st1 := []) (q0 := 3) (ci := 1) S hA hW (c_X1_begin l D g z x1 ez21) (wG_V km_X4_215 ki_yX1_begin ks_yX1_begin kn_X1 kc_yX1_begin) ⟨rfl, rfl⟩ hd_X1_begin (by rw [hR]; exact ⟨Nat.le_of_ble_eq_true rfl, Nat.le_of_ble_eq_true rfl⟩) rfl rfl rfl rfl hl.1 rfl (Nat.le_of_ble_eq_true rfl) ⟨Nat.zero_le _, Nat.zero_le _⟩ dX4_compose_5 rfl (fun H locs hW => ?_)
  refine lv_aload_n hx hb dX4_compose_8 rfl (lv_at hl 0 rfl) ?_
  refine lv_iload_n hx hb dX4_compose_9 rfl (lv_at hl 1 rfl) ?_
  refine lv_bipush (v := 6) hx hb dX4_compose_10 (by decide) ?_
  refine lv_icmp_eq (tgt := 19) hx hb dX4_compose_12 (by decide) (fun c22 => ?_) (fun c22 => ?_)
  · replace hf := if_t c22 hf
    replace hs := hs.1 c22
    refine lv_iconst (v := 0) hx hb dX4_compose_19 (by decide) ?_
    exact J_20 z21 x2 x3 x4 0 _ _ ls hW (lv_sub hl [0, 2, 3, 4] rfl) hs hf
  · replace hf := if_f c22 hf
    replace hs := hs.2 c22
    refine lv_iconst (v := 1) hx hb dX4_compose_15 (by decide) ?_
    refine lv_goto (tgt := 20) hx hb dX4_compose_16 (by decide) ?_
    exact J_20 z21 x2 x3 x4 1 _ _ ls hW (lv_sub hl [0, 2, 3, 4] rfl) hs hf
