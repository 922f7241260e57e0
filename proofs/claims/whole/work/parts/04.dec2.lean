theorem dX4_init_0 : decode cX4_init 0 = .ok (.aload_n 0, 1) := by decide +kernel
theorem dX4_init_1 : decode cX4_init 1 = .ok (.invokespecial 1, 3) := by decide +kernel
theorem dX4_init_4 : decode cX4_init 4 = .ok (.aload_n 0, 1) := by decide +kernel
theorem dX4_init_5 : decode cX4_init 5 = .ok (.new 7, 3) := by decide +kernel
theorem dX4_init_8 : decode cX4_init 8 = .ok (.dup, 1) := by decide +kernel
theorem dX4_init_9 : decode cX4_init 9 = .ok (.iload_n 1, 1) := by decide +kernel
theorem dX4_init_10 : decode cX4_init 10 = .ok (.bipush 63, 2) := by decide +kernel
theorem dX4_init_12 : decode cX4_init 12 = .ok (.iand, 1) := by decide +kernel
theorem dX4_init_13 : decode cX4_init 13 = .ok (.iload_n 2, 1) := by decide +kernel
theorem dX4_init_14 : decode cX4_init 14 = .ok (.sipush 255, 3) := by decide +kernel
theorem dX4_init_17 : decode cX4_init 17 = .ok (.iand, 1) := by decide +kernel
theorem dX4_init_18 : decode cX4_init 18 = .ok (.iload_n 3, 1) := by decide +kernel
theorem dX4_init_19 : decode cX4_init 19 = .ok (.ldc 11, 2) := by decide +kernel
theorem dX4_init_21 : decode cX4_init 21 = .ok (.iand, 1) := by decide +kernel
theorem dX4_init_22 : decode cX4_init 22 = .ok (.invokespecial 12, 3) := by decide +kernel
theorem dX4_init_25 : decode cX4_init 25 = .ok (.putfield 15, 3) := by decide +kernel
theorem dX4_init_28 : decode cX4_init 28 = .ok (.aload_n 0, 1) := by decide +kernel
theorem dX4_init_29 : decode cX4_init 29 = .ok (.new 19, 3) := by decide +kernel
theorem dX4_init_32 : decode cX4_init 32 = .ok (.dup, 1) := by decide +kernel
theorem dX4_init_33 : decode cX4_init 33 = .ok (.invokespecial 21, 3) := by decide +kernel
theorem dX4_init_36 : decode cX4_init 36 = .ok (.putfield 22, 3) := by decide +kernel
theorem dX4_init_39 : decode cX4_init 39 = .ok (.aload_n 0, 1) := by decide +kernel
theorem dX4_init_40 : decode cX4_init 40 = .ok (.new 26, 3) := by decide +kernel
theorem dX4_init_43 : decode cX4_init 43 = .ok (.dup, 1) := by decide +kernel
theorem dX4_init_44 : decode cX4_init 44 = .ok (.invokespecial 28, 3) := by decide +kernel
theorem dX4_init_47 : decode cX4_init 47 = .ok (.putfield 29, 3) := by decide +kernel
theorem dX4_init_50 : decode cX4_init 50 = .ok (.aload_n 0, 1) := by decide +kernel
theorem dX4_init_51 : decode cX4_init 51 = .ok (.new 33, 3) := by decide +kernel
theorem dX4_init_54 : decode cX4_init 54 = .ok (.dup, 1) := by decide +kernel
theorem dX4_init_55 : decode cX4_init 55 = .ok (.invokespecial 35, 3) := by decide +kernel
theorem dX4_init_58 : decode cX4_init 58 = .ok (.putfield 36, 3) := by decide +kernel
theorem dX4_init_61 : decode cX4_init 61 = .ok (.return_, 1) := by decide +kernel
theorem dX4_octet_0 : decode cX4_octet 0 = .ok (.aload_n 0, 1) := by decide +kernel
theorem dX4_octet_1 : decode cX4_octet 1 = .ok (.iload_n 1, 1) := by decide +kernel
theorem dX4_octet_2 : decode cX4_octet 2 = .ok (.sipush 255, 3) := by decide +kernel
theorem dX4_octet_5 : decode cX4_octet 5 = .ok (.iand, 1) := by decide +kernel
theorem dX4_octet_6 : decode cX4_octet 6 = .ok (.invokevirtual 40, 3) := by decide +kernel
theorem dX4_octet_9 : decode cX4_octet 9 = .ok (.aload_n 0, 1) := by decide +kernel
theorem dX4_octet_10 : decode cX4_octet 10 = .ok (.getfield 36, 3) := by decide +kernel
theorem dX4_octet_13 : decode cX4_octet 13 = .ok (.getfield 44, 3) := by decide +kernel
theorem dX4_octet_16 : decode cX4_octet 16 = .ok (.ireturn, 1) := by decide +kernel
theorem dX4_octets_0 : decode cX4_octets 0 = .ok (.bipush 24, 2) := by decide +kernel
theorem dX4_octets_2 : decode cX4_octets 2 = .ok (.istore_n 2, 1) := by decide +kernel
theorem dX4_octets_3 : decode cX4_octets 3 = .ok (.iload_n 2, 1) := by decide +kernel
theorem dX4_octets_4 : decode cX4_octets 4 = .ok (.ifCond .lt 20, 3) := by decide +kernel
theorem dX4_octets_7 : decode cX4_octets 7 = .ok (.aload_n 0, 1) := by decide +kernel
theorem dX4_octets_8 : decode cX4_octets 8 = .ok (.iload_n 1, 1) := by decide +kernel
theorem dX4_octets_9 : decode cX4_octets 9 = .ok (.iload_n 2, 1) := by decide +kernel
theorem dX4_octets_10 : decode cX4_octets 10 = .ok (.iushr, 1) := by decide +kernel
theorem dX4_octets_11 : decode cX4_octets 11 = .ok (.sipush 255, 3) := by decide +kernel
theorem dX4_octets_14 : decode cX4_octets 14 = .ok (.iand, 1) := by decide +kernel
theorem dX4_octets_15 : decode cX4_octets 15 = .ok (.invokevirtual 40, 3) := by decide +kernel
theorem dX4_octets_18 : decode cX4_octets 18 = .ok (.iinc 2 (-8), 3) := by decide +kernel
theorem dX4_octets_21 : decode cX4_octets 21 = .ok (.goto (-18), 3) := by decide +kernel
theorem dX4_octets_24 : decode cX4_octets 24 = .ok (.aload_n 0, 1) := by decide +kernel
theorem dX4_octets_25 : decode cX4_octets 25 = .ok (.getfield 36, 3) := by decide +kernel
theorem dX4_octets_28 : decode cX4_octets 28 = .ok (.getfield 44, 3) := by decide +kernel
theorem dX4_octets_31 : decode cX4_octets 31 = .ok (.ireturn, 1) := by decide +kernel
theorem dX4_tick_0 : decode cX4_tick 0 = .ok (.iload_n 1, 1) := by decide +kernel
theorem dX4_tick_1 : decode cX4_tick 1 = .ok (.iconst 1, 1) := by decide +kernel
theorem dX4_tick_2 : decode cX4_tick 2 = .ok (.if_icmp .lt 10, 3) := by decide +kernel
theorem dX4_tick_5 : decode cX4_tick 5 = .ok (.iload_n 1, 1) := by decide +kernel
theorem dX4_tick_6 : decode cX4_tick 6 = .ok (.sipush 1000, 3) := by decide +kernel
theorem dX4_tick_9 : decode cX4_tick 9 = .ok (.if_icmp .le 5, 3) := by decide +kernel
theorem dX4_tick_12 : decode cX4_tick 12 = .ok (.iconst (-1), 1) := by decide +kernel
theorem dX4_tick_13 : decode cX4_tick 13 = .ok (.ireturn, 1) := by decide +kernel
theorem dX4_tick_14 : decode cX4_tick 14 = .ok (.iconst 0, 1) := by decide +kernel
theorem dX4_tick_15 : decode cX4_tick 15 = .ok (.istore_n 2, 1) := by decide +kernel
theorem dX4_tick_16 : decode cX4_tick 16 = .ok (.iload_n 2, 1) := by decide +kernel
theorem dX4_tick_17 : decode cX4_tick 17 = .ok (.iload_n 1, 1) := by decide +kernel
theorem dX4_tick_18 : decode cX4_tick 18 = .ok (.if_icmp .ge 14, 3) := by decide +kernel
theorem dX4_tick_21 : decode cX4_tick 21 = .ok (.aload_n 0, 1) := by decide +kernel
theorem dX4_tick_22 : decode cX4_tick 22 = .ok (.iconst (-1), 1) := by decide +kernel
theorem dX4_tick_23 : decode cX4_tick 23 = .ok (.invokevirtual 40, 3) := by decide +kernel
theorem dX4_tick_26 : decode cX4_tick 26 = .ok (.iinc 2 1, 3) := by decide +kernel
theorem dX4_tick_29 : decode cX4_tick 29 = .ok (.goto (-13), 3) := by decide +kernel
theorem dX4_tick_32 : decode cX4_tick 32 = .ok (.aload_n 0, 1) := by decide +kernel
theorem dX4_tick_33 : decode cX4_tick 33 = .ok (.getfield 36, 3) := by decide +kernel
theorem dX4_tick_36 : decode cX4_tick 36 = .ok (.getfield 44, 3) := by decide +kernel
theorem dX4_tick_39 : decode cX4_tick 39 = .ok (.ireturn, 1) := by decide +kernel
theorem dX4_sent_0 : decode cX4_sent 0 = .ok (.aload_n 0, 1) := by decide +kernel
theorem dX4_sent_1 : decode cX4_sent 1 = .ok (.getfield 36, 3) := by decide +kernel
theorem dX4_sent_4 : decode cX4_sent 4 = .ok (.iload_n 1, 1) := by decide +kernel
theorem dX4_sent_5 : decode cX4_sent 5 = .ok (.invokevirtual 48, 3) := by decide +kernel
theorem dX4_sent_8 : decode cX4_sent 8 = .ok (.ireturn, 1) := by decide +kernel
theorem dX4_when_0 : decode cX4_when 0 = .ok (.aload_n 0, 1) := by decide +kernel
theorem dX4_when_1 : decode cX4_when 1 = .ok (.getfield 36, 3) := by decide +kernel
theorem dX4_when_4 : decode cX4_when 4 = .ok (.iload_n 1, 1) := by decide +kernel
theorem dX4_when_5 : decode cX4_when 5 = .ok (.invokevirtual 52, 3) := by decide +kernel
theorem dX4_when_8 : decode cX4_when 8 = .ok (.ireturn, 1) := by decide +kernel
theorem dX4_variable_0 : decode cX4_variable 0 = .ok (.iload_n 1, 1) := by decide +kernel
theorem dX4_variable_1 : decode cX4_variable 1 = .ok (.ifCond .lt 8, 3) := by decide +kernel
theorem dX4_variable_4 : decode cX4_variable 4 = .ok (.iload_n 1, 1) := by decide +kernel
theorem dX4_variable_5 : decode cX4_variable 5 = .ok (.iconst 4, 1) := by decide +kernel
theorem dX4_variable_6 : decode cX4_variable 6 = .ok (.if_icmp .lt 7, 3) := by decide +kernel
theorem dX4_variable_9 : decode cX4_variable 9 = .ok (.ldc2_w 55, 3) := by decide +kernel
theorem dX4_variable_12 : decode cX4_variable 12 = .ok (.lreturn, 1) := by decide +kernel
theorem dX4_variable_13 : decode cX4_variable 13 = .ok (.aload_n 0, 1) := by decide +kernel
theorem dX4_variable_14 : decode cX4_variable 14 = .ok (.getfield 15, 3) := by decide +kernel
theorem dX4_variable_17 : decode cX4_variable 17 = .ok (.iload_n 1, 1) := by decide +kernel
theorem dX4_variable_18 : decode cX4_variable 18 = .ok (.invokevirtual 57, 3) := by decide +kernel
theorem dX4_variable_21 : decode cX4_variable 21 = .ok (.i2l, 1) := by decide +kernel
theorem dX4_variable_22 : decode cX4_variable 22 = .ok (.lstore_n 3, 1) := by decide +kernel
theorem dX4_variable_23 : decode cX4_variable 23 = .ok (.aload_n 0, 1) := by decide +kernel
theorem dX4_variable_24 : decode cX4_variable 24 = .ok (.getfield 15, 3) := by decide +kernel
theorem dX4_variable_27 : decode cX4_variable 27 = .ok (.iload_n 1, 1) := by decide +kernel
theorem dX4_variable_28 : decode cX4_variable 28 = .ok (.iload_n 2, 1) := by decide +kernel
theorem dX4_variable_29 : decode cX4_variable 29 = .ok (.invokevirtual 60, 3) := by decide +kernel
theorem dX4_variable_32 : decode cX4_variable 32 = .ok (.lload_n 3, 1) := by decide +kernel
theorem dX4_variable_33 : decode cX4_variable 33 = .ok (.lreturn, 1) := by decide +kernel
theorem dX4_failure_0 : decode cX4_failure 0 = .ok (.aload_n 0, 1) := by decide +kernel
theorem dX4_failure_1 : decode cX4_failure 1 = .ok (.getfield 15, 3) := by decide +kernel
theorem dX4_failure_4 : decode cX4_failure 4 = .ok (.getfield 64, 3) := by decide +kernel
theorem dX4_failure_7 : decode cX4_failure 7 = .ok (.iload_n 1, 1) := by decide +kernel
theorem dX4_failure_8 : decode cX4_failure 8 = .ok (.if_icmp .ne 5, 3) := by decide +kernel
theorem dX4_failure_11 : decode cX4_failure 11 = .ok (.iconst 0, 1) := by decide +kernel
theorem dX4_failure_12 : decode cX4_failure 12 = .ok (.ireturn, 1) := by decide +kernel
theorem dX4_failure_13 : decode cX4_failure 13 = .ok (.aload_n 0, 1) := by decide +kernel
theorem dX4_failure_14 : decode cX4_failure 14 = .ok (.getfield 15, 3) := by decide +kernel
theorem dX4_failure_17 : decode cX4_failure 17 = .ok (.iload_n 1, 1) := by decide +kernel
theorem dX4_failure_18 : decode cX4_failure 18 = .ok (.putfield 64, 3) := by decide +kernel
theorem dX4_failure_21 : decode cX4_failure 21 = .ok (.iconst 1, 1) := by decide +kernel
theorem dX4_failure_22 : decode cX4_failure 22 = .ok (.ireturn, 1) := by decide +kernel
theorem dX4_has_0 : decode cX4_has 0 = .ok (.iload_n 1, 1) := by decide +kernel
theorem dX4_has_1 : decode cX4_has 1 = .ok (.tableswitch 140 0 9 #[55, 64, 73, 82, 91, 107, 116, 122, 128, 134], 55) := by decide +kernel
theorem dX4_has_56 : decode cX4_has 56 = .ok (.aload_n 0, 1) := by decide +kernel
theorem dX4_has_57 : decode cX4_has 57 = .ok (.getfield 15, 3) := by decide +kernel
theorem dX4_has_60 : decode cX4_has 60 = .ok (.getfield 68, 3) := by decide +kernel
theorem dX4_has_63 : decode cX4_has 63 = .ok (.i2l, 1) := by decide +kernel
theorem dX4_has_64 : decode cX4_has 64 = .ok (.lreturn, 1) := by decide +kernel
theorem dX4_has_65 : decode cX4_has 65 = .ok (.aload_n 0, 1) := by decide +kernel
theorem dX4_has_66 : decode cX4_has 66 = .ok (.getfield 15, 3) := by decide +kernel
theorem dX4_has_69 : decode cX4_has 69 = .ok (.getfield 71, 3) := by decide +kernel
theorem dX4_has_72 : decode cX4_has 72 = .ok (.i2l, 1) := by decide +kernel
theorem dX4_has_73 : decode cX4_has 73 = .ok (.lreturn, 1) := by decide +kernel
theorem dX4_has_74 : decode cX4_has 74 = .ok (.aload_n 0, 1) := by decide +kernel
theorem dX4_has_75 : decode cX4_has 75 = .ok (.getfield 15, 3) := by decide +kernel
theorem dX4_has_78 : decode cX4_has 78 = .ok (.getfield 74, 3) := by decide +kernel
theorem dX4_has_81 : decode cX4_has 81 = .ok (.i2l, 1) := by decide +kernel
theorem dX4_has_82 : decode cX4_has 82 = .ok (.lreturn, 1) := by decide +kernel
theorem dX4_has_83 : decode cX4_has 83 = .ok (.aload_n 0, 1) := by decide +kernel
theorem dX4_has_84 : decode cX4_has 84 = .ok (.getfield 15, 3) := by decide +kernel
theorem dX4_has_87 : decode cX4_has 87 = .ok (.getfield 77, 3) := by decide +kernel
theorem dX4_has_90 : decode cX4_has 90 = .ok (.i2l, 1) := by decide +kernel
theorem dX4_has_91 : decode cX4_has 91 = .ok (.lreturn, 1) := by decide +kernel
theorem dX4_has_92 : decode cX4_has 92 = .ok (.aload_n 0, 1) := by decide +kernel
theorem dX4_has_93 : decode cX4_has 93 = .ok (.getfield 15, 3) := by decide +kernel
theorem dX4_has_96 : decode cX4_has 96 = .ok (.getfield 80, 3) := by decide +kernel
theorem dX4_has_99 : decode cX4_has 99 = .ok (.ifCond .eq 7, 3) := by decide +kernel
theorem dX4_has_102 : decode cX4_has 102 = .ok (.lconst 1, 1) := by decide +kernel
theorem dX4_has_103 : decode cX4_has 103 = .ok (.goto 4, 3) := by decide +kernel
theorem dX4_has_106 : decode cX4_has 106 = .ok (.lconst 0, 1) := by decide +kernel
theorem dX4_has_107 : decode cX4_has 107 = .ok (.lreturn, 1) := by decide +kernel
theorem dX4_has_108 : decode cX4_has 108 = .ok (.aload_n 0, 1) := by decide +kernel
theorem dX4_has_109 : decode cX4_has 109 = .ok (.getfield 15, 3) := by decide +kernel
theorem dX4_has_112 : decode cX4_has 112 = .ok (.getfield 83, 3) := by decide +kernel
theorem dX4_has_115 : decode cX4_has 115 = .ok (.i2l, 1) := by decide +kernel
theorem dX4_has_116 : decode cX4_has 116 = .ok (.lreturn, 1) := by decide +kernel
theorem dX4_has_117 : decode cX4_has 117 = .ok (.aload_n 0, 1) := by decide +kernel
theorem dX4_has_118 : decode cX4_has 118 = .ok (.getfield 86, 3) := by decide +kernel
theorem dX4_has_121 : decode cX4_has 121 = .ok (.i2l, 1) := by decide +kernel
theorem dX4_has_122 : decode cX4_has 122 = .ok (.lreturn, 1) := by decide +kernel
theorem dX4_has_123 : decode cX4_has 123 = .ok (.aload_n 0, 1) := by decide +kernel
theorem dX4_has_124 : decode cX4_has 124 = .ok (.getfield 89, 3) := by decide +kernel
theorem dX4_has_127 : decode cX4_has 127 = .ok (.i2l, 1) := by decide +kernel
theorem dX4_has_128 : decode cX4_has 128 = .ok (.lreturn, 1) := by decide +kernel
theorem dX4_has_129 : decode cX4_has 129 = .ok (.aload_n 0, 1) := by decide +kernel
theorem dX4_has_130 : decode cX4_has 130 = .ok (.getfield 92, 3) := by decide +kernel
theorem dX4_has_133 : decode cX4_has 133 = .ok (.i2l, 1) := by decide +kernel
theorem dX4_has_134 : decode cX4_has 134 = .ok (.lreturn, 1) := by decide +kernel
theorem dX4_has_135 : decode cX4_has 135 = .ok (.aload_n 0, 1) := by decide +kernel
theorem dX4_has_136 : decode cX4_has 136 = .ok (.getfield 95, 3) := by decide +kernel
theorem dX4_has_139 : decode cX4_has 139 = .ok (.i2l, 1) := by decide +kernel
theorem dX4_has_140 : decode cX4_has 140 = .ok (.lreturn, 1) := by decide +kernel
theorem dX4_has_141 : decode cX4_has 141 = .ok (.ldc2_w 55, 3) := by decide +kernel
theorem dX4_has_144 : decode cX4_has 144 = .ok (.lreturn, 1) := by decide +kernel
theorem dX4_tag_0 : decode cX4_tag 0 = .ok (.aload_n 0, 1) := by decide +kernel
theorem dX4_tag_1 : decode cX4_tag 1 = .ok (.getfield 15, 3) := by decide +kernel
theorem dX4_tag_4 : decode cX4_tag 4 = .ok (.iload_n 1, 1) := by decide +kernel
theorem dX4_tag_5 : decode cX4_tag 5 = .ok (.invokevirtual 98, 3) := by decide +kernel
theorem dX4_tag_8 : decode cX4_tag 8 = .ok (.ireturn, 1) := by decide +kernel
theorem dX4_now_0 : decode cX4_now 0 = .ok (.aload_n 0, 1) := by decide +kernel
theorem dX4_now_1 : decode cX4_now 1 = .ok (.getfield 101, 3) := by decide +kernel
theorem dX4_now_4 : decode cX4_now 4 = .ok (.ireturn, 1) := by decide +kernel
theorem dX4_passTick_0 : decode cX4_passTick 0 = .ok (.aload_n 0, 1) := by decide +kernel
theorem dX4_passTick_1 : decode cX4_passTick 1 = .ok (.invokevirtual 104, 3) := by decide +kernel
theorem dX4_passTick_4 : decode cX4_passTick 4 = .ok (.ifCond .eq 7, 3) := by decide +kernel
theorem dX4_passTick_7 : decode cX4_passTick 7 = .ok (.aload_n 0, 1) := by decide +kernel
theorem dX4_passTick_8 : decode cX4_passTick 8 = .ok (.invokevirtual 108, 3) := by decide +kernel
theorem dX4_passTick_11 : decode cX4_passTick 11 = .ok (.aload_n 0, 1) := by decide +kernel
theorem dX4_passTick_12 : decode cX4_passTick 12 = .ok (.getfield 29, 3) := by decide +kernel
theorem dX4_passTick_15 : decode cX4_passTick 15 = .ok (.invokevirtual 111, 3) := by decide +kernel
theorem dX4_passTick_18 : decode cX4_passTick 18 = .ok (.istore_n 2, 1) := by decide +kernel
theorem dX4_passTick_19 : decode cX4_passTick 19 = .ok (.aload_n 0, 1) := by decide +kernel
theorem dX4_passTick_20 : decode cX4_passTick 20 = .ok (.getfield 29, 3) := by decide +kernel
theorem dX4_passTick_23 : decode cX4_passTick 23 = .ok (.invokevirtual 114, 3) := by decide +kernel
theorem dX4_passTick_26 : decode cX4_passTick 26 = .ok (.istore_n 3, 1) := by decide +kernel
theorem dX4_passTick_27 : decode cX4_passTick 27 = .ok (.iload_n 3, 1) := by decide +kernel
theorem dX4_passTick_28 : decode cX4_passTick 28 = .ok (.iconst (-1), 1) := by decide +kernel
theorem dX4_passTick_29 : decode cX4_passTick 29 = .ok (.if_icmp .eq 15, 3) := by decide +kernel
theorem dX4_passTick_32 : decode cX4_passTick 32 = .ok (.aload_n 0, 1) := by decide +kernel
theorem dX4_passTick_33 : decode cX4_passTick 33 = .ok (.getfield 36, 3) := by decide +kernel
theorem dX4_passTick_36 : decode cX4_passTick 36 = .ok (.iload_n 3, 1) := by decide +kernel
theorem dX4_passTick_37 : decode cX4_passTick 37 = .ok (.aload_n 0, 1) := by decide +kernel
theorem dX4_passTick_38 : decode cX4_passTick 38 = .ok (.getfield 101, 3) := by decide +kernel
theorem dX4_passTick_41 : decode cX4_passTick 41 = .ok (.invokevirtual 118, 3) := by decide +kernel
theorem dX4_passTick_44 : decode cX4_passTick 44 = .ok (.iload_n 2, 1) := by decide +kernel
theorem dX4_passTick_45 : decode cX4_passTick 45 = .ok (.ifCond .ne 8, 3) := by decide +kernel
theorem dX4_passTick_48 : decode cX4_passTick 48 = .ok (.iload_n 1, 1) := by decide +kernel
theorem dX4_passTick_49 : decode cX4_passTick 49 = .ok (.iconst (-1), 1) := by decide +kernel
theorem dX4_passTick_50 : decode cX4_passTick 50 = .ok (.if_icmp .ne 13, 3) := by decide +kernel
theorem dX4_passTick_53 : decode cX4_passTick 53 = .ok (.aload_n 0, 1) := by decide +kernel
theorem dX4_passTick_54 : decode cX4_passTick 54 = .ok (.getfield 22, 3) := by decide +kernel
theorem dX4_passTick_57 : decode cX4_passTick 57 = .ok (.invokevirtual 121, 3) := by decide +kernel
theorem dX4_passTick_60 : decode cX4_passTick 60 = .ok (.goto 25, 3) := by decide +kernel
theorem dX4_passTick_63 : decode cX4_passTick 63 = .ok (.aload_n 0, 1) := by decide +kernel
theorem dX4_passTick_64 : decode cX4_passTick 64 = .ok (.getfield 22, 3) := by decide +kernel
theorem dX4_passTick_67 : decode cX4_passTick 67 = .ok (.iload_n 1, 1) := by decide +kernel
theorem dX4_passTick_68 : decode cX4_passTick 68 = .ok (.invokevirtual 124, 3) := by decide +kernel
theorem dX4_passTick_71 : decode cX4_passTick 71 = .ok (.ifCond .eq 14, 3) := by decide +kernel
theorem dX4_passTick_74 : decode cX4_passTick 74 = .ok (.aload_n 0, 1) := by decide +kernel
theorem dX4_passTick_75 : decode cX4_passTick 75 = .ok (.invokevirtual 128, 3) := by decide +kernel
theorem dX4_passTick_78 : decode cX4_passTick 78 = .ok (.ifCond .eq 7, 3) := by decide +kernel
theorem dX4_passTick_81 : decode cX4_passTick 81 = .ok (.aload_n 0, 1) := by decide +kernel
theorem dX4_passTick_82 : decode cX4_passTick 82 = .ok (.invokevirtual 131, 3) := by decide +kernel
theorem dX4_passTick_85 : decode cX4_passTick 85 = .ok (.aload_n 0, 1) := by decide +kernel
theorem dX4_passTick_86 : decode cX4_passTick 86 = .ok (.iload_n 1, 1) := by decide +kernel
theorem dX4_passTick_87 : decode cX4_passTick 87 = .ok (.iconst (-1), 1) := by decide +kernel
theorem dX4_passTick_88 : decode cX4_passTick 88 = .ok (.if_icmp .ne 17, 3) := by decide +kernel
theorem dX4_passTick_91 : decode cX4_passTick 91 = .ok (.iload_n 3, 1) := by decide +kernel
theorem dX4_passTick_92 : decode cX4_passTick 92 = .ok (.iconst (-1), 1) := by decide +kernel
theorem dX4_passTick_93 : decode cX4_passTick 93 = .ok (.if_icmp .ne 12, 3) := by decide +kernel
theorem dX4_passTick_96 : decode cX4_passTick 96 = .ok (.aload_n 0, 1) := by decide +kernel
theorem dX4_passTick_97 : decode cX4_passTick 97 = .ok (.getfield 134, 3) := by decide +kernel
theorem dX4_passTick_100 : decode cX4_passTick 100 = .ok (.iconst 1, 1) := by decide +kernel
theorem dX4_passTick_101 : decode cX4_passTick 101 = .ok (.iadd, 1) := by decide +kernel
theorem dX4_passTick_102 : decode cX4_passTick 102 = .ok (.goto 4, 3) := by decide +kernel
theorem dX4_passTick_105 : decode cX4_passTick 105 = .ok (.iconst 0, 1) := by decide +kernel
theorem dX4_passTick_106 : decode cX4_passTick 106 = .ok (.putfield 134, 3) := by decide +kernel
theorem dX4_passTick_109 : decode cX4_passTick 109 = .ok (.aload_n 0, 1) := by decide +kernel
theorem dX4_passTick_110 : decode cX4_passTick 110 = .ok (.dup, 1) := by decide +kernel
theorem dX4_passTick_111 : decode cX4_passTick 111 = .ok (.getfield 101, 3) := by decide +kernel
theorem dX4_passTick_114 : decode cX4_passTick 114 = .ok (.iconst 1, 1) := by decide +kernel
theorem dX4_passTick_115 : decode cX4_passTick 115 = .ok (.iadd, 1) := by decide +kernel
theorem dX4_passTick_116 : decode cX4_passTick 116 = .ok (.putfield 101, 3) := by decide +kernel
theorem dX4_passTick_119 : decode cX4_passTick 119 = .ok (.return_, 1) := by decide +kernel
theorem dX4_burstIsDue_0 : decode cX4_burstIsDue 0 = .ok (.aload_n 0, 1) := by decide +kernel
theorem dX4_burstIsDue_1 : decode cX4_burstIsDue 1 = .ok (.getfield 15, 3) := by decide +kernel
theorem dX4_burstIsDue_4 : decode cX4_burstIsDue 4 = .ok (.getfield 80, 3) := by decide +kernel
theorem dX4_burstIsDue_7 : decode cX4_burstIsDue 7 = .ok (.ifCond .eq 26, 3) := by decide +kernel
theorem dX4_burstIsDue_10 : decode cX4_burstIsDue 10 = .ok (.aload_n 0, 1) := by decide +kernel
theorem dX4_burstIsDue_11 : decode cX4_burstIsDue 11 = .ok (.getfield 134, 3) := by decide +kernel
theorem dX4_burstIsDue_14 : decode cX4_burstIsDue 14 = .ok (.bipush 8, 2) := by decide +kernel
theorem dX4_burstIsDue_16 : decode cX4_burstIsDue 16 = .ok (.if_icmp .lt 17, 3) := by decide +kernel
theorem dX4_burstIsDue_19 : decode cX4_burstIsDue 19 = .ok (.aload_n 0, 1) := by decide +kernel
theorem dX4_burstIsDue_20 : decode cX4_burstIsDue 20 = .ok (.getfield 29, 3) := by decide +kernel
theorem dX4_burstIsDue_23 : decode cX4_burstIsDue 23 = .ok (.invokevirtual 111, 3) := by decide +kernel
theorem dX4_burstIsDue_26 : decode cX4_burstIsDue 26 = .ok (.ifCond .ne 7, 3) := by decide +kernel
theorem dX4_burstIsDue_29 : decode cX4_burstIsDue 29 = .ok (.iconst 1, 1) := by decide +kernel
theorem dX4_burstIsDue_30 : decode cX4_burstIsDue 30 = .ok (.goto 4, 3) := by decide +kernel
theorem dX4_burstIsDue_33 : decode cX4_burstIsDue 33 = .ok (.iconst 0, 1) := by decide +kernel
theorem dX4_burstIsDue_34 : decode cX4_burstIsDue 34 = .ok (.ireturn, 1) := by decide +kernel
theorem dX4_beginBurst_0 : decode cX4_beginBurst 0 = .ok (.aload_n 0, 1) := by decide +kernel
theorem dX4_beginBurst_1 : decode cX4_beginBurst 1 = .ok (.dup, 1) := by decide +kernel
theorem dX4_beginBurst_2 : decode cX4_beginBurst 2 = .ok (.getfield 89, 3) := by decide +kernel
theorem dX4_beginBurst_5 : decode cX4_beginBurst 5 = .ok (.iconst 1, 1) := by decide +kernel
theorem dX4_beginBurst_6 : decode cX4_beginBurst 6 = .ok (.iadd, 1) := by decide +kernel
theorem dX4_beginBurst_7 : decode cX4_beginBurst 7 = .ok (.putfield 89, 3) := by decide +kernel
theorem dX4_beginBurst_10 : decode cX4_beginBurst 10 = .ok (.aload_n 0, 1) := by decide +kernel
theorem dX4_beginBurst_11 : decode cX4_beginBurst 11 = .ok (.sipush 129, 3) := by decide +kernel
theorem dX4_beginBurst_14 : decode cX4_beginBurst 14 = .ok (.aload_n 0, 1) := by decide +kernel
theorem dX4_beginBurst_15 : decode cX4_beginBurst 15 = .ok (.getfield 137, 3) := by decide +kernel
theorem dX4_beginBurst_18 : decode cX4_beginBurst 18 = .ok (.aload_n 0, 1) := by decide +kernel
theorem dX4_beginBurst_19 : decode cX4_beginBurst 19 = .ok (.getfield 15, 3) := by decide +kernel
theorem dX4_beginBurst_22 : decode cX4_beginBurst 22 = .ok (.getfield 83, 3) := by decide +kernel
theorem dX4_beginBurst_25 : decode cX4_beginBurst 25 = .ok (.iconst 0, 1) := by decide +kernel
theorem dX4_beginBurst_26 : decode cX4_beginBurst 26 = .ok (.invokevirtual 140, 3) := by decide +kernel
theorem dX4_beginBurst_29 : decode cX4_beginBurst 29 = .ok (.aload_n 0, 1) := by decide +kernel
theorem dX4_beginBurst_30 : decode cX4_beginBurst 30 = .ok (.iconst 1, 1) := by decide +kernel
theorem dX4_beginBurst_31 : decode cX4_beginBurst 31 = .ok (.aload_n 0, 1) := by decide +kernel
theorem dX4_beginBurst_32 : decode cX4_beginBurst 32 = .ok (.getfield 137, 3) := by decide +kernel
theorem dX4_beginBurst_35 : decode cX4_beginBurst 35 = .ok (.isub, 1) := by decide +kernel
theorem dX4_beginBurst_36 : decode cX4_beginBurst 36 = .ok (.putfield 137, 3) := by decide +kernel
theorem dX4_beginBurst_39 : decode cX4_beginBurst 39 = .ok (.return_, 1) := by decide +kernel
theorem dX4_countFrame_0 : decode cX4_countFrame 0 = .ok (.aload_n 0, 1) := by decide +kernel
theorem dX4_countFrame_1 : decode cX4_countFrame 1 = .ok (.getfield 22, 3) := by decide +kernel
theorem dX4_countFrame_4 : decode cX4_countFrame 4 = .ok (.getfield 144, 3) := by decide +kernel
theorem dX4_countFrame_7 : decode cX4_countFrame 7 = .ok (.ifCond .eq 14, 3) := by decide +kernel
theorem dX4_countFrame_10 : decode cX4_countFrame 10 = .ok (.aload_n 0, 1) := by decide +kernel
theorem dX4_countFrame_11 : decode cX4_countFrame 11 = .ok (.invokevirtual 147, 3) := by decide +kernel
theorem dX4_countFrame_14 : decode cX4_countFrame 14 = .ok (.ifCond .eq 7, 3) := by decide +kernel
theorem dX4_countFrame_17 : decode cX4_countFrame 17 = .ok (.iconst 1, 1) := by decide +kernel
theorem dX4_countFrame_18 : decode cX4_countFrame 18 = .ok (.goto 4, 3) := by decide +kernel
theorem dX4_countFrame_21 : decode cX4_countFrame 21 = .ok (.iconst 0, 1) := by decide +kernel
theorem dX4_countFrame_22 : decode cX4_countFrame 22 = .ok (.istore_n 1, 1) := by decide +kernel
theorem dX4_countFrame_23 : decode cX4_countFrame 23 = .ok (.iload_n 1, 1) := by decide +kernel
theorem dX4_countFrame_24 : decode cX4_countFrame 24 = .ok (.ifCond .eq 16, 3) := by decide +kernel
theorem dX4_countFrame_27 : decode cX4_countFrame 27 = .ok (.aload_n 0, 1) := by decide +kernel
theorem dX4_countFrame_28 : decode cX4_countFrame 28 = .ok (.dup, 1) := by decide +kernel
theorem dX4_countFrame_29 : decode cX4_countFrame 29 = .ok (.getfield 92, 3) := by decide +kernel
theorem dX4_countFrame_32 : decode cX4_countFrame 32 = .ok (.iconst 1, 1) := by decide +kernel
theorem dX4_countFrame_33 : decode cX4_countFrame 33 = .ok (.iadd, 1) := by decide +kernel
theorem dX4_countFrame_34 : decode cX4_countFrame 34 = .ok (.putfield 92, 3) := by decide +kernel
theorem dX4_countFrame_37 : decode cX4_countFrame 37 = .ok (.goto 13, 3) := by decide +kernel
theorem dX4_countFrame_40 : decode cX4_countFrame 40 = .ok (.aload_n 0, 1) := by decide +kernel
theorem dX4_countFrame_41 : decode cX4_countFrame 41 = .ok (.dup, 1) := by decide +kernel
theorem dX4_countFrame_42 : decode cX4_countFrame 42 = .ok (.getfield 95, 3) := by decide +kernel
theorem dX4_countFrame_45 : decode cX4_countFrame 45 = .ok (.iconst 1, 1) := by decide +kernel
theorem dX4_countFrame_46 : decode cX4_countFrame 46 = .ok (.iadd, 1) := by decide +kernel
theorem dX4_countFrame_47 : decode cX4_countFrame 47 = .ok (.putfield 95, 3) := by decide +kernel
theorem dX4_countFrame_50 : decode cX4_countFrame 50 = .ok (.iload_n 1, 1) := by decide +kernel
theorem dX4_countFrame_51 : decode cX4_countFrame 51 = .ok (.ireturn, 1) := by decide +kernel
theorem dX4_isForDevice_0 : decode cX4_isForDevice 0 = .ok (.aload_n 0, 1) := by decide +kernel
theorem dX4_isForDevice_1 : decode cX4_isForDevice 1 = .ok (.getfield 22, 3) := by decide +kernel
theorem dX4_isForDevice_4 : decode cX4_isForDevice 4 = .ok (.getfield 150, 3) := by decide +kernel
theorem dX4_isForDevice_7 : decode cX4_isForDevice 7 = .ok (.ifCond .ne 26, 3) := by decide +kernel
theorem dX4_isForDevice_10 : decode cX4_isForDevice 10 = .ok (.aload_n 0, 1) := by decide +kernel
theorem dX4_isForDevice_11 : decode cX4_isForDevice 11 = .ok (.getfield 22, 3) := by decide +kernel
theorem dX4_isForDevice_14 : decode cX4_isForDevice 14 = .ok (.invokevirtual 153, 3) := by decide +kernel
theorem dX4_isForDevice_17 : decode cX4_isForDevice 17 = .ok (.aload_n 0, 1) := by decide +kernel
theorem dX4_isForDevice_18 : decode cX4_isForDevice 18 = .ok (.getfield 15, 3) := by decide +kernel
theorem dX4_isForDevice_21 : decode cX4_isForDevice 21 = .ok (.getfield 68, 3) := by decide +kernel
theorem dX4_isForDevice_24 : decode cX4_isForDevice 24 = .ok (.if_icmp .ne 7, 3) := by decide +kernel
theorem dX4_isForDevice_27 : decode cX4_isForDevice 27 = .ok (.iconst 1, 1) := by decide +kernel
theorem dX4_isForDevice_28 : decode cX4_isForDevice 28 = .ok (.goto 4, 3) := by decide +kernel
theorem dX4_isForDevice_31 : decode cX4_isForDevice 31 = .ok (.iconst 0, 1) := by decide +kernel
theorem dX4_isForDevice_32 : decode cX4_isForDevice 32 = .ok (.ireturn, 1) := by decide +kernel
theorem dX4_isForDevice_33 : decode cX4_isForDevice 33 = .ok (.aload_n 0, 1) := by decide +kernel
theorem dX4_isForDevice_34 : decode cX4_isForDevice 34 = .ok (.invokevirtual 156, 3) := by decide +kernel
theorem dX4_isForDevice_37 : decode cX4_isForDevice 37 = .ok (.ifCond .ne 34, 3) := by decide +kernel
theorem dX4_isForDevice_40 : decode cX4_isForDevice 40 = .ok (.aload_n 0, 1) := by decide +kernel
theorem dX4_isForDevice_41 : decode cX4_isForDevice 41 = .ok (.getfield 15, 3) := by decide +kernel
theorem dX4_isForDevice_44 : decode cX4_isForDevice 44 = .ok (.aload_n 0, 1) := by decide +kernel
theorem dX4_isForDevice_45 : decode cX4_isForDevice 45 = .ok (.getfield 22, 3) := by decide +kernel
theorem dX4_isForDevice_48 : decode cX4_isForDevice 48 = .ok (.invokevirtual 153, 3) := by decide +kernel
theorem dX4_isForDevice_51 : decode cX4_isForDevice 51 = .ok (.aload_n 0, 1) := by decide +kernel
theorem dX4_isForDevice_52 : decode cX4_isForDevice 52 = .ok (.getfield 22, 3) := by decide +kernel
theorem dX4_isForDevice_55 : decode cX4_isForDevice 55 = .ok (.invokevirtual 159, 3) := by decide +kernel
theorem dX4_isForDevice_58 : decode cX4_isForDevice 58 = .ok (.aload_n 0, 1) := by decide +kernel
theorem dX4_isForDevice_59 : decode cX4_isForDevice 59 = .ok (.getfield 22, 3) := by decide +kernel
theorem dX4_isForDevice_62 : decode cX4_isForDevice 62 = .ok (.invokevirtual 162, 3) := by decide +kernel
theorem dX4_isForDevice_65 : decode cX4_isForDevice 65 = .ok (.invokevirtual 165, 3) := by decide +kernel
theorem dX4_isForDevice_68 : decode cX4_isForDevice 68 = .ok (.ifCond .eq 7, 3) := by decide +kernel
theorem dX4_isForDevice_71 : decode cX4_isForDevice 71 = .ok (.iconst 1, 1) := by decide +kernel
theorem dX4_isForDevice_72 : decode cX4_isForDevice 72 = .ok (.goto 4, 3) := by decide +kernel
theorem dX4_isForDevice_75 : decode cX4_isForDevice 75 = .ok (.iconst 0, 1) := by decide +kernel
theorem dX4_isForDevice_76 : decode cX4_isForDevice 76 = .ok (.ireturn, 1) := by decide +kernel
theorem dX4_isBroadcast_0 : decode cX4_isBroadcast 0 = .ok (.aload_n 0, 1) := by decide +kernel
theorem dX4_isBroadcast_1 : decode cX4_isBroadcast 1 = .ok (.getfield 22, 3) := by decide +kernel
theorem dX4_isBroadcast_4 : decode cX4_isBroadcast 4 = .ok (.getfield 150, 3) := by decide +kernel
theorem dX4_isBroadcast_7 : decode cX4_isBroadcast 7 = .ok (.ifCond .eq 49, 3) := by decide +kernel
theorem dX4_isBroadcast_10 : decode cX4_isBroadcast 10 = .ok (.aload_n 0, 1) := by decide +kernel
theorem dX4_isBroadcast_11 : decode cX4_isBroadcast 11 = .ok (.getfield 22, 3) := by decide +kernel
theorem dX4_isBroadcast_14 : decode cX4_isBroadcast 14 = .ok (.getfield 169, 3) := by decide +kernel
theorem dX4_isBroadcast_17 : decode cX4_isBroadcast 17 = .ok (.bipush 11, 2) := by decide +kernel
theorem dX4_isBroadcast_19 : decode cX4_isBroadcast 19 = .ok (.if_icmp .ne 37, 3) := by decide +kernel
theorem dX4_isBroadcast_22 : decode cX4_isBroadcast 22 = .ok (.aload_n 0, 1) := by decide +kernel
theorem dX4_isBroadcast_23 : decode cX4_isBroadcast 23 = .ok (.getfield 22, 3) := by decide +kernel
theorem dX4_isBroadcast_26 : decode cX4_isBroadcast 26 = .ok (.invokevirtual 153, 3) := by decide +kernel
theorem dX4_isBroadcast_29 : decode cX4_isBroadcast 29 = .ok (.ifCond .ne 27, 3) := by decide +kernel
theorem dX4_isBroadcast_32 : decode cX4_isBroadcast 32 = .ok (.aload_n 0, 1) := by decide +kernel
theorem dX4_isBroadcast_33 : decode cX4_isBroadcast 33 = .ok (.getfield 22, 3) := by decide +kernel
theorem dX4_isBroadcast_36 : decode cX4_isBroadcast 36 = .ok (.invokevirtual 159, 3) := by decide +kernel
theorem dX4_isBroadcast_39 : decode cX4_isBroadcast 39 = .ok (.ifCond .ne 17, 3) := by decide +kernel
theorem dX4_isBroadcast_42 : decode cX4_isBroadcast 42 = .ok (.aload_n 0, 1) := by decide +kernel
theorem dX4_isBroadcast_43 : decode cX4_isBroadcast 43 = .ok (.getfield 22, 3) := by decide +kernel
theorem dX4_isBroadcast_46 : decode cX4_isBroadcast 46 = .ok (.invokevirtual 162, 3) := by decide +kernel
theorem dX4_isBroadcast_49 : decode cX4_isBroadcast 49 = .ok (.ifCond .ne 7, 3) := by decide +kernel
theorem dX4_isBroadcast_52 : decode cX4_isBroadcast 52 = .ok (.iconst 1, 1) := by decide +kernel
theorem dX4_isBroadcast_53 : decode cX4_isBroadcast 53 = .ok (.goto 4, 3) := by decide +kernel
theorem dX4_isBroadcast_56 : decode cX4_isBroadcast 56 = .ok (.iconst 0, 1) := by decide +kernel
theorem dX4_isBroadcast_57 : decode cX4_isBroadcast 57 = .ok (.ireturn, 1) := by decide +kernel
theorem dX4_answerFrame_0 : decode cX4_answerFrame 0 = .ok (.aload_n 0, 1) := by decide +kernel
theorem dX4_answerFrame_1 : decode cX4_answerFrame 1 = .ok (.invokevirtual 172, 3) := by decide +kernel
theorem dX4_answerFrame_4 : decode cX4_answerFrame 4 = .ok (.istore_n 1, 1) := by decide +kernel
theorem dX4_answerFrame_5 : decode cX4_answerFrame 5 = .ok (.iload_n 1, 1) := by decide +kernel
theorem dX4_answerFrame_6 : decode cX4_answerFrame 6 = .ok (.ifCond .eq 11, 3) := by decide +kernel
theorem dX4_answerFrame_9 : decode cX4_answerFrame 9 = .ok (.aload_n 0, 1) := by decide +kernel
theorem dX4_answerFrame_10 : decode cX4_answerFrame 10 = .ok (.invokevirtual 156, 3) := by decide +kernel
theorem dX4_answerFrame_13 : decode cX4_answerFrame 13 = .ok (.ifCond .eq 4, 3) := by decide +kernel
theorem dX4_answerFrame_16 : decode cX4_answerFrame 16 = .ok (.return_, 1) := by decide +kernel
theorem dX4_answerFrame_17 : decode cX4_answerFrame 17 = .ok (.aload_n 0, 1) := by decide +kernel
theorem dX4_answerFrame_18 : decode cX4_answerFrame 18 = .ok (.dup, 1) := by decide +kernel
theorem dX4_answerFrame_19 : decode cX4_answerFrame 19 = .ok (.getfield 86, 3) := by decide +kernel
theorem dX4_answerFrame_22 : decode cX4_answerFrame 22 = .ok (.iconst 1, 1) := by decide +kernel
theorem dX4_answerFrame_23 : decode cX4_answerFrame 23 = .ok (.iadd, 1) := by decide +kernel
theorem dX4_answerFrame_24 : decode cX4_answerFrame 24 = .ok (.putfield 86, 3) := by decide +kernel
theorem dX4_answerFrame_27 : decode cX4_answerFrame 27 = .ok (.aload_n 0, 1) := by decide +kernel
theorem dX4_answerFrame_28 : decode cX4_answerFrame 28 = .ok (.getfield 22, 3) := by decide +kernel
theorem dX4_answerFrame_31 : decode cX4_answerFrame 31 = .ok (.invokevirtual 175, 3) := by decide +kernel
theorem dX4_answerFrame_34 : decode cX4_answerFrame 34 = .ok (.istore_n 2, 1) := by decide +kernel
theorem dX4_answerFrame_35 : decode cX4_answerFrame 35 = .ok (.iload_n 1, 1) := by decide +kernel
theorem dX4_answerFrame_36 : decode cX4_answerFrame 36 = .ok (.ifCond .ne 15, 3) := by decide +kernel
theorem dX4_answerFrame_39 : decode cX4_answerFrame 39 = .ok (.aload_n 0, 1) := by decide +kernel
theorem dX4_answerFrame_40 : decode cX4_answerFrame 40 = .ok (.aload_n 0, 1) := by decide +kernel
theorem dX4_answerFrame_41 : decode cX4_answerFrame 41 = .ok (.getfield 22, 3) := by decide +kernel
theorem dX4_answerFrame_44 : decode cX4_answerFrame 44 = .ok (.getfield 169, 3) := by decide +kernel
theorem dX4_answerFrame_47 : decode cX4_answerFrame 47 = .ok (.iload_n 2, 1) := by decide +kernel
theorem dX4_answerFrame_48 : decode cX4_answerFrame 48 = .ok (.invokevirtual 178, 3) := by decide +kernel
theorem dX4_answerFrame_51 : decode cX4_answerFrame 51 = .ok (.aload_n 0, 1) := by decide +kernel
theorem dX4_answerFrame_52 : decode cX4_answerFrame 52 = .ok (.aload_n 0, 1) := by decide +kernel
theorem dX4_answerFrame_53 : decode cX4_answerFrame 53 = .ok (.getfield 22, 3) := by decide +kernel
theorem dX4_answerFrame_56 : decode cX4_answerFrame 56 = .ok (.getfield 150, 3) := by decide +kernel
theorem dX4_answerFrame_59 : decode cX4_answerFrame 59 = .ok (.ifCond .eq 9, 3) := by decide +kernel
theorem dX4_answerFrame_62 : decode cX4_answerFrame 62 = .ok (.sipush 134, 3) := by decide +kernel
theorem dX4_answerFrame_65 : decode cX4_answerFrame 65 = .ok (.goto 5, 3) := by decide +kernel
theorem dX4_answerFrame_68 : decode cX4_answerFrame 68 = .ok (.bipush 6, 2) := by decide +kernel
theorem dX4_answerFrame_70 : decode cX4_answerFrame 70 = .ok (.iload_n 2, 1) := by decide +kernel
theorem dX4_answerFrame_71 : decode cX4_answerFrame 71 = .ok (.aload_n 0, 1) := by decide +kernel
theorem dX4_answerFrame_72 : decode cX4_answerFrame 72 = .ok (.getfield 22, 3) := by decide +kernel
theorem dX4_answerFrame_75 : decode cX4_answerFrame 75 = .ok (.getfield 169, 3) := by decide +kernel
theorem dX4_answerFrame_78 : decode cX4_answerFrame 78 = .ok (.iload_n 1, 1) := by decide +kernel
theorem dX4_answerFrame_79 : decode cX4_answerFrame 79 = .ok (.invokevirtual 140, 3) := by decide +kernel
theorem dX4_answerFrame_82 : decode cX4_answerFrame 82 = .ok (.aload_n 0, 1) := by decide +kernel
theorem dX4_answerFrame_83 : decode cX4_answerFrame 83 = .ok (.getfield 29, 3) := by decide +kernel
theorem dX4_answerFrame_86 : decode cX4_answerFrame 86 = .ok (.invokevirtual 181, 3) := by decide +kernel
theorem dX4_answerFrame_89 : decode cX4_answerFrame 89 = .ok (.aload_n 0, 1) := by decide +kernel
theorem dX4_answerFrame_90 : decode cX4_answerFrame 90 = .ok (.getfield 15, 3) := by decide +kernel
theorem dX4_answerFrame_93 : decode cX4_answerFrame 93 = .ok (.dup, 1) := by decide +kernel
theorem dX4_answerFrame_94 : decode cX4_answerFrame 94 = .ok (.getfield 184, 3) := by decide +kernel
theorem dX4_answerFrame_97 : decode cX4_answerFrame 97 = .ok (.iconst 1, 1) := by decide +kernel
theorem dX4_answerFrame_98 : decode cX4_answerFrame 98 = .ok (.iload_n 2, 1) := by decide +kernel
theorem dX4_answerFrame_99 : decode cX4_answerFrame 99 = .ok (.ishl, 1) := by decide +kernel
theorem dX4_answerFrame_100 : decode cX4_answerFrame 100 = .ok (.iconst (-1), 1) := by decide +kernel
theorem dX4_answerFrame_101 : decode cX4_answerFrame 101 = .ok (.ixor, 1) := by decide +kernel
theorem dX4_answerFrame_102 : decode cX4_answerFrame 102 = .ok (.iand, 1) := by decide +kernel
theorem dX4_answerFrame_103 : decode cX4_answerFrame 103 = .ok (.putfield 184, 3) := by decide +kernel
theorem dX4_answerFrame_106 : decode cX4_answerFrame 106 = .ok (.return_, 1) := by decide +kernel
theorem dX4_countOfCommand_0 : decode cX4_countOfCommand 0 = .ok (.iload_n 0, 1) := by decide +kernel
theorem dX4_countOfCommand_1 : decode cX4_countOfCommand 1 = .ok (.lookupswitch 125 #[(0, 115), (1, 115), (2, 115), (3, 115), (6, 117), (11, 119), (13, 115), (18, 119), (35, 122), (38, 115), (48, 115), (108, 117), (109, 117)], 115) := by decide +kernel
theorem dX4_countOfCommand_116 : decode cX4_countOfCommand 116 = .ok (.iconst 0, 1) := by decide +kernel
theorem dX4_countOfCommand_117 : decode cX4_countOfCommand 117 = .ok (.ireturn, 1) := by decide +kernel
theorem dX4_countOfCommand_118 : decode cX4_countOfCommand 118 = .ok (.iconst 1, 1) := by decide +kernel
theorem dX4_countOfCommand_119 : decode cX4_countOfCommand 119 = .ok (.ireturn, 1) := by decide +kernel
theorem dX4_countOfCommand_120 : decode cX4_countOfCommand 120 = .ok (.bipush 6, 2) := by decide +kernel
theorem dX4_countOfCommand_122 : decode cX4_countOfCommand 122 = .ok (.ireturn, 1) := by decide +kernel
theorem dX4_countOfCommand_123 : decode cX4_countOfCommand 123 = .ok (.bipush 9, 2) := by decide +kernel
theorem dX4_countOfCommand_125 : decode cX4_countOfCommand 125 = .ok (.ireturn, 1) := by decide +kernel
theorem dX4_countOfCommand_126 : decode cX4_countOfCommand 126 = .ok (.iconst (-1), 1) := by decide +kernel
theorem dX4_countOfCommand_127 : decode cX4_countOfCommand 127 = .ok (.ireturn, 1) := by decide +kernel
theorem dX4_codeOfFrame_0 : decode cX4_codeOfFrame 0 = .ok (.aload_n 0, 1) := by decide +kernel
theorem dX4_codeOfFrame_1 : decode cX4_codeOfFrame 1 = .ok (.getfield 22, 3) := by decide +kernel
theorem dX4_codeOfFrame_4 : decode cX4_codeOfFrame 4 = .ok (.getfield 169, 3) := by decide +kernel
theorem dX4_codeOfFrame_7 : decode cX4_codeOfFrame 7 = .ok (.invokestatic 187, 3) := by decide +kernel
theorem dX4_codeOfFrame_10 : decode cX4_codeOfFrame 10 = .ok (.istore_n 1, 1) := by decide +kernel
theorem dX4_codeOfFrame_11 : decode cX4_codeOfFrame 11 = .ok (.iload_n 1, 1) := by decide +kernel
theorem dX4_codeOfFrame_12 : decode cX4_codeOfFrame 12 = .ok (.iconst (-1), 1) := by decide +kernel
theorem dX4_codeOfFrame_13 : decode cX4_codeOfFrame 13 = .ok (.if_icmp .ne 6, 3) := by decide +kernel
theorem dX4_codeOfFrame_16 : decode cX4_codeOfFrame 16 = .ok (.bipush 64, 2) := by decide +kernel
theorem dX4_codeOfFrame_18 : decode cX4_codeOfFrame 18 = .ok (.ireturn, 1) := by decide +kernel
theorem dX4_codeOfFrame_19 : decode cX4_codeOfFrame 19 = .ok (.aload_n 0, 1) := by decide +kernel
theorem dX4_codeOfFrame_20 : decode cX4_codeOfFrame 20 = .ok (.getfield 22, 3) := by decide +kernel
theorem dX4_codeOfFrame_23 : decode cX4_codeOfFrame 23 = .ok (.getfield 190, 3) := by decide +kernel
theorem dX4_codeOfFrame_26 : decode cX4_codeOfFrame 26 = .ok (.iload_n 1, 1) := by decide +kernel
theorem dX4_codeOfFrame_27 : decode cX4_codeOfFrame 27 = .ok (.if_icmp .eq 5, 3) := by decide +kernel
theorem dX4_codeOfFrame_30 : decode cX4_codeOfFrame 30 = .ok (.iconst 5, 1) := by decide +kernel
theorem dX4_codeOfFrame_31 : decode cX4_codeOfFrame 31 = .ok (.ireturn, 1) := by decide +kernel
theorem dX4_codeOfFrame_32 : decode cX4_codeOfFrame 32 = .ok (.aload_n 0, 1) := by decide +kernel
theorem dX4_codeOfFrame_33 : decode cX4_codeOfFrame 33 = .ok (.getfield 22, 3) := by decide +kernel
theorem dX4_codeOfFrame_36 : decode cX4_codeOfFrame 36 = .ok (.iconst 0, 1) := by decide +kernel
theorem dX4_codeOfFrame_37 : decode cX4_codeOfFrame 37 = .ok (.invokevirtual 193, 3) := by decide +kernel
theorem dX4_codeOfFrame_40 : decode cX4_codeOfFrame 40 = .ok (.istore_n 2, 1) := by decide +kernel
theorem dX4_codeOfFrame_41 : decode cX4_codeOfFrame 41 = .ok (.aload_n 0, 1) := by decide +kernel
theorem dX4_codeOfFrame_42 : decode cX4_codeOfFrame 42 = .ok (.getfield 22, 3) := by decide +kernel
theorem dX4_codeOfFrame_45 : decode cX4_codeOfFrame 45 = .ok (.getfield 169, 3) := by decide +kernel
theorem dX4_codeOfFrame_48 : decode cX4_codeOfFrame 48 = .ok (.lookupswitch 125 #[(6, 52), (11, 64), (35, 78), (108, 98), (109, 114)], 52) := by decide +kernel
theorem dX4_codeOfFrame_100 : decode cX4_codeOfFrame 100 = .ok (.iload_n 2, 1) := by decide +kernel
theorem dX4_codeOfFrame_101 : decode cX4_codeOfFrame 101 = .ok (.bipush 15, 2) := by decide +kernel
theorem dX4_codeOfFrame_103 : decode cX4_codeOfFrame 103 = .ok (.if_icmp .le 7, 3) := by decide +kernel
theorem dX4_codeOfFrame_106 : decode cX4_codeOfFrame 106 = .ok (.iconst 2, 1) := by decide +kernel
theorem dX4_codeOfFrame_107 : decode cX4_codeOfFrame 107 = .ok (.goto 4, 3) := by decide +kernel
theorem dX4_codeOfFrame_110 : decode cX4_codeOfFrame 110 = .ok (.iconst 0, 1) := by decide +kernel
theorem dX4_codeOfFrame_111 : decode cX4_codeOfFrame 111 = .ok (.ireturn, 1) := by decide +kernel
theorem dX4_codeOfFrame_112 : decode cX4_codeOfFrame 112 = .ok (.aload_n 0, 1) := by decide +kernel
theorem dX4_codeOfFrame_113 : decode cX4_codeOfFrame 113 = .ok (.invokevirtual 196, 3) := by decide +kernel
theorem dX4_codeOfFrame_116 : decode cX4_codeOfFrame 116 = .ok (.ifCond .eq 7, 3) := by decide +kernel
theorem dX4_codeOfFrame_119 : decode cX4_codeOfFrame 119 = .ok (.iconst 0, 1) := by decide +kernel
theorem dX4_codeOfFrame_120 : decode cX4_codeOfFrame 120 = .ok (.goto 5, 3) := by decide +kernel
theorem dX4_codeOfFrame_123 : decode cX4_codeOfFrame 123 = .ok (.bipush 65, 2) := by decide +kernel
theorem dX4_codeOfFrame_125 : decode cX4_codeOfFrame 125 = .ok (.ireturn, 1) := by decide +kernel
theorem dX4_codeOfFrame_126 : decode cX4_codeOfFrame 126 = .ok (.aload_n 0, 1) := by decide +kernel
theorem dX4_codeOfFrame_127 : decode cX4_codeOfFrame 127 = .ok (.getfield 22, 3) := by decide +kernel
theorem dX4_codeOfFrame_130 : decode cX4_codeOfFrame 130 = .ok (.iconst 1, 1) := by decide +kernel
theorem dX4_codeOfFrame_131 : decode cX4_codeOfFrame 131 = .ok (.invokevirtual 199, 3) := by decide +kernel
theorem dX4_codeOfFrame_134 : decode cX4_codeOfFrame 134 = .ok (.aload_n 0, 1) := by decide +kernel
theorem dX4_codeOfFrame_135 : decode cX4_codeOfFrame 135 = .ok (.getfield 22, 3) := by decide +kernel
theorem dX4_codeOfFrame_138 : decode cX4_codeOfFrame 138 = .ok (.iconst 5, 1) := by decide +kernel
theorem dX4_codeOfFrame_139 : decode cX4_codeOfFrame 139 = .ok (.invokevirtual 199, 3) := by decide +kernel
theorem dX4_codeOfFrame_142 : decode cX4_codeOfFrame 142 = .ok (.invokestatic 202, 3) := by decide +kernel
theorem dX4_codeOfFrame_145 : decode cX4_codeOfFrame 145 = .ok (.ireturn, 1) := by decide +kernel
theorem dX4_codeOfFrame_146 : decode cX4_codeOfFrame 146 = .ok (.iload_n 2, 1) := by decide +kernel
theorem dX4_codeOfFrame_147 : decode cX4_codeOfFrame 147 = .ok (.iconst 1, 1) := by decide +kernel
theorem dX4_codeOfFrame_148 : decode cX4_codeOfFrame 148 = .ok (.if_icmp .lt 8, 3) := by decide +kernel
theorem dX4_codeOfFrame_151 : decode cX4_codeOfFrame 151 = .ok (.iload_n 2, 1) := by decide +kernel
theorem dX4_codeOfFrame_152 : decode cX4_codeOfFrame 152 = .ok (.iconst 3, 1) := by decide +kernel
theorem dX4_codeOfFrame_153 : decode cX4_codeOfFrame 153 = .ok (.if_icmp .le 7, 3) := by decide +kernel
theorem dX4_codeOfFrame_156 : decode cX4_codeOfFrame 156 = .ok (.iconst 2, 1) := by decide +kernel
theorem dX4_codeOfFrame_157 : decode cX4_codeOfFrame 157 = .ok (.goto 4, 3) := by decide +kernel
theorem dX4_codeOfFrame_160 : decode cX4_codeOfFrame 160 = .ok (.iconst 0, 1) := by decide +kernel
theorem dX4_codeOfFrame_161 : decode cX4_codeOfFrame 161 = .ok (.ireturn, 1) := by decide +kernel
theorem dX4_codeOfFrame_162 : decode cX4_codeOfFrame 162 = .ok (.iload_n 2, 1) := by decide +kernel
theorem dX4_codeOfFrame_163 : decode cX4_codeOfFrame 163 = .ok (.iconst 1, 1) := by decide +kernel
theorem dX4_codeOfFrame_164 : decode cX4_codeOfFrame 164 = .ok (.if_icmp .le 7, 3) := by decide +kernel
theorem dX4_codeOfFrame_167 : decode cX4_codeOfFrame 167 = .ok (.iconst 2, 1) := by decide +kernel
theorem dX4_codeOfFrame_168 : decode cX4_codeOfFrame 168 = .ok (.goto 4, 3) := by decide +kernel
theorem dX4_codeOfFrame_171 : decode cX4_codeOfFrame 171 = .ok (.iconst 0, 1) := by decide +kernel
theorem dX4_codeOfFrame_172 : decode cX4_codeOfFrame 172 = .ok (.ireturn, 1) := by decide +kernel
theorem dX4_codeOfFrame_173 : decode cX4_codeOfFrame 173 = .ok (.iconst 0, 1) := by decide +kernel
theorem dX4_codeOfFrame_174 : decode cX4_codeOfFrame 174 = .ok (.ireturn, 1) := by decide +kernel
theorem dX4_codeOfEnds_0 : decode cX4_codeOfEnds 0 = .ok (.iload_n 0, 1) := by decide +kernel
theorem dX4_codeOfEnds_1 : decode cX4_codeOfEnds 1 = .ok (.iload_n 1, 1) := by decide +kernel
theorem dX4_codeOfEnds_2 : decode cX4_codeOfEnds 2 = .ok (.if_icmp .ne 6, 3) := by decide +kernel
theorem dX4_codeOfEnds_5 : decode cX4_codeOfEnds 5 = .ok (.bipush 9, 2) := by decide +kernel
theorem dX4_codeOfEnds_7 : decode cX4_codeOfEnds 7 = .ok (.ireturn, 1) := by decide +kernel
theorem dX4_codeOfEnds_8 : decode cX4_codeOfEnds 8 = .ok (.iload_n 0, 1) := by decide +kernel
theorem dX4_codeOfEnds_9 : decode cX4_codeOfEnds 9 = .ok (.iload_n 1, 1) := by decide +kernel
theorem dX4_codeOfEnds_10 : decode cX4_codeOfEnds 10 = .ok (.if_icmp .ge 8, 3) := by decide +kernel
theorem dX4_codeOfEnds_13 : decode cX4_codeOfEnds 13 = .ok (.bipush 11, 2) := by decide +kernel
theorem dX4_codeOfEnds_15 : decode cX4_codeOfEnds 15 = .ok (.goto 4, 3) := by decide +kernel
theorem dX4_codeOfEnds_18 : decode cX4_codeOfEnds 18 = .ok (.iconst 0, 1) := by decide +kernel
theorem dX4_codeOfEnds_19 : decode cX4_codeOfEnds 19 = .ok (.ireturn, 1) := by decide +kernel
theorem dX4_tagIsInFrame_0 : decode cX4_tagIsInFrame 0 = .ok (.iconst 0, 1) := by decide +kernel
theorem dX4_tagIsInFrame_1 : decode cX4_tagIsInFrame 1 = .ok (.istore_n 1, 1) := by decide +kernel
theorem dX4_tagIsInFrame_2 : decode cX4_tagIsInFrame 2 = .ok (.iload_n 1, 1) := by decide +kernel
theorem dX4_tagIsInFrame_3 : decode cX4_tagIsInFrame 3 = .ok (.bipush 6, 2) := by decide +kernel
theorem dX4_tagIsInFrame_5 : decode cX4_tagIsInFrame 5 = .ok (.if_icmp .ge 30, 3) := by decide +kernel
theorem dX4_tagIsInFrame_8 : decode cX4_tagIsInFrame 8 = .ok (.aload_n 0, 1) := by decide +kernel
theorem dX4_tagIsInFrame_9 : decode cX4_tagIsInFrame 9 = .ok (.getfield 22, 3) := by decide +kernel
theorem dX4_tagIsInFrame_12 : decode cX4_tagIsInFrame 12 = .ok (.iload_n 1, 1) := by decide +kernel
theorem dX4_tagIsInFrame_13 : decode cX4_tagIsInFrame 13 = .ok (.invokevirtual 193, 3) := by decide +kernel
theorem dX4_tagIsInFrame_16 : decode cX4_tagIsInFrame 16 = .ok (.aload_n 0, 1) := by decide +kernel
theorem dX4_tagIsInFrame_17 : decode cX4_tagIsInFrame 17 = .ok (.getfield 15, 3) := by decide +kernel
theorem dX4_tagIsInFrame_20 : decode cX4_tagIsInFrame 20 = .ok (.iload_n 1, 1) := by decide +kernel
theorem dX4_tagIsInFrame_21 : decode cX4_tagIsInFrame 21 = .ok (.invokevirtual 98, 3) := by decide +kernel
theorem dX4_tagIsInFrame_24 : decode cX4_tagIsInFrame 24 = .ok (.if_icmp .eq 5, 3) := by decide +kernel
theorem dX4_tagIsInFrame_27 : decode cX4_tagIsInFrame 27 = .ok (.iconst 0, 1) := by decide +kernel
theorem dX4_tagIsInFrame_28 : decode cX4_tagIsInFrame 28 = .ok (.ireturn, 1) := by decide +kernel
theorem dX4_tagIsInFrame_29 : decode cX4_tagIsInFrame 29 = .ok (.iinc 1 1, 3) := by decide +kernel
theorem dX4_tagIsInFrame_32 : decode cX4_tagIsInFrame 32 = .ok (.goto (-30), 3) := by decide +kernel
theorem dX4_tagIsInFrame_35 : decode cX4_tagIsInFrame 35 = .ok (.iconst 1, 1) := by decide +kernel
theorem dX4_tagIsInFrame_36 : decode cX4_tagIsInFrame 36 = .ok (.ireturn, 1) := by decide +kernel
theorem dX4_carryOut_0 : decode cX4_carryOut 0 = .ok (.iload_n 1, 1) := by decide +kernel
theorem dX4_carryOut_1 : decode cX4_carryOut 1 = .ok (.lookupswitch 223 #[(6, 59), (18, 77), (35, 110), (38, 203), (108, 158), (109, 176)], 59) := by decide +kernel
theorem dX4_carryOut_60 : decode cX4_carryOut 60 = .ok (.aload_n 0, 1) := by decide +kernel
theorem dX4_carryOut_61 : decode cX4_carryOut 61 = .ok (.getfield 15, 3) := by decide +kernel
theorem dX4_carryOut_64 : decode cX4_carryOut 64 = .ok (.aload_n 0, 1) := by decide +kernel
theorem dX4_carryOut_65 : decode cX4_carryOut 65 = .ok (.getfield 22, 3) := by decide +kernel
theorem dX4_carryOut_68 : decode cX4_carryOut 68 = .ok (.iconst 0, 1) := by decide +kernel
theorem dX4_carryOut_69 : decode cX4_carryOut 69 = .ok (.invokevirtual 193, 3) := by decide +kernel
theorem dX4_carryOut_72 : decode cX4_carryOut 72 = .ok (.putfield 68, 3) := by decide +kernel
theorem dX4_carryOut_75 : decode cX4_carryOut 75 = .ok (.goto 149, 3) := by decide +kernel
theorem dX4_carryOut_78 : decode cX4_carryOut 78 = .ok (.iconst 0, 1) := by decide +kernel
theorem dX4_carryOut_79 : decode cX4_carryOut 79 = .ok (.istore_n 3, 1) := by decide +kernel
theorem dX4_carryOut_80 : decode cX4_carryOut 80 = .ok (.iload_n 3, 1) := by decide +kernel
theorem dX4_carryOut_81 : decode cX4_carryOut 81 = .ok (.bipush 6, 2) := by decide +kernel
theorem dX4_carryOut_83 : decode cX4_carryOut 83 = .ok (.if_icmp .ge 25, 3) := by decide +kernel
theorem dX4_carryOut_86 : decode cX4_carryOut 86 = .ok (.aload_n 0, 1) := by decide +kernel
theorem dX4_carryOut_87 : decode cX4_carryOut 87 = .ok (.getfield 15, 3) := by decide +kernel
theorem dX4_carryOut_90 : decode cX4_carryOut 90 = .ok (.iload_n 3, 1) := by decide +kernel
theorem dX4_carryOut_91 : decode cX4_carryOut 91 = .ok (.aload_n 0, 1) := by decide +kernel
theorem dX4_carryOut_92 : decode cX4_carryOut 92 = .ok (.getfield 22, 3) := by decide +kernel
theorem dX4_carryOut_95 : decode cX4_carryOut 95 = .ok (.iload_n 3, 1) := by decide +kernel
theorem dX4_carryOut_96 : decode cX4_carryOut 96 = .ok (.invokevirtual 193, 3) := by decide +kernel
theorem dX4_carryOut_99 : decode cX4_carryOut 99 = .ok (.invokevirtual 206, 3) := by decide +kernel
theorem dX4_carryOut_102 : decode cX4_carryOut 102 = .ok (.iinc 3 1, 3) := by decide +kernel
theorem dX4_carryOut_105 : decode cX4_carryOut 105 = .ok (.goto (-25), 3) := by decide +kernel
theorem dX4_carryOut_108 : decode cX4_carryOut 108 = .ok (.goto 116, 3) := by decide +kernel
theorem dX4_carryOut_111 : decode cX4_carryOut 111 = .ok (.aload_n 0, 1) := by decide +kernel
theorem dX4_carryOut_112 : decode cX4_carryOut 112 = .ok (.getfield 15, 3) := by decide +kernel
theorem dX4_carryOut_115 : decode cX4_carryOut 115 = .ok (.aload_n 0, 1) := by decide +kernel
theorem dX4_carryOut_116 : decode cX4_carryOut 116 = .ok (.getfield 22, 3) := by decide +kernel
theorem dX4_carryOut_119 : decode cX4_carryOut 119 = .ok (.iconst 0, 1) := by decide +kernel
theorem dX4_carryOut_120 : decode cX4_carryOut 120 = .ok (.invokevirtual 193, 3) := by decide +kernel
theorem dX4_carryOut_123 : decode cX4_carryOut 123 = .ok (.putfield 71, 3) := by decide +kernel
theorem dX4_carryOut_126 : decode cX4_carryOut 126 = .ok (.aload_n 0, 1) := by decide +kernel
theorem dX4_carryOut_127 : decode cX4_carryOut 127 = .ok (.getfield 15, 3) := by decide +kernel
theorem dX4_carryOut_130 : decode cX4_carryOut 130 = .ok (.aload_n 0, 1) := by decide +kernel
theorem dX4_carryOut_131 : decode cX4_carryOut 131 = .ok (.getfield 22, 3) := by decide +kernel
theorem dX4_carryOut_134 : decode cX4_carryOut 134 = .ok (.iconst 1, 1) := by decide +kernel
theorem dX4_carryOut_135 : decode cX4_carryOut 135 = .ok (.invokevirtual 199, 3) := by decide +kernel
theorem dX4_carryOut_138 : decode cX4_carryOut 138 = .ok (.putfield 77, 3) := by decide +kernel
theorem dX4_carryOut_141 : decode cX4_carryOut 141 = .ok (.aload_n 0, 1) := by decide +kernel
theorem dX4_carryOut_142 : decode cX4_carryOut 142 = .ok (.getfield 15, 3) := by decide +kernel
theorem dX4_carryOut_145 : decode cX4_carryOut 145 = .ok (.aload_n 0, 1) := by decide +kernel
theorem dX4_carryOut_146 : decode cX4_carryOut 146 = .ok (.getfield 22, 3) := by decide +kernel
theorem dX4_carryOut_149 : decode cX4_carryOut 149 = .ok (.iconst 5, 1) := by decide +kernel
theorem dX4_carryOut_150 : decode cX4_carryOut 150 = .ok (.invokevirtual 199, 3) := by decide +kernel
theorem dX4_carryOut_153 : decode cX4_carryOut 153 = .ok (.putfield 74, 3) := by decide +kernel
theorem dX4_carryOut_156 : decode cX4_carryOut 156 = .ok (.goto 68, 3) := by decide +kernel
theorem dX4_carryOut_159 : decode cX4_carryOut 159 = .ok (.aload_n 0, 1) := by decide +kernel
theorem dX4_carryOut_160 : decode cX4_carryOut 160 = .ok (.getfield 15, 3) := by decide +kernel
theorem dX4_carryOut_163 : decode cX4_carryOut 163 = .ok (.aload_n 0, 1) := by decide +kernel
theorem dX4_carryOut_164 : decode cX4_carryOut 164 = .ok (.getfield 22, 3) := by decide +kernel
theorem dX4_carryOut_167 : decode cX4_carryOut 167 = .ok (.iconst 0, 1) := by decide +kernel
theorem dX4_carryOut_168 : decode cX4_carryOut 168 = .ok (.invokevirtual 193, 3) := by decide +kernel
theorem dX4_carryOut_171 : decode cX4_carryOut 171 = .ok (.putfield 83, 3) := by decide +kernel
theorem dX4_carryOut_174 : decode cX4_carryOut 174 = .ok (.goto 50, 3) := by decide +kernel
theorem dX4_carryOut_177 : decode cX4_carryOut 177 = .ok (.aload_n 0, 1) := by decide +kernel
theorem dX4_carryOut_178 : decode cX4_carryOut 178 = .ok (.getfield 15, 3) := by decide +kernel
theorem dX4_carryOut_181 : decode cX4_carryOut 181 = .ok (.aload_n 0, 1) := by decide +kernel
theorem dX4_carryOut_182 : decode cX4_carryOut 182 = .ok (.getfield 22, 3) := by decide +kernel
theorem dX4_carryOut_185 : decode cX4_carryOut 185 = .ok (.iconst 0, 1) := by decide +kernel
theorem dX4_carryOut_186 : decode cX4_carryOut 186 = .ok (.invokevirtual 193, 3) := by decide +kernel
theorem dX4_carryOut_189 : decode cX4_carryOut 189 = .ok (.iconst 1, 1) := by decide +kernel
theorem dX4_carryOut_190 : decode cX4_carryOut 190 = .ok (.if_icmp .ne 7, 3) := by decide +kernel
theorem dX4_carryOut_193 : decode cX4_carryOut 193 = .ok (.iconst 1, 1) := by decide +kernel
theorem dX4_carryOut_194 : decode cX4_carryOut 194 = .ok (.goto 4, 3) := by decide +kernel
theorem dX4_carryOut_197 : decode cX4_carryOut 197 = .ok (.iconst 0, 1) := by decide +kernel
theorem dX4_carryOut_198 : decode cX4_carryOut 198 = .ok (.putfield 80, 3) := by decide +kernel
theorem dX4_carryOut_201 : decode cX4_carryOut 201 = .ok (.goto 23, 3) := by decide +kernel
theorem dX4_carryOut_204 : decode cX4_carryOut 204 = .ok (.aload_n 0, 1) := by decide +kernel
theorem dX4_carryOut_205 : decode cX4_carryOut 205 = .ok (.getfield 15, 3) := by decide +kernel
theorem dX4_carryOut_208 : decode cX4_carryOut 208 = .ok (.dup, 1) := by decide +kernel
theorem dX4_carryOut_209 : decode cX4_carryOut 209 = .ok (.getfield 209, 3) := by decide +kernel
theorem dX4_carryOut_212 : decode cX4_carryOut 212 = .ok (.iconst 1, 1) := by decide +kernel
theorem dX4_carryOut_213 : decode cX4_carryOut 213 = .ok (.iload_n 2, 1) := by decide +kernel
theorem dX4_carryOut_214 : decode cX4_carryOut 214 = .ok (.ishl, 1) := by decide +kernel
theorem dX4_carryOut_215 : decode cX4_carryOut 215 = .ok (.iconst (-1), 1) := by decide +kernel
theorem dX4_carryOut_216 : decode cX4_carryOut 216 = .ok (.ixor, 1) := by decide +kernel
theorem dX4_carryOut_217 : decode cX4_carryOut 217 = .ok (.iand, 1) := by decide +kernel
theorem dX4_carryOut_218 : decode cX4_carryOut 218 = .ok (.putfield 209, 3) := by decide +kernel
theorem dX4_carryOut_221 : decode cX4_carryOut 221 = .ok (.goto 3, 3) := by decide +kernel
theorem dX4_carryOut_224 : decode cX4_carryOut 224 = .ok (.iload_n 1, 1) := by decide +kernel
theorem dX4_carryOut_225 : decode cX4_carryOut 225 = .ok (.invokestatic 212, 3) := by decide +kernel
theorem dX4_carryOut_228 : decode cX4_carryOut 228 = .ok (.ifCond .eq 11, 3) := by decide +kernel
theorem dX4_carryOut_231 : decode cX4_carryOut 231 = .ok (.aload_n 0, 1) := by decide +kernel
theorem dX4_carryOut_232 : decode cX4_carryOut 232 = .ok (.getfield 15, 3) := by decide +kernel
theorem dX4_carryOut_235 : decode cX4_carryOut 235 = .ok (.iconst 3, 1) := by decide +kernel
theorem dX4_carryOut_236 : decode cX4_carryOut 236 = .ok (.putfield 209, 3) := by decide +kernel
theorem dX4_carryOut_239 : decode cX4_carryOut 239 = .ok (.return_, 1) := by decide +kernel
theorem dX4_setsSomething_0 : decode cX4_setsSomething 0 = .ok (.iload_n 0, 1) := by decide +kernel
theorem dX4_setsSomething_1 : decode cX4_setsSomething 1 = .ok (.bipush 6, 2) := by decide +kernel
theorem dX4_setsSomething_3 : decode cX4_setsSomething 3 = .ok (.if_icmp .eq 27, 3) := by decide +kernel
theorem dX4_setsSomething_6 : decode cX4_setsSomething 6 = .ok (.iload_n 0, 1) := by decide +kernel
theorem dX4_setsSomething_7 : decode cX4_setsSomething 7 = .ok (.bipush 18, 2) := by decide +kernel
theorem dX4_setsSomething_9 : decode cX4_setsSomething 9 = .ok (.if_icmp .eq 21, 3) := by decide +kernel
theorem dX4_setsSomething_12 : decode cX4_setsSomething 12 = .ok (.iload_n 0, 1) := by decide +kernel
theorem dX4_setsSomething_13 : decode cX4_setsSomething 13 = .ok (.bipush 35, 2) := by decide +kernel
theorem dX4_setsSomething_15 : decode cX4_setsSomething 15 = .ok (.if_icmp .eq 15, 3) := by decide +kernel
theorem dX4_setsSomething_18 : decode cX4_setsSomething 18 = .ok (.iload_n 0, 1) := by decide +kernel
theorem dX4_setsSomething_19 : decode cX4_setsSomething 19 = .ok (.bipush 108, 2) := by decide +kernel
theorem dX4_setsSomething_21 : decode cX4_setsSomething 21 = .ok (.if_icmp .eq 9, 3) := by decide +kernel
theorem dX4_setsSomething_24 : decode cX4_setsSomething 24 = .ok (.iload_n 0, 1) := by decide +kernel
theorem dX4_setsSomething_25 : decode cX4_setsSomething 25 = .ok (.bipush 109, 2) := by decide +kernel
theorem dX4_setsSomething_27 : decode cX4_setsSomething 27 = .ok (.if_icmp .ne 7, 3) := by decide +kernel
theorem dX4_setsSomething_30 : decode cX4_setsSomething 30 = .ok (.iconst 1, 1) := by decide +kernel
theorem dX4_setsSomething_31 : decode cX4_setsSomething 31 = .ok (.goto 4, 3) := by decide +kernel
theorem dX4_setsSomething_34 : decode cX4_setsSomething 34 = .ok (.iconst 0, 1) := by decide +kernel
theorem dX4_setsSomething_35 : decode cX4_setsSomething 35 = .ok (.ireturn, 1) := by decide +kernel
theorem dX4_compose_0 : decode cX4_compose 0 = .ok (.aload_n 0, 1) := by decide +kernel
theorem dX4_compose_1 : decode cX4_compose 1 = .ok (.getfield 29, 3) := by decide +kernel
theorem dX4_compose_4 : decode cX4_compose 4 = .ok (.iload_n 1, 1) := by decide +kernel
theorem dX4_compose_5 : decode cX4_compose 5 = .ok (.invokevirtual 215, 3) := by decide +kernel
theorem dX4_compose_8 : decode cX4_compose 8 = .ok (.aload_n 0, 1) := by decide +kernel
theorem dX4_compose_9 : decode cX4_compose 9 = .ok (.iload_n 1, 1) := by decide +kernel
theorem dX4_compose_10 : decode cX4_compose 10 = .ok (.bipush 6, 2) := by decide +kernel
theorem dX4_compose_12 : decode cX4_compose 12 = .ok (.if_icmp .eq 7, 3) := by decide +kernel
theorem dX4_compose_15 : decode cX4_compose 15 = .ok (.iconst 1, 1) := by decide +kernel
theorem dX4_compose_16 : decode cX4_compose 16 = .ok (.goto 4, 3) := by decide +kernel
theorem dX4_compose_19 : decode cX4_compose 19 = .ok (.iconst 0, 1) := by decide +kernel
theorem dX4_compose_20 : decode cX4_compose 20 = .ok (.iload_n 2, 1) := by decide +kernel
theorem dX4_compose_21 : decode cX4_compose 21 = .ok (.invokevirtual 218, 3) := by decide +kernel
theorem dX4_compose_24 : decode cX4_compose 24 = .ok (.aload_n 0, 1) := by decide +kernel
theorem dX4_compose_25 : decode cX4_compose 25 = .ok (.getfield 29, 3) := by decide +kernel
theorem dX4_compose_28 : decode cX4_compose 28 = .ok (.iload_n 3, 1) := by decide +kernel
theorem dX4_compose_29 : decode cX4_compose 29 = .ok (.invokevirtual 222, 3) := by decide +kernel
theorem dX4_compose_32 : decode cX4_compose 32 = .ok (.aload_n 0, 1) := by decide +kernel
theorem dX4_compose_33 : decode cX4_compose 33 = .ok (.getfield 29, 3) := by decide +kernel
theorem dX4_compose_36 : decode cX4_compose 36 = .ok (.invokevirtual 224, 3) := by decide +kernel
theorem dX4_compose_39 : decode cX4_compose 39 = .ok (.aload_n 0, 1) := by decide +kernel
theorem dX4_compose_40 : decode cX4_compose 40 = .ok (.getfield 29, 3) := by decide +kernel
theorem dX4_compose_43 : decode cX4_compose 43 = .ok (.iload 4, 2) := by decide +kernel
theorem dX4_compose_45 : decode cX4_compose 45 = .ok (.invokevirtual 222, 3) := by decide +kernel
theorem dX4_compose_48 : decode cX4_compose 48 = .ok (.aload_n 0, 1) := by decide +kernel
theorem dX4_compose_49 : decode cX4_compose 49 = .ok (.getfield 29, 3) := by decide +kernel
theorem dX4_compose_52 : decode cX4_compose 52 = .ok (.aload_n 0, 1) := by decide +kernel
theorem dX4_compose_53 : decode cX4_compose 53 = .ok (.getfield 15, 3) := by decide +kernel
theorem dX4_compose_56 : decode cX4_compose 56 = .ok (.iload_n 2, 1) := by decide +kernel
theorem dX4_compose_57 : decode cX4_compose 57 = .ok (.invokevirtual 227, 3) := by decide +kernel
theorem dX4_compose_60 : decode cX4_compose 60 = .ok (.invokevirtual 222, 3) := by decide +kernel
theorem dX4_compose_63 : decode cX4_compose 63 = .ok (.iload 4, 2) := by decide +kernel
theorem dX4_compose_65 : decode cX4_compose 65 = .ok (.ifCond .ne 8, 3) := by decide +kernel
theorem dX4_compose_68 : decode cX4_compose 68 = .ok (.aload_n 0, 1) := by decide +kernel
theorem dX4_compose_69 : decode cX4_compose 69 = .ok (.iload_n 3, 1) := by decide +kernel
theorem dX4_compose_70 : decode cX4_compose 70 = .ok (.invokevirtual 230, 3) := by decide +kernel
theorem dX4_compose_73 : decode cX4_compose 73 = .ok (.aload_n 0, 1) := by decide +kernel
theorem dX4_compose_74 : decode cX4_compose 74 = .ok (.getfield 29, 3) := by decide +kernel
theorem dX4_compose_77 : decode cX4_compose 77 = .ok (.invokevirtual 233, 3) := by decide +kernel
theorem dX4_compose_80 : decode cX4_compose 80 = .ok (.return_, 1) := by decide +kernel
theorem dX4_addAddress_0 : decode cX4_addAddress 0 = .ok (.iload_n 2, 1) := by decide +kernel
theorem dX4_addAddress_1 : decode cX4_addAddress 1 = .ok (.ifCond .ne 9, 3) := by decide +kernel
theorem dX4_addAddress_4 : decode cX4_addAddress 4 = .ok (.sipush 128, 3) := by decide +kernel
theorem dX4_addAddress_7 : decode cX4_addAddress 7 = .ok (.goto 4, 3) := by decide +kernel
theorem dX4_addAddress_10 : decode cX4_addAddress 10 = .ok (.iconst 0, 1) := by decide +kernel
theorem dX4_addAddress_11 : decode cX4_addAddress 11 = .ok (.aload_n 0, 1) := by decide +kernel
theorem dX4_addAddress_12 : decode cX4_addAddress 12 = .ok (.getfield 15, 3) := by decide +kernel
theorem dX4_addAddress_15 : decode cX4_addAddress 15 = .ok (.getfield 80, 3) := by decide +kernel
theorem dX4_addAddress_18 : decode cX4_addAddress 18 = .ok (.ifCond .eq 8, 3) := by decide +kernel
theorem dX4_addAddress_21 : decode cX4_addAddress 21 = .ok (.bipush 64, 2) := by decide +kernel
theorem dX4_addAddress_23 : decode cX4_addAddress 23 = .ok (.goto 4, 3) := by decide +kernel
theorem dX4_addAddress_26 : decode cX4_addAddress 26 = .ok (.iconst 0, 1) := by decide +kernel
theorem dX4_addAddress_27 : decode cX4_addAddress 27 = .ok (.ior, 1) := by decide +kernel
theorem dX4_addAddress_28 : decode cX4_addAddress 28 = .ok (.istore_n 3, 1) := by decide +kernel
theorem dX4_addAddress_29 : decode cX4_addAddress 29 = .ok (.iload_n 1, 1) := by decide +kernel
theorem dX4_addAddress_30 : decode cX4_addAddress 30 = .ok (.ifCond .eq 40, 3) := by decide +kernel
theorem dX4_addAddress_33 : decode cX4_addAddress 33 = .ok (.aload_n 0, 1) := by decide +kernel
theorem dX4_addAddress_34 : decode cX4_addAddress 34 = .ok (.getfield 29, 3) := by decide +kernel
theorem dX4_addAddress_37 : decode cX4_addAddress 37 = .ok (.iload_n 3, 1) := by decide +kernel
theorem dX4_addAddress_38 : decode cX4_addAddress 38 = .ok (.aload_n 0, 1) := by decide +kernel
theorem dX4_addAddress_39 : decode cX4_addAddress 39 = .ok (.getfield 15, 3) := by decide +kernel
theorem dX4_addAddress_42 : decode cX4_addAddress 42 = .ok (.getfield 236, 3) := by decide +kernel
theorem dX4_addAddress_45 : decode cX4_addAddress 45 = .ok (.ior, 1) := by decide +kernel
theorem dX4_addAddress_46 : decode cX4_addAddress 46 = .ok (.invokevirtual 222, 3) := by decide +kernel
theorem dX4_addAddress_49 : decode cX4_addAddress 49 = .ok (.aload_n 0, 1) := by decide +kernel
theorem dX4_addAddress_50 : decode cX4_addAddress 50 = .ok (.getfield 29, 3) := by decide +kernel
theorem dX4_addAddress_53 : decode cX4_addAddress 53 = .ok (.aload_n 0, 1) := by decide +kernel
theorem dX4_addAddress_54 : decode cX4_addAddress 54 = .ok (.getfield 15, 3) := by decide +kernel
theorem dX4_addAddress_57 : decode cX4_addAddress 57 = .ok (.getfield 239, 3) := by decide +kernel
theorem dX4_addAddress_60 : decode cX4_addAddress 60 = .ok (.invokevirtual 222, 3) := by decide +kernel
theorem dX4_addAddress_63 : decode cX4_addAddress 63 = .ok (.aload_n 0, 1) := by decide +kernel
theorem dX4_addAddress_64 : decode cX4_addAddress 64 = .ok (.invokevirtual 241, 3) := by decide +kernel
theorem dX4_addAddress_67 : decode cX4_addAddress 67 = .ok (.goto 19, 3) := by decide +kernel
theorem dX4_addAddress_70 : decode cX4_addAddress 70 = .ok (.aload_n 0, 1) := by decide +kernel
theorem dX4_addAddress_71 : decode cX4_addAddress 71 = .ok (.getfield 29, 3) := by decide +kernel
theorem dX4_addAddress_74 : decode cX4_addAddress 74 = .ok (.iload_n 3, 1) := by decide +kernel
theorem dX4_addAddress_75 : decode cX4_addAddress 75 = .ok (.aload_n 0, 1) := by decide +kernel
theorem dX4_addAddress_76 : decode cX4_addAddress 76 = .ok (.getfield 15, 3) := by decide +kernel
theorem dX4_addAddress_79 : decode cX4_addAddress 79 = .ok (.getfield 68, 3) := by decide +kernel
theorem dX4_addAddress_82 : decode cX4_addAddress 82 = .ok (.ior, 1) := by decide +kernel
theorem dX4_addAddress_83 : decode cX4_addAddress 83 = .ok (.invokevirtual 222, 3) := by decide +kernel
theorem dX4_addAddress_86 : decode cX4_addAddress 86 = .ok (.return_, 1) := by decide +kernel
theorem dX4_addData_0 : decode cX4_addData 0 = .ok (.iload_n 1, 1) := by decide +kernel
theorem dX4_addData_1 : decode cX4_addData 1 = .ok (.lookupswitch 236 #[(0, 67), (1, 74), (2, 106), (3, 123), (11, 67), (13, 168), (48, 200)], 67) := by decide +kernel
theorem dX4_addData_68 : decode cX4_addData 68 = .ok (.aload_n 0, 1) := by decide +kernel
theorem dX4_addData_69 : decode cX4_addData 69 = .ok (.invokevirtual 244, 3) := by decide +kernel
theorem dX4_addData_72 : decode cX4_addData 72 = .ok (.goto 170, 3) := by decide +kernel
theorem dX4_addData_75 : decode cX4_addData 75 = .ok (.aload_n 0, 1) := by decide +kernel
theorem dX4_addData_76 : decode cX4_addData 76 = .ok (.getfield 29, 3) := by decide +kernel
theorem dX4_addData_79 : decode cX4_addData 79 = .ok (.aload_n 0, 1) := by decide +kernel
theorem dX4_addData_80 : decode cX4_addData 80 = .ok (.getfield 15, 3) := by decide +kernel
theorem dX4_addData_83 : decode cX4_addData 83 = .ok (.getfield 71, 3) := by decide +kernel
theorem dX4_addData_86 : decode cX4_addData 86 = .ok (.invokevirtual 222, 3) := by decide +kernel
theorem dX4_addData_89 : decode cX4_addData 89 = .ok (.aload_n 0, 1) := by decide +kernel
theorem dX4_addData_90 : decode cX4_addData 90 = .ok (.getfield 29, 3) := by decide +kernel
theorem dX4_addData_93 : decode cX4_addData 93 = .ok (.aload_n 0, 1) := by decide +kernel
theorem dX4_addData_94 : decode cX4_addData 94 = .ok (.getfield 15, 3) := by decide +kernel
theorem dX4_addData_97 : decode cX4_addData 97 = .ok (.iconst 0, 1) := by decide +kernel
theorem dX4_addData_98 : decode cX4_addData 98 = .ok (.invokevirtual 57, 3) := by decide +kernel
theorem dX4_addData_101 : decode cX4_addData 101 = .ok (.invokevirtual 247, 3) := by decide +kernel
theorem dX4_addData_104 : decode cX4_addData 104 = .ok (.goto 138, 3) := by decide +kernel
theorem dX4_addData_107 : decode cX4_addData 107 = .ok (.aload_n 0, 1) := by decide +kernel
theorem dX4_addData_108 : decode cX4_addData 108 = .ok (.getfield 29, 3) := by decide +kernel
theorem dX4_addData_111 : decode cX4_addData 111 = .ok (.aload_n 0, 1) := by decide +kernel
theorem dX4_addData_112 : decode cX4_addData 112 = .ok (.getfield 15, 3) := by decide +kernel
theorem dX4_addData_115 : decode cX4_addData 115 = .ok (.invokevirtual 250, 3) := by decide +kernel
theorem dX4_addData_118 : decode cX4_addData 118 = .ok (.invokevirtual 247, 3) := by decide +kernel
theorem dX4_addData_121 : decode cX4_addData 121 = .ok (.goto 121, 3) := by decide +kernel
theorem dX4_addData_124 : decode cX4_addData 124 = .ok (.aload_n 0, 1) := by decide +kernel
theorem dX4_addData_125 : decode cX4_addData 125 = .ok (.getfield 29, 3) := by decide +kernel
theorem dX4_addData_128 : decode cX4_addData 128 = .ok (.aload_n 0, 1) := by decide +kernel
theorem dX4_addData_129 : decode cX4_addData 129 = .ok (.getfield 15, 3) := by decide +kernel
theorem dX4_addData_132 : decode cX4_addData 132 = .ok (.invokevirtual 250, 3) := by decide +kernel
theorem dX4_addData_135 : decode cX4_addData 135 = .ok (.invokevirtual 247, 3) := by decide +kernel
theorem dX4_addData_138 : decode cX4_addData 138 = .ok (.iconst 0, 1) := by decide +kernel
theorem dX4_addData_139 : decode cX4_addData 139 = .ok (.istore_n 2, 1) := by decide +kernel
theorem dX4_addData_140 : decode cX4_addData 140 = .ok (.iload_n 2, 1) := by decide +kernel
theorem dX4_addData_141 : decode cX4_addData 141 = .ok (.iconst 4, 1) := by decide +kernel
theorem dX4_addData_142 : decode cX4_addData 142 = .ok (.if_icmp .ge 24, 3) := by decide +kernel
theorem dX4_addData_145 : decode cX4_addData 145 = .ok (.aload_n 0, 1) := by decide +kernel
theorem dX4_addData_146 : decode cX4_addData 146 = .ok (.getfield 29, 3) := by decide +kernel
theorem dX4_addData_149 : decode cX4_addData 149 = .ok (.aload_n 0, 1) := by decide +kernel
theorem dX4_addData_150 : decode cX4_addData 150 = .ok (.getfield 15, 3) := by decide +kernel
theorem dX4_addData_153 : decode cX4_addData 153 = .ok (.iload_n 2, 1) := by decide +kernel
theorem dX4_addData_154 : decode cX4_addData 154 = .ok (.invokevirtual 57, 3) := by decide +kernel
theorem dX4_addData_157 : decode cX4_addData 157 = .ok (.invokevirtual 247, 3) := by decide +kernel
theorem dX4_addData_160 : decode cX4_addData 160 = .ok (.iinc 2 1, 3) := by decide +kernel
theorem dX4_addData_163 : decode cX4_addData 163 = .ok (.goto (-23), 3) := by decide +kernel
theorem dX4_addData_166 : decode cX4_addData 166 = .ok (.goto 76, 3) := by decide +kernel
theorem dX4_addData_169 : decode cX4_addData 169 = .ok (.iconst 0, 1) := by decide +kernel
theorem dX4_addData_170 : decode cX4_addData 170 = .ok (.istore_n 2, 1) := by decide +kernel
theorem dX4_addData_171 : decode cX4_addData 171 = .ok (.iload_n 2, 1) := by decide +kernel
theorem dX4_addData_172 : decode cX4_addData 172 = .ok (.bipush 6, 2) := by decide +kernel
theorem dX4_addData_174 : decode cX4_addData 174 = .ok (.if_icmp .ge 24, 3) := by decide +kernel
theorem dX4_addData_177 : decode cX4_addData 177 = .ok (.aload_n 0, 1) := by decide +kernel
theorem dX4_addData_178 : decode cX4_addData 178 = .ok (.getfield 29, 3) := by decide +kernel
theorem dX4_addData_181 : decode cX4_addData 181 = .ok (.aload_n 0, 1) := by decide +kernel
theorem dX4_addData_182 : decode cX4_addData 182 = .ok (.getfield 15, 3) := by decide +kernel
theorem dX4_addData_185 : decode cX4_addData 185 = .ok (.iload_n 2, 1) := by decide +kernel
theorem dX4_addData_186 : decode cX4_addData 186 = .ok (.invokevirtual 98, 3) := by decide +kernel
theorem dX4_addData_189 : decode cX4_addData 189 = .ok (.invokevirtual 222, 3) := by decide +kernel
theorem dX4_addData_192 : decode cX4_addData 192 = .ok (.iinc 2 1, 3) := by decide +kernel
theorem dX4_addData_195 : decode cX4_addData 195 = .ok (.goto (-24), 3) := by decide +kernel
theorem dX4_addData_198 : decode cX4_addData 198 = .ok (.goto 44, 3) := by decide +kernel
theorem dX4_addData_201 : decode cX4_addData 201 = .ok (.aload_n 0, 1) := by decide +kernel
theorem dX4_addData_202 : decode cX4_addData 202 = .ok (.getfield 29, 3) := by decide +kernel
theorem dX4_addData_205 : decode cX4_addData 205 = .ok (.aload_n 0, 1) := by decide +kernel
theorem dX4_addData_206 : decode cX4_addData 206 = .ok (.getfield 15, 3) := by decide +kernel
theorem dX4_addData_209 : decode cX4_addData 209 = .ok (.getfield 64, 3) := by decide +kernel
theorem dX4_addData_212 : decode cX4_addData 212 = .ok (.ifCond .eq 7, 3) := by decide +kernel
theorem dX4_addData_215 : decode cX4_addData 215 = .ok (.iconst 1, 1) := by decide +kernel
theorem dX4_addData_216 : decode cX4_addData 216 = .ok (.goto 4, 3) := by decide +kernel
theorem dX4_addData_219 : decode cX4_addData 219 = .ok (.iconst 0, 1) := by decide +kernel
theorem dX4_addData_220 : decode cX4_addData 220 = .ok (.invokevirtual 222, 3) := by decide +kernel
theorem dX4_addData_223 : decode cX4_addData 223 = .ok (.aload_n 0, 1) := by decide +kernel
theorem dX4_addData_224 : decode cX4_addData 224 = .ok (.getfield 29, 3) := by decide +kernel
theorem dX4_addData_227 : decode cX4_addData 227 = .ok (.aload_n 0, 1) := by decide +kernel
theorem dX4_addData_228 : decode cX4_addData 228 = .ok (.getfield 86, 3) := by decide +kernel
theorem dX4_addData_231 : decode cX4_addData 231 = .ok (.invokevirtual 222, 3) := by decide +kernel
theorem dX4_addData_234 : decode cX4_addData 234 = .ok (.goto 8, 3) := by decide +kernel
theorem dX4_addData_237 : decode cX4_addData 237 = .ok (.aload_n 0, 1) := by decide +kernel
theorem dX4_addData_238 : decode cX4_addData 238 = .ok (.iload_n 1, 1) := by decide +kernel
theorem dX4_addData_239 : decode cX4_addData 239 = .ok (.invokevirtual 253, 3) := by decide +kernel
theorem dX4_addData_242 : decode cX4_addData 242 = .ok (.return_, 1) := by decide +kernel
theorem dX4_addIdentity_0 : decode cX4_addIdentity 0 = .ok (.aload_n 0, 1) := by decide +kernel
theorem dX4_addIdentity_1 : decode cX4_addIdentity 1 = .ok (.getfield 29, 3) := by decide +kernel
theorem dX4_addIdentity_4 : decode cX4_addIdentity 4 = .ok (.sipush 254, 3) := by decide +kernel
theorem dX4_addIdentity_7 : decode cX4_addIdentity 7 = .ok (.invokevirtual 222, 3) := by decide +kernel
theorem dX4_addIdentity_10 : decode cX4_addIdentity 10 = .ok (.aload_n 0, 1) := by decide +kernel
theorem dX4_addIdentity_11 : decode cX4_addIdentity 11 = .ok (.getfield 29, 3) := by decide +kernel
theorem dX4_addIdentity_14 : decode cX4_addIdentity 14 = .ok (.aload_n 0, 1) := by decide +kernel
theorem dX4_addIdentity_15 : decode cX4_addIdentity 15 = .ok (.getfield 15, 3) := by decide +kernel
theorem dX4_addIdentity_18 : decode cX4_addIdentity 18 = .ok (.getfield 236, 3) := by decide +kernel
theorem dX4_addIdentity_21 : decode cX4_addIdentity 21 = .ok (.invokevirtual 222, 3) := by decide +kernel
theorem dX4_addIdentity_24 : decode cX4_addIdentity 24 = .ok (.aload_n 0, 1) := by decide +kernel
theorem dX4_addIdentity_25 : decode cX4_addIdentity 25 = .ok (.getfield 29, 3) := by decide +kernel
theorem dX4_addIdentity_28 : decode cX4_addIdentity 28 = .ok (.aload_n 0, 1) := by decide +kernel
theorem dX4_addIdentity_29 : decode cX4_addIdentity 29 = .ok (.getfield 15, 3) := by decide +kernel
theorem dX4_addIdentity_32 : decode cX4_addIdentity 32 = .ok (.getfield 239, 3) := by decide +kernel
theorem dX4_addIdentity_35 : decode cX4_addIdentity 35 = .ok (.invokevirtual 222, 3) := by decide +kernel
theorem dX4_addIdentity_38 : decode cX4_addIdentity 38 = .ok (.aload_n 0, 1) := by decide +kernel
theorem dX4_addIdentity_39 : decode cX4_addIdentity 39 = .ok (.getfield 29, 3) := by decide +kernel
theorem dX4_addIdentity_42 : decode cX4_addIdentity 42 = .ok (.iconst 5, 1) := by decide +kernel
theorem dX4_addIdentity_43 : decode cX4_addIdentity 43 = .ok (.invokevirtual 222, 3) := by decide +kernel
theorem dX4_addIdentity_46 : decode cX4_addIdentity 46 = .ok (.aload_n 0, 1) := by decide +kernel
theorem dX4_addIdentity_47 : decode cX4_addIdentity 47 = .ok (.invokevirtual 241, 3) := by decide +kernel
theorem dX4_addIdentity_50 : decode cX4_addIdentity 50 = .ok (.return_, 1) := by decide +kernel
theorem dX4_addNumber_0 : decode cX4_addNumber 0 = .ok (.aload_n 0, 1) := by decide +kernel
theorem dX4_addNumber_1 : decode cX4_addNumber 1 = .ok (.getfield 29, 3) := by decide +kernel
theorem dX4_addNumber_4 : decode cX4_addNumber 4 = .ok (.aload_n 0, 1) := by decide +kernel
theorem dX4_addNumber_5 : decode cX4_addNumber 5 = .ok (.getfield 15, 3) := by decide +kernel
theorem dX4_addNumber_8 : decode cX4_addNumber 8 = .ok (.getfield 256, 3) := by decide +kernel
theorem dX4_addNumber_11 : decode cX4_addNumber 11 = .ok (.bipush 16, 2) := by decide +kernel
theorem dX4_addNumber_13 : decode cX4_addNumber 13 = .ok (.iushr, 1) := by decide +kernel
theorem dX4_addNumber_14 : decode cX4_addNumber 14 = .ok (.invokevirtual 222, 3) := by decide +kernel
theorem dX4_addNumber_17 : decode cX4_addNumber 17 = .ok (.aload_n 0, 1) := by decide +kernel
theorem dX4_addNumber_18 : decode cX4_addNumber 18 = .ok (.getfield 29, 3) := by decide +kernel
theorem dX4_addNumber_21 : decode cX4_addNumber 21 = .ok (.aload_n 0, 1) := by decide +kernel
theorem dX4_addNumber_22 : decode cX4_addNumber 22 = .ok (.getfield 15, 3) := by decide +kernel
theorem dX4_addNumber_25 : decode cX4_addNumber 25 = .ok (.getfield 256, 3) := by decide +kernel
theorem dX4_addNumber_28 : decode cX4_addNumber 28 = .ok (.bipush 8, 2) := by decide +kernel
theorem dX4_addNumber_30 : decode cX4_addNumber 30 = .ok (.iushr, 1) := by decide +kernel
theorem dX4_addNumber_31 : decode cX4_addNumber 31 = .ok (.invokevirtual 222, 3) := by decide +kernel
theorem dX4_addNumber_34 : decode cX4_addNumber 34 = .ok (.aload_n 0, 1) := by decide +kernel
theorem dX4_addNumber_35 : decode cX4_addNumber 35 = .ok (.getfield 29, 3) := by decide +kernel
theorem dX4_addNumber_38 : decode cX4_addNumber 38 = .ok (.aload_n 0, 1) := by decide +kernel
theorem dX4_addNumber_39 : decode cX4_addNumber 39 = .ok (.getfield 15, 3) := by decide +kernel
theorem dX4_addNumber_42 : decode cX4_addNumber 42 = .ok (.getfield 256, 3) := by decide +kernel
theorem dX4_addNumber_45 : decode cX4_addNumber 45 = .ok (.invokevirtual 222, 3) := by decide +kernel
theorem dX4_addNumber_48 : decode cX4_addNumber 48 = .ok (.return_, 1) := by decide +kernel
theorem dX4_addEcho_0 : decode cX4_addEcho 0 = .ok (.iload_n 1, 1) := by decide +kernel
theorem dX4_addEcho_1 : decode cX4_addEcho 1 = .ok (.invokestatic 212, 3) := by decide +kernel
theorem dX4_addEcho_4 : decode cX4_addEcho 4 = .ok (.ifCond .ne 4, 3) := by decide +kernel
theorem dX4_addEcho_7 : decode cX4_addEcho 7 = .ok (.return_, 1) := by decide +kernel
theorem dX4_addEcho_8 : decode cX4_addEcho 8 = .ok (.iconst 0, 1) := by decide +kernel
theorem dX4_addEcho_9 : decode cX4_addEcho 9 = .ok (.istore_n 2, 1) := by decide +kernel
theorem dX4_addEcho_10 : decode cX4_addEcho 10 = .ok (.iload_n 2, 1) := by decide +kernel
theorem dX4_addEcho_11 : decode cX4_addEcho 11 = .ok (.aload_n 0, 1) := by decide +kernel
theorem dX4_addEcho_12 : decode cX4_addEcho 12 = .ok (.getfield 22, 3) := by decide +kernel
theorem dX4_addEcho_15 : decode cX4_addEcho 15 = .ok (.getfield 190, 3) := by decide +kernel
theorem dX4_addEcho_18 : decode cX4_addEcho 18 = .ok (.if_icmp .ge 24, 3) := by decide +kernel
theorem dX4_addEcho_21 : decode cX4_addEcho 21 = .ok (.aload_n 0, 1) := by decide +kernel
theorem dX4_addEcho_22 : decode cX4_addEcho 22 = .ok (.getfield 29, 3) := by decide +kernel
theorem dX4_addEcho_25 : decode cX4_addEcho 25 = .ok (.aload_n 0, 1) := by decide +kernel
theorem dX4_addEcho_26 : decode cX4_addEcho 26 = .ok (.getfield 22, 3) := by decide +kernel
theorem dX4_addEcho_29 : decode cX4_addEcho 29 = .ok (.iload_n 2, 1) := by decide +kernel
theorem dX4_addEcho_30 : decode cX4_addEcho 30 = .ok (.invokevirtual 193, 3) := by decide +kernel
theorem dX4_addEcho_33 : decode cX4_addEcho 33 = .ok (.invokevirtual 222, 3) := by decide +kernel
theorem dX4_addEcho_36 : decode cX4_addEcho 36 = .ok (.iinc 2 1, 3) := by decide +kernel
theorem dX4_addEcho_39 : decode cX4_addEcho 39 = .ok (.goto (-29), 3) := by decide +kernel
theorem dX4_addEcho_42 : decode cX4_addEcho 42 = .ok (.return_, 1) := by decide +kernel
