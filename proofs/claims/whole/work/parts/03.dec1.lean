theorem dX0_init_0 : decode cX0_init 0 = .ok (.aload_n 0, 1) := by decide +kernel
theorem dX0_init_1 : decode cX0_init 1 = .ok (.invokespecial 3, 3) := by decide +kernel
theorem dX0_init_4 : decode cX0_init 4 = .ok (.aload_n 0, 1) := by decide +kernel
theorem dX0_init_5 : decode cX0_init 5 = .ok (.iconst 5, 1) := by decide +kernel
theorem dX0_init_6 : decode cX0_init 6 = .ok (.newarray .int, 2) := by decide +kernel
theorem dX0_init_8 : decode cX0_init 8 = .ok (.putfield 11, 3) := by decide +kernel
theorem dX0_init_11 : decode cX0_init 11 = .ok (.aload_n 0, 1) := by decide +kernel
theorem dX0_init_12 : decode cX0_init 12 = .ok (.bipush 20, 2) := by decide +kernel
theorem dX0_init_14 : decode cX0_init 14 = .ok (.newarray .int, 2) := by decide +kernel
theorem dX0_init_16 : decode cX0_init 16 = .ok (.putfield 15, 3) := by decide +kernel
theorem dX0_init_19 : decode cX0_init 19 = .ok (.return_, 1) := by decide +kernel
theorem dX0_beginAnew_0 : decode cX0_beginAnew 0 = .ok (.aload_n 0, 1) := by decide +kernel
theorem dX0_beginAnew_1 : decode cX0_beginAnew 1 = .ok (.iconst 0, 1) := by decide +kernel
theorem dX0_beginAnew_2 : decode cX0_beginAnew 2 = .ok (.putfield 18, 3) := by decide +kernel
theorem dX0_beginAnew_5 : decode cX0_beginAnew 5 = .ok (.aload_n 0, 1) := by decide +kernel
theorem dX0_beginAnew_6 : decode cX0_beginAnew 6 = .ok (.iconst 0, 1) := by decide +kernel
theorem dX0_beginAnew_7 : decode cX0_beginAnew 7 = .ok (.putfield 22, 3) := by decide +kernel
theorem dX0_beginAnew_10 : decode cX0_beginAnew 10 = .ok (.return_, 1) := by decide +kernel
theorem dX0_take_0 : decode cX0_take 0 = .ok (.aload_n 0, 1) := by decide +kernel
theorem dX0_take_1 : decode cX0_take 1 = .ok (.getfield 18, 3) := by decide +kernel
theorem dX0_take_4 : decode cX0_take 4 = .ok (.iconst 5, 1) := by decide +kernel
theorem dX0_take_5 : decode cX0_take 5 = .ok (.if_icmp .ne 26, 3) := by decide +kernel
theorem dX0_take_8 : decode cX0_take 8 = .ok (.aload_n 0, 1) := by decide +kernel
theorem dX0_take_9 : decode cX0_take 9 = .ok (.iload_n 1, 1) := by decide +kernel
theorem dX0_take_10 : decode cX0_take 10 = .ok (.aload_n 0, 1) := by decide +kernel
theorem dX0_take_11 : decode cX0_take 11 = .ok (.getfield 25, 3) := by decide +kernel
theorem dX0_take_14 : decode cX0_take 14 = .ok (.if_icmp .ne 7, 3) := by decide +kernel
theorem dX0_take_17 : decode cX0_take 17 = .ok (.iconst 1, 1) := by decide +kernel
theorem dX0_take_18 : decode cX0_take 18 = .ok (.goto 4, 3) := by decide +kernel
theorem dX0_take_21 : decode cX0_take 21 = .ok (.iconst 0, 1) := by decide +kernel
theorem dX0_take_22 : decode cX0_take 22 = .ok (.putfield 28, 3) := by decide +kernel
theorem dX0_take_25 : decode cX0_take 25 = .ok (.aload_n 0, 1) := by decide +kernel
theorem dX0_take_26 : decode cX0_take 26 = .ok (.invokevirtual 32, 3) := by decide +kernel
theorem dX0_take_29 : decode cX0_take 29 = .ok (.iconst 1, 1) := by decide +kernel
theorem dX0_take_30 : decode cX0_take 30 = .ok (.ireturn, 1) := by decide +kernel
theorem dX0_take_31 : decode cX0_take 31 = .ok (.aload_n 0, 1) := by decide +kernel
theorem dX0_take_32 : decode cX0_take 32 = .ok (.dup, 1) := by decide +kernel
theorem dX0_take_33 : decode cX0_take 33 = .ok (.getfield 25, 3) := by decide +kernel
theorem dX0_take_36 : decode cX0_take 36 = .ok (.iload_n 1, 1) := by decide +kernel
theorem dX0_take_37 : decode cX0_take 37 = .ok (.ixor, 1) := by decide +kernel
theorem dX0_take_38 : decode cX0_take 38 = .ok (.putfield 25, 3) := by decide +kernel
theorem dX0_take_41 : decode cX0_take 41 = .ok (.aload_n 0, 1) := by decide +kernel
theorem dX0_take_42 : decode cX0_take 42 = .ok (.getfield 18, 3) := by decide +kernel
theorem dX0_take_45 : decode cX0_take 45 = .ok (.tableswitch 68 1 4 #[31, 39, 52, 60], 31) := by decide +kernel
theorem dX0_take_76 : decode cX0_take 76 = .ok (.aload_n 0, 1) := by decide +kernel
theorem dX0_take_77 : decode cX0_take 77 = .ok (.iload_n 1, 1) := by decide +kernel
theorem dX0_take_78 : decode cX0_take 78 = .ok (.invokevirtual 35, 3) := by decide +kernel
theorem dX0_take_81 : decode cX0_take 81 = .ok (.goto 37, 3) := by decide +kernel
theorem dX0_take_84 : decode cX0_take 84 = .ok (.aload_n 0, 1) := by decide +kernel
theorem dX0_take_85 : decode cX0_take 85 = .ok (.iload_n 1, 1) := by decide +kernel
theorem dX0_take_86 : decode cX0_take 86 = .ok (.putfield 39, 3) := by decide +kernel
theorem dX0_take_89 : decode cX0_take 89 = .ok (.aload_n 0, 1) := by decide +kernel
theorem dX0_take_90 : decode cX0_take 90 = .ok (.iconst 3, 1) := by decide +kernel
theorem dX0_take_91 : decode cX0_take 91 = .ok (.putfield 18, 3) := by decide +kernel
theorem dX0_take_94 : decode cX0_take 94 = .ok (.goto 24, 3) := by decide +kernel
theorem dX0_take_97 : decode cX0_take 97 = .ok (.aload_n 0, 1) := by decide +kernel
theorem dX0_take_98 : decode cX0_take 98 = .ok (.iload_n 1, 1) := by decide +kernel
theorem dX0_take_99 : decode cX0_take 99 = .ok (.invokevirtual 42, 3) := by decide +kernel
theorem dX0_take_102 : decode cX0_take 102 = .ok (.goto 16, 3) := by decide +kernel
theorem dX0_take_105 : decode cX0_take 105 = .ok (.aload_n 0, 1) := by decide +kernel
theorem dX0_take_106 : decode cX0_take 106 = .ok (.iload_n 1, 1) := by decide +kernel
theorem dX0_take_107 : decode cX0_take 107 = .ok (.invokevirtual 45, 3) := by decide +kernel
theorem dX0_take_110 : decode cX0_take 110 = .ok (.goto 8, 3) := by decide +kernel
theorem dX0_take_113 : decode cX0_take 113 = .ok (.aload_n 0, 1) := by decide +kernel
theorem dX0_take_114 : decode cX0_take 114 = .ok (.iload_n 1, 1) := by decide +kernel
theorem dX0_take_115 : decode cX0_take 115 = .ok (.invokevirtual 48, 3) := by decide +kernel
theorem dX0_take_118 : decode cX0_take 118 = .ok (.iconst 0, 1) := by decide +kernel
theorem dX0_take_119 : decode cX0_take 119 = .ok (.ireturn, 1) := by decide +kernel
theorem dX0_takePreamble_0 : decode cX0_takePreamble 0 = .ok (.iload_n 1, 1) := by decide +kernel
theorem dX0_takePreamble_1 : decode cX0_takePreamble 1 = .ok (.sipush 255, 3) := by decide +kernel
theorem dX0_takePreamble_4 : decode cX0_takePreamble 4 = .ok (.if_icmp .ne 18, 3) := by decide +kernel
theorem dX0_takePreamble_7 : decode cX0_takePreamble 7 = .ok (.aload_n 0, 1) := by decide +kernel
theorem dX0_takePreamble_8 : decode cX0_takePreamble 8 = .ok (.aload_n 0, 1) := by decide +kernel
theorem dX0_takePreamble_9 : decode cX0_takePreamble 9 = .ok (.getfield 22, 3) := by decide +kernel
theorem dX0_takePreamble_12 : decode cX0_takePreamble 12 = .ok (.iconst 1, 1) := by decide +kernel
theorem dX0_takePreamble_13 : decode cX0_takePreamble 13 = .ok (.iadd, 1) := by decide +kernel
theorem dX0_takePreamble_14 : decode cX0_takePreamble 14 = .ok (.iconst 3, 1) := by decide +kernel
theorem dX0_takePreamble_15 : decode cX0_takePreamble 15 = .ok (.invokestatic 51, 3) := by decide +kernel
theorem dX0_takePreamble_18 : decode cX0_takePreamble 18 = .ok (.putfield 22, 3) := by decide +kernel
theorem dX0_takePreamble_21 : decode cX0_takePreamble 21 = .ok (.return_, 1) := by decide +kernel
theorem dX0_takePreamble_22 : decode cX0_takePreamble 22 = .ok (.aload_n 0, 1) := by decide +kernel
theorem dX0_takePreamble_23 : decode cX0_takePreamble 23 = .ok (.getfield 22, 3) := by decide +kernel
theorem dX0_takePreamble_26 : decode cX0_takePreamble 26 = .ok (.iconst 3, 1) := by decide +kernel
theorem dX0_takePreamble_27 : decode cX0_takePreamble 27 = .ok (.if_icmp .lt 7, 3) := by decide +kernel
theorem dX0_takePreamble_30 : decode cX0_takePreamble 30 = .ok (.iconst 1, 1) := by decide +kernel
theorem dX0_takePreamble_31 : decode cX0_takePreamble 31 = .ok (.goto 4, 3) := by decide +kernel
theorem dX0_takePreamble_34 : decode cX0_takePreamble 34 = .ok (.iconst 0, 1) := by decide +kernel
theorem dX0_takePreamble_35 : decode cX0_takePreamble 35 = .ok (.istore_n 2, 1) := by decide +kernel
theorem dX0_takePreamble_36 : decode cX0_takePreamble 36 = .ok (.aload_n 0, 1) := by decide +kernel
theorem dX0_takePreamble_37 : decode cX0_takePreamble 37 = .ok (.invokevirtual 32, 3) := by decide +kernel
theorem dX0_takePreamble_40 : decode cX0_takePreamble 40 = .ok (.iload_n 2, 1) := by decide +kernel
theorem dX0_takePreamble_41 : decode cX0_takePreamble 41 = .ok (.ifCond .eq 46, 3) := by decide +kernel
theorem dX0_takePreamble_44 : decode cX0_takePreamble 44 = .ok (.iload_n 1, 1) := by decide +kernel
theorem dX0_takePreamble_45 : decode cX0_takePreamble 45 = .ok (.iconst 2, 1) := by decide +kernel
theorem dX0_takePreamble_46 : decode cX0_takePreamble 46 = .ok (.if_icmp .eq 10, 3) := by decide +kernel
theorem dX0_takePreamble_49 : decode cX0_takePreamble 49 = .ok (.iload_n 1, 1) := by decide +kernel
theorem dX0_takePreamble_50 : decode cX0_takePreamble 50 = .ok (.sipush 130, 3) := by decide +kernel
theorem dX0_takePreamble_53 : decode cX0_takePreamble 53 = .ok (.if_icmp .ne 34, 3) := by decide +kernel
theorem dX0_takePreamble_56 : decode cX0_takePreamble 56 = .ok (.aload_n 0, 1) := by decide +kernel
theorem dX0_takePreamble_57 : decode cX0_takePreamble 57 = .ok (.iload_n 1, 1) := by decide +kernel
theorem dX0_takePreamble_58 : decode cX0_takePreamble 58 = .ok (.sipush 130, 3) := by decide +kernel
theorem dX0_takePreamble_61 : decode cX0_takePreamble 61 = .ok (.if_icmp .ne 7, 3) := by decide +kernel
theorem dX0_takePreamble_64 : decode cX0_takePreamble 64 = .ok (.iconst 1, 1) := by decide +kernel
theorem dX0_takePreamble_65 : decode cX0_takePreamble 65 = .ok (.goto 4, 3) := by decide +kernel
theorem dX0_takePreamble_68 : decode cX0_takePreamble 68 = .ok (.iconst 0, 1) := by decide +kernel
theorem dX0_takePreamble_69 : decode cX0_takePreamble 69 = .ok (.putfield 57, 3) := by decide +kernel
theorem dX0_takePreamble_72 : decode cX0_takePreamble 72 = .ok (.aload_n 0, 1) := by decide +kernel
theorem dX0_takePreamble_73 : decode cX0_takePreamble 73 = .ok (.iload_n 1, 1) := by decide +kernel
theorem dX0_takePreamble_74 : decode cX0_takePreamble 74 = .ok (.putfield 25, 3) := by decide +kernel
theorem dX0_takePreamble_77 : decode cX0_takePreamble 77 = .ok (.aload_n 0, 1) := by decide +kernel
theorem dX0_takePreamble_78 : decode cX0_takePreamble 78 = .ok (.iconst 0, 1) := by decide +kernel
theorem dX0_takePreamble_79 : decode cX0_takePreamble 79 = .ok (.putfield 60, 3) := by decide +kernel
theorem dX0_takePreamble_82 : decode cX0_takePreamble 82 = .ok (.aload_n 0, 1) := by decide +kernel
theorem dX0_takePreamble_83 : decode cX0_takePreamble 83 = .ok (.iconst 1, 1) := by decide +kernel
theorem dX0_takePreamble_84 : decode cX0_takePreamble 84 = .ok (.putfield 18, 3) := by decide +kernel
theorem dX0_takePreamble_87 : decode cX0_takePreamble 87 = .ok (.return_, 1) := by decide +kernel
theorem dX0_takeAddress_0 : decode cX0_takeAddress 0 = .ok (.aload_n 0, 1) := by decide +kernel
theorem dX0_takeAddress_1 : decode cX0_takeAddress 1 = .ok (.getfield 60, 3) := by decide +kernel
theorem dX0_takeAddress_4 : decode cX0_takeAddress 4 = .ok (.ifCond .lt 25, 3) := by decide +kernel
theorem dX0_takeAddress_7 : decode cX0_takeAddress 7 = .ok (.aload_n 0, 1) := by decide +kernel
theorem dX0_takeAddress_8 : decode cX0_takeAddress 8 = .ok (.getfield 60, 3) := by decide +kernel
theorem dX0_takeAddress_11 : decode cX0_takeAddress 11 = .ok (.aload_n 0, 1) := by decide +kernel
theorem dX0_takeAddress_12 : decode cX0_takeAddress 12 = .ok (.getfield 11, 3) := by decide +kernel
theorem dX0_takeAddress_15 : decode cX0_takeAddress 15 = .ok (.arraylength, 1) := by decide +kernel
theorem dX0_takeAddress_16 : decode cX0_takeAddress 16 = .ok (.if_icmp .ge 13, 3) := by decide +kernel
theorem dX0_takeAddress_19 : decode cX0_takeAddress 19 = .ok (.aload_n 0, 1) := by decide +kernel
theorem dX0_takeAddress_20 : decode cX0_takeAddress 20 = .ok (.getfield 11, 3) := by decide +kernel
theorem dX0_takeAddress_23 : decode cX0_takeAddress 23 = .ok (.aload_n 0, 1) := by decide +kernel
theorem dX0_takeAddress_24 : decode cX0_takeAddress 24 = .ok (.getfield 60, 3) := by decide +kernel
theorem dX0_takeAddress_27 : decode cX0_takeAddress 27 = .ok (.iload_n 1, 1) := by decide +kernel
theorem dX0_takeAddress_28 : decode cX0_takeAddress 28 = .ok (.iastore, 1) := by decide +kernel
theorem dX0_takeAddress_29 : decode cX0_takeAddress 29 = .ok (.aload_n 0, 1) := by decide +kernel
theorem dX0_takeAddress_30 : decode cX0_takeAddress 30 = .ok (.dup, 1) := by decide +kernel
theorem dX0_takeAddress_31 : decode cX0_takeAddress 31 = .ok (.getfield 60, 3) := by decide +kernel
theorem dX0_takeAddress_34 : decode cX0_takeAddress 34 = .ok (.iconst 1, 1) := by decide +kernel
theorem dX0_takeAddress_35 : decode cX0_takeAddress 35 = .ok (.iadd, 1) := by decide +kernel
theorem dX0_takeAddress_36 : decode cX0_takeAddress 36 = .ok (.putfield 60, 3) := by decide +kernel
theorem dX0_takeAddress_39 : decode cX0_takeAddress 39 = .ok (.aload_n 0, 1) := by decide +kernel
theorem dX0_takeAddress_40 : decode cX0_takeAddress 40 = .ok (.getfield 60, 3) := by decide +kernel
theorem dX0_takeAddress_43 : decode cX0_takeAddress 43 = .ok (.aload_n 0, 1) := by decide +kernel
theorem dX0_takeAddress_44 : decode cX0_takeAddress 44 = .ok (.getfield 57, 3) := by decide +kernel
theorem dX0_takeAddress_47 : decode cX0_takeAddress 47 = .ok (.ifCond .eq 7, 3) := by decide +kernel
theorem dX0_takeAddress_50 : decode cX0_takeAddress 50 = .ok (.iconst 5, 1) := by decide +kernel
theorem dX0_takeAddress_51 : decode cX0_takeAddress 51 = .ok (.goto 4, 3) := by decide +kernel
theorem dX0_takeAddress_54 : decode cX0_takeAddress 54 = .ok (.iconst 1, 1) := by decide +kernel
theorem dX0_takeAddress_55 : decode cX0_takeAddress 55 = .ok (.if_icmp .lt 8, 3) := by decide +kernel
theorem dX0_takeAddress_58 : decode cX0_takeAddress 58 = .ok (.aload_n 0, 1) := by decide +kernel
theorem dX0_takeAddress_59 : decode cX0_takeAddress 59 = .ok (.iconst 2, 1) := by decide +kernel
theorem dX0_takeAddress_60 : decode cX0_takeAddress 60 = .ok (.putfield 18, 3) := by decide +kernel
theorem dX0_takeAddress_63 : decode cX0_takeAddress 63 = .ok (.return_, 1) := by decide +kernel
theorem dX0_takeCount_0 : decode cX0_takeCount 0 = .ok (.iload_n 1, 1) := by decide +kernel
theorem dX0_takeCount_1 : decode cX0_takeCount 1 = .ok (.bipush 20, 2) := by decide +kernel
theorem dX0_takeCount_3 : decode cX0_takeCount 3 = .ok (.if_icmp .le 8, 3) := by decide +kernel
theorem dX0_takeCount_6 : decode cX0_takeCount 6 = .ok (.aload_n 0, 1) := by decide +kernel
theorem dX0_takeCount_7 : decode cX0_takeCount 7 = .ok (.invokevirtual 32, 3) := by decide +kernel
theorem dX0_takeCount_10 : decode cX0_takeCount 10 = .ok (.return_, 1) := by decide +kernel
theorem dX0_takeCount_11 : decode cX0_takeCount 11 = .ok (.aload_n 0, 1) := by decide +kernel
theorem dX0_takeCount_12 : decode cX0_takeCount 12 = .ok (.iload_n 1, 1) := by decide +kernel
theorem dX0_takeCount_13 : decode cX0_takeCount 13 = .ok (.putfield 63, 3) := by decide +kernel
theorem dX0_takeCount_16 : decode cX0_takeCount 16 = .ok (.aload_n 0, 1) := by decide +kernel
theorem dX0_takeCount_17 : decode cX0_takeCount 17 = .ok (.iconst 0, 1) := by decide +kernel
theorem dX0_takeCount_18 : decode cX0_takeCount 18 = .ok (.putfield 60, 3) := by decide +kernel
theorem dX0_takeCount_21 : decode cX0_takeCount 21 = .ok (.aload_n 0, 1) := by decide +kernel
theorem dX0_takeCount_22 : decode cX0_takeCount 22 = .ok (.aload_n 0, 1) := by decide +kernel
theorem dX0_takeCount_23 : decode cX0_takeCount 23 = .ok (.getfield 63, 3) := by decide +kernel
theorem dX0_takeCount_26 : decode cX0_takeCount 26 = .ok (.ifCond .ne 7, 3) := by decide +kernel
theorem dX0_takeCount_29 : decode cX0_takeCount 29 = .ok (.iconst 5, 1) := by decide +kernel
theorem dX0_takeCount_30 : decode cX0_takeCount 30 = .ok (.goto 4, 3) := by decide +kernel
theorem dX0_takeCount_33 : decode cX0_takeCount 33 = .ok (.iconst 4, 1) := by decide +kernel
theorem dX0_takeCount_34 : decode cX0_takeCount 34 = .ok (.putfield 18, 3) := by decide +kernel
theorem dX0_takeCount_37 : decode cX0_takeCount 37 = .ok (.return_, 1) := by decide +kernel
theorem dX0_takeData_0 : decode cX0_takeData 0 = .ok (.aload_n 0, 1) := by decide +kernel
theorem dX0_takeData_1 : decode cX0_takeData 1 = .ok (.getfield 60, 3) := by decide +kernel
theorem dX0_takeData_4 : decode cX0_takeData 4 = .ok (.ifCond .lt 25, 3) := by decide +kernel
theorem dX0_takeData_7 : decode cX0_takeData 7 = .ok (.aload_n 0, 1) := by decide +kernel
theorem dX0_takeData_8 : decode cX0_takeData 8 = .ok (.getfield 60, 3) := by decide +kernel
theorem dX0_takeData_11 : decode cX0_takeData 11 = .ok (.aload_n 0, 1) := by decide +kernel
theorem dX0_takeData_12 : decode cX0_takeData 12 = .ok (.getfield 15, 3) := by decide +kernel
theorem dX0_takeData_15 : decode cX0_takeData 15 = .ok (.arraylength, 1) := by decide +kernel
theorem dX0_takeData_16 : decode cX0_takeData 16 = .ok (.if_icmp .ge 13, 3) := by decide +kernel
theorem dX0_takeData_19 : decode cX0_takeData 19 = .ok (.aload_n 0, 1) := by decide +kernel
theorem dX0_takeData_20 : decode cX0_takeData 20 = .ok (.getfield 15, 3) := by decide +kernel
theorem dX0_takeData_23 : decode cX0_takeData 23 = .ok (.aload_n 0, 1) := by decide +kernel
theorem dX0_takeData_24 : decode cX0_takeData 24 = .ok (.getfield 60, 3) := by decide +kernel
theorem dX0_takeData_27 : decode cX0_takeData 27 = .ok (.iload_n 1, 1) := by decide +kernel
theorem dX0_takeData_28 : decode cX0_takeData 28 = .ok (.iastore, 1) := by decide +kernel
theorem dX0_takeData_29 : decode cX0_takeData 29 = .ok (.aload_n 0, 1) := by decide +kernel
theorem dX0_takeData_30 : decode cX0_takeData 30 = .ok (.dup, 1) := by decide +kernel
theorem dX0_takeData_31 : decode cX0_takeData 31 = .ok (.getfield 60, 3) := by decide +kernel
theorem dX0_takeData_34 : decode cX0_takeData 34 = .ok (.iconst 1, 1) := by decide +kernel
theorem dX0_takeData_35 : decode cX0_takeData 35 = .ok (.iadd, 1) := by decide +kernel
theorem dX0_takeData_36 : decode cX0_takeData 36 = .ok (.putfield 60, 3) := by decide +kernel
theorem dX0_takeData_39 : decode cX0_takeData 39 = .ok (.aload_n 0, 1) := by decide +kernel
theorem dX0_takeData_40 : decode cX0_takeData 40 = .ok (.getfield 60, 3) := by decide +kernel
theorem dX0_takeData_43 : decode cX0_takeData 43 = .ok (.aload_n 0, 1) := by decide +kernel
theorem dX0_takeData_44 : decode cX0_takeData 44 = .ok (.getfield 63, 3) := by decide +kernel
theorem dX0_takeData_47 : decode cX0_takeData 47 = .ok (.if_icmp .lt 8, 3) := by decide +kernel
theorem dX0_takeData_50 : decode cX0_takeData 50 = .ok (.aload_n 0, 1) := by decide +kernel
theorem dX0_takeData_51 : decode cX0_takeData 51 = .ok (.iconst 5, 1) := by decide +kernel
theorem dX0_takeData_52 : decode cX0_takeData 52 = .ok (.putfield 18, 3) := by decide +kernel
theorem dX0_takeData_55 : decode cX0_takeData 55 = .ok (.return_, 1) := by decide +kernel
theorem dX0_master_0 : decode cX0_master 0 = .ok (.aload_n 0, 1) := by decide +kernel
theorem dX0_master_1 : decode cX0_master 1 = .ok (.iconst 0, 1) := by decide +kernel
theorem dX0_master_2 : decode cX0_master 2 = .ok (.invokevirtual 66, 3) := by decide +kernel
theorem dX0_master_5 : decode cX0_master 5 = .ok (.sipush 128, 3) := by decide +kernel
theorem dX0_master_8 : decode cX0_master 8 = .ok (.iand, 1) := by decide +kernel
theorem dX0_master_9 : decode cX0_master 9 = .ok (.ifCond .eq 7, 3) := by decide +kernel
theorem dX0_master_12 : decode cX0_master 12 = .ok (.iconst 0, 1) := by decide +kernel
theorem dX0_master_13 : decode cX0_master 13 = .ok (.goto 4, 3) := by decide +kernel
theorem dX0_master_16 : decode cX0_master 16 = .ok (.iconst 1, 1) := by decide +kernel
theorem dX0_master_17 : decode cX0_master 17 = .ok (.ireturn, 1) := by decide +kernel
theorem dX0_station_0 : decode cX0_station 0 = .ok (.aload_n 0, 1) := by decide +kernel
theorem dX0_station_1 : decode cX0_station 1 = .ok (.iconst 0, 1) := by decide +kernel
theorem dX0_station_2 : decode cX0_station 2 = .ok (.invokevirtual 66, 3) := by decide +kernel
theorem dX0_station_5 : decode cX0_station 5 = .ok (.bipush 63, 2) := by decide +kernel
theorem dX0_station_7 : decode cX0_station 7 = .ok (.iand, 1) := by decide +kernel
theorem dX0_station_8 : decode cX0_station 8 = .ok (.ireturn, 1) := by decide +kernel
theorem dX0_kind_0 : decode cX0_kind 0 = .ok (.aload_n 0, 1) := by decide +kernel
theorem dX0_kind_1 : decode cX0_kind 1 = .ok (.iconst 1, 1) := by decide +kernel
theorem dX0_kind_2 : decode cX0_kind 2 = .ok (.invokevirtual 66, 3) := by decide +kernel
theorem dX0_kind_5 : decode cX0_kind 5 = .ok (.ireturn, 1) := by decide +kernel
theorem dX0_number_0 : decode cX0_number 0 = .ok (.aload_n 0, 1) := by decide +kernel
theorem dX0_number_1 : decode cX0_number 1 = .ok (.iconst 2, 1) := by decide +kernel
theorem dX0_number_2 : decode cX0_number 2 = .ok (.invokevirtual 66, 3) := by decide +kernel
theorem dX0_number_5 : decode cX0_number 5 = .ok (.bipush 16, 2) := by decide +kernel
theorem dX0_number_7 : decode cX0_number 7 = .ok (.ishl, 1) := by decide +kernel
theorem dX0_number_8 : decode cX0_number 8 = .ok (.aload_n 0, 1) := by decide +kernel
theorem dX0_number_9 : decode cX0_number 9 = .ok (.iconst 3, 1) := by decide +kernel
theorem dX0_number_10 : decode cX0_number 10 = .ok (.invokevirtual 66, 3) := by decide +kernel
theorem dX0_number_13 : decode cX0_number 13 = .ok (.bipush 8, 2) := by decide +kernel
theorem dX0_number_15 : decode cX0_number 15 = .ok (.ishl, 1) := by decide +kernel
theorem dX0_number_16 : decode cX0_number 16 = .ok (.ior, 1) := by decide +kernel
theorem dX0_number_17 : decode cX0_number 17 = .ok (.aload_n 0, 1) := by decide +kernel
theorem dX0_number_18 : decode cX0_number 18 = .ok (.iconst 4, 1) := by decide +kernel
theorem dX0_number_19 : decode cX0_number 19 = .ok (.invokevirtual 66, 3) := by decide +kernel
theorem dX0_number_22 : decode cX0_number 22 = .ok (.ior, 1) := by decide +kernel
theorem dX0_number_23 : decode cX0_number 23 = .ok (.ireturn, 1) := by decide +kernel
theorem dX0_addressAt_0 : decode cX0_addressAt 0 = .ok (.iload_n 1, 1) := by decide +kernel
theorem dX0_addressAt_1 : decode cX0_addressAt 1 = .ok (.ifCond .lt 21, 3) := by decide +kernel
theorem dX0_addressAt_4 : decode cX0_addressAt 4 = .ok (.iload_n 1, 1) := by decide +kernel
theorem dX0_addressAt_5 : decode cX0_addressAt 5 = .ok (.aload_n 0, 1) := by decide +kernel
theorem dX0_addressAt_6 : decode cX0_addressAt 6 = .ok (.getfield 11, 3) := by decide +kernel
theorem dX0_addressAt_9 : decode cX0_addressAt 9 = .ok (.arraylength, 1) := by decide +kernel
theorem dX0_addressAt_10 : decode cX0_addressAt 10 = .ok (.if_icmp .ge 12, 3) := by decide +kernel
theorem dX0_addressAt_13 : decode cX0_addressAt 13 = .ok (.aload_n 0, 1) := by decide +kernel
theorem dX0_addressAt_14 : decode cX0_addressAt 14 = .ok (.getfield 11, 3) := by decide +kernel
theorem dX0_addressAt_17 : decode cX0_addressAt 17 = .ok (.iload_n 1, 1) := by decide +kernel
theorem dX0_addressAt_18 : decode cX0_addressAt 18 = .ok (.iaload, 1) := by decide +kernel
theorem dX0_addressAt_19 : decode cX0_addressAt 19 = .ok (.goto 4, 3) := by decide +kernel
theorem dX0_addressAt_22 : decode cX0_addressAt 22 = .ok (.iconst 0, 1) := by decide +kernel
theorem dX0_addressAt_23 : decode cX0_addressAt 23 = .ok (.ireturn, 1) := by decide +kernel
theorem dX0_dataAt_0 : decode cX0_dataAt 0 = .ok (.iload_n 1, 1) := by decide +kernel
theorem dX0_dataAt_1 : decode cX0_dataAt 1 = .ok (.ifCond .lt 29, 3) := by decide +kernel
theorem dX0_dataAt_4 : decode cX0_dataAt 4 = .ok (.iload_n 1, 1) := by decide +kernel
theorem dX0_dataAt_5 : decode cX0_dataAt 5 = .ok (.aload_n 0, 1) := by decide +kernel
theorem dX0_dataAt_6 : decode cX0_dataAt 6 = .ok (.getfield 63, 3) := by decide +kernel
theorem dX0_dataAt_9 : decode cX0_dataAt 9 = .ok (.if_icmp .ge 21, 3) := by decide +kernel
theorem dX0_dataAt_12 : decode cX0_dataAt 12 = .ok (.iload_n 1, 1) := by decide +kernel
theorem dX0_dataAt_13 : decode cX0_dataAt 13 = .ok (.aload_n 0, 1) := by decide +kernel
theorem dX0_dataAt_14 : decode cX0_dataAt 14 = .ok (.getfield 15, 3) := by decide +kernel
theorem dX0_dataAt_17 : decode cX0_dataAt 17 = .ok (.arraylength, 1) := by decide +kernel
theorem dX0_dataAt_18 : decode cX0_dataAt 18 = .ok (.if_icmp .ge 12, 3) := by decide +kernel
theorem dX0_dataAt_21 : decode cX0_dataAt 21 = .ok (.aload_n 0, 1) := by decide +kernel
theorem dX0_dataAt_22 : decode cX0_dataAt 22 = .ok (.getfield 15, 3) := by decide +kernel
theorem dX0_dataAt_25 : decode cX0_dataAt 25 = .ok (.iload_n 1, 1) := by decide +kernel
theorem dX0_dataAt_26 : decode cX0_dataAt 26 = .ok (.iaload, 1) := by decide +kernel
theorem dX0_dataAt_27 : decode cX0_dataAt 27 = .ok (.goto 4, 3) := by decide +kernel
theorem dX0_dataAt_30 : decode cX0_dataAt 30 = .ok (.iconst 0, 1) := by decide +kernel
theorem dX0_dataAt_31 : decode cX0_dataAt 31 = .ok (.ireturn, 1) := by decide +kernel
theorem dX0_fourAt_0 : decode cX0_fourAt 0 = .ok (.aload_n 0, 1) := by decide +kernel
theorem dX0_fourAt_1 : decode cX0_fourAt 1 = .ok (.iload_n 1, 1) := by decide +kernel
theorem dX0_fourAt_2 : decode cX0_fourAt 2 = .ok (.invokevirtual 70, 3) := by decide +kernel
theorem dX0_fourAt_5 : decode cX0_fourAt 5 = .ok (.bipush 24, 2) := by decide +kernel
theorem dX0_fourAt_7 : decode cX0_fourAt 7 = .ok (.ishl, 1) := by decide +kernel
theorem dX0_fourAt_8 : decode cX0_fourAt 8 = .ok (.aload_n 0, 1) := by decide +kernel
theorem dX0_fourAt_9 : decode cX0_fourAt 9 = .ok (.iload_n 1, 1) := by decide +kernel
theorem dX0_fourAt_10 : decode cX0_fourAt 10 = .ok (.iconst 1, 1) := by decide +kernel
theorem dX0_fourAt_11 : decode cX0_fourAt 11 = .ok (.iadd, 1) := by decide +kernel
theorem dX0_fourAt_12 : decode cX0_fourAt 12 = .ok (.invokevirtual 70, 3) := by decide +kernel
theorem dX0_fourAt_15 : decode cX0_fourAt 15 = .ok (.bipush 16, 2) := by decide +kernel
theorem dX0_fourAt_17 : decode cX0_fourAt 17 = .ok (.ishl, 1) := by decide +kernel
theorem dX0_fourAt_18 : decode cX0_fourAt 18 = .ok (.ior, 1) := by decide +kernel
theorem dX0_fourAt_19 : decode cX0_fourAt 19 = .ok (.aload_n 0, 1) := by decide +kernel
theorem dX0_fourAt_20 : decode cX0_fourAt 20 = .ok (.iload_n 1, 1) := by decide +kernel
theorem dX0_fourAt_21 : decode cX0_fourAt 21 = .ok (.iconst 2, 1) := by decide +kernel
theorem dX0_fourAt_22 : decode cX0_fourAt 22 = .ok (.iadd, 1) := by decide +kernel
theorem dX0_fourAt_23 : decode cX0_fourAt 23 = .ok (.invokevirtual 70, 3) := by decide +kernel
theorem dX0_fourAt_26 : decode cX0_fourAt 26 = .ok (.bipush 8, 2) := by decide +kernel
theorem dX0_fourAt_28 : decode cX0_fourAt 28 = .ok (.ishl, 1) := by decide +kernel
theorem dX0_fourAt_29 : decode cX0_fourAt 29 = .ok (.ior, 1) := by decide +kernel
theorem dX0_fourAt_30 : decode cX0_fourAt 30 = .ok (.aload_n 0, 1) := by decide +kernel
theorem dX0_fourAt_31 : decode cX0_fourAt 31 = .ok (.iload_n 1, 1) := by decide +kernel
theorem dX0_fourAt_32 : decode cX0_fourAt 32 = .ok (.iconst 3, 1) := by decide +kernel
theorem dX0_fourAt_33 : decode cX0_fourAt 33 = .ok (.iadd, 1) := by decide +kernel
theorem dX0_fourAt_34 : decode cX0_fourAt 34 = .ok (.invokevirtual 70, 3) := by decide +kernel
theorem dX0_fourAt_37 : decode cX0_fourAt 37 = .ok (.ior, 1) := by decide +kernel
theorem dX0_fourAt_38 : decode cX0_fourAt 38 = .ok (.ireturn, 1) := by decide +kernel
theorem dX1_init_0 : decode cX1_init 0 = .ok (.aload_n 0, 1) := by decide +kernel
theorem dX1_init_1 : decode cX1_init 1 = .ok (.invokespecial 3, 3) := by decide +kernel
theorem dX1_init_4 : decode cX1_init 4 = .ok (.aload_n 0, 1) := by decide +kernel
theorem dX1_init_5 : decode cX1_init 5 = .ok (.bipush 36, 2) := by decide +kernel
theorem dX1_init_7 : decode cX1_init 7 = .ok (.newarray .int, 2) := by decide +kernel
theorem dX1_init_9 : decode cX1_init 9 = .ok (.putfield 11, 3) := by decide +kernel
theorem dX1_init_12 : decode cX1_init 12 = .ok (.return_, 1) := by decide +kernel
theorem dX1_isBusy_0 : decode cX1_isBusy 0 = .ok (.aload_n 0, 1) := by decide +kernel
theorem dX1_isBusy_1 : decode cX1_isBusy 1 = .ok (.getfield 15, 3) := by decide +kernel
theorem dX1_isBusy_4 : decode cX1_isBusy 4 = .ok (.aload_n 0, 1) := by decide +kernel
theorem dX1_isBusy_5 : decode cX1_isBusy 5 = .ok (.getfield 19, 3) := by decide +kernel
theorem dX1_isBusy_8 : decode cX1_isBusy 8 = .ok (.if_icmp .ge 7, 3) := by decide +kernel
theorem dX1_isBusy_11 : decode cX1_isBusy 11 = .ok (.iconst 1, 1) := by decide +kernel
theorem dX1_isBusy_12 : decode cX1_isBusy 12 = .ok (.goto 4, 3) := by decide +kernel
theorem dX1_isBusy_15 : decode cX1_isBusy 15 = .ok (.iconst 0, 1) := by decide +kernel
theorem dX1_isBusy_16 : decode cX1_isBusy 16 = .ok (.ireturn, 1) := by decide +kernel
theorem dX1_begin_0 : decode cX1_begin 0 = .ok (.aload_n 0, 1) := by decide +kernel
theorem dX1_begin_1 : decode cX1_begin 1 = .ok (.iconst 0, 1) := by decide +kernel
theorem dX1_begin_2 : decode cX1_begin 2 = .ok (.putfield 19, 3) := by decide +kernel
theorem dX1_begin_5 : decode cX1_begin 5 = .ok (.aload_n 0, 1) := by decide +kernel
theorem dX1_begin_6 : decode cX1_begin 6 = .ok (.iconst 0, 1) := by decide +kernel
theorem dX1_begin_7 : decode cX1_begin 7 = .ok (.putfield 15, 3) := by decide +kernel
theorem dX1_begin_10 : decode cX1_begin 10 = .ok (.aload_n 0, 1) := by decide +kernel
theorem dX1_begin_11 : decode cX1_begin 11 = .ok (.iconst 0, 1) := by decide +kernel
theorem dX1_begin_12 : decode cX1_begin 12 = .ok (.putfield 22, 3) := by decide +kernel
theorem dX1_begin_15 : decode cX1_begin 15 = .ok (.iconst 0, 1) := by decide +kernel
theorem dX1_begin_16 : decode cX1_begin 16 = .ok (.istore_n 2, 1) := by decide +kernel
theorem dX1_begin_17 : decode cX1_begin 17 = .ok (.iload_n 2, 1) := by decide +kernel
theorem dX1_begin_18 : decode cX1_begin 18 = .ok (.iconst 5, 1) := by decide +kernel
theorem dX1_begin_19 : decode cX1_begin 19 = .ok (.if_icmp .ge 16, 3) := by decide +kernel
theorem dX1_begin_22 : decode cX1_begin 22 = .ok (.aload_n 0, 1) := by decide +kernel
theorem dX1_begin_23 : decode cX1_begin 23 = .ok (.sipush 255, 3) := by decide +kernel
theorem dX1_begin_26 : decode cX1_begin 26 = .ok (.invokevirtual 26, 3) := by decide +kernel
theorem dX1_begin_29 : decode cX1_begin 29 = .ok (.iinc 2 1, 3) := by decide +kernel
theorem dX1_begin_32 : decode cX1_begin 32 = .ok (.goto (-15), 3) := by decide +kernel
theorem dX1_begin_35 : decode cX1_begin 35 = .ok (.aload_n 0, 1) := by decide +kernel
theorem dX1_begin_36 : decode cX1_begin 36 = .ok (.iload_n 1, 1) := by decide +kernel
theorem dX1_begin_37 : decode cX1_begin 37 = .ok (.invokevirtual 26, 3) := by decide +kernel
theorem dX1_begin_40 : decode cX1_begin 40 = .ok (.return_, 1) := by decide +kernel
theorem dX1_add_0 : decode cX1_add 0 = .ok (.aload_n 0, 1) := by decide +kernel
theorem dX1_add_1 : decode cX1_add 1 = .ok (.getfield 19, 3) := by decide +kernel
theorem dX1_add_4 : decode cX1_add 4 = .ok (.ifCond .lt 39, 3) := by decide +kernel
theorem dX1_add_7 : decode cX1_add 7 = .ok (.aload_n 0, 1) := by decide +kernel
theorem dX1_add_8 : decode cX1_add 8 = .ok (.getfield 19, 3) := by decide +kernel
theorem dX1_add_11 : decode cX1_add 11 = .ok (.aload_n 0, 1) := by decide +kernel
theorem dX1_add_12 : decode cX1_add 12 = .ok (.getfield 11, 3) := by decide +kernel
theorem dX1_add_15 : decode cX1_add 15 = .ok (.arraylength, 1) := by decide +kernel
theorem dX1_add_16 : decode cX1_add 16 = .ok (.if_icmp .ge 27, 3) := by decide +kernel
theorem dX1_add_19 : decode cX1_add 19 = .ok (.aload_n 0, 1) := by decide +kernel
theorem dX1_add_20 : decode cX1_add 20 = .ok (.getfield 11, 3) := by decide +kernel
theorem dX1_add_23 : decode cX1_add 23 = .ok (.aload_n 0, 1) := by decide +kernel
theorem dX1_add_24 : decode cX1_add 24 = .ok (.getfield 19, 3) := by decide +kernel
theorem dX1_add_27 : decode cX1_add 27 = .ok (.iload_n 1, 1) := by decide +kernel
theorem dX1_add_28 : decode cX1_add 28 = .ok (.sipush 255, 3) := by decide +kernel
theorem dX1_add_31 : decode cX1_add 31 = .ok (.iand, 1) := by decide +kernel
theorem dX1_add_32 : decode cX1_add 32 = .ok (.iastore, 1) := by decide +kernel
theorem dX1_add_33 : decode cX1_add 33 = .ok (.aload_n 0, 1) := by decide +kernel
theorem dX1_add_34 : decode cX1_add 34 = .ok (.dup, 1) := by decide +kernel
theorem dX1_add_35 : decode cX1_add 35 = .ok (.getfield 19, 3) := by decide +kernel
theorem dX1_add_38 : decode cX1_add 38 = .ok (.iconst 1, 1) := by decide +kernel
theorem dX1_add_39 : decode cX1_add 39 = .ok (.iadd, 1) := by decide +kernel
theorem dX1_add_40 : decode cX1_add 40 = .ok (.putfield 19, 3) := by decide +kernel
theorem dX1_add_43 : decode cX1_add 43 = .ok (.return_, 1) := by decide +kernel
theorem dX1_addFour_0 : decode cX1_addFour 0 = .ok (.aload_n 0, 1) := by decide +kernel
theorem dX1_addFour_1 : decode cX1_addFour 1 = .ok (.iload_n 1, 1) := by decide +kernel
theorem dX1_addFour_2 : decode cX1_addFour 2 = .ok (.bipush 24, 2) := by decide +kernel
theorem dX1_addFour_4 : decode cX1_addFour 4 = .ok (.iushr, 1) := by decide +kernel
theorem dX1_addFour_5 : decode cX1_addFour 5 = .ok (.invokevirtual 26, 3) := by decide +kernel
theorem dX1_addFour_8 : decode cX1_addFour 8 = .ok (.aload_n 0, 1) := by decide +kernel
theorem dX1_addFour_9 : decode cX1_addFour 9 = .ok (.iload_n 1, 1) := by decide +kernel
theorem dX1_addFour_10 : decode cX1_addFour 10 = .ok (.bipush 16, 2) := by decide +kernel
theorem dX1_addFour_12 : decode cX1_addFour 12 = .ok (.iushr, 1) := by decide +kernel
theorem dX1_addFour_13 : decode cX1_addFour 13 = .ok (.invokevirtual 26, 3) := by decide +kernel
theorem dX1_addFour_16 : decode cX1_addFour 16 = .ok (.aload_n 0, 1) := by decide +kernel
theorem dX1_addFour_17 : decode cX1_addFour 17 = .ok (.iload_n 1, 1) := by decide +kernel
theorem dX1_addFour_18 : decode cX1_addFour 18 = .ok (.bipush 8, 2) := by decide +kernel
theorem dX1_addFour_20 : decode cX1_addFour 20 = .ok (.iushr, 1) := by decide +kernel
theorem dX1_addFour_21 : decode cX1_addFour 21 = .ok (.invokevirtual 26, 3) := by decide +kernel
theorem dX1_addFour_24 : decode cX1_addFour 24 = .ok (.aload_n 0, 1) := by decide +kernel
theorem dX1_addFour_25 : decode cX1_addFour 25 = .ok (.iload_n 1, 1) := by decide +kernel
theorem dX1_addFour_26 : decode cX1_addFour 26 = .ok (.invokevirtual 26, 3) := by decide +kernel
theorem dX1_addFour_29 : decode cX1_addFour 29 = .ok (.return_, 1) := by decide +kernel
theorem dX1_beginCount_0 : decode cX1_beginCount 0 = .ok (.aload_n 0, 1) := by decide +kernel
theorem dX1_beginCount_1 : decode cX1_beginCount 1 = .ok (.aload_n 0, 1) := by decide +kernel
theorem dX1_beginCount_2 : decode cX1_beginCount 2 = .ok (.getfield 19, 3) := by decide +kernel
theorem dX1_beginCount_5 : decode cX1_beginCount 5 = .ok (.putfield 30, 3) := by decide +kernel
theorem dX1_beginCount_8 : decode cX1_beginCount 8 = .ok (.aload_n 0, 1) := by decide +kernel
theorem dX1_beginCount_9 : decode cX1_beginCount 9 = .ok (.iconst 0, 1) := by decide +kernel
theorem dX1_beginCount_10 : decode cX1_beginCount 10 = .ok (.invokevirtual 26, 3) := by decide +kernel
theorem dX1_beginCount_13 : decode cX1_beginCount 13 = .ok (.return_, 1) := by decide +kernel
theorem dX1_end_0 : decode cX1_end 0 = .ok (.aload_n 0, 1) := by decide +kernel
theorem dX1_end_1 : decode cX1_end 1 = .ok (.getfield 30, 3) := by decide +kernel
theorem dX1_end_4 : decode cX1_end 4 = .ok (.ifCond .lt 35, 3) := by decide +kernel
theorem dX1_end_7 : decode cX1_end 7 = .ok (.aload_n 0, 1) := by decide +kernel
theorem dX1_end_8 : decode cX1_end 8 = .ok (.getfield 30, 3) := by decide +kernel
theorem dX1_end_11 : decode cX1_end 11 = .ok (.aload_n 0, 1) := by decide +kernel
theorem dX1_end_12 : decode cX1_end 12 = .ok (.getfield 11, 3) := by decide +kernel
theorem dX1_end_15 : decode cX1_end 15 = .ok (.arraylength, 1) := by decide +kernel
theorem dX1_end_16 : decode cX1_end 16 = .ok (.if_icmp .ge 23, 3) := by decide +kernel
theorem dX1_end_19 : decode cX1_end 19 = .ok (.aload_n 0, 1) := by decide +kernel
theorem dX1_end_20 : decode cX1_end 20 = .ok (.getfield 11, 3) := by decide +kernel
theorem dX1_end_23 : decode cX1_end 23 = .ok (.aload_n 0, 1) := by decide +kernel
theorem dX1_end_24 : decode cX1_end 24 = .ok (.getfield 30, 3) := by decide +kernel
theorem dX1_end_27 : decode cX1_end 27 = .ok (.aload_n 0, 1) := by decide +kernel
theorem dX1_end_28 : decode cX1_end 28 = .ok (.getfield 19, 3) := by decide +kernel
theorem dX1_end_31 : decode cX1_end 31 = .ok (.aload_n 0, 1) := by decide +kernel
theorem dX1_end_32 : decode cX1_end 32 = .ok (.getfield 30, 3) := by decide +kernel
theorem dX1_end_35 : decode cX1_end 35 = .ok (.isub, 1) := by decide +kernel
theorem dX1_end_36 : decode cX1_end 36 = .ok (.iconst 1, 1) := by decide +kernel
theorem dX1_end_37 : decode cX1_end 37 = .ok (.isub, 1) := by decide +kernel
theorem dX1_end_38 : decode cX1_end 38 = .ok (.iastore, 1) := by decide +kernel
theorem dX1_end_39 : decode cX1_end 39 = .ok (.iconst 0, 1) := by decide +kernel
theorem dX1_end_40 : decode cX1_end 40 = .ok (.istore_n 1, 1) := by decide +kernel
theorem dX1_end_41 : decode cX1_end 41 = .ok (.iconst 5, 1) := by decide +kernel
theorem dX1_end_42 : decode cX1_end 42 = .ok (.istore_n 2, 1) := by decide +kernel
theorem dX1_end_43 : decode cX1_end 43 = .ok (.iload_n 2, 1) := by decide +kernel
theorem dX1_end_44 : decode cX1_end 44 = .ok (.aload_n 0, 1) := by decide +kernel
theorem dX1_end_45 : decode cX1_end 45 = .ok (.getfield 19, 3) := by decide +kernel
theorem dX1_end_48 : decode cX1_end 48 = .ok (.if_icmp .ge 27, 3) := by decide +kernel
theorem dX1_end_51 : decode cX1_end 51 = .ok (.iload_n 2, 1) := by decide +kernel
theorem dX1_end_52 : decode cX1_end 52 = .ok (.aload_n 0, 1) := by decide +kernel
theorem dX1_end_53 : decode cX1_end 53 = .ok (.getfield 11, 3) := by decide +kernel
theorem dX1_end_56 : decode cX1_end 56 = .ok (.arraylength, 1) := by decide +kernel
theorem dX1_end_57 : decode cX1_end 57 = .ok (.if_icmp .ge 18, 3) := by decide +kernel
theorem dX1_end_60 : decode cX1_end 60 = .ok (.iload_n 1, 1) := by decide +kernel
theorem dX1_end_61 : decode cX1_end 61 = .ok (.aload_n 0, 1) := by decide +kernel
theorem dX1_end_62 : decode cX1_end 62 = .ok (.getfield 11, 3) := by decide +kernel
theorem dX1_end_65 : decode cX1_end 65 = .ok (.iload_n 2, 1) := by decide +kernel
theorem dX1_end_66 : decode cX1_end 66 = .ok (.iaload, 1) := by decide +kernel
theorem dX1_end_67 : decode cX1_end 67 = .ok (.ixor, 1) := by decide +kernel
theorem dX1_end_68 : decode cX1_end 68 = .ok (.istore_n 1, 1) := by decide +kernel
theorem dX1_end_69 : decode cX1_end 69 = .ok (.iinc 2 1, 3) := by decide +kernel
theorem dX1_end_72 : decode cX1_end 72 = .ok (.goto (-29), 3) := by decide +kernel
theorem dX1_end_75 : decode cX1_end 75 = .ok (.aload_n 0, 1) := by decide +kernel
theorem dX1_end_76 : decode cX1_end 76 = .ok (.iload_n 1, 1) := by decide +kernel
theorem dX1_end_77 : decode cX1_end 77 = .ok (.invokevirtual 26, 3) := by decide +kernel
theorem dX1_end_80 : decode cX1_end 80 = .ok (.return_, 1) := by decide +kernel
theorem dX1_waitOneTick_0 : decode cX1_waitOneTick 0 = .ok (.aload_n 0, 1) := by decide +kernel
theorem dX1_waitOneTick_1 : decode cX1_waitOneTick 1 = .ok (.iconst 1, 1) := by decide +kernel
theorem dX1_waitOneTick_2 : decode cX1_waitOneTick 2 = .ok (.putfield 22, 3) := by decide +kernel
theorem dX1_waitOneTick_5 : decode cX1_waitOneTick 5 = .ok (.return_, 1) := by decide +kernel
theorem dX1_takeNext_0 : decode cX1_takeNext 0 = .ok (.aload_n 0, 1) := by decide +kernel
theorem dX1_takeNext_1 : decode cX1_takeNext 1 = .ok (.getfield 22, 3) := by decide +kernel
theorem dX1_takeNext_4 : decode cX1_takeNext 4 = .ok (.ifCond .eq 10, 3) := by decide +kernel
theorem dX1_takeNext_7 : decode cX1_takeNext 7 = .ok (.aload_n 0, 1) := by decide +kernel
theorem dX1_takeNext_8 : decode cX1_takeNext 8 = .ok (.iconst 0, 1) := by decide +kernel
theorem dX1_takeNext_9 : decode cX1_takeNext 9 = .ok (.putfield 22, 3) := by decide +kernel
theorem dX1_takeNext_12 : decode cX1_takeNext 12 = .ok (.iconst (-1), 1) := by decide +kernel
theorem dX1_takeNext_13 : decode cX1_takeNext 13 = .ok (.ireturn, 1) := by decide +kernel
theorem dX1_takeNext_14 : decode cX1_takeNext 14 = .ok (.aload_n 0, 1) := by decide +kernel
theorem dX1_takeNext_15 : decode cX1_takeNext 15 = .ok (.getfield 15, 3) := by decide +kernel
theorem dX1_takeNext_18 : decode cX1_takeNext 18 = .ok (.ifCond .lt 26, 3) := by decide +kernel
theorem dX1_takeNext_21 : decode cX1_takeNext 21 = .ok (.aload_n 0, 1) := by decide +kernel
theorem dX1_takeNext_22 : decode cX1_takeNext 22 = .ok (.getfield 15, 3) := by decide +kernel
theorem dX1_takeNext_25 : decode cX1_takeNext 25 = .ok (.aload_n 0, 1) := by decide +kernel
theorem dX1_takeNext_26 : decode cX1_takeNext 26 = .ok (.getfield 19, 3) := by decide +kernel
theorem dX1_takeNext_29 : decode cX1_takeNext 29 = .ok (.if_icmp .ge 15, 3) := by decide +kernel
theorem dX1_takeNext_32 : decode cX1_takeNext 32 = .ok (.aload_n 0, 1) := by decide +kernel
theorem dX1_takeNext_33 : decode cX1_takeNext 33 = .ok (.getfield 15, 3) := by decide +kernel
theorem dX1_takeNext_36 : decode cX1_takeNext 36 = .ok (.aload_n 0, 1) := by decide +kernel
theorem dX1_takeNext_37 : decode cX1_takeNext 37 = .ok (.getfield 11, 3) := by decide +kernel
theorem dX1_takeNext_40 : decode cX1_takeNext 40 = .ok (.arraylength, 1) := by decide +kernel
theorem dX1_takeNext_41 : decode cX1_takeNext 41 = .ok (.if_icmp .lt 5, 3) := by decide +kernel
theorem dX1_takeNext_44 : decode cX1_takeNext 44 = .ok (.iconst (-1), 1) := by decide +kernel
theorem dX1_takeNext_45 : decode cX1_takeNext 45 = .ok (.ireturn, 1) := by decide +kernel
theorem dX1_takeNext_46 : decode cX1_takeNext 46 = .ok (.aload_n 0, 1) := by decide +kernel
theorem dX1_takeNext_47 : decode cX1_takeNext 47 = .ok (.getfield 11, 3) := by decide +kernel
theorem dX1_takeNext_50 : decode cX1_takeNext 50 = .ok (.aload_n 0, 1) := by decide +kernel
theorem dX1_takeNext_51 : decode cX1_takeNext 51 = .ok (.getfield 15, 3) := by decide +kernel
theorem dX1_takeNext_54 : decode cX1_takeNext 54 = .ok (.iaload, 1) := by decide +kernel
theorem dX1_takeNext_55 : decode cX1_takeNext 55 = .ok (.istore_n 1, 1) := by decide +kernel
theorem dX1_takeNext_56 : decode cX1_takeNext 56 = .ok (.aload_n 0, 1) := by decide +kernel
theorem dX1_takeNext_57 : decode cX1_takeNext 57 = .ok (.dup, 1) := by decide +kernel
theorem dX1_takeNext_58 : decode cX1_takeNext 58 = .ok (.getfield 15, 3) := by decide +kernel
theorem dX1_takeNext_61 : decode cX1_takeNext 61 = .ok (.iconst 1, 1) := by decide +kernel
theorem dX1_takeNext_62 : decode cX1_takeNext 62 = .ok (.iadd, 1) := by decide +kernel
theorem dX1_takeNext_63 : decode cX1_takeNext 63 = .ok (.putfield 15, 3) := by decide +kernel
theorem dX1_takeNext_66 : decode cX1_takeNext 66 = .ok (.iload_n 1, 1) := by decide +kernel
theorem dX1_takeNext_67 : decode cX1_takeNext 67 = .ok (.ireturn, 1) := by decide +kernel
theorem dX2_init_0 : decode cX2_init 0 = .ok (.aload_n 0, 1) := by decide +kernel
theorem dX2_init_1 : decode cX2_init 1 = .ok (.invokespecial 3, 3) := by decide +kernel
theorem dX2_init_4 : decode cX2_init 4 = .ok (.aload_n 0, 1) := by decide +kernel
theorem dX2_init_5 : decode cX2_init 5 = .ok (.iload_n 1, 1) := by decide +kernel
theorem dX2_init_6 : decode cX2_init 6 = .ok (.putfield 9, 3) := by decide +kernel
theorem dX2_init_9 : decode cX2_init 9 = .ok (.aload_n 0, 1) := by decide +kernel
theorem dX2_init_10 : decode cX2_init 10 = .ok (.iload_n 2, 1) := by decide +kernel
theorem dX2_init_11 : decode cX2_init 11 = .ok (.putfield 15, 3) := by decide +kernel
theorem dX2_init_14 : decode cX2_init 14 = .ok (.aload_n 0, 1) := by decide +kernel
theorem dX2_init_15 : decode cX2_init 15 = .ok (.iload_n 3, 1) := by decide +kernel
theorem dX2_init_16 : decode cX2_init 16 = .ok (.putfield 18, 3) := by decide +kernel
theorem dX2_init_19 : decode cX2_init 19 = .ok (.aload_n 0, 1) := by decide +kernel
theorem dX2_init_20 : decode cX2_init 20 = .ok (.sipush 10000, 3) := by decide +kernel
theorem dX2_init_23 : decode cX2_init 23 = .ok (.putfield 21, 3) := by decide +kernel
theorem dX2_init_26 : decode cX2_init 26 = .ok (.aload_n 0, 1) := by decide +kernel
theorem dX2_init_27 : decode cX2_init 27 = .ok (.iconst 3, 1) := by decide +kernel
theorem dX2_init_28 : decode cX2_init 28 = .ok (.putfield 24, 3) := by decide +kernel
theorem dX2_init_31 : decode cX2_init 31 = .ok (.aload_n 0, 1) := by decide +kernel
theorem dX2_init_32 : decode cX2_init 32 = .ok (.iconst 3, 1) := by decide +kernel
theorem dX2_init_33 : decode cX2_init 33 = .ok (.putfield 27, 3) := by decide +kernel
theorem dX2_init_36 : decode cX2_init 36 = .ok (.aload_n 0, 1) := by decide +kernel
theorem dX2_init_37 : decode cX2_init 37 = .ok (.iconst 1, 1) := by decide +kernel
theorem dX2_init_38 : decode cX2_init 38 = .ok (.putfield 30, 3) := by decide +kernel
theorem dX2_init_41 : decode cX2_init 41 = .ok (.aload_n 0, 1) := by decide +kernel
theorem dX2_init_42 : decode cX2_init 42 = .ok (.bipush 6, 2) := by decide +kernel
theorem dX2_init_44 : decode cX2_init 44 = .ok (.newarray .int, 2) := by decide +kernel
theorem dX2_init_46 : decode cX2_init 46 = .ok (.putfield 33, 3) := by decide +kernel
theorem dX2_init_49 : decode cX2_init 49 = .ok (.iconst 0, 1) := by decide +kernel
theorem dX2_init_50 : decode cX2_init 50 = .ok (.istore 4, 2) := by decide +kernel
theorem dX2_init_52 : decode cX2_init 52 = .ok (.iload 4, 2) := by decide +kernel
theorem dX2_init_54 : decode cX2_init 54 = .ok (.bipush 6, 2) := by decide +kernel
theorem dX2_init_56 : decode cX2_init 56 = .ok (.if_icmp .ge 18, 3) := by decide +kernel
theorem dX2_init_59 : decode cX2_init 59 = .ok (.aload_n 0, 1) := by decide +kernel
theorem dX2_init_60 : decode cX2_init 60 = .ok (.getfield 33, 3) := by decide +kernel
theorem dX2_init_63 : decode cX2_init 63 = .ok (.iload 4, 2) := by decide +kernel
theorem dX2_init_65 : decode cX2_init 65 = .ok (.bipush 32, 2) := by decide +kernel
theorem dX2_init_67 : decode cX2_init 67 = .ok (.iastore, 1) := by decide +kernel
theorem dX2_init_68 : decode cX2_init 68 = .ok (.iinc 4 1, 3) := by decide +kernel
theorem dX2_init_71 : decode cX2_init 71 = .ok (.goto (-19), 3) := by decide +kernel
theorem dX2_init_74 : decode cX2_init 74 = .ok (.aload_n 0, 1) := by decide +kernel
theorem dX2_init_75 : decode cX2_init 75 = .ok (.iconst 4, 1) := by decide +kernel
theorem dX2_init_76 : decode cX2_init 76 = .ok (.newarray .int, 2) := by decide +kernel
theorem dX2_init_78 : decode cX2_init 78 = .ok (.putfield 37, 3) := by decide +kernel
theorem dX2_init_81 : decode cX2_init 81 = .ok (.return_, 1) := by decide +kernel
theorem dX2_hasLongAddress_0 : decode cX2_hasLongAddress 0 = .ok (.iload_n 1, 1) := by decide +kernel
theorem dX2_hasLongAddress_1 : decode cX2_hasLongAddress 1 = .ok (.aload_n 0, 1) := by decide +kernel
theorem dX2_hasLongAddress_2 : decode cX2_hasLongAddress 2 = .ok (.getfield 9, 3) := by decide +kernel
theorem dX2_hasLongAddress_5 : decode cX2_hasLongAddress 5 = .ok (.if_icmp .ne 23, 3) := by decide +kernel
theorem dX2_hasLongAddress_8 : decode cX2_hasLongAddress 8 = .ok (.iload_n 2, 1) := by decide +kernel
theorem dX2_hasLongAddress_9 : decode cX2_hasLongAddress 9 = .ok (.aload_n 0, 1) := by decide +kernel
theorem dX2_hasLongAddress_10 : decode cX2_hasLongAddress 10 = .ok (.getfield 15, 3) := by decide +kernel
theorem dX2_hasLongAddress_13 : decode cX2_hasLongAddress 13 = .ok (.if_icmp .ne 15, 3) := by decide +kernel
theorem dX2_hasLongAddress_16 : decode cX2_hasLongAddress 16 = .ok (.iload_n 3, 1) := by decide +kernel
theorem dX2_hasLongAddress_17 : decode cX2_hasLongAddress 17 = .ok (.aload_n 0, 1) := by decide +kernel
theorem dX2_hasLongAddress_18 : decode cX2_hasLongAddress 18 = .ok (.getfield 18, 3) := by decide +kernel
theorem dX2_hasLongAddress_21 : decode cX2_hasLongAddress 21 = .ok (.if_icmp .ne 7, 3) := by decide +kernel
theorem dX2_hasLongAddress_24 : decode cX2_hasLongAddress 24 = .ok (.iconst 1, 1) := by decide +kernel
theorem dX2_hasLongAddress_25 : decode cX2_hasLongAddress 25 = .ok (.goto 4, 3) := by decide +kernel
theorem dX2_hasLongAddress_28 : decode cX2_hasLongAddress 28 = .ok (.iconst 0, 1) := by decide +kernel
theorem dX2_hasLongAddress_29 : decode cX2_hasLongAddress 29 = .ok (.ireturn, 1) := by decide +kernel
theorem dX2_tagByte_0 : decode cX2_tagByte 0 = .ok (.iload_n 1, 1) := by decide +kernel
theorem dX2_tagByte_1 : decode cX2_tagByte 1 = .ok (.ifCond .lt 21, 3) := by decide +kernel
theorem dX2_tagByte_4 : decode cX2_tagByte 4 = .ok (.iload_n 1, 1) := by decide +kernel
theorem dX2_tagByte_5 : decode cX2_tagByte 5 = .ok (.aload_n 0, 1) := by decide +kernel
theorem dX2_tagByte_6 : decode cX2_tagByte 6 = .ok (.getfield 33, 3) := by decide +kernel
theorem dX2_tagByte_9 : decode cX2_tagByte 9 = .ok (.arraylength, 1) := by decide +kernel
theorem dX2_tagByte_10 : decode cX2_tagByte 10 = .ok (.if_icmp .ge 12, 3) := by decide +kernel
theorem dX2_tagByte_13 : decode cX2_tagByte 13 = .ok (.aload_n 0, 1) := by decide +kernel
theorem dX2_tagByte_14 : decode cX2_tagByte 14 = .ok (.getfield 33, 3) := by decide +kernel
theorem dX2_tagByte_17 : decode cX2_tagByte 17 = .ok (.iload_n 1, 1) := by decide +kernel
theorem dX2_tagByte_18 : decode cX2_tagByte 18 = .ok (.iaload, 1) := by decide +kernel
theorem dX2_tagByte_19 : decode cX2_tagByte 19 = .ok (.goto 4, 3) := by decide +kernel
theorem dX2_tagByte_22 : decode cX2_tagByte 22 = .ok (.iconst (-1), 1) := by decide +kernel
theorem dX2_tagByte_23 : decode cX2_tagByte 23 = .ok (.ireturn, 1) := by decide +kernel
theorem dX2_setTagByte_0 : decode cX2_setTagByte 0 = .ok (.iload_n 1, 1) := by decide +kernel
theorem dX2_setTagByte_1 : decode cX2_setTagByte 1 = .ok (.ifCond .lt 19, 3) := by decide +kernel
theorem dX2_setTagByte_4 : decode cX2_setTagByte 4 = .ok (.iload_n 1, 1) := by decide +kernel
theorem dX2_setTagByte_5 : decode cX2_setTagByte 5 = .ok (.aload_n 0, 1) := by decide +kernel
theorem dX2_setTagByte_6 : decode cX2_setTagByte 6 = .ok (.getfield 33, 3) := by decide +kernel
theorem dX2_setTagByte_9 : decode cX2_setTagByte 9 = .ok (.arraylength, 1) := by decide +kernel
theorem dX2_setTagByte_10 : decode cX2_setTagByte 10 = .ok (.if_icmp .ge 10, 3) := by decide +kernel
theorem dX2_setTagByte_13 : decode cX2_setTagByte 13 = .ok (.aload_n 0, 1) := by decide +kernel
theorem dX2_setTagByte_14 : decode cX2_setTagByte 14 = .ok (.getfield 33, 3) := by decide +kernel
theorem dX2_setTagByte_17 : decode cX2_setTagByte 17 = .ok (.iload_n 1, 1) := by decide +kernel
theorem dX2_setTagByte_18 : decode cX2_setTagByte 18 = .ok (.iload_n 2, 1) := by decide +kernel
theorem dX2_setTagByte_19 : decode cX2_setTagByte 19 = .ok (.iastore, 1) := by decide +kernel
theorem dX2_setTagByte_20 : decode cX2_setTagByte 20 = .ok (.return_, 1) := by decide +kernel
theorem dX2_variableAt_0 : decode cX2_variableAt 0 = .ok (.iload_n 1, 1) := by decide +kernel
theorem dX2_variableAt_1 : decode cX2_variableAt 1 = .ok (.ifCond .lt 21, 3) := by decide +kernel
theorem dX2_variableAt_4 : decode cX2_variableAt 4 = .ok (.iload_n 1, 1) := by decide +kernel
theorem dX2_variableAt_5 : decode cX2_variableAt 5 = .ok (.aload_n 0, 1) := by decide +kernel
theorem dX2_variableAt_6 : decode cX2_variableAt 6 = .ok (.getfield 37, 3) := by decide +kernel
theorem dX2_variableAt_9 : decode cX2_variableAt 9 = .ok (.arraylength, 1) := by decide +kernel
theorem dX2_variableAt_10 : decode cX2_variableAt 10 = .ok (.if_icmp .ge 12, 3) := by decide +kernel
theorem dX2_variableAt_13 : decode cX2_variableAt 13 = .ok (.aload_n 0, 1) := by decide +kernel
theorem dX2_variableAt_14 : decode cX2_variableAt 14 = .ok (.getfield 37, 3) := by decide +kernel
theorem dX2_variableAt_17 : decode cX2_variableAt 17 = .ok (.iload_n 1, 1) := by decide +kernel
theorem dX2_variableAt_18 : decode cX2_variableAt 18 = .ok (.iaload, 1) := by decide +kernel
theorem dX2_variableAt_19 : decode cX2_variableAt 19 = .ok (.goto 4, 3) := by decide +kernel
theorem dX2_variableAt_22 : decode cX2_variableAt 22 = .ok (.iconst 0, 1) := by decide +kernel
theorem dX2_variableAt_23 : decode cX2_variableAt 23 = .ok (.ireturn, 1) := by decide +kernel
theorem dX2_setVariable_0 : decode cX2_setVariable 0 = .ok (.iload_n 1, 1) := by decide +kernel
theorem dX2_setVariable_1 : decode cX2_setVariable 1 = .ok (.ifCond .lt 19, 3) := by decide +kernel
theorem dX2_setVariable_4 : decode cX2_setVariable 4 = .ok (.iload_n 1, 1) := by decide +kernel
theorem dX2_setVariable_5 : decode cX2_setVariable 5 = .ok (.aload_n 0, 1) := by decide +kernel
theorem dX2_setVariable_6 : decode cX2_setVariable 6 = .ok (.getfield 37, 3) := by decide +kernel
theorem dX2_setVariable_9 : decode cX2_setVariable 9 = .ok (.arraylength, 1) := by decide +kernel
theorem dX2_setVariable_10 : decode cX2_setVariable 10 = .ok (.if_icmp .ge 10, 3) := by decide +kernel
theorem dX2_setVariable_13 : decode cX2_setVariable 13 = .ok (.aload_n 0, 1) := by decide +kernel
theorem dX2_setVariable_14 : decode cX2_setVariable 14 = .ok (.getfield 37, 3) := by decide +kernel
theorem dX2_setVariable_17 : decode cX2_setVariable 17 = .ok (.iload_n 1, 1) := by decide +kernel
theorem dX2_setVariable_18 : decode cX2_setVariable 18 = .ok (.iload_n 2, 1) := by decide +kernel
theorem dX2_setVariable_19 : decode cX2_setVariable 19 = .ok (.iastore, 1) := by decide +kernel
theorem dX2_setVariable_20 : decode cX2_setVariable 20 = .ok (.return_, 1) := by decide +kernel
theorem dX2_statusFor_0 : decode cX2_statusFor 0 = .ok (.aload_n 0, 1) := by decide +kernel
theorem dX2_statusFor_1 : decode cX2_statusFor 1 = .ok (.iconst 0, 1) := by decide +kernel
theorem dX2_statusFor_2 : decode cX2_statusFor 2 = .ok (.invokevirtual 40, 3) := by decide +kernel
theorem dX2_statusFor_5 : decode cX2_statusFor 5 = .ok (.istore_n 2, 1) := by decide +kernel
theorem dX2_statusFor_6 : decode cX2_statusFor 6 = .ok (.aload_n 0, 1) := by decide +kernel
theorem dX2_statusFor_7 : decode cX2_statusFor 7 = .ok (.getfield 44, 3) := by decide +kernel
theorem dX2_statusFor_10 : decode cX2_statusFor 10 = .ok (.ifCond .eq 9, 3) := by decide +kernel
theorem dX2_statusFor_13 : decode cX2_statusFor 13 = .ok (.sipush 128, 3) := by decide +kernel
theorem dX2_statusFor_16 : decode cX2_statusFor 16 = .ok (.goto 4, 3) := by decide +kernel
theorem dX2_statusFor_19 : decode cX2_statusFor 19 = .ok (.iconst 0, 1) := by decide +kernel
theorem dX2_statusFor_20 : decode cX2_statusFor 20 = .ok (.istore_n 3, 1) := by decide +kernel
theorem dX2_statusFor_21 : decode cX2_statusFor 21 = .ok (.iload_n 3, 1) := by decide +kernel
theorem dX2_statusFor_22 : decode cX2_statusFor 22 = .ok (.aload_n 0, 1) := by decide +kernel
theorem dX2_statusFor_23 : decode cX2_statusFor 23 = .ok (.getfield 24, 3) := by decide +kernel
theorem dX2_statusFor_26 : decode cX2_statusFor 26 = .ok (.iload_n 1, 1) := by decide +kernel
theorem dX2_statusFor_27 : decode cX2_statusFor 27 = .ok (.ishr, 1) := by decide +kernel
theorem dX2_statusFor_28 : decode cX2_statusFor 28 = .ok (.iconst 1, 1) := by decide +kernel
theorem dX2_statusFor_29 : decode cX2_statusFor 29 = .ok (.iand, 1) := by decide +kernel
theorem dX2_statusFor_30 : decode cX2_statusFor 30 = .ok (.ifCond .eq 8, 3) := by decide +kernel
theorem dX2_statusFor_33 : decode cX2_statusFor 33 = .ok (.bipush 64, 2) := by decide +kernel
theorem dX2_statusFor_35 : decode cX2_statusFor 35 = .ok (.goto 4, 3) := by decide +kernel
theorem dX2_statusFor_38 : decode cX2_statusFor 38 = .ok (.iconst 0, 1) := by decide +kernel
theorem dX2_statusFor_39 : decode cX2_statusFor 39 = .ok (.ior, 1) := by decide +kernel
theorem dX2_statusFor_40 : decode cX2_statusFor 40 = .ok (.istore_n 3, 1) := by decide +kernel
theorem dX2_statusFor_41 : decode cX2_statusFor 41 = .ok (.iload_n 3, 1) := by decide +kernel
theorem dX2_statusFor_42 : decode cX2_statusFor 42 = .ok (.aload_n 0, 1) := by decide +kernel
theorem dX2_statusFor_43 : decode cX2_statusFor 43 = .ok (.getfield 27, 3) := by decide +kernel
theorem dX2_statusFor_46 : decode cX2_statusFor 46 = .ok (.iload_n 1, 1) := by decide +kernel
theorem dX2_statusFor_47 : decode cX2_statusFor 47 = .ok (.ishr, 1) := by decide +kernel
theorem dX2_statusFor_48 : decode cX2_statusFor 48 = .ok (.iconst 1, 1) := by decide +kernel
theorem dX2_statusFor_49 : decode cX2_statusFor 49 = .ok (.iand, 1) := by decide +kernel
theorem dX2_statusFor_50 : decode cX2_statusFor 50 = .ok (.ifCond .eq 8, 3) := by decide +kernel
theorem dX2_statusFor_53 : decode cX2_statusFor 53 = .ok (.bipush 32, 2) := by decide +kernel
theorem dX2_statusFor_55 : decode cX2_statusFor 55 = .ok (.goto 4, 3) := by decide +kernel
theorem dX2_statusFor_58 : decode cX2_statusFor 58 = .ok (.iconst 0, 1) := by decide +kernel
theorem dX2_statusFor_59 : decode cX2_statusFor 59 = .ok (.ior, 1) := by decide +kernel
theorem dX2_statusFor_60 : decode cX2_statusFor 60 = .ok (.istore_n 3, 1) := by decide +kernel
theorem dX2_statusFor_61 : decode cX2_statusFor 61 = .ok (.iload_n 3, 1) := by decide +kernel
theorem dX2_statusFor_62 : decode cX2_statusFor 62 = .ok (.iload_n 2, 1) := by decide +kernel
theorem dX2_statusFor_63 : decode cX2_statusFor 63 = .ok (.aload_n 0, 1) := by decide +kernel
theorem dX2_statusFor_64 : decode cX2_statusFor 64 = .ok (.getfield 48, 3) := by decide +kernel
theorem dX2_statusFor_67 : decode cX2_statusFor 67 = .ok (.if_icmp .lt 11, 3) := by decide +kernel
theorem dX2_statusFor_70 : decode cX2_statusFor 70 = .ok (.iload_n 2, 1) := by decide +kernel
theorem dX2_statusFor_71 : decode cX2_statusFor 71 = .ok (.aload_n 0, 1) := by decide +kernel
theorem dX2_statusFor_72 : decode cX2_statusFor 72 = .ok (.getfield 21, 3) := by decide +kernel
theorem dX2_statusFor_75 : decode cX2_statusFor 75 = .ok (.if_icmp .le 8, 3) := by decide +kernel
theorem dX2_statusFor_78 : decode cX2_statusFor 78 = .ok (.bipush 8, 2) := by decide +kernel
theorem dX2_statusFor_80 : decode cX2_statusFor 80 = .ok (.goto 4, 3) := by decide +kernel
theorem dX2_statusFor_83 : decode cX2_statusFor 83 = .ok (.iconst 0, 1) := by decide +kernel
theorem dX2_statusFor_84 : decode cX2_statusFor 84 = .ok (.ior, 1) := by decide +kernel
theorem dX2_statusFor_85 : decode cX2_statusFor 85 = .ok (.istore_n 3, 1) := by decide +kernel
theorem dX2_statusFor_86 : decode cX2_statusFor 86 = .ok (.iload_n 3, 1) := by decide +kernel
theorem dX2_statusFor_87 : decode cX2_statusFor 87 = .ok (.ireturn, 1) := by decide +kernel
theorem dX2_level_0 : decode cX2_level 0 = .ok (.aload_n 0, 1) := by decide +kernel
theorem dX2_level_1 : decode cX2_level 1 = .ok (.getfield 21, 3) := by decide +kernel
theorem dX2_level_4 : decode cX2_level 4 = .ok (.i2l, 1) := by decide +kernel
theorem dX2_level_5 : decode cX2_level 5 = .ok (.aload_n 0, 1) := by decide +kernel
theorem dX2_level_6 : decode cX2_level 6 = .ok (.getfield 48, 3) := by decide +kernel
theorem dX2_level_9 : decode cX2_level 9 = .ok (.i2l, 1) := by decide +kernel
theorem dX2_level_10 : decode cX2_level 10 = .ok (.lsub, 1) := by decide +kernel
theorem dX2_level_11 : decode cX2_level 11 = .ok (.lstore_n 1, 1) := by decide +kernel
theorem dX2_level_12 : decode cX2_level 12 = .ok (.lload_n 1, 1) := by decide +kernel
theorem dX2_level_13 : decode cX2_level 13 = .ok (.lconst 0, 1) := by decide +kernel
theorem dX2_level_14 : decode cX2_level 14 = .ok (.lcmp, 1) := by decide +kernel
theorem dX2_level_15 : decode cX2_level 15 = .ok (.ifCond .gt 7, 3) := by decide +kernel
theorem dX2_level_18 : decode cX2_level 18 = .ok (.sipush 3800, 3) := by decide +kernel
theorem dX2_level_21 : decode cX2_level 21 = .ok (.ireturn, 1) := by decide +kernel
theorem dX2_level_22 : decode cX2_level 22 = .ok (.aload_n 0, 1) := by decide +kernel
theorem dX2_level_23 : decode cX2_level 23 = .ok (.iconst 0, 1) := by decide +kernel
theorem dX2_level_24 : decode cX2_level 24 = .ok (.invokevirtual 40, 3) := by decide +kernel
theorem dX2_level_27 : decode cX2_level 27 = .ok (.i2l, 1) := by decide +kernel
theorem dX2_level_28 : decode cX2_level 28 = .ok (.aload_n 0, 1) := by decide +kernel
theorem dX2_level_29 : decode cX2_level 29 = .ok (.getfield 48, 3) := by decide +kernel
theorem dX2_level_32 : decode cX2_level 32 = .ok (.i2l, 1) := by decide +kernel
theorem dX2_level_33 : decode cX2_level 33 = .ok (.lsub, 1) := by decide +kernel
theorem dX2_level_34 : decode cX2_level 34 = .ok (.ldc2_w 51, 3) := by decide +kernel
theorem dX2_level_37 : decode cX2_level 37 = .ok (.lmul, 1) := by decide +kernel
theorem dX2_level_38 : decode cX2_level 38 = .ok (.lload_n 1, 1) := by decide +kernel
theorem dX2_level_39 : decode cX2_level 39 = .ok (.ldiv, 1) := by decide +kernel
theorem dX2_level_40 : decode cX2_level 40 = .ok (.ldc2_w 53, 3) := by decide +kernel
theorem dX2_level_43 : decode cX2_level 43 = .ok (.ladd, 1) := by decide +kernel
theorem dX2_level_44 : decode cX2_level 44 = .ok (.lstore_n 3, 1) := by decide +kernel
theorem dX2_level_45 : decode cX2_level 45 = .ok (.ldc2_w 55, 3) := by decide +kernel
theorem dX2_level_48 : decode cX2_level 48 = .ok (.ldc2_w 57, 3) := by decide +kernel
theorem dX2_level_51 : decode cX2_level 51 = .ok (.lload_n 3, 1) := by decide +kernel
theorem dX2_level_52 : decode cX2_level 52 = .ok (.invokestatic 59, 3) := by decide +kernel
theorem dX2_level_55 : decode cX2_level 55 = .ok (.invokestatic 65, 3) := by decide +kernel
theorem dX2_level_58 : decode cX2_level 58 = .ok (.l2i, 1) := by decide +kernel
theorem dX2_level_59 : decode cX2_level 59 = .ok (.ireturn, 1) := by decide +kernel
theorem dX3_init_0 : decode cX3_init 0 = .ok (.aload_n 0, 1) := by decide +kernel
theorem dX3_init_1 : decode cX3_init 1 = .ok (.invokespecial 3, 3) := by decide +kernel
theorem dX3_init_4 : decode cX3_init 4 = .ok (.aload_n 0, 1) := by decide +kernel
theorem dX3_init_5 : decode cX3_init 5 = .ok (.sipush 2000, 3) := by decide +kernel
theorem dX3_init_8 : decode cX3_init 8 = .ok (.newarray .int, 2) := by decide +kernel
theorem dX3_init_10 : decode cX3_init 10 = .ok (.putfield 11, 3) := by decide +kernel
theorem dX3_init_13 : decode cX3_init 13 = .ok (.aload_n 0, 1) := by decide +kernel
theorem dX3_init_14 : decode cX3_init 14 = .ok (.sipush 2000, 3) := by decide +kernel
theorem dX3_init_17 : decode cX3_init 17 = .ok (.newarray .int, 2) := by decide +kernel
theorem dX3_init_19 : decode cX3_init 19 = .ok (.putfield 15, 3) := by decide +kernel
theorem dX3_init_22 : decode cX3_init 22 = .ok (.return_, 1) := by decide +kernel
theorem dX3_add_0 : decode cX3_add 0 = .ok (.aload_n 0, 1) := by decide +kernel
theorem dX3_add_1 : decode cX3_add 1 = .ok (.getfield 18, 3) := by decide +kernel
theorem dX3_add_4 : decode cX3_add 4 = .ok (.sipush 2000, 3) := by decide +kernel
theorem dX3_add_7 : decode cX3_add 7 = .ok (.irem, 1) := by decide +kernel
theorem dX3_add_8 : decode cX3_add 8 = .ok (.istore_n 3, 1) := by decide +kernel
theorem dX3_add_9 : decode cX3_add 9 = .ok (.iload_n 3, 1) := by decide +kernel
theorem dX3_add_10 : decode cX3_add 10 = .ok (.ifCond .lt 45, 3) := by decide +kernel
theorem dX3_add_13 : decode cX3_add 13 = .ok (.iload_n 3, 1) := by decide +kernel
theorem dX3_add_14 : decode cX3_add 14 = .ok (.aload_n 0, 1) := by decide +kernel
theorem dX3_add_15 : decode cX3_add 15 = .ok (.getfield 11, 3) := by decide +kernel
theorem dX3_add_18 : decode cX3_add 18 = .ok (.arraylength, 1) := by decide +kernel
theorem dX3_add_19 : decode cX3_add 19 = .ok (.if_icmp .ge 36, 3) := by decide +kernel
theorem dX3_add_22 : decode cX3_add 22 = .ok (.iload_n 3, 1) := by decide +kernel
theorem dX3_add_23 : decode cX3_add 23 = .ok (.aload_n 0, 1) := by decide +kernel
theorem dX3_add_24 : decode cX3_add 24 = .ok (.getfield 15, 3) := by decide +kernel
theorem dX3_add_27 : decode cX3_add 27 = .ok (.arraylength, 1) := by decide +kernel
theorem dX3_add_28 : decode cX3_add 28 = .ok (.if_icmp .ge 27, 3) := by decide +kernel
theorem dX3_add_31 : decode cX3_add 31 = .ok (.aload_n 0, 1) := by decide +kernel
theorem dX3_add_32 : decode cX3_add 32 = .ok (.getfield 11, 3) := by decide +kernel
theorem dX3_add_35 : decode cX3_add 35 = .ok (.iload_n 3, 1) := by decide +kernel
theorem dX3_add_36 : decode cX3_add 36 = .ok (.iload_n 1, 1) := by decide +kernel
theorem dX3_add_37 : decode cX3_add 37 = .ok (.iastore, 1) := by decide +kernel
theorem dX3_add_38 : decode cX3_add 38 = .ok (.aload_n 0, 1) := by decide +kernel
theorem dX3_add_39 : decode cX3_add 39 = .ok (.getfield 15, 3) := by decide +kernel
theorem dX3_add_42 : decode cX3_add 42 = .ok (.iload_n 3, 1) := by decide +kernel
theorem dX3_add_43 : decode cX3_add 43 = .ok (.iload_n 2, 1) := by decide +kernel
theorem dX3_add_44 : decode cX3_add 44 = .ok (.iastore, 1) := by decide +kernel
theorem dX3_add_45 : decode cX3_add 45 = .ok (.aload_n 0, 1) := by decide +kernel
theorem dX3_add_46 : decode cX3_add 46 = .ok (.dup, 1) := by decide +kernel
theorem dX3_add_47 : decode cX3_add 47 = .ok (.getfield 18, 3) := by decide +kernel
theorem dX3_add_50 : decode cX3_add 50 = .ok (.iconst 1, 1) := by decide +kernel
theorem dX3_add_51 : decode cX3_add 51 = .ok (.iadd, 1) := by decide +kernel
theorem dX3_add_52 : decode cX3_add 52 = .ok (.putfield 18, 3) := by decide +kernel
theorem dX3_add_55 : decode cX3_add 55 = .ok (.return_, 1) := by decide +kernel
theorem dX3_byteAt_0 : decode cX3_byteAt 0 = .ok (.aload_n 0, 1) := by decide +kernel
theorem dX3_byteAt_1 : decode cX3_byteAt 1 = .ok (.iload_n 1, 1) := by decide +kernel
theorem dX3_byteAt_2 : decode cX3_byteAt 2 = .ok (.invokevirtual 22, 3) := by decide +kernel
theorem dX3_byteAt_5 : decode cX3_byteAt 5 = .ok (.istore_n 2, 1) := by decide +kernel
theorem dX3_byteAt_6 : decode cX3_byteAt 6 = .ok (.iload_n 2, 1) := by decide +kernel
theorem dX3_byteAt_7 : decode cX3_byteAt 7 = .ok (.ifCond .lt 21, 3) := by decide +kernel
theorem dX3_byteAt_10 : decode cX3_byteAt 10 = .ok (.iload_n 2, 1) := by decide +kernel
theorem dX3_byteAt_11 : decode cX3_byteAt 11 = .ok (.aload_n 0, 1) := by decide +kernel
theorem dX3_byteAt_12 : decode cX3_byteAt 12 = .ok (.getfield 11, 3) := by decide +kernel
theorem dX3_byteAt_15 : decode cX3_byteAt 15 = .ok (.arraylength, 1) := by decide +kernel
theorem dX3_byteAt_16 : decode cX3_byteAt 16 = .ok (.if_icmp .ge 12, 3) := by decide +kernel
theorem dX3_byteAt_19 : decode cX3_byteAt 19 = .ok (.aload_n 0, 1) := by decide +kernel
theorem dX3_byteAt_20 : decode cX3_byteAt 20 = .ok (.getfield 11, 3) := by decide +kernel
theorem dX3_byteAt_23 : decode cX3_byteAt 23 = .ok (.iload_n 2, 1) := by decide +kernel
theorem dX3_byteAt_24 : decode cX3_byteAt 24 = .ok (.iaload, 1) := by decide +kernel
theorem dX3_byteAt_25 : decode cX3_byteAt 25 = .ok (.goto 4, 3) := by decide +kernel
theorem dX3_byteAt_28 : decode cX3_byteAt 28 = .ok (.iconst (-1), 1) := by decide +kernel
theorem dX3_byteAt_29 : decode cX3_byteAt 29 = .ok (.ireturn, 1) := by decide +kernel
theorem dX3_tickAt_0 : decode cX3_tickAt 0 = .ok (.aload_n 0, 1) := by decide +kernel
theorem dX3_tickAt_1 : decode cX3_tickAt 1 = .ok (.iload_n 1, 1) := by decide +kernel
theorem dX3_tickAt_2 : decode cX3_tickAt 2 = .ok (.invokevirtual 22, 3) := by decide +kernel
theorem dX3_tickAt_5 : decode cX3_tickAt 5 = .ok (.istore_n 2, 1) := by decide +kernel
theorem dX3_tickAt_6 : decode cX3_tickAt 6 = .ok (.iload_n 2, 1) := by decide +kernel
theorem dX3_tickAt_7 : decode cX3_tickAt 7 = .ok (.ifCond .lt 21, 3) := by decide +kernel
theorem dX3_tickAt_10 : decode cX3_tickAt 10 = .ok (.iload_n 2, 1) := by decide +kernel
theorem dX3_tickAt_11 : decode cX3_tickAt 11 = .ok (.aload_n 0, 1) := by decide +kernel
theorem dX3_tickAt_12 : decode cX3_tickAt 12 = .ok (.getfield 15, 3) := by decide +kernel
theorem dX3_tickAt_15 : decode cX3_tickAt 15 = .ok (.arraylength, 1) := by decide +kernel
theorem dX3_tickAt_16 : decode cX3_tickAt 16 = .ok (.if_icmp .ge 12, 3) := by decide +kernel
theorem dX3_tickAt_19 : decode cX3_tickAt 19 = .ok (.aload_n 0, 1) := by decide +kernel
theorem dX3_tickAt_20 : decode cX3_tickAt 20 = .ok (.getfield 15, 3) := by decide +kernel
theorem dX3_tickAt_23 : decode cX3_tickAt 23 = .ok (.iload_n 2, 1) := by decide +kernel
theorem dX3_tickAt_24 : decode cX3_tickAt 24 = .ok (.iaload, 1) := by decide +kernel
theorem dX3_tickAt_25 : decode cX3_tickAt 25 = .ok (.goto 4, 3) := by decide +kernel
theorem dX3_tickAt_28 : decode cX3_tickAt 28 = .ok (.iconst (-1), 1) := by decide +kernel
theorem dX3_tickAt_29 : decode cX3_tickAt 29 = .ok (.ireturn, 1) := by decide +kernel
theorem dX3_placeOf_0 : decode cX3_placeOf 0 = .ok (.iload_n 1, 1) := by decide +kernel
theorem dX3_placeOf_1 : decode cX3_placeOf 1 = .ok (.ifCond .lt 23, 3) := by decide +kernel
theorem dX3_placeOf_4 : decode cX3_placeOf 4 = .ok (.iload_n 1, 1) := by decide +kernel
theorem dX3_placeOf_5 : decode cX3_placeOf 5 = .ok (.aload_n 0, 1) := by decide +kernel
theorem dX3_placeOf_6 : decode cX3_placeOf 6 = .ok (.getfield 18, 3) := by decide +kernel
theorem dX3_placeOf_9 : decode cX3_placeOf 9 = .ok (.if_icmp .ge 15, 3) := by decide +kernel
theorem dX3_placeOf_12 : decode cX3_placeOf 12 = .ok (.iload_n 1, 1) := by decide +kernel
theorem dX3_placeOf_13 : decode cX3_placeOf 13 = .ok (.aload_n 0, 1) := by decide +kernel
theorem dX3_placeOf_14 : decode cX3_placeOf 14 = .ok (.getfield 18, 3) := by decide +kernel
theorem dX3_placeOf_17 : decode cX3_placeOf 17 = .ok (.sipush 2000, 3) := by decide +kernel
theorem dX3_placeOf_20 : decode cX3_placeOf 20 = .ok (.isub, 1) := by decide +kernel
theorem dX3_placeOf_21 : decode cX3_placeOf 21 = .ok (.if_icmp .ge 7, 3) := by decide +kernel
theorem dX3_placeOf_24 : decode cX3_placeOf 24 = .ok (.iconst (-1), 1) := by decide +kernel
theorem dX3_placeOf_25 : decode cX3_placeOf 25 = .ok (.goto 8, 3) := by decide +kernel
theorem dX3_placeOf_28 : decode cX3_placeOf 28 = .ok (.iload_n 1, 1) := by decide +kernel
theorem dX3_placeOf_29 : decode cX3_placeOf 29 = .ok (.sipush 2000, 3) := by decide +kernel
theorem dX3_placeOf_32 : decode cX3_placeOf 32 = .ok (.irem, 1) := by decide +kernel
theorem dX3_placeOf_33 : decode cX3_placeOf 33 = .ok (.ireturn, 1) := by decide +kernel
