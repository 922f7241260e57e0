theorem dX5_init_0 : decode cX5_init 0 = .ok (.aload_n 0, 1) := by decide +kernel
theorem dX5_init_1 : decode cX5_init 1 = .ok (.invokespecial 1, 3) := by decide +kernel
theorem dX5_init_4 : decode cX5_init 4 = .ok (.aload_n 0, 1) := by decide +kernel
theorem dX5_init_5 : decode cX5_init 5 = .ok (.iconst 5, 1) := by decide +kernel
theorem dX5_init_6 : decode cX5_init 6 = .ok (.newarray .int, 2) := by decide +kernel
theorem dX5_init_8 : decode cX5_init 8 = .ok (.putfield 7, 3) := by decide +kernel
theorem dX5_init_11 : decode cX5_init 11 = .ok (.aload_n 0, 1) := by decide +kernel
theorem dX5_init_12 : decode cX5_init 12 = .ok (.bipush 6, 2) := by decide +kernel
theorem dX5_init_14 : decode cX5_init 14 = .ok (.newarray .int, 2) := by decide +kernel
theorem dX5_init_16 : decode cX5_init 16 = .ok (.putfield 13, 3) := by decide +kernel
theorem dX5_init_19 : decode cX5_init 19 = .ok (.aload_n 0, 1) := by decide +kernel
theorem dX5_init_20 : decode cX5_init 20 = .ok (.iconst 4, 1) := by decide +kernel
theorem dX5_init_21 : decode cX5_init 21 = .ok (.newarray .int, 2) := by decide +kernel
theorem dX5_init_23 : decode cX5_init 23 = .ok (.putfield 16, 3) := by decide +kernel
theorem dX5_init_26 : decode cX5_init 26 = .ok (.aload_n 0, 1) := by decide +kernel
theorem dX5_init_27 : decode cX5_init 27 = .ok (.sipush 10000, 3) := by decide +kernel
theorem dX5_init_30 : decode cX5_init 30 = .ok (.putfield 19, 3) := by decide +kernel
theorem dX5_init_33 : decode cX5_init 33 = .ok (.aload_n 0, 1) := by decide +kernel
theorem dX5_init_34 : decode cX5_init 34 = .ok (.iconst 2, 1) := by decide +kernel
theorem dX5_init_35 : decode cX5_init 35 = .ok (.newarray .boolean, 2) := by decide +kernel
theorem dX5_init_37 : decode cX5_init 37 = .ok (.dup, 1) := by decide +kernel
theorem dX5_init_38 : decode cX5_init 38 = .ok (.iconst 0, 1) := by decide +kernel
theorem dX5_init_39 : decode cX5_init 39 = .ok (.iconst 1, 1) := by decide +kernel
theorem dX5_init_40 : decode cX5_init 40 = .ok (.bastore, 1) := by decide +kernel
theorem dX5_init_41 : decode cX5_init 41 = .ok (.dup, 1) := by decide +kernel
theorem dX5_init_42 : decode cX5_init 42 = .ok (.iconst 1, 1) := by decide +kernel
theorem dX5_init_43 : decode cX5_init 43 = .ok (.iconst 1, 1) := by decide +kernel
theorem dX5_init_44 : decode cX5_init 44 = .ok (.bastore, 1) := by decide +kernel
theorem dX5_init_45 : decode cX5_init 45 = .ok (.putfield 23, 3) := by decide +kernel
theorem dX5_init_48 : decode cX5_init 48 = .ok (.aload_n 0, 1) := by decide +kernel
theorem dX5_init_49 : decode cX5_init 49 = .ok (.iconst 2, 1) := by decide +kernel
theorem dX5_init_50 : decode cX5_init 50 = .ok (.newarray .boolean, 2) := by decide +kernel
theorem dX5_init_52 : decode cX5_init 52 = .ok (.dup, 1) := by decide +kernel
theorem dX5_init_53 : decode cX5_init 53 = .ok (.iconst 0, 1) := by decide +kernel
theorem dX5_init_54 : decode cX5_init 54 = .ok (.iconst 1, 1) := by decide +kernel
theorem dX5_init_55 : decode cX5_init 55 = .ok (.bastore, 1) := by decide +kernel
theorem dX5_init_56 : decode cX5_init 56 = .ok (.dup, 1) := by decide +kernel
theorem dX5_init_57 : decode cX5_init 57 = .ok (.iconst 1, 1) := by decide +kernel
theorem dX5_init_58 : decode cX5_init 58 = .ok (.iconst 1, 1) := by decide +kernel
theorem dX5_init_59 : decode cX5_init 59 = .ok (.bastore, 1) := by decide +kernel
theorem dX5_init_60 : decode cX5_init 60 = .ok (.putfield 27, 3) := by decide +kernel
theorem dX5_init_63 : decode cX5_init 63 = .ok (.aload_n 0, 1) := by decide +kernel
theorem dX5_init_64 : decode cX5_init 64 = .ok (.iconst 1, 1) := by decide +kernel
theorem dX5_init_65 : decode cX5_init 65 = .ok (.putfield 30, 3) := by decide +kernel
theorem dX5_init_68 : decode cX5_init 68 = .ok (.aload_n 0, 1) := by decide +kernel
theorem dX5_init_69 : decode cX5_init 69 = .ok (.bipush 40, 2) := by decide +kernel
theorem dX5_init_71 : decode cX5_init 71 = .ok (.newarray .int, 2) := by decide +kernel
theorem dX5_init_73 : decode cX5_init 73 = .ok (.putfield 33, 3) := by decide +kernel
theorem dX5_init_76 : decode cX5_init 76 = .ok (.aload_n 0, 1) := by decide +kernel
theorem dX5_init_77 : decode cX5_init 77 = .ok (.bipush 64, 2) := by decide +kernel
theorem dX5_init_79 : decode cX5_init 79 = .ok (.newarray .int, 2) := by decide +kernel
theorem dX5_init_81 : decode cX5_init 81 = .ok (.putfield 36, 3) := by decide +kernel
theorem dX5_init_84 : decode cX5_init 84 = .ok (.aload_n 0, 1) := by decide +kernel
theorem dX5_init_85 : decode cX5_init 85 = .ok (.ldc2_w 39, 3) := by decide +kernel
theorem dX5_init_88 : decode cX5_init 88 = .ok (.putfield 41, 3) := by decide +kernel
theorem dX5_init_91 : decode cX5_init 91 = .ok (.aload_n 0, 1) := by decide +kernel
theorem dX5_init_92 : decode cX5_init 92 = .ok (.ldc2_w 39, 3) := by decide +kernel
theorem dX5_init_95 : decode cX5_init 95 = .ok (.putfield 45, 3) := by decide +kernel
theorem dX5_init_98 : decode cX5_init 98 = .ok (.aload_n 0, 1) := by decide +kernel
theorem dX5_init_99 : decode cX5_init 99 = .ok (.sipush 2000, 3) := by decide +kernel
theorem dX5_init_102 : decode cX5_init 102 = .ok (.newarray .int, 2) := by decide +kernel
theorem dX5_init_104 : decode cX5_init 104 = .ok (.putfield 48, 3) := by decide +kernel
theorem dX5_init_107 : decode cX5_init 107 = .ok (.aload_n 0, 1) := by decide +kernel
theorem dX5_init_108 : decode cX5_init 108 = .ok (.sipush 2000, 3) := by decide +kernel
theorem dX5_init_111 : decode cX5_init 111 = .ok (.newarray .int, 2) := by decide +kernel
theorem dX5_init_113 : decode cX5_init 113 = .ok (.putfield 51, 3) := by decide +kernel
theorem dX5_init_116 : decode cX5_init 116 = .ok (.aload_n 0, 1) := by decide +kernel
theorem dX5_init_117 : decode cX5_init 117 = .ok (.getfield 7, 3) := by decide +kernel
theorem dX5_init_120 : decode cX5_init 120 = .ok (.iconst 0, 1) := by decide +kernel
theorem dX5_init_121 : decode cX5_init 121 = .ok (.iload_n 1, 1) := by decide +kernel
theorem dX5_init_122 : decode cX5_init 122 = .ok (.bipush 63, 2) := by decide +kernel
theorem dX5_init_124 : decode cX5_init 124 = .ok (.iand, 1) := by decide +kernel
theorem dX5_init_125 : decode cX5_init 125 = .ok (.iastore, 1) := by decide +kernel
theorem dX5_init_126 : decode cX5_init 126 = .ok (.aload_n 0, 1) := by decide +kernel
theorem dX5_init_127 : decode cX5_init 127 = .ok (.getfield 7, 3) := by decide +kernel
theorem dX5_init_130 : decode cX5_init 130 = .ok (.iconst 1, 1) := by decide +kernel
theorem dX5_init_131 : decode cX5_init 131 = .ok (.iload_n 2, 1) := by decide +kernel
theorem dX5_init_132 : decode cX5_init 132 = .ok (.sipush 255, 3) := by decide +kernel
theorem dX5_init_135 : decode cX5_init 135 = .ok (.iand, 1) := by decide +kernel
theorem dX5_init_136 : decode cX5_init 136 = .ok (.iastore, 1) := by decide +kernel
theorem dX5_init_137 : decode cX5_init 137 = .ok (.aload_n 0, 1) := by decide +kernel
theorem dX5_init_138 : decode cX5_init 138 = .ok (.getfield 7, 3) := by decide +kernel
theorem dX5_init_141 : decode cX5_init 141 = .ok (.iconst 2, 1) := by decide +kernel
theorem dX5_init_142 : decode cX5_init 142 = .ok (.iload_n 3, 1) := by decide +kernel
theorem dX5_init_143 : decode cX5_init 143 = .ok (.bipush 16, 2) := by decide +kernel
theorem dX5_init_145 : decode cX5_init 145 = .ok (.ishr, 1) := by decide +kernel
theorem dX5_init_146 : decode cX5_init 146 = .ok (.sipush 255, 3) := by decide +kernel
theorem dX5_init_149 : decode cX5_init 149 = .ok (.iand, 1) := by decide +kernel
theorem dX5_init_150 : decode cX5_init 150 = .ok (.iastore, 1) := by decide +kernel
theorem dX5_init_151 : decode cX5_init 151 = .ok (.aload_n 0, 1) := by decide +kernel
theorem dX5_init_152 : decode cX5_init 152 = .ok (.getfield 7, 3) := by decide +kernel
theorem dX5_init_155 : decode cX5_init 155 = .ok (.iconst 3, 1) := by decide +kernel
theorem dX5_init_156 : decode cX5_init 156 = .ok (.iload_n 3, 1) := by decide +kernel
theorem dX5_init_157 : decode cX5_init 157 = .ok (.bipush 8, 2) := by decide +kernel
theorem dX5_init_159 : decode cX5_init 159 = .ok (.ishr, 1) := by decide +kernel
theorem dX5_init_160 : decode cX5_init 160 = .ok (.sipush 255, 3) := by decide +kernel
theorem dX5_init_163 : decode cX5_init 163 = .ok (.iand, 1) := by decide +kernel
theorem dX5_init_164 : decode cX5_init 164 = .ok (.iastore, 1) := by decide +kernel
theorem dX5_init_165 : decode cX5_init 165 = .ok (.aload_n 0, 1) := by decide +kernel
theorem dX5_init_166 : decode cX5_init 166 = .ok (.getfield 7, 3) := by decide +kernel
theorem dX5_init_169 : decode cX5_init 169 = .ok (.iconst 4, 1) := by decide +kernel
theorem dX5_init_170 : decode cX5_init 170 = .ok (.iload_n 3, 1) := by decide +kernel
theorem dX5_init_171 : decode cX5_init 171 = .ok (.sipush 255, 3) := by decide +kernel
theorem dX5_init_174 : decode cX5_init 174 = .ok (.iand, 1) := by decide +kernel
theorem dX5_init_175 : decode cX5_init 175 = .ok (.iastore, 1) := by decide +kernel
theorem dX5_init_176 : decode cX5_init 176 = .ok (.iconst 0, 1) := by decide +kernel
theorem dX5_init_177 : decode cX5_init 177 = .ok (.istore 4, 2) := by decide +kernel
theorem dX5_init_179 : decode cX5_init 179 = .ok (.iload 4, 2) := by decide +kernel
theorem dX5_init_181 : decode cX5_init 181 = .ok (.bipush 6, 2) := by decide +kernel
theorem dX5_init_183 : decode cX5_init 183 = .ok (.if_icmp .ge 18, 3) := by decide +kernel
theorem dX5_init_186 : decode cX5_init 186 = .ok (.aload_n 0, 1) := by decide +kernel
theorem dX5_init_187 : decode cX5_init 187 = .ok (.getfield 13, 3) := by decide +kernel
theorem dX5_init_190 : decode cX5_init 190 = .ok (.iload 4, 2) := by decide +kernel
theorem dX5_init_192 : decode cX5_init 192 = .ok (.bipush 32, 2) := by decide +kernel
theorem dX5_init_194 : decode cX5_init 194 = .ok (.iastore, 1) := by decide +kernel
theorem dX5_init_195 : decode cX5_init 195 = .ok (.iinc 4 1, 3) := by decide +kernel
theorem dX5_init_198 : decode cX5_init 198 = .ok (.goto (-19), 3) := by decide +kernel
theorem dX5_init_201 : decode cX5_init 201 = .ok (.return_, 1) := by decide +kernel
theorem dX5_addressSize_0 : decode cX5_addressSize 0 = .ok (.aload_n 0, 1) := by decide +kernel
theorem dX5_addressSize_1 : decode cX5_addressSize 1 = .ok (.getfield 33, 3) := by decide +kernel
theorem dX5_addressSize_4 : decode cX5_addressSize 4 = .ok (.iconst 0, 1) := by decide +kernel
theorem dX5_addressSize_5 : decode cX5_addressSize 5 = .ok (.iaload, 1) := by decide +kernel
theorem dX5_addressSize_6 : decode cX5_addressSize 6 = .ok (.sipush 130, 3) := by decide +kernel
theorem dX5_addressSize_9 : decode cX5_addressSize 9 = .ok (.if_icmp .ne 7, 3) := by decide +kernel
theorem dX5_addressSize_12 : decode cX5_addressSize 12 = .ok (.iconst 5, 1) := by decide +kernel
theorem dX5_addressSize_13 : decode cX5_addressSize 13 = .ok (.goto 4, 3) := by decide +kernel
theorem dX5_addressSize_16 : decode cX5_addressSize 16 = .ok (.iconst 1, 1) := by decide +kernel
theorem dX5_addressSize_17 : decode cX5_addressSize 17 = .ok (.ireturn, 1) := by decide +kernel
theorem dX5_command_0 : decode cX5_command 0 = .ok (.aload_n 0, 1) := by decide +kernel
theorem dX5_command_1 : decode cX5_command 1 = .ok (.getfield 33, 3) := by decide +kernel
theorem dX5_command_4 : decode cX5_command 4 = .ok (.iconst 1, 1) := by decide +kernel
theorem dX5_command_5 : decode cX5_command 5 = .ok (.aload_n 0, 1) := by decide +kernel
theorem dX5_command_6 : decode cX5_command 6 = .ok (.invokevirtual 57, 3) := by decide +kernel
theorem dX5_command_9 : decode cX5_command 9 = .ok (.iadd, 1) := by decide +kernel
theorem dX5_command_10 : decode cX5_command 10 = .ok (.iaload, 1) := by decide +kernel
theorem dX5_command_11 : decode cX5_command 11 = .ok (.ireturn, 1) := by decide +kernel
theorem dX5_count_0 : decode cX5_count 0 = .ok (.aload_n 0, 1) := by decide +kernel
theorem dX5_count_1 : decode cX5_count 1 = .ok (.getfield 33, 3) := by decide +kernel
theorem dX5_count_4 : decode cX5_count 4 = .ok (.iconst 2, 1) := by decide +kernel
theorem dX5_count_5 : decode cX5_count 5 = .ok (.aload_n 0, 1) := by decide +kernel
theorem dX5_count_6 : decode cX5_count 6 = .ok (.invokevirtual 57, 3) := by decide +kernel
theorem dX5_count_9 : decode cX5_count 9 = .ok (.iadd, 1) := by decide +kernel
theorem dX5_count_10 : decode cX5_count 10 = .ok (.iaload, 1) := by decide +kernel
theorem dX5_count_11 : decode cX5_count 11 = .ok (.ireturn, 1) := by decide +kernel
theorem dX5_data_0 : decode cX5_data 0 = .ok (.aload_n 0, 1) := by decide +kernel
theorem dX5_data_1 : decode cX5_data 1 = .ok (.getfield 33, 3) := by decide +kernel
theorem dX5_data_4 : decode cX5_data 4 = .ok (.iconst 3, 1) := by decide +kernel
theorem dX5_data_5 : decode cX5_data 5 = .ok (.aload_n 0, 1) := by decide +kernel
theorem dX5_data_6 : decode cX5_data 6 = .ok (.invokevirtual 57, 3) := by decide +kernel
theorem dX5_data_9 : decode cX5_data 9 = .ok (.iadd, 1) := by decide +kernel
theorem dX5_data_10 : decode cX5_data 10 = .ok (.iload_n 1, 1) := by decide +kernel
theorem dX5_data_11 : decode cX5_data 11 = .ok (.iadd, 1) := by decide +kernel
theorem dX5_data_12 : decode cX5_data 12 = .ok (.iaload, 1) := by decide +kernel
theorem dX5_data_13 : decode cX5_data 13 = .ok (.ireturn, 1) := by decide +kernel
theorem dX5_word_0 : decode cX5_word 0 = .ok (.aload_n 0, 1) := by decide +kernel
theorem dX5_word_1 : decode cX5_word 1 = .ok (.iload_n 1, 1) := by decide +kernel
theorem dX5_word_2 : decode cX5_word 2 = .ok (.invokevirtual 61, 3) := by decide +kernel
theorem dX5_word_5 : decode cX5_word 5 = .ok (.bipush 24, 2) := by decide +kernel
theorem dX5_word_7 : decode cX5_word 7 = .ok (.ishl, 1) := by decide +kernel
theorem dX5_word_8 : decode cX5_word 8 = .ok (.aload_n 0, 1) := by decide +kernel
theorem dX5_word_9 : decode cX5_word 9 = .ok (.iload_n 1, 1) := by decide +kernel
theorem dX5_word_10 : decode cX5_word 10 = .ok (.iconst 1, 1) := by decide +kernel
theorem dX5_word_11 : decode cX5_word 11 = .ok (.iadd, 1) := by decide +kernel
theorem dX5_word_12 : decode cX5_word 12 = .ok (.invokevirtual 61, 3) := by decide +kernel
theorem dX5_word_15 : decode cX5_word 15 = .ok (.bipush 16, 2) := by decide +kernel
theorem dX5_word_17 : decode cX5_word 17 = .ok (.ishl, 1) := by decide +kernel
theorem dX5_word_18 : decode cX5_word 18 = .ok (.ior, 1) := by decide +kernel
theorem dX5_word_19 : decode cX5_word 19 = .ok (.aload_n 0, 1) := by decide +kernel
theorem dX5_word_20 : decode cX5_word 20 = .ok (.iload_n 1, 1) := by decide +kernel
theorem dX5_word_21 : decode cX5_word 21 = .ok (.iconst 2, 1) := by decide +kernel
theorem dX5_word_22 : decode cX5_word 22 = .ok (.iadd, 1) := by decide +kernel
theorem dX5_word_23 : decode cX5_word 23 = .ok (.invokevirtual 61, 3) := by decide +kernel
theorem dX5_word_26 : decode cX5_word 26 = .ok (.bipush 8, 2) := by decide +kernel
theorem dX5_word_28 : decode cX5_word 28 = .ok (.ishl, 1) := by decide +kernel
theorem dX5_word_29 : decode cX5_word 29 = .ok (.ior, 1) := by decide +kernel
theorem dX5_word_30 : decode cX5_word 30 = .ok (.aload_n 0, 1) := by decide +kernel
theorem dX5_word_31 : decode cX5_word 31 = .ok (.iload_n 1, 1) := by decide +kernel
theorem dX5_word_32 : decode cX5_word 32 = .ok (.iconst 3, 1) := by decide +kernel
theorem dX5_word_33 : decode cX5_word 33 = .ok (.iadd, 1) := by decide +kernel
theorem dX5_word_34 : decode cX5_word 34 = .ok (.invokevirtual 61, 3) := by decide +kernel
theorem dX5_word_37 : decode cX5_word 37 = .ok (.ior, 1) := by decide +kernel
theorem dX5_word_38 : decode cX5_word 38 = .ok (.ireturn, 1) := by decide +kernel
theorem dX5_master_0 : decode cX5_master 0 = .ok (.aload_n 0, 1) := by decide +kernel
theorem dX5_master_1 : decode cX5_master 1 = .ok (.getfield 33, 3) := by decide +kernel
theorem dX5_master_4 : decode cX5_master 4 = .ok (.iconst 1, 1) := by decide +kernel
theorem dX5_master_5 : decode cX5_master 5 = .ok (.iaload, 1) := by decide +kernel
theorem dX5_master_6 : decode cX5_master 6 = .ok (.bipush 127, 2) := by decide +kernel
theorem dX5_master_8 : decode cX5_master 8 = .ok (.if_icmp .le 7, 3) := by decide +kernel
theorem dX5_master_11 : decode cX5_master 11 = .ok (.iconst 0, 1) := by decide +kernel
theorem dX5_master_12 : decode cX5_master 12 = .ok (.goto 4, 3) := by decide +kernel
theorem dX5_master_15 : decode cX5_master 15 = .ok (.iconst 1, 1) := by decide +kernel
theorem dX5_master_16 : decode cX5_master 16 = .ok (.ireturn, 1) := by decide +kernel
theorem dX5_forget_0 : decode cX5_forget 0 = .ok (.aload_n 0, 1) := by decide +kernel
theorem dX5_forget_1 : decode cX5_forget 1 = .ok (.iconst 0, 1) := by decide +kernel
theorem dX5_forget_2 : decode cX5_forget 2 = .ok (.putfield 65, 3) := by decide +kernel
theorem dX5_forget_5 : decode cX5_forget 5 = .ok (.aload_n 0, 1) := by decide +kernel
theorem dX5_forget_6 : decode cX5_forget 6 = .ok (.iconst 0, 1) := by decide +kernel
theorem dX5_forget_7 : decode cX5_forget 7 = .ok (.putfield 68, 3) := by decide +kernel
theorem dX5_forget_10 : decode cX5_forget 10 = .ok (.return_, 1) := by decide +kernel
theorem dX5_keep_0 : decode cX5_keep 0 = .ok (.aload_n 0, 1) := by decide +kernel
theorem dX5_keep_1 : decode cX5_keep 1 = .ok (.getfield 68, 3) := by decide +kernel
theorem dX5_keep_4 : decode cX5_keep 4 = .ok (.ifCond .ne 68, 3) := by decide +kernel
theorem dX5_keep_7 : decode cX5_keep 7 = .ok (.aload_n 0, 1) := by decide +kernel
theorem dX5_keep_8 : decode cX5_keep 8 = .ok (.getfield 65, 3) := by decide +kernel
theorem dX5_keep_11 : decode cX5_keep 11 = .ok (.iconst 2, 1) := by decide +kernel
theorem dX5_keep_12 : decode cX5_keep 12 = .ok (.if_icmp .le 19, 3) := by decide +kernel
theorem dX5_keep_15 : decode cX5_keep 15 = .ok (.iload_n 1, 1) := by decide +kernel
theorem dX5_keep_16 : decode cX5_keep 16 = .ok (.iconst 2, 1) := by decide +kernel
theorem dX5_keep_17 : decode cX5_keep 17 = .ok (.if_icmp .eq 10, 3) := by decide +kernel
theorem dX5_keep_20 : decode cX5_keep 20 = .ok (.iload_n 1, 1) := by decide +kernel
theorem dX5_keep_21 : decode cX5_keep 21 = .ok (.sipush 130, 3) := by decide +kernel
theorem dX5_keep_24 : decode cX5_keep 24 = .ok (.if_icmp .ne 7, 3) := by decide +kernel
theorem dX5_keep_27 : decode cX5_keep 27 = .ok (.iconst 1, 1) := by decide +kernel
theorem dX5_keep_28 : decode cX5_keep 28 = .ok (.goto 4, 3) := by decide +kernel
theorem dX5_keep_31 : decode cX5_keep 31 = .ok (.iconst 0, 1) := by decide +kernel
theorem dX5_keep_32 : decode cX5_keep 32 = .ok (.istore_n 2, 1) := by decide +kernel
theorem dX5_keep_33 : decode cX5_keep 33 = .ok (.aload_n 0, 1) := by decide +kernel
theorem dX5_keep_34 : decode cX5_keep 34 = .ok (.iload_n 1, 1) := by decide +kernel
theorem dX5_keep_35 : decode cX5_keep 35 = .ok (.sipush 255, 3) := by decide +kernel
theorem dX5_keep_38 : decode cX5_keep 38 = .ok (.if_icmp .ne 12, 3) := by decide +kernel
theorem dX5_keep_41 : decode cX5_keep 41 = .ok (.aload_n 0, 1) := by decide +kernel
theorem dX5_keep_42 : decode cX5_keep 42 = .ok (.getfield 65, 3) := by decide +kernel
theorem dX5_keep_45 : decode cX5_keep 45 = .ok (.iconst 1, 1) := by decide +kernel
theorem dX5_keep_46 : decode cX5_keep 46 = .ok (.iadd, 1) := by decide +kernel
theorem dX5_keep_47 : decode cX5_keep 47 = .ok (.goto 4, 3) := by decide +kernel
theorem dX5_keep_50 : decode cX5_keep 50 = .ok (.iconst 0, 1) := by decide +kernel
theorem dX5_keep_51 : decode cX5_keep 51 = .ok (.putfield 65, 3) := by decide +kernel
theorem dX5_keep_54 : decode cX5_keep 54 = .ok (.iload_n 2, 1) := by decide +kernel
theorem dX5_keep_55 : decode cX5_keep 55 = .ok (.ifCond .eq 15, 3) := by decide +kernel
theorem dX5_keep_58 : decode cX5_keep 58 = .ok (.aload_n 0, 1) := by decide +kernel
theorem dX5_keep_59 : decode cX5_keep 59 = .ok (.getfield 33, 3) := by decide +kernel
theorem dX5_keep_62 : decode cX5_keep 62 = .ok (.iconst 0, 1) := by decide +kernel
theorem dX5_keep_63 : decode cX5_keep 63 = .ok (.iload_n 1, 1) := by decide +kernel
theorem dX5_keep_64 : decode cX5_keep 64 = .ok (.iastore, 1) := by decide +kernel
theorem dX5_keep_65 : decode cX5_keep 65 = .ok (.aload_n 0, 1) := by decide +kernel
theorem dX5_keep_66 : decode cX5_keep 66 = .ok (.iconst 1, 1) := by decide +kernel
theorem dX5_keep_67 : decode cX5_keep 67 = .ok (.putfield 68, 3) := by decide +kernel
theorem dX5_keep_70 : decode cX5_keep 70 = .ok (.iconst 0, 1) := by decide +kernel
theorem dX5_keep_71 : decode cX5_keep 71 = .ok (.ireturn, 1) := by decide +kernel
theorem dX5_keep_72 : decode cX5_keep 72 = .ok (.aload_n 0, 1) := by decide +kernel
theorem dX5_keep_73 : decode cX5_keep 73 = .ok (.getfield 33, 3) := by decide +kernel
theorem dX5_keep_76 : decode cX5_keep 76 = .ok (.aload_n 0, 1) := by decide +kernel
theorem dX5_keep_77 : decode cX5_keep 77 = .ok (.getfield 68, 3) := by decide +kernel
theorem dX5_keep_80 : decode cX5_keep 80 = .ok (.iload_n 1, 1) := by decide +kernel
theorem dX5_keep_81 : decode cX5_keep 81 = .ok (.iastore, 1) := by decide +kernel
theorem dX5_keep_82 : decode cX5_keep 82 = .ok (.aload_n 0, 1) := by decide +kernel
theorem dX5_keep_83 : decode cX5_keep 83 = .ok (.dup, 1) := by decide +kernel
theorem dX5_keep_84 : decode cX5_keep 84 = .ok (.getfield 68, 3) := by decide +kernel
theorem dX5_keep_87 : decode cX5_keep 87 = .ok (.iconst 1, 1) := by decide +kernel
theorem dX5_keep_88 : decode cX5_keep 88 = .ok (.iadd, 1) := by decide +kernel
theorem dX5_keep_89 : decode cX5_keep 89 = .ok (.putfield 68, 3) := by decide +kernel
theorem dX5_keep_92 : decode cX5_keep 92 = .ok (.iconst 3, 1) := by decide +kernel
theorem dX5_keep_93 : decode cX5_keep 93 = .ok (.aload_n 0, 1) := by decide +kernel
theorem dX5_keep_94 : decode cX5_keep 94 = .ok (.invokevirtual 57, 3) := by decide +kernel
theorem dX5_keep_97 : decode cX5_keep 97 = .ok (.iadd, 1) := by decide +kernel
theorem dX5_keep_98 : decode cX5_keep 98 = .ok (.istore_n 2, 1) := by decide +kernel
theorem dX5_keep_99 : decode cX5_keep 99 = .ok (.aload_n 0, 1) := by decide +kernel
theorem dX5_keep_100 : decode cX5_keep 100 = .ok (.getfield 68, 3) := by decide +kernel
theorem dX5_keep_103 : decode cX5_keep 103 = .ok (.iload_n 2, 1) := by decide +kernel
theorem dX5_keep_104 : decode cX5_keep 104 = .ok (.if_icmp .ne 18, 3) := by decide +kernel
theorem dX5_keep_107 : decode cX5_keep 107 = .ok (.aload_n 0, 1) := by decide +kernel
theorem dX5_keep_108 : decode cX5_keep 108 = .ok (.invokevirtual 71, 3) := by decide +kernel
theorem dX5_keep_111 : decode cX5_keep 111 = .ok (.bipush 20, 2) := by decide +kernel
theorem dX5_keep_113 : decode cX5_keep 113 = .ok (.if_icmp .le 9, 3) := by decide +kernel
theorem dX5_keep_116 : decode cX5_keep 116 = .ok (.aload_n 0, 1) := by decide +kernel
theorem dX5_keep_117 : decode cX5_keep 117 = .ok (.invokevirtual 74, 3) := by decide +kernel
theorem dX5_keep_120 : decode cX5_keep 120 = .ok (.iconst 0, 1) := by decide +kernel
theorem dX5_keep_121 : decode cX5_keep 121 = .ok (.ireturn, 1) := by decide +kernel
theorem dX5_keep_122 : decode cX5_keep 122 = .ok (.aload_n 0, 1) := by decide +kernel
theorem dX5_keep_123 : decode cX5_keep 123 = .ok (.getfield 68, 3) := by decide +kernel
theorem dX5_keep_126 : decode cX5_keep 126 = .ok (.iload_n 2, 1) := by decide +kernel
theorem dX5_keep_127 : decode cX5_keep 127 = .ok (.if_icmp .le 22, 3) := by decide +kernel
theorem dX5_keep_130 : decode cX5_keep 130 = .ok (.aload_n 0, 1) := by decide +kernel
theorem dX5_keep_131 : decode cX5_keep 131 = .ok (.getfield 68, 3) := by decide +kernel
theorem dX5_keep_134 : decode cX5_keep 134 = .ok (.iload_n 2, 1) := by decide +kernel
theorem dX5_keep_135 : decode cX5_keep 135 = .ok (.aload_n 0, 1) := by decide +kernel
theorem dX5_keep_136 : decode cX5_keep 136 = .ok (.invokevirtual 71, 3) := by decide +kernel
theorem dX5_keep_139 : decode cX5_keep 139 = .ok (.iadd, 1) := by decide +kernel
theorem dX5_keep_140 : decode cX5_keep 140 = .ok (.iconst 1, 1) := by decide +kernel
theorem dX5_keep_141 : decode cX5_keep 141 = .ok (.iadd, 1) := by decide +kernel
theorem dX5_keep_142 : decode cX5_keep 142 = .ok (.if_icmp .ne 7, 3) := by decide +kernel
theorem dX5_keep_145 : decode cX5_keep 145 = .ok (.iconst 1, 1) := by decide +kernel
theorem dX5_keep_146 : decode cX5_keep 146 = .ok (.goto 4, 3) := by decide +kernel
theorem dX5_keep_149 : decode cX5_keep 149 = .ok (.iconst 0, 1) := by decide +kernel
theorem dX5_keep_150 : decode cX5_keep 150 = .ok (.ireturn, 1) := by decide +kernel
theorem dX5_isRight_0 : decode cX5_isRight 0 = .ok (.iconst 0, 1) := by decide +kernel
theorem dX5_isRight_1 : decode cX5_isRight 1 = .ok (.istore_n 1, 1) := by decide +kernel
theorem dX5_isRight_2 : decode cX5_isRight 2 = .ok (.iconst 0, 1) := by decide +kernel
theorem dX5_isRight_3 : decode cX5_isRight 3 = .ok (.istore_n 2, 1) := by decide +kernel
theorem dX5_isRight_4 : decode cX5_isRight 4 = .ok (.iload_n 2, 1) := by decide +kernel
theorem dX5_isRight_5 : decode cX5_isRight 5 = .ok (.aload_n 0, 1) := by decide +kernel
theorem dX5_isRight_6 : decode cX5_isRight 6 = .ok (.getfield 68, 3) := by decide +kernel
theorem dX5_isRight_9 : decode cX5_isRight 9 = .ok (.if_icmp .ge 18, 3) := by decide +kernel
theorem dX5_isRight_12 : decode cX5_isRight 12 = .ok (.iload_n 1, 1) := by decide +kernel
theorem dX5_isRight_13 : decode cX5_isRight 13 = .ok (.aload_n 0, 1) := by decide +kernel
theorem dX5_isRight_14 : decode cX5_isRight 14 = .ok (.getfield 33, 3) := by decide +kernel
theorem dX5_isRight_17 : decode cX5_isRight 17 = .ok (.iload_n 2, 1) := by decide +kernel
theorem dX5_isRight_18 : decode cX5_isRight 18 = .ok (.iaload, 1) := by decide +kernel
theorem dX5_isRight_19 : decode cX5_isRight 19 = .ok (.ixor, 1) := by decide +kernel
theorem dX5_isRight_20 : decode cX5_isRight 20 = .ok (.istore_n 1, 1) := by decide +kernel
theorem dX5_isRight_21 : decode cX5_isRight 21 = .ok (.iinc 2 1, 3) := by decide +kernel
theorem dX5_isRight_24 : decode cX5_isRight 24 = .ok (.goto (-20), 3) := by decide +kernel
theorem dX5_isRight_27 : decode cX5_isRight 27 = .ok (.iload_n 1, 1) := by decide +kernel
theorem dX5_isRight_28 : decode cX5_isRight 28 = .ok (.ifCond .ne 7, 3) := by decide +kernel
theorem dX5_isRight_31 : decode cX5_isRight 31 = .ok (.iconst 1, 1) := by decide +kernel
theorem dX5_isRight_32 : decode cX5_isRight 32 = .ok (.goto 4, 3) := by decide +kernel
theorem dX5_isRight_35 : decode cX5_isRight 35 = .ok (.iconst 0, 1) := by decide +kernel
theorem dX5_isRight_36 : decode cX5_isRight 36 = .ok (.ireturn, 1) := by decide +kernel
theorem dX5_isBroadcast_0 : decode cX5_isBroadcast 0 = .ok (.aload_n 0, 1) := by decide +kernel
theorem dX5_isBroadcast_1 : decode cX5_isBroadcast 1 = .ok (.invokevirtual 57, 3) := by decide +kernel
theorem dX5_isBroadcast_4 : decode cX5_isBroadcast 4 = .ok (.iconst 5, 1) := by decide +kernel
theorem dX5_isBroadcast_5 : decode cX5_isBroadcast 5 = .ok (.if_icmp .ne 64, 3) := by decide +kernel
theorem dX5_isBroadcast_8 : decode cX5_isBroadcast 8 = .ok (.aload_n 0, 1) := by decide +kernel
theorem dX5_isBroadcast_9 : decode cX5_isBroadcast 9 = .ok (.getfield 33, 3) := by decide +kernel
theorem dX5_isBroadcast_12 : decode cX5_isBroadcast 12 = .ok (.iconst 1, 1) := by decide +kernel
theorem dX5_isBroadcast_13 : decode cX5_isBroadcast 13 = .ok (.iaload, 1) := by decide +kernel
theorem dX5_isBroadcast_14 : decode cX5_isBroadcast 14 = .ok (.bipush 64, 2) := by decide +kernel
theorem dX5_isBroadcast_16 : decode cX5_isBroadcast 16 = .ok (.irem, 1) := by decide +kernel
theorem dX5_isBroadcast_17 : decode cX5_isBroadcast 17 = .ok (.ifCond .ne 52, 3) := by decide +kernel
theorem dX5_isBroadcast_20 : decode cX5_isBroadcast 20 = .ok (.aload_n 0, 1) := by decide +kernel
theorem dX5_isBroadcast_21 : decode cX5_isBroadcast 21 = .ok (.getfield 33, 3) := by decide +kernel
theorem dX5_isBroadcast_24 : decode cX5_isBroadcast 24 = .ok (.iconst 2, 1) := by decide +kernel
theorem dX5_isBroadcast_25 : decode cX5_isBroadcast 25 = .ok (.iaload, 1) := by decide +kernel
theorem dX5_isBroadcast_26 : decode cX5_isBroadcast 26 = .ok (.ifCond .ne 43, 3) := by decide +kernel
theorem dX5_isBroadcast_29 : decode cX5_isBroadcast 29 = .ok (.aload_n 0, 1) := by decide +kernel
theorem dX5_isBroadcast_30 : decode cX5_isBroadcast 30 = .ok (.getfield 33, 3) := by decide +kernel
theorem dX5_isBroadcast_33 : decode cX5_isBroadcast 33 = .ok (.iconst 3, 1) := by decide +kernel
theorem dX5_isBroadcast_34 : decode cX5_isBroadcast 34 = .ok (.iaload, 1) := by decide +kernel
theorem dX5_isBroadcast_35 : decode cX5_isBroadcast 35 = .ok (.ifCond .ne 34, 3) := by decide +kernel
theorem dX5_isBroadcast_38 : decode cX5_isBroadcast 38 = .ok (.aload_n 0, 1) := by decide +kernel
theorem dX5_isBroadcast_39 : decode cX5_isBroadcast 39 = .ok (.getfield 33, 3) := by decide +kernel
theorem dX5_isBroadcast_42 : decode cX5_isBroadcast 42 = .ok (.iconst 4, 1) := by decide +kernel
theorem dX5_isBroadcast_43 : decode cX5_isBroadcast 43 = .ok (.iaload, 1) := by decide +kernel
theorem dX5_isBroadcast_44 : decode cX5_isBroadcast 44 = .ok (.ifCond .ne 25, 3) := by decide +kernel
theorem dX5_isBroadcast_47 : decode cX5_isBroadcast 47 = .ok (.aload_n 0, 1) := by decide +kernel
theorem dX5_isBroadcast_48 : decode cX5_isBroadcast 48 = .ok (.getfield 33, 3) := by decide +kernel
theorem dX5_isBroadcast_51 : decode cX5_isBroadcast 51 = .ok (.iconst 5, 1) := by decide +kernel
theorem dX5_isBroadcast_52 : decode cX5_isBroadcast 52 = .ok (.iaload, 1) := by decide +kernel
theorem dX5_isBroadcast_53 : decode cX5_isBroadcast 53 = .ok (.ifCond .ne 16, 3) := by decide +kernel
theorem dX5_isBroadcast_56 : decode cX5_isBroadcast 56 = .ok (.aload_n 0, 1) := by decide +kernel
theorem dX5_isBroadcast_57 : decode cX5_isBroadcast 57 = .ok (.invokevirtual 77, 3) := by decide +kernel
theorem dX5_isBroadcast_60 : decode cX5_isBroadcast 60 = .ok (.bipush 11, 2) := by decide +kernel
theorem dX5_isBroadcast_62 : decode cX5_isBroadcast 62 = .ok (.if_icmp .ne 7, 3) := by decide +kernel
theorem dX5_isBroadcast_65 : decode cX5_isBroadcast 65 = .ok (.iconst 1, 1) := by decide +kernel
theorem dX5_isBroadcast_66 : decode cX5_isBroadcast 66 = .ok (.goto 4, 3) := by decide +kernel
theorem dX5_isBroadcast_69 : decode cX5_isBroadcast 69 = .ok (.iconst 0, 1) := by decide +kernel
theorem dX5_isBroadcast_70 : decode cX5_isBroadcast 70 = .ok (.ireturn, 1) := by decide +kernel
theorem dX5_isOwn_0 : decode cX5_isOwn 0 = .ok (.aload_n 0, 1) := by decide +kernel
theorem dX5_isOwn_1 : decode cX5_isOwn 1 = .ok (.invokevirtual 57, 3) := by decide +kernel
theorem dX5_isOwn_4 : decode cX5_isOwn 4 = .ok (.iconst 1, 1) := by decide +kernel
theorem dX5_isOwn_5 : decode cX5_isOwn 5 = .ok (.if_icmp .ne 25, 3) := by decide +kernel
theorem dX5_isOwn_8 : decode cX5_isOwn 8 = .ok (.aload_n 0, 1) := by decide +kernel
theorem dX5_isOwn_9 : decode cX5_isOwn 9 = .ok (.getfield 33, 3) := by decide +kernel
theorem dX5_isOwn_12 : decode cX5_isOwn 12 = .ok (.iconst 1, 1) := by decide +kernel
theorem dX5_isOwn_13 : decode cX5_isOwn 13 = .ok (.iaload, 1) := by decide +kernel
theorem dX5_isOwn_14 : decode cX5_isOwn 14 = .ok (.bipush 64, 2) := by decide +kernel
theorem dX5_isOwn_16 : decode cX5_isOwn 16 = .ok (.irem, 1) := by decide +kernel
theorem dX5_isOwn_17 : decode cX5_isOwn 17 = .ok (.aload_n 0, 1) := by decide +kernel
theorem dX5_isOwn_18 : decode cX5_isOwn 18 = .ok (.getfield 80, 3) := by decide +kernel
theorem dX5_isOwn_21 : decode cX5_isOwn 21 = .ok (.if_icmp .ne 7, 3) := by decide +kernel
theorem dX5_isOwn_24 : decode cX5_isOwn 24 = .ok (.iconst 1, 1) := by decide +kernel
theorem dX5_isOwn_25 : decode cX5_isOwn 25 = .ok (.goto 4, 3) := by decide +kernel
theorem dX5_isOwn_28 : decode cX5_isOwn 28 = .ok (.iconst 0, 1) := by decide +kernel
theorem dX5_isOwn_29 : decode cX5_isOwn 29 = .ok (.ireturn, 1) := by decide +kernel
theorem dX5_isOwn_30 : decode cX5_isOwn 30 = .ok (.aload_n 0, 1) := by decide +kernel
theorem dX5_isOwn_31 : decode cX5_isOwn 31 = .ok (.getfield 33, 3) := by decide +kernel
theorem dX5_isOwn_34 : decode cX5_isOwn 34 = .ok (.iconst 1, 1) := by decide +kernel
theorem dX5_isOwn_35 : decode cX5_isOwn 35 = .ok (.iaload, 1) := by decide +kernel
theorem dX5_isOwn_36 : decode cX5_isOwn 36 = .ok (.bipush 64, 2) := by decide +kernel
theorem dX5_isOwn_38 : decode cX5_isOwn 38 = .ok (.irem, 1) := by decide +kernel
theorem dX5_isOwn_39 : decode cX5_isOwn 39 = .ok (.aload_n 0, 1) := by decide +kernel
theorem dX5_isOwn_40 : decode cX5_isOwn 40 = .ok (.getfield 7, 3) := by decide +kernel
theorem dX5_isOwn_43 : decode cX5_isOwn 43 = .ok (.iconst 0, 1) := by decide +kernel
theorem dX5_isOwn_44 : decode cX5_isOwn 44 = .ok (.iaload, 1) := by decide +kernel
theorem dX5_isOwn_45 : decode cX5_isOwn 45 = .ok (.if_icmp .ne 7, 3) := by decide +kernel
theorem dX5_isOwn_48 : decode cX5_isOwn 48 = .ok (.iconst 1, 1) := by decide +kernel
theorem dX5_isOwn_49 : decode cX5_isOwn 49 = .ok (.goto 4, 3) := by decide +kernel
theorem dX5_isOwn_52 : decode cX5_isOwn 52 = .ok (.iconst 0, 1) := by decide +kernel
theorem dX5_isOwn_53 : decode cX5_isOwn 53 = .ok (.istore_n 1, 1) := by decide +kernel
theorem dX5_isOwn_54 : decode cX5_isOwn 54 = .ok (.iconst 1, 1) := by decide +kernel
theorem dX5_isOwn_55 : decode cX5_isOwn 55 = .ok (.istore_n 2, 1) := by decide +kernel
theorem dX5_isOwn_56 : decode cX5_isOwn 56 = .ok (.iload_n 2, 1) := by decide +kernel
theorem dX5_isOwn_57 : decode cX5_isOwn 57 = .ok (.iconst 5, 1) := by decide +kernel
theorem dX5_isOwn_58 : decode cX5_isOwn 58 = .ok (.if_icmp .ge 36, 3) := by decide +kernel
theorem dX5_isOwn_61 : decode cX5_isOwn 61 = .ok (.iload_n 1, 1) := by decide +kernel
theorem dX5_isOwn_62 : decode cX5_isOwn 62 = .ok (.ifCond .eq 24, 3) := by decide +kernel
theorem dX5_isOwn_65 : decode cX5_isOwn 65 = .ok (.aload_n 0, 1) := by decide +kernel
theorem dX5_isOwn_66 : decode cX5_isOwn 66 = .ok (.getfield 33, 3) := by decide +kernel
theorem dX5_isOwn_69 : decode cX5_isOwn 69 = .ok (.iconst 1, 1) := by decide +kernel
theorem dX5_isOwn_70 : decode cX5_isOwn 70 = .ok (.iload_n 2, 1) := by decide +kernel
theorem dX5_isOwn_71 : decode cX5_isOwn 71 = .ok (.iadd, 1) := by decide +kernel
theorem dX5_isOwn_72 : decode cX5_isOwn 72 = .ok (.iaload, 1) := by decide +kernel
theorem dX5_isOwn_73 : decode cX5_isOwn 73 = .ok (.aload_n 0, 1) := by decide +kernel
theorem dX5_isOwn_74 : decode cX5_isOwn 74 = .ok (.getfield 7, 3) := by decide +kernel
theorem dX5_isOwn_77 : decode cX5_isOwn 77 = .ok (.iload_n 2, 1) := by decide +kernel
theorem dX5_isOwn_78 : decode cX5_isOwn 78 = .ok (.iaload, 1) := by decide +kernel
theorem dX5_isOwn_79 : decode cX5_isOwn 79 = .ok (.if_icmp .ne 7, 3) := by decide +kernel
theorem dX5_isOwn_82 : decode cX5_isOwn 82 = .ok (.iconst 1, 1) := by decide +kernel
theorem dX5_isOwn_83 : decode cX5_isOwn 83 = .ok (.goto 4, 3) := by decide +kernel
theorem dX5_isOwn_86 : decode cX5_isOwn 86 = .ok (.iconst 0, 1) := by decide +kernel
theorem dX5_isOwn_87 : decode cX5_isOwn 87 = .ok (.istore_n 1, 1) := by decide +kernel
theorem dX5_isOwn_88 : decode cX5_isOwn 88 = .ok (.iinc 2 1, 3) := by decide +kernel
theorem dX5_isOwn_91 : decode cX5_isOwn 91 = .ok (.goto (-35), 3) := by decide +kernel
theorem dX5_isOwn_94 : decode cX5_isOwn 94 = .ok (.iload_n 1, 1) := by decide +kernel
theorem dX5_isOwn_95 : decode cX5_isOwn 95 = .ok (.ifCond .ne 10, 3) := by decide +kernel
theorem dX5_isOwn_98 : decode cX5_isOwn 98 = .ok (.aload_n 0, 1) := by decide +kernel
theorem dX5_isOwn_99 : decode cX5_isOwn 99 = .ok (.invokevirtual 83, 3) := by decide +kernel
theorem dX5_isOwn_102 : decode cX5_isOwn 102 = .ok (.ifCond .eq 7, 3) := by decide +kernel
theorem dX5_isOwn_105 : decode cX5_isOwn 105 = .ok (.iconst 1, 1) := by decide +kernel
theorem dX5_isOwn_106 : decode cX5_isOwn 106 = .ok (.goto 4, 3) := by decide +kernel
theorem dX5_isOwn_109 : decode cX5_isOwn 109 = .ok (.iconst 0, 1) := by decide +kernel
theorem dX5_isOwn_110 : decode cX5_isOwn 110 = .ok (.ireturn, 1) := by decide +kernel
theorem dX5_countWanted_0 : decode cX5_countWanted 0 = .ok (.iload_n 0, 1) := by decide +kernel
theorem dX5_countWanted_1 : decode cX5_countWanted 1 = .ok (.ifCond .lt 8, 3) := by decide +kernel
theorem dX5_countWanted_4 : decode cX5_countWanted 4 = .ok (.iload_n 0, 1) := by decide +kernel
theorem dX5_countWanted_5 : decode cX5_countWanted 5 = .ok (.iconst 3, 1) := by decide +kernel
theorem dX5_countWanted_6 : decode cX5_countWanted 6 = .ok (.if_icmp .le 21, 3) := by decide +kernel
theorem dX5_countWanted_9 : decode cX5_countWanted 9 = .ok (.iload_n 0, 1) := by decide +kernel
theorem dX5_countWanted_10 : decode cX5_countWanted 10 = .ok (.bipush 13, 2) := by decide +kernel
theorem dX5_countWanted_12 : decode cX5_countWanted 12 = .ok (.if_icmp .eq 15, 3) := by decide +kernel
theorem dX5_countWanted_15 : decode cX5_countWanted 15 = .ok (.iload_n 0, 1) := by decide +kernel
theorem dX5_countWanted_16 : decode cX5_countWanted 16 = .ok (.bipush 38, 2) := by decide +kernel
theorem dX5_countWanted_18 : decode cX5_countWanted 18 = .ok (.if_icmp .eq 9, 3) := by decide +kernel
theorem dX5_countWanted_21 : decode cX5_countWanted 21 = .ok (.iload_n 0, 1) := by decide +kernel
theorem dX5_countWanted_22 : decode cX5_countWanted 22 = .ok (.bipush 48, 2) := by decide +kernel
theorem dX5_countWanted_24 : decode cX5_countWanted 24 = .ok (.if_icmp .ne 5, 3) := by decide +kernel
theorem dX5_countWanted_27 : decode cX5_countWanted 27 = .ok (.iconst 0, 1) := by decide +kernel
theorem dX5_countWanted_28 : decode cX5_countWanted 28 = .ok (.ireturn, 1) := by decide +kernel
theorem dX5_countWanted_29 : decode cX5_countWanted 29 = .ok (.iload_n 0, 1) := by decide +kernel
theorem dX5_countWanted_30 : decode cX5_countWanted 30 = .ok (.bipush 6, 2) := by decide +kernel
theorem dX5_countWanted_32 : decode cX5_countWanted 32 = .ok (.if_icmp .eq 15, 3) := by decide +kernel
theorem dX5_countWanted_35 : decode cX5_countWanted 35 = .ok (.iload_n 0, 1) := by decide +kernel
theorem dX5_countWanted_36 : decode cX5_countWanted 36 = .ok (.bipush 108, 2) := by decide +kernel
theorem dX5_countWanted_38 : decode cX5_countWanted 38 = .ok (.if_icmp .eq 9, 3) := by decide +kernel
theorem dX5_countWanted_41 : decode cX5_countWanted 41 = .ok (.iload_n 0, 1) := by decide +kernel
theorem dX5_countWanted_42 : decode cX5_countWanted 42 = .ok (.bipush 109, 2) := by decide +kernel
theorem dX5_countWanted_44 : decode cX5_countWanted 44 = .ok (.if_icmp .ne 5, 3) := by decide +kernel
theorem dX5_countWanted_47 : decode cX5_countWanted 47 = .ok (.iconst 1, 1) := by decide +kernel
theorem dX5_countWanted_48 : decode cX5_countWanted 48 = .ok (.ireturn, 1) := by decide +kernel
theorem dX5_countWanted_49 : decode cX5_countWanted 49 = .ok (.iload_n 0, 1) := by decide +kernel
theorem dX5_countWanted_50 : decode cX5_countWanted 50 = .ok (.bipush 11, 2) := by decide +kernel
theorem dX5_countWanted_52 : decode cX5_countWanted 52 = .ok (.if_icmp .eq 9, 3) := by decide +kernel
theorem dX5_countWanted_55 : decode cX5_countWanted 55 = .ok (.iload_n 0, 1) := by decide +kernel
theorem dX5_countWanted_56 : decode cX5_countWanted 56 = .ok (.bipush 18, 2) := by decide +kernel
theorem dX5_countWanted_58 : decode cX5_countWanted 58 = .ok (.if_icmp .ne 8, 3) := by decide +kernel
theorem dX5_countWanted_61 : decode cX5_countWanted 61 = .ok (.bipush 6, 2) := by decide +kernel
theorem dX5_countWanted_63 : decode cX5_countWanted 63 = .ok (.goto 15, 3) := by decide +kernel
theorem dX5_countWanted_66 : decode cX5_countWanted 66 = .ok (.iload_n 0, 1) := by decide +kernel
theorem dX5_countWanted_67 : decode cX5_countWanted 67 = .ok (.bipush 35, 2) := by decide +kernel
theorem dX5_countWanted_69 : decode cX5_countWanted 69 = .ok (.if_icmp .ne 8, 3) := by decide +kernel
theorem dX5_countWanted_72 : decode cX5_countWanted 72 = .ok (.bipush 9, 2) := by decide +kernel
theorem dX5_countWanted_74 : decode cX5_countWanted 74 = .ok (.goto 4, 3) := by decide +kernel
theorem dX5_countWanted_77 : decode cX5_countWanted 77 = .ok (.iconst (-1), 1) := by decide +kernel
theorem dX5_countWanted_78 : decode cX5_countWanted 78 = .ok (.ireturn, 1) := by decide +kernel
theorem dX5_hasTag_0 : decode cX5_hasTag 0 = .ok (.iconst 1, 1) := by decide +kernel
theorem dX5_hasTag_1 : decode cX5_hasTag 1 = .ok (.istore_n 1, 1) := by decide +kernel
theorem dX5_hasTag_2 : decode cX5_hasTag 2 = .ok (.iconst 0, 1) := by decide +kernel
theorem dX5_hasTag_3 : decode cX5_hasTag 3 = .ok (.istore_n 2, 1) := by decide +kernel
theorem dX5_hasTag_4 : decode cX5_hasTag 4 = .ok (.iload_n 2, 1) := by decide +kernel
theorem dX5_hasTag_5 : decode cX5_hasTag 5 = .ok (.bipush 6, 2) := by decide +kernel
theorem dX5_hasTag_7 : decode cX5_hasTag 7 = .ok (.if_icmp .ge 33, 3) := by decide +kernel
theorem dX5_hasTag_10 : decode cX5_hasTag 10 = .ok (.iload_n 1, 1) := by decide +kernel
theorem dX5_hasTag_11 : decode cX5_hasTag 11 = .ok (.ifCond .eq 21, 3) := by decide +kernel
theorem dX5_hasTag_14 : decode cX5_hasTag 14 = .ok (.aload_n 0, 1) := by decide +kernel
theorem dX5_hasTag_15 : decode cX5_hasTag 15 = .ok (.iload_n 2, 1) := by decide +kernel
theorem dX5_hasTag_16 : decode cX5_hasTag 16 = .ok (.invokevirtual 61, 3) := by decide +kernel
theorem dX5_hasTag_19 : decode cX5_hasTag 19 = .ok (.aload_n 0, 1) := by decide +kernel
theorem dX5_hasTag_20 : decode cX5_hasTag 20 = .ok (.getfield 13, 3) := by decide +kernel
theorem dX5_hasTag_23 : decode cX5_hasTag 23 = .ok (.iload_n 2, 1) := by decide +kernel
theorem dX5_hasTag_24 : decode cX5_hasTag 24 = .ok (.iaload, 1) := by decide +kernel
theorem dX5_hasTag_25 : decode cX5_hasTag 25 = .ok (.if_icmp .ne 7, 3) := by decide +kernel
theorem dX5_hasTag_28 : decode cX5_hasTag 28 = .ok (.iconst 1, 1) := by decide +kernel
theorem dX5_hasTag_29 : decode cX5_hasTag 29 = .ok (.goto 4, 3) := by decide +kernel
theorem dX5_hasTag_32 : decode cX5_hasTag 32 = .ok (.iconst 0, 1) := by decide +kernel
theorem dX5_hasTag_33 : decode cX5_hasTag 33 = .ok (.istore_n 1, 1) := by decide +kernel
theorem dX5_hasTag_34 : decode cX5_hasTag 34 = .ok (.iinc 2 1, 3) := by decide +kernel
theorem dX5_hasTag_37 : decode cX5_hasTag 37 = .ok (.goto (-33), 3) := by decide +kernel
theorem dX5_hasTag_40 : decode cX5_hasTag 40 = .ok (.iload_n 1, 1) := by decide +kernel
theorem dX5_hasTag_41 : decode cX5_hasTag 41 = .ok (.ireturn, 1) := by decide +kernel
theorem dX5_codeOf_0 : decode cX5_codeOf 0 = .ok (.aload_n 0, 1) := by decide +kernel
theorem dX5_codeOf_1 : decode cX5_codeOf 1 = .ok (.invokevirtual 77, 3) := by decide +kernel
theorem dX5_codeOf_4 : decode cX5_codeOf 4 = .ok (.istore_n 1, 1) := by decide +kernel
theorem dX5_codeOf_5 : decode cX5_codeOf 5 = .ok (.iload_n 1, 1) := by decide +kernel
theorem dX5_codeOf_6 : decode cX5_codeOf 6 = .ok (.invokestatic 87, 3) := by decide +kernel
theorem dX5_codeOf_9 : decode cX5_codeOf 9 = .ok (.istore_n 2, 1) := by decide +kernel
theorem dX5_codeOf_10 : decode cX5_codeOf 10 = .ok (.iload_n 2, 1) := by decide +kernel
theorem dX5_codeOf_11 : decode cX5_codeOf 11 = .ok (.iconst (-1), 1) := by decide +kernel
theorem dX5_codeOf_12 : decode cX5_codeOf 12 = .ok (.if_icmp .ne 6, 3) := by decide +kernel
theorem dX5_codeOf_15 : decode cX5_codeOf 15 = .ok (.bipush 64, 2) := by decide +kernel
theorem dX5_codeOf_17 : decode cX5_codeOf 17 = .ok (.ireturn, 1) := by decide +kernel
theorem dX5_codeOf_18 : decode cX5_codeOf 18 = .ok (.iload_n 2, 1) := by decide +kernel
theorem dX5_codeOf_19 : decode cX5_codeOf 19 = .ok (.aload_n 0, 1) := by decide +kernel
theorem dX5_codeOf_20 : decode cX5_codeOf 20 = .ok (.invokevirtual 71, 3) := by decide +kernel
theorem dX5_codeOf_23 : decode cX5_codeOf 23 = .ok (.if_icmp .eq 5, 3) := by decide +kernel
theorem dX5_codeOf_26 : decode cX5_codeOf 26 = .ok (.iconst 5, 1) := by decide +kernel
theorem dX5_codeOf_27 : decode cX5_codeOf 27 = .ok (.ireturn, 1) := by decide +kernel
theorem dX5_codeOf_28 : decode cX5_codeOf 28 = .ok (.iload_n 1, 1) := by decide +kernel
theorem dX5_codeOf_29 : decode cX5_codeOf 29 = .ok (.bipush 6, 2) := by decide +kernel
theorem dX5_codeOf_31 : decode cX5_codeOf 31 = .ok (.if_icmp .ne 19, 3) := by decide +kernel
theorem dX5_codeOf_34 : decode cX5_codeOf 34 = .ok (.aload_n 0, 1) := by decide +kernel
theorem dX5_codeOf_35 : decode cX5_codeOf 35 = .ok (.iconst 0, 1) := by decide +kernel
theorem dX5_codeOf_36 : decode cX5_codeOf 36 = .ok (.invokevirtual 61, 3) := by decide +kernel
theorem dX5_codeOf_39 : decode cX5_codeOf 39 = .ok (.bipush 15, 2) := by decide +kernel
theorem dX5_codeOf_41 : decode cX5_codeOf 41 = .ok (.if_icmp .le 7, 3) := by decide +kernel
theorem dX5_codeOf_44 : decode cX5_codeOf 44 = .ok (.iconst 2, 1) := by decide +kernel
theorem dX5_codeOf_45 : decode cX5_codeOf 45 = .ok (.goto 4, 3) := by decide +kernel
theorem dX5_codeOf_48 : decode cX5_codeOf 48 = .ok (.iconst 0, 1) := by decide +kernel
theorem dX5_codeOf_49 : decode cX5_codeOf 49 = .ok (.ireturn, 1) := by decide +kernel
theorem dX5_codeOf_50 : decode cX5_codeOf 50 = .ok (.iload_n 1, 1) := by decide +kernel
theorem dX5_codeOf_51 : decode cX5_codeOf 51 = .ok (.bipush 11, 2) := by decide +kernel
theorem dX5_codeOf_53 : decode cX5_codeOf 53 = .ok (.if_icmp .ne 17, 3) := by decide +kernel
theorem dX5_codeOf_56 : decode cX5_codeOf 56 = .ok (.aload_n 0, 1) := by decide +kernel
theorem dX5_codeOf_57 : decode cX5_codeOf 57 = .ok (.invokevirtual 90, 3) := by decide +kernel
theorem dX5_codeOf_60 : decode cX5_codeOf 60 = .ok (.ifCond .eq 7, 3) := by decide +kernel
theorem dX5_codeOf_63 : decode cX5_codeOf 63 = .ok (.iconst 0, 1) := by decide +kernel
theorem dX5_codeOf_64 : decode cX5_codeOf 64 = .ok (.goto 5, 3) := by decide +kernel
theorem dX5_codeOf_67 : decode cX5_codeOf 67 = .ok (.bipush 65, 2) := by decide +kernel
theorem dX5_codeOf_69 : decode cX5_codeOf 69 = .ok (.ireturn, 1) := by decide +kernel
theorem dX5_codeOf_70 : decode cX5_codeOf 70 = .ok (.iload_n 1, 1) := by decide +kernel
theorem dX5_codeOf_71 : decode cX5_codeOf 71 = .ok (.bipush 35, 2) := by decide +kernel
theorem dX5_codeOf_73 : decode cX5_codeOf 73 = .ok (.if_icmp .ne 41, 3) := by decide +kernel
theorem dX5_codeOf_76 : decode cX5_codeOf 76 = .ok (.aload_n 0, 1) := by decide +kernel
theorem dX5_codeOf_77 : decode cX5_codeOf 77 = .ok (.iconst 1, 1) := by decide +kernel
theorem dX5_codeOf_78 : decode cX5_codeOf 78 = .ok (.invokevirtual 93, 3) := by decide +kernel
theorem dX5_codeOf_81 : decode cX5_codeOf 81 = .ok (.aload_n 0, 1) := by decide +kernel
theorem dX5_codeOf_82 : decode cX5_codeOf 82 = .ok (.iconst 5, 1) := by decide +kernel
theorem dX5_codeOf_83 : decode cX5_codeOf 83 = .ok (.invokevirtual 93, 3) := by decide +kernel
theorem dX5_codeOf_86 : decode cX5_codeOf 86 = .ok (.if_icmp .ne 8, 3) := by decide +kernel
theorem dX5_codeOf_89 : decode cX5_codeOf 89 = .ok (.bipush 9, 2) := by decide +kernel
theorem dX5_codeOf_91 : decode cX5_codeOf 91 = .ok (.goto 22, 3) := by decide +kernel
theorem dX5_codeOf_94 : decode cX5_codeOf 94 = .ok (.aload_n 0, 1) := by decide +kernel
theorem dX5_codeOf_95 : decode cX5_codeOf 95 = .ok (.iconst 1, 1) := by decide +kernel
theorem dX5_codeOf_96 : decode cX5_codeOf 96 = .ok (.invokevirtual 93, 3) := by decide +kernel
theorem dX5_codeOf_99 : decode cX5_codeOf 99 = .ok (.aload_n 0, 1) := by decide +kernel
theorem dX5_codeOf_100 : decode cX5_codeOf 100 = .ok (.iconst 5, 1) := by decide +kernel
theorem dX5_codeOf_101 : decode cX5_codeOf 101 = .ok (.invokevirtual 93, 3) := by decide +kernel
theorem dX5_codeOf_104 : decode cX5_codeOf 104 = .ok (.if_icmp .ge 8, 3) := by decide +kernel
theorem dX5_codeOf_107 : decode cX5_codeOf 107 = .ok (.bipush 11, 2) := by decide +kernel
theorem dX5_codeOf_109 : decode cX5_codeOf 109 = .ok (.goto 4, 3) := by decide +kernel
theorem dX5_codeOf_112 : decode cX5_codeOf 112 = .ok (.iconst 0, 1) := by decide +kernel
theorem dX5_codeOf_113 : decode cX5_codeOf 113 = .ok (.ireturn, 1) := by decide +kernel
theorem dX5_codeOf_114 : decode cX5_codeOf 114 = .ok (.iload_n 1, 1) := by decide +kernel
theorem dX5_codeOf_115 : decode cX5_codeOf 115 = .ok (.bipush 108, 2) := by decide +kernel
theorem dX5_codeOf_117 : decode cX5_codeOf 117 = .ok (.if_icmp .ne 26, 3) := by decide +kernel
theorem dX5_codeOf_120 : decode cX5_codeOf 120 = .ok (.aload_n 0, 1) := by decide +kernel
theorem dX5_codeOf_121 : decode cX5_codeOf 121 = .ok (.iconst 0, 1) := by decide +kernel
theorem dX5_codeOf_122 : decode cX5_codeOf 122 = .ok (.invokevirtual 61, 3) := by decide +kernel
theorem dX5_codeOf_125 : decode cX5_codeOf 125 = .ok (.ifCond .eq 12, 3) := by decide +kernel
theorem dX5_codeOf_128 : decode cX5_codeOf 128 = .ok (.aload_n 0, 1) := by decide +kernel
theorem dX5_codeOf_129 : decode cX5_codeOf 129 = .ok (.iconst 0, 1) := by decide +kernel
theorem dX5_codeOf_130 : decode cX5_codeOf 130 = .ok (.invokevirtual 61, 3) := by decide +kernel
theorem dX5_codeOf_133 : decode cX5_codeOf 133 = .ok (.iconst 3, 1) := by decide +kernel
theorem dX5_codeOf_134 : decode cX5_codeOf 134 = .ok (.if_icmp .le 7, 3) := by decide +kernel
theorem dX5_codeOf_137 : decode cX5_codeOf 137 = .ok (.iconst 2, 1) := by decide +kernel
theorem dX5_codeOf_138 : decode cX5_codeOf 138 = .ok (.goto 4, 3) := by decide +kernel
theorem dX5_codeOf_141 : decode cX5_codeOf 141 = .ok (.iconst 0, 1) := by decide +kernel
theorem dX5_codeOf_142 : decode cX5_codeOf 142 = .ok (.ireturn, 1) := by decide +kernel
theorem dX5_codeOf_143 : decode cX5_codeOf 143 = .ok (.iload_n 1, 1) := by decide +kernel
theorem dX5_codeOf_144 : decode cX5_codeOf 144 = .ok (.bipush 109, 2) := by decide +kernel
theorem dX5_codeOf_146 : decode cX5_codeOf 146 = .ok (.if_icmp .ne 16, 3) := by decide +kernel
theorem dX5_codeOf_149 : decode cX5_codeOf 149 = .ok (.aload_n 0, 1) := by decide +kernel
theorem dX5_codeOf_150 : decode cX5_codeOf 150 = .ok (.iconst 0, 1) := by decide +kernel
theorem dX5_codeOf_151 : decode cX5_codeOf 151 = .ok (.invokevirtual 61, 3) := by decide +kernel
theorem dX5_codeOf_154 : decode cX5_codeOf 154 = .ok (.iconst 1, 1) := by decide +kernel
theorem dX5_codeOf_155 : decode cX5_codeOf 155 = .ok (.if_icmp .le 7, 3) := by decide +kernel
theorem dX5_codeOf_158 : decode cX5_codeOf 158 = .ok (.iconst 2, 1) := by decide +kernel
theorem dX5_codeOf_159 : decode cX5_codeOf 159 = .ok (.goto 4, 3) := by decide +kernel
theorem dX5_codeOf_162 : decode cX5_codeOf 162 = .ok (.iconst 0, 1) := by decide +kernel
theorem dX5_codeOf_163 : decode cX5_codeOf 163 = .ok (.ireturn, 1) := by decide +kernel
theorem dX5_obey_0 : decode cX5_obey 0 = .ok (.aload_n 0, 1) := by decide +kernel
theorem dX5_obey_1 : decode cX5_obey 1 = .ok (.invokevirtual 77, 3) := by decide +kernel
theorem dX5_obey_4 : decode cX5_obey 4 = .ok (.istore_n 1, 1) := by decide +kernel
theorem dX5_obey_5 : decode cX5_obey 5 = .ok (.iload_n 1, 1) := by decide +kernel
theorem dX5_obey_6 : decode cX5_obey 6 = .ok (.bipush 38, 2) := by decide +kernel
theorem dX5_obey_8 : decode cX5_obey 8 = .ok (.if_icmp .ne 13, 3) := by decide +kernel
theorem dX5_obey_11 : decode cX5_obey 11 = .ok (.aload_n 0, 1) := by decide +kernel
theorem dX5_obey_12 : decode cX5_obey 12 = .ok (.getfield 23, 3) := by decide +kernel
theorem dX5_obey_15 : decode cX5_obey 15 = .ok (.aload_n 0, 1) := by decide +kernel
theorem dX5_obey_16 : decode cX5_obey 16 = .ok (.invokevirtual 96, 3) := by decide +kernel
theorem dX5_obey_19 : decode cX5_obey 19 = .ok (.iconst 0, 1) := by decide +kernel
theorem dX5_obey_20 : decode cX5_obey 20 = .ok (.bastore, 1) := by decide +kernel
theorem dX5_obey_21 : decode cX5_obey 21 = .ok (.iload_n 1, 1) := by decide +kernel
theorem dX5_obey_22 : decode cX5_obey 22 = .ok (.bipush 6, 2) := by decide +kernel
theorem dX5_obey_24 : decode cX5_obey 24 = .ok (.if_icmp .ne 15, 3) := by decide +kernel
theorem dX5_obey_27 : decode cX5_obey 27 = .ok (.aload_n 0, 1) := by decide +kernel
theorem dX5_obey_28 : decode cX5_obey 28 = .ok (.aload_n 0, 1) := by decide +kernel
theorem dX5_obey_29 : decode cX5_obey 29 = .ok (.iconst 0, 1) := by decide +kernel
theorem dX5_obey_30 : decode cX5_obey 30 = .ok (.invokevirtual 61, 3) := by decide +kernel
theorem dX5_obey_33 : decode cX5_obey 33 = .ok (.putfield 80, 3) := by decide +kernel
theorem dX5_obey_36 : decode cX5_obey 36 = .ok (.goto 115, 3) := by decide +kernel
theorem dX5_obey_39 : decode cX5_obey 39 = .ok (.iload_n 1, 1) := by decide +kernel
theorem dX5_obey_40 : decode cX5_obey 40 = .ok (.bipush 18, 2) := by decide +kernel
theorem dX5_obey_42 : decode cX5_obey 42 = .ok (.if_icmp .ne 31, 3) := by decide +kernel
theorem dX5_obey_45 : decode cX5_obey 45 = .ok (.iconst 0, 1) := by decide +kernel
theorem dX5_obey_46 : decode cX5_obey 46 = .ok (.istore_n 2, 1) := by decide +kernel
theorem dX5_obey_47 : decode cX5_obey 47 = .ok (.iload_n 2, 1) := by decide +kernel
theorem dX5_obey_48 : decode cX5_obey 48 = .ok (.bipush 6, 2) := by decide +kernel
theorem dX5_obey_50 : decode cX5_obey 50 = .ok (.if_icmp .ge 20, 3) := by decide +kernel
theorem dX5_obey_53 : decode cX5_obey 53 = .ok (.aload_n 0, 1) := by decide +kernel
theorem dX5_obey_54 : decode cX5_obey 54 = .ok (.getfield 13, 3) := by decide +kernel
theorem dX5_obey_57 : decode cX5_obey 57 = .ok (.iload_n 2, 1) := by decide +kernel
theorem dX5_obey_58 : decode cX5_obey 58 = .ok (.aload_n 0, 1) := by decide +kernel
theorem dX5_obey_59 : decode cX5_obey 59 = .ok (.iload_n 2, 1) := by decide +kernel
theorem dX5_obey_60 : decode cX5_obey 60 = .ok (.invokevirtual 61, 3) := by decide +kernel
theorem dX5_obey_63 : decode cX5_obey 63 = .ok (.iastore, 1) := by decide +kernel
theorem dX5_obey_64 : decode cX5_obey 64 = .ok (.iinc 2 1, 3) := by decide +kernel
theorem dX5_obey_67 : decode cX5_obey 67 = .ok (.goto (-20), 3) := by decide +kernel
theorem dX5_obey_70 : decode cX5_obey 70 = .ok (.goto 81, 3) := by decide +kernel
theorem dX5_obey_73 : decode cX5_obey 73 = .ok (.iload_n 1, 1) := by decide +kernel
theorem dX5_obey_74 : decode cX5_obey 74 = .ok (.bipush 35, 2) := by decide +kernel
theorem dX5_obey_76 : decode cX5_obey 76 = .ok (.if_icmp .ne 33, 3) := by decide +kernel
theorem dX5_obey_79 : decode cX5_obey 79 = .ok (.aload_n 0, 1) := by decide +kernel
theorem dX5_obey_80 : decode cX5_obey 80 = .ok (.aload_n 0, 1) := by decide +kernel
theorem dX5_obey_81 : decode cX5_obey 81 = .ok (.iconst 0, 1) := by decide +kernel
theorem dX5_obey_82 : decode cX5_obey 82 = .ok (.invokevirtual 61, 3) := by decide +kernel
theorem dX5_obey_85 : decode cX5_obey 85 = .ok (.putfield 99, 3) := by decide +kernel
theorem dX5_obey_88 : decode cX5_obey 88 = .ok (.aload_n 0, 1) := by decide +kernel
theorem dX5_obey_89 : decode cX5_obey 89 = .ok (.aload_n 0, 1) := by decide +kernel
theorem dX5_obey_90 : decode cX5_obey 90 = .ok (.iconst 1, 1) := by decide +kernel
theorem dX5_obey_91 : decode cX5_obey 91 = .ok (.invokevirtual 93, 3) := by decide +kernel
theorem dX5_obey_94 : decode cX5_obey 94 = .ok (.putfield 19, 3) := by decide +kernel
theorem dX5_obey_97 : decode cX5_obey 97 = .ok (.aload_n 0, 1) := by decide +kernel
theorem dX5_obey_98 : decode cX5_obey 98 = .ok (.aload_n 0, 1) := by decide +kernel
theorem dX5_obey_99 : decode cX5_obey 99 = .ok (.iconst 5, 1) := by decide +kernel
theorem dX5_obey_100 : decode cX5_obey 100 = .ok (.invokevirtual 93, 3) := by decide +kernel
theorem dX5_obey_103 : decode cX5_obey 103 = .ok (.putfield 102, 3) := by decide +kernel
theorem dX5_obey_106 : decode cX5_obey 106 = .ok (.goto 45, 3) := by decide +kernel
theorem dX5_obey_109 : decode cX5_obey 109 = .ok (.iload_n 1, 1) := by decide +kernel
theorem dX5_obey_110 : decode cX5_obey 110 = .ok (.bipush 108, 2) := by decide +kernel
theorem dX5_obey_112 : decode cX5_obey 112 = .ok (.if_icmp .ne 15, 3) := by decide +kernel
theorem dX5_obey_115 : decode cX5_obey 115 = .ok (.aload_n 0, 1) := by decide +kernel
theorem dX5_obey_116 : decode cX5_obey 116 = .ok (.aload_n 0, 1) := by decide +kernel
theorem dX5_obey_117 : decode cX5_obey 117 = .ok (.iconst 0, 1) := by decide +kernel
theorem dX5_obey_118 : decode cX5_obey 118 = .ok (.invokevirtual 61, 3) := by decide +kernel
theorem dX5_obey_121 : decode cX5_obey 121 = .ok (.putfield 30, 3) := by decide +kernel
theorem dX5_obey_124 : decode cX5_obey 124 = .ok (.goto 27, 3) := by decide +kernel
theorem dX5_obey_127 : decode cX5_obey 127 = .ok (.iload_n 1, 1) := by decide +kernel
theorem dX5_obey_128 : decode cX5_obey 128 = .ok (.bipush 109, 2) := by decide +kernel
theorem dX5_obey_130 : decode cX5_obey 130 = .ok (.if_icmp .ne 21, 3) := by decide +kernel
theorem dX5_obey_133 : decode cX5_obey 133 = .ok (.aload_n 0, 1) := by decide +kernel
theorem dX5_obey_134 : decode cX5_obey 134 = .ok (.aload_n 0, 1) := by decide +kernel
theorem dX5_obey_135 : decode cX5_obey 135 = .ok (.iconst 0, 1) := by decide +kernel
theorem dX5_obey_136 : decode cX5_obey 136 = .ok (.invokevirtual 61, 3) := by decide +kernel
theorem dX5_obey_139 : decode cX5_obey 139 = .ok (.iconst 1, 1) := by decide +kernel
theorem dX5_obey_140 : decode cX5_obey 140 = .ok (.if_icmp .ne 7, 3) := by decide +kernel
theorem dX5_obey_143 : decode cX5_obey 143 = .ok (.iconst 1, 1) := by decide +kernel
theorem dX5_obey_144 : decode cX5_obey 144 = .ok (.goto 4, 3) := by decide +kernel
theorem dX5_obey_147 : decode cX5_obey 147 = .ok (.iconst 0, 1) := by decide +kernel
theorem dX5_obey_148 : decode cX5_obey 148 = .ok (.putfield 105, 3) := by decide +kernel
theorem dX5_obey_151 : decode cX5_obey 151 = .ok (.iload_n 1, 1) := by decide +kernel
theorem dX5_obey_152 : decode cX5_obey 152 = .ok (.bipush 6, 2) := by decide +kernel
theorem dX5_obey_154 : decode cX5_obey 154 = .ok (.if_icmp .eq 27, 3) := by decide +kernel
theorem dX5_obey_157 : decode cX5_obey 157 = .ok (.iload_n 1, 1) := by decide +kernel
theorem dX5_obey_158 : decode cX5_obey 158 = .ok (.bipush 18, 2) := by decide +kernel
theorem dX5_obey_160 : decode cX5_obey 160 = .ok (.if_icmp .eq 21, 3) := by decide +kernel
theorem dX5_obey_163 : decode cX5_obey 163 = .ok (.iload_n 1, 1) := by decide +kernel
theorem dX5_obey_164 : decode cX5_obey 164 = .ok (.bipush 35, 2) := by decide +kernel
theorem dX5_obey_166 : decode cX5_obey 166 = .ok (.if_icmp .eq 15, 3) := by decide +kernel
theorem dX5_obey_169 : decode cX5_obey 169 = .ok (.iload_n 1, 1) := by decide +kernel
theorem dX5_obey_170 : decode cX5_obey 170 = .ok (.bipush 108, 2) := by decide +kernel
theorem dX5_obey_172 : decode cX5_obey 172 = .ok (.if_icmp .eq 9, 3) := by decide +kernel
theorem dX5_obey_175 : decode cX5_obey 175 = .ok (.iload_n 1, 1) := by decide +kernel
theorem dX5_obey_176 : decode cX5_obey 176 = .ok (.bipush 109, 2) := by decide +kernel
theorem dX5_obey_178 : decode cX5_obey 178 = .ok (.if_icmp .ne 17, 3) := by decide +kernel
theorem dX5_obey_181 : decode cX5_obey 181 = .ok (.aload_n 0, 1) := by decide +kernel
theorem dX5_obey_182 : decode cX5_obey 182 = .ok (.getfield 23, 3) := by decide +kernel
theorem dX5_obey_185 : decode cX5_obey 185 = .ok (.iconst 0, 1) := by decide +kernel
theorem dX5_obey_186 : decode cX5_obey 186 = .ok (.iconst 1, 1) := by decide +kernel
theorem dX5_obey_187 : decode cX5_obey 187 = .ok (.bastore, 1) := by decide +kernel
theorem dX5_obey_188 : decode cX5_obey 188 = .ok (.aload_n 0, 1) := by decide +kernel
theorem dX5_obey_189 : decode cX5_obey 189 = .ok (.getfield 23, 3) := by decide +kernel
theorem dX5_obey_192 : decode cX5_obey 192 = .ok (.iconst 1, 1) := by decide +kernel
theorem dX5_obey_193 : decode cX5_obey 193 = .ok (.iconst 1, 1) := by decide +kernel
theorem dX5_obey_194 : decode cX5_obey 194 = .ok (.bastore, 1) := by decide +kernel
theorem dX5_obey_195 : decode cX5_obey 195 = .ok (.return_, 1) := by decide +kernel
theorem dX5_put_0 : decode cX5_put 0 = .ok (.aload_n 0, 1) := by decide +kernel
theorem dX5_put_1 : decode cX5_put 1 = .ok (.getfield 36, 3) := by decide +kernel
theorem dX5_put_4 : decode cX5_put 4 = .ok (.aload_n 0, 1) := by decide +kernel
theorem dX5_put_5 : decode cX5_put 5 = .ok (.getfield 109, 3) := by decide +kernel
theorem dX5_put_8 : decode cX5_put 8 = .ok (.iload_n 1, 1) := by decide +kernel
theorem dX5_put_9 : decode cX5_put 9 = .ok (.sipush 255, 3) := by decide +kernel
theorem dX5_put_12 : decode cX5_put 12 = .ok (.iand, 1) := by decide +kernel
theorem dX5_put_13 : decode cX5_put 13 = .ok (.iastore, 1) := by decide +kernel
theorem dX5_put_14 : decode cX5_put 14 = .ok (.aload_n 0, 1) := by decide +kernel
theorem dX5_put_15 : decode cX5_put 15 = .ok (.dup, 1) := by decide +kernel
theorem dX5_put_16 : decode cX5_put 16 = .ok (.getfield 109, 3) := by decide +kernel
theorem dX5_put_19 : decode cX5_put 19 = .ok (.iconst 1, 1) := by decide +kernel
theorem dX5_put_20 : decode cX5_put 20 = .ok (.iadd, 1) := by decide +kernel
theorem dX5_put_21 : decode cX5_put 21 = .ok (.putfield 109, 3) := by decide +kernel
theorem dX5_put_24 : decode cX5_put 24 = .ok (.return_, 1) := by decide +kernel
theorem dX5_putWord_0 : decode cX5_putWord 0 = .ok (.aload_n 0, 1) := by decide +kernel
theorem dX5_putWord_1 : decode cX5_putWord 1 = .ok (.iload_n 1, 1) := by decide +kernel
theorem dX5_putWord_2 : decode cX5_putWord 2 = .ok (.bipush 24, 2) := by decide +kernel
theorem dX5_putWord_4 : decode cX5_putWord 4 = .ok (.ishr, 1) := by decide +kernel
theorem dX5_putWord_5 : decode cX5_putWord 5 = .ok (.invokevirtual 112, 3) := by decide +kernel
theorem dX5_putWord_8 : decode cX5_putWord 8 = .ok (.aload_n 0, 1) := by decide +kernel
theorem dX5_putWord_9 : decode cX5_putWord 9 = .ok (.iload_n 1, 1) := by decide +kernel
theorem dX5_putWord_10 : decode cX5_putWord 10 = .ok (.bipush 16, 2) := by decide +kernel
theorem dX5_putWord_12 : decode cX5_putWord 12 = .ok (.ishr, 1) := by decide +kernel
theorem dX5_putWord_13 : decode cX5_putWord 13 = .ok (.invokevirtual 112, 3) := by decide +kernel
theorem dX5_putWord_16 : decode cX5_putWord 16 = .ok (.aload_n 0, 1) := by decide +kernel
theorem dX5_putWord_17 : decode cX5_putWord 17 = .ok (.iload_n 1, 1) := by decide +kernel
theorem dX5_putWord_18 : decode cX5_putWord 18 = .ok (.bipush 8, 2) := by decide +kernel
theorem dX5_putWord_20 : decode cX5_putWord 20 = .ok (.ishr, 1) := by decide +kernel
theorem dX5_putWord_21 : decode cX5_putWord 21 = .ok (.invokevirtual 112, 3) := by decide +kernel
theorem dX5_putWord_24 : decode cX5_putWord 24 = .ok (.aload_n 0, 1) := by decide +kernel
theorem dX5_putWord_25 : decode cX5_putWord 25 = .ok (.iload_n 1, 1) := by decide +kernel
theorem dX5_putWord_26 : decode cX5_putWord 26 = .ok (.invokevirtual 112, 3) := by decide +kernel
theorem dX5_putWord_29 : decode cX5_putWord 29 = .ok (.return_, 1) := by decide +kernel
theorem dX5_putLevel_0 : decode cX5_putLevel 0 = .ok (.aload_n 0, 1) := by decide +kernel
theorem dX5_putLevel_1 : decode cX5_putLevel 1 = .ok (.getfield 16, 3) := by decide +kernel
theorem dX5_putLevel_4 : decode cX5_putLevel 4 = .ok (.iconst 0, 1) := by decide +kernel
theorem dX5_putLevel_5 : decode cX5_putLevel 5 = .ok (.iaload, 1) := by decide +kernel
theorem dX5_putLevel_6 : decode cX5_putLevel 6 = .ok (.i2l, 1) := by decide +kernel
theorem dX5_putLevel_7 : decode cX5_putLevel 7 = .ok (.aload_n 0, 1) := by decide +kernel
theorem dX5_putLevel_8 : decode cX5_putLevel 8 = .ok (.getfield 102, 3) := by decide +kernel
theorem dX5_putLevel_11 : decode cX5_putLevel 11 = .ok (.i2l, 1) := by decide +kernel
theorem dX5_putLevel_12 : decode cX5_putLevel 12 = .ok (.lsub, 1) := by decide +kernel
theorem dX5_putLevel_13 : decode cX5_putLevel 13 = .ok (.lstore_n 1, 1) := by decide +kernel
theorem dX5_putLevel_14 : decode cX5_putLevel 14 = .ok (.lload_n 1, 1) := by decide +kernel
theorem dX5_putLevel_15 : decode cX5_putLevel 15 = .ok (.ldc2_w 116, 3) := by decide +kernel
theorem dX5_putLevel_18 : decode cX5_putLevel 18 = .ok (.lmul, 1) := by decide +kernel
theorem dX5_putLevel_19 : decode cX5_putLevel 19 = .ok (.aload_n 0, 1) := by decide +kernel
theorem dX5_putLevel_20 : decode cX5_putLevel 20 = .ok (.getfield 19, 3) := by decide +kernel
theorem dX5_putLevel_23 : decode cX5_putLevel 23 = .ok (.i2l, 1) := by decide +kernel
theorem dX5_putLevel_24 : decode cX5_putLevel 24 = .ok (.aload_n 0, 1) := by decide +kernel
theorem dX5_putLevel_25 : decode cX5_putLevel 25 = .ok (.getfield 102, 3) := by decide +kernel
theorem dX5_putLevel_28 : decode cX5_putLevel 28 = .ok (.i2l, 1) := by decide +kernel
theorem dX5_putLevel_29 : decode cX5_putLevel 29 = .ok (.lsub, 1) := by decide +kernel
theorem dX5_putLevel_30 : decode cX5_putLevel 30 = .ok (.ldiv, 1) := by decide +kernel
theorem dX5_putLevel_31 : decode cX5_putLevel 31 = .ok (.ldc2_w 118, 3) := by decide +kernel
theorem dX5_putLevel_34 : decode cX5_putLevel 34 = .ok (.ladd, 1) := by decide +kernel
theorem dX5_putLevel_35 : decode cX5_putLevel 35 = .ok (.lstore_n 3, 1) := by decide +kernel
theorem dX5_putLevel_36 : decode cX5_putLevel 36 = .ok (.aload_n 0, 1) := by decide +kernel
theorem dX5_putLevel_37 : decode cX5_putLevel 37 = .ok (.lload_n 3, 1) := by decide +kernel
theorem dX5_putLevel_38 : decode cX5_putLevel 38 = .ok (.ldc2_w 120, 3) := by decide +kernel
theorem dX5_putLevel_41 : decode cX5_putLevel 41 = .ok (.lcmp, 1) := by decide +kernel
theorem dX5_putLevel_42 : decode cX5_putLevel 42 = .ok (.ifCond .ge 9, 3) := by decide +kernel
theorem dX5_putLevel_45 : decode cX5_putLevel 45 = .ok (.sipush 3800, 3) := by decide +kernel
theorem dX5_putLevel_48 : decode cX5_putLevel 48 = .ok (.goto 19, 3) := by decide +kernel
theorem dX5_putLevel_51 : decode cX5_putLevel 51 = .ok (.lload_n 3, 1) := by decide +kernel
theorem dX5_putLevel_52 : decode cX5_putLevel 52 = .ok (.ldc2_w 122, 3) := by decide +kernel
theorem dX5_putLevel_55 : decode cX5_putLevel 55 = .ok (.lcmp, 1) := by decide +kernel
theorem dX5_putLevel_56 : decode cX5_putLevel 56 = .ok (.ifCond .le 9, 3) := by decide +kernel
theorem dX5_putLevel_59 : decode cX5_putLevel 59 = .ok (.sipush 20500, 3) := by decide +kernel
theorem dX5_putLevel_62 : decode cX5_putLevel 62 = .ok (.goto 5, 3) := by decide +kernel
theorem dX5_putLevel_65 : decode cX5_putLevel 65 = .ok (.lload_n 3, 1) := by decide +kernel
theorem dX5_putLevel_66 : decode cX5_putLevel 66 = .ok (.l2i, 1) := by decide +kernel
theorem dX5_putLevel_67 : decode cX5_putLevel 67 = .ok (.invokevirtual 124, 3) := by decide +kernel
theorem dX5_putLevel_70 : decode cX5_putLevel 70 = .ok (.return_, 1) := by decide +kernel
theorem dX5_putData_0 : decode cX5_putData 0 = .ok (.iload_n 1, 1) := by decide +kernel
theorem dX5_putData_1 : decode cX5_putData 1 = .ok (.ifCond .eq 9, 3) := by decide +kernel
theorem dX5_putData_4 : decode cX5_putData 4 = .ok (.iload_n 1, 1) := by decide +kernel
theorem dX5_putData_5 : decode cX5_putData 5 = .ok (.bipush 11, 2) := by decide +kernel
theorem dX5_putData_7 : decode cX5_putData 7 = .ok (.if_icmp .ne 68, 3) := by decide +kernel
theorem dX5_putData_10 : decode cX5_putData 10 = .ok (.aload_n 0, 1) := by decide +kernel
theorem dX5_putData_11 : decode cX5_putData 11 = .ok (.sipush 254, 3) := by decide +kernel
theorem dX5_putData_14 : decode cX5_putData 14 = .ok (.invokevirtual 112, 3) := by decide +kernel
theorem dX5_putData_17 : decode cX5_putData 17 = .ok (.aload_n 0, 1) := by decide +kernel
theorem dX5_putData_18 : decode cX5_putData 18 = .ok (.aload_n 0, 1) := by decide +kernel
theorem dX5_putData_19 : decode cX5_putData 19 = .ok (.getfield 7, 3) := by decide +kernel
theorem dX5_putData_22 : decode cX5_putData 22 = .ok (.iconst 0, 1) := by decide +kernel
theorem dX5_putData_23 : decode cX5_putData 23 = .ok (.iaload, 1) := by decide +kernel
theorem dX5_putData_24 : decode cX5_putData 24 = .ok (.invokevirtual 112, 3) := by decide +kernel
theorem dX5_putData_27 : decode cX5_putData 27 = .ok (.aload_n 0, 1) := by decide +kernel
theorem dX5_putData_28 : decode cX5_putData 28 = .ok (.aload_n 0, 1) := by decide +kernel
theorem dX5_putData_29 : decode cX5_putData 29 = .ok (.getfield 7, 3) := by decide +kernel
theorem dX5_putData_32 : decode cX5_putData 32 = .ok (.iconst 1, 1) := by decide +kernel
theorem dX5_putData_33 : decode cX5_putData 33 = .ok (.iaload, 1) := by decide +kernel
theorem dX5_putData_34 : decode cX5_putData 34 = .ok (.invokevirtual 112, 3) := by decide +kernel
theorem dX5_putData_37 : decode cX5_putData 37 = .ok (.aload_n 0, 1) := by decide +kernel
theorem dX5_putData_38 : decode cX5_putData 38 = .ok (.iconst 5, 1) := by decide +kernel
theorem dX5_putData_39 : decode cX5_putData 39 = .ok (.invokevirtual 112, 3) := by decide +kernel
theorem dX5_putData_42 : decode cX5_putData 42 = .ok (.aload_n 0, 1) := by decide +kernel
theorem dX5_putData_43 : decode cX5_putData 43 = .ok (.aload_n 0, 1) := by decide +kernel
theorem dX5_putData_44 : decode cX5_putData 44 = .ok (.getfield 7, 3) := by decide +kernel
theorem dX5_putData_47 : decode cX5_putData 47 = .ok (.iconst 2, 1) := by decide +kernel
theorem dX5_putData_48 : decode cX5_putData 48 = .ok (.iaload, 1) := by decide +kernel
theorem dX5_putData_49 : decode cX5_putData 49 = .ok (.invokevirtual 112, 3) := by decide +kernel
theorem dX5_putData_52 : decode cX5_putData 52 = .ok (.aload_n 0, 1) := by decide +kernel
theorem dX5_putData_53 : decode cX5_putData 53 = .ok (.aload_n 0, 1) := by decide +kernel
theorem dX5_putData_54 : decode cX5_putData 54 = .ok (.getfield 7, 3) := by decide +kernel
theorem dX5_putData_57 : decode cX5_putData 57 = .ok (.iconst 3, 1) := by decide +kernel
theorem dX5_putData_58 : decode cX5_putData 58 = .ok (.iaload, 1) := by decide +kernel
theorem dX5_putData_59 : decode cX5_putData 59 = .ok (.invokevirtual 112, 3) := by decide +kernel
theorem dX5_putData_62 : decode cX5_putData 62 = .ok (.aload_n 0, 1) := by decide +kernel
theorem dX5_putData_63 : decode cX5_putData 63 = .ok (.aload_n 0, 1) := by decide +kernel
theorem dX5_putData_64 : decode cX5_putData 64 = .ok (.getfield 7, 3) := by decide +kernel
theorem dX5_putData_67 : decode cX5_putData 67 = .ok (.iconst 4, 1) := by decide +kernel
theorem dX5_putData_68 : decode cX5_putData 68 = .ok (.iaload, 1) := by decide +kernel
theorem dX5_putData_69 : decode cX5_putData 69 = .ok (.invokevirtual 112, 3) := by decide +kernel
theorem dX5_putData_72 : decode cX5_putData 72 = .ok (.goto 173, 3) := by decide +kernel
theorem dX5_putData_75 : decode cX5_putData 75 = .ok (.iload_n 1, 1) := by decide +kernel
theorem dX5_putData_76 : decode cX5_putData 76 = .ok (.iconst 1, 1) := by decide +kernel
theorem dX5_putData_77 : decode cX5_putData 77 = .ok (.if_icmp .ne 24, 3) := by decide +kernel
theorem dX5_putData_80 : decode cX5_putData 80 = .ok (.aload_n 0, 1) := by decide +kernel
theorem dX5_putData_81 : decode cX5_putData 81 = .ok (.aload_n 0, 1) := by decide +kernel
theorem dX5_putData_82 : decode cX5_putData 82 = .ok (.getfield 99, 3) := by decide +kernel
theorem dX5_putData_85 : decode cX5_putData 85 = .ok (.invokevirtual 112, 3) := by decide +kernel
theorem dX5_putData_88 : decode cX5_putData 88 = .ok (.aload_n 0, 1) := by decide +kernel
theorem dX5_putData_89 : decode cX5_putData 89 = .ok (.aload_n 0, 1) := by decide +kernel
theorem dX5_putData_90 : decode cX5_putData 90 = .ok (.getfield 16, 3) := by decide +kernel
theorem dX5_putData_93 : decode cX5_putData 93 = .ok (.iconst 0, 1) := by decide +kernel
theorem dX5_putData_94 : decode cX5_putData 94 = .ok (.iaload, 1) := by decide +kernel
theorem dX5_putData_95 : decode cX5_putData 95 = .ok (.invokevirtual 124, 3) := by decide +kernel
theorem dX5_putData_98 : decode cX5_putData 98 = .ok (.goto 147, 3) := by decide +kernel
theorem dX5_putData_101 : decode cX5_putData 101 = .ok (.iload_n 1, 1) := by decide +kernel
theorem dX5_putData_102 : decode cX5_putData 102 = .ok (.iconst 2, 1) := by decide +kernel
theorem dX5_putData_103 : decode cX5_putData 103 = .ok (.if_icmp .ne 10, 3) := by decide +kernel
theorem dX5_putData_106 : decode cX5_putData 106 = .ok (.aload_n 0, 1) := by decide +kernel
theorem dX5_putData_107 : decode cX5_putData 107 = .ok (.invokevirtual 127, 3) := by decide +kernel
theorem dX5_putData_110 : decode cX5_putData 110 = .ok (.goto 135, 3) := by decide +kernel
theorem dX5_putData_113 : decode cX5_putData 113 = .ok (.iload_n 1, 1) := by decide +kernel
theorem dX5_putData_114 : decode cX5_putData 114 = .ok (.iconst 3, 1) := by decide +kernel
theorem dX5_putData_115 : decode cX5_putData 115 = .ok (.if_icmp .ne 33, 3) := by decide +kernel
theorem dX5_putData_118 : decode cX5_putData 118 = .ok (.aload_n 0, 1) := by decide +kernel
theorem dX5_putData_119 : decode cX5_putData 119 = .ok (.invokevirtual 127, 3) := by decide +kernel
theorem dX5_putData_122 : decode cX5_putData 122 = .ok (.iconst 0, 1) := by decide +kernel
theorem dX5_putData_123 : decode cX5_putData 123 = .ok (.istore_n 2, 1) := by decide +kernel
theorem dX5_putData_124 : decode cX5_putData 124 = .ok (.iload_n 2, 1) := by decide +kernel
theorem dX5_putData_125 : decode cX5_putData 125 = .ok (.iconst 4, 1) := by decide +kernel
theorem dX5_putData_126 : decode cX5_putData 126 = .ok (.if_icmp .ge 19, 3) := by decide +kernel
theorem dX5_putData_129 : decode cX5_putData 129 = .ok (.aload_n 0, 1) := by decide +kernel
theorem dX5_putData_130 : decode cX5_putData 130 = .ok (.aload_n 0, 1) := by decide +kernel
theorem dX5_putData_131 : decode cX5_putData 131 = .ok (.getfield 16, 3) := by decide +kernel
theorem dX5_putData_134 : decode cX5_putData 134 = .ok (.iload_n 2, 1) := by decide +kernel
theorem dX5_putData_135 : decode cX5_putData 135 = .ok (.iaload, 1) := by decide +kernel
theorem dX5_putData_136 : decode cX5_putData 136 = .ok (.invokevirtual 124, 3) := by decide +kernel
theorem dX5_putData_139 : decode cX5_putData 139 = .ok (.iinc 2 1, 3) := by decide +kernel
theorem dX5_putData_142 : decode cX5_putData 142 = .ok (.goto (-18), 3) := by decide +kernel
theorem dX5_putData_145 : decode cX5_putData 145 = .ok (.goto 100, 3) := by decide +kernel
theorem dX5_putData_148 : decode cX5_putData 148 = .ok (.iload_n 1, 1) := by decide +kernel
theorem dX5_putData_149 : decode cX5_putData 149 = .ok (.bipush 13, 2) := by decide +kernel
theorem dX5_putData_151 : decode cX5_putData 151 = .ok (.if_icmp .ne 30, 3) := by decide +kernel
theorem dX5_putData_154 : decode cX5_putData 154 = .ok (.iconst 0, 1) := by decide +kernel
theorem dX5_putData_155 : decode cX5_putData 155 = .ok (.istore_n 2, 1) := by decide +kernel
theorem dX5_putData_156 : decode cX5_putData 156 = .ok (.iload_n 2, 1) := by decide +kernel
theorem dX5_putData_157 : decode cX5_putData 157 = .ok (.bipush 6, 2) := by decide +kernel
theorem dX5_putData_159 : decode cX5_putData 159 = .ok (.if_icmp .ge 19, 3) := by decide +kernel
theorem dX5_putData_162 : decode cX5_putData 162 = .ok (.aload_n 0, 1) := by decide +kernel
theorem dX5_putData_163 : decode cX5_putData 163 = .ok (.aload_n 0, 1) := by decide +kernel
theorem dX5_putData_164 : decode cX5_putData 164 = .ok (.getfield 13, 3) := by decide +kernel
theorem dX5_putData_167 : decode cX5_putData 167 = .ok (.iload_n 2, 1) := by decide +kernel
theorem dX5_putData_168 : decode cX5_putData 168 = .ok (.iaload, 1) := by decide +kernel
theorem dX5_putData_169 : decode cX5_putData 169 = .ok (.invokevirtual 112, 3) := by decide +kernel
theorem dX5_putData_172 : decode cX5_putData 172 = .ok (.iinc 2 1, 3) := by decide +kernel
theorem dX5_putData_175 : decode cX5_putData 175 = .ok (.goto (-19), 3) := by decide +kernel
theorem dX5_putData_178 : decode cX5_putData 178 = .ok (.goto 67, 3) := by decide +kernel
theorem dX5_putData_181 : decode cX5_putData 181 = .ok (.iload_n 1, 1) := by decide +kernel
theorem dX5_putData_182 : decode cX5_putData 182 = .ok (.bipush 48, 2) := by decide +kernel
theorem dX5_putData_184 : decode cX5_putData 184 = .ok (.if_icmp .ne 30, 3) := by decide +kernel
theorem dX5_putData_187 : decode cX5_putData 187 = .ok (.aload_n 0, 1) := by decide +kernel
theorem dX5_putData_188 : decode cX5_putData 188 = .ok (.aload_n 0, 1) := by decide +kernel
theorem dX5_putData_189 : decode cX5_putData 189 = .ok (.getfield 130, 3) := by decide +kernel
theorem dX5_putData_192 : decode cX5_putData 192 = .ok (.ifCond .eq 7, 3) := by decide +kernel
theorem dX5_putData_195 : decode cX5_putData 195 = .ok (.iconst 1, 1) := by decide +kernel
theorem dX5_putData_196 : decode cX5_putData 196 = .ok (.goto 4, 3) := by decide +kernel
theorem dX5_putData_199 : decode cX5_putData 199 = .ok (.iconst 0, 1) := by decide +kernel
theorem dX5_putData_200 : decode cX5_putData 200 = .ok (.invokevirtual 112, 3) := by decide +kernel
theorem dX5_putData_203 : decode cX5_putData 203 = .ok (.aload_n 0, 1) := by decide +kernel
theorem dX5_putData_204 : decode cX5_putData 204 = .ok (.aload_n 0, 1) := by decide +kernel
theorem dX5_putData_205 : decode cX5_putData 205 = .ok (.getfield 133, 3) := by decide +kernel
theorem dX5_putData_208 : decode cX5_putData 208 = .ok (.invokevirtual 112, 3) := by decide +kernel
theorem dX5_putData_211 : decode cX5_putData 211 = .ok (.goto 34, 3) := by decide +kernel
theorem dX5_putData_214 : decode cX5_putData 214 = .ok (.iload_n 1, 1) := by decide +kernel
theorem dX5_putData_215 : decode cX5_putData 215 = .ok (.bipush 38, 2) := by decide +kernel
theorem dX5_putData_217 : decode cX5_putData 217 = .ok (.if_icmp .eq 28, 3) := by decide +kernel
theorem dX5_putData_220 : decode cX5_putData 220 = .ok (.iconst 0, 1) := by decide +kernel
theorem dX5_putData_221 : decode cX5_putData 221 = .ok (.istore_n 2, 1) := by decide +kernel
theorem dX5_putData_222 : decode cX5_putData 222 = .ok (.iload_n 2, 1) := by decide +kernel
theorem dX5_putData_223 : decode cX5_putData 223 = .ok (.aload_n 0, 1) := by decide +kernel
theorem dX5_putData_224 : decode cX5_putData 224 = .ok (.invokevirtual 71, 3) := by decide +kernel
theorem dX5_putData_227 : decode cX5_putData 227 = .ok (.if_icmp .ge 18, 3) := by decide +kernel
theorem dX5_putData_230 : decode cX5_putData 230 = .ok (.aload_n 0, 1) := by decide +kernel
theorem dX5_putData_231 : decode cX5_putData 231 = .ok (.aload_n 0, 1) := by decide +kernel
theorem dX5_putData_232 : decode cX5_putData 232 = .ok (.iload_n 2, 1) := by decide +kernel
theorem dX5_putData_233 : decode cX5_putData 233 = .ok (.invokevirtual 61, 3) := by decide +kernel
theorem dX5_putData_236 : decode cX5_putData 236 = .ok (.invokevirtual 112, 3) := by decide +kernel
theorem dX5_putData_239 : decode cX5_putData 239 = .ok (.iinc 2 1, 3) := by decide +kernel
theorem dX5_putData_242 : decode cX5_putData 242 = .ok (.goto (-20), 3) := by decide +kernel
theorem dX5_putData_245 : decode cX5_putData 245 = .ok (.return_, 1) := by decide +kernel
theorem dX5_statusOf_0 : decode cX5_statusOf 0 = .ok (.aload_n 0, 1) := by decide +kernel
theorem dX5_statusOf_1 : decode cX5_statusOf 1 = .ok (.getfield 130, 3) := by decide +kernel
theorem dX5_statusOf_4 : decode cX5_statusOf 4 = .ok (.ifCond .eq 9, 3) := by decide +kernel
theorem dX5_statusOf_7 : decode cX5_statusOf 7 = .ok (.sipush 128, 3) := by decide +kernel
theorem dX5_statusOf_10 : decode cX5_statusOf 10 = .ok (.goto 4, 3) := by decide +kernel
theorem dX5_statusOf_13 : decode cX5_statusOf 13 = .ok (.iconst 0, 1) := by decide +kernel
theorem dX5_statusOf_14 : decode cX5_statusOf 14 = .ok (.istore_n 2, 1) := by decide +kernel
theorem dX5_statusOf_15 : decode cX5_statusOf 15 = .ok (.aload_n 0, 1) := by decide +kernel
theorem dX5_statusOf_16 : decode cX5_statusOf 16 = .ok (.getfield 23, 3) := by decide +kernel
theorem dX5_statusOf_19 : decode cX5_statusOf 19 = .ok (.iload_n 1, 1) := by decide +kernel
theorem dX5_statusOf_20 : decode cX5_statusOf 20 = .ok (.baload, 1) := by decide +kernel
theorem dX5_statusOf_21 : decode cX5_statusOf 21 = .ok (.ifCond .eq 10, 3) := by decide +kernel
theorem dX5_statusOf_24 : decode cX5_statusOf 24 = .ok (.iload_n 2, 1) := by decide +kernel
theorem dX5_statusOf_25 : decode cX5_statusOf 25 = .ok (.bipush 64, 2) := by decide +kernel
theorem dX5_statusOf_27 : decode cX5_statusOf 27 = .ok (.iadd, 1) := by decide +kernel
theorem dX5_statusOf_28 : decode cX5_statusOf 28 = .ok (.goto 4, 3) := by decide +kernel
theorem dX5_statusOf_31 : decode cX5_statusOf 31 = .ok (.iload_n 2, 1) := by decide +kernel
theorem dX5_statusOf_32 : decode cX5_statusOf 32 = .ok (.istore_n 2, 1) := by decide +kernel
theorem dX5_statusOf_33 : decode cX5_statusOf 33 = .ok (.aload_n 0, 1) := by decide +kernel
theorem dX5_statusOf_34 : decode cX5_statusOf 34 = .ok (.getfield 27, 3) := by decide +kernel
theorem dX5_statusOf_37 : decode cX5_statusOf 37 = .ok (.iload_n 1, 1) := by decide +kernel
theorem dX5_statusOf_38 : decode cX5_statusOf 38 = .ok (.baload, 1) := by decide +kernel
theorem dX5_statusOf_39 : decode cX5_statusOf 39 = .ok (.ifCond .eq 10, 3) := by decide +kernel
theorem dX5_statusOf_42 : decode cX5_statusOf 42 = .ok (.iload_n 2, 1) := by decide +kernel
theorem dX5_statusOf_43 : decode cX5_statusOf 43 = .ok (.bipush 32, 2) := by decide +kernel
theorem dX5_statusOf_45 : decode cX5_statusOf 45 = .ok (.iadd, 1) := by decide +kernel
theorem dX5_statusOf_46 : decode cX5_statusOf 46 = .ok (.goto 4, 3) := by decide +kernel
theorem dX5_statusOf_49 : decode cX5_statusOf 49 = .ok (.iload_n 2, 1) := by decide +kernel
theorem dX5_statusOf_50 : decode cX5_statusOf 50 = .ok (.istore_n 2, 1) := by decide +kernel
theorem dX5_statusOf_51 : decode cX5_statusOf 51 = .ok (.aload_n 0, 1) := by decide +kernel
theorem dX5_statusOf_52 : decode cX5_statusOf 52 = .ok (.getfield 16, 3) := by decide +kernel
theorem dX5_statusOf_55 : decode cX5_statusOf 55 = .ok (.iconst 0, 1) := by decide +kernel
theorem dX5_statusOf_56 : decode cX5_statusOf 56 = .ok (.iaload, 1) := by decide +kernel
theorem dX5_statusOf_57 : decode cX5_statusOf 57 = .ok (.aload_n 0, 1) := by decide +kernel
theorem dX5_statusOf_58 : decode cX5_statusOf 58 = .ok (.getfield 102, 3) := by decide +kernel
theorem dX5_statusOf_61 : decode cX5_statusOf 61 = .ok (.if_icmp .lt 16, 3) := by decide +kernel
theorem dX5_statusOf_64 : decode cX5_statusOf 64 = .ok (.aload_n 0, 1) := by decide +kernel
theorem dX5_statusOf_65 : decode cX5_statusOf 65 = .ok (.getfield 16, 3) := by decide +kernel
theorem dX5_statusOf_68 : decode cX5_statusOf 68 = .ok (.iconst 0, 1) := by decide +kernel
theorem dX5_statusOf_69 : decode cX5_statusOf 69 = .ok (.iaload, 1) := by decide +kernel
theorem dX5_statusOf_70 : decode cX5_statusOf 70 = .ok (.aload_n 0, 1) := by decide +kernel
theorem dX5_statusOf_71 : decode cX5_statusOf 71 = .ok (.getfield 19, 3) := by decide +kernel
theorem dX5_statusOf_74 : decode cX5_statusOf 74 = .ok (.if_icmp .le 10, 3) := by decide +kernel
theorem dX5_statusOf_77 : decode cX5_statusOf 77 = .ok (.iload_n 2, 1) := by decide +kernel
theorem dX5_statusOf_78 : decode cX5_statusOf 78 = .ok (.bipush 8, 2) := by decide +kernel
theorem dX5_statusOf_80 : decode cX5_statusOf 80 = .ok (.iadd, 1) := by decide +kernel
theorem dX5_statusOf_81 : decode cX5_statusOf 81 = .ok (.goto 4, 3) := by decide +kernel
theorem dX5_statusOf_84 : decode cX5_statusOf 84 = .ok (.iload_n 2, 1) := by decide +kernel
theorem dX5_statusOf_85 : decode cX5_statusOf 85 = .ok (.ireturn, 1) := by decide +kernel
theorem dX5_send_0 : decode cX5_send 0 = .ok (.aload_n 0, 1) := by decide +kernel
theorem dX5_send_1 : decode cX5_send 1 = .ok (.iconst 0, 1) := by decide +kernel
theorem dX5_send_2 : decode cX5_send 2 = .ok (.putfield 109, 3) := by decide +kernel
theorem dX5_send_5 : decode cX5_send 5 = .ok (.aload_n 0, 1) := by decide +kernel
theorem dX5_send_6 : decode cX5_send 6 = .ok (.lload 5, 2) := by decide +kernel
theorem dX5_send_8 : decode cX5_send 8 = .ok (.putfield 41, 3) := by decide +kernel
theorem dX5_send_11 : decode cX5_send 11 = .ok (.iconst 0, 1) := by decide +kernel
theorem dX5_send_12 : decode cX5_send 12 = .ok (.istore 7, 2) := by decide +kernel
theorem dX5_send_14 : decode cX5_send 14 = .ok (.iload 7, 2) := by decide +kernel
theorem dX5_send_16 : decode cX5_send 16 = .ok (.iconst 5, 1) := by decide +kernel
theorem dX5_send_17 : decode cX5_send 17 = .ok (.if_icmp .ge 16, 3) := by decide +kernel
theorem dX5_send_20 : decode cX5_send 20 = .ok (.aload_n 0, 1) := by decide +kernel
theorem dX5_send_21 : decode cX5_send 21 = .ok (.sipush 255, 3) := by decide +kernel
theorem dX5_send_24 : decode cX5_send 24 = .ok (.invokevirtual 112, 3) := by decide +kernel
theorem dX5_send_27 : decode cX5_send 27 = .ok (.iinc 7 1, 3) := by decide +kernel
theorem dX5_send_30 : decode cX5_send 30 = .ok (.goto (-16), 3) := by decide +kernel
theorem dX5_send_33 : decode cX5_send 33 = .ok (.aload_n 0, 1) := by decide +kernel
theorem dX5_send_34 : decode cX5_send 34 = .ok (.iload_n 1, 1) := by decide +kernel
theorem dX5_send_35 : decode cX5_send 35 = .ok (.invokevirtual 112, 3) := by decide +kernel
theorem dX5_send_38 : decode cX5_send 38 = .ok (.iload_n 1, 1) := by decide +kernel
theorem dX5_send_39 : decode cX5_send 39 = .ok (.bipush 6, 2) := by decide +kernel
theorem dX5_send_41 : decode cX5_send 41 = .ok (.if_icmp .ne 10, 3) := by decide +kernel
theorem dX5_send_44 : decode cX5_send 44 = .ok (.aload_n 0, 1) := by decide +kernel
theorem dX5_send_45 : decode cX5_send 45 = .ok (.getfield 80, 3) := by decide +kernel
theorem dX5_send_48 : decode cX5_send 48 = .ok (.goto 9, 3) := by decide +kernel
theorem dX5_send_51 : decode cX5_send 51 = .ok (.aload_n 0, 1) := by decide +kernel
theorem dX5_send_52 : decode cX5_send 52 = .ok (.getfield 7, 3) := by decide +kernel
theorem dX5_send_55 : decode cX5_send 55 = .ok (.iconst 0, 1) := by decide +kernel
theorem dX5_send_56 : decode cX5_send 56 = .ok (.iaload, 1) := by decide +kernel
theorem dX5_send_57 : decode cX5_send 57 = .ok (.istore 7, 2) := by decide +kernel
theorem dX5_send_59 : decode cX5_send 59 = .ok (.iload_n 2, 1) := by decide +kernel
theorem dX5_send_60 : decode cX5_send 60 = .ok (.ifCond .ne 12, 3) := by decide +kernel
theorem dX5_send_63 : decode cX5_send 63 = .ok (.iload 7, 2) := by decide +kernel
theorem dX5_send_65 : decode cX5_send 65 = .ok (.sipush 128, 3) := by decide +kernel
theorem dX5_send_68 : decode cX5_send 68 = .ok (.iadd, 1) := by decide +kernel
theorem dX5_send_69 : decode cX5_send 69 = .ok (.goto 5, 3) := by decide +kernel
theorem dX5_send_72 : decode cX5_send 72 = .ok (.iload 7, 2) := by decide +kernel
theorem dX5_send_74 : decode cX5_send 74 = .ok (.istore 7, 2) := by decide +kernel
theorem dX5_send_76 : decode cX5_send 76 = .ok (.aload_n 0, 1) := by decide +kernel
theorem dX5_send_77 : decode cX5_send 77 = .ok (.aload_n 0, 1) := by decide +kernel
theorem dX5_send_78 : decode cX5_send 78 = .ok (.getfield 105, 3) := by decide +kernel
theorem dX5_send_81 : decode cX5_send 81 = .ok (.ifCond .eq 11, 3) := by decide +kernel
theorem dX5_send_84 : decode cX5_send 84 = .ok (.iload 7, 2) := by decide +kernel
theorem dX5_send_86 : decode cX5_send 86 = .ok (.bipush 64, 2) := by decide +kernel
theorem dX5_send_88 : decode cX5_send 88 = .ok (.iadd, 1) := by decide +kernel
theorem dX5_send_89 : decode cX5_send 89 = .ok (.goto 5, 3) := by decide +kernel
theorem dX5_send_92 : decode cX5_send 92 = .ok (.iload 7, 2) := by decide +kernel
theorem dX5_send_94 : decode cX5_send 94 = .ok (.invokevirtual 112, 3) := by decide +kernel
theorem dX5_send_97 : decode cX5_send 97 = .ok (.iconst 1, 1) := by decide +kernel
theorem dX5_send_98 : decode cX5_send 98 = .ok (.istore 8, 2) := by decide +kernel
theorem dX5_send_100 : decode cX5_send 100 = .ok (.iload 8, 2) := by decide +kernel
theorem dX5_send_102 : decode cX5_send 102 = .ok (.iconst 5, 1) := by decide +kernel
theorem dX5_send_103 : decode cX5_send 103 = .ok (.if_icmp .ge 26, 3) := by decide +kernel
theorem dX5_send_106 : decode cX5_send 106 = .ok (.iload_n 1, 1) := by decide +kernel
theorem dX5_send_107 : decode cX5_send 107 = .ok (.bipush 6, 2) := by decide +kernel
theorem dX5_send_109 : decode cX5_send 109 = .ok (.if_icmp .eq 20, 3) := by decide +kernel
theorem dX5_send_112 : decode cX5_send 112 = .ok (.aload_n 0, 1) := by decide +kernel
theorem dX5_send_113 : decode cX5_send 113 = .ok (.aload_n 0, 1) := by decide +kernel
theorem dX5_send_114 : decode cX5_send 114 = .ok (.getfield 7, 3) := by decide +kernel
theorem dX5_send_117 : decode cX5_send 117 = .ok (.iload 8, 2) := by decide +kernel
theorem dX5_send_119 : decode cX5_send 119 = .ok (.iaload, 1) := by decide +kernel
theorem dX5_send_120 : decode cX5_send 120 = .ok (.invokevirtual 112, 3) := by decide +kernel
theorem dX5_send_123 : decode cX5_send 123 = .ok (.iinc 8 1, 3) := by decide +kernel
theorem dX5_send_126 : decode cX5_send 126 = .ok (.goto (-26), 3) := by decide +kernel
theorem dX5_send_129 : decode cX5_send 129 = .ok (.aload_n 0, 1) := by decide +kernel
theorem dX5_send_130 : decode cX5_send 130 = .ok (.iload_n 3, 1) := by decide +kernel
theorem dX5_send_131 : decode cX5_send 131 = .ok (.invokevirtual 112, 3) := by decide +kernel
theorem dX5_send_134 : decode cX5_send 134 = .ok (.aload_n 0, 1) := by decide +kernel
theorem dX5_send_135 : decode cX5_send 135 = .ok (.getfield 109, 3) := by decide +kernel
theorem dX5_send_138 : decode cX5_send 138 = .ok (.istore 8, 2) := by decide +kernel
theorem dX5_send_140 : decode cX5_send 140 = .ok (.aload_n 0, 1) := by decide +kernel
theorem dX5_send_141 : decode cX5_send 141 = .ok (.iconst 0, 1) := by decide +kernel
theorem dX5_send_142 : decode cX5_send 142 = .ok (.invokevirtual 112, 3) := by decide +kernel
theorem dX5_send_145 : decode cX5_send 145 = .ok (.aload_n 0, 1) := by decide +kernel
theorem dX5_send_146 : decode cX5_send 146 = .ok (.iload 4, 2) := by decide +kernel
theorem dX5_send_148 : decode cX5_send 148 = .ok (.invokevirtual 112, 3) := by decide +kernel
theorem dX5_send_151 : decode cX5_send 151 = .ok (.aload_n 0, 1) := by decide +kernel
theorem dX5_send_152 : decode cX5_send 152 = .ok (.aload_n 0, 1) := by decide +kernel
theorem dX5_send_153 : decode cX5_send 153 = .ok (.iload_n 2, 1) := by decide +kernel
theorem dX5_send_154 : decode cX5_send 154 = .ok (.invokevirtual 136, 3) := by decide +kernel
theorem dX5_send_157 : decode cX5_send 157 = .ok (.invokevirtual 112, 3) := by decide +kernel
theorem dX5_send_160 : decode cX5_send 160 = .ok (.iload 4, 2) := by decide +kernel
theorem dX5_send_162 : decode cX5_send 162 = .ok (.ifCond .ne 8, 3) := by decide +kernel
theorem dX5_send_165 : decode cX5_send 165 = .ok (.aload_n 0, 1) := by decide +kernel
theorem dX5_send_166 : decode cX5_send 166 = .ok (.iload_n 3, 1) := by decide +kernel
theorem dX5_send_167 : decode cX5_send 167 = .ok (.invokevirtual 139, 3) := by decide +kernel
theorem dX5_send_170 : decode cX5_send 170 = .ok (.aload_n 0, 1) := by decide +kernel
theorem dX5_send_171 : decode cX5_send 171 = .ok (.getfield 36, 3) := by decide +kernel
theorem dX5_send_174 : decode cX5_send 174 = .ok (.iload 8, 2) := by decide +kernel
theorem dX5_send_176 : decode cX5_send 176 = .ok (.aload_n 0, 1) := by decide +kernel
theorem dX5_send_177 : decode cX5_send 177 = .ok (.getfield 109, 3) := by decide +kernel
theorem dX5_send_180 : decode cX5_send 180 = .ok (.iload 8, 2) := by decide +kernel
theorem dX5_send_182 : decode cX5_send 182 = .ok (.isub, 1) := by decide +kernel
theorem dX5_send_183 : decode cX5_send 183 = .ok (.iconst 1, 1) := by decide +kernel
theorem dX5_send_184 : decode cX5_send 184 = .ok (.isub, 1) := by decide +kernel
theorem dX5_send_185 : decode cX5_send 185 = .ok (.iastore, 1) := by decide +kernel
theorem dX5_send_186 : decode cX5_send 186 = .ok (.iconst 0, 1) := by decide +kernel
theorem dX5_send_187 : decode cX5_send 187 = .ok (.istore 9, 2) := by decide +kernel
theorem dX5_send_189 : decode cX5_send 189 = .ok (.iconst 5, 1) := by decide +kernel
theorem dX5_send_190 : decode cX5_send 190 = .ok (.istore 10, 2) := by decide +kernel
theorem dX5_send_192 : decode cX5_send 192 = .ok (.iload 10, 2) := by decide +kernel
theorem dX5_send_194 : decode cX5_send 194 = .ok (.aload_n 0, 1) := by decide +kernel
theorem dX5_send_195 : decode cX5_send 195 = .ok (.getfield 109, 3) := by decide +kernel
theorem dX5_send_198 : decode cX5_send 198 = .ok (.if_icmp .ge 21, 3) := by decide +kernel
theorem dX5_send_201 : decode cX5_send 201 = .ok (.iload 9, 2) := by decide +kernel
theorem dX5_send_203 : decode cX5_send 203 = .ok (.aload_n 0, 1) := by decide +kernel
theorem dX5_send_204 : decode cX5_send 204 = .ok (.getfield 36, 3) := by decide +kernel
theorem dX5_send_207 : decode cX5_send 207 = .ok (.iload 10, 2) := by decide +kernel
theorem dX5_send_209 : decode cX5_send 209 = .ok (.iaload, 1) := by decide +kernel
theorem dX5_send_210 : decode cX5_send 210 = .ok (.ixor, 1) := by decide +kernel
theorem dX5_send_211 : decode cX5_send 211 = .ok (.istore 9, 2) := by decide +kernel
theorem dX5_send_213 : decode cX5_send 213 = .ok (.iinc 10 1, 3) := by decide +kernel
theorem dX5_send_216 : decode cX5_send 216 = .ok (.goto (-24), 3) := by decide +kernel
theorem dX5_send_219 : decode cX5_send 219 = .ok (.aload_n 0, 1) := by decide +kernel
theorem dX5_send_220 : decode cX5_send 220 = .ok (.iload 9, 2) := by decide +kernel
theorem dX5_send_222 : decode cX5_send 222 = .ok (.invokevirtual 112, 3) := by decide +kernel
theorem dX5_send_225 : decode cX5_send 225 = .ok (.return_, 1) := by decide +kernel
theorem dX5_answer_0 : decode cX5_answer 0 = .ok (.aload_n 0, 1) := by decide +kernel
theorem dX5_answer_1 : decode cX5_answer 1 = .ok (.dup, 1) := by decide +kernel
theorem dX5_answer_2 : decode cX5_answer 2 = .ok (.getfield 142, 3) := by decide +kernel
theorem dX5_answer_5 : decode cX5_answer 5 = .ok (.iconst 1, 1) := by decide +kernel
theorem dX5_answer_6 : decode cX5_answer 6 = .ok (.iadd, 1) := by decide +kernel
theorem dX5_answer_7 : decode cX5_answer 7 = .ok (.putfield 142, 3) := by decide +kernel
theorem dX5_answer_10 : decode cX5_answer 10 = .ok (.aload_n 0, 1) := by decide +kernel
theorem dX5_answer_11 : decode cX5_answer 11 = .ok (.invokevirtual 145, 3) := by decide +kernel
theorem dX5_answer_14 : decode cX5_answer 14 = .ok (.istore_n 1, 1) := by decide +kernel
theorem dX5_answer_15 : decode cX5_answer 15 = .ok (.aload_n 0, 1) := by decide +kernel
theorem dX5_answer_16 : decode cX5_answer 16 = .ok (.invokevirtual 83, 3) := by decide +kernel
theorem dX5_answer_19 : decode cX5_answer 19 = .ok (.ifCond .eq 8, 3) := by decide +kernel
theorem dX5_answer_22 : decode cX5_answer 22 = .ok (.iload_n 1, 1) := by decide +kernel
theorem dX5_answer_23 : decode cX5_answer 23 = .ok (.ifCond .eq 4, 3) := by decide +kernel
theorem dX5_answer_26 : decode cX5_answer 26 = .ok (.return_, 1) := by decide +kernel
theorem dX5_answer_27 : decode cX5_answer 27 = .ok (.iload_n 1, 1) := by decide +kernel
theorem dX5_answer_28 : decode cX5_answer 28 = .ok (.ifCond .ne 7, 3) := by decide +kernel
theorem dX5_answer_31 : decode cX5_answer 31 = .ok (.aload_n 0, 1) := by decide +kernel
theorem dX5_answer_32 : decode cX5_answer 32 = .ok (.invokevirtual 148, 3) := by decide +kernel
theorem dX5_answer_35 : decode cX5_answer 35 = .ok (.aload_n 0, 1) := by decide +kernel
theorem dX5_answer_36 : decode cX5_answer 36 = .ok (.dup, 1) := by decide +kernel
theorem dX5_answer_37 : decode cX5_answer 37 = .ok (.getfield 133, 3) := by decide +kernel
theorem dX5_answer_40 : decode cX5_answer 40 = .ok (.iconst 1, 1) := by decide +kernel
theorem dX5_answer_41 : decode cX5_answer 41 = .ok (.iadd, 1) := by decide +kernel
theorem dX5_answer_42 : decode cX5_answer 42 = .ok (.putfield 133, 3) := by decide +kernel
theorem dX5_answer_45 : decode cX5_answer 45 = .ok (.aload_n 0, 1) := by decide +kernel
theorem dX5_answer_46 : decode cX5_answer 46 = .ok (.aload_n 0, 1) := by decide +kernel
theorem dX5_answer_47 : decode cX5_answer 47 = .ok (.invokevirtual 57, 3) := by decide +kernel
theorem dX5_answer_50 : decode cX5_answer 50 = .ok (.iconst 5, 1) := by decide +kernel
theorem dX5_answer_51 : decode cX5_answer 51 = .ok (.if_icmp .ne 9, 3) := by decide +kernel
theorem dX5_answer_54 : decode cX5_answer 54 = .ok (.sipush 134, 3) := by decide +kernel
theorem dX5_answer_57 : decode cX5_answer 57 = .ok (.goto 5, 3) := by decide +kernel
theorem dX5_answer_60 : decode cX5_answer 60 = .ok (.bipush 6, 2) := by decide +kernel
theorem dX5_answer_62 : decode cX5_answer 62 = .ok (.aload_n 0, 1) := by decide +kernel
theorem dX5_answer_63 : decode cX5_answer 63 = .ok (.invokevirtual 96, 3) := by decide +kernel
theorem dX5_answer_66 : decode cX5_answer 66 = .ok (.aload_n 0, 1) := by decide +kernel
theorem dX5_answer_67 : decode cX5_answer 67 = .ok (.invokevirtual 77, 3) := by decide +kernel
theorem dX5_answer_70 : decode cX5_answer 70 = .ok (.iload_n 1, 1) := by decide +kernel
theorem dX5_answer_71 : decode cX5_answer 71 = .ok (.aload_n 0, 1) := by decide +kernel
theorem dX5_answer_72 : decode cX5_answer 72 = .ok (.getfield 151, 3) := by decide +kernel
theorem dX5_answer_75 : decode cX5_answer 75 = .ok (.i2l, 1) := by decide +kernel
theorem dX5_answer_76 : decode cX5_answer 76 = .ok (.ldc2_w 154, 3) := by decide +kernel
theorem dX5_answer_79 : decode cX5_answer 79 = .ok (.ladd, 1) := by decide +kernel
theorem dX5_answer_80 : decode cX5_answer 80 = .ok (.invokevirtual 156, 3) := by decide +kernel
theorem dX5_answer_83 : decode cX5_answer 83 = .ok (.aload_n 0, 1) := by decide +kernel
theorem dX5_answer_84 : decode cX5_answer 84 = .ok (.getfield 27, 3) := by decide +kernel
theorem dX5_answer_87 : decode cX5_answer 87 = .ok (.aload_n 0, 1) := by decide +kernel
theorem dX5_answer_88 : decode cX5_answer 88 = .ok (.invokevirtual 96, 3) := by decide +kernel
theorem dX5_answer_91 : decode cX5_answer 91 = .ok (.iconst 0, 1) := by decide +kernel
theorem dX5_answer_92 : decode cX5_answer 92 = .ok (.bastore, 1) := by decide +kernel
theorem dX5_answer_93 : decode cX5_answer 93 = .ok (.return_, 1) := by decide +kernel
theorem dX5_isBusy_0 : decode cX5_isBusy 0 = .ok (.aload_n 0, 1) := by decide +kernel
theorem dX5_isBusy_1 : decode cX5_isBusy 1 = .ok (.getfield 41, 3) := by decide +kernel
theorem dX5_isBusy_4 : decode cX5_isBusy 4 = .ok (.ldc2_w 39, 3) := by decide +kernel
theorem dX5_isBusy_7 : decode cX5_isBusy 7 = .ok (.lcmp, 1) := by decide +kernel
theorem dX5_isBusy_8 : decode cX5_isBusy 8 = .ok (.ifCond .eq 7, 3) := by decide +kernel
theorem dX5_isBusy_11 : decode cX5_isBusy 11 = .ok (.iconst 1, 1) := by decide +kernel
theorem dX5_isBusy_12 : decode cX5_isBusy 12 = .ok (.goto 4, 3) := by decide +kernel
theorem dX5_isBusy_15 : decode cX5_isBusy 15 = .ok (.iconst 0, 1) := by decide +kernel
theorem dX5_isBusy_16 : decode cX5_isBusy 16 = .ok (.ireturn, 1) := by decide +kernel
theorem dX5_pass_0 : decode cX5_pass 0 = .ok (.aload_n 0, 1) := by decide +kernel
theorem dX5_pass_1 : decode cX5_pass 1 = .ok (.invokevirtual 160, 3) := by decide +kernel
theorem dX5_pass_4 : decode cX5_pass 4 = .ok (.istore_n 2, 1) := by decide +kernel
theorem dX5_pass_5 : decode cX5_pass 5 = .ok (.iload_n 2, 1) := by decide +kernel
theorem dX5_pass_6 : decode cX5_pass 6 = .ok (.ifCond .ne 72, 3) := by decide +kernel
theorem dX5_pass_9 : decode cX5_pass 9 = .ok (.aload_n 0, 1) := by decide +kernel
theorem dX5_pass_10 : decode cX5_pass 10 = .ok (.getfield 105, 3) := by decide +kernel
theorem dX5_pass_13 : decode cX5_pass 13 = .ok (.ifCond .eq 65, 3) := by decide +kernel
theorem dX5_pass_16 : decode cX5_pass 16 = .ok (.aload_n 0, 1) := by decide +kernel
theorem dX5_pass_17 : decode cX5_pass 17 = .ok (.getfield 65, 3) := by decide +kernel
theorem dX5_pass_20 : decode cX5_pass 20 = .ok (.ifCond .ne 58, 3) := by decide +kernel
theorem dX5_pass_23 : decode cX5_pass 23 = .ok (.aload_n 0, 1) := by decide +kernel
theorem dX5_pass_24 : decode cX5_pass 24 = .ok (.getfield 68, 3) := by decide +kernel
theorem dX5_pass_27 : decode cX5_pass 27 = .ok (.ifCond .ne 51, 3) := by decide +kernel
theorem dX5_pass_30 : decode cX5_pass 30 = .ok (.aload_n 0, 1) := by decide +kernel
theorem dX5_pass_31 : decode cX5_pass 31 = .ok (.invokevirtual 163, 3) := by decide +kernel
theorem dX5_pass_34 : decode cX5_pass 34 = .ok (.ldc2_w 167, 3) := by decide +kernel
theorem dX5_pass_37 : decode cX5_pass 37 = .ok (.lcmp, 1) := by decide +kernel
theorem dX5_pass_38 : decode cX5_pass 38 = .ok (.ifCond .lt 40, 3) := by decide +kernel
theorem dX5_pass_41 : decode cX5_pass 41 = .ok (.aload_n 0, 1) := by decide +kernel
theorem dX5_pass_42 : decode cX5_pass 42 = .ok (.getfield 169, 3) := by decide +kernel
theorem dX5_pass_45 : decode cX5_pass 45 = .ok (.iconst 2, 1) := by decide +kernel
theorem dX5_pass_46 : decode cX5_pass 46 = .ok (.irem, 1) := by decide +kernel
theorem dX5_pass_47 : decode cX5_pass 47 = .ok (.istore_n 3, 1) := by decide +kernel
theorem dX5_pass_48 : decode cX5_pass 48 = .ok (.aload_n 0, 1) := by decide +kernel
theorem dX5_pass_49 : decode cX5_pass 49 = .ok (.dup, 1) := by decide +kernel
theorem dX5_pass_50 : decode cX5_pass 50 = .ok (.getfield 169, 3) := by decide +kernel
theorem dX5_pass_53 : decode cX5_pass 53 = .ok (.iconst 1, 1) := by decide +kernel
theorem dX5_pass_54 : decode cX5_pass 54 = .ok (.iadd, 1) := by decide +kernel
theorem dX5_pass_55 : decode cX5_pass 55 = .ok (.putfield 169, 3) := by decide +kernel
theorem dX5_pass_58 : decode cX5_pass 58 = .ok (.aload_n 0, 1) := by decide +kernel
theorem dX5_pass_59 : decode cX5_pass 59 = .ok (.sipush 129, 3) := by decide +kernel
theorem dX5_pass_62 : decode cX5_pass 62 = .ok (.iload_n 3, 1) := by decide +kernel
theorem dX5_pass_63 : decode cX5_pass 63 = .ok (.aload_n 0, 1) := by decide +kernel
theorem dX5_pass_64 : decode cX5_pass 64 = .ok (.getfield 30, 3) := by decide +kernel
theorem dX5_pass_67 : decode cX5_pass 67 = .ok (.iconst 0, 1) := by decide +kernel
theorem dX5_pass_68 : decode cX5_pass 68 = .ok (.aload_n 0, 1) := by decide +kernel
theorem dX5_pass_69 : decode cX5_pass 69 = .ok (.getfield 151, 3) := by decide +kernel
theorem dX5_pass_72 : decode cX5_pass 72 = .ok (.i2l, 1) := by decide +kernel
theorem dX5_pass_73 : decode cX5_pass 73 = .ok (.invokevirtual 156, 3) := by decide +kernel
theorem dX5_pass_76 : decode cX5_pass 76 = .ok (.iconst 1, 1) := by decide +kernel
theorem dX5_pass_77 : decode cX5_pass 77 = .ok (.istore_n 2, 1) := by decide +kernel
theorem dX5_pass_78 : decode cX5_pass 78 = .ok (.aload_n 0, 1) := by decide +kernel
theorem dX5_pass_79 : decode cX5_pass 79 = .ok (.invokevirtual 160, 3) := by decide +kernel
theorem dX5_pass_82 : decode cX5_pass 82 = .ok (.ifCond .eq 116, 3) := by decide +kernel
theorem dX5_pass_85 : decode cX5_pass 85 = .ok (.aload_n 0, 1) := by decide +kernel
theorem dX5_pass_86 : decode cX5_pass 86 = .ok (.getfield 151, 3) := by decide +kernel
theorem dX5_pass_89 : decode cX5_pass 89 = .ok (.i2l, 1) := by decide +kernel
theorem dX5_pass_90 : decode cX5_pass 90 = .ok (.aload_n 0, 1) := by decide +kernel
theorem dX5_pass_91 : decode cX5_pass 91 = .ok (.getfield 41, 3) := by decide +kernel
theorem dX5_pass_94 : decode cX5_pass 94 = .ok (.lcmp, 1) := by decide +kernel
theorem dX5_pass_95 : decode cX5_pass 95 = .ok (.ifCond .lt 103, 3) := by decide +kernel
theorem dX5_pass_98 : decode cX5_pass 98 = .ok (.aload_n 0, 1) := by decide +kernel
theorem dX5_pass_99 : decode cX5_pass 99 = .ok (.getfield 48, 3) := by decide +kernel
theorem dX5_pass_102 : decode cX5_pass 102 = .ok (.aload_n 0, 1) := by decide +kernel
theorem dX5_pass_103 : decode cX5_pass 103 = .ok (.getfield 172, 3) := by decide +kernel
theorem dX5_pass_106 : decode cX5_pass 106 = .ok (.sipush 2000, 3) := by decide +kernel
theorem dX5_pass_109 : decode cX5_pass 109 = .ok (.irem, 1) := by decide +kernel
theorem dX5_pass_110 : decode cX5_pass 110 = .ok (.aload_n 0, 1) := by decide +kernel
theorem dX5_pass_111 : decode cX5_pass 111 = .ok (.getfield 36, 3) := by decide +kernel
theorem dX5_pass_114 : decode cX5_pass 114 = .ok (.aload_n 0, 1) := by decide +kernel
theorem dX5_pass_115 : decode cX5_pass 115 = .ok (.getfield 151, 3) := by decide +kernel
theorem dX5_pass_118 : decode cX5_pass 118 = .ok (.i2l, 1) := by decide +kernel
theorem dX5_pass_119 : decode cX5_pass 119 = .ok (.aload_n 0, 1) := by decide +kernel
theorem dX5_pass_120 : decode cX5_pass 120 = .ok (.getfield 41, 3) := by decide +kernel
theorem dX5_pass_123 : decode cX5_pass 123 = .ok (.lsub, 1) := by decide +kernel
theorem dX5_pass_124 : decode cX5_pass 124 = .ok (.l2i, 1) := by decide +kernel
theorem dX5_pass_125 : decode cX5_pass 125 = .ok (.iaload, 1) := by decide +kernel
theorem dX5_pass_126 : decode cX5_pass 126 = .ok (.iastore, 1) := by decide +kernel
theorem dX5_pass_127 : decode cX5_pass 127 = .ok (.aload_n 0, 1) := by decide +kernel
theorem dX5_pass_128 : decode cX5_pass 128 = .ok (.getfield 51, 3) := by decide +kernel
theorem dX5_pass_131 : decode cX5_pass 131 = .ok (.aload_n 0, 1) := by decide +kernel
theorem dX5_pass_132 : decode cX5_pass 132 = .ok (.getfield 172, 3) := by decide +kernel
theorem dX5_pass_135 : decode cX5_pass 135 = .ok (.sipush 2000, 3) := by decide +kernel
theorem dX5_pass_138 : decode cX5_pass 138 = .ok (.irem, 1) := by decide +kernel
theorem dX5_pass_139 : decode cX5_pass 139 = .ok (.aload_n 0, 1) := by decide +kernel
theorem dX5_pass_140 : decode cX5_pass 140 = .ok (.getfield 151, 3) := by decide +kernel
theorem dX5_pass_143 : decode cX5_pass 143 = .ok (.iastore, 1) := by decide +kernel
theorem dX5_pass_144 : decode cX5_pass 144 = .ok (.aload_n 0, 1) := by decide +kernel
theorem dX5_pass_145 : decode cX5_pass 145 = .ok (.dup, 1) := by decide +kernel
theorem dX5_pass_146 : decode cX5_pass 146 = .ok (.getfield 172, 3) := by decide +kernel
theorem dX5_pass_149 : decode cX5_pass 149 = .ok (.iconst 1, 1) := by decide +kernel
theorem dX5_pass_150 : decode cX5_pass 150 = .ok (.iadd, 1) := by decide +kernel
theorem dX5_pass_151 : decode cX5_pass 151 = .ok (.putfield 172, 3) := by decide +kernel
theorem dX5_pass_154 : decode cX5_pass 154 = .ok (.aload_n 0, 1) := by decide +kernel
theorem dX5_pass_155 : decode cX5_pass 155 = .ok (.aload_n 0, 1) := by decide +kernel
theorem dX5_pass_156 : decode cX5_pass 156 = .ok (.getfield 151, 3) := by decide +kernel
theorem dX5_pass_159 : decode cX5_pass 159 = .ok (.i2l, 1) := by decide +kernel
theorem dX5_pass_160 : decode cX5_pass 160 = .ok (.putfield 45, 3) := by decide +kernel
theorem dX5_pass_163 : decode cX5_pass 163 = .ok (.aload_n 0, 1) := by decide +kernel
theorem dX5_pass_164 : decode cX5_pass 164 = .ok (.aload_n 0, 1) := by decide +kernel
theorem dX5_pass_165 : decode cX5_pass 165 = .ok (.getfield 151, 3) := by decide +kernel
theorem dX5_pass_168 : decode cX5_pass 168 = .ok (.i2l, 1) := by decide +kernel
theorem dX5_pass_169 : decode cX5_pass 169 = .ok (.aload_n 0, 1) := by decide +kernel
theorem dX5_pass_170 : decode cX5_pass 170 = .ok (.getfield 41, 3) := by decide +kernel
theorem dX5_pass_173 : decode cX5_pass 173 = .ok (.lsub, 1) := by decide +kernel
theorem dX5_pass_174 : decode cX5_pass 174 = .ok (.lconst 1, 1) := by decide +kernel
theorem dX5_pass_175 : decode cX5_pass 175 = .ok (.ladd, 1) := by decide +kernel
theorem dX5_pass_176 : decode cX5_pass 176 = .ok (.aload_n 0, 1) := by decide +kernel
theorem dX5_pass_177 : decode cX5_pass 177 = .ok (.getfield 109, 3) := by decide +kernel
theorem dX5_pass_180 : decode cX5_pass 180 = .ok (.i2l, 1) := by decide +kernel
theorem dX5_pass_181 : decode cX5_pass 181 = .ok (.lcmp, 1) := by decide +kernel
theorem dX5_pass_182 : decode cX5_pass 182 = .ok (.ifCond .ne 9, 3) := by decide +kernel
theorem dX5_pass_185 : decode cX5_pass 185 = .ok (.ldc2_w 39, 3) := by decide +kernel
theorem dX5_pass_188 : decode cX5_pass 188 = .ok (.goto 7, 3) := by decide +kernel
theorem dX5_pass_191 : decode cX5_pass 191 = .ok (.aload_n 0, 1) := by decide +kernel
theorem dX5_pass_192 : decode cX5_pass 192 = .ok (.getfield 41, 3) := by decide +kernel
theorem dX5_pass_195 : decode cX5_pass 195 = .ok (.putfield 41, 3) := by decide +kernel
theorem dX5_pass_198 : decode cX5_pass 198 = .ok (.iload_n 2, 1) := by decide +kernel
theorem dX5_pass_199 : decode cX5_pass 199 = .ok (.ifCond .ne 8, 3) := by decide +kernel
theorem dX5_pass_202 : decode cX5_pass 202 = .ok (.iload_n 1, 1) := by decide +kernel
theorem dX5_pass_203 : decode cX5_pass 203 = .ok (.iconst (-1), 1) := by decide +kernel
theorem dX5_pass_204 : decode cX5_pass 204 = .ok (.if_icmp .ne 10, 3) := by decide +kernel
theorem dX5_pass_207 : decode cX5_pass 207 = .ok (.aload_n 0, 1) := by decide +kernel
theorem dX5_pass_208 : decode cX5_pass 208 = .ok (.invokevirtual 74, 3) := by decide +kernel
theorem dX5_pass_211 : decode cX5_pass 211 = .ok (.goto 46, 3) := by decide +kernel
theorem dX5_pass_214 : decode cX5_pass 214 = .ok (.aload_n 0, 1) := by decide +kernel
theorem dX5_pass_215 : decode cX5_pass 215 = .ok (.iload_n 1, 1) := by decide +kernel
theorem dX5_pass_216 : decode cX5_pass 216 = .ok (.invokevirtual 175, 3) := by decide +kernel
theorem dX5_pass_219 : decode cX5_pass 219 = .ok (.ifCond .eq 38, 3) := by decide +kernel
theorem dX5_pass_222 : decode cX5_pass 222 = .ok (.aload_n 0, 1) := by decide +kernel
theorem dX5_pass_223 : decode cX5_pass 223 = .ok (.invokevirtual 179, 3) := by decide +kernel
theorem dX5_pass_226 : decode cX5_pass 226 = .ok (.ifCond .eq 17, 3) := by decide +kernel
theorem dX5_pass_229 : decode cX5_pass 229 = .ok (.aload_n 0, 1) := by decide +kernel
theorem dX5_pass_230 : decode cX5_pass 230 = .ok (.invokevirtual 182, 3) := by decide +kernel
theorem dX5_pass_233 : decode cX5_pass 233 = .ok (.ifCond .eq 10, 3) := by decide +kernel
theorem dX5_pass_236 : decode cX5_pass 236 = .ok (.aload_n 0, 1) := by decide +kernel
theorem dX5_pass_237 : decode cX5_pass 237 = .ok (.invokevirtual 185, 3) := by decide +kernel
theorem dX5_pass_240 : decode cX5_pass 240 = .ok (.goto 13, 3) := by decide +kernel
theorem dX5_pass_243 : decode cX5_pass 243 = .ok (.aload_n 0, 1) := by decide +kernel
theorem dX5_pass_244 : decode cX5_pass 244 = .ok (.dup, 1) := by decide +kernel
theorem dX5_pass_245 : decode cX5_pass 245 = .ok (.getfield 188, 3) := by decide +kernel
theorem dX5_pass_248 : decode cX5_pass 248 = .ok (.iconst 1, 1) := by decide +kernel
theorem dX5_pass_249 : decode cX5_pass 249 = .ok (.iadd, 1) := by decide +kernel
theorem dX5_pass_250 : decode cX5_pass 250 = .ok (.putfield 188, 3) := by decide +kernel
theorem dX5_pass_253 : decode cX5_pass 253 = .ok (.aload_n 0, 1) := by decide +kernel
theorem dX5_pass_254 : decode cX5_pass 254 = .ok (.invokevirtual 74, 3) := by decide +kernel
theorem dX5_pass_257 : decode cX5_pass 257 = .ok (.aload_n 0, 1) := by decide +kernel
theorem dX5_pass_258 : decode cX5_pass 258 = .ok (.iload_n 1, 1) := by decide +kernel
theorem dX5_pass_259 : decode cX5_pass 259 = .ok (.iconst (-1), 1) := by decide +kernel
theorem dX5_pass_260 : decode cX5_pass 260 = .ok (.if_icmp .ne 10, 3) := by decide +kernel
theorem dX5_pass_263 : decode cX5_pass 263 = .ok (.aload_n 0, 1) := by decide +kernel
theorem dX5_pass_264 : decode cX5_pass 264 = .ok (.getfield 45, 3) := by decide +kernel
theorem dX5_pass_267 : decode cX5_pass 267 = .ok (.goto 8, 3) := by decide +kernel
theorem dX5_pass_270 : decode cX5_pass 270 = .ok (.aload_n 0, 1) := by decide +kernel
theorem dX5_pass_271 : decode cX5_pass 271 = .ok (.getfield 151, 3) := by decide +kernel
theorem dX5_pass_274 : decode cX5_pass 274 = .ok (.i2l, 1) := by decide +kernel
theorem dX5_pass_275 : decode cX5_pass 275 = .ok (.putfield 45, 3) := by decide +kernel
theorem dX5_pass_278 : decode cX5_pass 278 = .ok (.aload_n 0, 1) := by decide +kernel
theorem dX5_pass_279 : decode cX5_pass 279 = .ok (.dup, 1) := by decide +kernel
theorem dX5_pass_280 : decode cX5_pass 280 = .ok (.getfield 151, 3) := by decide +kernel
theorem dX5_pass_283 : decode cX5_pass 283 = .ok (.iconst 1, 1) := by decide +kernel
theorem dX5_pass_284 : decode cX5_pass 284 = .ok (.iadd, 1) := by decide +kernel
theorem dX5_pass_285 : decode cX5_pass 285 = .ok (.putfield 151, 3) := by decide +kernel
theorem dX5_pass_288 : decode cX5_pass 288 = .ok (.return_, 1) := by decide +kernel
theorem dX5_quiet_0 : decode cX5_quiet 0 = .ok (.aload_n 0, 1) := by decide +kernel
theorem dX5_quiet_1 : decode cX5_quiet 1 = .ok (.getfield 151, 3) := by decide +kernel
theorem dX5_quiet_4 : decode cX5_quiet 4 = .ok (.i2l, 1) := by decide +kernel
theorem dX5_quiet_5 : decode cX5_quiet 5 = .ok (.lconst 1, 1) := by decide +kernel
theorem dX5_quiet_6 : decode cX5_quiet 6 = .ok (.lsub, 1) := by decide +kernel
theorem dX5_quiet_7 : decode cX5_quiet 7 = .ok (.aload_n 0, 1) := by decide +kernel
theorem dX5_quiet_8 : decode cX5_quiet 8 = .ok (.getfield 45, 3) := by decide +kernel
theorem dX5_quiet_11 : decode cX5_quiet 11 = .ok (.lsub, 1) := by decide +kernel
theorem dX5_quiet_12 : decode cX5_quiet 12 = .ok (.lreturn, 1) := by decide +kernel
theorem dX5_octet_0 : decode cX5_octet 0 = .ok (.aload_n 0, 1) := by decide +kernel
theorem dX5_octet_1 : decode cX5_octet 1 = .ok (.iconst 0, 1) := by decide +kernel
theorem dX5_octet_2 : decode cX5_octet 2 = .ok (.putfield 54, 3) := by decide +kernel
theorem dX5_octet_5 : decode cX5_octet 5 = .ok (.aload_n 0, 1) := by decide +kernel
theorem dX5_octet_6 : decode cX5_octet 6 = .ok (.iload_n 1, 1) := by decide +kernel
theorem dX5_octet_7 : decode cX5_octet 7 = .ok (.sipush 255, 3) := by decide +kernel
theorem dX5_octet_10 : decode cX5_octet 10 = .ok (.iand, 1) := by decide +kernel
theorem dX5_octet_11 : decode cX5_octet 11 = .ok (.invokevirtual 191, 3) := by decide +kernel
theorem dX5_octet_14 : decode cX5_octet 14 = .ok (.aload_n 0, 1) := by decide +kernel
theorem dX5_octet_15 : decode cX5_octet 15 = .ok (.getfield 172, 3) := by decide +kernel
theorem dX5_octet_18 : decode cX5_octet 18 = .ok (.ireturn, 1) := by decide +kernel
theorem dX5_octets_0 : decode cX5_octets 0 = .ok (.aload_n 0, 1) := by decide +kernel
theorem dX5_octets_1 : decode cX5_octets 1 = .ok (.iconst 0, 1) := by decide +kernel
theorem dX5_octets_2 : decode cX5_octets 2 = .ok (.putfield 54, 3) := by decide +kernel
theorem dX5_octets_5 : decode cX5_octets 5 = .ok (.bipush 24, 2) := by decide +kernel
theorem dX5_octets_7 : decode cX5_octets 7 = .ok (.istore_n 2, 1) := by decide +kernel
theorem dX5_octets_8 : decode cX5_octets 8 = .ok (.iload_n 2, 1) := by decide +kernel
theorem dX5_octets_9 : decode cX5_octets 9 = .ok (.ifCond .lt 20, 3) := by decide +kernel
theorem dX5_octets_12 : decode cX5_octets 12 = .ok (.aload_n 0, 1) := by decide +kernel
theorem dX5_octets_13 : decode cX5_octets 13 = .ok (.iload_n 1, 1) := by decide +kernel
theorem dX5_octets_14 : decode cX5_octets 14 = .ok (.iload_n 2, 1) := by decide +kernel
theorem dX5_octets_15 : decode cX5_octets 15 = .ok (.ishr, 1) := by decide +kernel
theorem dX5_octets_16 : decode cX5_octets 16 = .ok (.sipush 255, 3) := by decide +kernel
theorem dX5_octets_19 : decode cX5_octets 19 = .ok (.iand, 1) := by decide +kernel
theorem dX5_octets_20 : decode cX5_octets 20 = .ok (.invokevirtual 191, 3) := by decide +kernel
theorem dX5_octets_23 : decode cX5_octets 23 = .ok (.iinc 2 (-8), 3) := by decide +kernel
theorem dX5_octets_26 : decode cX5_octets 26 = .ok (.goto (-18), 3) := by decide +kernel
theorem dX5_octets_29 : decode cX5_octets 29 = .ok (.aload_n 0, 1) := by decide +kernel
theorem dX5_octets_30 : decode cX5_octets 30 = .ok (.getfield 172, 3) := by decide +kernel
theorem dX5_octets_33 : decode cX5_octets 33 = .ok (.ireturn, 1) := by decide +kernel
theorem dX5_tick_0 : decode cX5_tick 0 = .ok (.aload_n 0, 1) := by decide +kernel
theorem dX5_tick_1 : decode cX5_tick 1 = .ok (.iconst 0, 1) := by decide +kernel
theorem dX5_tick_2 : decode cX5_tick 2 = .ok (.putfield 54, 3) := by decide +kernel
theorem dX5_tick_5 : decode cX5_tick 5 = .ok (.iload_n 1, 1) := by decide +kernel
theorem dX5_tick_6 : decode cX5_tick 6 = .ok (.iconst 1, 1) := by decide +kernel
theorem dX5_tick_7 : decode cX5_tick 7 = .ok (.if_icmp .lt 10, 3) := by decide +kernel
theorem dX5_tick_10 : decode cX5_tick 10 = .ok (.iload_n 1, 1) := by decide +kernel
theorem dX5_tick_11 : decode cX5_tick 11 = .ok (.sipush 1000, 3) := by decide +kernel
theorem dX5_tick_14 : decode cX5_tick 14 = .ok (.if_icmp .le 5, 3) := by decide +kernel
theorem dX5_tick_17 : decode cX5_tick 17 = .ok (.iconst (-1), 1) := by decide +kernel
theorem dX5_tick_18 : decode cX5_tick 18 = .ok (.ireturn, 1) := by decide +kernel
theorem dX5_tick_19 : decode cX5_tick 19 = .ok (.iconst 0, 1) := by decide +kernel
theorem dX5_tick_20 : decode cX5_tick 20 = .ok (.istore_n 2, 1) := by decide +kernel
theorem dX5_tick_21 : decode cX5_tick 21 = .ok (.iload_n 2, 1) := by decide +kernel
theorem dX5_tick_22 : decode cX5_tick 22 = .ok (.iload_n 1, 1) := by decide +kernel
theorem dX5_tick_23 : decode cX5_tick 23 = .ok (.if_icmp .ge 14, 3) := by decide +kernel
theorem dX5_tick_26 : decode cX5_tick 26 = .ok (.aload_n 0, 1) := by decide +kernel
theorem dX5_tick_27 : decode cX5_tick 27 = .ok (.iconst (-1), 1) := by decide +kernel
theorem dX5_tick_28 : decode cX5_tick 28 = .ok (.invokevirtual 191, 3) := by decide +kernel
theorem dX5_tick_31 : decode cX5_tick 31 = .ok (.iinc 2 1, 3) := by decide +kernel
theorem dX5_tick_34 : decode cX5_tick 34 = .ok (.goto (-13), 3) := by decide +kernel
theorem dX5_tick_37 : decode cX5_tick 37 = .ok (.aload_n 0, 1) := by decide +kernel
theorem dX5_tick_38 : decode cX5_tick 38 = .ok (.getfield 172, 3) := by decide +kernel
theorem dX5_tick_41 : decode cX5_tick 41 = .ok (.ireturn, 1) := by decide +kernel
theorem dX5_isKept_0 : decode cX5_isKept 0 = .ok (.iload_n 1, 1) := by decide +kernel
theorem dX5_isKept_1 : decode cX5_isKept 1 = .ok (.ifCond .lt 27, 3) := by decide +kernel
theorem dX5_isKept_4 : decode cX5_isKept 4 = .ok (.iload_n 1, 1) := by decide +kernel
theorem dX5_isKept_5 : decode cX5_isKept 5 = .ok (.aload_n 0, 1) := by decide +kernel
theorem dX5_isKept_6 : decode cX5_isKept 6 = .ok (.getfield 172, 3) := by decide +kernel
theorem dX5_isKept_9 : decode cX5_isKept 9 = .ok (.if_icmp .ge 19, 3) := by decide +kernel
theorem dX5_isKept_12 : decode cX5_isKept 12 = .ok (.aload_n 0, 1) := by decide +kernel
theorem dX5_isKept_13 : decode cX5_isKept 13 = .ok (.getfield 172, 3) := by decide +kernel
theorem dX5_isKept_16 : decode cX5_isKept 16 = .ok (.iload_n 1, 1) := by decide +kernel
theorem dX5_isKept_17 : decode cX5_isKept 17 = .ok (.isub, 1) := by decide +kernel
theorem dX5_isKept_18 : decode cX5_isKept 18 = .ok (.sipush 2000, 3) := by decide +kernel
theorem dX5_isKept_21 : decode cX5_isKept 21 = .ok (.if_icmp .gt 7, 3) := by decide +kernel
theorem dX5_isKept_24 : decode cX5_isKept 24 = .ok (.iconst 1, 1) := by decide +kernel
theorem dX5_isKept_25 : decode cX5_isKept 25 = .ok (.goto 4, 3) := by decide +kernel
theorem dX5_isKept_28 : decode cX5_isKept 28 = .ok (.iconst 0, 1) := by decide +kernel
theorem dX5_isKept_29 : decode cX5_isKept 29 = .ok (.ireturn, 1) := by decide +kernel
theorem dX5_sent_0 : decode cX5_sent 0 = .ok (.aload_n 0, 1) := by decide +kernel
theorem dX5_sent_1 : decode cX5_sent 1 = .ok (.iconst 0, 1) := by decide +kernel
theorem dX5_sent_2 : decode cX5_sent 2 = .ok (.putfield 54, 3) := by decide +kernel
theorem dX5_sent_5 : decode cX5_sent 5 = .ok (.aload_n 0, 1) := by decide +kernel
theorem dX5_sent_6 : decode cX5_sent 6 = .ok (.iload_n 1, 1) := by decide +kernel
theorem dX5_sent_7 : decode cX5_sent 7 = .ok (.invokevirtual 194, 3) := by decide +kernel
theorem dX5_sent_10 : decode cX5_sent 10 = .ok (.ifCond .eq 16, 3) := by decide +kernel
theorem dX5_sent_13 : decode cX5_sent 13 = .ok (.aload_n 0, 1) := by decide +kernel
theorem dX5_sent_14 : decode cX5_sent 14 = .ok (.getfield 48, 3) := by decide +kernel
theorem dX5_sent_17 : decode cX5_sent 17 = .ok (.iload_n 1, 1) := by decide +kernel
theorem dX5_sent_18 : decode cX5_sent 18 = .ok (.sipush 2000, 3) := by decide +kernel
theorem dX5_sent_21 : decode cX5_sent 21 = .ok (.irem, 1) := by decide +kernel
theorem dX5_sent_22 : decode cX5_sent 22 = .ok (.iaload, 1) := by decide +kernel
theorem dX5_sent_23 : decode cX5_sent 23 = .ok (.goto 4, 3) := by decide +kernel
theorem dX5_sent_26 : decode cX5_sent 26 = .ok (.iconst (-1), 1) := by decide +kernel
theorem dX5_sent_27 : decode cX5_sent 27 = .ok (.ireturn, 1) := by decide +kernel
theorem dX5_when_0 : decode cX5_when 0 = .ok (.aload_n 0, 1) := by decide +kernel
theorem dX5_when_1 : decode cX5_when 1 = .ok (.iconst 0, 1) := by decide +kernel
theorem dX5_when_2 : decode cX5_when 2 = .ok (.putfield 54, 3) := by decide +kernel
theorem dX5_when_5 : decode cX5_when 5 = .ok (.aload_n 0, 1) := by decide +kernel
theorem dX5_when_6 : decode cX5_when 6 = .ok (.iload_n 1, 1) := by decide +kernel
theorem dX5_when_7 : decode cX5_when 7 = .ok (.invokevirtual 194, 3) := by decide +kernel
theorem dX5_when_10 : decode cX5_when 10 = .ok (.ifCond .eq 16, 3) := by decide +kernel
theorem dX5_when_13 : decode cX5_when 13 = .ok (.aload_n 0, 1) := by decide +kernel
theorem dX5_when_14 : decode cX5_when 14 = .ok (.getfield 51, 3) := by decide +kernel
theorem dX5_when_17 : decode cX5_when 17 = .ok (.iload_n 1, 1) := by decide +kernel
theorem dX5_when_18 : decode cX5_when 18 = .ok (.sipush 2000, 3) := by decide +kernel
theorem dX5_when_21 : decode cX5_when 21 = .ok (.irem, 1) := by decide +kernel
theorem dX5_when_22 : decode cX5_when 22 = .ok (.iaload, 1) := by decide +kernel
theorem dX5_when_23 : decode cX5_when 23 = .ok (.goto 4, 3) := by decide +kernel
theorem dX5_when_26 : decode cX5_when 26 = .ok (.iconst (-1), 1) := by decide +kernel
theorem dX5_when_27 : decode cX5_when 27 = .ok (.ireturn, 1) := by decide +kernel
theorem dX5_variable_0 : decode cX5_variable 0 = .ok (.aload_n 0, 1) := by decide +kernel
theorem dX5_variable_1 : decode cX5_variable 1 = .ok (.iconst 0, 1) := by decide +kernel
theorem dX5_variable_2 : decode cX5_variable 2 = .ok (.putfield 54, 3) := by decide +kernel
theorem dX5_variable_5 : decode cX5_variable 5 = .ok (.iload_n 1, 1) := by decide +kernel
theorem dX5_variable_6 : decode cX5_variable 6 = .ok (.ifCond .lt 8, 3) := by decide +kernel
theorem dX5_variable_9 : decode cX5_variable 9 = .ok (.iload_n 1, 1) := by decide +kernel
theorem dX5_variable_10 : decode cX5_variable 10 = .ok (.iconst 3, 1) := by decide +kernel
theorem dX5_variable_11 : decode cX5_variable 11 = .ok (.if_icmp .le 7, 3) := by decide +kernel
theorem dX5_variable_14 : decode cX5_variable 14 = .ok (.ldc2_w 39, 3) := by decide +kernel
theorem dX5_variable_17 : decode cX5_variable 17 = .ok (.lreturn, 1) := by decide +kernel
theorem dX5_variable_18 : decode cX5_variable 18 = .ok (.aload_n 0, 1) := by decide +kernel
theorem dX5_variable_19 : decode cX5_variable 19 = .ok (.getfield 16, 3) := by decide +kernel
theorem dX5_variable_22 : decode cX5_variable 22 = .ok (.iload_n 1, 1) := by decide +kernel
theorem dX5_variable_23 : decode cX5_variable 23 = .ok (.iaload, 1) := by decide +kernel
theorem dX5_variable_24 : decode cX5_variable 24 = .ok (.istore_n 3, 1) := by decide +kernel
theorem dX5_variable_25 : decode cX5_variable 25 = .ok (.aload_n 0, 1) := by decide +kernel
theorem dX5_variable_26 : decode cX5_variable 26 = .ok (.getfield 16, 3) := by decide +kernel
theorem dX5_variable_29 : decode cX5_variable 29 = .ok (.iload_n 1, 1) := by decide +kernel
theorem dX5_variable_30 : decode cX5_variable 30 = .ok (.iload_n 2, 1) := by decide +kernel
theorem dX5_variable_31 : decode cX5_variable 31 = .ok (.iastore, 1) := by decide +kernel
theorem dX5_variable_32 : decode cX5_variable 32 = .ok (.iload_n 3, 1) := by decide +kernel
theorem dX5_variable_33 : decode cX5_variable 33 = .ok (.i2l, 1) := by decide +kernel
theorem dX5_variable_34 : decode cX5_variable 34 = .ok (.lreturn, 1) := by decide +kernel
theorem dX5_failure_0 : decode cX5_failure 0 = .ok (.aload_n 0, 1) := by decide +kernel
theorem dX5_failure_1 : decode cX5_failure 1 = .ok (.iconst 0, 1) := by decide +kernel
theorem dX5_failure_2 : decode cX5_failure 2 = .ok (.putfield 54, 3) := by decide +kernel
theorem dX5_failure_5 : decode cX5_failure 5 = .ok (.aload_n 0, 1) := by decide +kernel
theorem dX5_failure_6 : decode cX5_failure 6 = .ok (.getfield 130, 3) := by decide +kernel
theorem dX5_failure_9 : decode cX5_failure 9 = .ok (.istore_n 2, 1) := by decide +kernel
theorem dX5_failure_10 : decode cX5_failure 10 = .ok (.aload_n 0, 1) := by decide +kernel
theorem dX5_failure_11 : decode cX5_failure 11 = .ok (.iload_n 1, 1) := by decide +kernel
theorem dX5_failure_12 : decode cX5_failure 12 = .ok (.putfield 130, 3) := by decide +kernel
theorem dX5_failure_15 : decode cX5_failure 15 = .ok (.iload_n 2, 1) := by decide +kernel
theorem dX5_failure_16 : decode cX5_failure 16 = .ok (.iload_n 1, 1) := by decide +kernel
theorem dX5_failure_17 : decode cX5_failure 17 = .ok (.if_icmp .ne 7, 3) := by decide +kernel
theorem dX5_failure_20 : decode cX5_failure 20 = .ok (.iconst 0, 1) := by decide +kernel
theorem dX5_failure_21 : decode cX5_failure 21 = .ok (.goto 4, 3) := by decide +kernel
theorem dX5_failure_24 : decode cX5_failure 24 = .ok (.iconst 1, 1) := by decide +kernel
theorem dX5_failure_25 : decode cX5_failure 25 = .ok (.ireturn, 1) := by decide +kernel
theorem dX5_has_0 : decode cX5_has 0 = .ok (.aload_n 0, 1) := by decide +kernel
theorem dX5_has_1 : decode cX5_has 1 = .ok (.iconst 0, 1) := by decide +kernel
theorem dX5_has_2 : decode cX5_has 2 = .ok (.putfield 54, 3) := by decide +kernel
theorem dX5_has_5 : decode cX5_has 5 = .ok (.iload_n 1, 1) := by decide +kernel
theorem dX5_has_6 : decode cX5_has 6 = .ok (.ifCond .lt 9, 3) := by decide +kernel
theorem dX5_has_9 : decode cX5_has 9 = .ok (.iload_n 1, 1) := by decide +kernel
theorem dX5_has_10 : decode cX5_has 10 = .ok (.bipush 9, 2) := by decide +kernel
theorem dX5_has_12 : decode cX5_has 12 = .ok (.if_icmp .le 7, 3) := by decide +kernel
theorem dX5_has_15 : decode cX5_has 15 = .ok (.ldc2_w 39, 3) := by decide +kernel
theorem dX5_has_18 : decode cX5_has 18 = .ok (.lreturn, 1) := by decide +kernel
theorem dX5_has_19 : decode cX5_has 19 = .ok (.iload_n 1, 1) := by decide +kernel
theorem dX5_has_20 : decode cX5_has 20 = .ok (.iconst 4, 1) := by decide +kernel
theorem dX5_has_21 : decode cX5_has 21 = .ok (.if_icmp .ge 47, 3) := by decide +kernel
theorem dX5_has_24 : decode cX5_has 24 = .ok (.iload_n 1, 1) := by decide +kernel
theorem dX5_has_25 : decode cX5_has 25 = .ok (.ifCond .ne 11, 3) := by decide +kernel
theorem dX5_has_28 : decode cX5_has 28 = .ok (.aload_n 0, 1) := by decide +kernel
theorem dX5_has_29 : decode cX5_has 29 = .ok (.getfield 80, 3) := by decide +kernel
theorem dX5_has_32 : decode cX5_has 32 = .ok (.i2l, 1) := by decide +kernel
theorem dX5_has_33 : decode cX5_has 33 = .ok (.goto 34, 3) := by decide +kernel
theorem dX5_has_36 : decode cX5_has 36 = .ok (.iload_n 1, 1) := by decide +kernel
theorem dX5_has_37 : decode cX5_has 37 = .ok (.iconst 1, 1) := by decide +kernel
theorem dX5_has_38 : decode cX5_has 38 = .ok (.if_icmp .ne 11, 3) := by decide +kernel
theorem dX5_has_41 : decode cX5_has 41 = .ok (.aload_n 0, 1) := by decide +kernel
theorem dX5_has_42 : decode cX5_has 42 = .ok (.getfield 99, 3) := by decide +kernel
theorem dX5_has_45 : decode cX5_has 45 = .ok (.i2l, 1) := by decide +kernel
theorem dX5_has_46 : decode cX5_has 46 = .ok (.goto 21, 3) := by decide +kernel
theorem dX5_has_49 : decode cX5_has 49 = .ok (.iload_n 1, 1) := by decide +kernel
theorem dX5_has_50 : decode cX5_has 50 = .ok (.iconst 2, 1) := by decide +kernel
theorem dX5_has_51 : decode cX5_has 51 = .ok (.if_icmp .ne 11, 3) := by decide +kernel
theorem dX5_has_54 : decode cX5_has 54 = .ok (.aload_n 0, 1) := by decide +kernel
theorem dX5_has_55 : decode cX5_has 55 = .ok (.getfield 102, 3) := by decide +kernel
theorem dX5_has_58 : decode cX5_has 58 = .ok (.i2l, 1) := by decide +kernel
theorem dX5_has_59 : decode cX5_has 59 = .ok (.goto 8, 3) := by decide +kernel
theorem dX5_has_62 : decode cX5_has 62 = .ok (.aload_n 0, 1) := by decide +kernel
theorem dX5_has_63 : decode cX5_has 63 = .ok (.getfield 19, 3) := by decide +kernel
theorem dX5_has_66 : decode cX5_has 66 = .ok (.i2l, 1) := by decide +kernel
theorem dX5_has_67 : decode cX5_has 67 = .ok (.lreturn, 1) := by decide +kernel
theorem dX5_has_68 : decode cX5_has 68 = .ok (.iload_n 1, 1) := by decide +kernel
theorem dX5_has_69 : decode cX5_has 69 = .ok (.bipush 6, 2) := by decide +kernel
theorem dX5_has_71 : decode cX5_has 71 = .ok (.if_icmp .ge 29, 3) := by decide +kernel
theorem dX5_has_74 : decode cX5_has 74 = .ok (.iload_n 1, 1) := by decide +kernel
theorem dX5_has_75 : decode cX5_has 75 = .ok (.iconst 5, 1) := by decide +kernel
theorem dX5_has_76 : decode cX5_has 76 = .ok (.if_icmp .ne 11, 3) := by decide +kernel
theorem dX5_has_79 : decode cX5_has 79 = .ok (.aload_n 0, 1) := by decide +kernel
theorem dX5_has_80 : decode cX5_has 80 = .ok (.getfield 30, 3) := by decide +kernel
theorem dX5_has_83 : decode cX5_has 83 = .ok (.i2l, 1) := by decide +kernel
theorem dX5_has_84 : decode cX5_has 84 = .ok (.goto 15, 3) := by decide +kernel
theorem dX5_has_87 : decode cX5_has 87 = .ok (.aload_n 0, 1) := by decide +kernel
theorem dX5_has_88 : decode cX5_has 88 = .ok (.getfield 105, 3) := by decide +kernel
theorem dX5_has_91 : decode cX5_has 91 = .ok (.ifCond .eq 7, 3) := by decide +kernel
theorem dX5_has_94 : decode cX5_has 94 = .ok (.lconst 1, 1) := by decide +kernel
theorem dX5_has_95 : decode cX5_has 95 = .ok (.goto 4, 3) := by decide +kernel
theorem dX5_has_98 : decode cX5_has 98 = .ok (.lconst 0, 1) := by decide +kernel
theorem dX5_has_99 : decode cX5_has 99 = .ok (.lreturn, 1) := by decide +kernel
theorem dX5_has_100 : decode cX5_has 100 = .ok (.iload_n 1, 1) := by decide +kernel
theorem dX5_has_101 : decode cX5_has 101 = .ok (.bipush 6, 2) := by decide +kernel
theorem dX5_has_103 : decode cX5_has 103 = .ok (.if_icmp .ne 11, 3) := by decide +kernel
theorem dX5_has_106 : decode cX5_has 106 = .ok (.aload_n 0, 1) := by decide +kernel
theorem dX5_has_107 : decode cX5_has 107 = .ok (.getfield 133, 3) := by decide +kernel
theorem dX5_has_110 : decode cX5_has 110 = .ok (.i2l, 1) := by decide +kernel
theorem dX5_has_111 : decode cX5_has 111 = .ok (.goto 36, 3) := by decide +kernel
theorem dX5_has_114 : decode cX5_has 114 = .ok (.iload_n 1, 1) := by decide +kernel
theorem dX5_has_115 : decode cX5_has 115 = .ok (.bipush 7, 2) := by decide +kernel
theorem dX5_has_117 : decode cX5_has 117 = .ok (.if_icmp .ne 11, 3) := by decide +kernel
theorem dX5_has_120 : decode cX5_has 120 = .ok (.aload_n 0, 1) := by decide +kernel
theorem dX5_has_121 : decode cX5_has 121 = .ok (.getfield 169, 3) := by decide +kernel
theorem dX5_has_124 : decode cX5_has 124 = .ok (.i2l, 1) := by decide +kernel
theorem dX5_has_125 : decode cX5_has 125 = .ok (.goto 22, 3) := by decide +kernel
theorem dX5_has_128 : decode cX5_has 128 = .ok (.iload_n 1, 1) := by decide +kernel
theorem dX5_has_129 : decode cX5_has 129 = .ok (.bipush 8, 2) := by decide +kernel
theorem dX5_has_131 : decode cX5_has 131 = .ok (.if_icmp .ne 11, 3) := by decide +kernel
theorem dX5_has_134 : decode cX5_has 134 = .ok (.aload_n 0, 1) := by decide +kernel
theorem dX5_has_135 : decode cX5_has 135 = .ok (.getfield 142, 3) := by decide +kernel
theorem dX5_has_138 : decode cX5_has 138 = .ok (.i2l, 1) := by decide +kernel
theorem dX5_has_139 : decode cX5_has 139 = .ok (.goto 8, 3) := by decide +kernel
theorem dX5_has_142 : decode cX5_has 142 = .ok (.aload_n 0, 1) := by decide +kernel
theorem dX5_has_143 : decode cX5_has 143 = .ok (.getfield 188, 3) := by decide +kernel
theorem dX5_has_146 : decode cX5_has 146 = .ok (.i2l, 1) := by decide +kernel
theorem dX5_has_147 : decode cX5_has 147 = .ok (.lreturn, 1) := by decide +kernel
theorem dX5_tag_0 : decode cX5_tag 0 = .ok (.aload_n 0, 1) := by decide +kernel
theorem dX5_tag_1 : decode cX5_tag 1 = .ok (.iconst 0, 1) := by decide +kernel
theorem dX5_tag_2 : decode cX5_tag 2 = .ok (.putfield 54, 3) := by decide +kernel
theorem dX5_tag_5 : decode cX5_tag 5 = .ok (.iload_n 1, 1) := by decide +kernel
theorem dX5_tag_6 : decode cX5_tag 6 = .ok (.ifCond .lt 18, 3) := by decide +kernel
theorem dX5_tag_9 : decode cX5_tag 9 = .ok (.iload_n 1, 1) := by decide +kernel
theorem dX5_tag_10 : decode cX5_tag 10 = .ok (.bipush 6, 2) := by decide +kernel
theorem dX5_tag_12 : decode cX5_tag 12 = .ok (.if_icmp .ge 12, 3) := by decide +kernel
theorem dX5_tag_15 : decode cX5_tag 15 = .ok (.aload_n 0, 1) := by decide +kernel
theorem dX5_tag_16 : decode cX5_tag 16 = .ok (.getfield 13, 3) := by decide +kernel
theorem dX5_tag_19 : decode cX5_tag 19 = .ok (.iload_n 1, 1) := by decide +kernel
theorem dX5_tag_20 : decode cX5_tag 20 = .ok (.iaload, 1) := by decide +kernel
theorem dX5_tag_21 : decode cX5_tag 21 = .ok (.goto 4, 3) := by decide +kernel
theorem dX5_tag_24 : decode cX5_tag 24 = .ok (.iconst (-1), 1) := by decide +kernel
theorem dX5_tag_25 : decode cX5_tag 25 = .ok (.ireturn, 1) := by decide +kernel
theorem dX5_now_0 : decode cX5_now 0 = .ok (.aload_n 0, 1) := by decide +kernel
theorem dX5_now_1 : decode cX5_now 1 = .ok (.iconst 0, 1) := by decide +kernel
theorem dX5_now_2 : decode cX5_now 2 = .ok (.putfield 54, 3) := by decide +kernel
theorem dX5_now_5 : decode cX5_now 5 = .ok (.aload_n 0, 1) := by decide +kernel
theorem dX5_now_6 : decode cX5_now 6 = .ok (.getfield 151, 3) := by decide +kernel
theorem dX5_now_9 : decode cX5_now 9 = .ok (.ireturn, 1) := by decide +kernel
