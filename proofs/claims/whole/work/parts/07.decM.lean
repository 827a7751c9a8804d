theorem dM_init_0 : decode cM_init 0 = .ok (.aload_n 0, 1) := by decide +kernel
theorem dM_init_1 : decode cM_init 1 = .ok (.invokespecial 1, 3) := by decide +kernel
theorem dM_init_4 : decode cM_init 4 = .ok (.aload_n 0, 1) := by decide +kernel
theorem dM_init_5 : decode cM_init 5 = .ok (.bipush 32, 2) := by decide +kernel
theorem dM_init_7 : decode cM_init 7 = .ok (.newarray .boolean, 2) := by decide +kernel
theorem dM_init_9 : decode cM_init 9 = .ok (.putfield 7, 3) := by decide +kernel
theorem dM_init_12 : decode cM_init 12 = .ok (.aload_n 0, 1) := by decide +kernel
theorem dM_init_13 : decode cM_init 13 = .ok (.bipush 32, 2) := by decide +kernel
theorem dM_init_15 : decode cM_init 15 = .ok (.newarray .int, 2) := by decide +kernel
theorem dM_init_17 : decode cM_init 17 = .ok (.putfield 13, 3) := by decide +kernel
theorem dM_init_20 : decode cM_init 20 = .ok (.aload_n 0, 1) := by decide +kernel
theorem dM_init_21 : decode cM_init 21 = .ok (.bipush 32, 2) := by decide +kernel
theorem dM_init_23 : decode cM_init 23 = .ok (.newarray .int, 2) := by decide +kernel
theorem dM_init_25 : decode cM_init 25 = .ok (.putfield 17, 3) := by decide +kernel
theorem dM_init_28 : decode cM_init 28 = .ok (.aload_n 0, 1) := by decide +kernel
theorem dM_init_29 : decode cM_init 29 = .ok (.bipush 8, 2) := by decide +kernel
theorem dM_init_31 : decode cM_init 31 = .ok (.newarray .long, 2) := by decide +kernel
theorem dM_init_33 : decode cM_init 33 = .ok (.putfield 20, 3) := by decide +kernel
theorem dM_init_36 : decode cM_init 36 = .ok (.aload_n 0, 1) := by decide +kernel
theorem dM_init_37 : decode cM_init 37 = .ok (.bipush 8, 2) := by decide +kernel
theorem dM_init_39 : decode cM_init 39 = .ok (.newarray .long, 2) := by decide +kernel
theorem dM_init_41 : decode cM_init 41 = .ok (.putfield 24, 3) := by decide +kernel
theorem dM_init_44 : decode cM_init 44 = .ok (.aload_n 0, 1) := by decide +kernel
theorem dM_init_45 : decode cM_init 45 = .ok (.bipush 8, 2) := by decide +kernel
theorem dM_init_47 : decode cM_init 47 = .ok (.newarray .int, 2) := by decide +kernel
theorem dM_init_49 : decode cM_init 49 = .ok (.putfield 27, 3) := by decide +kernel
theorem dM_init_52 : decode cM_init 52 = .ok (.iconst 0, 1) := by decide +kernel
theorem dM_init_53 : decode cM_init 53 = .ok (.istore_n 1, 1) := by decide +kernel
theorem dM_init_54 : decode cM_init 54 = .ok (.iload_n 1, 1) := by decide +kernel
theorem dM_init_55 : decode cM_init 55 = .ok (.bipush 32, 2) := by decide +kernel
theorem dM_init_57 : decode cM_init 57 = .ok (.if_icmp .ge 17, 3) := by decide +kernel
theorem dM_init_60 : decode cM_init 60 = .ok (.aload_n 0, 1) := by decide +kernel
theorem dM_init_61 : decode cM_init 61 = .ok (.getfield 17, 3) := by decide +kernel
theorem dM_init_64 : decode cM_init 64 = .ok (.iload_n 1, 1) := by decide +kernel
theorem dM_init_65 : decode cM_init 65 = .ok (.ldc 30, 2) := by decide +kernel
theorem dM_init_67 : decode cM_init 67 = .ok (.iastore, 1) := by decide +kernel
theorem dM_init_68 : decode cM_init 68 = .ok (.iinc 1 1, 3) := by decide +kernel
theorem dM_init_71 : decode cM_init 71 = .ok (.goto (-17), 3) := by decide +kernel
theorem dM_init_74 : decode cM_init 74 = .ok (.return_, 1) := by decide +kernel
theorem dM_thrown_0 : decode cM_thrown 0 = .ok (.aload_n 0, 1) := by decide +kernel
theorem dM_thrown_1 : decode cM_thrown 1 = .ok (.getfield 31, 3) := by decide +kernel
theorem dM_thrown_4 : decode cM_thrown 4 = .ok (.ireturn, 1) := by decide +kernel
theorem dM_root_0 : decode cM_root 0 = .ok (.iload_n 1, 1) := by decide +kernel
theorem dM_root_1 : decode cM_root 1 = .ok (.iconst 1, 1) := by decide +kernel
theorem dM_root_2 : decode cM_root 2 = .ok (.if_icmp .lt 9, 3) := by decide +kernel
theorem dM_root_5 : decode cM_root 5 = .ok (.iload_n 1, 1) := by decide +kernel
theorem dM_root_6 : decode cM_root 6 = .ok (.bipush 31, 2) := by decide +kernel
theorem dM_root_8 : decode cM_root 8 = .ok (.if_icmp .le 9, 3) := by decide +kernel
theorem dM_root_11 : decode cM_root 11 = .ok (.aload_n 0, 1) := by decide +kernel
theorem dM_root_12 : decode cM_root 12 = .ok (.iconst 1, 1) := by decide +kernel
theorem dM_root_13 : decode cM_root 13 = .ok (.invokevirtual 100, 3) := by decide +kernel
theorem dM_root_16 : decode cM_root 16 = .ok (.ireturn, 1) := by decide +kernel
theorem dM_root_17 : decode cM_root 17 = .ok (.lload_n 3, 1) := by decide +kernel
theorem dM_root_18 : decode cM_root 18 = .ok (.lconst 0, 1) := by decide +kernel
theorem dM_root_19 : decode cM_root 19 = .ok (.lcmp, 1) := by decide +kernel
theorem dM_root_20 : decode cM_root 20 = .ok (.ifCond .lt 37, 3) := by decide +kernel
theorem dM_root_23 : decode cM_root 23 = .ok (.lload_n 3, 1) := by decide +kernel
theorem dM_root_24 : decode cM_root 24 = .ok (.ldc2_w 72, 3) := by decide +kernel
theorem dM_root_27 : decode cM_root 27 = .ok (.lcmp, 1) := by decide +kernel
theorem dM_root_28 : decode cM_root 28 = .ok (.ifCond .gt 29, 3) := by decide +kernel
theorem dM_root_31 : decode cM_root 31 = .ok (.iload_n 2, 1) := by decide +kernel
theorem dM_root_32 : decode cM_root 32 = .ok (.invokestatic 52, 3) := by decide +kernel
theorem dM_root_35 : decode cM_root 35 = .ok (.lload_n 3, 1) := by decide +kernel
theorem dM_root_36 : decode cM_root 36 = .ok (.ladd, 1) := by decide +kernel
theorem dM_root_37 : decode cM_root 37 = .ok (.ldc2_w 72, 3) := by decide +kernel
theorem dM_root_40 : decode cM_root 40 = .ok (.lcmp, 1) := by decide +kernel
theorem dM_root_41 : decode cM_root 41 = .ok (.ifCond .gt 16, 3) := by decide +kernel
theorem dM_root_44 : decode cM_root 44 = .ok (.iload 5, 2) := by decide +kernel
theorem dM_root_46 : decode cM_root 46 = .ok (.ifCond .lt 11, 3) := by decide +kernel
theorem dM_root_49 : decode cM_root 49 = .ok (.iload 5, 2) := by decide +kernel
theorem dM_root_51 : decode cM_root 51 = .ok (.sipush 4095, 3) := by decide +kernel
theorem dM_root_54 : decode cM_root 54 = .ok (.if_icmp .le 9, 3) := by decide +kernel
theorem dM_root_57 : decode cM_root 57 = .ok (.aload_n 0, 1) := by decide +kernel
theorem dM_root_58 : decode cM_root 58 = .ok (.iconst 2, 1) := by decide +kernel
theorem dM_root_59 : decode cM_root 59 = .ok (.invokevirtual 100, 3) := by decide +kernel
theorem dM_root_62 : decode cM_root 62 = .ok (.ireturn, 1) := by decide +kernel
theorem dM_root_63 : decode cM_root 63 = .ok (.aload_n 0, 1) := by decide +kernel
theorem dM_root_64 : decode cM_root 64 = .ok (.getfield 103, 3) := by decide +kernel
theorem dM_root_67 : decode cM_root 67 = .ok (.bipush 8, 2) := by decide +kernel
theorem dM_root_69 : decode cM_root 69 = .ok (.if_icmp .ne 9, 3) := by decide +kernel
theorem dM_root_72 : decode cM_root 72 = .ok (.aload_n 0, 1) := by decide +kernel
theorem dM_root_73 : decode cM_root 73 = .ok (.iconst 3, 1) := by decide +kernel
theorem dM_root_74 : decode cM_root 74 = .ok (.invokevirtual 100, 3) := by decide +kernel
theorem dM_root_77 : decode cM_root 77 = .ok (.ireturn, 1) := by decide +kernel
theorem dM_root_78 : decode cM_root 78 = .ok (.aload_n 0, 1) := by decide +kernel
theorem dM_root_79 : decode cM_root 79 = .ok (.iconst 0, 1) := by decide +kernel
theorem dM_root_80 : decode cM_root 80 = .ok (.putfield 31, 3) := by decide +kernel
theorem dM_root_83 : decode cM_root 83 = .ok (.aload_n 0, 1) := by decide +kernel
theorem dM_root_84 : decode cM_root 84 = .ok (.iload_n 2, 1) := by decide +kernel
theorem dM_root_85 : decode cM_root 85 = .ok (.invokestatic 52, 3) := by decide +kernel
theorem dM_root_88 : decode cM_root 88 = .ok (.iload_n 2, 1) := by decide +kernel
theorem dM_root_89 : decode cM_root 89 = .ok (.invokestatic 52, 3) := by decide +kernel
theorem dM_root_92 : decode cM_root 92 = .ok (.lload_n 3, 1) := by decide +kernel
theorem dM_root_93 : decode cM_root 93 = .ok (.ladd, 1) := by decide +kernel
theorem dM_root_94 : decode cM_root 94 = .ok (.invokevirtual 106, 3) := by decide +kernel
theorem dM_root_97 : decode cM_root 97 = .ok (.aload_n 0, 1) := by decide +kernel
theorem dM_root_98 : decode cM_root 98 = .ok (.iload_n 1, 1) := by decide +kernel
theorem dM_root_99 : decode cM_root 99 = .ok (.iconst 1, 1) := by decide +kernel
theorem dM_root_100 : decode cM_root 100 = .ok (.iload_n 2, 1) := by decide +kernel
theorem dM_root_101 : decode cM_root 101 = .ok (.iload 5, 2) := by decide +kernel
theorem dM_root_103 : decode cM_root 103 = .ok (.bipush 20, 2) := by decide +kernel
theorem dM_root_105 : decode cM_root 105 = .ok (.ishl, 1) := by decide +kernel
theorem dM_root_106 : decode cM_root 106 = .ok (.ldc 110, 2) := by decide +kernel
theorem dM_root_108 : decode cM_root 108 = .ok (.ior, 1) := by decide +kernel
theorem dM_root_109 : decode cM_root 109 = .ok (.aload_n 0, 1) := by decide +kernel
theorem dM_root_110 : decode cM_root 110 = .ok (.getfield 81, 3) := by decide +kernel
theorem dM_root_113 : decode cM_root 113 = .ok (.ior, 1) := by decide +kernel
theorem dM_root_114 : decode cM_root 114 = .ok (.invokevirtual 111, 3) := by decide +kernel
theorem dM_root_117 : decode cM_root 117 = .ok (.pop, 1) := by decide +kernel
theorem dM_root_118 : decode cM_root 118 = .ok (.aload_n 0, 1) := by decide +kernel
theorem dM_root_119 : decode cM_root 119 = .ok (.getfield 20, 3) := by decide +kernel
theorem dM_root_122 : decode cM_root 122 = .ok (.aload_n 0, 1) := by decide +kernel
theorem dM_root_123 : decode cM_root 123 = .ok (.getfield 103, 3) := by decide +kernel
theorem dM_root_126 : decode cM_root 126 = .ok (.aload_n 0, 1) := by decide +kernel
theorem dM_root_127 : decode cM_root 127 = .ok (.getfield 17, 3) := by decide +kernel
theorem dM_root_130 : decode cM_root 130 = .ok (.iload_n 1, 1) := by decide +kernel
theorem dM_root_131 : decode cM_root 131 = .ok (.iaload, 1) := by decide +kernel
theorem dM_root_132 : decode cM_root 132 = .ok (.iload_n 2, 1) := by decide +kernel
theorem dM_root_133 : decode cM_root 133 = .ok (.invokestatic 69, 3) := by decide +kernel
theorem dM_root_136 : decode cM_root 136 = .ok (.lastore, 1) := by decide +kernel
theorem dM_root_137 : decode cM_root 137 = .ok (.aload_n 0, 1) := by decide +kernel
theorem dM_root_138 : decode cM_root 138 = .ok (.getfield 24, 3) := by decide +kernel
theorem dM_root_141 : decode cM_root 141 = .ok (.aload_n 0, 1) := by decide +kernel
theorem dM_root_142 : decode cM_root 142 = .ok (.getfield 103, 3) := by decide +kernel
theorem dM_root_145 : decode cM_root 145 = .ok (.aload_n 0, 1) := by decide +kernel
theorem dM_root_146 : decode cM_root 146 = .ok (.getfield 17, 3) := by decide +kernel
theorem dM_root_149 : decode cM_root 149 = .ok (.iload_n 1, 1) := by decide +kernel
theorem dM_root_150 : decode cM_root 150 = .ok (.iaload, 1) := by decide +kernel
theorem dM_root_151 : decode cM_root 151 = .ok (.iload_n 2, 1) := by decide +kernel
theorem dM_root_152 : decode cM_root 152 = .ok (.invokestatic 74, 3) := by decide +kernel
theorem dM_root_155 : decode cM_root 155 = .ok (.lastore, 1) := by decide +kernel
theorem dM_root_156 : decode cM_root 156 = .ok (.aload_n 0, 1) := by decide +kernel
theorem dM_root_157 : decode cM_root 157 = .ok (.getfield 27, 3) := by decide +kernel
theorem dM_root_160 : decode cM_root 160 = .ok (.aload_n 0, 1) := by decide +kernel
theorem dM_root_161 : decode cM_root 161 = .ok (.getfield 103, 3) := by decide +kernel
theorem dM_root_164 : decode cM_root 164 = .ok (.iload 5, 2) := by decide +kernel
theorem dM_root_166 : decode cM_root 166 = .ok (.iastore, 1) := by decide +kernel
theorem dM_root_167 : decode cM_root 167 = .ok (.aload_n 0, 1) := by decide +kernel
theorem dM_root_168 : decode cM_root 168 = .ok (.dup, 1) := by decide +kernel
theorem dM_root_169 : decode cM_root 169 = .ok (.getfield 103, 3) := by decide +kernel
theorem dM_root_172 : decode cM_root 172 = .ok (.iconst 1, 1) := by decide +kernel
theorem dM_root_173 : decode cM_root 173 = .ok (.iadd, 1) := by decide +kernel
theorem dM_root_174 : decode cM_root 174 = .ok (.putfield 103, 3) := by decide +kernel
theorem dM_root_177 : decode cM_root 177 = .ok (.aload_n 0, 1) := by decide +kernel
theorem dM_root_178 : decode cM_root 178 = .ok (.getfield 17, 3) := by decide +kernel
theorem dM_root_181 : decode cM_root 181 = .ok (.iload_n 1, 1) := by decide +kernel
theorem dM_root_182 : decode cM_root 182 = .ok (.iaload, 1) := by decide +kernel
theorem dM_root_183 : decode cM_root 183 = .ok (.iload_n 2, 1) := by decide +kernel
theorem dM_root_184 : decode cM_root 184 = .ok (.invokestatic 69, 3) := by decide +kernel
theorem dM_root_187 : decode cM_root 187 = .ok (.l2i, 1) := by decide +kernel
theorem dM_root_188 : decode cM_root 188 = .ok (.ireturn, 1) := by decide +kernel
theorem dM_fail_0 : decode cM_fail 0 = .ok (.aload_n 0, 1) := by decide +kernel
theorem dM_fail_1 : decode cM_fail 1 = .ok (.iload_n 1, 1) := by decide +kernel
theorem dM_fail_2 : decode cM_fail 2 = .ok (.putfield 31, 3) := by decide +kernel
theorem dM_fail_5 : decode cM_fail 5 = .ok (.iconst 0, 1) := by decide +kernel
theorem dM_fail_6 : decode cM_fail 6 = .ok (.ireturn, 1) := by decide +kernel
theorem dM_low_0 : decode cM_low 0 = .ok (.iload_n 0, 1) := by decide +kernel
theorem dM_low_1 : decode cM_low 1 = .ok (.i2l, 1) := by decide +kernel
theorem dM_low_2 : decode cM_low 2 = .ok (.ldc2_w 35, 3) := by decide +kernel
theorem dM_low_5 : decode cM_low 5 = .ok (.land, 1) := by decide +kernel
theorem dM_low_6 : decode cM_low 6 = .ok (.lreturn, 1) := by decide +kernel
theorem dM_packJ_0 : decode cM_packJ 0 = .ok (.lload_n 3, 1) := by decide +kernel
theorem dM_packJ_1 : decode cM_packJ 1 = .ok (.lload_n 1, 1) := by decide +kernel
theorem dM_packJ_2 : decode cM_packJ 2 = .ok (.lsub, 1) := by decide +kernel
theorem dM_packJ_3 : decode cM_packJ 3 = .ok (.lstore 5, 2) := by decide +kernel
theorem dM_packJ_5 : decode cM_packJ 5 = .ok (.iconst 0, 1) := by decide +kernel
theorem dM_packJ_6 : decode cM_packJ 6 = .ok (.istore 7, 2) := by decide +kernel
theorem dM_packJ_8 : decode cM_packJ 8 = .ok (.lload 5, 2) := by decide +kernel
theorem dM_packJ_10 : decode cM_packJ 10 = .ok (.ldc2_w 77, 3) := by decide +kernel
theorem dM_packJ_13 : decode cM_packJ 13 = .ok (.ldiv, 1) := by decide +kernel
theorem dM_packJ_14 : decode cM_packJ 14 = .ok (.iload 7, 2) := by decide +kernel
theorem dM_packJ_16 : decode cM_packJ 16 = .ok (.lshr, 1) := by decide +kernel
theorem dM_packJ_17 : decode cM_packJ 17 = .ok (.lconst 0, 1) := by decide +kernel
theorem dM_packJ_18 : decode cM_packJ 18 = .ok (.lcmp, 1) := by decide +kernel
theorem dM_packJ_19 : decode cM_packJ 19 = .ok (.ifCond .le 9, 3) := by decide +kernel
theorem dM_packJ_22 : decode cM_packJ 22 = .ok (.iinc 7 1, 3) := by decide +kernel
theorem dM_packJ_25 : decode cM_packJ 25 = .ok (.goto (-17), 3) := by decide +kernel
theorem dM_packJ_28 : decode cM_packJ 28 = .ok (.iload 7, 2) := by decide +kernel
theorem dM_packJ_30 : decode cM_packJ 30 = .ok (.ifCond .ne 44, 3) := by decide +kernel
theorem dM_packJ_33 : decode cM_packJ 33 = .ok (.lload 5, 2) := by decide +kernel
theorem dM_packJ_35 : decode cM_packJ 35 = .ok (.ldc2_w 79, 3) := by decide +kernel
theorem dM_packJ_38 : decode cM_packJ 38 = .ok (.lcmp, 1) := by decide +kernel
theorem dM_packJ_39 : decode cM_packJ 39 = .ok (.ifCond .gt 35, 3) := by decide +kernel
theorem dM_packJ_42 : decode cM_packJ 42 = .ok (.aload_n 0, 1) := by decide +kernel
theorem dM_packJ_43 : decode cM_packJ 43 = .ok (.lload_n 3, 1) := by decide +kernel
theorem dM_packJ_44 : decode cM_packJ 44 = .ok (.ldc2_w 79, 3) := by decide +kernel
theorem dM_packJ_47 : decode cM_packJ 47 = .ok (.land, 1) := by decide +kernel
theorem dM_packJ_48 : decode cM_packJ 48 = .ok (.l2i, 1) := by decide +kernel
theorem dM_packJ_49 : decode cM_packJ 49 = .ok (.bipush 8, 2) := by decide +kernel
theorem dM_packJ_51 : decode cM_packJ 51 = .ok (.ishl, 1) := by decide +kernel
theorem dM_packJ_52 : decode cM_packJ 52 = .ok (.lload_n 1, 1) := by decide +kernel
theorem dM_packJ_53 : decode cM_packJ 53 = .ok (.l2i, 1) := by decide +kernel
theorem dM_packJ_54 : decode cM_packJ 54 = .ok (.sipush 255, 3) := by decide +kernel
theorem dM_packJ_57 : decode cM_packJ 57 = .ok (.iand, 1) := by decide +kernel
theorem dM_packJ_58 : decode cM_packJ 58 = .ok (.ior, 1) := by decide +kernel
theorem dM_packJ_59 : decode cM_packJ 59 = .ok (.putfield 81, 3) := by decide +kernel
theorem dM_packJ_62 : decode cM_packJ 62 = .ok (.aload_n 0, 1) := by decide +kernel
theorem dM_packJ_63 : decode cM_packJ 63 = .ok (.iconst 1, 1) := by decide +kernel
theorem dM_packJ_64 : decode cM_packJ 64 = .ok (.putfield 84, 3) := by decide +kernel
theorem dM_packJ_67 : decode cM_packJ 67 = .ok (.aload_n 0, 1) := by decide +kernel
theorem dM_packJ_68 : decode cM_packJ 68 = .ok (.lload 5, 2) := by decide +kernel
theorem dM_packJ_70 : decode cM_packJ 70 = .ok (.putfield 88, 3) := by decide +kernel
theorem dM_packJ_73 : decode cM_packJ 73 = .ok (.return_, 1) := by decide +kernel
theorem dM_packJ_74 : decode cM_packJ 74 = .ok (.lconst 1, 1) := by decide +kernel
theorem dM_packJ_75 : decode cM_packJ 75 = .ok (.iload 7, 2) := by decide +kernel
theorem dM_packJ_77 : decode cM_packJ 77 = .ok (.iconst 3, 1) := by decide +kernel
theorem dM_packJ_78 : decode cM_packJ 78 = .ok (.iadd, 1) := by decide +kernel
theorem dM_packJ_79 : decode cM_packJ 79 = .ok (.lshl, 1) := by decide +kernel
theorem dM_packJ_80 : decode cM_packJ 80 = .ok (.lstore 8, 2) := by decide +kernel
theorem dM_packJ_82 : decode cM_packJ 82 = .ok (.lload_n 1, 1) := by decide +kernel
theorem dM_packJ_83 : decode cM_packJ 83 = .ok (.lload 8, 2) := by decide +kernel
theorem dM_packJ_85 : decode cM_packJ 85 = .ok (.ldiv, 1) := by decide +kernel
theorem dM_packJ_86 : decode cM_packJ 86 = .ok (.lload 8, 2) := by decide +kernel
theorem dM_packJ_88 : decode cM_packJ 88 = .ok (.lmul, 1) := by decide +kernel
theorem dM_packJ_89 : decode cM_packJ 89 = .ok (.lstore 10, 2) := by decide +kernel
theorem dM_packJ_91 : decode cM_packJ 91 = .ok (.lload_n 3, 1) := by decide +kernel
theorem dM_packJ_92 : decode cM_packJ 92 = .ok (.lload 8, 2) := by decide +kernel
theorem dM_packJ_94 : decode cM_packJ 94 = .ok (.ladd, 1) := by decide +kernel
theorem dM_packJ_95 : decode cM_packJ 95 = .ok (.lconst 1, 1) := by decide +kernel
theorem dM_packJ_96 : decode cM_packJ 96 = .ok (.lsub, 1) := by decide +kernel
theorem dM_packJ_97 : decode cM_packJ 97 = .ok (.lload 8, 2) := by decide +kernel
theorem dM_packJ_99 : decode cM_packJ 99 = .ok (.ldiv, 1) := by decide +kernel
theorem dM_packJ_100 : decode cM_packJ 100 = .ok (.lload 8, 2) := by decide +kernel
theorem dM_packJ_102 : decode cM_packJ 102 = .ok (.lmul, 1) := by decide +kernel
theorem dM_packJ_103 : decode cM_packJ 103 = .ok (.lstore 12, 2) := by decide +kernel
theorem dM_packJ_105 : decode cM_packJ 105 = .ok (.lload 12, 2) := by decide +kernel
theorem dM_packJ_107 : decode cM_packJ 107 = .ok (.lload 10, 2) := by decide +kernel
theorem dM_packJ_109 : decode cM_packJ 109 = .ok (.lsub, 1) := by decide +kernel
theorem dM_packJ_110 : decode cM_packJ 110 = .ok (.lload 8, 2) := by decide +kernel
theorem dM_packJ_112 : decode cM_packJ 112 = .ok (.ldiv, 1) := by decide +kernel
theorem dM_packJ_113 : decode cM_packJ 113 = .ok (.ldc2_w 92, 3) := by decide +kernel
theorem dM_packJ_116 : decode cM_packJ 116 = .ok (.lcmp, 1) := by decide +kernel
theorem dM_packJ_117 : decode cM_packJ 117 = .ok (.ifCond .lt 37, 3) := by decide +kernel
theorem dM_packJ_120 : decode cM_packJ 120 = .ok (.iinc 7 1, 3) := by decide +kernel
theorem dM_packJ_123 : decode cM_packJ 123 = .ok (.lconst 1, 1) := by decide +kernel
theorem dM_packJ_124 : decode cM_packJ 124 = .ok (.iload 7, 2) := by decide +kernel
theorem dM_packJ_126 : decode cM_packJ 126 = .ok (.iconst 3, 1) := by decide +kernel
theorem dM_packJ_127 : decode cM_packJ 127 = .ok (.iadd, 1) := by decide +kernel
theorem dM_packJ_128 : decode cM_packJ 128 = .ok (.lshl, 1) := by decide +kernel
theorem dM_packJ_129 : decode cM_packJ 129 = .ok (.lstore 8, 2) := by decide +kernel
theorem dM_packJ_131 : decode cM_packJ 131 = .ok (.lload_n 1, 1) := by decide +kernel
theorem dM_packJ_132 : decode cM_packJ 132 = .ok (.lload 8, 2) := by decide +kernel
theorem dM_packJ_134 : decode cM_packJ 134 = .ok (.ldiv, 1) := by decide +kernel
theorem dM_packJ_135 : decode cM_packJ 135 = .ok (.lload 8, 2) := by decide +kernel
theorem dM_packJ_137 : decode cM_packJ 137 = .ok (.lmul, 1) := by decide +kernel
theorem dM_packJ_138 : decode cM_packJ 138 = .ok (.lstore 10, 2) := by decide +kernel
theorem dM_packJ_140 : decode cM_packJ 140 = .ok (.lload_n 3, 1) := by decide +kernel
theorem dM_packJ_141 : decode cM_packJ 141 = .ok (.lload 8, 2) := by decide +kernel
theorem dM_packJ_143 : decode cM_packJ 143 = .ok (.ladd, 1) := by decide +kernel
theorem dM_packJ_144 : decode cM_packJ 144 = .ok (.lconst 1, 1) := by decide +kernel
theorem dM_packJ_145 : decode cM_packJ 145 = .ok (.lsub, 1) := by decide +kernel
theorem dM_packJ_146 : decode cM_packJ 146 = .ok (.lload 8, 2) := by decide +kernel
theorem dM_packJ_148 : decode cM_packJ 148 = .ok (.ldiv, 1) := by decide +kernel
theorem dM_packJ_149 : decode cM_packJ 149 = .ok (.lload 8, 2) := by decide +kernel
theorem dM_packJ_151 : decode cM_packJ 151 = .ok (.lmul, 1) := by decide +kernel
theorem dM_packJ_152 : decode cM_packJ 152 = .ok (.lstore 12, 2) := by decide +kernel
theorem dM_packJ_154 : decode cM_packJ 154 = .ok (.lload 10, 2) := by decide +kernel
theorem dM_packJ_156 : decode cM_packJ 156 = .ok (.iload 7, 2) := by decide +kernel
theorem dM_packJ_158 : decode cM_packJ 158 = .ok (.lshr, 1) := by decide +kernel
theorem dM_packJ_159 : decode cM_packJ 159 = .ok (.l2i, 1) := by decide +kernel
theorem dM_packJ_160 : decode cM_packJ 160 = .ok (.sipush 248, 3) := by decide +kernel
theorem dM_packJ_163 : decode cM_packJ 163 = .ok (.iand, 1) := by decide +kernel
theorem dM_packJ_164 : decode cM_packJ 164 = .ok (.iload 7, 2) := by decide +kernel
theorem dM_packJ_166 : decode cM_packJ 166 = .ok (.bipush 7, 2) := by decide +kernel
theorem dM_packJ_168 : decode cM_packJ 168 = .ok (.iand, 1) := by decide +kernel
theorem dM_packJ_169 : decode cM_packJ 169 = .ok (.ior, 1) := by decide +kernel
theorem dM_packJ_170 : decode cM_packJ 170 = .ok (.istore 14, 2) := by decide +kernel
theorem dM_packJ_172 : decode cM_packJ 172 = .ok (.lload 12, 2) := by decide +kernel
theorem dM_packJ_174 : decode cM_packJ 174 = .ok (.iload 7, 2) := by decide +kernel
theorem dM_packJ_176 : decode cM_packJ 176 = .ok (.lshr, 1) := by decide +kernel
theorem dM_packJ_177 : decode cM_packJ 177 = .ok (.l2i, 1) := by decide +kernel
theorem dM_packJ_178 : decode cM_packJ 178 = .ok (.bipush 56, 2) := by decide +kernel
theorem dM_packJ_180 : decode cM_packJ 180 = .ok (.iand, 1) := by decide +kernel
theorem dM_packJ_181 : decode cM_packJ 181 = .ok (.iload 7, 2) := by decide +kernel
theorem dM_packJ_183 : decode cM_packJ 183 = .ok (.iconst 3, 1) := by decide +kernel
theorem dM_packJ_184 : decode cM_packJ 184 = .ok (.ishr, 1) := by decide +kernel
theorem dM_packJ_185 : decode cM_packJ 185 = .ok (.ior, 1) := by decide +kernel
theorem dM_packJ_186 : decode cM_packJ 186 = .ok (.istore 15, 2) := by decide +kernel
theorem dM_packJ_188 : decode cM_packJ 188 = .ok (.aload_n 0, 1) := by decide +kernel
theorem dM_packJ_189 : decode cM_packJ 189 = .ok (.sipush 16384, 3) := by decide +kernel
theorem dM_packJ_192 : decode cM_packJ 192 = .ok (.iload 15, 2) := by decide +kernel
theorem dM_packJ_194 : decode cM_packJ 194 = .ok (.bipush 8, 2) := by decide +kernel
theorem dM_packJ_196 : decode cM_packJ 196 = .ok (.ishl, 1) := by decide +kernel
theorem dM_packJ_197 : decode cM_packJ 197 = .ok (.ior, 1) := by decide +kernel
theorem dM_packJ_198 : decode cM_packJ 198 = .ok (.iload 14, 2) := by decide +kernel
theorem dM_packJ_200 : decode cM_packJ 200 = .ok (.ior, 1) := by decide +kernel
theorem dM_packJ_201 : decode cM_packJ 201 = .ok (.putfield 81, 3) := by decide +kernel
theorem dM_packJ_204 : decode cM_packJ 204 = .ok (.aload_n 0, 1) := by decide +kernel
theorem dM_packJ_205 : decode cM_packJ 205 = .ok (.lload 10, 2) := by decide +kernel
theorem dM_packJ_207 : decode cM_packJ 207 = .ok (.lload_n 1, 1) := by decide +kernel
theorem dM_packJ_208 : decode cM_packJ 208 = .ok (.lcmp, 1) := by decide +kernel
theorem dM_packJ_209 : decode cM_packJ 209 = .ok (.ifCond .ne 14, 3) := by decide +kernel
theorem dM_packJ_212 : decode cM_packJ 212 = .ok (.lload 12, 2) := by decide +kernel
theorem dM_packJ_214 : decode cM_packJ 214 = .ok (.lload_n 3, 1) := by decide +kernel
theorem dM_packJ_215 : decode cM_packJ 215 = .ok (.lcmp, 1) := by decide +kernel
theorem dM_packJ_216 : decode cM_packJ 216 = .ok (.ifCond .ne 7, 3) := by decide +kernel
theorem dM_packJ_219 : decode cM_packJ 219 = .ok (.iconst 1, 1) := by decide +kernel
theorem dM_packJ_220 : decode cM_packJ 220 = .ok (.goto 4, 3) := by decide +kernel
theorem dM_packJ_223 : decode cM_packJ 223 = .ok (.iconst 0, 1) := by decide +kernel
theorem dM_packJ_224 : decode cM_packJ 224 = .ok (.putfield 84, 3) := by decide +kernel
theorem dM_packJ_227 : decode cM_packJ 227 = .ok (.aload_n 0, 1) := by decide +kernel
theorem dM_packJ_228 : decode cM_packJ 228 = .ok (.lload 12, 2) := by decide +kernel
theorem dM_packJ_230 : decode cM_packJ 230 = .ok (.lload 10, 2) := by decide +kernel
theorem dM_packJ_232 : decode cM_packJ 232 = .ok (.lsub, 1) := by decide +kernel
theorem dM_packJ_233 : decode cM_packJ 233 = .ok (.putfield 88, 3) := by decide +kernel
theorem dM_packJ_236 : decode cM_packJ 236 = .ok (.return_, 1) := by decide +kernel
theorem dM_set_0 : decode cM_set 0 = .ok (.iload_n 1, 1) := by decide +kernel
theorem dM_set_1 : decode cM_set 1 = .ok (.ifCond .ne 5, 3) := by decide +kernel
theorem dM_set_4 : decode cM_set 4 = .ok (.iconst 0, 1) := by decide +kernel
theorem dM_set_5 : decode cM_set 5 = .ok (.ireturn, 1) := by decide +kernel
theorem dM_set_6 : decode cM_set 6 = .ok (.aload_n 0, 1) := by decide +kernel
theorem dM_set_7 : decode cM_set 7 = .ok (.getfield 7, 3) := by decide +kernel
theorem dM_set_10 : decode cM_set 10 = .ok (.iload_n 1, 1) := by decide +kernel
theorem dM_set_11 : decode cM_set 11 = .ok (.iload_n 2, 1) := by decide +kernel
theorem dM_set_12 : decode cM_set 12 = .ok (.bastore, 1) := by decide +kernel
theorem dM_set_13 : decode cM_set 13 = .ok (.aload_n 0, 1) := by decide +kernel
theorem dM_set_14 : decode cM_set 14 = .ok (.getfield 13, 3) := by decide +kernel
theorem dM_set_17 : decode cM_set 17 = .ok (.iload_n 1, 1) := by decide +kernel
theorem dM_set_18 : decode cM_set 18 = .ok (.iload_n 3, 1) := by decide +kernel
theorem dM_set_19 : decode cM_set 19 = .ok (.iastore, 1) := by decide +kernel
theorem dM_set_20 : decode cM_set 20 = .ok (.aload_n 0, 1) := by decide +kernel
theorem dM_set_21 : decode cM_set 21 = .ok (.getfield 17, 3) := by decide +kernel
theorem dM_set_24 : decode cM_set 24 = .ok (.iload_n 1, 1) := by decide +kernel
theorem dM_set_25 : decode cM_set 25 = .ok (.iload 4, 2) := by decide +kernel
theorem dM_set_27 : decode cM_set 27 = .ok (.iastore, 1) := by decide +kernel
theorem dM_set_28 : decode cM_set 28 = .ok (.iload_n 2, 1) := by decide +kernel
theorem dM_set_29 : decode cM_set 29 = .ok (.ireturn, 1) := by decide +kernel
theorem dM_base_0 : decode cM_base 0 = .ok (.iload_n 0, 1) := by decide +kernel
theorem dM_base_1 : decode cM_base 1 = .ok (.invokestatic 39, 3) := by decide +kernel
theorem dM_base_4 : decode cM_base 4 = .ok (.iload_n 0, 1) := by decide +kernel
theorem dM_base_5 : decode cM_base 5 = .ok (.invokestatic 49, 3) := by decide +kernel
theorem dM_base_8 : decode cM_base 8 = .ok (.iload_n 0, 1) := by decide +kernel
theorem dM_base_9 : decode cM_base 9 = .ok (.iload_n 1, 1) := by decide +kernel
theorem dM_base_10 : decode cM_base 10 = .ok (.invokestatic 56, 3) := by decide +kernel
theorem dM_base_13 : decode cM_base 13 = .ok (.invokestatic 60, 3) := by decide +kernel
theorem dM_base_16 : decode cM_base 16 = .ok (.ldc2_w 35, 3) := by decide +kernel
theorem dM_base_19 : decode cM_base 19 = .ok (.land, 1) := by decide +kernel
theorem dM_base_20 : decode cM_base 20 = .ok (.lreturn, 1) := by decide +kernel
theorem dM_bottom_0 : decode cM_bottom 0 = .ok (.iload_n 0, 1) := by decide +kernel
theorem dM_bottom_1 : decode cM_bottom 1 = .ok (.bipush 14, 2) := by decide +kernel
theorem dM_bottom_3 : decode cM_bottom 3 = .ok (.ishr, 1) := by decide +kernel
theorem dM_bottom_4 : decode cM_bottom 4 = .ok (.iconst 1, 1) := by decide +kernel
theorem dM_bottom_5 : decode cM_bottom 5 = .ok (.iand, 1) := by decide +kernel
theorem dM_bottom_6 : decode cM_bottom 6 = .ok (.ifCond .ne 11, 3) := by decide +kernel
theorem dM_bottom_9 : decode cM_bottom 9 = .ok (.iload_n 0, 1) := by decide +kernel
theorem dM_bottom_10 : decode cM_bottom 10 = .ok (.sipush 255, 3) := by decide +kernel
theorem dM_bottom_13 : decode cM_bottom 13 = .ok (.iand, 1) := by decide +kernel
theorem dM_bottom_14 : decode cM_bottom 14 = .ok (.goto 8, 3) := by decide +kernel
theorem dM_bottom_17 : decode cM_bottom 17 = .ok (.iload_n 0, 1) := by decide +kernel
theorem dM_bottom_18 : decode cM_bottom 18 = .ok (.sipush 248, 3) := by decide +kernel
theorem dM_bottom_21 : decode cM_bottom 21 = .ok (.iand, 1) := by decide +kernel
theorem dM_bottom_22 : decode cM_bottom 22 = .ok (.ireturn, 1) := by decide +kernel
theorem dM_scale_0 : decode cM_scale 0 = .ok (.bipush 8, 2) := by decide +kernel
theorem dM_scale_2 : decode cM_scale 2 = .ok (.iload_n 0, 1) := by decide +kernel
theorem dM_scale_3 : decode cM_scale 3 = .ok (.bipush 8, 2) := by decide +kernel
theorem dM_scale_5 : decode cM_scale 5 = .ok (.ishr, 1) := by decide +kernel
theorem dM_scale_6 : decode cM_scale 6 = .ok (.bipush 7, 2) := by decide +kernel
theorem dM_scale_8 : decode cM_scale 8 = .ok (.iand, 1) := by decide +kernel
theorem dM_scale_9 : decode cM_scale 9 = .ok (.imul, 1) := by decide +kernel
theorem dM_scale_10 : decode cM_scale 10 = .ok (.iload_n 0, 1) := by decide +kernel
theorem dM_scale_11 : decode cM_scale 11 = .ok (.bipush 7, 2) := by decide +kernel
theorem dM_scale_13 : decode cM_scale 13 = .ok (.iand, 1) := by decide +kernel
theorem dM_scale_14 : decode cM_scale 14 = .ok (.iadd, 1) := by decide +kernel
theorem dM_scale_15 : decode cM_scale 15 = .ok (.istore_n 1, 1) := by decide +kernel
theorem dM_scale_16 : decode cM_scale 16 = .ok (.iload_n 0, 1) := by decide +kernel
theorem dM_scale_17 : decode cM_scale 17 = .ok (.bipush 14, 2) := by decide +kernel
theorem dM_scale_19 : decode cM_scale 19 = .ok (.ishr, 1) := by decide +kernel
theorem dM_scale_20 : decode cM_scale 20 = .ok (.iconst 1, 1) := by decide +kernel
theorem dM_scale_21 : decode cM_scale 21 = .ok (.iand, 1) := by decide +kernel
theorem dM_scale_22 : decode cM_scale 22 = .ok (.ifCond .ne 7, 3) := by decide +kernel
theorem dM_scale_25 : decode cM_scale 25 = .ok (.iconst 0, 1) := by decide +kernel
theorem dM_scale_26 : decode cM_scale 26 = .ok (.goto 15, 3) := by decide +kernel
theorem dM_scale_29 : decode cM_scale 29 = .ok (.iload_n 1, 1) := by decide +kernel
theorem dM_scale_30 : decode cM_scale 30 = .ok (.bipush 26, 2) := by decide +kernel
theorem dM_scale_32 : decode cM_scale 32 = .ok (.if_icmp .ge 7, 3) := by decide +kernel
theorem dM_scale_35 : decode cM_scale 35 = .ok (.iload_n 1, 1) := by decide +kernel
theorem dM_scale_36 : decode cM_scale 36 = .ok (.goto 5, 3) := by decide +kernel
theorem dM_scale_39 : decode cM_scale 39 = .ok (.bipush 26, 2) := by decide +kernel
theorem dM_scale_41 : decode cM_scale 41 = .ok (.ireturn, 1) := by decide +kernel
theorem dM_window_0 : decode cM_window 0 = .ok (.iload_n 0, 1) := by decide +kernel
theorem dM_window_1 : decode cM_window 1 = .ok (.invokestatic 49, 3) := by decide +kernel
theorem dM_window_4 : decode cM_window 4 = .ok (.istore_n 2, 1) := by decide +kernel
theorem dM_window_5 : decode cM_window 5 = .ok (.lconst 1, 1) := by decide +kernel
theorem dM_window_6 : decode cM_window 6 = .ok (.iload_n 2, 1) := by decide +kernel
theorem dM_window_7 : decode cM_window 7 = .ok (.bipush 8, 2) := by decide +kernel
theorem dM_window_9 : decode cM_window 9 = .ok (.iadd, 1) := by decide +kernel
theorem dM_window_10 : decode cM_window 10 = .ok (.lshl, 1) := by decide +kernel
theorem dM_window_11 : decode cM_window 11 = .ok (.lstore_n 3, 1) := by decide +kernel
theorem dM_window_12 : decode cM_window 12 = .ok (.iload_n 0, 1) := by decide +kernel
theorem dM_window_13 : decode cM_window 13 = .ok (.invokestatic 39, 3) := by decide +kernel
theorem dM_window_16 : decode cM_window 16 = .ok (.bipush 32, 2) := by decide +kernel
theorem dM_window_18 : decode cM_window 18 = .ok (.idiv, 1) := by decide +kernel
theorem dM_window_19 : decode cM_window 19 = .ok (.bipush 7, 2) := by decide +kernel
theorem dM_window_21 : decode cM_window 21 = .ok (.iadd, 1) := by decide +kernel
theorem dM_window_22 : decode cM_window 22 = .ok (.bipush 8, 2) := by decide +kernel
theorem dM_window_24 : decode cM_window 24 = .ok (.irem, 1) := by decide +kernel
theorem dM_window_25 : decode cM_window 25 = .ok (.i2l, 1) := by decide +kernel
theorem dM_window_26 : decode cM_window 26 = .ok (.iload_n 2, 1) := by decide +kernel
theorem dM_window_27 : decode cM_window 27 = .ok (.iconst 5, 1) := by decide +kernel
theorem dM_window_28 : decode cM_window 28 = .ok (.iadd, 1) := by decide +kernel
theorem dM_window_29 : decode cM_window 29 = .ok (.lshl, 1) := by decide +kernel
theorem dM_window_30 : decode cM_window 30 = .ok (.lstore 5, 2) := by decide +kernel
theorem dM_window_32 : decode cM_window 32 = .ok (.iload_n 1, 1) := by decide +kernel
theorem dM_window_33 : decode cM_window 33 = .ok (.invokestatic 52, 3) := by decide +kernel
theorem dM_window_36 : decode cM_window 36 = .ok (.iload_n 1, 1) := by decide +kernel
theorem dM_window_37 : decode cM_window 37 = .ok (.invokestatic 52, 3) := by decide +kernel
theorem dM_window_40 : decode cM_window 40 = .ok (.lload 5, 2) := by decide +kernel
theorem dM_window_42 : decode cM_window 42 = .ok (.lsub, 1) := by decide +kernel
theorem dM_window_43 : decode cM_window 43 = .ok (.lload_n 3, 1) := by decide +kernel
theorem dM_window_44 : decode cM_window 44 = .ok (.invokestatic 43, 3) := by decide +kernel
theorem dM_window_47 : decode cM_window 47 = .ok (.lsub, 1) := by decide +kernel
theorem dM_window_48 : decode cM_window 48 = .ok (.lreturn, 1) := by decide +kernel
theorem dM_inWindow_0 : decode cM_inWindow 0 = .ok (.lconst 1, 1) := by decide +kernel
theorem dM_inWindow_1 : decode cM_inWindow 1 = .ok (.iload_n 1, 1) := by decide +kernel
theorem dM_inWindow_2 : decode cM_inWindow 2 = .ok (.bipush 8, 2) := by decide +kernel
theorem dM_inWindow_4 : decode cM_inWindow 4 = .ok (.iadd, 1) := by decide +kernel
theorem dM_inWindow_5 : decode cM_inWindow 5 = .ok (.lshl, 1) := by decide +kernel
theorem dM_inWindow_6 : decode cM_inWindow 6 = .ok (.lstore 4, 2) := by decide +kernel
theorem dM_inWindow_8 : decode cM_inWindow 8 = .ok (.iload_n 0, 1) := by decide +kernel
theorem dM_inWindow_9 : decode cM_inWindow 9 = .ok (.i2l, 1) := by decide +kernel
theorem dM_inWindow_10 : decode cM_inWindow 10 = .ok (.iload_n 1, 1) := by decide +kernel
theorem dM_inWindow_11 : decode cM_inWindow 11 = .ok (.lshl, 1) := by decide +kernel
theorem dM_inWindow_12 : decode cM_inWindow 12 = .ok (.lstore 6, 2) := by decide +kernel
theorem dM_inWindow_14 : decode cM_inWindow 14 = .ok (.lload_n 2, 1) := by decide +kernel
theorem dM_inWindow_15 : decode cM_inWindow 15 = .ok (.lload 6, 2) := by decide +kernel
theorem dM_inWindow_17 : decode cM_inWindow 17 = .ok (.lload_n 2, 1) := by decide +kernel
theorem dM_inWindow_18 : decode cM_inWindow 18 = .ok (.lsub, 1) := by decide +kernel
theorem dM_inWindow_19 : decode cM_inWindow 19 = .ok (.lload 4, 2) := by decide +kernel
theorem dM_inWindow_21 : decode cM_inWindow 21 = .ok (.invokestatic 43, 3) := by decide +kernel
theorem dM_inWindow_24 : decode cM_inWindow 24 = .ok (.ladd, 1) := by decide +kernel
theorem dM_inWindow_25 : decode cM_inWindow 25 = .ok (.lreturn, 1) := by decide +kernel
theorem dM_top_0 : decode cM_top 0 = .ok (.iload_n 0, 1) := by decide +kernel
theorem dM_top_1 : decode cM_top 1 = .ok (.invokestatic 64, 3) := by decide +kernel
theorem dM_top_4 : decode cM_top 4 = .ok (.iload_n 0, 1) := by decide +kernel
theorem dM_top_5 : decode cM_top 5 = .ok (.invokestatic 49, 3) := by decide +kernel
theorem dM_top_8 : decode cM_top 8 = .ok (.iload_n 0, 1) := by decide +kernel
theorem dM_top_9 : decode cM_top 9 = .ok (.iload_n 1, 1) := by decide +kernel
theorem dM_top_10 : decode cM_top 10 = .ok (.invokestatic 56, 3) := by decide +kernel
theorem dM_top_13 : decode cM_top 13 = .ok (.invokestatic 60, 3) := by decide +kernel
theorem dM_top_16 : decode cM_top 16 = .ok (.ldc2_w 67, 3) := by decide +kernel
theorem dM_top_19 : decode cM_top 19 = .ok (.land, 1) := by decide +kernel
theorem dM_top_20 : decode cM_top 20 = .ok (.lstore_n 2, 1) := by decide +kernel
theorem dM_top_21 : decode cM_top 21 = .ok (.iload_n 0, 1) := by decide +kernel
theorem dM_top_22 : decode cM_top 22 = .ok (.iload_n 1, 1) := by decide +kernel
theorem dM_top_23 : decode cM_top 23 = .ok (.invokestatic 69, 3) := by decide +kernel
theorem dM_top_26 : decode cM_top 26 = .ok (.lstore 4, 2) := by decide +kernel
theorem dM_top_28 : decode cM_top 28 = .ok (.lload_n 2, 1) := by decide +kernel
theorem dM_top_29 : decode cM_top 29 = .ok (.bipush 31, 2) := by decide +kernel
theorem dM_top_31 : decode cM_top 31 = .ok (.lshr, 1) := by decide +kernel
theorem dM_top_32 : decode cM_top 32 = .ok (.l2i, 1) := by decide +kernel
theorem dM_top_33 : decode cM_top 33 = .ok (.lload 4, 2) := by decide +kernel
theorem dM_top_35 : decode cM_top 35 = .ok (.bipush 31, 2) := by decide +kernel
theorem dM_top_37 : decode cM_top 37 = .ok (.lshr, 1) := by decide +kernel
theorem dM_top_38 : decode cM_top 38 = .ok (.l2i, 1) := by decide +kernel
theorem dM_top_39 : decode cM_top 39 = .ok (.isub, 1) := by decide +kernel
theorem dM_top_40 : decode cM_top 40 = .ok (.iconst 3, 1) := by decide +kernel
theorem dM_top_41 : decode cM_top 41 = .ok (.iand, 1) := by decide +kernel
theorem dM_top_42 : decode cM_top 42 = .ok (.istore 6, 2) := by decide +kernel
theorem dM_top_44 : decode cM_top 44 = .ok (.iload_n 0, 1) := by decide +kernel
theorem dM_top_45 : decode cM_top 45 = .ok (.invokestatic 49, 3) := by decide +kernel
theorem dM_top_48 : decode cM_top 48 = .ok (.bipush 25, 2) := by decide +kernel
theorem dM_top_50 : decode cM_top 50 = .ok (.if_icmp .ge 17, 3) := by decide +kernel
theorem dM_top_53 : decode cM_top 53 = .ok (.iload 6, 2) := by decide +kernel
theorem dM_top_55 : decode cM_top 55 = .ok (.iconst 1, 1) := by decide +kernel
theorem dM_top_56 : decode cM_top 56 = .ok (.if_icmp .le 11, 3) := by decide +kernel
theorem dM_top_59 : decode cM_top 59 = .ok (.lload_n 2, 1) := by decide +kernel
theorem dM_top_60 : decode cM_top 60 = .ok (.ldc2_w 72, 3) := by decide +kernel
theorem dM_top_63 : decode cM_top 63 = .ok (.lxor, 1) := by decide +kernel
theorem dM_top_64 : decode cM_top 64 = .ok (.goto 4, 3) := by decide +kernel
theorem dM_top_67 : decode cM_top 67 = .ok (.lload_n 2, 1) := by decide +kernel
theorem dM_top_68 : decode cM_top 68 = .ok (.lreturn, 1) := by decide +kernel
theorem dM_roof_0 : decode cM_roof 0 = .ok (.iload_n 0, 1) := by decide +kernel
theorem dM_roof_1 : decode cM_roof 1 = .ok (.bipush 14, 2) := by decide +kernel
theorem dM_roof_3 : decode cM_roof 3 = .ok (.ishr, 1) := by decide +kernel
theorem dM_roof_4 : decode cM_roof 4 = .ok (.iconst 1, 1) := by decide +kernel
theorem dM_roof_5 : decode cM_roof 5 = .ok (.iand, 1) := by decide +kernel
theorem dM_roof_6 : decode cM_roof 6 = .ok (.istore_n 1, 1) := by decide +kernel
theorem dM_roof_7 : decode cM_roof 7 = .ok (.iload_n 1, 1) := by decide +kernel
theorem dM_roof_8 : decode cM_roof 8 = .ok (.ifCond .ne 13, 3) := by decide +kernel
theorem dM_roof_11 : decode cM_roof 11 = .ok (.iload_n 0, 1) := by decide +kernel
theorem dM_roof_12 : decode cM_roof 12 = .ok (.bipush 8, 2) := by decide +kernel
theorem dM_roof_14 : decode cM_roof 14 = .ok (.ishr, 1) := by decide +kernel
theorem dM_roof_15 : decode cM_roof 15 = .ok (.bipush 63, 2) := by decide +kernel
theorem dM_roof_17 : decode cM_roof 17 = .ok (.iand, 1) := by decide +kernel
theorem dM_roof_18 : decode cM_roof 18 = .ok (.goto 10, 3) := by decide +kernel
theorem dM_roof_21 : decode cM_roof 21 = .ok (.iload_n 0, 1) := by decide +kernel
theorem dM_roof_22 : decode cM_roof 22 = .ok (.bipush 8, 2) := by decide +kernel
theorem dM_roof_24 : decode cM_roof 24 = .ok (.ishr, 1) := by decide +kernel
theorem dM_roof_25 : decode cM_roof 25 = .ok (.bipush 56, 2) := by decide +kernel
theorem dM_roof_27 : decode cM_roof 27 = .ok (.iand, 1) := by decide +kernel
theorem dM_roof_28 : decode cM_roof 28 = .ok (.istore_n 2, 1) := by decide +kernel
theorem dM_roof_29 : decode cM_roof 29 = .ok (.iload_n 0, 1) := by decide +kernel
theorem dM_roof_30 : decode cM_roof 30 = .ok (.invokestatic 39, 3) := by decide +kernel
theorem dM_roof_33 : decode cM_roof 33 = .ok (.istore_n 3, 1) := by decide +kernel
theorem dM_roof_34 : decode cM_roof 34 = .ok (.iload_n 3, 1) := by decide +kernel
theorem dM_roof_35 : decode cM_roof 35 = .ok (.bipush 6, 2) := by decide +kernel
theorem dM_roof_37 : decode cM_roof 37 = .ok (.ishr, 1) := by decide +kernel
theorem dM_roof_38 : decode cM_roof 38 = .ok (.iload_n 2, 1) := by decide +kernel
theorem dM_roof_39 : decode cM_roof 39 = .ok (.iload_n 3, 1) := by decide +kernel
theorem dM_roof_40 : decode cM_roof 40 = .ok (.bipush 63, 2) := by decide +kernel
theorem dM_roof_42 : decode cM_roof 42 = .ok (.iand, 1) := by decide +kernel
theorem dM_roof_43 : decode cM_roof 43 = .ok (.if_icmp .ge 7, 3) := by decide +kernel
theorem dM_roof_46 : decode cM_roof 46 = .ok (.iconst 1, 1) := by decide +kernel
theorem dM_roof_47 : decode cM_roof 47 = .ok (.goto 4, 3) := by decide +kernel
theorem dM_roof_50 : decode cM_roof 50 = .ok (.iconst 0, 1) := by decide +kernel
theorem dM_roof_51 : decode cM_roof 51 = .ok (.iadd, 1) := by decide +kernel
theorem dM_roof_52 : decode cM_roof 52 = .ok (.iload_n 1, 1) := by decide +kernel
theorem dM_roof_53 : decode cM_roof 53 = .ok (.iadd, 1) := by decide +kernel
theorem dM_roof_54 : decode cM_roof 54 = .ok (.istore 4, 2) := by decide +kernel
theorem dM_roof_56 : decode cM_roof 56 = .ok (.iload 4, 2) := by decide +kernel
theorem dM_roof_58 : decode cM_roof 58 = .ok (.iconst 3, 1) := by decide +kernel
theorem dM_roof_59 : decode cM_roof 59 = .ok (.iand, 1) := by decide +kernel
theorem dM_roof_60 : decode cM_roof 60 = .ok (.bipush 6, 2) := by decide +kernel
theorem dM_roof_62 : decode cM_roof 62 = .ok (.ishl, 1) := by decide +kernel
theorem dM_roof_63 : decode cM_roof 63 = .ok (.iload_n 2, 1) := by decide +kernel
theorem dM_roof_64 : decode cM_roof 64 = .ok (.ior, 1) := by decide +kernel
theorem dM_roof_65 : decode cM_roof 65 = .ok (.ireturn, 1) := by decide +kernel
theorem dM_put_0 : decode cM_put 0 = .ok (.aload_n 0, 1) := by decide +kernel
theorem dM_put_1 : decode cM_put 1 = .ok (.iconst 1, 1) := by decide +kernel
theorem dM_put_2 : decode cM_put 2 = .ok (.newarray .int, 2) := by decide +kernel
theorem dM_put_4 : decode cM_put 4 = .ok (.dup, 1) := by decide +kernel
theorem dM_put_5 : decode cM_put 5 = .ok (.iconst 0, 1) := by decide +kernel
theorem dM_put_6 : decode cM_put 6 = .ok (.iload_n 1, 1) := by decide +kernel
theorem dM_put_7 : decode cM_put 7 = .ok (.iastore, 1) := by decide +kernel
theorem dM_put_8 : decode cM_put 8 = .ok (.invokevirtual 115, 3) := by decide +kernel
theorem dM_put_11 : decode cM_put 11 = .ok (.ifCond .eq 15, 3) := by decide +kernel
theorem dM_put_14 : decode cM_put 14 = .ok (.aload_n 0, 1) := by decide +kernel
theorem dM_put_15 : decode cM_put 15 = .ok (.iload_n 1, 1) := by decide +kernel
theorem dM_put_16 : decode cM_put 16 = .ok (.iconst 0, 1) := by decide +kernel
theorem dM_put_17 : decode cM_put 17 = .ok (.iload_n 2, 1) := by decide +kernel
theorem dM_put_18 : decode cM_put 18 = .ok (.iload_n 3, 1) := by decide +kernel
theorem dM_put_19 : decode cM_put 19 = .ok (.ldc 30, 2) := by decide +kernel
theorem dM_put_21 : decode cM_put 21 = .ok (.ixor, 1) := by decide +kernel
theorem dM_put_22 : decode cM_put 22 = .ok (.invokevirtual 111, 3) := by decide +kernel
theorem dM_put_25 : decode cM_put 25 = .ok (.pop, 1) := by decide +kernel
theorem dM_put_26 : decode cM_put 26 = .ok (.return_, 1) := by decide +kernel
theorem dM_is_0 : decode cM_is 0 = .ok (.aload_n 0, 1) := by decide +kernel
theorem dM_is_1 : decode cM_is 1 = .ok (.iconst 0, 1) := by decide +kernel
theorem dM_is_2 : decode cM_is 2 = .ok (.putfield 31, 3) := by decide +kernel
theorem dM_is_5 : decode cM_is 5 = .ok (.aload_n 1, 1) := by decide +kernel
theorem dM_is_6 : decode cM_is 6 = .ok (.astore_n 2, 1) := by decide +kernel
theorem dM_is_7 : decode cM_is 7 = .ok (.aload_n 2, 1) := by decide +kernel
theorem dM_is_8 : decode cM_is 8 = .ok (.arraylength, 1) := by decide +kernel
theorem dM_is_9 : decode cM_is 9 = .ok (.istore_n 3, 1) := by decide +kernel
theorem dM_is_10 : decode cM_is 10 = .ok (.iconst 0, 1) := by decide +kernel
theorem dM_is_11 : decode cM_is 11 = .ok (.istore 4, 2) := by decide +kernel
theorem dM_is_13 : decode cM_is 13 = .ok (.iload 4, 2) := by decide +kernel
theorem dM_is_15 : decode cM_is 15 = .ok (.iload_n 3, 1) := by decide +kernel
theorem dM_is_16 : decode cM_is 16 = .ok (.if_icmp .ge 32, 3) := by decide +kernel
theorem dM_is_19 : decode cM_is 19 = .ok (.aload_n 2, 1) := by decide +kernel
theorem dM_is_20 : decode cM_is 20 = .ok (.iload 4, 2) := by decide +kernel
theorem dM_is_22 : decode cM_is 22 = .ok (.iaload, 1) := by decide +kernel
theorem dM_is_23 : decode cM_is 23 = .ok (.istore 5, 2) := by decide +kernel
theorem dM_is_25 : decode cM_is 25 = .ok (.iload 5, 2) := by decide +kernel
theorem dM_is_27 : decode cM_is 27 = .ok (.ifCond .lt 10, 3) := by decide +kernel
theorem dM_is_30 : decode cM_is 30 = .ok (.iload 5, 2) := by decide +kernel
theorem dM_is_32 : decode cM_is 32 = .ok (.bipush 31, 2) := by decide +kernel
theorem dM_is_34 : decode cM_is 34 = .ok (.if_icmp .le 8, 3) := by decide +kernel
theorem dM_is_37 : decode cM_is 37 = .ok (.aload_n 0, 1) := by decide +kernel
theorem dM_is_38 : decode cM_is 38 = .ok (.iconst 1, 1) := by decide +kernel
theorem dM_is_39 : decode cM_is 39 = .ok (.putfield 31, 3) := by decide +kernel
theorem dM_is_42 : decode cM_is 42 = .ok (.iinc 4 1, 3) := by decide +kernel
theorem dM_is_45 : decode cM_is 45 = .ok (.goto (-32), 3) := by decide +kernel
theorem dM_is_48 : decode cM_is 48 = .ok (.aload_n 0, 1) := by decide +kernel
theorem dM_is_49 : decode cM_is 49 = .ok (.getfield 31, 3) := by decide +kernel
theorem dM_is_52 : decode cM_is 52 = .ok (.ifCond .ne 7, 3) := by decide +kernel
theorem dM_is_55 : decode cM_is 55 = .ok (.iconst 1, 1) := by decide +kernel
theorem dM_is_56 : decode cM_is 56 = .ok (.goto 4, 3) := by decide +kernel
theorem dM_is_59 : decode cM_is 59 = .ok (.iconst 0, 1) := by decide +kernel
theorem dM_is_60 : decode cM_is 60 = .ok (.ireturn, 1) := by decide +kernel
theorem dM_narrow_0 : decode cM_narrow 0 = .ok (.aload_n 0, 1) := by decide +kernel
theorem dM_narrow_1 : decode cM_narrow 1 = .ok (.iconst 2, 1) := by decide +kernel
theorem dM_narrow_2 : decode cM_narrow 2 = .ok (.newarray .int, 2) := by decide +kernel
theorem dM_narrow_4 : decode cM_narrow 4 = .ok (.dup, 1) := by decide +kernel
theorem dM_narrow_5 : decode cM_narrow 5 = .ok (.iconst 0, 1) := by decide +kernel
theorem dM_narrow_6 : decode cM_narrow 6 = .ok (.iload_n 1, 1) := by decide +kernel
theorem dM_narrow_7 : decode cM_narrow 7 = .ok (.iastore, 1) := by decide +kernel
theorem dM_narrow_8 : decode cM_narrow 8 = .ok (.dup, 1) := by decide +kernel
theorem dM_narrow_9 : decode cM_narrow 9 = .ok (.iconst 1, 1) := by decide +kernel
theorem dM_narrow_10 : decode cM_narrow 10 = .ok (.iload_n 2, 1) := by decide +kernel
theorem dM_narrow_11 : decode cM_narrow 11 = .ok (.iastore, 1) := by decide +kernel
theorem dM_narrow_12 : decode cM_narrow 12 = .ok (.invokevirtual 115, 3) := by decide +kernel
theorem dM_narrow_15 : decode cM_narrow 15 = .ok (.ifCond .ne 5, 3) := by decide +kernel
theorem dM_narrow_18 : decode cM_narrow 18 = .ok (.iconst 0, 1) := by decide +kernel
theorem dM_narrow_19 : decode cM_narrow 19 = .ok (.ireturn, 1) := by decide +kernel
theorem dM_narrow_20 : decode cM_narrow 20 = .ok (.aload_n 0, 1) := by decide +kernel
theorem dM_narrow_21 : decode cM_narrow 21 = .ok (.getfield 13, 3) := by decide +kernel
theorem dM_narrow_24 : decode cM_narrow 24 = .ok (.iload_n 2, 1) := by decide +kernel
theorem dM_narrow_25 : decode cM_narrow 25 = .ok (.iaload, 1) := by decide +kernel
theorem dM_narrow_26 : decode cM_narrow 26 = .ok (.invokestatic 52, 3) := by decide +kernel
theorem dM_narrow_29 : decode cM_narrow 29 = .ok (.lstore 5, 2) := by decide +kernel
theorem dM_narrow_31 : decode cM_narrow 31 = .ok (.lload 5, 2) := by decide +kernel
theorem dM_narrow_33 : decode cM_narrow 33 = .ok (.iload_n 3, 1) := by decide +kernel
theorem dM_narrow_34 : decode cM_narrow 34 = .ok (.invokestatic 52, 3) := by decide +kernel
theorem dM_narrow_37 : decode cM_narrow 37 = .ok (.ladd, 1) := by decide +kernel
theorem dM_narrow_38 : decode cM_narrow 38 = .ok (.lstore 7, 2) := by decide +kernel
theorem dM_narrow_40 : decode cM_narrow 40 = .ok (.aload_n 0, 1) := by decide +kernel
theorem dM_narrow_41 : decode cM_narrow 41 = .ok (.lload 5, 2) := by decide +kernel
theorem dM_narrow_43 : decode cM_narrow 43 = .ok (.lload 7, 2) := by decide +kernel
theorem dM_narrow_45 : decode cM_narrow 45 = .ok (.ldc2_w 72, 3) := by decide +kernel
theorem dM_narrow_48 : decode cM_narrow 48 = .ok (.lcmp, 1) := by decide +kernel
theorem dM_narrow_49 : decode cM_narrow 49 = .ok (.ifCond .ge 8, 3) := by decide +kernel
theorem dM_narrow_52 : decode cM_narrow 52 = .ok (.lload 7, 2) := by decide +kernel
theorem dM_narrow_54 : decode cM_narrow 54 = .ok (.goto 6, 3) := by decide +kernel
theorem dM_narrow_57 : decode cM_narrow 57 = .ok (.ldc2_w 72, 3) := by decide +kernel
theorem dM_narrow_60 : decode cM_narrow 60 = .ok (.invokevirtual 106, 3) := by decide +kernel
theorem dM_narrow_63 : decode cM_narrow 63 = .ok (.aload_n 0, 1) := by decide +kernel
theorem dM_narrow_64 : decode cM_narrow 64 = .ok (.getfield 7, 3) := by decide +kernel
theorem dM_narrow_67 : decode cM_narrow 67 = .ok (.iload_n 2, 1) := by decide +kernel
theorem dM_narrow_68 : decode cM_narrow 68 = .ok (.baload, 1) := by decide +kernel
theorem dM_narrow_69 : decode cM_narrow 69 = .ok (.ifCond .eq 78, 3) := by decide +kernel
theorem dM_narrow_72 : decode cM_narrow 72 = .ok (.aload_n 0, 1) := by decide +kernel
theorem dM_narrow_73 : decode cM_narrow 73 = .ok (.iload_n 2, 1) := by decide +kernel
theorem dM_narrow_74 : decode cM_narrow 74 = .ok (.invokevirtual 119, 3) := by decide +kernel
theorem dM_narrow_77 : decode cM_narrow 77 = .ok (.ifCond .eq 70, 3) := by decide +kernel
theorem dM_narrow_80 : decode cM_narrow 80 = .ok (.aload_n 0, 1) := by decide +kernel
theorem dM_narrow_81 : decode cM_narrow 81 = .ok (.getfield 17, 3) := by decide +kernel
theorem dM_narrow_84 : decode cM_narrow 84 = .ok (.iload_n 2, 1) := by decide +kernel
theorem dM_narrow_85 : decode cM_narrow 85 = .ok (.iaload, 1) := by decide +kernel
theorem dM_narrow_86 : decode cM_narrow 86 = .ok (.aload_n 0, 1) := by decide +kernel
theorem dM_narrow_87 : decode cM_narrow 87 = .ok (.getfield 13, 3) := by decide +kernel
theorem dM_narrow_90 : decode cM_narrow 90 = .ok (.iload_n 2, 1) := by decide +kernel
theorem dM_narrow_91 : decode cM_narrow 91 = .ok (.iaload, 1) := by decide +kernel
theorem dM_narrow_92 : decode cM_narrow 92 = .ok (.invokestatic 69, 3) := by decide +kernel
theorem dM_narrow_95 : decode cM_narrow 95 = .ok (.lload 5, 2) := by decide +kernel
theorem dM_narrow_97 : decode cM_narrow 97 = .ok (.lcmp, 1) := by decide +kernel
theorem dM_narrow_98 : decode cM_narrow 98 = .ok (.ifCond .gt 49, 3) := by decide +kernel
theorem dM_narrow_101 : decode cM_narrow 101 = .ok (.lload 7, 2) := by decide +kernel
theorem dM_narrow_103 : decode cM_narrow 103 = .ok (.aload_n 0, 1) := by decide +kernel
theorem dM_narrow_104 : decode cM_narrow 104 = .ok (.getfield 17, 3) := by decide +kernel
theorem dM_narrow_107 : decode cM_narrow 107 = .ok (.iload_n 2, 1) := by decide +kernel
theorem dM_narrow_108 : decode cM_narrow 108 = .ok (.iaload, 1) := by decide +kernel
theorem dM_narrow_109 : decode cM_narrow 109 = .ok (.aload_n 0, 1) := by decide +kernel
theorem dM_narrow_110 : decode cM_narrow 110 = .ok (.getfield 13, 3) := by decide +kernel
theorem dM_narrow_113 : decode cM_narrow 113 = .ok (.iload_n 2, 1) := by decide +kernel
theorem dM_narrow_114 : decode cM_narrow 114 = .ok (.iaload, 1) := by decide +kernel
theorem dM_narrow_115 : decode cM_narrow 115 = .ok (.invokestatic 74, 3) := by decide +kernel
theorem dM_narrow_118 : decode cM_narrow 118 = .ok (.lcmp, 1) := by decide +kernel
theorem dM_narrow_119 : decode cM_narrow 119 = .ok (.ifCond .gt 28, 3) := by decide +kernel
theorem dM_narrow_122 : decode cM_narrow 122 = .ok (.lload 7, 2) := by decide +kernel
theorem dM_narrow_124 : decode cM_narrow 124 = .ok (.ldc2_w 72, 3) := by decide +kernel
theorem dM_narrow_127 : decode cM_narrow 127 = .ok (.lcmp, 1) := by decide +kernel
theorem dM_narrow_128 : decode cM_narrow 128 = .ok (.ifCond .gt 19, 3) := by decide +kernel
theorem dM_narrow_131 : decode cM_narrow 131 = .ok (.aload_n 0, 1) := by decide +kernel
theorem dM_narrow_132 : decode cM_narrow 132 = .ok (.getfield 84, 3) := by decide +kernel
theorem dM_narrow_135 : decode cM_narrow 135 = .ok (.ifCond .ne 8, 3) := by decide +kernel
theorem dM_narrow_138 : decode cM_narrow 138 = .ok (.iload 4, 2) := by decide +kernel
theorem dM_narrow_140 : decode cM_narrow 140 = .ok (.ifCond .ne 7, 3) := by decide +kernel
theorem dM_narrow_143 : decode cM_narrow 143 = .ok (.iconst 1, 1) := by decide +kernel
theorem dM_narrow_144 : decode cM_narrow 144 = .ok (.goto 4, 3) := by decide +kernel
theorem dM_narrow_147 : decode cM_narrow 147 = .ok (.iconst 0, 1) := by decide +kernel
theorem dM_narrow_148 : decode cM_narrow 148 = .ok (.istore 9, 2) := by decide +kernel
theorem dM_narrow_150 : decode cM_narrow 150 = .ok (.aload_n 0, 1) := by decide +kernel
theorem dM_narrow_151 : decode cM_narrow 151 = .ok (.iload_n 1, 1) := by decide +kernel
theorem dM_narrow_152 : decode cM_narrow 152 = .ok (.iload 9, 2) := by decide +kernel
theorem dM_narrow_154 : decode cM_narrow 154 = .ok (.aload_n 0, 1) := by decide +kernel
theorem dM_narrow_155 : decode cM_narrow 155 = .ok (.getfield 13, 3) := by decide +kernel
theorem dM_narrow_158 : decode cM_narrow 158 = .ok (.iload_n 2, 1) := by decide +kernel
theorem dM_narrow_159 : decode cM_narrow 159 = .ok (.iaload, 1) := by decide +kernel
theorem dM_narrow_160 : decode cM_narrow 160 = .ok (.aload_n 0, 1) := by decide +kernel
theorem dM_narrow_161 : decode cM_narrow 161 = .ok (.getfield 17, 3) := by decide +kernel
theorem dM_narrow_164 : decode cM_narrow 164 = .ok (.iload_n 2, 1) := by decide +kernel
theorem dM_narrow_165 : decode cM_narrow 165 = .ok (.iaload, 1) := by decide +kernel
theorem dM_narrow_166 : decode cM_narrow 166 = .ok (.sipush (-32768), 3) := by decide +kernel
theorem dM_narrow_169 : decode cM_narrow 169 = .ok (.iand, 1) := by decide +kernel
theorem dM_narrow_170 : decode cM_narrow 170 = .ok (.aload_n 0, 1) := by decide +kernel
theorem dM_narrow_171 : decode cM_narrow 171 = .ok (.getfield 81, 3) := by decide +kernel
theorem dM_narrow_174 : decode cM_narrow 174 = .ok (.ior, 1) := by decide +kernel
theorem dM_narrow_175 : decode cM_narrow 175 = .ok (.invokevirtual 111, 3) := by decide +kernel
theorem dM_narrow_178 : decode cM_narrow 178 = .ok (.ireturn, 1) := by decide +kernel
theorem dM_isOpen_0 : decode cM_isOpen 0 = .ok (.aload_n 0, 1) := by decide +kernel
theorem dM_isOpen_1 : decode cM_isOpen 1 = .ok (.getfield 17, 3) := by decide +kernel
theorem dM_isOpen_4 : decode cM_isOpen 4 = .ok (.iload_n 1, 1) := by decide +kernel
theorem dM_isOpen_5 : decode cM_isOpen 5 = .ok (.iaload, 1) := by decide +kernel
theorem dM_isOpen_6 : decode cM_isOpen 6 = .ok (.invokestatic 94, 3) := by decide +kernel
theorem dM_isOpen_9 : decode cM_isOpen 9 = .ok (.bipush 15, 2) := by decide +kernel
theorem dM_isOpen_11 : decode cM_isOpen 11 = .ok (.if_icmp .ne 7, 3) := by decide +kernel
theorem dM_isOpen_14 : decode cM_isOpen 14 = .ok (.iconst 1, 1) := by decide +kernel
theorem dM_isOpen_15 : decode cM_isOpen 15 = .ok (.goto 4, 3) := by decide +kernel
theorem dM_isOpen_18 : decode cM_isOpen 18 = .ok (.iconst 0, 1) := by decide +kernel
theorem dM_isOpen_19 : decode cM_isOpen 19 = .ok (.ireturn, 1) := by decide +kernel
theorem dM_type_0 : decode cM_type 0 = .ok (.iload_n 0, 1) := by decide +kernel
theorem dM_type_1 : decode cM_type 1 = .ok (.bipush 16, 2) := by decide +kernel
theorem dM_type_3 : decode cM_type 3 = .ok (.ishr, 1) := by decide +kernel
theorem dM_type_4 : decode cM_type 4 = .ok (.bipush 15, 2) := by decide +kernel
theorem dM_type_6 : decode cM_type 6 = .ok (.iand, 1) := by decide +kernel
theorem dM_type_7 : decode cM_type 7 = .ok (.ireturn, 1) := by decide +kernel
theorem dM_move_0 : decode cM_move 0 = .ok (.aload_n 0, 1) := by decide +kernel
theorem dM_move_1 : decode cM_move 1 = .ok (.iconst 2, 1) := by decide +kernel
theorem dM_move_2 : decode cM_move 2 = .ok (.newarray .int, 2) := by decide +kernel
theorem dM_move_4 : decode cM_move 4 = .ok (.dup, 1) := by decide +kernel
theorem dM_move_5 : decode cM_move 5 = .ok (.iconst 0, 1) := by decide +kernel
theorem dM_move_6 : decode cM_move 6 = .ok (.iload_n 1, 1) := by decide +kernel
theorem dM_move_7 : decode cM_move 7 = .ok (.iastore, 1) := by decide +kernel
theorem dM_move_8 : decode cM_move 8 = .ok (.dup, 1) := by decide +kernel
theorem dM_move_9 : decode cM_move 9 = .ok (.iconst 1, 1) := by decide +kernel
theorem dM_move_10 : decode cM_move 10 = .ok (.iload_n 2, 1) := by decide +kernel
theorem dM_move_11 : decode cM_move 11 = .ok (.iastore, 1) := by decide +kernel
theorem dM_move_12 : decode cM_move 12 = .ok (.invokevirtual 115, 3) := by decide +kernel
theorem dM_move_15 : decode cM_move 15 = .ok (.ifCond .ne 5, 3) := by decide +kernel
theorem dM_move_18 : decode cM_move 18 = .ok (.iconst 0, 1) := by decide +kernel
theorem dM_move_19 : decode cM_move 19 = .ok (.ireturn, 1) := by decide +kernel
theorem dM_move_20 : decode cM_move 20 = .ok (.aload_n 0, 1) := by decide +kernel
theorem dM_move_21 : decode cM_move 21 = .ok (.getfield 17, 3) := by decide +kernel
theorem dM_move_24 : decode cM_move 24 = .ok (.iload_n 2, 1) := by decide +kernel
theorem dM_move_25 : decode cM_move 25 = .ok (.iaload, 1) := by decide +kernel
theorem dM_move_26 : decode cM_move 26 = .ok (.aload_n 0, 1) := by decide +kernel
theorem dM_move_27 : decode cM_move 27 = .ok (.getfield 13, 3) := by decide +kernel
theorem dM_move_30 : decode cM_move 30 = .ok (.iload_n 2, 1) := by decide +kernel
theorem dM_move_31 : decode cM_move 31 = .ok (.iaload, 1) := by decide +kernel
theorem dM_move_32 : decode cM_move 32 = .ok (.invokestatic 69, 3) := by decide +kernel
theorem dM_move_35 : decode cM_move 35 = .ok (.aload_n 0, 1) := by decide +kernel
theorem dM_move_36 : decode cM_move 36 = .ok (.getfield 17, 3) := by decide +kernel
theorem dM_move_39 : decode cM_move 39 = .ok (.iload_n 2, 1) := by decide +kernel
theorem dM_move_40 : decode cM_move 40 = .ok (.iaload, 1) := by decide +kernel
theorem dM_move_41 : decode cM_move 41 = .ok (.iload_n 3, 1) := by decide +kernel
theorem dM_move_42 : decode cM_move 42 = .ok (.invokestatic 69, 3) := by decide +kernel
theorem dM_move_45 : decode cM_move 45 = .ok (.lcmp, 1) := by decide +kernel
theorem dM_move_46 : decode cM_move 46 = .ok (.ifCond .ne 36, 3) := by decide +kernel
theorem dM_move_49 : decode cM_move 49 = .ok (.aload_n 0, 1) := by decide +kernel
theorem dM_move_50 : decode cM_move 50 = .ok (.getfield 17, 3) := by decide +kernel
theorem dM_move_53 : decode cM_move 53 = .ok (.iload_n 2, 1) := by decide +kernel
theorem dM_move_54 : decode cM_move 54 = .ok (.iaload, 1) := by decide +kernel
theorem dM_move_55 : decode cM_move 55 = .ok (.aload_n 0, 1) := by decide +kernel
theorem dM_move_56 : decode cM_move 56 = .ok (.getfield 13, 3) := by decide +kernel
theorem dM_move_59 : decode cM_move 59 = .ok (.iload_n 2, 1) := by decide +kernel
theorem dM_move_60 : decode cM_move 60 = .ok (.iaload, 1) := by decide +kernel
theorem dM_move_61 : decode cM_move 61 = .ok (.invokestatic 74, 3) := by decide +kernel
theorem dM_move_64 : decode cM_move 64 = .ok (.aload_n 0, 1) := by decide +kernel
theorem dM_move_65 : decode cM_move 65 = .ok (.getfield 17, 3) := by decide +kernel
theorem dM_move_68 : decode cM_move 68 = .ok (.iload_n 2, 1) := by decide +kernel
theorem dM_move_69 : decode cM_move 69 = .ok (.iaload, 1) := by decide +kernel
theorem dM_move_70 : decode cM_move 70 = .ok (.iload_n 3, 1) := by decide +kernel
theorem dM_move_71 : decode cM_move 71 = .ok (.invokestatic 74, 3) := by decide +kernel
theorem dM_move_74 : decode cM_move 74 = .ok (.lcmp, 1) := by decide +kernel
theorem dM_move_75 : decode cM_move 75 = .ok (.ifCond .ne 7, 3) := by decide +kernel
theorem dM_move_78 : decode cM_move 78 = .ok (.iconst 1, 1) := by decide +kernel
theorem dM_move_79 : decode cM_move 79 = .ok (.goto 4, 3) := by decide +kernel
theorem dM_move_82 : decode cM_move 82 = .ok (.iconst 0, 1) := by decide +kernel
theorem dM_move_83 : decode cM_move 83 = .ok (.istore 4, 2) := by decide +kernel
theorem dM_move_85 : decode cM_move 85 = .ok (.aload_n 0, 1) := by decide +kernel
theorem dM_move_86 : decode cM_move 86 = .ok (.iload_n 1, 1) := by decide +kernel
theorem dM_move_87 : decode cM_move 87 = .ok (.aload_n 0, 1) := by decide +kernel
theorem dM_move_88 : decode cM_move 88 = .ok (.getfield 7, 3) := by decide +kernel
theorem dM_move_91 : decode cM_move 91 = .ok (.iload_n 2, 1) := by decide +kernel
theorem dM_move_92 : decode cM_move 92 = .ok (.baload, 1) := by decide +kernel
theorem dM_move_93 : decode cM_move 93 = .ok (.ifCond .eq 20, 3) := by decide +kernel
theorem dM_move_96 : decode cM_move 96 = .ok (.aload_n 0, 1) := by decide +kernel
theorem dM_move_97 : decode cM_move 97 = .ok (.iload_n 2, 1) := by decide +kernel
theorem dM_move_98 : decode cM_move 98 = .ok (.invokevirtual 119, 3) := by decide +kernel
theorem dM_move_101 : decode cM_move 101 = .ok (.ifCond .eq 12, 3) := by decide +kernel
theorem dM_move_104 : decode cM_move 104 = .ok (.iload 4, 2) := by decide +kernel
theorem dM_move_106 : decode cM_move 106 = .ok (.ifCond .eq 7, 3) := by decide +kernel
theorem dM_move_109 : decode cM_move 109 = .ok (.iconst 1, 1) := by decide +kernel
theorem dM_move_110 : decode cM_move 110 = .ok (.goto 4, 3) := by decide +kernel
theorem dM_move_113 : decode cM_move 113 = .ok (.iconst 0, 1) := by decide +kernel
theorem dM_move_114 : decode cM_move 114 = .ok (.iload_n 3, 1) := by decide +kernel
theorem dM_move_115 : decode cM_move 115 = .ok (.aload_n 0, 1) := by decide +kernel
theorem dM_move_116 : decode cM_move 116 = .ok (.getfield 17, 3) := by decide +kernel
theorem dM_move_119 : decode cM_move 119 = .ok (.iload_n 2, 1) := by decide +kernel
theorem dM_move_120 : decode cM_move 120 = .ok (.iaload, 1) := by decide +kernel
theorem dM_move_121 : decode cM_move 121 = .ok (.invokevirtual 111, 3) := by decide +kernel
theorem dM_move_124 : decode cM_move 124 = .ok (.ireturn, 1) := by decide +kernel
theorem dM_keep_0 : decode cM_keep 0 = .ok (.aload_n 0, 1) := by decide +kernel
theorem dM_keep_1 : decode cM_keep 1 = .ok (.iconst 2, 1) := by decide +kernel
theorem dM_keep_2 : decode cM_keep 2 = .ok (.newarray .int, 2) := by decide +kernel
theorem dM_keep_4 : decode cM_keep 4 = .ok (.dup, 1) := by decide +kernel
theorem dM_keep_5 : decode cM_keep 5 = .ok (.iconst 0, 1) := by decide +kernel
theorem dM_keep_6 : decode cM_keep 6 = .ok (.iload_n 1, 1) := by decide +kernel
theorem dM_keep_7 : decode cM_keep 7 = .ok (.iastore, 1) := by decide +kernel
theorem dM_keep_8 : decode cM_keep 8 = .ok (.dup, 1) := by decide +kernel
theorem dM_keep_9 : decode cM_keep 9 = .ok (.iconst 1, 1) := by decide +kernel
theorem dM_keep_10 : decode cM_keep 10 = .ok (.iload_n 2, 1) := by decide +kernel
theorem dM_keep_11 : decode cM_keep 11 = .ok (.iastore, 1) := by decide +kernel
theorem dM_keep_12 : decode cM_keep 12 = .ok (.invokevirtual 115, 3) := by decide +kernel
theorem dM_keep_15 : decode cM_keep 15 = .ok (.ifCond .eq 63, 3) := by decide +kernel
theorem dM_keep_18 : decode cM_keep 18 = .ok (.aload_n 0, 1) := by decide +kernel
theorem dM_keep_19 : decode cM_keep 19 = .ok (.iload_n 1, 1) := by decide +kernel
theorem dM_keep_20 : decode cM_keep 20 = .ok (.aload_n 0, 1) := by decide +kernel
theorem dM_keep_21 : decode cM_keep 21 = .ok (.getfield 7, 3) := by decide +kernel
theorem dM_keep_24 : decode cM_keep 24 = .ok (.iload_n 2, 1) := by decide +kernel
theorem dM_keep_25 : decode cM_keep 25 = .ok (.baload, 1) := by decide +kernel
theorem dM_keep_26 : decode cM_keep 26 = .ok (.ifCond .eq 15, 3) := by decide +kernel
theorem dM_keep_29 : decode cM_keep 29 = .ok (.aload_n 0, 1) := by decide +kernel
theorem dM_keep_30 : decode cM_keep 30 = .ok (.iload_n 2, 1) := by decide +kernel
theorem dM_keep_31 : decode cM_keep 31 = .ok (.invokevirtual 119, 3) := by decide +kernel
theorem dM_keep_34 : decode cM_keep 34 = .ok (.ifCond .eq 7, 3) := by decide +kernel
theorem dM_keep_37 : decode cM_keep 37 = .ok (.iconst 1, 1) := by decide +kernel
theorem dM_keep_38 : decode cM_keep 38 = .ok (.goto 4, 3) := by decide +kernel
theorem dM_keep_41 : decode cM_keep 41 = .ok (.iconst 0, 1) := by decide +kernel
theorem dM_keep_42 : decode cM_keep 42 = .ok (.aload_n 0, 1) := by decide +kernel
theorem dM_keep_43 : decode cM_keep 43 = .ok (.getfield 13, 3) := by decide +kernel
theorem dM_keep_46 : decode cM_keep 46 = .ok (.iload_n 2, 1) := by decide +kernel
theorem dM_keep_47 : decode cM_keep 47 = .ok (.iaload, 1) := by decide +kernel
theorem dM_keep_48 : decode cM_keep 48 = .ok (.aload_n 0, 1) := by decide +kernel
theorem dM_keep_49 : decode cM_keep 49 = .ok (.getfield 17, 3) := by decide +kernel
theorem dM_keep_52 : decode cM_keep 52 = .ok (.iload_n 2, 1) := by decide +kernel
theorem dM_keep_53 : decode cM_keep 53 = .ok (.iaload, 1) := by decide +kernel
theorem dM_keep_54 : decode cM_keep 54 = .ok (.aload_n 0, 1) := by decide +kernel
theorem dM_keep_55 : decode cM_keep 55 = .ok (.getfield 17, 3) := by decide +kernel
theorem dM_keep_58 : decode cM_keep 58 = .ok (.iload_n 2, 1) := by decide +kernel
theorem dM_keep_59 : decode cM_keep 59 = .ok (.iaload, 1) := by decide +kernel
theorem dM_keep_60 : decode cM_keep 60 = .ok (.invokestatic 97, 3) := by decide +kernel
theorem dM_keep_63 : decode cM_keep 63 = .ok (.iload_n 3, 1) := by decide +kernel
theorem dM_keep_64 : decode cM_keep 64 = .ok (.iand, 1) := by decide +kernel
theorem dM_keep_65 : decode cM_keep 65 = .ok (.invokestatic 123, 3) := by decide +kernel
theorem dM_keep_68 : decode cM_keep 68 = .ok (.invokevirtual 111, 3) := by decide +kernel
theorem dM_keep_71 : decode cM_keep 71 = .ok (.ifCond .eq 7, 3) := by decide +kernel
theorem dM_keep_74 : decode cM_keep 74 = .ok (.iconst 1, 1) := by decide +kernel
theorem dM_keep_75 : decode cM_keep 75 = .ok (.goto 4, 3) := by decide +kernel
theorem dM_keep_78 : decode cM_keep 78 = .ok (.iconst 0, 1) := by decide +kernel
theorem dM_keep_79 : decode cM_keep 79 = .ok (.ireturn, 1) := by decide +kernel
theorem dM_perms_0 : decode cM_perms 0 = .ok (.iload_n 0, 1) := by decide +kernel
theorem dM_perms_1 : decode cM_perms 1 = .ok (.bipush 20, 2) := by decide +kernel
theorem dM_perms_3 : decode cM_perms 3 = .ok (.iushr, 1) := by decide +kernel
theorem dM_perms_4 : decode cM_perms 4 = .ok (.ireturn, 1) := by decide +kernel
theorem dM_withPerms_0 : decode cM_withPerms 0 = .ok (.iload_n 0, 1) := by decide +kernel
theorem dM_withPerms_1 : decode cM_withPerms 1 = .ok (.ldc 38, 2) := by decide +kernel
theorem dM_withPerms_3 : decode cM_withPerms 3 = .ok (.iand, 1) := by decide +kernel
theorem dM_withPerms_4 : decode cM_withPerms 4 = .ok (.iload_n 1, 1) := by decide +kernel
theorem dM_withPerms_5 : decode cM_withPerms 5 = .ok (.bipush 20, 2) := by decide +kernel
theorem dM_withPerms_7 : decode cM_withPerms 7 = .ok (.ishl, 1) := by decide +kernel
theorem dM_withPerms_8 : decode cM_withPerms 8 = .ok (.ior, 1) := by decide +kernel
theorem dM_withPerms_9 : decode cM_withPerms 9 = .ok (.ireturn, 1) := by decide +kernel
theorem dM_seal_0 : decode cM_seal 0 = .ok (.aload_n 0, 1) := by decide +kernel
theorem dM_seal_1 : decode cM_seal 1 = .ok (.iconst 3, 1) := by decide +kernel
theorem dM_seal_2 : decode cM_seal 2 = .ok (.newarray .int, 2) := by decide +kernel
theorem dM_seal_4 : decode cM_seal 4 = .ok (.dup, 1) := by decide +kernel
theorem dM_seal_5 : decode cM_seal 5 = .ok (.iconst 0, 1) := by decide +kernel
theorem dM_seal_6 : decode cM_seal 6 = .ok (.iload_n 1, 1) := by decide +kernel
theorem dM_seal_7 : decode cM_seal 7 = .ok (.iastore, 1) := by decide +kernel
theorem dM_seal_8 : decode cM_seal 8 = .ok (.dup, 1) := by decide +kernel
theorem dM_seal_9 : decode cM_seal 9 = .ok (.iconst 1, 1) := by decide +kernel
theorem dM_seal_10 : decode cM_seal 10 = .ok (.iload_n 2, 1) := by decide +kernel
theorem dM_seal_11 : decode cM_seal 11 = .ok (.iastore, 1) := by decide +kernel
theorem dM_seal_12 : decode cM_seal 12 = .ok (.dup, 1) := by decide +kernel
theorem dM_seal_13 : decode cM_seal 13 = .ok (.iconst 2, 1) := by decide +kernel
theorem dM_seal_14 : decode cM_seal 14 = .ok (.iload_n 3, 1) := by decide +kernel
theorem dM_seal_15 : decode cM_seal 15 = .ok (.iastore, 1) := by decide +kernel
theorem dM_seal_16 : decode cM_seal 16 = .ok (.invokevirtual 115, 3) := by decide +kernel
theorem dM_seal_19 : decode cM_seal 19 = .ok (.ifCond .ne 5, 3) := by decide +kernel
theorem dM_seal_22 : decode cM_seal 22 = .ok (.iconst 0, 1) := by decide +kernel
theorem dM_seal_23 : decode cM_seal 23 = .ok (.ireturn, 1) := by decide +kernel
theorem dM_seal_24 : decode cM_seal 24 = .ok (.aload_n 0, 1) := by decide +kernel
theorem dM_seal_25 : decode cM_seal 25 = .ok (.getfield 13, 3) := by decide +kernel
theorem dM_seal_28 : decode cM_seal 28 = .ok (.iload_n 3, 1) := by decide +kernel
theorem dM_seal_29 : decode cM_seal 29 = .ok (.iaload, 1) := by decide +kernel
theorem dM_seal_30 : decode cM_seal 30 = .ok (.istore 4, 2) := by decide +kernel
theorem dM_seal_32 : decode cM_seal 32 = .ok (.aload_n 0, 1) := by decide +kernel
theorem dM_seal_33 : decode cM_seal 33 = .ok (.iload_n 1, 1) := by decide +kernel
theorem dM_seal_34 : decode cM_seal 34 = .ok (.aload_n 0, 1) := by decide +kernel
theorem dM_seal_35 : decode cM_seal 35 = .ok (.getfield 7, 3) := by decide +kernel
theorem dM_seal_38 : decode cM_seal 38 = .ok (.iload_n 2, 1) := by decide +kernel
theorem dM_seal_39 : decode cM_seal 39 = .ok (.baload, 1) := by decide +kernel
theorem dM_seal_40 : decode cM_seal 40 = .ok (.ifCond .eq 74, 3) := by decide +kernel
theorem dM_seal_43 : decode cM_seal 43 = .ok (.aload_n 0, 1) := by decide +kernel
theorem dM_seal_44 : decode cM_seal 44 = .ok (.getfield 7, 3) := by decide +kernel
theorem dM_seal_47 : decode cM_seal 47 = .ok (.iload_n 3, 1) := by decide +kernel
theorem dM_seal_48 : decode cM_seal 48 = .ok (.baload, 1) := by decide +kernel
theorem dM_seal_49 : decode cM_seal 49 = .ok (.ifCond .eq 65, 3) := by decide +kernel
theorem dM_seal_52 : decode cM_seal 52 = .ok (.aload_n 0, 1) := by decide +kernel
theorem dM_seal_53 : decode cM_seal 53 = .ok (.iload_n 2, 1) := by decide +kernel
theorem dM_seal_54 : decode cM_seal 54 = .ok (.invokevirtual 119, 3) := by decide +kernel
theorem dM_seal_57 : decode cM_seal 57 = .ok (.ifCond .eq 57, 3) := by decide +kernel
theorem dM_seal_60 : decode cM_seal 60 = .ok (.aload_n 0, 1) := by decide +kernel
theorem dM_seal_61 : decode cM_seal 61 = .ok (.iload_n 3, 1) := by decide +kernel
theorem dM_seal_62 : decode cM_seal 62 = .ok (.invokevirtual 119, 3) := by decide +kernel
theorem dM_seal_65 : decode cM_seal 65 = .ok (.ifCond .eq 49, 3) := by decide +kernel
theorem dM_seal_68 : decode cM_seal 68 = .ok (.aload_n 0, 1) := by decide +kernel
theorem dM_seal_69 : decode cM_seal 69 = .ok (.iload_n 3, 1) := by decide +kernel
theorem dM_seal_70 : decode cM_seal 70 = .ok (.bipush 7, 2) := by decide +kernel
theorem dM_seal_72 : decode cM_seal 72 = .ok (.invokevirtual 127, 3) := by decide +kernel
theorem dM_seal_75 : decode cM_seal 75 = .ok (.ifCond .eq 39, 3) := by decide +kernel
theorem dM_seal_78 : decode cM_seal 78 = .ok (.aload_n 0, 1) := by decide +kernel
theorem dM_seal_79 : decode cM_seal 79 = .ok (.getfield 17, 3) := by decide +kernel
theorem dM_seal_82 : decode cM_seal 82 = .ok (.iload_n 3, 1) := by decide +kernel
theorem dM_seal_83 : decode cM_seal 83 = .ok (.iaload, 1) := by decide +kernel
theorem dM_seal_84 : decode cM_seal 84 = .ok (.iload 4, 2) := by decide +kernel
theorem dM_seal_86 : decode cM_seal 86 = .ok (.iload 4, 2) := by decide +kernel
theorem dM_seal_88 : decode cM_seal 88 = .ok (.invokestatic 52, 3) := by decide +kernel
theorem dM_seal_91 : decode cM_seal 91 = .ok (.iconst 1, 1) := by decide +kernel
theorem dM_seal_92 : decode cM_seal 92 = .ok (.invokestatic 131, 3) := by decide +kernel
theorem dM_seal_95 : decode cM_seal 95 = .ok (.ifCond .eq 19, 3) := by decide +kernel
theorem dM_seal_98 : decode cM_seal 98 = .ok (.iload 4, 2) := by decide +kernel
theorem dM_seal_100 : decode cM_seal 100 = .ok (.invokestatic 52, 3) := by decide +kernel
theorem dM_seal_103 : decode cM_seal 103 = .ok (.ldc2_w 135, 3) := by decide +kernel
theorem dM_seal_106 : decode cM_seal 106 = .ok (.lcmp, 1) := by decide +kernel
theorem dM_seal_107 : decode cM_seal 107 = .ok (.ifCond .ge 7, 3) := by decide +kernel
theorem dM_seal_110 : decode cM_seal 110 = .ok (.iconst 1, 1) := by decide +kernel
theorem dM_seal_111 : decode cM_seal 111 = .ok (.goto 4, 3) := by decide +kernel
theorem dM_seal_114 : decode cM_seal 114 = .ok (.iconst 0, 1) := by decide +kernel
theorem dM_seal_115 : decode cM_seal 115 = .ok (.aload_n 0, 1) := by decide +kernel
theorem dM_seal_116 : decode cM_seal 116 = .ok (.getfield 13, 3) := by decide +kernel
theorem dM_seal_119 : decode cM_seal 119 = .ok (.iload_n 2, 1) := by decide +kernel
theorem dM_seal_120 : decode cM_seal 120 = .ok (.iaload, 1) := by decide +kernel
theorem dM_seal_121 : decode cM_seal 121 = .ok (.aload_n 0, 1) := by decide +kernel
theorem dM_seal_122 : decode cM_seal 122 = .ok (.getfield 17, 3) := by decide +kernel
theorem dM_seal_125 : decode cM_seal 125 = .ok (.iload_n 2, 1) := by decide +kernel
theorem dM_seal_126 : decode cM_seal 126 = .ok (.iaload, 1) := by decide +kernel
theorem dM_seal_127 : decode cM_seal 127 = .ok (.iload 4, 2) := by decide +kernel
theorem dM_seal_129 : decode cM_seal 129 = .ok (.bipush 15, 2) := by decide +kernel
theorem dM_seal_131 : decode cM_seal 131 = .ok (.iand, 1) := by decide +kernel
theorem dM_seal_132 : decode cM_seal 132 = .ok (.invokestatic 137, 3) := by decide +kernel
theorem dM_seal_135 : decode cM_seal 135 = .ok (.invokevirtual 111, 3) := by decide +kernel
theorem dM_seal_138 : decode cM_seal 138 = .ok (.ireturn, 1) := by decide +kernel
theorem dM_has_0 : decode cM_has 0 = .ok (.aload_n 0, 1) := by decide +kernel
theorem dM_has_1 : decode cM_has 1 = .ok (.getfield 17, 3) := by decide +kernel
theorem dM_has_4 : decode cM_has 4 = .ok (.iload_n 1, 1) := by decide +kernel
theorem dM_has_5 : decode cM_has 5 = .ok (.iaload, 1) := by decide +kernel
theorem dM_has_6 : decode cM_has 6 = .ok (.invokestatic 97, 3) := by decide +kernel
theorem dM_has_9 : decode cM_has 9 = .ok (.iload_n 2, 1) := by decide +kernel
theorem dM_has_10 : decode cM_has 10 = .ok (.ishr, 1) := by decide +kernel
theorem dM_has_11 : decode cM_has 11 = .ok (.iconst 1, 1) := by decide +kernel
theorem dM_has_12 : decode cM_has 12 = .ok (.iand, 1) := by decide +kernel
theorem dM_has_13 : decode cM_has 13 = .ok (.iconst 1, 1) := by decide +kernel
theorem dM_has_14 : decode cM_has 14 = .ok (.if_icmp .ne 7, 3) := by decide +kernel
theorem dM_has_17 : decode cM_has 17 = .ok (.iconst 1, 1) := by decide +kernel
theorem dM_has_18 : decode cM_has 18 = .ok (.goto 4, 3) := by decide +kernel
theorem dM_has_21 : decode cM_has 21 = .ok (.iconst 0, 1) := by decide +kernel
theorem dM_has_22 : decode cM_has 22 = .ok (.ireturn, 1) := by decide +kernel
theorem dM_isIn_0 : decode cM_isIn 0 = .ok (.iload_n 0, 1) := by decide +kernel
theorem dM_isIn_1 : decode cM_isIn 1 = .ok (.iload_n 1, 1) := by decide +kernel
theorem dM_isIn_2 : decode cM_isIn 2 = .ok (.invokestatic 69, 3) := by decide +kernel
theorem dM_isIn_5 : decode cM_isIn 5 = .ok (.lload_n 2, 1) := by decide +kernel
theorem dM_isIn_6 : decode cM_isIn 6 = .ok (.lcmp, 1) := by decide +kernel
theorem dM_isIn_7 : decode cM_isIn 7 = .ok (.ifCond .gt 21, 3) := by decide +kernel
theorem dM_isIn_10 : decode cM_isIn 10 = .ok (.lload_n 2, 1) := by decide +kernel
theorem dM_isIn_11 : decode cM_isIn 11 = .ok (.iload 4, 2) := by decide +kernel
theorem dM_isIn_13 : decode cM_isIn 13 = .ok (.i2l, 1) := by decide +kernel
theorem dM_isIn_14 : decode cM_isIn 14 = .ok (.ladd, 1) := by decide +kernel
theorem dM_isIn_15 : decode cM_isIn 15 = .ok (.iload_n 0, 1) := by decide +kernel
theorem dM_isIn_16 : decode cM_isIn 16 = .ok (.iload_n 1, 1) := by decide +kernel
theorem dM_isIn_17 : decode cM_isIn 17 = .ok (.invokestatic 74, 3) := by decide +kernel
theorem dM_isIn_20 : decode cM_isIn 20 = .ok (.lcmp, 1) := by decide +kernel
theorem dM_isIn_21 : decode cM_isIn 21 = .ok (.ifCond .gt 7, 3) := by decide +kernel
theorem dM_isIn_24 : decode cM_isIn 24 = .ok (.iconst 1, 1) := by decide +kernel
theorem dM_isIn_25 : decode cM_isIn 25 = .ok (.goto 4, 3) := by decide +kernel
theorem dM_isIn_28 : decode cM_isIn 28 = .ok (.iconst 0, 1) := by decide +kernel
theorem dM_isIn_29 : decode cM_isIn 29 = .ok (.ireturn, 1) := by decide +kernel
theorem dM_withType_0 : decode cM_withType 0 = .ok (.iload_n 0, 1) := by decide +kernel
theorem dM_withType_1 : decode cM_withType 1 = .ok (.ldc 37, 2) := by decide +kernel
theorem dM_withType_3 : decode cM_withType 3 = .ok (.iand, 1) := by decide +kernel
theorem dM_withType_4 : decode cM_withType 4 = .ok (.iload_n 1, 1) := by decide +kernel
theorem dM_withType_5 : decode cM_withType 5 = .ok (.bipush 16, 2) := by decide +kernel
theorem dM_withType_7 : decode cM_withType 7 = .ok (.ishl, 1) := by decide +kernel
theorem dM_withType_8 : decode cM_withType 8 = .ok (.ior, 1) := by decide +kernel
theorem dM_withType_9 : decode cM_withType 9 = .ok (.ireturn, 1) := by decide +kernel
theorem dM_unseal_0 : decode cM_unseal 0 = .ok (.aload_n 0, 1) := by decide +kernel
theorem dM_unseal_1 : decode cM_unseal 1 = .ok (.iconst 3, 1) := by decide +kernel
theorem dM_unseal_2 : decode cM_unseal 2 = .ok (.newarray .int, 2) := by decide +kernel
theorem dM_unseal_4 : decode cM_unseal 4 = .ok (.dup, 1) := by decide +kernel
theorem dM_unseal_5 : decode cM_unseal 5 = .ok (.iconst 0, 1) := by decide +kernel
theorem dM_unseal_6 : decode cM_unseal 6 = .ok (.iload_n 1, 1) := by decide +kernel
theorem dM_unseal_7 : decode cM_unseal 7 = .ok (.iastore, 1) := by decide +kernel
theorem dM_unseal_8 : decode cM_unseal 8 = .ok (.dup, 1) := by decide +kernel
theorem dM_unseal_9 : decode cM_unseal 9 = .ok (.iconst 1, 1) := by decide +kernel
theorem dM_unseal_10 : decode cM_unseal 10 = .ok (.iload_n 2, 1) := by decide +kernel
theorem dM_unseal_11 : decode cM_unseal 11 = .ok (.iastore, 1) := by decide +kernel
theorem dM_unseal_12 : decode cM_unseal 12 = .ok (.dup, 1) := by decide +kernel
theorem dM_unseal_13 : decode cM_unseal 13 = .ok (.iconst 2, 1) := by decide +kernel
theorem dM_unseal_14 : decode cM_unseal 14 = .ok (.iload_n 3, 1) := by decide +kernel
theorem dM_unseal_15 : decode cM_unseal 15 = .ok (.iastore, 1) := by decide +kernel
theorem dM_unseal_16 : decode cM_unseal 16 = .ok (.invokevirtual 115, 3) := by decide +kernel
theorem dM_unseal_19 : decode cM_unseal 19 = .ok (.ifCond .ne 5, 3) := by decide +kernel
theorem dM_unseal_22 : decode cM_unseal 22 = .ok (.iconst 0, 1) := by decide +kernel
theorem dM_unseal_23 : decode cM_unseal 23 = .ok (.ireturn, 1) := by decide +kernel
theorem dM_unseal_24 : decode cM_unseal 24 = .ok (.aload_n 0, 1) := by decide +kernel
theorem dM_unseal_25 : decode cM_unseal 25 = .ok (.getfield 13, 3) := by decide +kernel
theorem dM_unseal_28 : decode cM_unseal 28 = .ok (.iload_n 3, 1) := by decide +kernel
theorem dM_unseal_29 : decode cM_unseal 29 = .ok (.iaload, 1) := by decide +kernel
theorem dM_unseal_30 : decode cM_unseal 30 = .ok (.istore 4, 2) := by decide +kernel
theorem dM_unseal_32 : decode cM_unseal 32 = .ok (.aload_n 0, 1) := by decide +kernel
theorem dM_unseal_33 : decode cM_unseal 33 = .ok (.getfield 17, 3) := by decide +kernel
theorem dM_unseal_36 : decode cM_unseal 36 = .ok (.iload_n 2, 1) := by decide +kernel
theorem dM_unseal_37 : decode cM_unseal 37 = .ok (.iaload, 1) := by decide +kernel
theorem dM_unseal_38 : decode cM_unseal 38 = .ok (.invokestatic 94, 3) := by decide +kernel
theorem dM_unseal_41 : decode cM_unseal 41 = .ok (.istore 5, 2) := by decide +kernel
theorem dM_unseal_43 : decode cM_unseal 43 = .ok (.aload_n 0, 1) := by decide +kernel
theorem dM_unseal_44 : decode cM_unseal 44 = .ok (.iload_n 3, 1) := by decide +kernel
theorem dM_unseal_45 : decode cM_unseal 45 = .ok (.iconst 0, 1) := by decide +kernel
theorem dM_unseal_46 : decode cM_unseal 46 = .ok (.invokevirtual 127, 3) := by decide +kernel
theorem dM_unseal_49 : decode cM_unseal 49 = .ok (.ifCond .eq 15, 3) := by decide +kernel
theorem dM_unseal_52 : decode cM_unseal 52 = .ok (.aload_n 0, 1) := by decide +kernel
theorem dM_unseal_53 : decode cM_unseal 53 = .ok (.getfield 17, 3) := by decide +kernel
theorem dM_unseal_56 : decode cM_unseal 56 = .ok (.iload_n 2, 1) := by decide +kernel
theorem dM_unseal_57 : decode cM_unseal 57 = .ok (.iaload, 1) := by decide +kernel
theorem dM_unseal_58 : decode cM_unseal 58 = .ok (.invokestatic 97, 3) := by decide +kernel
theorem dM_unseal_61 : decode cM_unseal 61 = .ok (.goto 15, 3) := by decide +kernel
theorem dM_unseal_64 : decode cM_unseal 64 = .ok (.aload_n 0, 1) := by decide +kernel
theorem dM_unseal_65 : decode cM_unseal 65 = .ok (.getfield 17, 3) := by decide +kernel
theorem dM_unseal_68 : decode cM_unseal 68 = .ok (.iload_n 2, 1) := by decide +kernel
theorem dM_unseal_69 : decode cM_unseal 69 = .ok (.iaload, 1) := by decide +kernel
theorem dM_unseal_70 : decode cM_unseal 70 = .ok (.invokestatic 97, 3) := by decide +kernel
theorem dM_unseal_73 : decode cM_unseal 73 = .ok (.bipush (-2), 2) := by decide +kernel
theorem dM_unseal_75 : decode cM_unseal 75 = .ok (.iand, 1) := by decide +kernel
theorem dM_unseal_76 : decode cM_unseal 76 = .ok (.istore 6, 2) := by decide +kernel
theorem dM_unseal_78 : decode cM_unseal 78 = .ok (.aload_n 0, 1) := by decide +kernel
theorem dM_unseal_79 : decode cM_unseal 79 = .ok (.iload_n 1, 1) := by decide +kernel
theorem dM_unseal_80 : decode cM_unseal 80 = .ok (.aload_n 0, 1) := by decide +kernel
theorem dM_unseal_81 : decode cM_unseal 81 = .ok (.getfield 7, 3) := by decide +kernel
theorem dM_unseal_84 : decode cM_unseal 84 = .ok (.iload_n 2, 1) := by decide +kernel
theorem dM_unseal_85 : decode cM_unseal 85 = .ok (.baload, 1) := by decide +kernel
theorem dM_unseal_86 : decode cM_unseal 86 = .ok (.ifCond .eq 68, 3) := by decide +kernel
theorem dM_unseal_89 : decode cM_unseal 89 = .ok (.aload_n 0, 1) := by decide +kernel
theorem dM_unseal_90 : decode cM_unseal 90 = .ok (.getfield 7, 3) := by decide +kernel
theorem dM_unseal_93 : decode cM_unseal 93 = .ok (.iload_n 3, 1) := by decide +kernel
theorem dM_unseal_94 : decode cM_unseal 94 = .ok (.baload, 1) := by decide +kernel
theorem dM_unseal_95 : decode cM_unseal 95 = .ok (.ifCond .eq 59, 3) := by decide +kernel
theorem dM_unseal_98 : decode cM_unseal 98 = .ok (.iload 5, 2) := by decide +kernel
theorem dM_unseal_100 : decode cM_unseal 100 = .ok (.bipush 12, 2) := by decide +kernel
theorem dM_unseal_102 : decode cM_unseal 102 = .ok (.if_icmp .ge 52, 3) := by decide +kernel
theorem dM_unseal_105 : decode cM_unseal 105 = .ok (.iload 5, 2) := by decide +kernel
theorem dM_unseal_107 : decode cM_unseal 107 = .ok (.iload 4, 2) := by decide +kernel
theorem dM_unseal_109 : decode cM_unseal 109 = .ok (.if_icmp .ne 45, 3) := by decide +kernel
theorem dM_unseal_112 : decode cM_unseal 112 = .ok (.aload_n 0, 1) := by decide +kernel
theorem dM_unseal_113 : decode cM_unseal 113 = .ok (.iload_n 3, 1) := by decide +kernel
theorem dM_unseal_114 : decode cM_unseal 114 = .ok (.invokevirtual 119, 3) := by decide +kernel
theorem dM_unseal_117 : decode cM_unseal 117 = .ok (.ifCond .eq 37, 3) := by decide +kernel
theorem dM_unseal_120 : decode cM_unseal 120 = .ok (.aload_n 0, 1) := by decide +kernel
theorem dM_unseal_121 : decode cM_unseal 121 = .ok (.iload_n 3, 1) := by decide +kernel
theorem dM_unseal_122 : decode cM_unseal 122 = .ok (.bipush 9, 2) := by decide +kernel
theorem dM_unseal_124 : decode cM_unseal 124 = .ok (.invokevirtual 127, 3) := by decide +kernel
theorem dM_unseal_127 : decode cM_unseal 127 = .ok (.ifCond .eq 27, 3) := by decide +kernel
theorem dM_unseal_130 : decode cM_unseal 130 = .ok (.aload_n 0, 1) := by decide +kernel
theorem dM_unseal_131 : decode cM_unseal 131 = .ok (.getfield 17, 3) := by decide +kernel
theorem dM_unseal_134 : decode cM_unseal 134 = .ok (.iload_n 3, 1) := by decide +kernel
theorem dM_unseal_135 : decode cM_unseal 135 = .ok (.iaload, 1) := by decide +kernel
theorem dM_unseal_136 : decode cM_unseal 136 = .ok (.iload 4, 2) := by decide +kernel
theorem dM_unseal_138 : decode cM_unseal 138 = .ok (.iload 4, 2) := by decide +kernel
theorem dM_unseal_140 : decode cM_unseal 140 = .ok (.invokestatic 52, 3) := by decide +kernel
theorem dM_unseal_143 : decode cM_unseal 143 = .ok (.iconst 1, 1) := by decide +kernel
theorem dM_unseal_144 : decode cM_unseal 144 = .ok (.invokestatic 131, 3) := by decide +kernel
theorem dM_unseal_147 : decode cM_unseal 147 = .ok (.ifCond .eq 7, 3) := by decide +kernel
theorem dM_unseal_150 : decode cM_unseal 150 = .ok (.iconst 1, 1) := by decide +kernel
theorem dM_unseal_151 : decode cM_unseal 151 = .ok (.goto 4, 3) := by decide +kernel
theorem dM_unseal_154 : decode cM_unseal 154 = .ok (.iconst 0, 1) := by decide +kernel
theorem dM_unseal_155 : decode cM_unseal 155 = .ok (.aload_n 0, 1) := by decide +kernel
theorem dM_unseal_156 : decode cM_unseal 156 = .ok (.getfield 13, 3) := by decide +kernel
theorem dM_unseal_159 : decode cM_unseal 159 = .ok (.iload_n 2, 1) := by decide +kernel
theorem dM_unseal_160 : decode cM_unseal 160 = .ok (.iaload, 1) := by decide +kernel
theorem dM_unseal_161 : decode cM_unseal 161 = .ok (.aload_n 0, 1) := by decide +kernel
theorem dM_unseal_162 : decode cM_unseal 162 = .ok (.getfield 17, 3) := by decide +kernel
theorem dM_unseal_165 : decode cM_unseal 165 = .ok (.iload_n 2, 1) := by decide +kernel
theorem dM_unseal_166 : decode cM_unseal 166 = .ok (.iaload, 1) := by decide +kernel
theorem dM_unseal_167 : decode cM_unseal 167 = .ok (.bipush 15, 2) := by decide +kernel
theorem dM_unseal_169 : decode cM_unseal 169 = .ok (.invokestatic 137, 3) := by decide +kernel
theorem dM_unseal_172 : decode cM_unseal 172 = .ok (.iload 6, 2) := by decide +kernel
theorem dM_unseal_174 : decode cM_unseal 174 = .ok (.invokestatic 123, 3) := by decide +kernel
theorem dM_unseal_177 : decode cM_unseal 177 = .ok (.invokevirtual 111, 3) := by decide +kernel
theorem dM_unseal_180 : decode cM_unseal 180 = .ok (.ireturn, 1) := by decide +kernel
theorem dM_gate_0 : decode cM_gate 0 = .ok (.aload_n 0, 1) := by decide +kernel
theorem dM_gate_1 : decode cM_gate 1 = .ok (.iconst 2, 1) := by decide +kernel
theorem dM_gate_2 : decode cM_gate 2 = .ok (.newarray .int, 2) := by decide +kernel
theorem dM_gate_4 : decode cM_gate 4 = .ok (.dup, 1) := by decide +kernel
theorem dM_gate_5 : decode cM_gate 5 = .ok (.iconst 0, 1) := by decide +kernel
theorem dM_gate_6 : decode cM_gate 6 = .ok (.iload_n 1, 1) := by decide +kernel
theorem dM_gate_7 : decode cM_gate 7 = .ok (.iastore, 1) := by decide +kernel
theorem dM_gate_8 : decode cM_gate 8 = .ok (.dup, 1) := by decide +kernel
theorem dM_gate_9 : decode cM_gate 9 = .ok (.iconst 1, 1) := by decide +kernel
theorem dM_gate_10 : decode cM_gate 10 = .ok (.iload_n 2, 1) := by decide +kernel
theorem dM_gate_11 : decode cM_gate 11 = .ok (.iastore, 1) := by decide +kernel
theorem dM_gate_12 : decode cM_gate 12 = .ok (.invokevirtual 115, 3) := by decide +kernel
theorem dM_gate_15 : decode cM_gate 15 = .ok (.ifCond .eq 63, 3) := by decide +kernel
theorem dM_gate_18 : decode cM_gate 18 = .ok (.aload_n 0, 1) := by decide +kernel
theorem dM_gate_19 : decode cM_gate 19 = .ok (.iload_n 1, 1) := by decide +kernel
theorem dM_gate_20 : decode cM_gate 20 = .ok (.aload_n 0, 1) := by decide +kernel
theorem dM_gate_21 : decode cM_gate 21 = .ok (.getfield 7, 3) := by decide +kernel
theorem dM_gate_24 : decode cM_gate 24 = .ok (.iload_n 2, 1) := by decide +kernel
theorem dM_gate_25 : decode cM_gate 25 = .ok (.baload, 1) := by decide +kernel
theorem dM_gate_26 : decode cM_gate 26 = .ok (.ifCond .eq 24, 3) := by decide +kernel
theorem dM_gate_29 : decode cM_gate 29 = .ok (.aload_n 0, 1) := by decide +kernel
theorem dM_gate_30 : decode cM_gate 30 = .ok (.iload_n 2, 1) := by decide +kernel
theorem dM_gate_31 : decode cM_gate 31 = .ok (.invokevirtual 119, 3) := by decide +kernel
theorem dM_gate_34 : decode cM_gate 34 = .ok (.ifCond .eq 16, 3) := by decide +kernel
theorem dM_gate_37 : decode cM_gate 37 = .ok (.aload_n 0, 1) := by decide +kernel
theorem dM_gate_38 : decode cM_gate 38 = .ok (.iload_n 2, 1) := by decide +kernel
theorem dM_gate_39 : decode cM_gate 39 = .ok (.iconst 1, 1) := by decide +kernel
theorem dM_gate_40 : decode cM_gate 40 = .ok (.invokevirtual 127, 3) := by decide +kernel
theorem dM_gate_43 : decode cM_gate 43 = .ok (.ifCond .eq 7, 3) := by decide +kernel
theorem dM_gate_46 : decode cM_gate 46 = .ok (.iconst 1, 1) := by decide +kernel
theorem dM_gate_47 : decode cM_gate 47 = .ok (.goto 4, 3) := by decide +kernel
theorem dM_gate_50 : decode cM_gate 50 = .ok (.iconst 0, 1) := by decide +kernel
theorem dM_gate_51 : decode cM_gate 51 = .ok (.aload_n 0, 1) := by decide +kernel
theorem dM_gate_52 : decode cM_gate 52 = .ok (.getfield 13, 3) := by decide +kernel
theorem dM_gate_55 : decode cM_gate 55 = .ok (.iload_n 2, 1) := by decide +kernel
theorem dM_gate_56 : decode cM_gate 56 = .ok (.iaload, 1) := by decide +kernel
theorem dM_gate_57 : decode cM_gate 57 = .ok (.aload_n 0, 1) := by decide +kernel
theorem dM_gate_58 : decode cM_gate 58 = .ok (.getfield 17, 3) := by decide +kernel
theorem dM_gate_61 : decode cM_gate 61 = .ok (.iload_n 2, 1) := by decide +kernel
theorem dM_gate_62 : decode cM_gate 62 = .ok (.iaload, 1) := by decide +kernel
theorem dM_gate_63 : decode cM_gate 63 = .ok (.bipush 14, 2) := by decide +kernel
theorem dM_gate_65 : decode cM_gate 65 = .ok (.invokestatic 137, 3) := by decide +kernel
theorem dM_gate_68 : decode cM_gate 68 = .ok (.invokevirtual 111, 3) := by decide +kernel
theorem dM_gate_71 : decode cM_gate 71 = .ok (.ifCond .eq 7, 3) := by decide +kernel
theorem dM_gate_74 : decode cM_gate 74 = .ok (.iconst 1, 1) := by decide +kernel
theorem dM_gate_75 : decode cM_gate 75 = .ok (.goto 4, 3) := by decide +kernel
theorem dM_gate_78 : decode cM_gate 78 = .ok (.iconst 0, 1) := by decide +kernel
theorem dM_gate_79 : decode cM_gate 79 = .ok (.ireturn, 1) := by decide +kernel
theorem dM_build_0 : decode cM_build 0 = .ok (.aload_n 0, 1) := by decide +kernel
theorem dM_build_1 : decode cM_build 1 = .ok (.iconst 3, 1) := by decide +kernel
theorem dM_build_2 : decode cM_build 2 = .ok (.newarray .int, 2) := by decide +kernel
theorem dM_build_4 : decode cM_build 4 = .ok (.dup, 1) := by decide +kernel
theorem dM_build_5 : decode cM_build 5 = .ok (.iconst 0, 1) := by decide +kernel
theorem dM_build_6 : decode cM_build 6 = .ok (.iload_n 1, 1) := by decide +kernel
theorem dM_build_7 : decode cM_build 7 = .ok (.iastore, 1) := by decide +kernel
theorem dM_build_8 : decode cM_build 8 = .ok (.dup, 1) := by decide +kernel
theorem dM_build_9 : decode cM_build 9 = .ok (.iconst 1, 1) := by decide +kernel
theorem dM_build_10 : decode cM_build 10 = .ok (.iload_n 2, 1) := by decide +kernel
theorem dM_build_11 : decode cM_build 11 = .ok (.iastore, 1) := by decide +kernel
theorem dM_build_12 : decode cM_build 12 = .ok (.dup, 1) := by decide +kernel
theorem dM_build_13 : decode cM_build 13 = .ok (.iconst 2, 1) := by decide +kernel
theorem dM_build_14 : decode cM_build 14 = .ok (.iload_n 3, 1) := by decide +kernel
theorem dM_build_15 : decode cM_build 15 = .ok (.iastore, 1) := by decide +kernel
theorem dM_build_16 : decode cM_build 16 = .ok (.invokevirtual 115, 3) := by decide +kernel
theorem dM_build_19 : decode cM_build 19 = .ok (.ifCond .ne 5, 3) := by decide +kernel
theorem dM_build_22 : decode cM_build 22 = .ok (.iconst 0, 1) := by decide +kernel
theorem dM_build_23 : decode cM_build 23 = .ok (.ireturn, 1) := by decide +kernel
theorem dM_build_24 : decode cM_build 24 = .ok (.aload_n 0, 1) := by decide +kernel
theorem dM_build_25 : decode cM_build 25 = .ok (.getfield 17, 3) := by decide +kernel
theorem dM_build_28 : decode cM_build 28 = .ok (.iload_n 3, 1) := by decide +kernel
theorem dM_build_29 : decode cM_build 29 = .ok (.iaload, 1) := by decide +kernel
theorem dM_build_30 : decode cM_build 30 = .ok (.istore 4, 2) := by decide +kernel
theorem dM_build_32 : decode cM_build 32 = .ok (.aload_n 0, 1) := by decide +kernel
theorem dM_build_33 : decode cM_build 33 = .ok (.getfield 7, 3) := by decide +kernel
theorem dM_build_36 : decode cM_build 36 = .ok (.iload_n 2, 1) := by decide +kernel
theorem dM_build_37 : decode cM_build 37 = .ok (.baload, 1) := by decide +kernel
theorem dM_build_38 : decode cM_build 38 = .ok (.ifCond .eq 50, 3) := by decide +kernel
theorem dM_build_41 : decode cM_build 41 = .ok (.aload_n 0, 1) := by decide +kernel
theorem dM_build_42 : decode cM_build 42 = .ok (.iload_n 2, 1) := by decide +kernel
theorem dM_build_43 : decode cM_build 43 = .ok (.invokevirtual 119, 3) := by decide +kernel
theorem dM_build_46 : decode cM_build 46 = .ok (.ifCond .eq 42, 3) := by decide +kernel
theorem dM_build_49 : decode cM_build 49 = .ok (.iload 4, 2) := by decide +kernel
theorem dM_build_51 : decode cM_build 51 = .ok (.aload_n 0, 1) := by decide +kernel
theorem dM_build_52 : decode cM_build 52 = .ok (.getfield 13, 3) := by decide +kernel
theorem dM_build_55 : decode cM_build 55 = .ok (.iload_n 3, 1) := by decide +kernel
theorem dM_build_56 : decode cM_build 56 = .ok (.iaload, 1) := by decide +kernel
theorem dM_build_57 : decode cM_build 57 = .ok (.invokestatic 69, 3) := by decide +kernel
theorem dM_build_60 : decode cM_build 60 = .ok (.iload 4, 2) := by decide +kernel
theorem dM_build_62 : decode cM_build 62 = .ok (.aload_n 0, 1) := by decide +kernel
theorem dM_build_63 : decode cM_build 63 = .ok (.getfield 13, 3) := by decide +kernel
theorem dM_build_66 : decode cM_build 66 = .ok (.iload_n 3, 1) := by decide +kernel
theorem dM_build_67 : decode cM_build 67 = .ok (.iaload, 1) := by decide +kernel
theorem dM_build_68 : decode cM_build 68 = .ok (.invokestatic 74, 3) := by decide +kernel
theorem dM_build_71 : decode cM_build 71 = .ok (.lcmp, 1) := by decide +kernel
theorem dM_build_72 : decode cM_build 72 = .ok (.ifCond .gt 16, 3) := by decide +kernel
theorem dM_build_75 : decode cM_build 75 = .ok (.aload_n 0, 1) := by decide +kernel
theorem dM_build_76 : decode cM_build 76 = .ok (.iload_n 3, 1) := by decide +kernel
theorem dM_build_77 : decode cM_build 77 = .ok (.iload_n 2, 1) := by decide +kernel
theorem dM_build_78 : decode cM_build 78 = .ok (.invokevirtual 140, 3) := by decide +kernel
theorem dM_build_81 : decode cM_build 81 = .ok (.ifCond .eq 7, 3) := by decide +kernel
theorem dM_build_84 : decode cM_build 84 = .ok (.iconst 1, 1) := by decide +kernel
theorem dM_build_85 : decode cM_build 85 = .ok (.goto 4, 3) := by decide +kernel
theorem dM_build_88 : decode cM_build 88 = .ok (.iconst 0, 1) := by decide +kernel
theorem dM_build_89 : decode cM_build 89 = .ok (.istore 5, 2) := by decide +kernel
theorem dM_build_91 : decode cM_build 91 = .ok (.aload_n 0, 1) := by decide +kernel
theorem dM_build_92 : decode cM_build 92 = .ok (.iload_n 1, 1) := by decide +kernel
theorem dM_build_93 : decode cM_build 93 = .ok (.iload 5, 2) := by decide +kernel
theorem dM_build_95 : decode cM_build 95 = .ok (.aload_n 0, 1) := by decide +kernel
theorem dM_build_96 : decode cM_build 96 = .ok (.getfield 13, 3) := by decide +kernel
theorem dM_build_99 : decode cM_build 99 = .ok (.iload_n 3, 1) := by decide +kernel
theorem dM_build_100 : decode cM_build 100 = .ok (.iaload, 1) := by decide +kernel
theorem dM_build_101 : decode cM_build 101 = .ok (.iload 4, 2) := by decide +kernel
theorem dM_build_103 : decode cM_build 103 = .ok (.iload 4, 2) := by decide +kernel
theorem dM_build_105 : decode cM_build 105 = .ok (.invokestatic 94, 3) := by decide +kernel
theorem dM_build_108 : decode cM_build 108 = .ok (.bipush 14, 2) := by decide +kernel
theorem dM_build_110 : decode cM_build 110 = .ok (.if_icmp .ne 8, 3) := by decide +kernel
theorem dM_build_113 : decode cM_build 113 = .ok (.bipush 14, 2) := by decide +kernel
theorem dM_build_115 : decode cM_build 115 = .ok (.goto 5, 3) := by decide +kernel
theorem dM_build_118 : decode cM_build 118 = .ok (.bipush 15, 2) := by decide +kernel
theorem dM_build_120 : decode cM_build 120 = .ok (.invokestatic 137, 3) := by decide +kernel
theorem dM_build_123 : decode cM_build 123 = .ok (.invokevirtual 111, 3) := by decide +kernel
theorem dM_build_126 : decode cM_build 126 = .ok (.ireturn, 1) := by decide +kernel
theorem dM_isWithin_0 : decode cM_isWithin 0 = .ok (.aload_n 0, 1) := by decide +kernel
theorem dM_isWithin_1 : decode cM_isWithin 1 = .ok (.getfield 17, 3) := by decide +kernel
theorem dM_isWithin_4 : decode cM_isWithin 4 = .ok (.iload_n 1, 1) := by decide +kernel
theorem dM_isWithin_5 : decode cM_isWithin 5 = .ok (.iaload, 1) := by decide +kernel
theorem dM_isWithin_6 : decode cM_isWithin 6 = .ok (.aload_n 0, 1) := by decide +kernel
theorem dM_isWithin_7 : decode cM_isWithin 7 = .ok (.getfield 13, 3) := by decide +kernel
theorem dM_isWithin_10 : decode cM_isWithin 10 = .ok (.iload_n 1, 1) := by decide +kernel
theorem dM_isWithin_11 : decode cM_isWithin 11 = .ok (.iaload, 1) := by decide +kernel
theorem dM_isWithin_12 : decode cM_isWithin 12 = .ok (.invokestatic 69, 3) := by decide +kernel
theorem dM_isWithin_15 : decode cM_isWithin 15 = .ok (.aload_n 0, 1) := by decide +kernel
theorem dM_isWithin_16 : decode cM_isWithin 16 = .ok (.getfield 17, 3) := by decide +kernel
theorem dM_isWithin_19 : decode cM_isWithin 19 = .ok (.iload_n 2, 1) := by decide +kernel
theorem dM_isWithin_20 : decode cM_isWithin 20 = .ok (.iaload, 1) := by decide +kernel
theorem dM_isWithin_21 : decode cM_isWithin 21 = .ok (.aload_n 0, 1) := by decide +kernel
theorem dM_isWithin_22 : decode cM_isWithin 22 = .ok (.getfield 13, 3) := by decide +kernel
theorem dM_isWithin_25 : decode cM_isWithin 25 = .ok (.iload_n 2, 1) := by decide +kernel
theorem dM_isWithin_26 : decode cM_isWithin 26 = .ok (.iaload, 1) := by decide +kernel
theorem dM_isWithin_27 : decode cM_isWithin 27 = .ok (.invokestatic 69, 3) := by decide +kernel
theorem dM_isWithin_30 : decode cM_isWithin 30 = .ok (.lcmp, 1) := by decide +kernel
theorem dM_isWithin_31 : decode cM_isWithin 31 = .ok (.ifCond .lt 65, 3) := by decide +kernel
theorem dM_isWithin_34 : decode cM_isWithin 34 = .ok (.aload_n 0, 1) := by decide +kernel
theorem dM_isWithin_35 : decode cM_isWithin 35 = .ok (.getfield 17, 3) := by decide +kernel
theorem dM_isWithin_38 : decode cM_isWithin 38 = .ok (.iload_n 1, 1) := by decide +kernel
theorem dM_isWithin_39 : decode cM_isWithin 39 = .ok (.iaload, 1) := by decide +kernel
theorem dM_isWithin_40 : decode cM_isWithin 40 = .ok (.aload_n 0, 1) := by decide +kernel
theorem dM_isWithin_41 : decode cM_isWithin 41 = .ok (.getfield 13, 3) := by decide +kernel
theorem dM_isWithin_44 : decode cM_isWithin 44 = .ok (.iload_n 1, 1) := by decide +kernel
theorem dM_isWithin_45 : decode cM_isWithin 45 = .ok (.iaload, 1) := by decide +kernel
theorem dM_isWithin_46 : decode cM_isWithin 46 = .ok (.invokestatic 74, 3) := by decide +kernel
theorem dM_isWithin_49 : decode cM_isWithin 49 = .ok (.aload_n 0, 1) := by decide +kernel
theorem dM_isWithin_50 : decode cM_isWithin 50 = .ok (.getfield 17, 3) := by decide +kernel
theorem dM_isWithin_53 : decode cM_isWithin 53 = .ok (.iload_n 2, 1) := by decide +kernel
theorem dM_isWithin_54 : decode cM_isWithin 54 = .ok (.iaload, 1) := by decide +kernel
theorem dM_isWithin_55 : decode cM_isWithin 55 = .ok (.aload_n 0, 1) := by decide +kernel
theorem dM_isWithin_56 : decode cM_isWithin 56 = .ok (.getfield 13, 3) := by decide +kernel
theorem dM_isWithin_59 : decode cM_isWithin 59 = .ok (.iload_n 2, 1) := by decide +kernel
theorem dM_isWithin_60 : decode cM_isWithin 60 = .ok (.iaload, 1) := by decide +kernel
theorem dM_isWithin_61 : decode cM_isWithin 61 = .ok (.invokestatic 74, 3) := by decide +kernel
theorem dM_isWithin_64 : decode cM_isWithin 64 = .ok (.lcmp, 1) := by decide +kernel
theorem dM_isWithin_65 : decode cM_isWithin 65 = .ok (.ifCond .gt 31, 3) := by decide +kernel
theorem dM_isWithin_68 : decode cM_isWithin 68 = .ok (.aload_n 0, 1) := by decide +kernel
theorem dM_isWithin_69 : decode cM_isWithin 69 = .ok (.getfield 17, 3) := by decide +kernel
theorem dM_isWithin_72 : decode cM_isWithin 72 = .ok (.iload_n 1, 1) := by decide +kernel
theorem dM_isWithin_73 : decode cM_isWithin 73 = .ok (.iaload, 1) := by decide +kernel
theorem dM_isWithin_74 : decode cM_isWithin 74 = .ok (.invokestatic 97, 3) := by decide +kernel
theorem dM_isWithin_77 : decode cM_isWithin 77 = .ok (.aload_n 0, 1) := by decide +kernel
theorem dM_isWithin_78 : decode cM_isWithin 78 = .ok (.getfield 17, 3) := by decide +kernel
theorem dM_isWithin_81 : decode cM_isWithin 81 = .ok (.iload_n 2, 1) := by decide +kernel
theorem dM_isWithin_82 : decode cM_isWithin 82 = .ok (.iaload, 1) := by decide +kernel
theorem dM_isWithin_83 : decode cM_isWithin 83 = .ok (.invokestatic 97, 3) := by decide +kernel
theorem dM_isWithin_86 : decode cM_isWithin 86 = .ok (.iconst (-1), 1) := by decide +kernel
theorem dM_isWithin_87 : decode cM_isWithin 87 = .ok (.ixor, 1) := by decide +kernel
theorem dM_isWithin_88 : decode cM_isWithin 88 = .ok (.iand, 1) := by decide +kernel
theorem dM_isWithin_89 : decode cM_isWithin 89 = .ok (.ifCond .ne 7, 3) := by decide +kernel
theorem dM_isWithin_92 : decode cM_isWithin 92 = .ok (.iconst 1, 1) := by decide +kernel
theorem dM_isWithin_93 : decode cM_isWithin 93 = .ok (.goto 4, 3) := by decide +kernel
theorem dM_isWithin_96 : decode cM_isWithin 96 = .ok (.iconst 0, 1) := by decide +kernel
theorem dM_isWithin_97 : decode cM_isWithin 97 = .ok (.ireturn, 1) := by decide +kernel
theorem dM_subset_0 : decode cM_subset 0 = .ok (.aload_n 0, 1) := by decide +kernel
theorem dM_subset_1 : decode cM_subset 1 = .ok (.iconst 2, 1) := by decide +kernel
theorem dM_subset_2 : decode cM_subset 2 = .ok (.newarray .int, 2) := by decide +kernel
theorem dM_subset_4 : decode cM_subset 4 = .ok (.dup, 1) := by decide +kernel
theorem dM_subset_5 : decode cM_subset 5 = .ok (.iconst 0, 1) := by decide +kernel
theorem dM_subset_6 : decode cM_subset 6 = .ok (.iload_n 1, 1) := by decide +kernel
theorem dM_subset_7 : decode cM_subset 7 = .ok (.iastore, 1) := by decide +kernel
theorem dM_subset_8 : decode cM_subset 8 = .ok (.dup, 1) := by decide +kernel
theorem dM_subset_9 : decode cM_subset 9 = .ok (.iconst 1, 1) := by decide +kernel
theorem dM_subset_10 : decode cM_subset 10 = .ok (.iload_n 2, 1) := by decide +kernel
theorem dM_subset_11 : decode cM_subset 11 = .ok (.iastore, 1) := by decide +kernel
theorem dM_subset_12 : decode cM_subset 12 = .ok (.invokevirtual 115, 3) := by decide +kernel
theorem dM_subset_15 : decode cM_subset 15 = .ok (.ifCond .eq 31, 3) := by decide +kernel
theorem dM_subset_18 : decode cM_subset 18 = .ok (.aload_n 0, 1) := by decide +kernel
theorem dM_subset_19 : decode cM_subset 19 = .ok (.getfield 7, 3) := by decide +kernel
theorem dM_subset_22 : decode cM_subset 22 = .ok (.iload_n 1, 1) := by decide +kernel
theorem dM_subset_23 : decode cM_subset 23 = .ok (.baload, 1) := by decide +kernel
theorem dM_subset_24 : decode cM_subset 24 = .ok (.aload_n 0, 1) := by decide +kernel
theorem dM_subset_25 : decode cM_subset 25 = .ok (.getfield 7, 3) := by decide +kernel
theorem dM_subset_28 : decode cM_subset 28 = .ok (.iload_n 2, 1) := by decide +kernel
theorem dM_subset_29 : decode cM_subset 29 = .ok (.baload, 1) := by decide +kernel
theorem dM_subset_30 : decode cM_subset 30 = .ok (.if_icmp .ne 16, 3) := by decide +kernel
theorem dM_subset_33 : decode cM_subset 33 = .ok (.aload_n 0, 1) := by decide +kernel
theorem dM_subset_34 : decode cM_subset 34 = .ok (.iload_n 2, 1) := by decide +kernel
theorem dM_subset_35 : decode cM_subset 35 = .ok (.iload_n 1, 1) := by decide +kernel
theorem dM_subset_36 : decode cM_subset 36 = .ok (.invokevirtual 140, 3) := by decide +kernel
theorem dM_subset_39 : decode cM_subset 39 = .ok (.ifCond .eq 7, 3) := by decide +kernel
theorem dM_subset_42 : decode cM_subset 42 = .ok (.iconst 1, 1) := by decide +kernel
theorem dM_subset_43 : decode cM_subset 43 = .ok (.goto 4, 3) := by decide +kernel
theorem dM_subset_46 : decode cM_subset 46 = .ok (.iconst 0, 1) := by decide +kernel
theorem dM_subset_47 : decode cM_subset 47 = .ok (.ireturn, 1) := by decide +kernel
theorem dM_told_0 : decode cM_told 0 = .ok (.iload_n 1, 1) := by decide +kernel
theorem dM_told_1 : decode cM_told 1 = .ok (.ifCond .lt 9, 3) := by decide +kernel
theorem dM_told_4 : decode cM_told 4 = .ok (.iload_n 1, 1) := by decide +kernel
theorem dM_told_5 : decode cM_told 5 = .ok (.bipush 31, 2) := by decide +kernel
theorem dM_told_7 : decode cM_told 7 = .ok (.if_icmp .le 10, 3) := by decide +kernel
theorem dM_told_10 : decode cM_told 10 = .ok (.aload_n 0, 1) := by decide +kernel
theorem dM_told_11 : decode cM_told 11 = .ok (.iconst 1, 1) := by decide +kernel
theorem dM_told_12 : decode cM_told 12 = .ok (.invokevirtual 100, 3) := by decide +kernel
theorem dM_told_15 : decode cM_told 15 = .ok (.i2l, 1) := by decide +kernel
theorem dM_told_16 : decode cM_told 16 = .ok (.lreturn, 1) := by decide +kernel
theorem dM_told_17 : decode cM_told 17 = .ok (.iload_n 2, 1) := by decide +kernel
theorem dM_told_18 : decode cM_told 18 = .ok (.ifCond .lt 9, 3) := by decide +kernel
theorem dM_told_21 : decode cM_told 21 = .ok (.iload_n 2, 1) := by decide +kernel
theorem dM_told_22 : decode cM_told 22 = .ok (.bipush 7, 2) := by decide +kernel
theorem dM_told_24 : decode cM_told 24 = .ok (.if_icmp .le 10, 3) := by decide +kernel
theorem dM_told_27 : decode cM_told 27 = .ok (.aload_n 0, 1) := by decide +kernel
theorem dM_told_28 : decode cM_told 28 = .ok (.iconst 2, 1) := by decide +kernel
theorem dM_told_29 : decode cM_told 29 = .ok (.invokevirtual 100, 3) := by decide +kernel
theorem dM_told_32 : decode cM_told 32 = .ok (.i2l, 1) := by decide +kernel
theorem dM_told_33 : decode cM_told 33 = .ok (.lreturn, 1) := by decide +kernel
theorem dM_told_34 : decode cM_told 34 = .ok (.aload_n 0, 1) := by decide +kernel
theorem dM_told_35 : decode cM_told 35 = .ok (.iconst 0, 1) := by decide +kernel
theorem dM_told_36 : decode cM_told 36 = .ok (.putfield 31, 3) := by decide +kernel
theorem dM_told_39 : decode cM_told 39 = .ok (.aload_n 0, 1) := by decide +kernel
theorem dM_told_40 : decode cM_told 40 = .ok (.getfield 13, 3) := by decide +kernel
theorem dM_told_43 : decode cM_told 43 = .ok (.iload_n 1, 1) := by decide +kernel
theorem dM_told_44 : decode cM_told 44 = .ok (.iaload, 1) := by decide +kernel
theorem dM_told_45 : decode cM_told 45 = .ok (.istore_n 3, 1) := by decide +kernel
theorem dM_told_46 : decode cM_told 46 = .ok (.aload_n 0, 1) := by decide +kernel
theorem dM_told_47 : decode cM_told 47 = .ok (.getfield 17, 3) := by decide +kernel
theorem dM_told_50 : decode cM_told 50 = .ok (.iload_n 1, 1) := by decide +kernel
theorem dM_told_51 : decode cM_told 51 = .ok (.iaload, 1) := by decide +kernel
theorem dM_told_52 : decode cM_told 52 = .ok (.istore 4, 2) := by decide +kernel
theorem dM_told_54 : decode cM_told 54 = .ok (.iload_n 2, 1) := by decide +kernel
theorem dM_told_55 : decode cM_told 55 = .ok (.tableswitch 101 0 6 #[41, 56, 59, 66, 73, 87, 94], 41) := by decide +kernel
theorem dM_told_96 : decode cM_told 96 = .ok (.aload_n 0, 1) := by decide +kernel
theorem dM_told_97 : decode cM_told 97 = .ok (.getfield 7, 3) := by decide +kernel
theorem dM_told_100 : decode cM_told 100 = .ok (.iload_n 1, 1) := by decide +kernel
theorem dM_told_101 : decode cM_told 101 = .ok (.baload, 1) := by decide +kernel
theorem dM_told_102 : decode cM_told 102 = .ok (.ifCond .eq 7, 3) := by decide +kernel
theorem dM_told_105 : decode cM_told 105 = .ok (.lconst 1, 1) := by decide +kernel
theorem dM_told_106 : decode cM_told 106 = .ok (.goto 4, 3) := by decide +kernel
theorem dM_told_109 : decode cM_told 109 = .ok (.lconst 0, 1) := by decide +kernel
theorem dM_told_110 : decode cM_told 110 = .ok (.lreturn, 1) := by decide +kernel
theorem dM_told_111 : decode cM_told 111 = .ok (.iload_n 3, 1) := by decide +kernel
theorem dM_told_112 : decode cM_told 112 = .ok (.i2l, 1) := by decide +kernel
theorem dM_told_113 : decode cM_told 113 = .ok (.lreturn, 1) := by decide +kernel
theorem dM_told_114 : decode cM_told 114 = .ok (.iload 4, 2) := by decide +kernel
theorem dM_told_116 : decode cM_told 116 = .ok (.ldc 30, 2) := by decide +kernel
theorem dM_told_118 : decode cM_told 118 = .ok (.ixor, 1) := by decide +kernel
theorem dM_told_119 : decode cM_told 119 = .ok (.i2l, 1) := by decide +kernel
theorem dM_told_120 : decode cM_told 120 = .ok (.lreturn, 1) := by decide +kernel
theorem dM_told_121 : decode cM_told 121 = .ok (.iload 4, 2) := by decide +kernel
theorem dM_told_123 : decode cM_told 123 = .ok (.iload_n 3, 1) := by decide +kernel
theorem dM_told_124 : decode cM_told 124 = .ok (.invokestatic 69, 3) := by decide +kernel
theorem dM_told_127 : decode cM_told 127 = .ok (.lreturn, 1) := by decide +kernel
theorem dM_told_128 : decode cM_told 128 = .ok (.iload 4, 2) := by decide +kernel
theorem dM_told_130 : decode cM_told 130 = .ok (.iload_n 3, 1) := by decide +kernel
theorem dM_told_131 : decode cM_told 131 = .ok (.invokestatic 74, 3) := by decide +kernel
theorem dM_told_134 : decode cM_told 134 = .ok (.iload 4, 2) := by decide +kernel
theorem dM_told_136 : decode cM_told 136 = .ok (.iload_n 3, 1) := by decide +kernel
theorem dM_told_137 : decode cM_told 137 = .ok (.invokestatic 69, 3) := by decide +kernel
theorem dM_told_140 : decode cM_told 140 = .ok (.lsub, 1) := by decide +kernel
theorem dM_told_141 : decode cM_told 141 = .ok (.lreturn, 1) := by decide +kernel
theorem dM_told_142 : decode cM_told 142 = .ok (.iload 4, 2) := by decide +kernel
theorem dM_told_144 : decode cM_told 144 = .ok (.invokestatic 97, 3) := by decide +kernel
theorem dM_told_147 : decode cM_told 147 = .ok (.i2l, 1) := by decide +kernel
theorem dM_told_148 : decode cM_told 148 = .ok (.lreturn, 1) := by decide +kernel
theorem dM_told_149 : decode cM_told 149 = .ok (.iload 4, 2) := by decide +kernel
theorem dM_told_151 : decode cM_told 151 = .ok (.invokestatic 94, 3) := by decide +kernel
theorem dM_told_154 : decode cM_told 154 = .ok (.i2l, 1) := by decide +kernel
theorem dM_told_155 : decode cM_told 155 = .ok (.lreturn, 1) := by decide +kernel
theorem dM_told_156 : decode cM_told 156 = .ok (.iload_n 3, 1) := by decide +kernel
theorem dM_told_157 : decode cM_told 157 = .ok (.invokestatic 52, 3) := by decide +kernel
theorem dM_told_160 : decode cM_told 160 = .ok (.iload 4, 2) := by decide +kernel
theorem dM_told_162 : decode cM_told 162 = .ok (.iload_n 3, 1) := by decide +kernel
theorem dM_told_163 : decode cM_told 163 = .ok (.invokestatic 69, 3) := by decide +kernel
theorem dM_told_166 : decode cM_told 166 = .ok (.lsub, 1) := by decide +kernel
theorem dM_told_167 : decode cM_told 167 = .ok (.lreturn, 1) := by decide +kernel
theorem dM_reaches_0 : decode cM_reaches 0 = .ok (.aload_n 0, 1) := by decide +kernel
theorem dM_reaches_1 : decode cM_reaches 1 = .ok (.iconst 1, 1) := by decide +kernel
theorem dM_reaches_2 : decode cM_reaches 2 = .ok (.newarray .int, 2) := by decide +kernel
theorem dM_reaches_4 : decode cM_reaches 4 = .ok (.dup, 1) := by decide +kernel
theorem dM_reaches_5 : decode cM_reaches 5 = .ok (.iconst 0, 1) := by decide +kernel
theorem dM_reaches_6 : decode cM_reaches 6 = .ok (.iload_n 1, 1) := by decide +kernel
theorem dM_reaches_7 : decode cM_reaches 7 = .ok (.iastore, 1) := by decide +kernel
theorem dM_reaches_8 : decode cM_reaches 8 = .ok (.invokevirtual 115, 3) := by decide +kernel
theorem dM_reaches_11 : decode cM_reaches 11 = .ok (.ifCond .ne 5, 3) := by decide +kernel
theorem dM_reaches_14 : decode cM_reaches 14 = .ok (.iconst 0, 1) := by decide +kernel
theorem dM_reaches_15 : decode cM_reaches 15 = .ok (.ireturn, 1) := by decide +kernel
theorem dM_reaches_16 : decode cM_reaches 16 = .ok (.aload_n 0, 1) := by decide +kernel
theorem dM_reaches_17 : decode cM_reaches 17 = .ok (.iload_n 3, 1) := by decide +kernel
theorem dM_reaches_18 : decode cM_reaches 18 = .ok (.ifCond .lt 10, 3) := by decide +kernel
theorem dM_reaches_21 : decode cM_reaches 21 = .ok (.iload_n 3, 1) := by decide +kernel
theorem dM_reaches_22 : decode cM_reaches 22 = .ok (.sipush 4096, 3) := by decide +kernel
theorem dM_reaches_25 : decode cM_reaches 25 = .ok (.if_icmp .le 7, 3) := by decide +kernel
theorem dM_reaches_28 : decode cM_reaches 28 = .ok (.iconst 2, 1) := by decide +kernel
theorem dM_reaches_29 : decode cM_reaches 29 = .ok (.goto 4, 3) := by decide +kernel
theorem dM_reaches_32 : decode cM_reaches 32 = .ok (.iconst 0, 1) := by decide +kernel
theorem dM_reaches_33 : decode cM_reaches 33 = .ok (.putfield 31, 3) := by decide +kernel
theorem dM_reaches_36 : decode cM_reaches 36 = .ok (.aload_n 0, 1) := by decide +kernel
theorem dM_reaches_37 : decode cM_reaches 37 = .ok (.getfield 31, 3) := by decide +kernel
theorem dM_reaches_40 : decode cM_reaches 40 = .ok (.ifCond .ne 30, 3) := by decide +kernel
theorem dM_reaches_43 : decode cM_reaches 43 = .ok (.aload_n 0, 1) := by decide +kernel
theorem dM_reaches_44 : decode cM_reaches 44 = .ok (.getfield 17, 3) := by decide +kernel
theorem dM_reaches_47 : decode cM_reaches 47 = .ok (.iload_n 1, 1) := by decide +kernel
theorem dM_reaches_48 : decode cM_reaches 48 = .ok (.iaload, 1) := by decide +kernel
theorem dM_reaches_49 : decode cM_reaches 49 = .ok (.aload_n 0, 1) := by decide +kernel
theorem dM_reaches_50 : decode cM_reaches 50 = .ok (.getfield 13, 3) := by decide +kernel
theorem dM_reaches_53 : decode cM_reaches 53 = .ok (.iload_n 1, 1) := by decide +kernel
theorem dM_reaches_54 : decode cM_reaches 54 = .ok (.iaload, 1) := by decide +kernel
theorem dM_reaches_55 : decode cM_reaches 55 = .ok (.iload_n 2, 1) := by decide +kernel
theorem dM_reaches_56 : decode cM_reaches 56 = .ok (.invokestatic 52, 3) := by decide +kernel
theorem dM_reaches_59 : decode cM_reaches 59 = .ok (.iload_n 3, 1) := by decide +kernel
theorem dM_reaches_60 : decode cM_reaches 60 = .ok (.invokestatic 131, 3) := by decide +kernel
theorem dM_reaches_63 : decode cM_reaches 63 = .ok (.ifCond .eq 7, 3) := by decide +kernel
theorem dM_reaches_66 : decode cM_reaches 66 = .ok (.iconst 1, 1) := by decide +kernel
theorem dM_reaches_67 : decode cM_reaches 67 = .ok (.goto 4, 3) := by decide +kernel
theorem dM_reaches_70 : decode cM_reaches 70 = .ok (.iconst 0, 1) := by decide +kernel
theorem dM_reaches_71 : decode cM_reaches 71 = .ok (.ireturn, 1) := by decide +kernel
theorem dM_packI_0 : decode cM_packI 0 = .ok (.lload_n 2, 1) := by decide +kernel
theorem dM_packI_1 : decode cM_packI 1 = .ok (.lconst 0, 1) := by decide +kernel
theorem dM_packI_2 : decode cM_packI 2 = .ok (.lcmp, 1) := by decide +kernel
theorem dM_packI_3 : decode cM_packI 3 = .ok (.ifCond .lt 24, 3) := by decide +kernel
theorem dM_packI_6 : decode cM_packI 6 = .ok (.lload_n 2, 1) := by decide +kernel
theorem dM_packI_7 : decode cM_packI 7 = .ok (.ldc2_w 72, 3) := by decide +kernel
theorem dM_packI_10 : decode cM_packI 10 = .ok (.lcmp, 1) := by decide +kernel
theorem dM_packI_11 : decode cM_packI 11 = .ok (.ifCond .gt 16, 3) := by decide +kernel
theorem dM_packI_14 : decode cM_packI 14 = .ok (.iload_n 1, 1) := by decide +kernel
theorem dM_packI_15 : decode cM_packI 15 = .ok (.invokestatic 52, 3) := by decide +kernel
theorem dM_packI_18 : decode cM_packI 18 = .ok (.lload_n 2, 1) := by decide +kernel
theorem dM_packI_19 : decode cM_packI 19 = .ok (.ladd, 1) := by decide +kernel
theorem dM_packI_20 : decode cM_packI 20 = .ok (.ldc2_w 72, 3) := by decide +kernel
theorem dM_packI_23 : decode cM_packI 23 = .ok (.lcmp, 1) := by decide +kernel
theorem dM_packI_24 : decode cM_packI 24 = .ok (.ifCond .le 9, 3) := by decide +kernel
theorem dM_packI_27 : decode cM_packI 27 = .ok (.aload_n 0, 1) := by decide +kernel
theorem dM_packI_28 : decode cM_packI 28 = .ok (.iconst 1, 1) := by decide +kernel
theorem dM_packI_29 : decode cM_packI 29 = .ok (.invokevirtual 100, 3) := by decide +kernel
theorem dM_packI_32 : decode cM_packI 32 = .ok (.ireturn, 1) := by decide +kernel
theorem dM_packI_33 : decode cM_packI 33 = .ok (.aload_n 0, 1) := by decide +kernel
theorem dM_packI_34 : decode cM_packI 34 = .ok (.iconst 0, 1) := by decide +kernel
theorem dM_packI_35 : decode cM_packI 35 = .ok (.putfield 31, 3) := by decide +kernel
theorem dM_packI_38 : decode cM_packI 38 = .ok (.aload_n 0, 1) := by decide +kernel
theorem dM_packI_39 : decode cM_packI 39 = .ok (.iload_n 1, 1) := by decide +kernel
theorem dM_packI_40 : decode cM_packI 40 = .ok (.invokestatic 52, 3) := by decide +kernel
theorem dM_packI_43 : decode cM_packI 43 = .ok (.iload_n 1, 1) := by decide +kernel
theorem dM_packI_44 : decode cM_packI 44 = .ok (.invokestatic 52, 3) := by decide +kernel
theorem dM_packI_47 : decode cM_packI 47 = .ok (.lload_n 2, 1) := by decide +kernel
theorem dM_packI_48 : decode cM_packI 48 = .ok (.ladd, 1) := by decide +kernel
theorem dM_packI_49 : decode cM_packI 49 = .ok (.invokevirtual 106, 3) := by decide +kernel
theorem dM_packI_52 : decode cM_packI 52 = .ok (.aload_n 0, 1) := by decide +kernel
theorem dM_packI_53 : decode cM_packI 53 = .ok (.getfield 81, 3) := by decide +kernel
theorem dM_packI_56 : decode cM_packI 56 = .ok (.aload_n 0, 1) := by decide +kernel
theorem dM_packI_57 : decode cM_packI 57 = .ok (.getfield 84, 3) := by decide +kernel
theorem dM_packI_60 : decode cM_packI 60 = .ok (.ifCond .eq 8, 3) := by decide +kernel
theorem dM_packI_63 : decode cM_packI 63 = .ok (.ldc 143, 2) := by decide +kernel
theorem dM_packI_65 : decode cM_packI 65 = .ok (.goto 4, 3) := by decide +kernel
theorem dM_packI_68 : decode cM_packI 68 = .ok (.iconst 0, 1) := by decide +kernel
theorem dM_packI_69 : decode cM_packI 69 = .ok (.ior, 1) := by decide +kernel
theorem dM_packI_70 : decode cM_packI 70 = .ok (.ireturn, 1) := by decide +kernel
theorem dM_bound_0 : decode cM_bound 0 = .ok (.aload_n 0, 1) := by decide +kernel
theorem dM_bound_1 : decode cM_bound 1 = .ok (.iconst 0, 1) := by decide +kernel
theorem dM_bound_2 : decode cM_bound 2 = .ok (.putfield 31, 3) := by decide +kernel
theorem dM_bound_5 : decode cM_bound 5 = .ok (.iload_n 3, 1) := by decide +kernel
theorem dM_bound_6 : decode cM_bound 6 = .ok (.ifCond .eq 15, 3) := by decide +kernel
theorem dM_bound_9 : decode cM_bound 9 = .ok (.iload_n 1, 1) := by decide +kernel
theorem dM_bound_10 : decode cM_bound 10 = .ok (.sipush 32767, 3) := by decide +kernel
theorem dM_bound_13 : decode cM_bound 13 = .ok (.iand, 1) := by decide +kernel
theorem dM_bound_14 : decode cM_bound 14 = .ok (.iload_n 2, 1) := by decide +kernel
theorem dM_bound_15 : decode cM_bound 15 = .ok (.invokestatic 74, 3) := by decide +kernel
theorem dM_bound_18 : decode cM_bound 18 = .ok (.goto 12, 3) := by decide +kernel
theorem dM_bound_21 : decode cM_bound 21 = .ok (.iload_n 1, 1) := by decide +kernel
theorem dM_bound_22 : decode cM_bound 22 = .ok (.sipush 32767, 3) := by decide +kernel
theorem dM_bound_25 : decode cM_bound 25 = .ok (.iand, 1) := by decide +kernel
theorem dM_bound_26 : decode cM_bound 26 = .ok (.iload_n 2, 1) := by decide +kernel
theorem dM_bound_27 : decode cM_bound 27 = .ok (.invokestatic 69, 3) := by decide +kernel
theorem dM_bound_30 : decode cM_bound 30 = .ok (.lreturn, 1) := by decide +kernel
theorem dM_rounded_0 : decode cM_rounded 0 = .ok (.lload_n 1, 1) := by decide +kernel
theorem dM_rounded_1 : decode cM_rounded 1 = .ok (.lconst 0, 1) := by decide +kernel
theorem dM_rounded_2 : decode cM_rounded 2 = .ok (.lcmp, 1) := by decide +kernel
theorem dM_rounded_3 : decode cM_rounded 3 = .ok (.ifCond .lt 11, 3) := by decide +kernel
theorem dM_rounded_6 : decode cM_rounded 6 = .ok (.lload_n 1, 1) := by decide +kernel
theorem dM_rounded_7 : decode cM_rounded 7 = .ok (.ldc2_w 72, 3) := by decide +kernel
theorem dM_rounded_10 : decode cM_rounded 10 = .ok (.lcmp, 1) := by decide +kernel
theorem dM_rounded_11 : decode cM_rounded 11 = .ok (.ifCond .le 10, 3) := by decide +kernel
theorem dM_rounded_14 : decode cM_rounded 14 = .ok (.aload_n 0, 1) := by decide +kernel
theorem dM_rounded_15 : decode cM_rounded 15 = .ok (.iconst 1, 1) := by decide +kernel
theorem dM_rounded_16 : decode cM_rounded 16 = .ok (.invokevirtual 100, 3) := by decide +kernel
theorem dM_rounded_19 : decode cM_rounded 19 = .ok (.i2l, 1) := by decide +kernel
theorem dM_rounded_20 : decode cM_rounded 20 = .ok (.lreturn, 1) := by decide +kernel
theorem dM_rounded_21 : decode cM_rounded 21 = .ok (.aload_n 0, 1) := by decide +kernel
theorem dM_rounded_22 : decode cM_rounded 22 = .ok (.iconst 0, 1) := by decide +kernel
theorem dM_rounded_23 : decode cM_rounded 23 = .ok (.putfield 31, 3) := by decide +kernel
theorem dM_rounded_26 : decode cM_rounded 26 = .ok (.aload_n 0, 1) := by decide +kernel
theorem dM_rounded_27 : decode cM_rounded 27 = .ok (.iconst 0, 1) := by decide +kernel
theorem dM_rounded_28 : decode cM_rounded 28 = .ok (.lload_n 1, 1) := by decide +kernel
theorem dM_rounded_29 : decode cM_rounded 29 = .ok (.invokevirtual 144, 3) := by decide +kernel
theorem dM_rounded_32 : decode cM_rounded 32 = .ok (.pop, 1) := by decide +kernel
theorem dM_rounded_33 : decode cM_rounded 33 = .ok (.iload_n 3, 1) := by decide +kernel
theorem dM_rounded_34 : decode cM_rounded 34 = .ok (.ifCond .ne 10, 3) := by decide +kernel
theorem dM_rounded_37 : decode cM_rounded 37 = .ok (.aload_n 0, 1) := by decide +kernel
theorem dM_rounded_38 : decode cM_rounded 38 = .ok (.getfield 88, 3) := by decide +kernel
theorem dM_rounded_41 : decode cM_rounded 41 = .ok (.goto 28, 3) := by decide +kernel
theorem dM_rounded_44 : decode cM_rounded 44 = .ok (.aload_n 0, 1) := by decide +kernel
theorem dM_rounded_45 : decode cM_rounded 45 = .ok (.getfield 81, 3) := by decide +kernel
theorem dM_rounded_48 : decode cM_rounded 48 = .ok (.bipush 14, 2) := by decide +kernel
theorem dM_rounded_50 : decode cM_rounded 50 = .ok (.ishr, 1) := by decide +kernel
theorem dM_rounded_51 : decode cM_rounded 51 = .ok (.ifCond .ne 7, 3) := by decide +kernel
theorem dM_rounded_54 : decode cM_rounded 54 = .ok (.lconst 1, 1) := by decide +kernel
theorem dM_rounded_55 : decode cM_rounded 55 = .ok (.goto 14, 3) := by decide +kernel
theorem dM_rounded_58 : decode cM_rounded 58 = .ok (.lconst 1, 1) := by decide +kernel
theorem dM_rounded_59 : decode cM_rounded 59 = .ok (.aload_n 0, 1) := by decide +kernel
theorem dM_rounded_60 : decode cM_rounded 60 = .ok (.getfield 81, 3) := by decide +kernel
theorem dM_rounded_63 : decode cM_rounded 63 = .ok (.invokestatic 49, 3) := by decide +kernel
theorem dM_rounded_66 : decode cM_rounded 66 = .ok (.iconst 3, 1) := by decide +kernel
theorem dM_rounded_67 : decode cM_rounded 67 = .ok (.iadd, 1) := by decide +kernel
theorem dM_rounded_68 : decode cM_rounded 68 = .ok (.lshl, 1) := by decide +kernel
theorem dM_rounded_69 : decode cM_rounded 69 = .ok (.lreturn, 1) := by decide +kernel
theorem dM_grown_0 : decode cM_grown 0 = .ok (.aload_n 0, 1) := by decide +kernel
theorem dM_grown_1 : decode cM_grown 1 = .ok (.iconst 0, 1) := by decide +kernel
theorem dM_grown_2 : decode cM_grown 2 = .ok (.putfield 31, 3) := by decide +kernel
theorem dM_grown_5 : decode cM_grown 5 = .ok (.iconst 0, 1) := by decide +kernel
theorem dM_grown_6 : decode cM_grown 6 = .ok (.istore_n 1, 1) := by decide +kernel
theorem dM_grown_7 : decode cM_grown 7 = .ok (.iconst 0, 1) := by decide +kernel
theorem dM_grown_8 : decode cM_grown 8 = .ok (.istore_n 2, 1) := by decide +kernel
theorem dM_grown_9 : decode cM_grown 9 = .ok (.iload_n 2, 1) := by decide +kernel
theorem dM_grown_10 : decode cM_grown 10 = .ok (.bipush 32, 2) := by decide +kernel
theorem dM_grown_12 : decode cM_grown 12 = .ok (.if_icmp .ge 133, 3) := by decide +kernel
theorem dM_grown_15 : decode cM_grown 15 = .ok (.aload_n 0, 1) := by decide +kernel
theorem dM_grown_16 : decode cM_grown 16 = .ok (.getfield 7, 3) := by decide +kernel
theorem dM_grown_19 : decode cM_grown 19 = .ok (.iload_n 2, 1) := by decide +kernel
theorem dM_grown_20 : decode cM_grown 20 = .ok (.baload, 1) := by decide +kernel
theorem dM_grown_21 : decode cM_grown 21 = .ok (.ifCond .ne 7, 3) := by decide +kernel
theorem dM_grown_24 : decode cM_grown 24 = .ok (.iconst 1, 1) := by decide +kernel
theorem dM_grown_25 : decode cM_grown 25 = .ok (.goto 4, 3) := by decide +kernel
theorem dM_grown_28 : decode cM_grown 28 = .ok (.iconst 0, 1) := by decide +kernel
theorem dM_grown_29 : decode cM_grown 29 = .ok (.istore_n 3, 1) := by decide +kernel
theorem dM_grown_30 : decode cM_grown 30 = .ok (.iconst 0, 1) := by decide +kernel
theorem dM_grown_31 : decode cM_grown 31 = .ok (.istore 4, 2) := by decide +kernel
theorem dM_grown_33 : decode cM_grown 33 = .ok (.iload 4, 2) := by decide +kernel
theorem dM_grown_35 : decode cM_grown 35 = .ok (.aload_n 0, 1) := by decide +kernel
theorem dM_grown_36 : decode cM_grown 36 = .ok (.getfield 103, 3) := by decide +kernel
theorem dM_grown_39 : decode cM_grown 39 = .ok (.if_icmp .ge 93, 3) := by decide +kernel
theorem dM_grown_42 : decode cM_grown 42 = .ok (.iload_n 3, 1) := by decide +kernel
theorem dM_grown_43 : decode cM_grown 43 = .ok (.ifCond .ne 77, 3) := by decide +kernel
theorem dM_grown_46 : decode cM_grown 46 = .ok (.aload_n 0, 1) := by decide +kernel
theorem dM_grown_47 : decode cM_grown 47 = .ok (.getfield 17, 3) := by decide +kernel
theorem dM_grown_50 : decode cM_grown 50 = .ok (.iload_n 2, 1) := by decide +kernel
theorem dM_grown_51 : decode cM_grown 51 = .ok (.iaload, 1) := by decide +kernel
theorem dM_grown_52 : decode cM_grown 52 = .ok (.aload_n 0, 1) := by decide +kernel
theorem dM_grown_53 : decode cM_grown 53 = .ok (.getfield 13, 3) := by decide +kernel
theorem dM_grown_56 : decode cM_grown 56 = .ok (.iload_n 2, 1) := by decide +kernel
theorem dM_grown_57 : decode cM_grown 57 = .ok (.iaload, 1) := by decide +kernel
theorem dM_grown_58 : decode cM_grown 58 = .ok (.invokestatic 69, 3) := by decide +kernel
theorem dM_grown_61 : decode cM_grown 61 = .ok (.aload_n 0, 1) := by decide +kernel
theorem dM_grown_62 : decode cM_grown 62 = .ok (.getfield 20, 3) := by decide +kernel
theorem dM_grown_65 : decode cM_grown 65 = .ok (.iload 4, 2) := by decide +kernel
theorem dM_grown_67 : decode cM_grown 67 = .ok (.laload, 1) := by decide +kernel
theorem dM_grown_68 : decode cM_grown 68 = .ok (.lcmp, 1) := by decide +kernel
theorem dM_grown_69 : decode cM_grown 69 = .ok (.ifCond .lt 55, 3) := by decide +kernel
theorem dM_grown_72 : decode cM_grown 72 = .ok (.aload_n 0, 1) := by decide +kernel
theorem dM_grown_73 : decode cM_grown 73 = .ok (.getfield 17, 3) := by decide +kernel
theorem dM_grown_76 : decode cM_grown 76 = .ok (.iload_n 2, 1) := by decide +kernel
theorem dM_grown_77 : decode cM_grown 77 = .ok (.iaload, 1) := by decide +kernel
theorem dM_grown_78 : decode cM_grown 78 = .ok (.aload_n 0, 1) := by decide +kernel
theorem dM_grown_79 : decode cM_grown 79 = .ok (.getfield 13, 3) := by decide +kernel
theorem dM_grown_82 : decode cM_grown 82 = .ok (.iload_n 2, 1) := by decide +kernel
theorem dM_grown_83 : decode cM_grown 83 = .ok (.iaload, 1) := by decide +kernel
theorem dM_grown_84 : decode cM_grown 84 = .ok (.invokestatic 74, 3) := by decide +kernel
theorem dM_grown_87 : decode cM_grown 87 = .ok (.aload_n 0, 1) := by decide +kernel
theorem dM_grown_88 : decode cM_grown 88 = .ok (.getfield 24, 3) := by decide +kernel
theorem dM_grown_91 : decode cM_grown 91 = .ok (.iload 4, 2) := by decide +kernel
theorem dM_grown_93 : decode cM_grown 93 = .ok (.laload, 1) := by decide +kernel
theorem dM_grown_94 : decode cM_grown 94 = .ok (.lcmp, 1) := by decide +kernel
theorem dM_grown_95 : decode cM_grown 95 = .ok (.ifCond .gt 29, 3) := by decide +kernel
theorem dM_grown_98 : decode cM_grown 98 = .ok (.aload_n 0, 1) := by decide +kernel
theorem dM_grown_99 : decode cM_grown 99 = .ok (.getfield 17, 3) := by decide +kernel
theorem dM_grown_102 : decode cM_grown 102 = .ok (.iload_n 2, 1) := by decide +kernel
theorem dM_grown_103 : decode cM_grown 103 = .ok (.iaload, 1) := by decide +kernel
theorem dM_grown_104 : decode cM_grown 104 = .ok (.invokestatic 97, 3) := by decide +kernel
theorem dM_grown_107 : decode cM_grown 107 = .ok (.aload_n 0, 1) := by decide +kernel
theorem dM_grown_108 : decode cM_grown 108 = .ok (.getfield 27, 3) := by decide +kernel
theorem dM_grown_111 : decode cM_grown 111 = .ok (.iload 4, 2) := by decide +kernel
theorem dM_grown_113 : decode cM_grown 113 = .ok (.iaload, 1) := by decide +kernel
theorem dM_grown_114 : decode cM_grown 114 = .ok (.iconst (-1), 1) := by decide +kernel
theorem dM_grown_115 : decode cM_grown 115 = .ok (.ixor, 1) := by decide +kernel
theorem dM_grown_116 : decode cM_grown 116 = .ok (.iand, 1) := by decide +kernel
theorem dM_grown_117 : decode cM_grown 117 = .ok (.ifCond .ne 7, 3) := by decide +kernel
theorem dM_grown_120 : decode cM_grown 120 = .ok (.iconst 1, 1) := by decide +kernel
theorem dM_grown_121 : decode cM_grown 121 = .ok (.goto 4, 3) := by decide +kernel
theorem dM_grown_124 : decode cM_grown 124 = .ok (.iconst 0, 1) := by decide +kernel
theorem dM_grown_125 : decode cM_grown 125 = .ok (.istore_n 3, 1) := by decide +kernel
theorem dM_grown_126 : decode cM_grown 126 = .ok (.iinc 4 1, 3) := by decide +kernel
theorem dM_grown_129 : decode cM_grown 129 = .ok (.goto (-96), 3) := by decide +kernel
theorem dM_grown_132 : decode cM_grown 132 = .ok (.iload_n 3, 1) := by decide +kernel
theorem dM_grown_133 : decode cM_grown 133 = .ok (.ifCond .ne 6, 3) := by decide +kernel
theorem dM_grown_136 : decode cM_grown 136 = .ok (.iinc 1 1, 3) := by decide +kernel
theorem dM_grown_139 : decode cM_grown 139 = .ok (.iinc 2 1, 3) := by decide +kernel
theorem dM_grown_142 : decode cM_grown 142 = .ok (.goto (-133), 3) := by decide +kernel
theorem dM_grown_145 : decode cM_grown 145 = .ok (.iload_n 1, 1) := by decide +kernel
theorem dM_grown_146 : decode cM_grown 146 = .ok (.ireturn, 1) := by decide +kernel
