theorem dC_init_0 : decode cC_init 0 = .ok (.aload_n 0, 1) := by decide +kernel
theorem dC_init_1 : decode cC_init 1 = .ok (.invokespecial 3, 3) := by decide +kernel
theorem dC_init_4 : decode cC_init 4 = .ok (.aload_n 0, 1) := by decide +kernel
theorem dC_init_5 : decode cC_init 5 = .ok (.bipush 32, 2) := by decide +kernel
theorem dC_init_7 : decode cC_init 7 = .ok (.newarray .boolean, 2) := by decide +kernel
theorem dC_init_9 : decode cC_init 9 = .ok (.putfield 9, 3) := by decide +kernel
theorem dC_init_12 : decode cC_init 12 = .ok (.aload_n 0, 1) := by decide +kernel
theorem dC_init_13 : decode cC_init 13 = .ok (.bipush 32, 2) := by decide +kernel
theorem dC_init_15 : decode cC_init 15 = .ok (.newarray .int, 2) := by decide +kernel
theorem dC_init_17 : decode cC_init 17 = .ok (.putfield 13, 3) := by decide +kernel
theorem dC_init_20 : decode cC_init 20 = .ok (.aload_n 0, 1) := by decide +kernel
theorem dC_init_21 : decode cC_init 21 = .ok (.bipush 32, 2) := by decide +kernel
theorem dC_init_23 : decode cC_init 23 = .ok (.newarray .int, 2) := by decide +kernel
theorem dC_init_25 : decode cC_init 25 = .ok (.putfield 17, 3) := by decide +kernel
theorem dC_init_28 : decode cC_init 28 = .ok (.iconst 0, 1) := by decide +kernel
theorem dC_init_29 : decode cC_init 29 = .ok (.istore_n 1, 1) := by decide +kernel
theorem dC_init_30 : decode cC_init 30 = .ok (.iload_n 1, 1) := by decide +kernel
theorem dC_init_31 : decode cC_init 31 = .ok (.bipush 32, 2) := by decide +kernel
theorem dC_init_33 : decode cC_init 33 = .ok (.if_icmp .ge 17, 3) := by decide +kernel
theorem dC_init_36 : decode cC_init 36 = .ok (.aload_n 0, 1) := by decide +kernel
theorem dC_init_37 : decode cC_init 37 = .ok (.getfield 17, 3) := by decide +kernel
theorem dC_init_40 : decode cC_init 40 = .ok (.iload_n 1, 1) := by decide +kernel
theorem dC_init_41 : decode cC_init 41 = .ok (.ldc 20, 2) := by decide +kernel
theorem dC_init_43 : decode cC_init 43 = .ok (.iastore, 1) := by decide +kernel
theorem dC_init_44 : decode cC_init 44 = .ok (.iinc 1 1, 3) := by decide +kernel
theorem dC_init_47 : decode cC_init 47 = .ok (.goto (-17), 3) := by decide +kernel
theorem dC_init_50 : decode cC_init 50 = .ok (.aload_n 0, 1) := by decide +kernel
theorem dC_init_51 : decode cC_init 51 = .ok (.bipush 8, 2) := by decide +kernel
theorem dC_init_53 : decode cC_init 53 = .ok (.newarray .long, 2) := by decide +kernel
theorem dC_init_55 : decode cC_init 55 = .ok (.putfield 21, 3) := by decide +kernel
theorem dC_init_58 : decode cC_init 58 = .ok (.aload_n 0, 1) := by decide +kernel
theorem dC_init_59 : decode cC_init 59 = .ok (.bipush 8, 2) := by decide +kernel
theorem dC_init_61 : decode cC_init 61 = .ok (.newarray .long, 2) := by decide +kernel
theorem dC_init_63 : decode cC_init 63 = .ok (.putfield 25, 3) := by decide +kernel
theorem dC_init_66 : decode cC_init 66 = .ok (.aload_n 0, 1) := by decide +kernel
theorem dC_init_67 : decode cC_init 67 = .ok (.bipush 8, 2) := by decide +kernel
theorem dC_init_69 : decode cC_init 69 = .ok (.newarray .int, 2) := by decide +kernel
theorem dC_init_71 : decode cC_init 71 = .ok (.putfield 28, 3) := by decide +kernel
theorem dC_init_74 : decode cC_init 74 = .ok (.aload_n 0, 1) := by decide +kernel
theorem dC_init_75 : decode cC_init 75 = .ok (.iconst 0, 1) := by decide +kernel
theorem dC_init_76 : decode cC_init 76 = .ok (.putfield 31, 3) := by decide +kernel
theorem dC_init_79 : decode cC_init 79 = .ok (.return_, 1) := by decide +kernel
theorem dC_bound_0 : decode cC_bound 0 = .ok (.iload_n 3, 1) := by decide +kernel
theorem dC_bound_1 : decode cC_bound 1 = .ok (.ifCond .eq 11, 3) := by decide +kernel
theorem dC_bound_4 : decode cC_bound 4 = .ok (.iload_n 1, 1) := by decide +kernel
theorem dC_bound_5 : decode cC_bound 5 = .ok (.iload_n 2, 1) := by decide +kernel
theorem dC_bound_6 : decode cC_bound 6 = .ok (.invokestatic 101, 3) := by decide +kernel
theorem dC_bound_9 : decode cC_bound 9 = .ok (.goto 8, 3) := by decide +kernel
theorem dC_bound_12 : decode cC_bound 12 = .ok (.iload_n 1, 1) := by decide +kernel
theorem dC_bound_13 : decode cC_bound 13 = .ok (.iload_n 2, 1) := by decide +kernel
theorem dC_bound_14 : decode cC_bound 14 = .ok (.invokestatic 97, 3) := by decide +kernel
theorem dC_bound_17 : decode cC_bound 17 = .ok (.lreturn, 1) := by decide +kernel
theorem dC_topOf_0 : decode cC_topOf 0 = .ok (.iload_n 0, 1) := by decide +kernel
theorem dC_topOf_1 : decode cC_topOf 1 = .ok (.iload_n 1, 1) := by decide +kernel
theorem dC_topOf_2 : decode cC_topOf 2 = .ok (.iload_n 0, 1) := by decide +kernel
theorem dC_topOf_3 : decode cC_topOf 3 = .ok (.invokestatic 153, 3) := by decide +kernel
theorem dC_topOf_6 : decode cC_topOf 6 = .ok (.invokestatic 149, 3) := by decide +kernel
theorem dC_topOf_9 : decode cC_topOf 9 = .ok (.ldc2_w 156, 3) := by decide +kernel
theorem dC_topOf_12 : decode cC_topOf 12 = .ok (.land, 1) := by decide +kernel
theorem dC_topOf_13 : decode cC_topOf 13 = .ok (.lstore_n 2, 1) := by decide +kernel
theorem dC_topOf_14 : decode cC_topOf 14 = .ok (.iload_n 0, 1) := by decide +kernel
theorem dC_topOf_15 : decode cC_topOf 15 = .ok (.iload_n 1, 1) := by decide +kernel
theorem dC_topOf_16 : decode cC_topOf 16 = .ok (.iload_n 0, 1) := by decide +kernel
theorem dC_topOf_17 : decode cC_topOf 17 = .ok (.invokestatic 144, 3) := by decide +kernel
theorem dC_topOf_20 : decode cC_topOf 20 = .ok (.invokestatic 149, 3) := by decide +kernel
theorem dC_topOf_23 : decode cC_topOf 23 = .ok (.ldc2_w 147, 3) := by decide +kernel
theorem dC_topOf_26 : decode cC_topOf 26 = .ok (.land, 1) := by decide +kernel
theorem dC_topOf_27 : decode cC_topOf 27 = .ok (.lstore 4, 2) := by decide +kernel
theorem dC_topOf_29 : decode cC_topOf 29 = .ok (.lload_n 2, 1) := by decide +kernel
theorem dC_topOf_30 : decode cC_topOf 30 = .ok (.bipush 31, 2) := by decide +kernel
theorem dC_topOf_32 : decode cC_topOf 32 = .ok (.lshr, 1) := by decide +kernel
theorem dC_topOf_33 : decode cC_topOf 33 = .ok (.lload 4, 2) := by decide +kernel
theorem dC_topOf_35 : decode cC_topOf 35 = .ok (.bipush 31, 2) := by decide +kernel
theorem dC_topOf_37 : decode cC_topOf 37 = .ok (.lshr, 1) := by decide +kernel
theorem dC_topOf_38 : decode cC_topOf 38 = .ok (.lsub, 1) := by decide +kernel
theorem dC_topOf_39 : decode cC_topOf 39 = .ok (.lstore 6, 2) := by decide +kernel
theorem dC_topOf_41 : decode cC_topOf 41 = .ok (.iload_n 0, 1) := by decide +kernel
theorem dC_topOf_42 : decode cC_topOf 42 = .ok (.invokestatic 137, 3) := by decide +kernel
theorem dC_topOf_45 : decode cC_topOf 45 = .ok (.bipush 25, 2) := by decide +kernel
theorem dC_topOf_47 : decode cC_topOf 47 = .ok (.if_icmp .ge 20, 3) := by decide +kernel
theorem dC_topOf_50 : decode cC_topOf 50 = .ok (.lload 6, 2) := by decide +kernel
theorem dC_topOf_52 : decode cC_topOf 52 = .ok (.ldc2_w 158, 3) := by decide +kernel
theorem dC_topOf_55 : decode cC_topOf 55 = .ok (.land, 1) := by decide +kernel
theorem dC_topOf_56 : decode cC_topOf 56 = .ok (.lconst 1, 1) := by decide +kernel
theorem dC_topOf_57 : decode cC_topOf 57 = .ok (.lcmp, 1) := by decide +kernel
theorem dC_topOf_58 : decode cC_topOf 58 = .ok (.ifCond .le 9, 3) := by decide +kernel
theorem dC_topOf_61 : decode cC_topOf 61 = .ok (.lload_n 2, 1) := by decide +kernel
theorem dC_topOf_62 : decode cC_topOf 62 = .ok (.ldc2_w 81, 3) := by decide +kernel
theorem dC_topOf_65 : decode cC_topOf 65 = .ok (.lxor, 1) := by decide +kernel
theorem dC_topOf_66 : decode cC_topOf 66 = .ok (.lreturn, 1) := by decide +kernel
theorem dC_topOf_67 : decode cC_topOf 67 = .ok (.lload_n 2, 1) := by decide +kernel
theorem dC_topOf_68 : decode cC_topOf 68 = .ok (.lreturn, 1) := by decide +kernel
theorem dC_topMantissa_0 : decode cC_topMantissa 0 = .ok (.iload_n 0, 1) := by decide +kernel
theorem dC_topMantissa_1 : decode cC_topMantissa 1 = .ok (.invokestatic 144, 3) := by decide +kernel
theorem dC_topMantissa_4 : decode cC_topMantissa 4 = .ok (.istore_n 1, 1) := by decide +kernel
theorem dC_topMantissa_5 : decode cC_topMantissa 5 = .ok (.iload_n 0, 1) := by decide +kernel
theorem dC_topMantissa_6 : decode cC_topMantissa 6 = .ok (.bipush 8, 2) := by decide +kernel
theorem dC_topMantissa_8 : decode cC_topMantissa 8 = .ok (.ishr, 1) := by decide +kernel
theorem dC_topMantissa_9 : decode cC_topMantissa 9 = .ok (.bipush 63, 2) := by decide +kernel
theorem dC_topMantissa_11 : decode cC_topMantissa 11 = .ok (.iand, 1) := by decide +kernel
theorem dC_topMantissa_12 : decode cC_topMantissa 12 = .ok (.istore_n 2, 1) := by decide +kernel
theorem dC_topMantissa_13 : decode cC_topMantissa 13 = .ok (.iload_n 1, 1) := by decide +kernel
theorem dC_topMantissa_14 : decode cC_topMantissa 14 = .ok (.bipush 6, 2) := by decide +kernel
theorem dC_topMantissa_16 : decode cC_topMantissa 16 = .ok (.ishr, 1) := by decide +kernel
theorem dC_topMantissa_17 : decode cC_topMantissa 17 = .ok (.istore_n 3, 1) := by decide +kernel
theorem dC_topMantissa_18 : decode cC_topMantissa 18 = .ok (.iload_n 0, 1) := by decide +kernel
theorem dC_topMantissa_19 : decode cC_topMantissa 19 = .ok (.sipush 16384, 3) := by decide +kernel
theorem dC_topMantissa_22 : decode cC_topMantissa 22 = .ok (.iand, 1) := by decide +kernel
theorem dC_topMantissa_23 : decode cC_topMantissa 23 = .ok (.ifCond .eq 11, 3) := by decide +kernel
theorem dC_topMantissa_26 : decode cC_topMantissa 26 = .ok (.iload_n 2, 1) := by decide +kernel
theorem dC_topMantissa_27 : decode cC_topMantissa 27 = .ok (.bipush (-8), 2) := by decide +kernel
theorem dC_topMantissa_29 : decode cC_topMantissa 29 = .ok (.iand, 1) := by decide +kernel
theorem dC_topMantissa_30 : decode cC_topMantissa 30 = .ok (.istore_n 2, 1) := by decide +kernel
theorem dC_topMantissa_31 : decode cC_topMantissa 31 = .ok (.iinc 3 1, 3) := by decide +kernel
theorem dC_topMantissa_34 : decode cC_topMantissa 34 = .ok (.iload_n 2, 1) := by decide +kernel
theorem dC_topMantissa_35 : decode cC_topMantissa 35 = .ok (.iload_n 1, 1) := by decide +kernel
theorem dC_topMantissa_36 : decode cC_topMantissa 36 = .ok (.bipush 63, 2) := by decide +kernel
theorem dC_topMantissa_38 : decode cC_topMantissa 38 = .ok (.iand, 1) := by decide +kernel
theorem dC_topMantissa_39 : decode cC_topMantissa 39 = .ok (.if_icmp .ge 6, 3) := by decide +kernel
theorem dC_topMantissa_42 : decode cC_topMantissa 42 = .ok (.iinc 3 1, 3) := by decide +kernel
theorem dC_topMantissa_45 : decode cC_topMantissa 45 = .ok (.iload_n 3, 1) := by decide +kernel
theorem dC_topMantissa_46 : decode cC_topMantissa 46 = .ok (.iconst 3, 1) := by decide +kernel
theorem dC_topMantissa_47 : decode cC_topMantissa 47 = .ok (.iand, 1) := by decide +kernel
theorem dC_topMantissa_48 : decode cC_topMantissa 48 = .ok (.bipush 6, 2) := by decide +kernel
theorem dC_topMantissa_50 : decode cC_topMantissa 50 = .ok (.ishl, 1) := by decide +kernel
theorem dC_topMantissa_51 : decode cC_topMantissa 51 = .ok (.iload_n 2, 1) := by decide +kernel
theorem dC_topMantissa_52 : decode cC_topMantissa 52 = .ok (.ior, 1) := by decide +kernel
theorem dC_topMantissa_53 : decode cC_topMantissa 53 = .ok (.ireturn, 1) := by decide +kernel
theorem dC_baseMantissa_0 : decode cC_baseMantissa 0 = .ok (.iload_n 0, 1) := by decide +kernel
theorem dC_baseMantissa_1 : decode cC_baseMantissa 1 = .ok (.sipush 255, 3) := by decide +kernel
theorem dC_baseMantissa_4 : decode cC_baseMantissa 4 = .ok (.iand, 1) := by decide +kernel
theorem dC_baseMantissa_5 : decode cC_baseMantissa 5 = .ok (.istore_n 1, 1) := by decide +kernel
theorem dC_baseMantissa_6 : decode cC_baseMantissa 6 = .ok (.iload_n 0, 1) := by decide +kernel
theorem dC_baseMantissa_7 : decode cC_baseMantissa 7 = .ok (.sipush 16384, 3) := by decide +kernel
theorem dC_baseMantissa_10 : decode cC_baseMantissa 10 = .ok (.iand, 1) := by decide +kernel
theorem dC_baseMantissa_11 : decode cC_baseMantissa 11 = .ok (.ifCond .eq 10, 3) := by decide +kernel
theorem dC_baseMantissa_14 : decode cC_baseMantissa 14 = .ok (.iload_n 1, 1) := by decide +kernel
theorem dC_baseMantissa_15 : decode cC_baseMantissa 15 = .ok (.bipush (-8), 2) := by decide +kernel
theorem dC_baseMantissa_17 : decode cC_baseMantissa 17 = .ok (.iand, 1) := by decide +kernel
theorem dC_baseMantissa_18 : decode cC_baseMantissa 18 = .ok (.goto 4, 3) := by decide +kernel
theorem dC_baseMantissa_21 : decode cC_baseMantissa 21 = .ok (.iload_n 1, 1) := by decide +kernel
theorem dC_baseMantissa_22 : decode cC_baseMantissa 22 = .ok (.ireturn, 1) := by decide +kernel
theorem dC_placed_0 : decode cC_placed 0 = .ok (.iload_n 0, 1) := by decide +kernel
theorem dC_placed_1 : decode cC_placed 1 = .ok (.invokestatic 137, 3) := by decide +kernel
theorem dC_placed_4 : decode cC_placed 4 = .ok (.istore_n 3, 1) := by decide +kernel
theorem dC_placed_5 : decode cC_placed 5 = .ok (.iload_n 1, 1) := by decide +kernel
theorem dC_placed_6 : decode cC_placed 6 = .ok (.invokestatic 56, 3) := by decide +kernel
theorem dC_placed_9 : decode cC_placed 9 = .ok (.lstore 4, 2) := by decide +kernel
theorem dC_placed_11 : decode cC_placed 11 = .ok (.lload 4, 2) := by decide +kernel
theorem dC_placed_13 : decode cC_placed 13 = .ok (.iload_n 3, 1) := by decide +kernel
theorem dC_placed_14 : decode cC_placed 14 = .ok (.lshr, 1) := by decide +kernel
theorem dC_placed_15 : decode cC_placed 15 = .ok (.l2i, 1) := by decide +kernel
theorem dC_placed_16 : decode cC_placed 16 = .ok (.sipush 255, 3) := by decide +kernel
theorem dC_placed_19 : decode cC_placed 19 = .ok (.iand, 1) := by decide +kernel
theorem dC_placed_20 : decode cC_placed 20 = .ok (.istore 6, 2) := by decide +kernel
theorem dC_placed_22 : decode cC_placed 22 = .ok (.iload_n 0, 1) := by decide +kernel
theorem dC_placed_23 : decode cC_placed 23 = .ok (.invokestatic 144, 3) := by decide +kernel
theorem dC_placed_26 : decode cC_placed 26 = .ok (.iconst 5, 1) := by decide +kernel
theorem dC_placed_27 : decode cC_placed 27 = .ok (.ishr, 1) := by decide +kernel
theorem dC_placed_28 : decode cC_placed 28 = .ok (.iconst 1, 1) := by decide +kernel
theorem dC_placed_29 : decode cC_placed 29 = .ok (.isub, 1) := by decide +kernel
theorem dC_placed_30 : decode cC_placed 30 = .ok (.bipush 7, 2) := by decide +kernel
theorem dC_placed_32 : decode cC_placed 32 = .ok (.iand, 1) := by decide +kernel
theorem dC_placed_33 : decode cC_placed 33 = .ok (.istore 7, 2) := by decide +kernel
theorem dC_placed_35 : decode cC_placed 35 = .ok (.lload 4, 2) := by decide +kernel
theorem dC_placed_37 : decode cC_placed 37 = .ok (.iload_n 3, 1) := by decide +kernel
theorem dC_placed_38 : decode cC_placed 38 = .ok (.bipush 8, 2) := by decide +kernel
theorem dC_placed_40 : decode cC_placed 40 = .ok (.iadd, 1) := by decide +kernel
theorem dC_placed_41 : decode cC_placed 41 = .ok (.lshr, 1) := by decide +kernel
theorem dC_placed_42 : decode cC_placed 42 = .ok (.iload_n 2, 1) := by decide +kernel
theorem dC_placed_43 : decode cC_placed 43 = .ok (.iload 7, 2) := by decide +kernel
theorem dC_placed_45 : decode cC_placed 45 = .ok (.invokestatic 160, 3) := by decide +kernel
theorem dC_placed_48 : decode cC_placed 48 = .ok (.i2l, 1) := by decide +kernel
theorem dC_placed_49 : decode cC_placed 49 = .ok (.ladd, 1) := by decide +kernel
theorem dC_placed_50 : decode cC_placed 50 = .ok (.iload 6, 2) := by decide +kernel
theorem dC_placed_52 : decode cC_placed 52 = .ok (.iload 7, 2) := by decide +kernel
theorem dC_placed_54 : decode cC_placed 54 = .ok (.invokestatic 160, 3) := by decide +kernel
theorem dC_placed_57 : decode cC_placed 57 = .ok (.i2l, 1) := by decide +kernel
theorem dC_placed_58 : decode cC_placed 58 = .ok (.lsub, 1) := by decide +kernel
theorem dC_placed_59 : decode cC_placed 59 = .ok (.lstore 8, 2) := by decide +kernel
theorem dC_placed_61 : decode cC_placed 61 = .ok (.lload 8, 2) := by decide +kernel
theorem dC_placed_63 : decode cC_placed 63 = .ok (.iload_n 3, 1) := by decide +kernel
theorem dC_placed_64 : decode cC_placed 64 = .ok (.bipush 8, 2) := by decide +kernel
theorem dC_placed_66 : decode cC_placed 66 = .ok (.iadd, 1) := by decide +kernel
theorem dC_placed_67 : decode cC_placed 67 = .ok (.lshl, 1) := by decide +kernel
theorem dC_placed_68 : decode cC_placed 68 = .ok (.iload_n 2, 1) := by decide +kernel
theorem dC_placed_69 : decode cC_placed 69 = .ok (.i2l, 1) := by decide +kernel
theorem dC_placed_70 : decode cC_placed 70 = .ok (.iload_n 3, 1) := by decide +kernel
theorem dC_placed_71 : decode cC_placed 71 = .ok (.lshl, 1) := by decide +kernel
theorem dC_placed_72 : decode cC_placed 72 = .ok (.ladd, 1) := by decide +kernel
theorem dC_placed_73 : decode cC_placed 73 = .ok (.lreturn, 1) := by decide +kernel
theorem dC_exponentOf_0 : decode cC_exponentOf 0 = .ok (.iload_n 0, 1) := by decide +kernel
theorem dC_exponentOf_1 : decode cC_exponentOf 1 = .ok (.sipush 16384, 3) := by decide +kernel
theorem dC_exponentOf_4 : decode cC_exponentOf 4 = .ok (.iand, 1) := by decide +kernel
theorem dC_exponentOf_5 : decode cC_exponentOf 5 = .ok (.ifCond .ne 5, 3) := by decide +kernel
theorem dC_exponentOf_8 : decode cC_exponentOf 8 = .ok (.iconst 0, 1) := by decide +kernel
theorem dC_exponentOf_9 : decode cC_exponentOf 9 = .ok (.ireturn, 1) := by decide +kernel
theorem dC_exponentOf_10 : decode cC_exponentOf 10 = .ok (.iload_n 0, 1) := by decide +kernel
theorem dC_exponentOf_11 : decode cC_exponentOf 11 = .ok (.bipush 8, 2) := by decide +kernel
theorem dC_exponentOf_13 : decode cC_exponentOf 13 = .ok (.ishr, 1) := by decide +kernel
theorem dC_exponentOf_14 : decode cC_exponentOf 14 = .ok (.bipush 7, 2) := by decide +kernel
theorem dC_exponentOf_16 : decode cC_exponentOf 16 = .ok (.iand, 1) := by decide +kernel
theorem dC_exponentOf_17 : decode cC_exponentOf 17 = .ok (.iconst 3, 1) := by decide +kernel
theorem dC_exponentOf_18 : decode cC_exponentOf 18 = .ok (.ishl, 1) := by decide +kernel
theorem dC_exponentOf_19 : decode cC_exponentOf 19 = .ok (.iload_n 0, 1) := by decide +kernel
theorem dC_exponentOf_20 : decode cC_exponentOf 20 = .ok (.bipush 7, 2) := by decide +kernel
theorem dC_exponentOf_22 : decode cC_exponentOf 22 = .ok (.iand, 1) := by decide +kernel
theorem dC_exponentOf_23 : decode cC_exponentOf 23 = .ok (.iadd, 1) := by decide +kernel
theorem dC_exponentOf_24 : decode cC_exponentOf 24 = .ok (.istore_n 1, 1) := by decide +kernel
theorem dC_exponentOf_25 : decode cC_exponentOf 25 = .ok (.iload_n 1, 1) := by decide +kernel
theorem dC_exponentOf_26 : decode cC_exponentOf 26 = .ok (.bipush 26, 2) := by decide +kernel
theorem dC_exponentOf_28 : decode cC_exponentOf 28 = .ok (.if_icmp .ge 7, 3) := by decide +kernel
theorem dC_exponentOf_31 : decode cC_exponentOf 31 = .ok (.iload_n 1, 1) := by decide +kernel
theorem dC_exponentOf_32 : decode cC_exponentOf 32 = .ok (.goto 5, 3) := by decide +kernel
theorem dC_exponentOf_35 : decode cC_exponentOf 35 = .ok (.bipush 26, 2) := by decide +kernel
theorem dC_exponentOf_37 : decode cC_exponentOf 37 = .ok (.ireturn, 1) := by decide +kernel
theorem dC_unsigned_0 : decode cC_unsigned 0 = .ok (.iload_n 0, 1) := by decide +kernel
theorem dC_unsigned_1 : decode cC_unsigned 1 = .ok (.i2l, 1) := by decide +kernel
theorem dC_unsigned_2 : decode cC_unsigned 2 = .ok (.ldc2_w 147, 3) := by decide +kernel
theorem dC_unsigned_5 : decode cC_unsigned 5 = .ok (.land, 1) := by decide +kernel
theorem dC_unsigned_6 : decode cC_unsigned 6 = .ok (.lreturn, 1) := by decide +kernel
theorem dC_below_0 : decode cC_below 0 = .ok (.iload_n 0, 1) := by decide +kernel
theorem dC_below_1 : decode cC_below 1 = .ok (.iconst 5, 1) := by decide +kernel
theorem dC_below_2 : decode cC_below 2 = .ok (.ishr, 1) := by decide +kernel
theorem dC_below_3 : decode cC_below 3 = .ok (.iload_n 1, 1) := by decide +kernel
theorem dC_below_4 : decode cC_below 4 = .ok (.if_icmp .ge 7, 3) := by decide +kernel
theorem dC_below_7 : decode cC_below 7 = .ok (.iconst 1, 1) := by decide +kernel
theorem dC_below_8 : decode cC_below 8 = .ok (.goto 4, 3) := by decide +kernel
theorem dC_below_11 : decode cC_below 11 = .ok (.iconst 0, 1) := by decide +kernel
theorem dC_below_12 : decode cC_below 12 = .ok (.ireturn, 1) := by decide +kernel
theorem dC_baseOf_0 : decode cC_baseOf 0 = .ok (.iload_n 0, 1) := by decide +kernel
theorem dC_baseOf_1 : decode cC_baseOf 1 = .ok (.iload_n 1, 1) := by decide +kernel
theorem dC_baseOf_2 : decode cC_baseOf 2 = .ok (.iload_n 0, 1) := by decide +kernel
theorem dC_baseOf_3 : decode cC_baseOf 3 = .ok (.invokestatic 144, 3) := by decide +kernel
theorem dC_baseOf_6 : decode cC_baseOf 6 = .ok (.invokestatic 149, 3) := by decide +kernel
theorem dC_baseOf_9 : decode cC_baseOf 9 = .ok (.ldc2_w 147, 3) := by decide +kernel
theorem dC_baseOf_12 : decode cC_baseOf 12 = .ok (.land, 1) := by decide +kernel
theorem dC_baseOf_13 : decode cC_baseOf 13 = .ok (.lreturn, 1) := by decide +kernel
theorem dC_grown_0 : decode cC_grown 0 = .ok (.iconst 0, 1) := by decide +kernel
theorem dC_grown_1 : decode cC_grown 1 = .ok (.istore_n 1, 1) := by decide +kernel
theorem dC_grown_2 : decode cC_grown 2 = .ok (.iconst 0, 1) := by decide +kernel
theorem dC_grown_3 : decode cC_grown 3 = .ok (.istore_n 2, 1) := by decide +kernel
theorem dC_grown_4 : decode cC_grown 4 = .ok (.iload_n 2, 1) := by decide +kernel
theorem dC_grown_5 : decode cC_grown 5 = .ok (.bipush 32, 2) := by decide +kernel
theorem dC_grown_7 : decode cC_grown 7 = .ok (.if_icmp .ge 29, 3) := by decide +kernel
theorem dC_grown_10 : decode cC_grown 10 = .ok (.aload_n 0, 1) := by decide +kernel
theorem dC_grown_11 : decode cC_grown 11 = .ok (.getfield 9, 3) := by decide +kernel
theorem dC_grown_14 : decode cC_grown 14 = .ok (.iload_n 2, 1) := by decide +kernel
theorem dC_grown_15 : decode cC_grown 15 = .ok (.baload, 1) := by decide +kernel
theorem dC_grown_16 : decode cC_grown 16 = .ok (.ifCond .eq 14, 3) := by decide +kernel
theorem dC_grown_19 : decode cC_grown 19 = .ok (.aload_n 0, 1) := by decide +kernel
theorem dC_grown_20 : decode cC_grown 20 = .ok (.iload_n 2, 1) := by decide +kernel
theorem dC_grown_21 : decode cC_grown 21 = .ok (.invokevirtual 140, 3) := by decide +kernel
theorem dC_grown_24 : decode cC_grown 24 = .ok (.ifCond .ne 6, 3) := by decide +kernel
theorem dC_grown_27 : decode cC_grown 27 = .ok (.iinc 1 1, 3) := by decide +kernel
theorem dC_grown_30 : decode cC_grown 30 = .ok (.iinc 2 1, 3) := by decide +kernel
theorem dC_grown_33 : decode cC_grown 33 = .ok (.goto (-29), 3) := by decide +kernel
theorem dC_grown_36 : decode cC_grown 36 = .ok (.iload_n 1, 1) := by decide +kernel
theorem dC_grown_37 : decode cC_grown 37 = .ok (.ireturn, 1) := by decide +kernel
theorem dC_isFromRoot_0 : decode cC_isFromRoot 0 = .ok (.iconst 0, 1) := by decide +kernel
theorem dC_isFromRoot_1 : decode cC_isFromRoot 1 = .ok (.istore_n 2, 1) := by decide +kernel
theorem dC_isFromRoot_2 : decode cC_isFromRoot 2 = .ok (.iload_n 2, 1) := by decide +kernel
theorem dC_isFromRoot_3 : decode cC_isFromRoot 3 = .ok (.aload_n 0, 1) := by decide +kernel
theorem dC_isFromRoot_4 : decode cC_isFromRoot 4 = .ok (.getfield 31, 3) := by decide +kernel
theorem dC_isFromRoot_7 : decode cC_isFromRoot 7 = .ok (.if_icmp .ge 37, 3) := by decide +kernel
theorem dC_isFromRoot_10 : decode cC_isFromRoot 10 = .ok (.aload_n 0, 1) := by decide +kernel
theorem dC_isFromRoot_11 : decode cC_isFromRoot 11 = .ok (.iload_n 1, 1) := by decide +kernel
theorem dC_isFromRoot_12 : decode cC_isFromRoot 12 = .ok (.aload_n 0, 1) := by decide +kernel
theorem dC_isFromRoot_13 : decode cC_isFromRoot 13 = .ok (.getfield 21, 3) := by decide +kernel
theorem dC_isFromRoot_16 : decode cC_isFromRoot 16 = .ok (.iload_n 2, 1) := by decide +kernel
theorem dC_isFromRoot_17 : decode cC_isFromRoot 17 = .ok (.laload, 1) := by decide +kernel
theorem dC_isFromRoot_18 : decode cC_isFromRoot 18 = .ok (.aload_n 0, 1) := by decide +kernel
theorem dC_isFromRoot_19 : decode cC_isFromRoot 19 = .ok (.getfield 25, 3) := by decide +kernel
theorem dC_isFromRoot_22 : decode cC_isFromRoot 22 = .ok (.iload_n 2, 1) := by decide +kernel
theorem dC_isFromRoot_23 : decode cC_isFromRoot 23 = .ok (.laload, 1) := by decide +kernel
theorem dC_isFromRoot_24 : decode cC_isFromRoot 24 = .ok (.aload_n 0, 1) := by decide +kernel
theorem dC_isFromRoot_25 : decode cC_isFromRoot 25 = .ok (.getfield 28, 3) := by decide +kernel
theorem dC_isFromRoot_28 : decode cC_isFromRoot 28 = .ok (.iload_n 2, 1) := by decide +kernel
theorem dC_isFromRoot_29 : decode cC_isFromRoot 29 = .ok (.iaload, 1) := by decide +kernel
theorem dC_isFromRoot_30 : decode cC_isFromRoot 30 = .ok (.invokevirtual 125, 3) := by decide +kernel
theorem dC_isFromRoot_33 : decode cC_isFromRoot 33 = .ok (.ifCond .eq 5, 3) := by decide +kernel
theorem dC_isFromRoot_36 : decode cC_isFromRoot 36 = .ok (.iconst 1, 1) := by decide +kernel
theorem dC_isFromRoot_37 : decode cC_isFromRoot 37 = .ok (.ireturn, 1) := by decide +kernel
theorem dC_isFromRoot_38 : decode cC_isFromRoot 38 = .ok (.iinc 2 1, 3) := by decide +kernel
theorem dC_isFromRoot_41 : decode cC_isFromRoot 41 = .ok (.goto (-39), 3) := by decide +kernel
theorem dC_isFromRoot_44 : decode cC_isFromRoot 44 = .ok (.iconst 0, 1) := by decide +kernel
theorem dC_isFromRoot_45 : decode cC_isFromRoot 45 = .ok (.ireturn, 1) := by decide +kernel
theorem dC_isWithin_0 : decode cC_isWithin 0 = .ok (.aload_n 0, 1) := by decide +kernel
theorem dC_isWithin_1 : decode cC_isWithin 1 = .ok (.iload_n 1, 1) := by decide +kernel
theorem dC_isWithin_2 : decode cC_isWithin 2 = .ok (.invokevirtual 69, 3) := by decide +kernel
theorem dC_isWithin_5 : decode cC_isWithin 5 = .ok (.lload_n 2, 1) := by decide +kernel
theorem dC_isWithin_6 : decode cC_isWithin 6 = .ok (.lcmp, 1) := by decide +kernel
theorem dC_isWithin_7 : decode cC_isWithin 7 = .ok (.ifCond .lt 35, 3) := by decide +kernel
theorem dC_isWithin_10 : decode cC_isWithin 10 = .ok (.aload_n 0, 1) := by decide +kernel
theorem dC_isWithin_11 : decode cC_isWithin 11 = .ok (.iload_n 1, 1) := by decide +kernel
theorem dC_isWithin_12 : decode cC_isWithin 12 = .ok (.invokevirtual 72, 3) := by decide +kernel
theorem dC_isWithin_15 : decode cC_isWithin 15 = .ok (.lload 4, 2) := by decide +kernel
theorem dC_isWithin_17 : decode cC_isWithin 17 = .ok (.lcmp, 1) := by decide +kernel
theorem dC_isWithin_18 : decode cC_isWithin 18 = .ok (.ifCond .gt 24, 3) := by decide +kernel
theorem dC_isWithin_21 : decode cC_isWithin 21 = .ok (.aload_n 0, 1) := by decide +kernel
theorem dC_isWithin_22 : decode cC_isWithin 22 = .ok (.getfield 17, 3) := by decide +kernel
theorem dC_isWithin_25 : decode cC_isWithin 25 = .ok (.iload_n 1, 1) := by decide +kernel
theorem dC_isWithin_26 : decode cC_isWithin 26 = .ok (.iaload, 1) := by decide +kernel
theorem dC_isWithin_27 : decode cC_isWithin 27 = .ok (.invokestatic 122, 3) := by decide +kernel
theorem dC_isWithin_30 : decode cC_isWithin 30 = .ok (.iload 6, 2) := by decide +kernel
theorem dC_isWithin_32 : decode cC_isWithin 32 = .ok (.iconst (-1), 1) := by decide +kernel
theorem dC_isWithin_33 : decode cC_isWithin 33 = .ok (.ixor, 1) := by decide +kernel
theorem dC_isWithin_34 : decode cC_isWithin 34 = .ok (.iand, 1) := by decide +kernel
theorem dC_isWithin_35 : decode cC_isWithin 35 = .ok (.ifCond .ne 7, 3) := by decide +kernel
theorem dC_isWithin_38 : decode cC_isWithin 38 = .ok (.iconst 1, 1) := by decide +kernel
theorem dC_isWithin_39 : decode cC_isWithin 39 = .ok (.goto 4, 3) := by decide +kernel
theorem dC_isWithin_42 : decode cC_isWithin 42 = .ok (.iconst 0, 1) := by decide +kernel
theorem dC_isWithin_43 : decode cC_isWithin 43 = .ok (.ireturn, 1) := by decide +kernel
theorem dC_baseIn_0 : decode cC_baseIn 0 = .ok (.aload_n 0, 1) := by decide +kernel
theorem dC_baseIn_1 : decode cC_baseIn 1 = .ok (.getfield 17, 3) := by decide +kernel
theorem dC_baseIn_4 : decode cC_baseIn 4 = .ok (.iload_n 1, 1) := by decide +kernel
theorem dC_baseIn_5 : decode cC_baseIn 5 = .ok (.iaload, 1) := by decide +kernel
theorem dC_baseIn_6 : decode cC_baseIn 6 = .ok (.aload_n 0, 1) := by decide +kernel
theorem dC_baseIn_7 : decode cC_baseIn 7 = .ok (.getfield 13, 3) := by decide +kernel
theorem dC_baseIn_10 : decode cC_baseIn 10 = .ok (.iload_n 1, 1) := by decide +kernel
theorem dC_baseIn_11 : decode cC_baseIn 11 = .ok (.iaload, 1) := by decide +kernel
theorem dC_baseIn_12 : decode cC_baseIn 12 = .ok (.invokestatic 97, 3) := by decide +kernel
theorem dC_baseIn_15 : decode cC_baseIn 15 = .ok (.lreturn, 1) := by decide +kernel
theorem dC_topIn_0 : decode cC_topIn 0 = .ok (.aload_n 0, 1) := by decide +kernel
theorem dC_topIn_1 : decode cC_topIn 1 = .ok (.getfield 17, 3) := by decide +kernel
theorem dC_topIn_4 : decode cC_topIn 4 = .ok (.iload_n 1, 1) := by decide +kernel
theorem dC_topIn_5 : decode cC_topIn 5 = .ok (.iaload, 1) := by decide +kernel
theorem dC_topIn_6 : decode cC_topIn 6 = .ok (.aload_n 0, 1) := by decide +kernel
theorem dC_topIn_7 : decode cC_topIn 7 = .ok (.getfield 13, 3) := by decide +kernel
theorem dC_topIn_10 : decode cC_topIn 10 = .ok (.iload_n 1, 1) := by decide +kernel
theorem dC_topIn_11 : decode cC_topIn 11 = .ok (.iaload, 1) := by decide +kernel
theorem dC_topIn_12 : decode cC_topIn 12 = .ok (.invokestatic 101, 3) := by decide +kernel
theorem dC_topIn_15 : decode cC_topIn 15 = .ok (.lreturn, 1) := by decide +kernel
theorem dC_permsOf_0 : decode cC_permsOf 0 = .ok (.iload_n 0, 1) := by decide +kernel
theorem dC_permsOf_1 : decode cC_permsOf 1 = .ok (.bipush 20, 2) := by decide +kernel
theorem dC_permsOf_3 : decode cC_permsOf 3 = .ok (.iushr, 1) := by decide +kernel
theorem dC_permsOf_4 : decode cC_permsOf 4 = .ok (.ireturn, 1) := by decide +kernel
theorem dC_root_0 : decode cC_root 0 = .ok (.iload_n 1, 1) := by decide +kernel
theorem dC_root_1 : decode cC_root 1 = .ok (.iconst 1, 1) := by decide +kernel
theorem dC_root_2 : decode cC_root 2 = .ok (.if_icmp .lt 9, 3) := by decide +kernel
theorem dC_root_5 : decode cC_root 5 = .ok (.iload_n 1, 1) := by decide +kernel
theorem dC_root_6 : decode cC_root 6 = .ok (.bipush 32, 2) := by decide +kernel
theorem dC_root_8 : decode cC_root 8 = .ok (.if_icmp .lt 13, 3) := by decide +kernel
theorem dC_root_11 : decode cC_root 11 = .ok (.new 35, 3) := by decide +kernel
theorem dC_root_14 : decode cC_root 14 = .ok (.dup, 1) := by decide +kernel
theorem dC_root_15 : decode cC_root 15 = .ok (.ldc 37, 2) := by decide +kernel
theorem dC_root_17 : decode cC_root 17 = .ok (.invokespecial 39, 3) := by decide +kernel
theorem dC_root_20 : decode cC_root 20 = .ok (.athrow, 1) := by decide +kernel
theorem dC_root_21 : decode cC_root 21 = .ok (.iload_n 2, 1) := by decide +kernel
theorem dC_root_22 : decode cC_root 22 = .ok (.lload_n 3, 1) := by decide +kernel
theorem dC_root_23 : decode cC_root 23 = .ok (.invokestatic 42, 3) := by decide +kernel
theorem dC_root_26 : decode cC_root 26 = .ok (.ifCond .eq 16, 3) := by decide +kernel
theorem dC_root_29 : decode cC_root 29 = .ok (.iload 5, 2) := by decide +kernel
theorem dC_root_31 : decode cC_root 31 = .ok (.ifCond .lt 11, 3) := by decide +kernel
theorem dC_root_34 : decode cC_root 34 = .ok (.iload 5, 2) := by decide +kernel
theorem dC_root_36 : decode cC_root 36 = .ok (.sipush 4095, 3) := by decide +kernel
theorem dC_root_39 : decode cC_root 39 = .ok (.if_icmp .le 13, 3) := by decide +kernel
theorem dC_root_42 : decode cC_root 42 = .ok (.new 46, 3) := by decide +kernel
theorem dC_root_45 : decode cC_root 45 = .ok (.dup, 1) := by decide +kernel
theorem dC_root_46 : decode cC_root 46 = .ok (.ldc 48, 2) := by decide +kernel
theorem dC_root_48 : decode cC_root 48 = .ok (.invokespecial 50, 3) := by decide +kernel
theorem dC_root_51 : decode cC_root 51 = .ok (.athrow, 1) := by decide +kernel
theorem dC_root_52 : decode cC_root 52 = .ok (.aload_n 0, 1) := by decide +kernel
theorem dC_root_53 : decode cC_root 53 = .ok (.getfield 31, 3) := by decide +kernel
theorem dC_root_56 : decode cC_root 56 = .ok (.bipush 8, 2) := by decide +kernel
theorem dC_root_58 : decode cC_root 58 = .ok (.if_icmp .lt 13, 3) := by decide +kernel
theorem dC_root_61 : decode cC_root 61 = .ok (.new 51, 3) := by decide +kernel
theorem dC_root_64 : decode cC_root 64 = .ok (.dup, 1) := by decide +kernel
theorem dC_root_65 : decode cC_root 65 = .ok (.ldc 53, 2) := by decide +kernel
theorem dC_root_67 : decode cC_root 67 = .ok (.invokespecial 55, 3) := by decide +kernel
theorem dC_root_70 : decode cC_root 70 = .ok (.athrow, 1) := by decide +kernel
theorem dC_root_71 : decode cC_root 71 = .ok (.iload_n 2, 1) := by decide +kernel
theorem dC_root_72 : decode cC_root 72 = .ok (.invokestatic 56, 3) := by decide +kernel
theorem dC_root_75 : decode cC_root 75 = .ok (.iload_n 2, 1) := by decide +kernel
theorem dC_root_76 : decode cC_root 76 = .ok (.invokestatic 56, 3) := by decide +kernel
theorem dC_root_79 : decode cC_root 79 = .ok (.lload_n 3, 1) := by decide +kernel
theorem dC_root_80 : decode cC_root 80 = .ok (.ladd, 1) := by decide +kernel
theorem dC_root_81 : decode cC_root 81 = .ok (.invokestatic 60, 3) := by decide +kernel
theorem dC_root_84 : decode cC_root 84 = .ok (.sipush 32767, 3) := by decide +kernel
theorem dC_root_87 : decode cC_root 87 = .ok (.iand, 1) := by decide +kernel
theorem dC_root_88 : decode cC_root 88 = .ok (.istore 6, 2) := by decide +kernel
theorem dC_root_90 : decode cC_root 90 = .ok (.aload_n 0, 1) := by decide +kernel
theorem dC_root_91 : decode cC_root 91 = .ok (.iload_n 1, 1) := by decide +kernel
theorem dC_root_92 : decode cC_root 92 = .ok (.iconst 1, 1) := by decide +kernel
theorem dC_root_93 : decode cC_root 93 = .ok (.iload_n 2, 1) := by decide +kernel
theorem dC_root_94 : decode cC_root 94 = .ok (.iload 5, 2) := by decide +kernel
theorem dC_root_96 : decode cC_root 96 = .ok (.bipush 20, 2) := by decide +kernel
theorem dC_root_98 : decode cC_root 98 = .ok (.ishl, 1) := by decide +kernel
theorem dC_root_99 : decode cC_root 99 = .ok (.ldc 64, 2) := by decide +kernel
theorem dC_root_101 : decode cC_root 101 = .ok (.ior, 1) := by decide +kernel
theorem dC_root_102 : decode cC_root 102 = .ok (.iload 6, 2) := by decide +kernel
theorem dC_root_104 : decode cC_root 104 = .ok (.ior, 1) := by decide +kernel
theorem dC_root_105 : decode cC_root 105 = .ok (.invokevirtual 65, 3) := by decide +kernel
theorem dC_root_108 : decode cC_root 108 = .ok (.pop, 1) := by decide +kernel
theorem dC_root_109 : decode cC_root 109 = .ok (.aload_n 0, 1) := by decide +kernel
theorem dC_root_110 : decode cC_root 110 = .ok (.getfield 21, 3) := by decide +kernel
theorem dC_root_113 : decode cC_root 113 = .ok (.aload_n 0, 1) := by decide +kernel
theorem dC_root_114 : decode cC_root 114 = .ok (.getfield 31, 3) := by decide +kernel
theorem dC_root_117 : decode cC_root 117 = .ok (.aload_n 0, 1) := by decide +kernel
theorem dC_root_118 : decode cC_root 118 = .ok (.iload_n 1, 1) := by decide +kernel
theorem dC_root_119 : decode cC_root 119 = .ok (.invokevirtual 69, 3) := by decide +kernel
theorem dC_root_122 : decode cC_root 122 = .ok (.lastore, 1) := by decide +kernel
theorem dC_root_123 : decode cC_root 123 = .ok (.aload_n 0, 1) := by decide +kernel
theorem dC_root_124 : decode cC_root 124 = .ok (.getfield 25, 3) := by decide +kernel
theorem dC_root_127 : decode cC_root 127 = .ok (.aload_n 0, 1) := by decide +kernel
theorem dC_root_128 : decode cC_root 128 = .ok (.getfield 31, 3) := by decide +kernel
theorem dC_root_131 : decode cC_root 131 = .ok (.aload_n 0, 1) := by decide +kernel
theorem dC_root_132 : decode cC_root 132 = .ok (.iload_n 1, 1) := by decide +kernel
theorem dC_root_133 : decode cC_root 133 = .ok (.invokevirtual 72, 3) := by decide +kernel
theorem dC_root_136 : decode cC_root 136 = .ok (.lastore, 1) := by decide +kernel
theorem dC_root_137 : decode cC_root 137 = .ok (.aload_n 0, 1) := by decide +kernel
theorem dC_root_138 : decode cC_root 138 = .ok (.getfield 28, 3) := by decide +kernel
theorem dC_root_141 : decode cC_root 141 = .ok (.aload_n 0, 1) := by decide +kernel
theorem dC_root_142 : decode cC_root 142 = .ok (.getfield 31, 3) := by decide +kernel
theorem dC_root_145 : decode cC_root 145 = .ok (.iload 5, 2) := by decide +kernel
theorem dC_root_147 : decode cC_root 147 = .ok (.iastore, 1) := by decide +kernel
theorem dC_root_148 : decode cC_root 148 = .ok (.aload_n 0, 1) := by decide +kernel
theorem dC_root_149 : decode cC_root 149 = .ok (.dup, 1) := by decide +kernel
theorem dC_root_150 : decode cC_root 150 = .ok (.getfield 31, 3) := by decide +kernel
theorem dC_root_153 : decode cC_root 153 = .ok (.iconst 1, 1) := by decide +kernel
theorem dC_root_154 : decode cC_root 154 = .ok (.iadd, 1) := by decide +kernel
theorem dC_root_155 : decode cC_root 155 = .ok (.putfield 31, 3) := by decide +kernel
theorem dC_root_158 : decode cC_root 158 = .ok (.aload_n 0, 1) := by decide +kernel
theorem dC_root_159 : decode cC_root 159 = .ok (.iload_n 1, 1) := by decide +kernel
theorem dC_root_160 : decode cC_root 160 = .ok (.invokevirtual 69, 3) := by decide +kernel
theorem dC_root_163 : decode cC_root 163 = .ok (.l2i, 1) := by decide +kernel
theorem dC_root_164 : decode cC_root 164 = .ok (.ireturn, 1) := by decide +kernel
theorem dC_fitsSpace_0 : decode cC_fitsSpace 0 = .ok (.lload_n 1, 1) := by decide +kernel
theorem dC_fitsSpace_1 : decode cC_fitsSpace 1 = .ok (.lconst 0, 1) := by decide +kernel
theorem dC_fitsSpace_2 : decode cC_fitsSpace 2 = .ok (.lcmp, 1) := by decide +kernel
theorem dC_fitsSpace_3 : decode cC_fitsSpace 3 = .ok (.ifCond .lt 20, 3) := by decide +kernel
theorem dC_fitsSpace_6 : decode cC_fitsSpace 6 = .ok (.lload_n 1, 1) := by decide +kernel
theorem dC_fitsSpace_7 : decode cC_fitsSpace 7 = .ok (.ldc2_w 81, 3) := by decide +kernel
theorem dC_fitsSpace_10 : decode cC_fitsSpace 10 = .ok (.iload_n 0, 1) := by decide +kernel
theorem dC_fitsSpace_11 : decode cC_fitsSpace 11 = .ok (.invokestatic 56, 3) := by decide +kernel
theorem dC_fitsSpace_14 : decode cC_fitsSpace 14 = .ok (.lsub, 1) := by decide +kernel
theorem dC_fitsSpace_15 : decode cC_fitsSpace 15 = .ok (.lcmp, 1) := by decide +kernel
theorem dC_fitsSpace_16 : decode cC_fitsSpace 16 = .ok (.ifCond .gt 7, 3) := by decide +kernel
theorem dC_fitsSpace_19 : decode cC_fitsSpace 19 = .ok (.iconst 1, 1) := by decide +kernel
theorem dC_fitsSpace_20 : decode cC_fitsSpace 20 = .ok (.goto 4, 3) := by decide +kernel
theorem dC_fitsSpace_23 : decode cC_fitsSpace 23 = .ok (.iconst 0, 1) := by decide +kernel
theorem dC_fitsSpace_24 : decode cC_fitsSpace 24 = .ok (.ireturn, 1) := by decide +kernel
theorem dC_packed_0 : decode cC_packed 0 = .ok (.lload_n 2, 1) := by decide +kernel
theorem dC_packed_1 : decode cC_packed 1 = .ok (.lload_n 0, 1) := by decide +kernel
theorem dC_packed_2 : decode cC_packed 2 = .ok (.lsub, 1) := by decide +kernel
theorem dC_packed_3 : decode cC_packed 3 = .ok (.ldc2_w 163, 3) := by decide +kernel
theorem dC_packed_6 : decode cC_packed 6 = .ok (.lcmp, 1) := by decide +kernel
theorem dC_packed_7 : decode cC_packed 7 = .ok (.ifCond .gt 23, 3) := by decide +kernel
theorem dC_packed_10 : decode cC_packed 10 = .ok (.ldc 96, 2) := by decide +kernel
theorem dC_packed_12 : decode cC_packed 12 = .ok (.lload_n 2, 1) := by decide +kernel
theorem dC_packed_13 : decode cC_packed 13 = .ok (.ldc2_w 163, 3) := by decide +kernel
theorem dC_packed_16 : decode cC_packed 16 = .ok (.land, 1) := by decide +kernel
theorem dC_packed_17 : decode cC_packed 17 = .ok (.l2i, 1) := by decide +kernel
theorem dC_packed_18 : decode cC_packed 18 = .ok (.bipush 8, 2) := by decide +kernel
theorem dC_packed_20 : decode cC_packed 20 = .ok (.ishl, 1) := by decide +kernel
theorem dC_packed_21 : decode cC_packed 21 = .ok (.ior, 1) := by decide +kernel
theorem dC_packed_22 : decode cC_packed 22 = .ok (.lload_n 0, 1) := by decide +kernel
theorem dC_packed_23 : decode cC_packed 23 = .ok (.ldc2_w 165, 3) := by decide +kernel
theorem dC_packed_26 : decode cC_packed 26 = .ok (.land, 1) := by decide +kernel
theorem dC_packed_27 : decode cC_packed 27 = .ok (.l2i, 1) := by decide +kernel
theorem dC_packed_28 : decode cC_packed 28 = .ok (.ior, 1) := by decide +kernel
theorem dC_packed_29 : decode cC_packed 29 = .ok (.ireturn, 1) := by decide +kernel
theorem dC_packed_30 : decode cC_packed 30 = .ok (.lload_n 0, 1) := by decide +kernel
theorem dC_packed_31 : decode cC_packed 31 = .ok (.lload_n 2, 1) := by decide +kernel
theorem dC_packed_32 : decode cC_packed 32 = .ok (.invokestatic 167, 3) := by decide +kernel
theorem dC_packed_35 : decode cC_packed 35 = .ok (.istore 4, 2) := by decide +kernel
theorem dC_packed_37 : decode cC_packed 37 = .ok (.lload_n 0, 1) := by decide +kernel
theorem dC_packed_38 : decode cC_packed 38 = .ok (.iload 4, 2) := by decide +kernel
theorem dC_packed_40 : decode cC_packed 40 = .ok (.invokestatic 170, 3) := by decide +kernel
theorem dC_packed_43 : decode cC_packed 43 = .ok (.lstore 5, 2) := by decide +kernel
theorem dC_packed_45 : decode cC_packed 45 = .ok (.lload_n 2, 1) := by decide +kernel
theorem dC_packed_46 : decode cC_packed 46 = .ok (.iload 4, 2) := by decide +kernel
theorem dC_packed_48 : decode cC_packed 48 = .ok (.invokestatic 174, 3) := by decide +kernel
theorem dC_packed_51 : decode cC_packed 51 = .ok (.lstore 7, 2) := by decide +kernel
theorem dC_packed_53 : decode cC_packed 53 = .ok (.lload 5, 2) := by decide +kernel
theorem dC_packed_55 : decode cC_packed 55 = .ok (.iload 4, 2) := by decide +kernel
theorem dC_packed_57 : decode cC_packed 57 = .ok (.lshr, 1) := by decide +kernel
theorem dC_packed_58 : decode cC_packed 58 = .ok (.l2i, 1) := by decide +kernel
theorem dC_packed_59 : decode cC_packed 59 = .ok (.sipush 255, 3) := by decide +kernel
theorem dC_packed_62 : decode cC_packed 62 = .ok (.iand, 1) := by decide +kernel
theorem dC_packed_63 : decode cC_packed 63 = .ok (.iload 4, 2) := by decide +kernel
theorem dC_packed_65 : decode cC_packed 65 = .ok (.bipush 7, 2) := by decide +kernel
theorem dC_packed_67 : decode cC_packed 67 = .ok (.iand, 1) := by decide +kernel
theorem dC_packed_68 : decode cC_packed 68 = .ok (.ior, 1) := by decide +kernel
theorem dC_packed_69 : decode cC_packed 69 = .ok (.istore 9, 2) := by decide +kernel
theorem dC_packed_71 : decode cC_packed 71 = .ok (.lload 7, 2) := by decide +kernel
theorem dC_packed_73 : decode cC_packed 73 = .ok (.iload 4, 2) := by decide +kernel
theorem dC_packed_75 : decode cC_packed 75 = .ok (.lshr, 1) := by decide +kernel
theorem dC_packed_76 : decode cC_packed 76 = .ok (.l2i, 1) := by decide +kernel
theorem dC_packed_77 : decode cC_packed 77 = .ok (.bipush 63, 2) := by decide +kernel
theorem dC_packed_79 : decode cC_packed 79 = .ok (.iand, 1) := by decide +kernel
theorem dC_packed_80 : decode cC_packed 80 = .ok (.iload 4, 2) := by decide +kernel
theorem dC_packed_82 : decode cC_packed 82 = .ok (.iconst 3, 1) := by decide +kernel
theorem dC_packed_83 : decode cC_packed 83 = .ok (.ishr, 1) := by decide +kernel
theorem dC_packed_84 : decode cC_packed 84 = .ok (.ior, 1) := by decide +kernel
theorem dC_packed_85 : decode cC_packed 85 = .ok (.istore 10, 2) := by decide +kernel
theorem dC_packed_87 : decode cC_packed 87 = .ok (.lload 5, 2) := by decide +kernel
theorem dC_packed_89 : decode cC_packed 89 = .ok (.lload_n 0, 1) := by decide +kernel
theorem dC_packed_90 : decode cC_packed 90 = .ok (.lcmp, 1) := by decide +kernel
theorem dC_packed_91 : decode cC_packed 91 = .ok (.ifCond .ne 15, 3) := by decide +kernel
theorem dC_packed_94 : decode cC_packed 94 = .ok (.lload 7, 2) := by decide +kernel
theorem dC_packed_96 : decode cC_packed 96 = .ok (.lload_n 2, 1) := by decide +kernel
theorem dC_packed_97 : decode cC_packed 97 = .ok (.lcmp, 1) := by decide +kernel
theorem dC_packed_98 : decode cC_packed 98 = .ok (.ifCond .ne 8, 3) := by decide +kernel
theorem dC_packed_101 : decode cC_packed 101 = .ok (.ldc 96, 2) := by decide +kernel
theorem dC_packed_103 : decode cC_packed 103 = .ok (.goto 4, 3) := by decide +kernel
theorem dC_packed_106 : decode cC_packed 106 = .ok (.iconst 0, 1) := by decide +kernel
theorem dC_packed_107 : decode cC_packed 107 = .ok (.istore 11, 2) := by decide +kernel
theorem dC_packed_109 : decode cC_packed 109 = .ok (.iload 11, 2) := by decide +kernel
theorem dC_packed_111 : decode cC_packed 111 = .ok (.sipush 16384, 3) := by decide +kernel
theorem dC_packed_114 : decode cC_packed 114 = .ok (.ior, 1) := by decide +kernel
theorem dC_packed_115 : decode cC_packed 115 = .ok (.iload 10, 2) := by decide +kernel
theorem dC_packed_117 : decode cC_packed 117 = .ok (.bipush 8, 2) := by decide +kernel
theorem dC_packed_119 : decode cC_packed 119 = .ok (.ishl, 1) := by decide +kernel
theorem dC_packed_120 : decode cC_packed 120 = .ok (.ior, 1) := by decide +kernel
theorem dC_packed_121 : decode cC_packed 121 = .ok (.iload 9, 2) := by decide +kernel
theorem dC_packed_123 : decode cC_packed 123 = .ok (.ior, 1) := by decide +kernel
theorem dC_packed_124 : decode cC_packed 124 = .ok (.ireturn, 1) := by decide +kernel
theorem dC_fittingExponent_0 : decode cC_fittingExponent 0 = .ok (.lload_n 2, 1) := by decide +kernel
theorem dC_fittingExponent_1 : decode cC_fittingExponent 1 = .ok (.lload_n 0, 1) := by decide +kernel
theorem dC_fittingExponent_2 : decode cC_fittingExponent 2 = .ok (.lsub, 1) := by decide +kernel
theorem dC_fittingExponent_3 : decode cC_fittingExponent 3 = .ok (.bipush 7, 2) := by decide +kernel
theorem dC_fittingExponent_5 : decode cC_fittingExponent 5 = .ok (.lshr, 1) := by decide +kernel
theorem dC_fittingExponent_6 : decode cC_fittingExponent 6 = .ok (.invokestatic 177, 3) := by decide +kernel
theorem dC_fittingExponent_9 : decode cC_fittingExponent 9 = .ok (.istore 4, 2) := by decide +kernel
theorem dC_fittingExponent_11 : decode cC_fittingExponent 11 = .ok (.lload_n 2, 1) := by decide +kernel
theorem dC_fittingExponent_12 : decode cC_fittingExponent 12 = .ok (.iload 4, 2) := by decide +kernel
theorem dC_fittingExponent_14 : decode cC_fittingExponent 14 = .ok (.invokestatic 174, 3) := by decide +kernel
theorem dC_fittingExponent_17 : decode cC_fittingExponent 17 = .ok (.lload_n 0, 1) := by decide +kernel
theorem dC_fittingExponent_18 : decode cC_fittingExponent 18 = .ok (.iload 4, 2) := by decide +kernel
theorem dC_fittingExponent_20 : decode cC_fittingExponent 20 = .ok (.invokestatic 170, 3) := by decide +kernel
theorem dC_fittingExponent_23 : decode cC_fittingExponent 23 = .ok (.lsub, 1) := by decide +kernel
theorem dC_fittingExponent_24 : decode cC_fittingExponent 24 = .ok (.iload 4, 2) := by decide +kernel
theorem dC_fittingExponent_26 : decode cC_fittingExponent 26 = .ok (.iconst 3, 1) := by decide +kernel
theorem dC_fittingExponent_27 : decode cC_fittingExponent 27 = .ok (.iadd, 1) := by decide +kernel
theorem dC_fittingExponent_28 : decode cC_fittingExponent 28 = .ok (.lshr, 1) := by decide +kernel
theorem dC_fittingExponent_29 : decode cC_fittingExponent 29 = .ok (.lstore 5, 2) := by decide +kernel
theorem dC_fittingExponent_31 : decode cC_fittingExponent 31 = .ok (.lload 5, 2) := by decide +kernel
theorem dC_fittingExponent_33 : decode cC_fittingExponent 33 = .ok (.ldc2_w 181, 3) := by decide +kernel
theorem dC_fittingExponent_36 : decode cC_fittingExponent 36 = .ok (.lcmp, 1) := by decide +kernel
theorem dC_fittingExponent_37 : decode cC_fittingExponent 37 = .ok (.ifCond .lt 10, 3) := by decide +kernel
theorem dC_fittingExponent_40 : decode cC_fittingExponent 40 = .ok (.iload 4, 2) := by decide +kernel
theorem dC_fittingExponent_42 : decode cC_fittingExponent 42 = .ok (.iconst 1, 1) := by decide +kernel
theorem dC_fittingExponent_43 : decode cC_fittingExponent 43 = .ok (.iadd, 1) := by decide +kernel
theorem dC_fittingExponent_44 : decode cC_fittingExponent 44 = .ok (.goto 5, 3) := by decide +kernel
theorem dC_fittingExponent_47 : decode cC_fittingExponent 47 = .ok (.iload 4, 2) := by decide +kernel
theorem dC_fittingExponent_49 : decode cC_fittingExponent 49 = .ok (.ireturn, 1) := by decide +kernel
theorem dC_bitsOf_0 : decode cC_bitsOf 0 = .ok (.iconst 0, 1) := by decide +kernel
theorem dC_bitsOf_1 : decode cC_bitsOf 1 = .ok (.istore_n 2, 1) := by decide +kernel
theorem dC_bitsOf_2 : decode cC_bitsOf 2 = .ok (.iload_n 2, 1) := by decide +kernel
theorem dC_bitsOf_3 : decode cC_bitsOf 3 = .ok (.bipush 26, 2) := by decide +kernel
theorem dC_bitsOf_5 : decode cC_bitsOf 5 = .ok (.if_icmp .ge 17, 3) := by decide +kernel
theorem dC_bitsOf_8 : decode cC_bitsOf 8 = .ok (.lload_n 0, 1) := by decide +kernel
theorem dC_bitsOf_9 : decode cC_bitsOf 9 = .ok (.iload_n 2, 1) := by decide +kernel
theorem dC_bitsOf_10 : decode cC_bitsOf 10 = .ok (.lshr, 1) := by decide +kernel
theorem dC_bitsOf_11 : decode cC_bitsOf 11 = .ok (.lconst 0, 1) := by decide +kernel
theorem dC_bitsOf_12 : decode cC_bitsOf 12 = .ok (.lcmp, 1) := by decide +kernel
theorem dC_bitsOf_13 : decode cC_bitsOf 13 = .ok (.ifCond .eq 9, 3) := by decide +kernel
theorem dC_bitsOf_16 : decode cC_bitsOf 16 = .ok (.iinc 2 1, 3) := by decide +kernel
theorem dC_bitsOf_19 : decode cC_bitsOf 19 = .ok (.goto (-17), 3) := by decide +kernel
theorem dC_bitsOf_22 : decode cC_bitsOf 22 = .ok (.iload_n 2, 1) := by decide +kernel
theorem dC_bitsOf_23 : decode cC_bitsOf 23 = .ok (.ireturn, 1) := by decide +kernel
theorem dC_roundedUp_0 : decode cC_roundedUp 0 = .ok (.lload_n 0, 1) := by decide +kernel
theorem dC_roundedUp_1 : decode cC_roundedUp 1 = .ok (.lconst 1, 1) := by decide +kernel
theorem dC_roundedUp_2 : decode cC_roundedUp 2 = .ok (.iload_n 2, 1) := by decide +kernel
theorem dC_roundedUp_3 : decode cC_roundedUp 3 = .ok (.iconst 3, 1) := by decide +kernel
theorem dC_roundedUp_4 : decode cC_roundedUp 4 = .ok (.iadd, 1) := by decide +kernel
theorem dC_roundedUp_5 : decode cC_roundedUp 5 = .ok (.lshl, 1) := by decide +kernel
theorem dC_roundedUp_6 : decode cC_roundedUp 6 = .ok (.ladd, 1) := by decide +kernel
theorem dC_roundedUp_7 : decode cC_roundedUp 7 = .ok (.lconst 1, 1) := by decide +kernel
theorem dC_roundedUp_8 : decode cC_roundedUp 8 = .ok (.lsub, 1) := by decide +kernel
theorem dC_roundedUp_9 : decode cC_roundedUp 9 = .ok (.iload_n 2, 1) := by decide +kernel
theorem dC_roundedUp_10 : decode cC_roundedUp 10 = .ok (.invokestatic 170, 3) := by decide +kernel
theorem dC_roundedUp_13 : decode cC_roundedUp 13 = .ok (.lreturn, 1) := by decide +kernel
theorem dC_roundedDown_0 : decode cC_roundedDown 0 = .ok (.lload_n 0, 1) := by decide +kernel
theorem dC_roundedDown_1 : decode cC_roundedDown 1 = .ok (.lconst 1, 1) := by decide +kernel
theorem dC_roundedDown_2 : decode cC_roundedDown 2 = .ok (.iload_n 2, 1) := by decide +kernel
theorem dC_roundedDown_3 : decode cC_roundedDown 3 = .ok (.iconst 3, 1) := by decide +kernel
theorem dC_roundedDown_4 : decode cC_roundedDown 4 = .ok (.iadd, 1) := by decide +kernel
theorem dC_roundedDown_5 : decode cC_roundedDown 5 = .ok (.lshl, 1) := by decide +kernel
theorem dC_roundedDown_6 : decode cC_roundedDown 6 = .ok (.lneg, 1) := by decide +kernel
theorem dC_roundedDown_7 : decode cC_roundedDown 7 = .ok (.land, 1) := by decide +kernel
theorem dC_roundedDown_8 : decode cC_roundedDown 8 = .ok (.lreturn, 1) := by decide +kernel
theorem dC_become_0 : decode cC_become 0 = .ok (.iload_n 1, 1) := by decide +kernel
theorem dC_become_1 : decode cC_become 1 = .ok (.ifCond .ne 5, 3) := by decide +kernel
theorem dC_become_4 : decode cC_become 4 = .ok (.iconst 0, 1) := by decide +kernel
theorem dC_become_5 : decode cC_become 5 = .ok (.ireturn, 1) := by decide +kernel
theorem dC_become_6 : decode cC_become 6 = .ok (.aload_n 0, 1) := by decide +kernel
theorem dC_become_7 : decode cC_become 7 = .ok (.getfield 9, 3) := by decide +kernel
theorem dC_become_10 : decode cC_become 10 = .ok (.iload_n 1, 1) := by decide +kernel
theorem dC_become_11 : decode cC_become 11 = .ok (.iload_n 2, 1) := by decide +kernel
theorem dC_become_12 : decode cC_become 12 = .ok (.bastore, 1) := by decide +kernel
theorem dC_become_13 : decode cC_become 13 = .ok (.aload_n 0, 1) := by decide +kernel
theorem dC_become_14 : decode cC_become 14 = .ok (.getfield 13, 3) := by decide +kernel
theorem dC_become_17 : decode cC_become 17 = .ok (.iload_n 1, 1) := by decide +kernel
theorem dC_become_18 : decode cC_become 18 = .ok (.iload_n 3, 1) := by decide +kernel
theorem dC_become_19 : decode cC_become 19 = .ok (.iastore, 1) := by decide +kernel
theorem dC_become_20 : decode cC_become 20 = .ok (.aload_n 0, 1) := by decide +kernel
theorem dC_become_21 : decode cC_become 21 = .ok (.getfield 17, 3) := by decide +kernel
theorem dC_become_24 : decode cC_become 24 = .ok (.iload_n 1, 1) := by decide +kernel
theorem dC_become_25 : decode cC_become 25 = .ok (.iload 4, 2) := by decide +kernel
theorem dC_become_27 : decode cC_become 27 = .ok (.iastore, 1) := by decide +kernel
theorem dC_become_28 : decode cC_become 28 = .ok (.iload_n 2, 1) := by decide +kernel
theorem dC_become_29 : decode cC_become 29 = .ok (.ireturn, 1) := by decide +kernel
theorem dC_put_0 : decode cC_put 0 = .ok (.iload_n 1, 1) := by decide +kernel
theorem dC_put_1 : decode cC_put 1 = .ok (.invokestatic 75, 3) := by decide +kernel
theorem dC_put_4 : decode cC_put 4 = .ok (.ifCond .ne 13, 3) := by decide +kernel
theorem dC_put_7 : decode cC_put 7 = .ok (.new 35, 3) := by decide +kernel
theorem dC_put_10 : decode cC_put 10 = .ok (.dup, 1) := by decide +kernel
theorem dC_put_11 : decode cC_put 11 = .ok (.ldc 79, 2) := by decide +kernel
theorem dC_put_13 : decode cC_put 13 = .ok (.invokespecial 39, 3) := by decide +kernel
theorem dC_put_16 : decode cC_put 16 = .ok (.athrow, 1) := by decide +kernel
theorem dC_put_17 : decode cC_put 17 = .ok (.aload_n 0, 1) := by decide +kernel
theorem dC_put_18 : decode cC_put 18 = .ok (.iload_n 1, 1) := by decide +kernel
theorem dC_put_19 : decode cC_put 19 = .ok (.iconst 0, 1) := by decide +kernel
theorem dC_put_20 : decode cC_put 20 = .ok (.iload_n 2, 1) := by decide +kernel
theorem dC_put_21 : decode cC_put 21 = .ok (.iload_n 3, 1) := by decide +kernel
theorem dC_put_22 : decode cC_put 22 = .ok (.ldc 20, 2) := by decide +kernel
theorem dC_put_24 : decode cC_put 24 = .ok (.ixor, 1) := by decide +kernel
theorem dC_put_25 : decode cC_put 25 = .ok (.invokevirtual 65, 3) := by decide +kernel
theorem dC_put_28 : decode cC_put 28 = .ok (.pop, 1) := by decide +kernel
theorem dC_put_29 : decode cC_put 29 = .ok (.return_, 1) := by decide +kernel
theorem dC_isRegister_0 : decode cC_isRegister 0 = .ok (.iload_n 0, 1) := by decide +kernel
theorem dC_isRegister_1 : decode cC_isRegister 1 = .ok (.ifCond .lt 13, 3) := by decide +kernel
theorem dC_isRegister_4 : decode cC_isRegister 4 = .ok (.iload_n 0, 1) := by decide +kernel
theorem dC_isRegister_5 : decode cC_isRegister 5 = .ok (.bipush 32, 2) := by decide +kernel
theorem dC_isRegister_7 : decode cC_isRegister 7 = .ok (.if_icmp .ge 7, 3) := by decide +kernel
theorem dC_isRegister_10 : decode cC_isRegister 10 = .ok (.iconst 1, 1) := by decide +kernel
theorem dC_isRegister_11 : decode cC_isRegister 11 = .ok (.goto 4, 3) := by decide +kernel
theorem dC_isRegister_14 : decode cC_isRegister 14 = .ok (.iconst 0, 1) := by decide +kernel
theorem dC_isRegister_15 : decode cC_isRegister 15 = .ok (.ireturn, 1) := by decide +kernel
theorem dC_narrow_0 : decode cC_narrow 0 = .ok (.iload_n 2, 1) := by decide +kernel
theorem dC_narrow_1 : decode cC_narrow 1 = .ok (.invokestatic 75, 3) := by decide +kernel
theorem dC_narrow_4 : decode cC_narrow 4 = .ok (.ifCond .eq 10, 3) := by decide +kernel
theorem dC_narrow_7 : decode cC_narrow 7 = .ok (.iload_n 1, 1) := by decide +kernel
theorem dC_narrow_8 : decode cC_narrow 8 = .ok (.invokestatic 75, 3) := by decide +kernel
theorem dC_narrow_11 : decode cC_narrow 11 = .ok (.ifCond .ne 13, 3) := by decide +kernel
theorem dC_narrow_14 : decode cC_narrow 14 = .ok (.new 35, 3) := by decide +kernel
theorem dC_narrow_17 : decode cC_narrow 17 = .ok (.dup, 1) := by decide +kernel
theorem dC_narrow_18 : decode cC_narrow 18 = .ok (.ldc 79, 2) := by decide +kernel
theorem dC_narrow_20 : decode cC_narrow 20 = .ok (.invokespecial 39, 3) := by decide +kernel
theorem dC_narrow_23 : decode cC_narrow 23 = .ok (.athrow, 1) := by decide +kernel
theorem dC_narrow_24 : decode cC_narrow 24 = .ok (.aload_n 0, 1) := by decide +kernel
theorem dC_narrow_25 : decode cC_narrow 25 = .ok (.getfield 13, 3) := by decide +kernel
theorem dC_narrow_28 : decode cC_narrow 28 = .ok (.iload_n 2, 1) := by decide +kernel
theorem dC_narrow_29 : decode cC_narrow 29 = .ok (.iaload, 1) := by decide +kernel
theorem dC_narrow_30 : decode cC_narrow 30 = .ok (.invokestatic 56, 3) := by decide +kernel
theorem dC_narrow_33 : decode cC_narrow 33 = .ok (.lstore 5, 2) := by decide +kernel
theorem dC_narrow_35 : decode cC_narrow 35 = .ok (.iload_n 3, 1) := by decide +kernel
theorem dC_narrow_36 : decode cC_narrow 36 = .ok (.invokestatic 56, 3) := by decide +kernel
theorem dC_narrow_39 : decode cC_narrow 39 = .ok (.lstore 7, 2) := by decide +kernel
theorem dC_narrow_41 : decode cC_narrow 41 = .ok (.lload 5, 2) := by decide +kernel
theorem dC_narrow_43 : decode cC_narrow 43 = .ok (.lload 5, 2) := by decide +kernel
theorem dC_narrow_45 : decode cC_narrow 45 = .ok (.lload 7, 2) := by decide +kernel
theorem dC_narrow_47 : decode cC_narrow 47 = .ok (.ladd, 1) := by decide +kernel
theorem dC_narrow_48 : decode cC_narrow 48 = .ok (.ldc2_w 81, 3) := by decide +kernel
theorem dC_narrow_51 : decode cC_narrow 51 = .ok (.invokestatic 83, 3) := by decide +kernel
theorem dC_narrow_54 : decode cC_narrow 54 = .ok (.invokestatic 60, 3) := by decide +kernel
theorem dC_narrow_57 : decode cC_narrow 57 = .ok (.istore 9, 2) := by decide +kernel
theorem dC_narrow_59 : decode cC_narrow 59 = .ok (.aload_n 0, 1) := by decide +kernel
theorem dC_narrow_60 : decode cC_narrow 60 = .ok (.iload_n 2, 1) := by decide +kernel
theorem dC_narrow_61 : decode cC_narrow 61 = .ok (.invokevirtual 89, 3) := by decide +kernel
theorem dC_narrow_64 : decode cC_narrow 64 = .ok (.ifCond .eq 32, 3) := by decide +kernel
theorem dC_narrow_67 : decode cC_narrow 67 = .ok (.aload_n 0, 1) := by decide +kernel
theorem dC_narrow_68 : decode cC_narrow 68 = .ok (.iload_n 2, 1) := by decide +kernel
theorem dC_narrow_69 : decode cC_narrow 69 = .ok (.lload 5, 2) := by decide +kernel
theorem dC_narrow_71 : decode cC_narrow 71 = .ok (.lload 7, 2) := by decide +kernel
theorem dC_narrow_73 : decode cC_narrow 73 = .ok (.invokevirtual 92, 3) := by decide +kernel
theorem dC_narrow_76 : decode cC_narrow 76 = .ok (.ifCond .eq 20, 3) := by decide +kernel
theorem dC_narrow_79 : decode cC_narrow 79 = .ok (.iload 4, 2) := by decide +kernel
theorem dC_narrow_81 : decode cC_narrow 81 = .ok (.ifCond .eq 11, 3) := by decide +kernel
theorem dC_narrow_84 : decode cC_narrow 84 = .ok (.iload 9, 2) := by decide +kernel
theorem dC_narrow_86 : decode cC_narrow 86 = .ok (.ldc 96, 2) := by decide +kernel
theorem dC_narrow_88 : decode cC_narrow 88 = .ok (.iand, 1) := by decide +kernel
theorem dC_narrow_89 : decode cC_narrow 89 = .ok (.ifCond .eq 7, 3) := by decide +kernel
theorem dC_narrow_92 : decode cC_narrow 92 = .ok (.iconst 1, 1) := by decide +kernel
theorem dC_narrow_93 : decode cC_narrow 93 = .ok (.goto 4, 3) := by decide +kernel
theorem dC_narrow_96 : decode cC_narrow 96 = .ok (.iconst 0, 1) := by decide +kernel
theorem dC_narrow_97 : decode cC_narrow 97 = .ok (.istore 10, 2) := by decide +kernel
theorem dC_narrow_99 : decode cC_narrow 99 = .ok (.aload_n 0, 1) := by decide +kernel
theorem dC_narrow_100 : decode cC_narrow 100 = .ok (.iload_n 1, 1) := by decide +kernel
theorem dC_narrow_101 : decode cC_narrow 101 = .ok (.iload 10, 2) := by decide +kernel
theorem dC_narrow_103 : decode cC_narrow 103 = .ok (.aload_n 0, 1) := by decide +kernel
theorem dC_narrow_104 : decode cC_narrow 104 = .ok (.getfield 13, 3) := by decide +kernel
theorem dC_narrow_107 : decode cC_narrow 107 = .ok (.iload_n 2, 1) := by decide +kernel
theorem dC_narrow_108 : decode cC_narrow 108 = .ok (.iaload, 1) := by decide +kernel
theorem dC_narrow_109 : decode cC_narrow 109 = .ok (.aload_n 0, 1) := by decide +kernel
theorem dC_narrow_110 : decode cC_narrow 110 = .ok (.getfield 17, 3) := by decide +kernel
theorem dC_narrow_113 : decode cC_narrow 113 = .ok (.iload_n 2, 1) := by decide +kernel
theorem dC_narrow_114 : decode cC_narrow 114 = .ok (.iaload, 1) := by decide +kernel
theorem dC_narrow_115 : decode cC_narrow 115 = .ok (.sipush (-32768), 3) := by decide +kernel
theorem dC_narrow_118 : decode cC_narrow 118 = .ok (.iand, 1) := by decide +kernel
theorem dC_narrow_119 : decode cC_narrow 119 = .ok (.iload 9, 2) := by decide +kernel
theorem dC_narrow_121 : decode cC_narrow 121 = .ok (.sipush 32767, 3) := by decide +kernel
theorem dC_narrow_124 : decode cC_narrow 124 = .ok (.iand, 1) := by decide +kernel
theorem dC_narrow_125 : decode cC_narrow 125 = .ok (.ior, 1) := by decide +kernel
theorem dC_narrow_126 : decode cC_narrow 126 = .ok (.invokevirtual 65, 3) := by decide +kernel
theorem dC_narrow_129 : decode cC_narrow 129 = .ok (.ireturn, 1) := by decide +kernel
theorem dC_isOpenWithTag_0 : decode cC_isOpenWithTag 0 = .ok (.aload_n 0, 1) := by decide +kernel
theorem dC_isOpenWithTag_1 : decode cC_isOpenWithTag 1 = .ok (.getfield 9, 3) := by decide +kernel
theorem dC_isOpenWithTag_4 : decode cC_isOpenWithTag 4 = .ok (.iload_n 1, 1) := by decide +kernel
theorem dC_isOpenWithTag_5 : decode cC_isOpenWithTag 5 = .ok (.baload, 1) := by decide +kernel
theorem dC_isOpenWithTag_6 : decode cC_isOpenWithTag 6 = .ok (.ifCond .eq 21, 3) := by decide +kernel
theorem dC_isOpenWithTag_9 : decode cC_isOpenWithTag 9 = .ok (.aload_n 0, 1) := by decide +kernel
theorem dC_isOpenWithTag_10 : decode cC_isOpenWithTag 10 = .ok (.getfield 17, 3) := by decide +kernel
theorem dC_isOpenWithTag_13 : decode cC_isOpenWithTag 13 = .ok (.iload_n 1, 1) := by decide +kernel
theorem dC_isOpenWithTag_14 : decode cC_isOpenWithTag 14 = .ok (.iaload, 1) := by decide +kernel
theorem dC_isOpenWithTag_15 : decode cC_isOpenWithTag 15 = .ok (.invokestatic 114, 3) := by decide +kernel
theorem dC_isOpenWithTag_18 : decode cC_isOpenWithTag 18 = .ok (.bipush 15, 2) := by decide +kernel
theorem dC_isOpenWithTag_20 : decode cC_isOpenWithTag 20 = .ok (.if_icmp .ne 7, 3) := by decide +kernel
theorem dC_isOpenWithTag_23 : decode cC_isOpenWithTag 23 = .ok (.iconst 1, 1) := by decide +kernel
theorem dC_isOpenWithTag_24 : decode cC_isOpenWithTag 24 = .ok (.goto 4, 3) := by decide +kernel
theorem dC_isOpenWithTag_27 : decode cC_isOpenWithTag 27 = .ok (.iconst 0, 1) := by decide +kernel
theorem dC_isOpenWithTag_28 : decode cC_isOpenWithTag 28 = .ok (.ireturn, 1) := by decide +kernel
theorem dC_typeOf_0 : decode cC_typeOf 0 = .ok (.iload_n 0, 1) := by decide +kernel
theorem dC_typeOf_1 : decode cC_typeOf 1 = .ok (.bipush 16, 2) := by decide +kernel
theorem dC_typeOf_3 : decode cC_typeOf 3 = .ok (.iushr, 1) := by decide +kernel
theorem dC_typeOf_4 : decode cC_typeOf 4 = .ok (.bipush 15, 2) := by decide +kernel
theorem dC_typeOf_6 : decode cC_typeOf 6 = .ok (.iand, 1) := by decide +kernel
theorem dC_typeOf_7 : decode cC_typeOf 7 = .ok (.ireturn, 1) := by decide +kernel
theorem dC_isInBounds_0 : decode cC_isInBounds 0 = .ok (.aload_n 0, 1) := by decide +kernel
theorem dC_isInBounds_1 : decode cC_isInBounds 1 = .ok (.iload_n 1, 1) := by decide +kernel
theorem dC_isInBounds_2 : decode cC_isInBounds 2 = .ok (.invokevirtual 69, 3) := by decide +kernel
theorem dC_isInBounds_5 : decode cC_isInBounds 5 = .ok (.lload_n 2, 1) := by decide +kernel
theorem dC_isInBounds_6 : decode cC_isInBounds 6 = .ok (.lcmp, 1) := by decide +kernel
theorem dC_isInBounds_7 : decode cC_isInBounds 7 = .ok (.ifCond .gt 20, 3) := by decide +kernel
theorem dC_isInBounds_10 : decode cC_isInBounds 10 = .ok (.lload_n 2, 1) := by decide +kernel
theorem dC_isInBounds_11 : decode cC_isInBounds 11 = .ok (.lload 4, 2) := by decide +kernel
theorem dC_isInBounds_13 : decode cC_isInBounds 13 = .ok (.ladd, 1) := by decide +kernel
theorem dC_isInBounds_14 : decode cC_isInBounds 14 = .ok (.aload_n 0, 1) := by decide +kernel
theorem dC_isInBounds_15 : decode cC_isInBounds 15 = .ok (.iload_n 1, 1) := by decide +kernel
theorem dC_isInBounds_16 : decode cC_isInBounds 16 = .ok (.invokevirtual 72, 3) := by decide +kernel
theorem dC_isInBounds_19 : decode cC_isInBounds 19 = .ok (.lcmp, 1) := by decide +kernel
theorem dC_isInBounds_20 : decode cC_isInBounds 20 = .ok (.ifCond .gt 7, 3) := by decide +kernel
theorem dC_isInBounds_23 : decode cC_isInBounds 23 = .ok (.iconst 1, 1) := by decide +kernel
theorem dC_isInBounds_24 : decode cC_isInBounds 24 = .ok (.goto 4, 3) := by decide +kernel
theorem dC_isInBounds_27 : decode cC_isInBounds 27 = .ok (.iconst 0, 1) := by decide +kernel
theorem dC_isInBounds_28 : decode cC_isInBounds 28 = .ok (.ireturn, 1) := by decide +kernel
theorem dC_move_0 : decode cC_move 0 = .ok (.iload_n 2, 1) := by decide +kernel
theorem dC_move_1 : decode cC_move 1 = .ok (.invokestatic 75, 3) := by decide +kernel
theorem dC_move_4 : decode cC_move 4 = .ok (.ifCond .eq 10, 3) := by decide +kernel
theorem dC_move_7 : decode cC_move 7 = .ok (.iload_n 1, 1) := by decide +kernel
theorem dC_move_8 : decode cC_move 8 = .ok (.invokestatic 75, 3) := by decide +kernel
theorem dC_move_11 : decode cC_move 11 = .ok (.ifCond .ne 13, 3) := by decide +kernel
theorem dC_move_14 : decode cC_move 14 = .ok (.new 35, 3) := by decide +kernel
theorem dC_move_17 : decode cC_move 17 = .ok (.dup, 1) := by decide +kernel
theorem dC_move_18 : decode cC_move 18 = .ok (.ldc 79, 2) := by decide +kernel
theorem dC_move_20 : decode cC_move 20 = .ok (.invokespecial 39, 3) := by decide +kernel
theorem dC_move_23 : decode cC_move 23 = .ok (.athrow, 1) := by decide +kernel
theorem dC_move_24 : decode cC_move 24 = .ok (.aload_n 0, 1) := by decide +kernel
theorem dC_move_25 : decode cC_move 25 = .ok (.getfield 17, 3) := by decide +kernel
theorem dC_move_28 : decode cC_move 28 = .ok (.iload_n 2, 1) := by decide +kernel
theorem dC_move_29 : decode cC_move 29 = .ok (.iaload, 1) := by decide +kernel
theorem dC_move_30 : decode cC_move 30 = .ok (.istore 4, 2) := by decide +kernel
theorem dC_move_32 : decode cC_move 32 = .ok (.iload 4, 2) := by decide +kernel
theorem dC_move_34 : decode cC_move 34 = .ok (.iload_n 3, 1) := by decide +kernel
theorem dC_move_35 : decode cC_move 35 = .ok (.invokestatic 97, 3) := by decide +kernel
theorem dC_move_38 : decode cC_move 38 = .ok (.aload_n 0, 1) := by decide +kernel
theorem dC_move_39 : decode cC_move 39 = .ok (.iload_n 2, 1) := by decide +kernel
theorem dC_move_40 : decode cC_move 40 = .ok (.invokevirtual 69, 3) := by decide +kernel
theorem dC_move_43 : decode cC_move 43 = .ok (.lcmp, 1) := by decide +kernel
theorem dC_move_44 : decode cC_move 44 = .ok (.ifCond .ne 22, 3) := by decide +kernel
theorem dC_move_47 : decode cC_move 47 = .ok (.iload 4, 2) := by decide +kernel
theorem dC_move_49 : decode cC_move 49 = .ok (.iload_n 3, 1) := by decide +kernel
theorem dC_move_50 : decode cC_move 50 = .ok (.invokestatic 101, 3) := by decide +kernel
theorem dC_move_53 : decode cC_move 53 = .ok (.aload_n 0, 1) := by decide +kernel
theorem dC_move_54 : decode cC_move 54 = .ok (.iload_n 2, 1) := by decide +kernel
theorem dC_move_55 : decode cC_move 55 = .ok (.invokevirtual 72, 3) := by decide +kernel
theorem dC_move_58 : decode cC_move 58 = .ok (.lcmp, 1) := by decide +kernel
theorem dC_move_59 : decode cC_move 59 = .ok (.ifCond .ne 7, 3) := by decide +kernel
theorem dC_move_62 : decode cC_move 62 = .ok (.iconst 1, 1) := by decide +kernel
theorem dC_move_63 : decode cC_move 63 = .ok (.goto 4, 3) := by decide +kernel
theorem dC_move_66 : decode cC_move 66 = .ok (.iconst 0, 1) := by decide +kernel
theorem dC_move_67 : decode cC_move 67 = .ok (.istore 5, 2) := by decide +kernel
theorem dC_move_69 : decode cC_move 69 = .ok (.aload_n 0, 1) := by decide +kernel
theorem dC_move_70 : decode cC_move 70 = .ok (.iload_n 1, 1) := by decide +kernel
theorem dC_move_71 : decode cC_move 71 = .ok (.aload_n 0, 1) := by decide +kernel
theorem dC_move_72 : decode cC_move 72 = .ok (.iload_n 2, 1) := by decide +kernel
theorem dC_move_73 : decode cC_move 73 = .ok (.invokevirtual 89, 3) := by decide +kernel
theorem dC_move_76 : decode cC_move 76 = .ok (.ifCond .eq 12, 3) := by decide +kernel
theorem dC_move_79 : decode cC_move 79 = .ok (.iload 5, 2) := by decide +kernel
theorem dC_move_81 : decode cC_move 81 = .ok (.ifCond .eq 7, 3) := by decide +kernel
theorem dC_move_84 : decode cC_move 84 = .ok (.iconst 1, 1) := by decide +kernel
theorem dC_move_85 : decode cC_move 85 = .ok (.goto 4, 3) := by decide +kernel
theorem dC_move_88 : decode cC_move 88 = .ok (.iconst 0, 1) := by decide +kernel
theorem dC_move_89 : decode cC_move 89 = .ok (.iload_n 3, 1) := by decide +kernel
theorem dC_move_90 : decode cC_move 90 = .ok (.iload 4, 2) := by decide +kernel
theorem dC_move_92 : decode cC_move 92 = .ok (.invokevirtual 65, 3) := by decide +kernel
theorem dC_move_95 : decode cC_move 95 = .ok (.ireturn, 1) := by decide +kernel
theorem dC_keep_0 : decode cC_keep 0 = .ok (.iload_n 2, 1) := by decide +kernel
theorem dC_keep_1 : decode cC_keep 1 = .ok (.invokestatic 75, 3) := by decide +kernel
theorem dC_keep_4 : decode cC_keep 4 = .ok (.ifCond .eq 10, 3) := by decide +kernel
theorem dC_keep_7 : decode cC_keep 7 = .ok (.iload_n 1, 1) := by decide +kernel
theorem dC_keep_8 : decode cC_keep 8 = .ok (.invokestatic 75, 3) := by decide +kernel
theorem dC_keep_11 : decode cC_keep 11 = .ok (.ifCond .ne 13, 3) := by decide +kernel
theorem dC_keep_14 : decode cC_keep 14 = .ok (.new 35, 3) := by decide +kernel
theorem dC_keep_17 : decode cC_keep 17 = .ok (.dup, 1) := by decide +kernel
theorem dC_keep_18 : decode cC_keep 18 = .ok (.ldc 79, 2) := by decide +kernel
theorem dC_keep_20 : decode cC_keep 20 = .ok (.invokespecial 39, 3) := by decide +kernel
theorem dC_keep_23 : decode cC_keep 23 = .ok (.athrow, 1) := by decide +kernel
theorem dC_keep_24 : decode cC_keep 24 = .ok (.iload_n 3, 1) := by decide +kernel
theorem dC_keep_25 : decode cC_keep 25 = .ok (.iconst (-1), 1) := by decide +kernel
theorem dC_keep_26 : decode cC_keep 26 = .ok (.ixor, 1) := by decide +kernel
theorem dC_keep_27 : decode cC_keep 27 = .ok (.bipush 20, 2) := by decide +kernel
theorem dC_keep_29 : decode cC_keep 29 = .ok (.ishl, 1) := by decide +kernel
theorem dC_keep_30 : decode cC_keep 30 = .ok (.istore 4, 2) := by decide +kernel
theorem dC_keep_32 : decode cC_keep 32 = .ok (.aload_n 0, 1) := by decide +kernel
theorem dC_keep_33 : decode cC_keep 33 = .ok (.iload_n 1, 1) := by decide +kernel
theorem dC_keep_34 : decode cC_keep 34 = .ok (.aload_n 0, 1) := by decide +kernel
theorem dC_keep_35 : decode cC_keep 35 = .ok (.iload_n 2, 1) := by decide +kernel
theorem dC_keep_36 : decode cC_keep 36 = .ok (.invokevirtual 89, 3) := by decide +kernel
theorem dC_keep_39 : decode cC_keep 39 = .ok (.aload_n 0, 1) := by decide +kernel
theorem dC_keep_40 : decode cC_keep 40 = .ok (.getfield 13, 3) := by decide +kernel
theorem dC_keep_43 : decode cC_keep 43 = .ok (.iload_n 2, 1) := by decide +kernel
theorem dC_keep_44 : decode cC_keep 44 = .ok (.iaload, 1) := by decide +kernel
theorem dC_keep_45 : decode cC_keep 45 = .ok (.aload_n 0, 1) := by decide +kernel
theorem dC_keep_46 : decode cC_keep 46 = .ok (.getfield 17, 3) := by decide +kernel
theorem dC_keep_49 : decode cC_keep 49 = .ok (.iload_n 2, 1) := by decide +kernel
theorem dC_keep_50 : decode cC_keep 50 = .ok (.iaload, 1) := by decide +kernel
theorem dC_keep_51 : decode cC_keep 51 = .ok (.iload 4, 2) := by decide +kernel
theorem dC_keep_53 : decode cC_keep 53 = .ok (.iconst (-1), 1) := by decide +kernel
theorem dC_keep_54 : decode cC_keep 54 = .ok (.ixor, 1) := by decide +kernel
theorem dC_keep_55 : decode cC_keep 55 = .ok (.iand, 1) := by decide +kernel
theorem dC_keep_56 : decode cC_keep 56 = .ok (.invokevirtual 65, 3) := by decide +kernel
theorem dC_keep_59 : decode cC_keep 59 = .ok (.ireturn, 1) := by decide +kernel
theorem dC_seal_0 : decode cC_seal 0 = .ok (.iload_n 2, 1) := by decide +kernel
theorem dC_seal_1 : decode cC_seal 1 = .ok (.invokestatic 75, 3) := by decide +kernel
theorem dC_seal_4 : decode cC_seal 4 = .ok (.ifCond .eq 17, 3) := by decide +kernel
theorem dC_seal_7 : decode cC_seal 7 = .ok (.iload_n 1, 1) := by decide +kernel
theorem dC_seal_8 : decode cC_seal 8 = .ok (.invokestatic 75, 3) := by decide +kernel
theorem dC_seal_11 : decode cC_seal 11 = .ok (.ifCond .eq 10, 3) := by decide +kernel
theorem dC_seal_14 : decode cC_seal 14 = .ok (.iload_n 3, 1) := by decide +kernel
theorem dC_seal_15 : decode cC_seal 15 = .ok (.invokestatic 75, 3) := by decide +kernel
theorem dC_seal_18 : decode cC_seal 18 = .ok (.ifCond .ne 13, 3) := by decide +kernel
theorem dC_seal_21 : decode cC_seal 21 = .ok (.new 35, 3) := by decide +kernel
theorem dC_seal_24 : decode cC_seal 24 = .ok (.dup, 1) := by decide +kernel
theorem dC_seal_25 : decode cC_seal 25 = .ok (.ldc 79, 2) := by decide +kernel
theorem dC_seal_27 : decode cC_seal 27 = .ok (.invokespecial 39, 3) := by decide +kernel
theorem dC_seal_30 : decode cC_seal 30 = .ok (.athrow, 1) := by decide +kernel
theorem dC_seal_31 : decode cC_seal 31 = .ok (.aload_n 0, 1) := by decide +kernel
theorem dC_seal_32 : decode cC_seal 32 = .ok (.iload_n 2, 1) := by decide +kernel
theorem dC_seal_33 : decode cC_seal 33 = .ok (.invokevirtual 89, 3) := by decide +kernel
theorem dC_seal_36 : decode cC_seal 36 = .ok (.ifCond .eq 34, 3) := by decide +kernel
theorem dC_seal_39 : decode cC_seal 39 = .ok (.aload_n 0, 1) := by decide +kernel
theorem dC_seal_40 : decode cC_seal 40 = .ok (.iload_n 3, 1) := by decide +kernel
theorem dC_seal_41 : decode cC_seal 41 = .ok (.sipush 128, 3) := by decide +kernel
theorem dC_seal_44 : decode cC_seal 44 = .ok (.invokevirtual 104, 3) := by decide +kernel
theorem dC_seal_47 : decode cC_seal 47 = .ok (.ifCond .eq 23, 3) := by decide +kernel
theorem dC_seal_50 : decode cC_seal 50 = .ok (.aload_n 0, 1) := by decide +kernel
theorem dC_seal_51 : decode cC_seal 51 = .ok (.getfield 13, 3) := by decide +kernel
theorem dC_seal_54 : decode cC_seal 54 = .ok (.iload_n 3, 1) := by decide +kernel
theorem dC_seal_55 : decode cC_seal 55 = .ok (.iaload, 1) := by decide +kernel
theorem dC_seal_56 : decode cC_seal 56 = .ok (.invokestatic 56, 3) := by decide +kernel
theorem dC_seal_59 : decode cC_seal 59 = .ok (.ldc2_w 108, 3) := by decide +kernel
theorem dC_seal_62 : decode cC_seal 62 = .ok (.lcmp, 1) := by decide +kernel
theorem dC_seal_63 : decode cC_seal 63 = .ok (.ifCond .ge 7, 3) := by decide +kernel
theorem dC_seal_66 : decode cC_seal 66 = .ok (.iconst 1, 1) := by decide +kernel
theorem dC_seal_67 : decode cC_seal 67 = .ok (.goto 4, 3) := by decide +kernel
theorem dC_seal_70 : decode cC_seal 70 = .ok (.iconst 0, 1) := by decide +kernel
theorem dC_seal_71 : decode cC_seal 71 = .ok (.istore 4, 2) := by decide +kernel
theorem dC_seal_73 : decode cC_seal 73 = .ok (.aload_n 0, 1) := by decide +kernel
theorem dC_seal_74 : decode cC_seal 74 = .ok (.iload_n 1, 1) := by decide +kernel
theorem dC_seal_75 : decode cC_seal 75 = .ok (.iload 4, 2) := by decide +kernel
theorem dC_seal_77 : decode cC_seal 77 = .ok (.aload_n 0, 1) := by decide +kernel
theorem dC_seal_78 : decode cC_seal 78 = .ok (.getfield 13, 3) := by decide +kernel
theorem dC_seal_81 : decode cC_seal 81 = .ok (.iload_n 2, 1) := by decide +kernel
theorem dC_seal_82 : decode cC_seal 82 = .ok (.iaload, 1) := by decide +kernel
theorem dC_seal_83 : decode cC_seal 83 = .ok (.aload_n 0, 1) := by decide +kernel
theorem dC_seal_84 : decode cC_seal 84 = .ok (.getfield 17, 3) := by decide +kernel
theorem dC_seal_87 : decode cC_seal 87 = .ok (.iload_n 2, 1) := by decide +kernel
theorem dC_seal_88 : decode cC_seal 88 = .ok (.iaload, 1) := by decide +kernel
theorem dC_seal_89 : decode cC_seal 89 = .ok (.aload_n 0, 1) := by decide +kernel
theorem dC_seal_90 : decode cC_seal 90 = .ok (.getfield 13, 3) := by decide +kernel
theorem dC_seal_93 : decode cC_seal 93 = .ok (.iload_n 3, 1) := by decide +kernel
theorem dC_seal_94 : decode cC_seal 94 = .ok (.iaload, 1) := by decide +kernel
theorem dC_seal_95 : decode cC_seal 95 = .ok (.bipush 15, 2) := by decide +kernel
theorem dC_seal_97 : decode cC_seal 97 = .ok (.iand, 1) := by decide +kernel
theorem dC_seal_98 : decode cC_seal 98 = .ok (.invokestatic 110, 3) := by decide +kernel
theorem dC_seal_101 : decode cC_seal 101 = .ok (.invokevirtual 65, 3) := by decide +kernel
theorem dC_seal_104 : decode cC_seal 104 = .ok (.ireturn, 1) := by decide +kernel
theorem dC_isKey_0 : decode cC_isKey 0 = .ok (.aload_n 0, 1) := by decide +kernel
theorem dC_isKey_1 : decode cC_isKey 1 = .ok (.iload_n 1, 1) := by decide +kernel
theorem dC_isKey_2 : decode cC_isKey 2 = .ok (.invokevirtual 89, 3) := by decide +kernel
theorem dC_isKey_5 : decode cC_isKey 5 = .ok (.ifCond .eq 34, 3) := by decide +kernel
theorem dC_isKey_8 : decode cC_isKey 8 = .ok (.aload_n 0, 1) := by decide +kernel
theorem dC_isKey_9 : decode cC_isKey 9 = .ok (.iload_n 1, 1) := by decide +kernel
theorem dC_isKey_10 : decode cC_isKey 10 = .ok (.iload_n 2, 1) := by decide +kernel
theorem dC_isKey_11 : decode cC_isKey 11 = .ok (.invokevirtual 118, 3) := by decide +kernel
theorem dC_isKey_14 : decode cC_isKey 14 = .ok (.ifCond .eq 25, 3) := by decide +kernel
theorem dC_isKey_17 : decode cC_isKey 17 = .ok (.aload_n 0, 1) := by decide +kernel
theorem dC_isKey_18 : decode cC_isKey 18 = .ok (.iload_n 1, 1) := by decide +kernel
theorem dC_isKey_19 : decode cC_isKey 19 = .ok (.aload_n 0, 1) := by decide +kernel
theorem dC_isKey_20 : decode cC_isKey 20 = .ok (.getfield 13, 3) := by decide +kernel
theorem dC_isKey_23 : decode cC_isKey 23 = .ok (.iload_n 1, 1) := by decide +kernel
theorem dC_isKey_24 : decode cC_isKey 24 = .ok (.iaload, 1) := by decide +kernel
theorem dC_isKey_25 : decode cC_isKey 25 = .ok (.invokestatic 56, 3) := by decide +kernel
theorem dC_isKey_28 : decode cC_isKey 28 = .ok (.lconst 1, 1) := by decide +kernel
theorem dC_isKey_29 : decode cC_isKey 29 = .ok (.invokevirtual 92, 3) := by decide +kernel
theorem dC_isKey_32 : decode cC_isKey 32 = .ok (.ifCond .eq 7, 3) := by decide +kernel
theorem dC_isKey_35 : decode cC_isKey 35 = .ok (.iconst 1, 1) := by decide +kernel
theorem dC_isKey_36 : decode cC_isKey 36 = .ok (.goto 4, 3) := by decide +kernel
theorem dC_isKey_39 : decode cC_isKey 39 = .ok (.iconst 0, 1) := by decide +kernel
theorem dC_isKey_40 : decode cC_isKey 40 = .ok (.ireturn, 1) := by decide +kernel
theorem dC_hasPerm_0 : decode cC_hasPerm 0 = .ok (.aload_n 0, 1) := by decide +kernel
theorem dC_hasPerm_1 : decode cC_hasPerm 1 = .ok (.getfield 17, 3) := by decide +kernel
theorem dC_hasPerm_4 : decode cC_hasPerm 4 = .ok (.iload_n 1, 1) := by decide +kernel
theorem dC_hasPerm_5 : decode cC_hasPerm 5 = .ok (.iaload, 1) := by decide +kernel
theorem dC_hasPerm_6 : decode cC_hasPerm 6 = .ok (.invokestatic 122, 3) := by decide +kernel
theorem dC_hasPerm_9 : decode cC_hasPerm 9 = .ok (.iload_n 2, 1) := by decide +kernel
theorem dC_hasPerm_10 : decode cC_hasPerm 10 = .ok (.iand, 1) := by decide +kernel
theorem dC_hasPerm_11 : decode cC_hasPerm 11 = .ok (.ifCond .eq 7, 3) := by decide +kernel
theorem dC_hasPerm_14 : decode cC_hasPerm 14 = .ok (.iconst 1, 1) := by decide +kernel
theorem dC_hasPerm_15 : decode cC_hasPerm 15 = .ok (.goto 4, 3) := by decide +kernel
theorem dC_hasPerm_18 : decode cC_hasPerm 18 = .ok (.iconst 0, 1) := by decide +kernel
theorem dC_hasPerm_19 : decode cC_hasPerm 19 = .ok (.ireturn, 1) := by decide +kernel
theorem dC_withType_0 : decode cC_withType 0 = .ok (.iload_n 0, 1) := by decide +kernel
theorem dC_withType_1 : decode cC_withType 1 = .ok (.ldc 143, 2) := by decide +kernel
theorem dC_withType_3 : decode cC_withType 3 = .ok (.iand, 1) := by decide +kernel
theorem dC_withType_4 : decode cC_withType 4 = .ok (.iload_n 1, 1) := by decide +kernel
theorem dC_withType_5 : decode cC_withType 5 = .ok (.bipush 16, 2) := by decide +kernel
theorem dC_withType_7 : decode cC_withType 7 = .ok (.ishl, 1) := by decide +kernel
theorem dC_withType_8 : decode cC_withType 8 = .ok (.ior, 1) := by decide +kernel
theorem dC_withType_9 : decode cC_withType 9 = .ok (.ireturn, 1) := by decide +kernel
theorem dC_unseal_0 : decode cC_unseal 0 = .ok (.iload_n 2, 1) := by decide +kernel
theorem dC_unseal_1 : decode cC_unseal 1 = .ok (.invokestatic 75, 3) := by decide +kernel
theorem dC_unseal_4 : decode cC_unseal 4 = .ok (.ifCond .eq 17, 3) := by decide +kernel
theorem dC_unseal_7 : decode cC_unseal 7 = .ok (.iload_n 1, 1) := by decide +kernel
theorem dC_unseal_8 : decode cC_unseal 8 = .ok (.invokestatic 75, 3) := by decide +kernel
theorem dC_unseal_11 : decode cC_unseal 11 = .ok (.ifCond .eq 10, 3) := by decide +kernel
theorem dC_unseal_14 : decode cC_unseal 14 = .ok (.iload_n 3, 1) := by decide +kernel
theorem dC_unseal_15 : decode cC_unseal 15 = .ok (.invokestatic 75, 3) := by decide +kernel
theorem dC_unseal_18 : decode cC_unseal 18 = .ok (.ifCond .ne 13, 3) := by decide +kernel
theorem dC_unseal_21 : decode cC_unseal 21 = .ok (.new 35, 3) := by decide +kernel
theorem dC_unseal_24 : decode cC_unseal 24 = .ok (.dup, 1) := by decide +kernel
theorem dC_unseal_25 : decode cC_unseal 25 = .ok (.ldc 79, 2) := by decide +kernel
theorem dC_unseal_27 : decode cC_unseal 27 = .ok (.invokespecial 39, 3) := by decide +kernel
theorem dC_unseal_30 : decode cC_unseal 30 = .ok (.athrow, 1) := by decide +kernel
theorem dC_unseal_31 : decode cC_unseal 31 = .ok (.aload_n 0, 1) := by decide +kernel
theorem dC_unseal_32 : decode cC_unseal 32 = .ok (.getfield 17, 3) := by decide +kernel
theorem dC_unseal_35 : decode cC_unseal 35 = .ok (.iload_n 2, 1) := by decide +kernel
theorem dC_unseal_36 : decode cC_unseal 36 = .ok (.iaload, 1) := by decide +kernel
theorem dC_unseal_37 : decode cC_unseal 37 = .ok (.invokestatic 114, 3) := by decide +kernel
theorem dC_unseal_40 : decode cC_unseal 40 = .ok (.istore 4, 2) := by decide +kernel
theorem dC_unseal_42 : decode cC_unseal 42 = .ok (.aload_n 0, 1) := by decide +kernel
theorem dC_unseal_43 : decode cC_unseal 43 = .ok (.getfield 9, 3) := by decide +kernel
theorem dC_unseal_46 : decode cC_unseal 46 = .ok (.iload_n 2, 1) := by decide +kernel
theorem dC_unseal_47 : decode cC_unseal 47 = .ok (.baload, 1) := by decide +kernel
theorem dC_unseal_48 : decode cC_unseal 48 = .ok (.ifCond .eq 36, 3) := by decide +kernel
theorem dC_unseal_51 : decode cC_unseal 51 = .ok (.iload 4, 2) := by decide +kernel
theorem dC_unseal_53 : decode cC_unseal 53 = .ok (.bipush 12, 2) := by decide +kernel
theorem dC_unseal_55 : decode cC_unseal 55 = .ok (.if_icmp .ge 29, 3) := by decide +kernel
theorem dC_unseal_58 : decode cC_unseal 58 = .ok (.iload 4, 2) := by decide +kernel
theorem dC_unseal_60 : decode cC_unseal 60 = .ok (.aload_n 0, 1) := by decide +kernel
theorem dC_unseal_61 : decode cC_unseal 61 = .ok (.getfield 13, 3) := by decide +kernel
theorem dC_unseal_64 : decode cC_unseal 64 = .ok (.iload_n 3, 1) := by decide +kernel
theorem dC_unseal_65 : decode cC_unseal 65 = .ok (.iaload, 1) := by decide +kernel
theorem dC_unseal_66 : decode cC_unseal 66 = .ok (.if_icmp .ne 18, 3) := by decide +kernel
theorem dC_unseal_69 : decode cC_unseal 69 = .ok (.aload_n 0, 1) := by decide +kernel
theorem dC_unseal_70 : decode cC_unseal 70 = .ok (.iload_n 3, 1) := by decide +kernel
theorem dC_unseal_71 : decode cC_unseal 71 = .ok (.sipush 512, 3) := by decide +kernel
theorem dC_unseal_74 : decode cC_unseal 74 = .ok (.invokevirtual 104, 3) := by decide +kernel
theorem dC_unseal_77 : decode cC_unseal 77 = .ok (.ifCond .eq 7, 3) := by decide +kernel
theorem dC_unseal_80 : decode cC_unseal 80 = .ok (.iconst 1, 1) := by decide +kernel
theorem dC_unseal_81 : decode cC_unseal 81 = .ok (.goto 4, 3) := by decide +kernel
theorem dC_unseal_84 : decode cC_unseal 84 = .ok (.iconst 0, 1) := by decide +kernel
theorem dC_unseal_85 : decode cC_unseal 85 = .ok (.istore 5, 2) := by decide +kernel
theorem dC_unseal_87 : decode cC_unseal 87 = .ok (.aload_n 0, 1) := by decide +kernel
theorem dC_unseal_88 : decode cC_unseal 88 = .ok (.getfield 17, 3) := by decide +kernel
theorem dC_unseal_91 : decode cC_unseal 91 = .ok (.iload_n 2, 1) := by decide +kernel
theorem dC_unseal_92 : decode cC_unseal 92 = .ok (.iaload, 1) := by decide +kernel
theorem dC_unseal_93 : decode cC_unseal 93 = .ok (.bipush 15, 2) := by decide +kernel
theorem dC_unseal_95 : decode cC_unseal 95 = .ok (.invokestatic 110, 3) := by decide +kernel
theorem dC_unseal_98 : decode cC_unseal 98 = .ok (.istore 6, 2) := by decide +kernel
theorem dC_unseal_100 : decode cC_unseal 100 = .ok (.aload_n 0, 1) := by decide +kernel
theorem dC_unseal_101 : decode cC_unseal 101 = .ok (.iload_n 3, 1) := by decide +kernel
theorem dC_unseal_102 : decode cC_unseal 102 = .ok (.iconst 1, 1) := by decide +kernel
theorem dC_unseal_103 : decode cC_unseal 103 = .ok (.invokevirtual 118, 3) := by decide +kernel
theorem dC_unseal_106 : decode cC_unseal 106 = .ok (.ifCond .ne 10, 3) := by decide +kernel
theorem dC_unseal_109 : decode cC_unseal 109 = .ok (.iload 6, 2) := by decide +kernel
theorem dC_unseal_111 : decode cC_unseal 111 = .ok (.ldc 121, 2) := by decide +kernel
theorem dC_unseal_113 : decode cC_unseal 113 = .ok (.iand, 1) := by decide +kernel
theorem dC_unseal_114 : decode cC_unseal 114 = .ok (.istore 6, 2) := by decide +kernel
theorem dC_unseal_116 : decode cC_unseal 116 = .ok (.aload_n 0, 1) := by decide +kernel
theorem dC_unseal_117 : decode cC_unseal 117 = .ok (.iload_n 1, 1) := by decide +kernel
theorem dC_unseal_118 : decode cC_unseal 118 = .ok (.iload 5, 2) := by decide +kernel
theorem dC_unseal_120 : decode cC_unseal 120 = .ok (.aload_n 0, 1) := by decide +kernel
theorem dC_unseal_121 : decode cC_unseal 121 = .ok (.getfield 13, 3) := by decide +kernel
theorem dC_unseal_124 : decode cC_unseal 124 = .ok (.iload_n 2, 1) := by decide +kernel
theorem dC_unseal_125 : decode cC_unseal 125 = .ok (.iaload, 1) := by decide +kernel
theorem dC_unseal_126 : decode cC_unseal 126 = .ok (.iload 6, 2) := by decide +kernel
theorem dC_unseal_128 : decode cC_unseal 128 = .ok (.invokevirtual 65, 3) := by decide +kernel
theorem dC_unseal_131 : decode cC_unseal 131 = .ok (.ireturn, 1) := by decide +kernel
theorem dC_gate_0 : decode cC_gate 0 = .ok (.iload_n 2, 1) := by decide +kernel
theorem dC_gate_1 : decode cC_gate 1 = .ok (.invokestatic 75, 3) := by decide +kernel
theorem dC_gate_4 : decode cC_gate 4 = .ok (.ifCond .eq 10, 3) := by decide +kernel
theorem dC_gate_7 : decode cC_gate 7 = .ok (.iload_n 1, 1) := by decide +kernel
theorem dC_gate_8 : decode cC_gate 8 = .ok (.invokestatic 75, 3) := by decide +kernel
theorem dC_gate_11 : decode cC_gate 11 = .ok (.ifCond .ne 13, 3) := by decide +kernel
theorem dC_gate_14 : decode cC_gate 14 = .ok (.new 35, 3) := by decide +kernel
theorem dC_gate_17 : decode cC_gate 17 = .ok (.dup, 1) := by decide +kernel
theorem dC_gate_18 : decode cC_gate 18 = .ok (.ldc 79, 2) := by decide +kernel
theorem dC_gate_20 : decode cC_gate 20 = .ok (.invokespecial 39, 3) := by decide +kernel
theorem dC_gate_23 : decode cC_gate 23 = .ok (.athrow, 1) := by decide +kernel
theorem dC_gate_24 : decode cC_gate 24 = .ok (.aload_n 0, 1) := by decide +kernel
theorem dC_gate_25 : decode cC_gate 25 = .ok (.iload_n 2, 1) := by decide +kernel
theorem dC_gate_26 : decode cC_gate 26 = .ok (.invokevirtual 89, 3) := by decide +kernel
theorem dC_gate_29 : decode cC_gate 29 = .ok (.ifCond .eq 16, 3) := by decide +kernel
theorem dC_gate_32 : decode cC_gate 32 = .ok (.aload_n 0, 1) := by decide +kernel
theorem dC_gate_33 : decode cC_gate 33 = .ok (.iload_n 2, 1) := by decide +kernel
theorem dC_gate_34 : decode cC_gate 34 = .ok (.iconst 2, 1) := by decide +kernel
theorem dC_gate_35 : decode cC_gate 35 = .ok (.invokevirtual 118, 3) := by decide +kernel
theorem dC_gate_38 : decode cC_gate 38 = .ok (.ifCond .eq 7, 3) := by decide +kernel
theorem dC_gate_41 : decode cC_gate 41 = .ok (.iconst 1, 1) := by decide +kernel
theorem dC_gate_42 : decode cC_gate 42 = .ok (.goto 4, 3) := by decide +kernel
theorem dC_gate_45 : decode cC_gate 45 = .ok (.iconst 0, 1) := by decide +kernel
theorem dC_gate_46 : decode cC_gate 46 = .ok (.istore_n 3, 1) := by decide +kernel
theorem dC_gate_47 : decode cC_gate 47 = .ok (.aload_n 0, 1) := by decide +kernel
theorem dC_gate_48 : decode cC_gate 48 = .ok (.iload_n 1, 1) := by decide +kernel
theorem dC_gate_49 : decode cC_gate 49 = .ok (.iload_n 3, 1) := by decide +kernel
theorem dC_gate_50 : decode cC_gate 50 = .ok (.aload_n 0, 1) := by decide +kernel
theorem dC_gate_51 : decode cC_gate 51 = .ok (.getfield 13, 3) := by decide +kernel
theorem dC_gate_54 : decode cC_gate 54 = .ok (.iload_n 2, 1) := by decide +kernel
theorem dC_gate_55 : decode cC_gate 55 = .ok (.iaload, 1) := by decide +kernel
theorem dC_gate_56 : decode cC_gate 56 = .ok (.aload_n 0, 1) := by decide +kernel
theorem dC_gate_57 : decode cC_gate 57 = .ok (.getfield 17, 3) := by decide +kernel
theorem dC_gate_60 : decode cC_gate 60 = .ok (.iload_n 2, 1) := by decide +kernel
theorem dC_gate_61 : decode cC_gate 61 = .ok (.iaload, 1) := by decide +kernel
theorem dC_gate_62 : decode cC_gate 62 = .ok (.bipush 14, 2) := by decide +kernel
theorem dC_gate_64 : decode cC_gate 64 = .ok (.invokestatic 110, 3) := by decide +kernel
theorem dC_gate_67 : decode cC_gate 67 = .ok (.invokevirtual 65, 3) := by decide +kernel
theorem dC_gate_70 : decode cC_gate 70 = .ok (.ireturn, 1) := by decide +kernel
theorem dC_build_0 : decode cC_build 0 = .ok (.iload_n 2, 1) := by decide +kernel
theorem dC_build_1 : decode cC_build 1 = .ok (.invokestatic 75, 3) := by decide +kernel
theorem dC_build_4 : decode cC_build 4 = .ok (.ifCond .eq 17, 3) := by decide +kernel
theorem dC_build_7 : decode cC_build 7 = .ok (.iload_n 1, 1) := by decide +kernel
theorem dC_build_8 : decode cC_build 8 = .ok (.invokestatic 75, 3) := by decide +kernel
theorem dC_build_11 : decode cC_build 11 = .ok (.ifCond .eq 10, 3) := by decide +kernel
theorem dC_build_14 : decode cC_build 14 = .ok (.iload_n 3, 1) := by decide +kernel
theorem dC_build_15 : decode cC_build 15 = .ok (.invokestatic 75, 3) := by decide +kernel
theorem dC_build_18 : decode cC_build 18 = .ok (.ifCond .ne 13, 3) := by decide +kernel
theorem dC_build_21 : decode cC_build 21 = .ok (.new 35, 3) := by decide +kernel
theorem dC_build_24 : decode cC_build 24 = .ok (.dup, 1) := by decide +kernel
theorem dC_build_25 : decode cC_build 25 = .ok (.ldc 79, 2) := by decide +kernel
theorem dC_build_27 : decode cC_build 27 = .ok (.invokespecial 39, 3) := by decide +kernel
theorem dC_build_30 : decode cC_build 30 = .ok (.athrow, 1) := by decide +kernel
theorem dC_build_31 : decode cC_build 31 = .ok (.aload_n 0, 1) := by decide +kernel
theorem dC_build_32 : decode cC_build 32 = .ok (.iload_n 2, 1) := by decide +kernel
theorem dC_build_33 : decode cC_build 33 = .ok (.invokevirtual 89, 3) := by decide +kernel
theorem dC_build_36 : decode cC_build 36 = .ok (.ifCond .eq 48, 3) := by decide +kernel
theorem dC_build_39 : decode cC_build 39 = .ok (.aload_n 0, 1) := by decide +kernel
theorem dC_build_40 : decode cC_build 40 = .ok (.iload_n 3, 1) := by decide +kernel
theorem dC_build_41 : decode cC_build 41 = .ok (.invokevirtual 69, 3) := by decide +kernel
theorem dC_build_44 : decode cC_build 44 = .ok (.aload_n 0, 1) := by decide +kernel
theorem dC_build_45 : decode cC_build 45 = .ok (.iload_n 3, 1) := by decide +kernel
theorem dC_build_46 : decode cC_build 46 = .ok (.invokevirtual 72, 3) := by decide +kernel
theorem dC_build_49 : decode cC_build 49 = .ok (.lcmp, 1) := by decide +kernel
theorem dC_build_50 : decode cC_build 50 = .ok (.ifCond .gt 34, 3) := by decide +kernel
theorem dC_build_53 : decode cC_build 53 = .ok (.aload_n 0, 1) := by decide +kernel
theorem dC_build_54 : decode cC_build 54 = .ok (.iload_n 3, 1) := by decide +kernel
theorem dC_build_55 : decode cC_build 55 = .ok (.aload_n 0, 1) := by decide +kernel
theorem dC_build_56 : decode cC_build 56 = .ok (.iload_n 2, 1) := by decide +kernel
theorem dC_build_57 : decode cC_build 57 = .ok (.invokevirtual 69, 3) := by decide +kernel
theorem dC_build_60 : decode cC_build 60 = .ok (.aload_n 0, 1) := by decide +kernel
theorem dC_build_61 : decode cC_build 61 = .ok (.iload_n 2, 1) := by decide +kernel
theorem dC_build_62 : decode cC_build 62 = .ok (.invokevirtual 72, 3) := by decide +kernel
theorem dC_build_65 : decode cC_build 65 = .ok (.aload_n 0, 1) := by decide +kernel
theorem dC_build_66 : decode cC_build 66 = .ok (.getfield 17, 3) := by decide +kernel
theorem dC_build_69 : decode cC_build 69 = .ok (.iload_n 2, 1) := by decide +kernel
theorem dC_build_70 : decode cC_build 70 = .ok (.iaload, 1) := by decide +kernel
theorem dC_build_71 : decode cC_build 71 = .ok (.invokestatic 122, 3) := by decide +kernel
theorem dC_build_74 : decode cC_build 74 = .ok (.invokevirtual 125, 3) := by decide +kernel
theorem dC_build_77 : decode cC_build 77 = .ok (.ifCond .eq 7, 3) := by decide +kernel
theorem dC_build_80 : decode cC_build 80 = .ok (.iconst 1, 1) := by decide +kernel
theorem dC_build_81 : decode cC_build 81 = .ok (.goto 4, 3) := by decide +kernel
theorem dC_build_84 : decode cC_build 84 = .ok (.iconst 0, 1) := by decide +kernel
theorem dC_build_85 : decode cC_build 85 = .ok (.istore 4, 2) := by decide +kernel
theorem dC_build_87 : decode cC_build 87 = .ok (.aload_n 0, 1) := by decide +kernel
theorem dC_build_88 : decode cC_build 88 = .ok (.getfield 17, 3) := by decide +kernel
theorem dC_build_91 : decode cC_build 91 = .ok (.iload_n 3, 1) := by decide +kernel
theorem dC_build_92 : decode cC_build 92 = .ok (.iaload, 1) := by decide +kernel
theorem dC_build_93 : decode cC_build 93 = .ok (.invokestatic 114, 3) := by decide +kernel
theorem dC_build_96 : decode cC_build 96 = .ok (.bipush 14, 2) := by decide +kernel
theorem dC_build_98 : decode cC_build 98 = .ok (.if_icmp .ne 8, 3) := by decide +kernel
theorem dC_build_101 : decode cC_build 101 = .ok (.bipush 14, 2) := by decide +kernel
theorem dC_build_103 : decode cC_build 103 = .ok (.goto 5, 3) := by decide +kernel
theorem dC_build_106 : decode cC_build 106 = .ok (.bipush 15, 2) := by decide +kernel
theorem dC_build_108 : decode cC_build 108 = .ok (.istore 5, 2) := by decide +kernel
theorem dC_build_110 : decode cC_build 110 = .ok (.aload_n 0, 1) := by decide +kernel
theorem dC_build_111 : decode cC_build 111 = .ok (.iload_n 1, 1) := by decide +kernel
theorem dC_build_112 : decode cC_build 112 = .ok (.iload 4, 2) := by decide +kernel
theorem dC_build_114 : decode cC_build 114 = .ok (.aload_n 0, 1) := by decide +kernel
theorem dC_build_115 : decode cC_build 115 = .ok (.getfield 13, 3) := by decide +kernel
theorem dC_build_118 : decode cC_build 118 = .ok (.iload_n 3, 1) := by decide +kernel
theorem dC_build_119 : decode cC_build 119 = .ok (.iaload, 1) := by decide +kernel
theorem dC_build_120 : decode cC_build 120 = .ok (.aload_n 0, 1) := by decide +kernel
theorem dC_build_121 : decode cC_build 121 = .ok (.getfield 17, 3) := by decide +kernel
theorem dC_build_124 : decode cC_build 124 = .ok (.iload_n 3, 1) := by decide +kernel
theorem dC_build_125 : decode cC_build 125 = .ok (.iaload, 1) := by decide +kernel
theorem dC_build_126 : decode cC_build 126 = .ok (.iload 5, 2) := by decide +kernel
theorem dC_build_128 : decode cC_build 128 = .ok (.invokestatic 110, 3) := by decide +kernel
theorem dC_build_131 : decode cC_build 131 = .ok (.invokevirtual 65, 3) := by decide +kernel
theorem dC_build_134 : decode cC_build 134 = .ok (.ireturn, 1) := by decide +kernel
theorem dC_subset_0 : decode cC_subset 0 = .ok (.iload_n 1, 1) := by decide +kernel
theorem dC_subset_1 : decode cC_subset 1 = .ok (.invokestatic 75, 3) := by decide +kernel
theorem dC_subset_4 : decode cC_subset 4 = .ok (.ifCond .eq 10, 3) := by decide +kernel
theorem dC_subset_7 : decode cC_subset 7 = .ok (.iload_n 2, 1) := by decide +kernel
theorem dC_subset_8 : decode cC_subset 8 = .ok (.invokestatic 75, 3) := by decide +kernel
theorem dC_subset_11 : decode cC_subset 11 = .ok (.ifCond .ne 13, 3) := by decide +kernel
theorem dC_subset_14 : decode cC_subset 14 = .ok (.new 35, 3) := by decide +kernel
theorem dC_subset_17 : decode cC_subset 17 = .ok (.dup, 1) := by decide +kernel
theorem dC_subset_18 : decode cC_subset 18 = .ok (.ldc 79, 2) := by decide +kernel
theorem dC_subset_20 : decode cC_subset 20 = .ok (.invokespecial 39, 3) := by decide +kernel
theorem dC_subset_23 : decode cC_subset 23 = .ok (.athrow, 1) := by decide +kernel
theorem dC_subset_24 : decode cC_subset 24 = .ok (.aload_n 0, 1) := by decide +kernel
theorem dC_subset_25 : decode cC_subset 25 = .ok (.getfield 9, 3) := by decide +kernel
theorem dC_subset_28 : decode cC_subset 28 = .ok (.iload_n 1, 1) := by decide +kernel
theorem dC_subset_29 : decode cC_subset 29 = .ok (.baload, 1) := by decide +kernel
theorem dC_subset_30 : decode cC_subset 30 = .ok (.aload_n 0, 1) := by decide +kernel
theorem dC_subset_31 : decode cC_subset 31 = .ok (.getfield 9, 3) := by decide +kernel
theorem dC_subset_34 : decode cC_subset 34 = .ok (.iload_n 2, 1) := by decide +kernel
theorem dC_subset_35 : decode cC_subset 35 = .ok (.baload, 1) := by decide +kernel
theorem dC_subset_36 : decode cC_subset 36 = .ok (.if_icmp .ne 34, 3) := by decide +kernel
theorem dC_subset_39 : decode cC_subset 39 = .ok (.aload_n 0, 1) := by decide +kernel
theorem dC_subset_40 : decode cC_subset 40 = .ok (.iload_n 2, 1) := by decide +kernel
theorem dC_subset_41 : decode cC_subset 41 = .ok (.aload_n 0, 1) := by decide +kernel
theorem dC_subset_42 : decode cC_subset 42 = .ok (.iload_n 1, 1) := by decide +kernel
theorem dC_subset_43 : decode cC_subset 43 = .ok (.invokevirtual 69, 3) := by decide +kernel
theorem dC_subset_46 : decode cC_subset 46 = .ok (.aload_n 0, 1) := by decide +kernel
theorem dC_subset_47 : decode cC_subset 47 = .ok (.iload_n 1, 1) := by decide +kernel
theorem dC_subset_48 : decode cC_subset 48 = .ok (.invokevirtual 72, 3) := by decide +kernel
theorem dC_subset_51 : decode cC_subset 51 = .ok (.aload_n 0, 1) := by decide +kernel
theorem dC_subset_52 : decode cC_subset 52 = .ok (.getfield 17, 3) := by decide +kernel
theorem dC_subset_55 : decode cC_subset 55 = .ok (.iload_n 1, 1) := by decide +kernel
theorem dC_subset_56 : decode cC_subset 56 = .ok (.iaload, 1) := by decide +kernel
theorem dC_subset_57 : decode cC_subset 57 = .ok (.invokestatic 122, 3) := by decide +kernel
theorem dC_subset_60 : decode cC_subset 60 = .ok (.invokevirtual 125, 3) := by decide +kernel
theorem dC_subset_63 : decode cC_subset 63 = .ok (.ifCond .eq 7, 3) := by decide +kernel
theorem dC_subset_66 : decode cC_subset 66 = .ok (.iconst 1, 1) := by decide +kernel
theorem dC_subset_67 : decode cC_subset 67 = .ok (.goto 4, 3) := by decide +kernel
theorem dC_subset_70 : decode cC_subset 70 = .ok (.iconst 0, 1) := by decide +kernel
theorem dC_subset_71 : decode cC_subset 71 = .ok (.ireturn, 1) := by decide +kernel
theorem dC_told_0 : decode cC_told 0 = .ok (.iload_n 1, 1) := by decide +kernel
theorem dC_told_1 : decode cC_told 1 = .ok (.invokestatic 75, 3) := by decide +kernel
theorem dC_told_4 : decode cC_told 4 = .ok (.ifCond .ne 13, 3) := by decide +kernel
theorem dC_told_7 : decode cC_told 7 = .ok (.new 35, 3) := by decide +kernel
theorem dC_told_10 : decode cC_told 10 = .ok (.dup, 1) := by decide +kernel
theorem dC_told_11 : decode cC_told 11 = .ok (.ldc 79, 2) := by decide +kernel
theorem dC_told_13 : decode cC_told 13 = .ok (.invokespecial 39, 3) := by decide +kernel
theorem dC_told_16 : decode cC_told 16 = .ok (.athrow, 1) := by decide +kernel
theorem dC_told_17 : decode cC_told 17 = .ok (.iload_n 2, 1) := by decide +kernel
theorem dC_told_18 : decode cC_told 18 = .ok (.tableswitch 136 0 7 #[46, 61, 69, 80, 86, 98, 109, 120], 46) := by decide +kernel
theorem dC_told_64 : decode cC_told 64 = .ok (.aload_n 0, 1) := by decide +kernel
theorem dC_told_65 : decode cC_told 65 = .ok (.getfield 9, 3) := by decide +kernel
theorem dC_told_68 : decode cC_told 68 = .ok (.iload_n 1, 1) := by decide +kernel
theorem dC_told_69 : decode cC_told 69 = .ok (.baload, 1) := by decide +kernel
theorem dC_told_70 : decode cC_told 70 = .ok (.ifCond .eq 7, 3) := by decide +kernel
theorem dC_told_73 : decode cC_told 73 = .ok (.lconst 1, 1) := by decide +kernel
theorem dC_told_74 : decode cC_told 74 = .ok (.goto 4, 3) := by decide +kernel
theorem dC_told_77 : decode cC_told 77 = .ok (.lconst 0, 1) := by decide +kernel
theorem dC_told_78 : decode cC_told 78 = .ok (.lreturn, 1) := by decide +kernel
theorem dC_told_79 : decode cC_told 79 = .ok (.aload_n 0, 1) := by decide +kernel
theorem dC_told_80 : decode cC_told 80 = .ok (.getfield 13, 3) := by decide +kernel
theorem dC_told_83 : decode cC_told 83 = .ok (.iload_n 1, 1) := by decide +kernel
theorem dC_told_84 : decode cC_told 84 = .ok (.iaload, 1) := by decide +kernel
theorem dC_told_85 : decode cC_told 85 = .ok (.i2l, 1) := by decide +kernel
theorem dC_told_86 : decode cC_told 86 = .ok (.lreturn, 1) := by decide +kernel
theorem dC_told_87 : decode cC_told 87 = .ok (.aload_n 0, 1) := by decide +kernel
theorem dC_told_88 : decode cC_told 88 = .ok (.getfield 17, 3) := by decide +kernel
theorem dC_told_91 : decode cC_told 91 = .ok (.iload_n 1, 1) := by decide +kernel
theorem dC_told_92 : decode cC_told 92 = .ok (.iaload, 1) := by decide +kernel
theorem dC_told_93 : decode cC_told 93 = .ok (.ldc 20, 2) := by decide +kernel
theorem dC_told_95 : decode cC_told 95 = .ok (.ixor, 1) := by decide +kernel
theorem dC_told_96 : decode cC_told 96 = .ok (.i2l, 1) := by decide +kernel
theorem dC_told_97 : decode cC_told 97 = .ok (.lreturn, 1) := by decide +kernel
theorem dC_told_98 : decode cC_told 98 = .ok (.aload_n 0, 1) := by decide +kernel
theorem dC_told_99 : decode cC_told 99 = .ok (.iload_n 1, 1) := by decide +kernel
theorem dC_told_100 : decode cC_told 100 = .ok (.invokevirtual 69, 3) := by decide +kernel
theorem dC_told_103 : decode cC_told 103 = .ok (.lreturn, 1) := by decide +kernel
theorem dC_told_104 : decode cC_told 104 = .ok (.aload_n 0, 1) := by decide +kernel
theorem dC_told_105 : decode cC_told 105 = .ok (.iload_n 1, 1) := by decide +kernel
theorem dC_told_106 : decode cC_told 106 = .ok (.invokevirtual 72, 3) := by decide +kernel
theorem dC_told_109 : decode cC_told 109 = .ok (.aload_n 0, 1) := by decide +kernel
theorem dC_told_110 : decode cC_told 110 = .ok (.iload_n 1, 1) := by decide +kernel
theorem dC_told_111 : decode cC_told 111 = .ok (.invokevirtual 69, 3) := by decide +kernel
theorem dC_told_114 : decode cC_told 114 = .ok (.lsub, 1) := by decide +kernel
theorem dC_told_115 : decode cC_told 115 = .ok (.lreturn, 1) := by decide +kernel
theorem dC_told_116 : decode cC_told 116 = .ok (.aload_n 0, 1) := by decide +kernel
theorem dC_told_117 : decode cC_told 117 = .ok (.getfield 17, 3) := by decide +kernel
theorem dC_told_120 : decode cC_told 120 = .ok (.iload_n 1, 1) := by decide +kernel
theorem dC_told_121 : decode cC_told 121 = .ok (.iaload, 1) := by decide +kernel
theorem dC_told_122 : decode cC_told 122 = .ok (.invokestatic 122, 3) := by decide +kernel
theorem dC_told_125 : decode cC_told 125 = .ok (.i2l, 1) := by decide +kernel
theorem dC_told_126 : decode cC_told 126 = .ok (.lreturn, 1) := by decide +kernel
theorem dC_told_127 : decode cC_told 127 = .ok (.aload_n 0, 1) := by decide +kernel
theorem dC_told_128 : decode cC_told 128 = .ok (.getfield 17, 3) := by decide +kernel
theorem dC_told_131 : decode cC_told 131 = .ok (.iload_n 1, 1) := by decide +kernel
theorem dC_told_132 : decode cC_told 132 = .ok (.iaload, 1) := by decide +kernel
theorem dC_told_133 : decode cC_told 133 = .ok (.invokestatic 114, 3) := by decide +kernel
theorem dC_told_136 : decode cC_told 136 = .ok (.i2l, 1) := by decide +kernel
theorem dC_told_137 : decode cC_told 137 = .ok (.lreturn, 1) := by decide +kernel
theorem dC_told_138 : decode cC_told 138 = .ok (.aload_n 0, 1) := by decide +kernel
theorem dC_told_139 : decode cC_told 139 = .ok (.getfield 13, 3) := by decide +kernel
theorem dC_told_142 : decode cC_told 142 = .ok (.iload_n 1, 1) := by decide +kernel
theorem dC_told_143 : decode cC_told 143 = .ok (.iaload, 1) := by decide +kernel
theorem dC_told_144 : decode cC_told 144 = .ok (.invokestatic 56, 3) := by decide +kernel
theorem dC_told_147 : decode cC_told 147 = .ok (.aload_n 0, 1) := by decide +kernel
theorem dC_told_148 : decode cC_told 148 = .ok (.iload_n 1, 1) := by decide +kernel
theorem dC_told_149 : decode cC_told 149 = .ok (.invokevirtual 69, 3) := by decide +kernel
theorem dC_told_152 : decode cC_told 152 = .ok (.lsub, 1) := by decide +kernel
theorem dC_told_153 : decode cC_told 153 = .ok (.lreturn, 1) := by decide +kernel
theorem dC_told_154 : decode cC_told 154 = .ok (.new 46, 3) := by decide +kernel
theorem dC_told_157 : decode cC_told 157 = .ok (.dup, 1) := by decide +kernel
theorem dC_told_158 : decode cC_told 158 = .ok (.ldc 129, 2) := by decide +kernel
theorem dC_told_160 : decode cC_told 160 = .ok (.invokespecial 50, 3) := by decide +kernel
theorem dC_told_163 : decode cC_told 163 = .ok (.athrow, 1) := by decide +kernel
theorem dC_reaches_0 : decode cC_reaches 0 = .ok (.iload_n 1, 1) := by decide +kernel
theorem dC_reaches_1 : decode cC_reaches 1 = .ok (.invokestatic 75, 3) := by decide +kernel
theorem dC_reaches_4 : decode cC_reaches 4 = .ok (.ifCond .ne 13, 3) := by decide +kernel
theorem dC_reaches_7 : decode cC_reaches 7 = .ok (.new 35, 3) := by decide +kernel
theorem dC_reaches_10 : decode cC_reaches 10 = .ok (.dup, 1) := by decide +kernel
theorem dC_reaches_11 : decode cC_reaches 11 = .ok (.ldc 79, 2) := by decide +kernel
theorem dC_reaches_13 : decode cC_reaches 13 = .ok (.invokespecial 39, 3) := by decide +kernel
theorem dC_reaches_16 : decode cC_reaches 16 = .ok (.athrow, 1) := by decide +kernel
theorem dC_reaches_17 : decode cC_reaches 17 = .ok (.iload_n 3, 1) := by decide +kernel
theorem dC_reaches_18 : decode cC_reaches 18 = .ok (.ifCond .lt 10, 3) := by decide +kernel
theorem dC_reaches_21 : decode cC_reaches 21 = .ok (.iload_n 3, 1) := by decide +kernel
theorem dC_reaches_22 : decode cC_reaches 22 = .ok (.sipush 4096, 3) := by decide +kernel
theorem dC_reaches_25 : decode cC_reaches 25 = .ok (.if_icmp .le 13, 3) := by decide +kernel
theorem dC_reaches_28 : decode cC_reaches 28 = .ok (.new 46, 3) := by decide +kernel
theorem dC_reaches_31 : decode cC_reaches 31 = .ok (.dup, 1) := by decide +kernel
theorem dC_reaches_32 : decode cC_reaches 32 = .ok (.ldc 131, 2) := by decide +kernel
theorem dC_reaches_34 : decode cC_reaches 34 = .ok (.invokespecial 50, 3) := by decide +kernel
theorem dC_reaches_37 : decode cC_reaches 37 = .ok (.athrow, 1) := by decide +kernel
theorem dC_reaches_38 : decode cC_reaches 38 = .ok (.aload_n 0, 1) := by decide +kernel
theorem dC_reaches_39 : decode cC_reaches 39 = .ok (.iload_n 1, 1) := by decide +kernel
theorem dC_reaches_40 : decode cC_reaches 40 = .ok (.iload_n 2, 1) := by decide +kernel
theorem dC_reaches_41 : decode cC_reaches 41 = .ok (.invokestatic 56, 3) := by decide +kernel
theorem dC_reaches_44 : decode cC_reaches 44 = .ok (.iload_n 3, 1) := by decide +kernel
theorem dC_reaches_45 : decode cC_reaches 45 = .ok (.i2l, 1) := by decide +kernel
theorem dC_reaches_46 : decode cC_reaches 46 = .ok (.invokevirtual 92, 3) := by decide +kernel
theorem dC_reaches_49 : decode cC_reaches 49 = .ok (.ireturn, 1) := by decide +kernel
theorem dC_pack_0 : decode cC_pack 0 = .ok (.iload_n 1, 1) := by decide +kernel
theorem dC_pack_1 : decode cC_pack 1 = .ok (.lload_n 2, 1) := by decide +kernel
theorem dC_pack_2 : decode cC_pack 2 = .ok (.invokestatic 42, 3) := by decide +kernel
theorem dC_pack_5 : decode cC_pack 5 = .ok (.ifCond .ne 13, 3) := by decide +kernel
theorem dC_pack_8 : decode cC_pack 8 = .ok (.new 46, 3) := by decide +kernel
theorem dC_pack_11 : decode cC_pack 11 = .ok (.dup, 1) := by decide +kernel
theorem dC_pack_12 : decode cC_pack 12 = .ok (.ldc 133, 2) := by decide +kernel
theorem dC_pack_14 : decode cC_pack 14 = .ok (.invokespecial 50, 3) := by decide +kernel
theorem dC_pack_17 : decode cC_pack 17 = .ok (.athrow, 1) := by decide +kernel
theorem dC_pack_18 : decode cC_pack 18 = .ok (.iload_n 1, 1) := by decide +kernel
theorem dC_pack_19 : decode cC_pack 19 = .ok (.invokestatic 56, 3) := by decide +kernel
theorem dC_pack_22 : decode cC_pack 22 = .ok (.iload_n 1, 1) := by decide +kernel
theorem dC_pack_23 : decode cC_pack 23 = .ok (.invokestatic 56, 3) := by decide +kernel
theorem dC_pack_26 : decode cC_pack 26 = .ok (.lload_n 2, 1) := by decide +kernel
theorem dC_pack_27 : decode cC_pack 27 = .ok (.ladd, 1) := by decide +kernel
theorem dC_pack_28 : decode cC_pack 28 = .ok (.invokestatic 60, 3) := by decide +kernel
theorem dC_pack_31 : decode cC_pack 31 = .ok (.ireturn, 1) := by decide +kernel
theorem dC_rounded_0 : decode cC_rounded 0 = .ok (.iconst 0, 1) := by decide +kernel
theorem dC_rounded_1 : decode cC_rounded 1 = .ok (.lload_n 1, 1) := by decide +kernel
theorem dC_rounded_2 : decode cC_rounded 2 = .ok (.invokestatic 42, 3) := by decide +kernel
theorem dC_rounded_5 : decode cC_rounded 5 = .ok (.ifCond .ne 13, 3) := by decide +kernel
theorem dC_rounded_8 : decode cC_rounded 8 = .ok (.new 46, 3) := by decide +kernel
theorem dC_rounded_11 : decode cC_rounded 11 = .ok (.dup, 1) := by decide +kernel
theorem dC_rounded_12 : decode cC_rounded 12 = .ok (.ldc 135, 2) := by decide +kernel
theorem dC_rounded_14 : decode cC_rounded 14 = .ok (.invokespecial 50, 3) := by decide +kernel
theorem dC_rounded_17 : decode cC_rounded 17 = .ok (.athrow, 1) := by decide +kernel
theorem dC_rounded_18 : decode cC_rounded 18 = .ok (.lconst 0, 1) := by decide +kernel
theorem dC_rounded_19 : decode cC_rounded 19 = .ok (.lload_n 1, 1) := by decide +kernel
theorem dC_rounded_20 : decode cC_rounded 20 = .ok (.invokestatic 60, 3) := by decide +kernel
theorem dC_rounded_23 : decode cC_rounded 23 = .ok (.istore 4, 2) := by decide +kernel
theorem dC_rounded_25 : decode cC_rounded 25 = .ok (.iload_n 3, 1) := by decide +kernel
theorem dC_rounded_26 : decode cC_rounded 26 = .ok (.ifCond .ne 10, 3) := by decide +kernel
theorem dC_rounded_29 : decode cC_rounded 29 = .ok (.iload 4, 2) := by decide +kernel
theorem dC_rounded_31 : decode cC_rounded 31 = .ok (.iconst 0, 1) := by decide +kernel
theorem dC_rounded_32 : decode cC_rounded 32 = .ok (.invokestatic 101, 3) := by decide +kernel
theorem dC_rounded_35 : decode cC_rounded 35 = .ok (.lreturn, 1) := by decide +kernel
theorem dC_rounded_36 : decode cC_rounded 36 = .ok (.iload 4, 2) := by decide +kernel
theorem dC_rounded_38 : decode cC_rounded 38 = .ok (.sipush 16384, 3) := by decide +kernel
theorem dC_rounded_41 : decode cC_rounded 41 = .ok (.iand, 1) := by decide +kernel
theorem dC_rounded_42 : decode cC_rounded 42 = .ok (.ifCond .eq 15, 3) := by decide +kernel
theorem dC_rounded_45 : decode cC_rounded 45 = .ok (.lconst 1, 1) := by decide +kernel
theorem dC_rounded_46 : decode cC_rounded 46 = .ok (.iload 4, 2) := by decide +kernel
theorem dC_rounded_48 : decode cC_rounded 48 = .ok (.invokestatic 137, 3) := by decide +kernel
theorem dC_rounded_51 : decode cC_rounded 51 = .ok (.iconst 3, 1) := by decide +kernel
theorem dC_rounded_52 : decode cC_rounded 52 = .ok (.iadd, 1) := by decide +kernel
theorem dC_rounded_53 : decode cC_rounded 53 = .ok (.lshl, 1) := by decide +kernel
theorem dC_rounded_54 : decode cC_rounded 54 = .ok (.goto 4, 3) := by decide +kernel
theorem dC_rounded_57 : decode cC_rounded 57 = .ok (.lconst 1, 1) := by decide +kernel
theorem dC_rounded_58 : decode cC_rounded 58 = .ok (.lreturn, 1) := by decide +kernel
theorem dJ_floorMod_0 : decode cJ_floorMod 0 = .ok (.lload_n 0, 1) := by decide +kernel
theorem dJ_floorMod_1 : decode cJ_floorMod 1 = .ok (.lload_n 2, 1) := by decide +kernel
theorem dJ_floorMod_2 : decode cJ_floorMod 2 = .ok (.lrem, 1) := by decide +kernel
theorem dJ_floorMod_3 : decode cJ_floorMod 3 = .ok (.lstore 4, 2) := by decide +kernel
theorem dJ_floorMod_5 : decode cJ_floorMod 5 = .ok (.lload_n 0, 1) := by decide +kernel
theorem dJ_floorMod_6 : decode cJ_floorMod 6 = .ok (.lload_n 2, 1) := by decide +kernel
theorem dJ_floorMod_7 : decode cJ_floorMod 7 = .ok (.lxor, 1) := by decide +kernel
theorem dJ_floorMod_8 : decode cJ_floorMod 8 = .ok (.lconst 0, 1) := by decide +kernel
theorem dJ_floorMod_9 : decode cJ_floorMod 9 = .ok (.lcmp, 1) := by decide +kernel
theorem dJ_floorMod_10 : decode cJ_floorMod 10 = .ok (.ifCond .ge 15, 3) := by decide +kernel
theorem dJ_floorMod_13 : decode cJ_floorMod 13 = .ok (.lload 4, 2) := by decide +kernel
theorem dJ_floorMod_15 : decode cJ_floorMod 15 = .ok (.lconst 0, 1) := by decide +kernel
theorem dJ_floorMod_16 : decode cJ_floorMod 16 = .ok (.lcmp, 1) := by decide +kernel
theorem dJ_floorMod_17 : decode cJ_floorMod 17 = .ok (.ifCond .eq 8, 3) := by decide +kernel
theorem dJ_floorMod_20 : decode cJ_floorMod 20 = .ok (.lload 4, 2) := by decide +kernel
theorem dJ_floorMod_22 : decode cJ_floorMod 22 = .ok (.lload_n 2, 1) := by decide +kernel
theorem dJ_floorMod_23 : decode cJ_floorMod 23 = .ok (.ladd, 1) := by decide +kernel
theorem dJ_floorMod_24 : decode cJ_floorMod 24 = .ok (.lreturn, 1) := by decide +kernel
theorem dJ_floorMod_25 : decode cJ_floorMod 25 = .ok (.lload 4, 2) := by decide +kernel
theorem dJ_floorMod_27 : decode cJ_floorMod 27 = .ok (.lreturn, 1) := by decide +kernel
