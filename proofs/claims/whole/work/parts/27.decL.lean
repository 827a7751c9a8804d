theorem dL_root_0 : decode cL_root 0 = .ok (.aload 6, 2) := by decide +kernel
theorem dL_root_2 : decode cL_root 2 = .ok (.iconst 0, 1) := by decide +kernel
theorem dL_root_3 : decode cL_root 3 = .ok (.aload_n 0, 1) := by decide +kernel
theorem dL_root_4 : decode cL_root 4 = .ok (.iload_n 1, 1) := by decide +kernel
theorem dL_root_5 : decode cL_root 5 = .ok (.iload_n 2, 1) := by decide +kernel
theorem dL_root_6 : decode cL_root 6 = .ok (.lload_n 3, 1) := by decide +kernel
theorem dL_root_7 : decode cL_root 7 = .ok (.iload 5, 2) := by decide +kernel
theorem dL_root_9 : decode cL_root 9 = .ok (.invokevirtual 7, 3) := by decide +kernel
theorem dL_root_12 : decode cL_root 12 = .ok (.i2l, 1) := by decide +kernel
theorem dL_root_13 : decode cL_root 13 = .ok (.lastore, 1) := by decide +kernel
theorem dL_root_14 : decode cL_root 14 = .ok (.goto 15, 3) := by decide +kernel
theorem dL_root_17 : decode cL_root 17 = .ok (.astore 7, 2) := by decide +kernel
theorem dL_root_19 : decode cL_root 19 = .ok (.iconst 1, 1) := by decide +kernel
theorem dL_root_20 : decode cL_root 20 = .ok (.ireturn, 1) := by decide +kernel
theorem dL_root_21 : decode cL_root 21 = .ok (.astore 7, 2) := by decide +kernel
theorem dL_root_23 : decode cL_root 23 = .ok (.iconst 2, 1) := by decide +kernel
theorem dL_root_24 : decode cL_root 24 = .ok (.ireturn, 1) := by decide +kernel
theorem dL_root_25 : decode cL_root 25 = .ok (.astore 7, 2) := by decide +kernel
theorem dL_root_27 : decode cL_root 27 = .ok (.iconst 3, 1) := by decide +kernel
theorem dL_root_28 : decode cL_root 28 = .ok (.ireturn, 1) := by decide +kernel
theorem dL_root_29 : decode cL_root 29 = .ok (.iconst 0, 1) := by decide +kernel
theorem dL_root_30 : decode cL_root 30 = .ok (.ireturn, 1) := by decide +kernel
theorem dL_put_0 : decode cL_put 0 = .ok (.aload_n 0, 1) := by decide +kernel
theorem dL_put_1 : decode cL_put 1 = .ok (.iload_n 1, 1) := by decide +kernel
theorem dL_put_2 : decode cL_put 2 = .ok (.iload_n 2, 1) := by decide +kernel
theorem dL_put_3 : decode cL_put 3 = .ok (.iload_n 3, 1) := by decide +kernel
theorem dL_put_4 : decode cL_put 4 = .ok (.invokevirtual 19, 3) := by decide +kernel
theorem dL_put_7 : decode cL_put 7 = .ok (.goto 7, 3) := by decide +kernel
theorem dL_put_10 : decode cL_put 10 = .ok (.astore 4, 2) := by decide +kernel
theorem dL_put_12 : decode cL_put 12 = .ok (.iconst 1, 1) := by decide +kernel
theorem dL_put_13 : decode cL_put 13 = .ok (.ireturn, 1) := by decide +kernel
theorem dL_put_14 : decode cL_put 14 = .ok (.iconst 0, 1) := by decide +kernel
theorem dL_put_15 : decode cL_put 15 = .ok (.ireturn, 1) := by decide +kernel
theorem dL_narrow_0 : decode cL_narrow 0 = .ok (.aload 5, 2) := by decide +kernel
theorem dL_narrow_2 : decode cL_narrow 2 = .ok (.iconst 0, 1) := by decide +kernel
theorem dL_narrow_3 : decode cL_narrow 3 = .ok (.aload_n 0, 1) := by decide +kernel
theorem dL_narrow_4 : decode cL_narrow 4 = .ok (.iload_n 1, 1) := by decide +kernel
theorem dL_narrow_5 : decode cL_narrow 5 = .ok (.iload_n 2, 1) := by decide +kernel
theorem dL_narrow_6 : decode cL_narrow 6 = .ok (.iload_n 3, 1) := by decide +kernel
theorem dL_narrow_7 : decode cL_narrow 7 = .ok (.iload 4, 2) := by decide +kernel
theorem dL_narrow_9 : decode cL_narrow 9 = .ok (.invokevirtual 23, 3) := by decide +kernel
theorem dL_narrow_12 : decode cL_narrow 12 = .ok (.ifCond .eq 7, 3) := by decide +kernel
theorem dL_narrow_15 : decode cL_narrow 15 = .ok (.lconst 1, 1) := by decide +kernel
theorem dL_narrow_16 : decode cL_narrow 16 = .ok (.goto 4, 3) := by decide +kernel
theorem dL_narrow_19 : decode cL_narrow 19 = .ok (.lconst 0, 1) := by decide +kernel
theorem dL_narrow_20 : decode cL_narrow 20 = .ok (.lastore, 1) := by decide +kernel
theorem dL_narrow_21 : decode cL_narrow 21 = .ok (.goto 7, 3) := by decide +kernel
theorem dL_narrow_24 : decode cL_narrow 24 = .ok (.astore 6, 2) := by decide +kernel
theorem dL_narrow_26 : decode cL_narrow 26 = .ok (.iconst 1, 1) := by decide +kernel
theorem dL_narrow_27 : decode cL_narrow 27 = .ok (.ireturn, 1) := by decide +kernel
theorem dL_narrow_28 : decode cL_narrow 28 = .ok (.iconst 0, 1) := by decide +kernel
theorem dL_narrow_29 : decode cL_narrow 29 = .ok (.ireturn, 1) := by decide +kernel
theorem dL_move_0 : decode cL_move 0 = .ok (.aload 4, 2) := by decide +kernel
theorem dL_move_2 : decode cL_move 2 = .ok (.iconst 0, 1) := by decide +kernel
theorem dL_move_3 : decode cL_move 3 = .ok (.aload_n 0, 1) := by decide +kernel
theorem dL_move_4 : decode cL_move 4 = .ok (.iload_n 1, 1) := by decide +kernel
theorem dL_move_5 : decode cL_move 5 = .ok (.iload_n 2, 1) := by decide +kernel
theorem dL_move_6 : decode cL_move 6 = .ok (.iload_n 3, 1) := by decide +kernel
theorem dL_move_7 : decode cL_move 7 = .ok (.invokevirtual 27, 3) := by decide +kernel
theorem dL_move_10 : decode cL_move 10 = .ok (.ifCond .eq 7, 3) := by decide +kernel
theorem dL_move_13 : decode cL_move 13 = .ok (.lconst 1, 1) := by decide +kernel
theorem dL_move_14 : decode cL_move 14 = .ok (.goto 4, 3) := by decide +kernel
theorem dL_move_17 : decode cL_move 17 = .ok (.lconst 0, 1) := by decide +kernel
theorem dL_move_18 : decode cL_move 18 = .ok (.lastore, 1) := by decide +kernel
theorem dL_move_19 : decode cL_move 19 = .ok (.goto 7, 3) := by decide +kernel
theorem dL_move_22 : decode cL_move 22 = .ok (.astore 5, 2) := by decide +kernel
theorem dL_move_24 : decode cL_move 24 = .ok (.iconst 1, 1) := by decide +kernel
theorem dL_move_25 : decode cL_move 25 = .ok (.ireturn, 1) := by decide +kernel
theorem dL_move_26 : decode cL_move 26 = .ok (.iconst 0, 1) := by decide +kernel
theorem dL_move_27 : decode cL_move 27 = .ok (.ireturn, 1) := by decide +kernel
theorem dL_keep_0 : decode cL_keep 0 = .ok (.aload 4, 2) := by decide +kernel
theorem dL_keep_2 : decode cL_keep 2 = .ok (.iconst 0, 1) := by decide +kernel
theorem dL_keep_3 : decode cL_keep 3 = .ok (.aload_n 0, 1) := by decide +kernel
theorem dL_keep_4 : decode cL_keep 4 = .ok (.iload_n 1, 1) := by decide +kernel
theorem dL_keep_5 : decode cL_keep 5 = .ok (.iload_n 2, 1) := by decide +kernel
theorem dL_keep_6 : decode cL_keep 6 = .ok (.iload_n 3, 1) := by decide +kernel
theorem dL_keep_7 : decode cL_keep 7 = .ok (.invokevirtual 31, 3) := by decide +kernel
theorem dL_keep_10 : decode cL_keep 10 = .ok (.ifCond .eq 7, 3) := by decide +kernel
theorem dL_keep_13 : decode cL_keep 13 = .ok (.lconst 1, 1) := by decide +kernel
theorem dL_keep_14 : decode cL_keep 14 = .ok (.goto 4, 3) := by decide +kernel
theorem dL_keep_17 : decode cL_keep 17 = .ok (.lconst 0, 1) := by decide +kernel
theorem dL_keep_18 : decode cL_keep 18 = .ok (.lastore, 1) := by decide +kernel
theorem dL_keep_19 : decode cL_keep 19 = .ok (.goto 7, 3) := by decide +kernel
theorem dL_keep_22 : decode cL_keep 22 = .ok (.astore 5, 2) := by decide +kernel
theorem dL_keep_24 : decode cL_keep 24 = .ok (.iconst 1, 1) := by decide +kernel
theorem dL_keep_25 : decode cL_keep 25 = .ok (.ireturn, 1) := by decide +kernel
theorem dL_keep_26 : decode cL_keep 26 = .ok (.iconst 0, 1) := by decide +kernel
theorem dL_keep_27 : decode cL_keep 27 = .ok (.ireturn, 1) := by decide +kernel
theorem dL_seal_0 : decode cL_seal 0 = .ok (.aload 4, 2) := by decide +kernel
theorem dL_seal_2 : decode cL_seal 2 = .ok (.iconst 0, 1) := by decide +kernel
theorem dL_seal_3 : decode cL_seal 3 = .ok (.aload_n 0, 1) := by decide +kernel
theorem dL_seal_4 : decode cL_seal 4 = .ok (.iload_n 1, 1) := by decide +kernel
theorem dL_seal_5 : decode cL_seal 5 = .ok (.iload_n 2, 1) := by decide +kernel
theorem dL_seal_6 : decode cL_seal 6 = .ok (.iload_n 3, 1) := by decide +kernel
theorem dL_seal_7 : decode cL_seal 7 = .ok (.invokevirtual 34, 3) := by decide +kernel
theorem dL_seal_10 : decode cL_seal 10 = .ok (.ifCond .eq 7, 3) := by decide +kernel
theorem dL_seal_13 : decode cL_seal 13 = .ok (.lconst 1, 1) := by decide +kernel
theorem dL_seal_14 : decode cL_seal 14 = .ok (.goto 4, 3) := by decide +kernel
theorem dL_seal_17 : decode cL_seal 17 = .ok (.lconst 0, 1) := by decide +kernel
theorem dL_seal_18 : decode cL_seal 18 = .ok (.lastore, 1) := by decide +kernel
theorem dL_seal_19 : decode cL_seal 19 = .ok (.goto 7, 3) := by decide +kernel
theorem dL_seal_22 : decode cL_seal 22 = .ok (.astore 5, 2) := by decide +kernel
theorem dL_seal_24 : decode cL_seal 24 = .ok (.iconst 1, 1) := by decide +kernel
theorem dL_seal_25 : decode cL_seal 25 = .ok (.ireturn, 1) := by decide +kernel
theorem dL_seal_26 : decode cL_seal 26 = .ok (.iconst 0, 1) := by decide +kernel
theorem dL_seal_27 : decode cL_seal 27 = .ok (.ireturn, 1) := by decide +kernel
theorem dL_unseal_0 : decode cL_unseal 0 = .ok (.aload 4, 2) := by decide +kernel
theorem dL_unseal_2 : decode cL_unseal 2 = .ok (.iconst 0, 1) := by decide +kernel
theorem dL_unseal_3 : decode cL_unseal 3 = .ok (.aload_n 0, 1) := by decide +kernel
theorem dL_unseal_4 : decode cL_unseal 4 = .ok (.iload_n 1, 1) := by decide +kernel
theorem dL_unseal_5 : decode cL_unseal 5 = .ok (.iload_n 2, 1) := by decide +kernel
theorem dL_unseal_6 : decode cL_unseal 6 = .ok (.iload_n 3, 1) := by decide +kernel
theorem dL_unseal_7 : decode cL_unseal 7 = .ok (.invokevirtual 37, 3) := by decide +kernel
theorem dL_unseal_10 : decode cL_unseal 10 = .ok (.ifCond .eq 7, 3) := by decide +kernel
theorem dL_unseal_13 : decode cL_unseal 13 = .ok (.lconst 1, 1) := by decide +kernel
theorem dL_unseal_14 : decode cL_unseal 14 = .ok (.goto 4, 3) := by decide +kernel
theorem dL_unseal_17 : decode cL_unseal 17 = .ok (.lconst 0, 1) := by decide +kernel
theorem dL_unseal_18 : decode cL_unseal 18 = .ok (.lastore, 1) := by decide +kernel
theorem dL_unseal_19 : decode cL_unseal 19 = .ok (.goto 7, 3) := by decide +kernel
theorem dL_unseal_22 : decode cL_unseal 22 = .ok (.astore 5, 2) := by decide +kernel
theorem dL_unseal_24 : decode cL_unseal 24 = .ok (.iconst 1, 1) := by decide +kernel
theorem dL_unseal_25 : decode cL_unseal 25 = .ok (.ireturn, 1) := by decide +kernel
theorem dL_unseal_26 : decode cL_unseal 26 = .ok (.iconst 0, 1) := by decide +kernel
theorem dL_unseal_27 : decode cL_unseal 27 = .ok (.ireturn, 1) := by decide +kernel
theorem dL_gate_0 : decode cL_gate 0 = .ok (.aload_n 3, 1) := by decide +kernel
theorem dL_gate_1 : decode cL_gate 1 = .ok (.iconst 0, 1) := by decide +kernel
theorem dL_gate_2 : decode cL_gate 2 = .ok (.aload_n 0, 1) := by decide +kernel
theorem dL_gate_3 : decode cL_gate 3 = .ok (.iload_n 1, 1) := by decide +kernel
theorem dL_gate_4 : decode cL_gate 4 = .ok (.iload_n 2, 1) := by decide +kernel
theorem dL_gate_5 : decode cL_gate 5 = .ok (.invokevirtual 40, 3) := by decide +kernel
theorem dL_gate_8 : decode cL_gate 8 = .ok (.ifCond .eq 7, 3) := by decide +kernel
theorem dL_gate_11 : decode cL_gate 11 = .ok (.lconst 1, 1) := by decide +kernel
theorem dL_gate_12 : decode cL_gate 12 = .ok (.goto 4, 3) := by decide +kernel
theorem dL_gate_15 : decode cL_gate 15 = .ok (.lconst 0, 1) := by decide +kernel
theorem dL_gate_16 : decode cL_gate 16 = .ok (.lastore, 1) := by decide +kernel
theorem dL_gate_17 : decode cL_gate 17 = .ok (.goto 7, 3) := by decide +kernel
theorem dL_gate_20 : decode cL_gate 20 = .ok (.astore 4, 2) := by decide +kernel
theorem dL_gate_22 : decode cL_gate 22 = .ok (.iconst 1, 1) := by decide +kernel
theorem dL_gate_23 : decode cL_gate 23 = .ok (.ireturn, 1) := by decide +kernel
theorem dL_gate_24 : decode cL_gate 24 = .ok (.iconst 0, 1) := by decide +kernel
theorem dL_gate_25 : decode cL_gate 25 = .ok (.ireturn, 1) := by decide +kernel
theorem dL_build_0 : decode cL_build 0 = .ok (.aload 4, 2) := by decide +kernel
theorem dL_build_2 : decode cL_build 2 = .ok (.iconst 0, 1) := by decide +kernel
theorem dL_build_3 : decode cL_build 3 = .ok (.aload_n 0, 1) := by decide +kernel
theorem dL_build_4 : decode cL_build 4 = .ok (.iload_n 1, 1) := by decide +kernel
theorem dL_build_5 : decode cL_build 5 = .ok (.iload_n 2, 1) := by decide +kernel
theorem dL_build_6 : decode cL_build 6 = .ok (.iload_n 3, 1) := by decide +kernel
theorem dL_build_7 : decode cL_build 7 = .ok (.invokevirtual 44, 3) := by decide +kernel
theorem dL_build_10 : decode cL_build 10 = .ok (.ifCond .eq 7, 3) := by decide +kernel
theorem dL_build_13 : decode cL_build 13 = .ok (.lconst 1, 1) := by decide +kernel
theorem dL_build_14 : decode cL_build 14 = .ok (.goto 4, 3) := by decide +kernel
theorem dL_build_17 : decode cL_build 17 = .ok (.lconst 0, 1) := by decide +kernel
theorem dL_build_18 : decode cL_build 18 = .ok (.lastore, 1) := by decide +kernel
theorem dL_build_19 : decode cL_build 19 = .ok (.goto 7, 3) := by decide +kernel
theorem dL_build_22 : decode cL_build 22 = .ok (.astore 5, 2) := by decide +kernel
theorem dL_build_24 : decode cL_build 24 = .ok (.iconst 1, 1) := by decide +kernel
theorem dL_build_25 : decode cL_build 25 = .ok (.ireturn, 1) := by decide +kernel
theorem dL_build_26 : decode cL_build 26 = .ok (.iconst 0, 1) := by decide +kernel
theorem dL_build_27 : decode cL_build 27 = .ok (.ireturn, 1) := by decide +kernel
theorem dL_subset_0 : decode cL_subset 0 = .ok (.aload_n 3, 1) := by decide +kernel
theorem dL_subset_1 : decode cL_subset 1 = .ok (.iconst 0, 1) := by decide +kernel
theorem dL_subset_2 : decode cL_subset 2 = .ok (.aload_n 0, 1) := by decide +kernel
theorem dL_subset_3 : decode cL_subset 3 = .ok (.iload_n 1, 1) := by decide +kernel
theorem dL_subset_4 : decode cL_subset 4 = .ok (.iload_n 2, 1) := by decide +kernel
theorem dL_subset_5 : decode cL_subset 5 = .ok (.invokevirtual 47, 3) := by decide +kernel
theorem dL_subset_8 : decode cL_subset 8 = .ok (.ifCond .eq 7, 3) := by decide +kernel
theorem dL_subset_11 : decode cL_subset 11 = .ok (.lconst 1, 1) := by decide +kernel
theorem dL_subset_12 : decode cL_subset 12 = .ok (.goto 4, 3) := by decide +kernel
theorem dL_subset_15 : decode cL_subset 15 = .ok (.lconst 0, 1) := by decide +kernel
theorem dL_subset_16 : decode cL_subset 16 = .ok (.lastore, 1) := by decide +kernel
theorem dL_subset_17 : decode cL_subset 17 = .ok (.goto 7, 3) := by decide +kernel
theorem dL_subset_20 : decode cL_subset 20 = .ok (.astore 4, 2) := by decide +kernel
theorem dL_subset_22 : decode cL_subset 22 = .ok (.iconst 1, 1) := by decide +kernel
theorem dL_subset_23 : decode cL_subset 23 = .ok (.ireturn, 1) := by decide +kernel
theorem dL_subset_24 : decode cL_subset 24 = .ok (.iconst 0, 1) := by decide +kernel
theorem dL_subset_25 : decode cL_subset 25 = .ok (.ireturn, 1) := by decide +kernel
theorem dL_told_0 : decode cL_told 0 = .ok (.aload_n 3, 1) := by decide +kernel
theorem dL_told_1 : decode cL_told 1 = .ok (.iconst 0, 1) := by decide +kernel
theorem dL_told_2 : decode cL_told 2 = .ok (.aload_n 0, 1) := by decide +kernel
theorem dL_told_3 : decode cL_told 3 = .ok (.iload_n 1, 1) := by decide +kernel
theorem dL_told_4 : decode cL_told 4 = .ok (.iload_n 2, 1) := by decide +kernel
theorem dL_told_5 : decode cL_told 5 = .ok (.invokevirtual 50, 3) := by decide +kernel
theorem dL_told_8 : decode cL_told 8 = .ok (.lastore, 1) := by decide +kernel
theorem dL_told_9 : decode cL_told 9 = .ok (.goto 11, 3) := by decide +kernel
theorem dL_told_12 : decode cL_told 12 = .ok (.astore 4, 2) := by decide +kernel
theorem dL_told_14 : decode cL_told 14 = .ok (.iconst 1, 1) := by decide +kernel
theorem dL_told_15 : decode cL_told 15 = .ok (.ireturn, 1) := by decide +kernel
theorem dL_told_16 : decode cL_told 16 = .ok (.astore 4, 2) := by decide +kernel
theorem dL_told_18 : decode cL_told 18 = .ok (.iconst 2, 1) := by decide +kernel
theorem dL_told_19 : decode cL_told 19 = .ok (.ireturn, 1) := by decide +kernel
theorem dL_told_20 : decode cL_told 20 = .ok (.iconst 0, 1) := by decide +kernel
theorem dL_told_21 : decode cL_told 21 = .ok (.ireturn, 1) := by decide +kernel
theorem dL_reaches_0 : decode cL_reaches 0 = .ok (.aload 4, 2) := by decide +kernel
theorem dL_reaches_2 : decode cL_reaches 2 = .ok (.iconst 0, 1) := by decide +kernel
theorem dL_reaches_3 : decode cL_reaches 3 = .ok (.aload_n 0, 1) := by decide +kernel
theorem dL_reaches_4 : decode cL_reaches 4 = .ok (.iload_n 1, 1) := by decide +kernel
theorem dL_reaches_5 : decode cL_reaches 5 = .ok (.iload_n 2, 1) := by decide +kernel
theorem dL_reaches_6 : decode cL_reaches 6 = .ok (.iload_n 3, 1) := by decide +kernel
theorem dL_reaches_7 : decode cL_reaches 7 = .ok (.invokevirtual 54, 3) := by decide +kernel
theorem dL_reaches_10 : decode cL_reaches 10 = .ok (.ifCond .eq 7, 3) := by decide +kernel
theorem dL_reaches_13 : decode cL_reaches 13 = .ok (.lconst 1, 1) := by decide +kernel
theorem dL_reaches_14 : decode cL_reaches 14 = .ok (.goto 4, 3) := by decide +kernel
theorem dL_reaches_17 : decode cL_reaches 17 = .ok (.lconst 0, 1) := by decide +kernel
theorem dL_reaches_18 : decode cL_reaches 18 = .ok (.lastore, 1) := by decide +kernel
theorem dL_reaches_19 : decode cL_reaches 19 = .ok (.goto 11, 3) := by decide +kernel
theorem dL_reaches_22 : decode cL_reaches 22 = .ok (.astore 5, 2) := by decide +kernel
theorem dL_reaches_24 : decode cL_reaches 24 = .ok (.iconst 1, 1) := by decide +kernel
theorem dL_reaches_25 : decode cL_reaches 25 = .ok (.ireturn, 1) := by decide +kernel
theorem dL_reaches_26 : decode cL_reaches 26 = .ok (.astore 5, 2) := by decide +kernel
theorem dL_reaches_28 : decode cL_reaches 28 = .ok (.iconst 2, 1) := by decide +kernel
theorem dL_reaches_29 : decode cL_reaches 29 = .ok (.ireturn, 1) := by decide +kernel
theorem dL_reaches_30 : decode cL_reaches 30 = .ok (.iconst 0, 1) := by decide +kernel
theorem dL_reaches_31 : decode cL_reaches 31 = .ok (.ireturn, 1) := by decide +kernel
theorem dL_pack_0 : decode cL_pack 0 = .ok (.aload 4, 2) := by decide +kernel
theorem dL_pack_2 : decode cL_pack 2 = .ok (.iconst 0, 1) := by decide +kernel
theorem dL_pack_3 : decode cL_pack 3 = .ok (.aload_n 0, 1) := by decide +kernel
theorem dL_pack_4 : decode cL_pack 4 = .ok (.iload_n 1, 1) := by decide +kernel
theorem dL_pack_5 : decode cL_pack 5 = .ok (.lload_n 2, 1) := by decide +kernel
theorem dL_pack_6 : decode cL_pack 6 = .ok (.invokevirtual 57, 3) := by decide +kernel
theorem dL_pack_9 : decode cL_pack 9 = .ok (.i2l, 1) := by decide +kernel
theorem dL_pack_10 : decode cL_pack 10 = .ok (.lastore, 1) := by decide +kernel
theorem dL_pack_11 : decode cL_pack 11 = .ok (.goto 7, 3) := by decide +kernel
theorem dL_pack_14 : decode cL_pack 14 = .ok (.astore 5, 2) := by decide +kernel
theorem dL_pack_16 : decode cL_pack 16 = .ok (.iconst 1, 1) := by decide +kernel
theorem dL_pack_17 : decode cL_pack 17 = .ok (.ireturn, 1) := by decide +kernel
theorem dL_pack_18 : decode cL_pack 18 = .ok (.iconst 0, 1) := by decide +kernel
theorem dL_pack_19 : decode cL_pack 19 = .ok (.ireturn, 1) := by decide +kernel
theorem dL_rounded_0 : decode cL_rounded 0 = .ok (.aload 4, 2) := by decide +kernel
theorem dL_rounded_2 : decode cL_rounded 2 = .ok (.iconst 0, 1) := by decide +kernel
theorem dL_rounded_3 : decode cL_rounded 3 = .ok (.aload_n 0, 1) := by decide +kernel
theorem dL_rounded_4 : decode cL_rounded 4 = .ok (.lload_n 1, 1) := by decide +kernel
theorem dL_rounded_5 : decode cL_rounded 5 = .ok (.iload_n 3, 1) := by decide +kernel
theorem dL_rounded_6 : decode cL_rounded 6 = .ok (.invokevirtual 61, 3) := by decide +kernel
theorem dL_rounded_9 : decode cL_rounded 9 = .ok (.lastore, 1) := by decide +kernel
theorem dL_rounded_10 : decode cL_rounded 10 = .ok (.goto 7, 3) := by decide +kernel
theorem dL_rounded_13 : decode cL_rounded 13 = .ok (.astore 5, 2) := by decide +kernel
theorem dL_rounded_15 : decode cL_rounded 15 = .ok (.iconst 1, 1) := by decide +kernel
theorem dL_rounded_16 : decode cL_rounded 16 = .ok (.ireturn, 1) := by decide +kernel
theorem dL_rounded_17 : decode cL_rounded 17 = .ok (.iconst 0, 1) := by decide +kernel
theorem dL_rounded_18 : decode cL_rounded 18 = .ok (.ireturn, 1) := by decide +kernel
