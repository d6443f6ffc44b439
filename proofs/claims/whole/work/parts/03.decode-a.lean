theorem d_NU_mix_0 : decode b_NU_mix 0 = .ok (.iload_n 0, 1) := by decide +kernel
theorem d_NU_mix_1 : decode b_NU_mix 1 = .ok (.iload_n 0, 1) := by decide +kernel
theorem d_NU_mix_2 : decode b_NU_mix 2 = .ok (.bipush 16, 2) := by decide +kernel
theorem d_NU_mix_4 : decode b_NU_mix 4 = .ok (.iushr, 1) := by decide +kernel
theorem d_NU_mix_5 : decode b_NU_mix 5 = .ok (.ixor, 1) := by decide +kernel
theorem d_NU_mix_6 : decode b_NU_mix 6 = .ok (.ldc 9, 2) := by decide +kernel
theorem d_NU_mix_8 : decode b_NU_mix 8 = .ok (.imul, 1) := by decide +kernel
theorem d_NU_mix_9 : decode b_NU_mix 9 = .ok (.istore_n 1, 1) := by decide +kernel
theorem d_NU_mix_10 : decode b_NU_mix 10 = .ok (.iload_n 1, 1) := by decide +kernel
theorem d_NU_mix_11 : decode b_NU_mix 11 = .ok (.iload_n 1, 1) := by decide +kernel
theorem d_NU_mix_12 : decode b_NU_mix 12 = .ok (.bipush 15, 2) := by decide +kernel
theorem d_NU_mix_14 : decode b_NU_mix 14 = .ok (.iushr, 1) := by decide +kernel
theorem d_NU_mix_15 : decode b_NU_mix 15 = .ok (.ixor, 1) := by decide +kernel
theorem d_NU_mix_16 : decode b_NU_mix 16 = .ok (.ldc 10, 2) := by decide +kernel
theorem d_NU_mix_18 : decode b_NU_mix 18 = .ok (.imul, 1) := by decide +kernel
theorem d_NU_mix_19 : decode b_NU_mix 19 = .ok (.istore_n 2, 1) := by decide +kernel
theorem d_NU_mix_20 : decode b_NU_mix 20 = .ok (.iload_n 2, 1) := by decide +kernel
theorem d_NU_mix_21 : decode b_NU_mix 21 = .ok (.iload_n 2, 1) := by decide +kernel
theorem d_NU_mix_22 : decode b_NU_mix 22 = .ok (.bipush 16, 2) := by decide +kernel
theorem d_NU_mix_24 : decode b_NU_mix 24 = .ok (.iushr, 1) := by decide +kernel
theorem d_NU_mix_25 : decode b_NU_mix 25 = .ok (.ixor, 1) := by decide +kernel
theorem d_NU_mix_26 : decode b_NU_mix 26 = .ok (.ireturn, 1) := by decide +kernel
theorem d_NU_power_0 : decode b_NU_power 0 = .ok (.iload_n 0, 1) := by decide +kernel
theorem d_NU_power_1 : decode b_NU_power 1 = .ok (.sipush 32749, 3) := by decide +kernel
theorem d_NU_power_4 : decode b_NU_power 4 = .ok (.irem, 1) := by decide +kernel
theorem d_NU_power_5 : decode b_NU_power 5 = .ok (.istore_n 2, 1) := by decide +kernel
theorem d_NU_power_6 : decode b_NU_power 6 = .ok (.iconst 1, 1) := by decide +kernel
theorem d_NU_power_7 : decode b_NU_power 7 = .ok (.istore_n 3, 1) := by decide +kernel
theorem d_NU_power_8 : decode b_NU_power 8 = .ok (.iconst 0, 1) := by decide +kernel
theorem d_NU_power_9 : decode b_NU_power 9 = .ok (.istore 4, 2) := by decide +kernel
theorem d_NU_power_11 : decode b_NU_power 11 = .ok (.iload 4, 2) := by decide +kernel
theorem d_NU_power_13 : decode b_NU_power 13 = .ok (.bipush 15, 2) := by decide +kernel
theorem d_NU_power_15 : decode b_NU_power 15 = .ok (.if_icmp .ge 35, 3) := by decide +kernel
theorem d_NU_power_18 : decode b_NU_power 18 = .ok (.iload_n 1, 1) := by decide +kernel
theorem d_NU_power_19 : decode b_NU_power 19 = .ok (.iload 4, 2) := by decide +kernel
theorem d_NU_power_21 : decode b_NU_power 21 = .ok (.iushr, 1) := by decide +kernel
theorem d_NU_power_22 : decode b_NU_power 22 = .ok (.iconst 1, 1) := by decide +kernel
theorem d_NU_power_23 : decode b_NU_power 23 = .ok (.iand, 1) := by decide +kernel
theorem d_NU_power_24 : decode b_NU_power 24 = .ok (.iconst 1, 1) := by decide +kernel
theorem d_NU_power_25 : decode b_NU_power 25 = .ok (.if_icmp .ne 11, 3) := by decide +kernel
theorem d_NU_power_28 : decode b_NU_power 28 = .ok (.iload_n 3, 1) := by decide +kernel
theorem d_NU_power_29 : decode b_NU_power 29 = .ok (.iload_n 2, 1) := by decide +kernel
theorem d_NU_power_30 : decode b_NU_power 30 = .ok (.imul, 1) := by decide +kernel
theorem d_NU_power_31 : decode b_NU_power 31 = .ok (.sipush 32749, 3) := by decide +kernel
theorem d_NU_power_34 : decode b_NU_power 34 = .ok (.irem, 1) := by decide +kernel
theorem d_NU_power_35 : decode b_NU_power 35 = .ok (.istore_n 3, 1) := by decide +kernel
theorem d_NU_power_36 : decode b_NU_power 36 = .ok (.iload_n 2, 1) := by decide +kernel
theorem d_NU_power_37 : decode b_NU_power 37 = .ok (.iload_n 2, 1) := by decide +kernel
theorem d_NU_power_38 : decode b_NU_power 38 = .ok (.imul, 1) := by decide +kernel
theorem d_NU_power_39 : decode b_NU_power 39 = .ok (.sipush 32749, 3) := by decide +kernel
theorem d_NU_power_42 : decode b_NU_power 42 = .ok (.irem, 1) := by decide +kernel
theorem d_NU_power_43 : decode b_NU_power 43 = .ok (.istore_n 2, 1) := by decide +kernel
theorem d_NU_power_44 : decode b_NU_power 44 = .ok (.iinc 4 1, 3) := by decide +kernel
theorem d_NU_power_47 : decode b_NU_power 47 = .ok (.goto (-36), 3) := by decide +kernel
theorem d_NU_power_50 : decode b_NU_power 50 = .ok (.iload_n 3, 1) := by decide +kernel
theorem d_NU_power_51 : decode b_NU_power 51 = .ok (.ireturn, 1) := by decide +kernel
theorem d_NU_word_0 : decode b_NU_word 0 = .ok (.iload_n 0, 1) := by decide +kernel
theorem d_NU_word_1 : decode b_NU_word 1 = .ok (.invokestatic 11, 3) := by decide +kernel
theorem d_NU_word_4 : decode b_NU_word 4 = .ok (.iload_n 1, 1) := by decide +kernel
theorem d_NU_word_5 : decode b_NU_word 5 = .ok (.iadd, 1) := by decide +kernel
theorem d_NU_word_6 : decode b_NU_word 6 = .ok (.invokestatic 11, 3) := by decide +kernel
theorem d_NU_word_9 : decode b_NU_word 9 = .ok (.iload_n 2, 1) := by decide +kernel
theorem d_NU_word_10 : decode b_NU_word 10 = .ok (.iadd, 1) := by decide +kernel
theorem d_NU_word_11 : decode b_NU_word 11 = .ok (.invokestatic 11, 3) := by decide +kernel
theorem d_NU_word_14 : decode b_NU_word 14 = .ok (.ireturn, 1) := by decide +kernel
theorem d_RW_append_0 : decode b_RW_append 0 = .ok (.aload_n 0, 1) := by decide +kernel
theorem d_RW_append_1 : decode b_RW_append 1 = .ok (.getfield 13, 3) := by decide +kernel
theorem d_RW_append_4 : decode b_RW_append 4 = .ok (.aload_n 0, 1) := by decide +kernel
theorem d_RW_append_5 : decode b_RW_append 5 = .ok (.getfield 7, 3) := by decide +kernel
theorem d_RW_append_8 : decode b_RW_append 8 = .ok (.arraylength, 1) := by decide +kernel
theorem d_RW_append_9 : decode b_RW_append 9 = .ok (.if_icmp .lt 5, 3) := by decide +kernel
theorem d_RW_append_12 : decode b_RW_append 12 = .ok (.iconst 0, 1) := by decide +kernel
theorem d_RW_append_13 : decode b_RW_append 13 = .ok (.ireturn, 1) := by decide +kernel
theorem d_RW_append_14 : decode b_RW_append 14 = .ok (.aload_n 0, 1) := by decide +kernel
theorem d_RW_append_15 : decode b_RW_append 15 = .ok (.getfield 7, 3) := by decide +kernel
theorem d_RW_append_18 : decode b_RW_append 18 = .ok (.aload_n 0, 1) := by decide +kernel
theorem d_RW_append_19 : decode b_RW_append 19 = .ok (.getfield 13, 3) := by decide +kernel
theorem d_RW_append_22 : decode b_RW_append 22 = .ok (.iload_n 1, 1) := by decide +kernel
theorem d_RW_append_23 : decode b_RW_append 23 = .ok (.iastore, 1) := by decide +kernel
theorem d_RW_append_24 : decode b_RW_append 24 = .ok (.aload_n 0, 1) := by decide +kernel
theorem d_RW_append_25 : decode b_RW_append 25 = .ok (.dup, 1) := by decide +kernel
theorem d_RW_append_26 : decode b_RW_append 26 = .ok (.getfield 13, 3) := by decide +kernel
theorem d_RW_append_29 : decode b_RW_append 29 = .ok (.iconst 1, 1) := by decide +kernel
theorem d_RW_append_30 : decode b_RW_append 30 = .ok (.iadd, 1) := by decide +kernel
theorem d_RW_append_31 : decode b_RW_append 31 = .ok (.putfield 13, 3) := by decide +kernel
theorem d_RW_append_34 : decode b_RW_append 34 = .ok (.iconst 1, 1) := by decide +kernel
theorem d_RW_append_35 : decode b_RW_append 35 = .ok (.ireturn, 1) := by decide +kernel
theorem d_RW_appendPair_0 : decode b_RW_appendPair 0 = .ok (.aload_n 0, 1) := by decide +kernel
theorem d_RW_appendPair_1 : decode b_RW_appendPair 1 = .ok (.iload_n 1, 1) := by decide +kernel
theorem d_RW_appendPair_2 : decode b_RW_appendPair 2 = .ok (.bipush 8, 2) := by decide +kernel
theorem d_RW_appendPair_4 : decode b_RW_appendPair 4 = .ok (.iushr, 1) := by decide +kernel
theorem d_RW_appendPair_5 : decode b_RW_appendPair 5 = .ok (.invokevirtual 21, 3) := by decide +kernel
theorem d_RW_appendPair_8 : decode b_RW_appendPair 8 = .ok (.pop, 1) := by decide +kernel
theorem d_RW_appendPair_9 : decode b_RW_appendPair 9 = .ok (.aload_n 0, 1) := by decide +kernel
theorem d_RW_appendPair_10 : decode b_RW_appendPair 10 = .ok (.iload_n 1, 1) := by decide +kernel
theorem d_RW_appendPair_11 : decode b_RW_appendPair 11 = .ok (.sipush 255, 3) := by decide +kernel
theorem d_RW_appendPair_14 : decode b_RW_appendPair 14 = .ok (.iand, 1) := by decide +kernel
theorem d_RW_appendPair_15 : decode b_RW_appendPair 15 = .ok (.invokevirtual 21, 3) := by decide +kernel
theorem d_RW_appendPair_18 : decode b_RW_appendPair 18 = .ok (.pop, 1) := by decide +kernel
theorem d_RW_appendPair_19 : decode b_RW_appendPair 19 = .ok (.return_, 1) := by decide +kernel
theorem d_RW_has_0 : decode b_RW_has 0 = .ok (.iload_n 1, 1) := by decide +kernel
theorem d_RW_has_1 : decode b_RW_has 1 = .ok (.ifCond .lt 15, 3) := by decide +kernel
theorem d_RW_has_4 : decode b_RW_has 4 = .ok (.iload_n 1, 1) := by decide +kernel
theorem d_RW_has_5 : decode b_RW_has 5 = .ok (.aload_n 0, 1) := by decide +kernel
theorem d_RW_has_6 : decode b_RW_has 6 = .ok (.getfield 13, 3) := by decide +kernel
theorem d_RW_has_9 : decode b_RW_has 9 = .ok (.if_icmp .ge 7, 3) := by decide +kernel
theorem d_RW_has_12 : decode b_RW_has 12 = .ok (.iconst 1, 1) := by decide +kernel
theorem d_RW_has_13 : decode b_RW_has 13 = .ok (.goto 4, 3) := by decide +kernel
theorem d_RW_has_16 : decode b_RW_has 16 = .ok (.iconst 0, 1) := by decide +kernel
theorem d_RW_has_17 : decode b_RW_has 17 = .ok (.ireturn, 1) := by decide +kernel
theorem d_RW_init_0 : decode b_RW_init 0 = .ok (.aload_n 0, 1) := by decide +kernel
theorem d_RW_init_1 : decode b_RW_init 1 = .ok (.invokespecial 1, 3) := by decide +kernel
theorem d_RW_init_4 : decode b_RW_init 4 = .ok (.aload_n 0, 1) := by decide +kernel
theorem d_RW_init_5 : decode b_RW_init 5 = .ok (.iload_n 1, 1) := by decide +kernel
theorem d_RW_init_6 : decode b_RW_init 6 = .ok (.newarray .int, 2) := by decide +kernel
theorem d_RW_init_8 : decode b_RW_init 8 = .ok (.putfield 7, 3) := by decide +kernel
theorem d_RW_init_11 : decode b_RW_init 11 = .ok (.aload_n 0, 1) := by decide +kernel
theorem d_RW_init_12 : decode b_RW_init 12 = .ok (.iconst 0, 1) := by decide +kernel
theorem d_RW_init_13 : decode b_RW_init 13 = .ok (.putfield 13, 3) := by decide +kernel
theorem d_RW_init_16 : decode b_RW_init 16 = .ok (.return_, 1) := by decide +kernel
theorem d_RW_item_0 : decode b_RW_item 0 = .ok (.aload_n 0, 1) := by decide +kernel
theorem d_RW_item_1 : decode b_RW_item 1 = .ok (.iload_n 1, 1) := by decide +kernel
theorem d_RW_item_2 : decode b_RW_item 2 = .ok (.invokevirtual 17, 3) := by decide +kernel
theorem d_RW_item_5 : decode b_RW_item 5 = .ok (.ifCond .eq 12, 3) := by decide +kernel
theorem d_RW_item_8 : decode b_RW_item 8 = .ok (.aload_n 0, 1) := by decide +kernel
theorem d_RW_item_9 : decode b_RW_item 9 = .ok (.getfield 7, 3) := by decide +kernel
theorem d_RW_item_12 : decode b_RW_item 12 = .ok (.iload_n 1, 1) := by decide +kernel
theorem d_RW_item_13 : decode b_RW_item 13 = .ok (.iaload, 1) := by decide +kernel
theorem d_RW_item_14 : decode b_RW_item 14 = .ok (.goto 4, 3) := by decide +kernel
theorem d_RW_item_17 : decode b_RW_item 17 = .ok (.iconst (-1), 1) := by decide +kernel
theorem d_RW_item_18 : decode b_RW_item 18 = .ok (.ireturn, 1) := by decide +kernel
theorem d_RW_pair_0 : decode b_RW_pair 0 = .ok (.aload_n 0, 1) := by decide +kernel
theorem d_RW_pair_1 : decode b_RW_pair 1 = .ok (.iload_n 1, 1) := by decide +kernel
theorem d_RW_pair_2 : decode b_RW_pair 2 = .ok (.invokevirtual 24, 3) := by decide +kernel
theorem d_RW_pair_5 : decode b_RW_pair 5 = .ok (.bipush 8, 2) := by decide +kernel
theorem d_RW_pair_7 : decode b_RW_pair 7 = .ok (.ishl, 1) := by decide +kernel
theorem d_RW_pair_8 : decode b_RW_pair 8 = .ok (.aload_n 0, 1) := by decide +kernel
theorem d_RW_pair_9 : decode b_RW_pair 9 = .ok (.iload_n 1, 1) := by decide +kernel
theorem d_RW_pair_10 : decode b_RW_pair 10 = .ok (.iconst 1, 1) := by decide +kernel
theorem d_RW_pair_11 : decode b_RW_pair 11 = .ok (.iadd, 1) := by decide +kernel
theorem d_RW_pair_12 : decode b_RW_pair 12 = .ok (.invokevirtual 24, 3) := by decide +kernel
theorem d_RW_pair_15 : decode b_RW_pair 15 = .ok (.ior, 1) := by decide +kernel
theorem d_RW_pair_16 : decode b_RW_pair 16 = .ok (.ireturn, 1) := by decide +kernel
theorem d_RW_replace_0 : decode b_RW_replace 0 = .ok (.aload_n 0, 1) := by decide +kernel
theorem d_RW_replace_1 : decode b_RW_replace 1 = .ok (.iload_n 1, 1) := by decide +kernel
theorem d_RW_replace_2 : decode b_RW_replace 2 = .ok (.invokevirtual 17, 3) := by decide +kernel
theorem d_RW_replace_5 : decode b_RW_replace 5 = .ok (.ifCond .eq 10, 3) := by decide +kernel
theorem d_RW_replace_8 : decode b_RW_replace 8 = .ok (.aload_n 0, 1) := by decide +kernel
theorem d_RW_replace_9 : decode b_RW_replace 9 = .ok (.getfield 7, 3) := by decide +kernel
theorem d_RW_replace_12 : decode b_RW_replace 12 = .ok (.iload_n 1, 1) := by decide +kernel
theorem d_RW_replace_13 : decode b_RW_replace 13 = .ok (.iload_n 2, 1) := by decide +kernel
theorem d_RW_replace_14 : decode b_RW_replace 14 = .ok (.iastore, 1) := by decide +kernel
theorem d_RW_replace_15 : decode b_RW_replace 15 = .ok (.return_, 1) := by decide +kernel
theorem d_RW_shorten_0 : decode b_RW_shorten 0 = .ok (.iload_n 1, 1) := by decide +kernel
theorem d_RW_shorten_1 : decode b_RW_shorten 1 = .ok (.ifCond .lt 11, 3) := by decide +kernel
theorem d_RW_shorten_4 : decode b_RW_shorten 4 = .ok (.iload_n 1, 1) := by decide +kernel
theorem d_RW_shorten_5 : decode b_RW_shorten 5 = .ok (.aload_n 0, 1) := by decide +kernel
theorem d_RW_shorten_6 : decode b_RW_shorten 6 = .ok (.getfield 13, 3) := by decide +kernel
theorem d_RW_shorten_9 : decode b_RW_shorten 9 = .ok (.if_icmp .lt 5, 3) := by decide +kernel
theorem d_RW_shorten_12 : decode b_RW_shorten 12 = .ok (.iconst 0, 1) := by decide +kernel
theorem d_RW_shorten_13 : decode b_RW_shorten 13 = .ok (.ireturn, 1) := by decide +kernel
theorem d_RW_shorten_14 : decode b_RW_shorten 14 = .ok (.aload_n 0, 1) := by decide +kernel
theorem d_RW_shorten_15 : decode b_RW_shorten 15 = .ok (.iload_n 1, 1) := by decide +kernel
theorem d_RW_shorten_16 : decode b_RW_shorten 16 = .ok (.putfield 13, 3) := by decide +kernel
theorem d_RW_shorten_19 : decode b_RW_shorten 19 = .ok (.iconst 1, 1) := by decide +kernel
theorem d_RW_shorten_20 : decode b_RW_shorten 20 = .ok (.ireturn, 1) := by decide +kernel
theorem d_RW_sign_0 : decode b_RW_sign 0 = .ok (.iconst 1, 1) := by decide +kernel
theorem d_RW_sign_1 : decode b_RW_sign 1 = .ok (.iload_n 3, 1) := by decide +kernel
theorem d_RW_sign_2 : decode b_RW_sign 2 = .ok (.bipush 8, 2) := by decide +kernel
theorem d_RW_sign_4 : decode b_RW_sign 4 = .ok (.iushr, 1) := by decide +kernel
theorem d_RW_sign_5 : decode b_RW_sign 5 = .ok (.ldc 28, 2) := by decide +kernel
theorem d_RW_sign_7 : decode b_RW_sign 7 = .ok (.irem, 1) := by decide +kernel
theorem d_RW_sign_8 : decode b_RW_sign 8 = .ok (.iadd, 1) := by decide +kernel
theorem d_RW_sign_9 : decode b_RW_sign 9 = .ok (.i2l, 1) := by decide +kernel
theorem d_RW_sign_10 : decode b_RW_sign 10 = .ok (.lstore 4, 2) := by decide +kernel
theorem d_RW_sign_12 : decode b_RW_sign 12 = .ok (.lconst 0, 1) := by decide +kernel
theorem d_RW_sign_13 : decode b_RW_sign 13 = .ok (.lstore 6, 2) := by decide +kernel
theorem d_RW_sign_15 : decode b_RW_sign 15 = .ok (.iload_n 1, 1) := by decide +kernel
theorem d_RW_sign_16 : decode b_RW_sign 16 = .ok (.istore 8, 2) := by decide +kernel
theorem d_RW_sign_18 : decode b_RW_sign 18 = .ok (.iload 8, 2) := by decide +kernel
theorem d_RW_sign_20 : decode b_RW_sign 20 = .ok (.iload_n 2, 1) := by decide +kernel
theorem d_RW_sign_21 : decode b_RW_sign 21 = .ok (.if_icmp .ge 30, 3) := by decide +kernel
theorem d_RW_sign_24 : decode b_RW_sign 24 = .ok (.lload 6, 2) := by decide +kernel
theorem d_RW_sign_26 : decode b_RW_sign 26 = .ok (.aload_n 0, 1) := by decide +kernel
theorem d_RW_sign_27 : decode b_RW_sign 27 = .ok (.iload 8, 2) := by decide +kernel
theorem d_RW_sign_29 : decode b_RW_sign 29 = .ok (.invokevirtual 24, 3) := by decide +kernel
theorem d_RW_sign_32 : decode b_RW_sign 32 = .ok (.i2l, 1) := by decide +kernel
theorem d_RW_sign_33 : decode b_RW_sign 33 = .ok (.ladd, 1) := by decide +kernel
theorem d_RW_sign_34 : decode b_RW_sign 34 = .ok (.lconst 1, 1) := by decide +kernel
theorem d_RW_sign_35 : decode b_RW_sign 35 = .ok (.ladd, 1) := by decide +kernel
theorem d_RW_sign_36 : decode b_RW_sign 36 = .ok (.lload 4, 2) := by decide +kernel
theorem d_RW_sign_38 : decode b_RW_sign 38 = .ok (.lmul, 1) := by decide +kernel
theorem d_RW_sign_39 : decode b_RW_sign 39 = .ok (.ldc2_w 29, 3) := by decide +kernel
theorem d_RW_sign_42 : decode b_RW_sign 42 = .ok (.lrem, 1) := by decide +kernel
theorem d_RW_sign_43 : decode b_RW_sign 43 = .ok (.lstore 6, 2) := by decide +kernel
theorem d_RW_sign_45 : decode b_RW_sign 45 = .ok (.iinc 8 1, 3) := by decide +kernel
theorem d_RW_sign_48 : decode b_RW_sign 48 = .ok (.goto (-30), 3) := by decide +kernel
theorem d_RW_sign_51 : decode b_RW_sign 51 = .ok (.lload 6, 2) := by decide +kernel
theorem d_RW_sign_53 : decode b_RW_sign 53 = .ok (.iload_n 3, 1) := by decide +kernel
theorem d_RW_sign_54 : decode b_RW_sign 54 = .ok (.sipush 255, 3) := by decide +kernel
theorem d_RW_sign_57 : decode b_RW_sign 57 = .ok (.iand, 1) := by decide +kernel
theorem d_RW_sign_58 : decode b_RW_sign 58 = .ok (.i2l, 1) := by decide +kernel
theorem d_RW_sign_59 : decode b_RW_sign 59 = .ok (.ladd, 1) := by decide +kernel
theorem d_RW_sign_60 : decode b_RW_sign 60 = .ok (.ldc2_w 29, 3) := by decide +kernel
theorem d_RW_sign_63 : decode b_RW_sign 63 = .ok (.lrem, 1) := by decide +kernel
theorem d_RW_sign_64 : decode b_RW_sign 64 = .ok (.l2i, 1) := by decide +kernel
theorem d_RW_sign_65 : decode b_RW_sign 65 = .ok (.ireturn, 1) := by decide +kernel
theorem d_RW_size_0 : decode b_RW_size 0 = .ok (.aload_n 0, 1) := by decide +kernel
theorem d_RW_size_1 : decode b_RW_size 1 = .ok (.getfield 13, 3) := by decide +kernel
theorem d_RW_size_4 : decode b_RW_size 4 = .ok (.ireturn, 1) := by decide +kernel
