theorem d_MD_add_0 : decode b_MD_add 0 = .ok (.aload_n 0, 1) := by decide +kernel
theorem d_MD_add_1 : decode b_MD_add 1 = .ok (.getfield 16, 3) := by decide +kernel
theorem d_MD_add_4 : decode b_MD_add 4 = .ok (.aload_n 0, 1) := by decide +kernel
theorem d_MD_add_5 : decode b_MD_add 5 = .ok (.getfield 56, 3) := by decide +kernel
theorem d_MD_add_8 : decode b_MD_add 8 = .ok (.iload_n 1, 1) := by decide +kernel
theorem d_MD_add_9 : decode b_MD_add 9 = .ok (.sipush 255, 3) := by decide +kernel
theorem d_MD_add_12 : decode b_MD_add 12 = .ok (.iand, 1) := by decide +kernel
theorem d_MD_add_13 : decode b_MD_add 13 = .ok (.iastore, 1) := by decide +kernel
theorem d_MD_add_14 : decode b_MD_add 14 = .ok (.aload_n 0, 1) := by decide +kernel
theorem d_MD_add_15 : decode b_MD_add 15 = .ok (.dup, 1) := by decide +kernel
theorem d_MD_add_16 : decode b_MD_add 16 = .ok (.getfield 56, 3) := by decide +kernel
theorem d_MD_add_19 : decode b_MD_add 19 = .ok (.iconst 1, 1) := by decide +kernel
theorem d_MD_add_20 : decode b_MD_add 20 = .ok (.iadd, 1) := by decide +kernel
theorem d_MD_add_21 : decode b_MD_add 21 = .ok (.putfield 56, 3) := by decide +kernel
theorem d_MD_add_24 : decode b_MD_add 24 = .ok (.return_, 1) := by decide +kernel
theorem d_MD_addTwo_0 : decode b_MD_addTwo 0 = .ok (.aload_n 0, 1) := by decide +kernel
theorem d_MD_addTwo_1 : decode b_MD_addTwo 1 = .ok (.iload_n 1, 1) := by decide +kernel
theorem d_MD_addTwo_2 : decode b_MD_addTwo 2 = .ok (.bipush 8, 2) := by decide +kernel
theorem d_MD_addTwo_4 : decode b_MD_addTwo 4 = .ok (.ishr, 1) := by decide +kernel
theorem d_MD_addTwo_5 : decode b_MD_addTwo 5 = .ok (.invokevirtual 59, 3) := by decide +kernel
theorem d_MD_addTwo_8 : decode b_MD_addTwo 8 = .ok (.aload_n 0, 1) := by decide +kernel
theorem d_MD_addTwo_9 : decode b_MD_addTwo 9 = .ok (.iload_n 1, 1) := by decide +kernel
theorem d_MD_addTwo_10 : decode b_MD_addTwo 10 = .ok (.invokevirtual 59, 3) := by decide +kernel
theorem d_MD_addTwo_13 : decode b_MD_addTwo 13 = .ok (.return_, 1) := by decide +kernel
theorem d_MD_address_0 : decode b_MD_address 0 = .ok (.aload_n 0, 1) := by decide +kernel
theorem d_MD_address_1 : decode b_MD_address 1 = .ok (.iconst 0, 1) := by decide +kernel
theorem d_MD_address_2 : decode b_MD_address 2 = .ok (.putfield 26, 3) := by decide +kernel
theorem d_MD_address_5 : decode b_MD_address 5 = .ok (.aload_n 0, 1) := by decide +kernel
theorem d_MD_address_6 : decode b_MD_address 6 = .ok (.iload_n 1, 1) := by decide +kernel
theorem d_MD_address_7 : decode b_MD_address 7 = .ok (.invokevirtual 45, 3) := by decide +kernel
theorem d_MD_address_10 : decode b_MD_address 10 = .ok (.ifCond .eq 16, 3) := by decide +kernel
theorem d_MD_address_13 : decode b_MD_address 13 = .ok (.iconst 2, 1) := by decide +kernel
theorem d_MD_address_14 : decode b_MD_address 14 = .ok (.aload_n 0, 1) := by decide +kernel
theorem d_MD_address_15 : decode b_MD_address 15 = .ok (.getfield 7, 3) := by decide +kernel
theorem d_MD_address_18 : decode b_MD_address 18 = .ok (.iload_n 1, 1) := by decide +kernel
theorem d_MD_address_19 : decode b_MD_address 19 = .ok (.iaload, 1) := by decide +kernel
theorem d_MD_address_20 : decode b_MD_address 20 = .ok (.invokestatic 49, 3) := by decide +kernel
theorem d_MD_address_23 : decode b_MD_address 23 = .ok (.goto 4, 3) := by decide +kernel
theorem d_MD_address_26 : decode b_MD_address 26 = .ok (.iconst (-1), 1) := by decide +kernel
theorem d_MD_address_27 : decode b_MD_address 27 = .ok (.ireturn, 1) := by decide +kernel
theorem d_MD_alter_0 : decode b_MD_alter 0 = .ok (.aload_n 0, 1) := by decide +kernel
theorem d_MD_alter_1 : decode b_MD_alter 1 = .ok (.iconst 0, 1) := by decide +kernel
theorem d_MD_alter_2 : decode b_MD_alter 2 = .ok (.putfield 26, 3) := by decide +kernel
theorem d_MD_alter_5 : decode b_MD_alter 5 = .ok (.iload_n 1, 1) := by decide +kernel
theorem d_MD_alter_6 : decode b_MD_alter 6 = .ok (.ifCond .lt 11, 3) := by decide +kernel
theorem d_MD_alter_9 : decode b_MD_alter 9 = .ok (.iload_n 1, 1) := by decide +kernel
theorem d_MD_alter_10 : decode b_MD_alter 10 = .ok (.aload_n 0, 1) := by decide +kernel
theorem d_MD_alter_11 : decode b_MD_alter 11 = .ok (.getfield 56, 3) := by decide +kernel
theorem d_MD_alter_14 : decode b_MD_alter 14 = .ok (.if_icmp .lt 9, 3) := by decide +kernel
theorem d_MD_alter_17 : decode b_MD_alter 17 = .ok (.aload_n 0, 1) := by decide +kernel
theorem d_MD_alter_18 : decode b_MD_alter 18 = .ok (.iconst 1, 1) := by decide +kernel
theorem d_MD_alter_19 : decode b_MD_alter 19 = .ok (.invokevirtual 39, 3) := by decide +kernel
theorem d_MD_alter_22 : decode b_MD_alter 22 = .ok (.ireturn, 1) := by decide +kernel
theorem d_MD_alter_23 : decode b_MD_alter 23 = .ok (.aload_n 0, 1) := by decide +kernel
theorem d_MD_alter_24 : decode b_MD_alter 24 = .ok (.getfield 16, 3) := by decide +kernel
theorem d_MD_alter_27 : decode b_MD_alter 27 = .ok (.iload_n 1, 1) := by decide +kernel
theorem d_MD_alter_28 : decode b_MD_alter 28 = .ok (.aload_n 0, 1) := by decide +kernel
theorem d_MD_alter_29 : decode b_MD_alter 29 = .ok (.getfield 16, 3) := by decide +kernel
theorem d_MD_alter_32 : decode b_MD_alter 32 = .ok (.iload_n 1, 1) := by decide +kernel
theorem d_MD_alter_33 : decode b_MD_alter 33 = .ok (.iaload, 1) := by decide +kernel
theorem d_MD_alter_34 : decode b_MD_alter 34 = .ok (.iload_n 2, 1) := by decide +kernel
theorem d_MD_alter_35 : decode b_MD_alter 35 = .ok (.sipush 255, 3) := by decide +kernel
theorem d_MD_alter_38 : decode b_MD_alter 38 = .ok (.iand, 1) := by decide +kernel
theorem d_MD_alter_39 : decode b_MD_alter 39 = .ok (.ixor, 1) := by decide +kernel
theorem d_MD_alter_40 : decode b_MD_alter 40 = .ok (.iastore, 1) := by decide +kernel
theorem d_MD_alter_41 : decode b_MD_alter 41 = .ok (.aload_n 0, 1) := by decide +kernel
theorem d_MD_alter_42 : decode b_MD_alter 42 = .ok (.getfield 16, 3) := by decide +kernel
theorem d_MD_alter_45 : decode b_MD_alter 45 = .ok (.iload_n 1, 1) := by decide +kernel
theorem d_MD_alter_46 : decode b_MD_alter 46 = .ok (.iaload, 1) := by decide +kernel
theorem d_MD_alter_47 : decode b_MD_alter 47 = .ok (.ireturn, 1) := by decide +kernel
theorem d_MD_at_0 : decode b_MD_at 0 = .ok (.aload_n 0, 1) := by decide +kernel
theorem d_MD_at_1 : decode b_MD_at 1 = .ok (.iconst 0, 1) := by decide +kernel
theorem d_MD_at_2 : decode b_MD_at 2 = .ok (.putfield 26, 3) := by decide +kernel
theorem d_MD_at_5 : decode b_MD_at 5 = .ok (.iload_n 1, 1) := by decide +kernel
theorem d_MD_at_6 : decode b_MD_at 6 = .ok (.ifCond .lt 20, 3) := by decide +kernel
theorem d_MD_at_9 : decode b_MD_at 9 = .ok (.iload_n 1, 1) := by decide +kernel
theorem d_MD_at_10 : decode b_MD_at 10 = .ok (.aload_n 0, 1) := by decide +kernel
theorem d_MD_at_11 : decode b_MD_at 11 = .ok (.getfield 56, 3) := by decide +kernel
theorem d_MD_at_14 : decode b_MD_at 14 = .ok (.if_icmp .ge 12, 3) := by decide +kernel
theorem d_MD_at_17 : decode b_MD_at 17 = .ok (.aload_n 0, 1) := by decide +kernel
theorem d_MD_at_18 : decode b_MD_at 18 = .ok (.getfield 16, 3) := by decide +kernel
theorem d_MD_at_21 : decode b_MD_at 21 = .ok (.iload_n 1, 1) := by decide +kernel
theorem d_MD_at_22 : decode b_MD_at 22 = .ok (.iaload, 1) := by decide +kernel
theorem d_MD_at_23 : decode b_MD_at 23 = .ok (.goto 4, 3) := by decide +kernel
theorem d_MD_at_26 : decode b_MD_at 26 = .ok (.iconst (-1), 1) := by decide +kernel
theorem d_MD_at_27 : decode b_MD_at 27 = .ok (.ireturn, 1) := by decide +kernel
theorem d_MD_bit_0 : decode b_MD_bit 0 = .ok (.iload_n 1, 1) := by decide +kernel
theorem d_MD_bit_1 : decode b_MD_bit 1 = .ok (.bipush 8, 2) := by decide +kernel
theorem d_MD_bit_3 : decode b_MD_bit 3 = .ok (.aload_n 0, 1) := by decide +kernel
theorem d_MD_bit_4 : decode b_MD_bit 4 = .ok (.getfield 56, 3) := by decide +kernel
theorem d_MD_bit_7 : decode b_MD_bit 7 = .ok (.imul, 1) := by decide +kernel
theorem d_MD_bit_8 : decode b_MD_bit 8 = .ok (.if_icmp .ge 25, 3) := by decide +kernel
theorem d_MD_bit_11 : decode b_MD_bit 11 = .ok (.aload_n 0, 1) := by decide +kernel
theorem d_MD_bit_12 : decode b_MD_bit 12 = .ok (.getfield 16, 3) := by decide +kernel
theorem d_MD_bit_15 : decode b_MD_bit 15 = .ok (.iload_n 1, 1) := by decide +kernel
theorem d_MD_bit_16 : decode b_MD_bit 16 = .ok (.bipush 8, 2) := by decide +kernel
theorem d_MD_bit_18 : decode b_MD_bit 18 = .ok (.idiv, 1) := by decide +kernel
theorem d_MD_bit_19 : decode b_MD_bit 19 = .ok (.iaload, 1) := by decide +kernel
theorem d_MD_bit_20 : decode b_MD_bit 20 = .ok (.bipush 7, 2) := by decide +kernel
theorem d_MD_bit_22 : decode b_MD_bit 22 = .ok (.iload_n 1, 1) := by decide +kernel
theorem d_MD_bit_23 : decode b_MD_bit 23 = .ok (.bipush 8, 2) := by decide +kernel
theorem d_MD_bit_25 : decode b_MD_bit 25 = .ok (.irem, 1) := by decide +kernel
theorem d_MD_bit_26 : decode b_MD_bit 26 = .ok (.isub, 1) := by decide +kernel
theorem d_MD_bit_27 : decode b_MD_bit 27 = .ok (.ishr, 1) := by decide +kernel
theorem d_MD_bit_28 : decode b_MD_bit 28 = .ok (.iconst 1, 1) := by decide +kernel
theorem d_MD_bit_29 : decode b_MD_bit 29 = .ok (.iand, 1) := by decide +kernel
theorem d_MD_bit_30 : decode b_MD_bit 30 = .ok (.goto 4, 3) := by decide +kernel
theorem d_MD_bit_33 : decode b_MD_bit 33 = .ok (.iconst 0, 1) := by decide +kernel
theorem d_MD_bit_34 : decode b_MD_bit 34 = .ok (.ireturn, 1) := by decide +kernel
theorem d_MD_clear_0 : decode b_MD_clear 0 = .ok (.aload_n 0, 1) := by decide +kernel
theorem d_MD_clear_1 : decode b_MD_clear 1 = .ok (.iconst 0, 1) := by decide +kernel
theorem d_MD_clear_2 : decode b_MD_clear 2 = .ok (.putfield 26, 3) := by decide +kernel
theorem d_MD_clear_5 : decode b_MD_clear 5 = .ok (.aload_n 0, 1) := by decide +kernel
theorem d_MD_clear_6 : decode b_MD_clear 6 = .ok (.getfield 53, 3) := by decide +kernel
theorem d_MD_clear_9 : decode b_MD_clear 9 = .ok (.istore_n 1, 1) := by decide +kernel
theorem d_MD_clear_10 : decode b_MD_clear 10 = .ok (.aload_n 0, 1) := by decide +kernel
theorem d_MD_clear_11 : decode b_MD_clear 11 = .ok (.iconst 0, 1) := by decide +kernel
theorem d_MD_clear_12 : decode b_MD_clear 12 = .ok (.putfield 53, 3) := by decide +kernel
theorem d_MD_clear_15 : decode b_MD_clear 15 = .ok (.iload_n 1, 1) := by decide +kernel
theorem d_MD_clear_16 : decode b_MD_clear 16 = .ok (.ireturn, 1) := by decide +kernel
theorem d_MD_count_0 : decode b_MD_count 0 = .ok (.aload_n 0, 1) := by decide +kernel
theorem d_MD_count_1 : decode b_MD_count 1 = .ok (.iconst 0, 1) := by decide +kernel
theorem d_MD_count_2 : decode b_MD_count 2 = .ok (.putfield 26, 3) := by decide +kernel
theorem d_MD_count_5 : decode b_MD_count 5 = .ok (.iload_n 1, 1) := by decide +kernel
theorem d_MD_count_6 : decode b_MD_count 6 = .ok (.ifCond .ne 10, 3) := by decide +kernel
theorem d_MD_count_9 : decode b_MD_count 9 = .ok (.aload_n 0, 1) := by decide +kernel
theorem d_MD_count_10 : decode b_MD_count 10 = .ok (.getfield 53, 3) := by decide +kernel
theorem d_MD_count_13 : decode b_MD_count 13 = .ok (.goto 28, 3) := by decide +kernel
theorem d_MD_count_16 : decode b_MD_count 16 = .ok (.iload_n 1, 1) := by decide +kernel
theorem d_MD_count_17 : decode b_MD_count 17 = .ok (.iconst 1, 1) := by decide +kernel
theorem d_MD_count_18 : decode b_MD_count 18 = .ok (.if_icmp .ne 10, 3) := by decide +kernel
theorem d_MD_count_21 : decode b_MD_count 21 = .ok (.aload_n 0, 1) := by decide +kernel
theorem d_MD_count_22 : decode b_MD_count 22 = .ok (.getfield 56, 3) := by decide +kernel
theorem d_MD_count_25 : decode b_MD_count 25 = .ok (.goto 16, 3) := by decide +kernel
theorem d_MD_count_28 : decode b_MD_count 28 = .ok (.iload_n 1, 1) := by decide +kernel
theorem d_MD_count_29 : decode b_MD_count 29 = .ok (.iconst 2, 1) := by decide +kernel
theorem d_MD_count_30 : decode b_MD_count 30 = .ok (.if_icmp .ne 10, 3) := by decide +kernel
theorem d_MD_count_33 : decode b_MD_count 33 = .ok (.aload_n 0, 1) := by decide +kernel
theorem d_MD_count_34 : decode b_MD_count 34 = .ok (.getfield 42, 3) := by decide +kernel
theorem d_MD_count_37 : decode b_MD_count 37 = .ok (.goto 4, 3) := by decide +kernel
theorem d_MD_count_40 : decode b_MD_count 40 = .ok (.iconst (-1), 1) := by decide +kernel
theorem d_MD_count_41 : decode b_MD_count 41 = .ok (.ireturn, 1) := by decide +kernel
theorem d_MD_cut_0 : decode b_MD_cut 0 = .ok (.aload_n 0, 1) := by decide +kernel
theorem d_MD_cut_1 : decode b_MD_cut 1 = .ok (.iconst 0, 1) := by decide +kernel
theorem d_MD_cut_2 : decode b_MD_cut 2 = .ok (.putfield 26, 3) := by decide +kernel
theorem d_MD_cut_5 : decode b_MD_cut 5 = .ok (.iload_n 1, 1) := by decide +kernel
theorem d_MD_cut_6 : decode b_MD_cut 6 = .ok (.ifCond .lt 11, 3) := by decide +kernel
theorem d_MD_cut_9 : decode b_MD_cut 9 = .ok (.iload_n 1, 1) := by decide +kernel
theorem d_MD_cut_10 : decode b_MD_cut 10 = .ok (.aload_n 0, 1) := by decide +kernel
theorem d_MD_cut_11 : decode b_MD_cut 11 = .ok (.getfield 56, 3) := by decide +kernel
theorem d_MD_cut_14 : decode b_MD_cut 14 = .ok (.if_icmp .lt 5, 3) := by decide +kernel
theorem d_MD_cut_17 : decode b_MD_cut 17 = .ok (.iconst 0, 1) := by decide +kernel
theorem d_MD_cut_18 : decode b_MD_cut 18 = .ok (.ireturn, 1) := by decide +kernel
theorem d_MD_cut_19 : decode b_MD_cut 19 = .ok (.aload_n 0, 1) := by decide +kernel
theorem d_MD_cut_20 : decode b_MD_cut 20 = .ok (.iload_n 1, 1) := by decide +kernel
theorem d_MD_cut_21 : decode b_MD_cut 21 = .ok (.putfield 56, 3) := by decide +kernel
theorem d_MD_cut_24 : decode b_MD_cut 24 = .ok (.iconst 1, 1) := by decide +kernel
theorem d_MD_cut_25 : decode b_MD_cut 25 = .ok (.ireturn, 1) := by decide +kernel
theorem d_MD_entry_0 : decode b_MD_entry 0 = .ok (.iload_n 2, 1) := by decide +kernel
theorem d_MD_entry_1 : decode b_MD_entry 1 = .ok (.iload_n 3, 1) := by decide +kernel
theorem d_MD_entry_2 : decode b_MD_entry 2 = .ok (.iload_n 1, 1) := by decide +kernel
theorem d_MD_entry_3 : decode b_MD_entry 3 = .ok (.invokestatic 63, 3) := by decide +kernel
theorem d_MD_entry_6 : decode b_MD_entry 6 = .ok (.istore 4, 2) := by decide +kernel
theorem d_MD_entry_8 : decode b_MD_entry 8 = .ok (.iconst 2, 1) := by decide +kernel
theorem d_MD_entry_9 : decode b_MD_entry 9 = .ok (.iload 4, 2) := by decide +kernel
theorem d_MD_entry_11 : decode b_MD_entry 11 = .ok (.iconst 1, 1) := by decide +kernel
theorem d_MD_entry_12 : decode b_MD_entry 12 = .ok (.iushr, 1) := by decide +kernel
theorem d_MD_entry_13 : decode b_MD_entry 13 = .ok (.sipush 32746, 3) := by decide +kernel
theorem d_MD_entry_16 : decode b_MD_entry 16 = .ok (.irem, 1) := by decide +kernel
theorem d_MD_entry_17 : decode b_MD_entry 17 = .ok (.iadd, 1) := by decide +kernel
theorem d_MD_entry_18 : decode b_MD_entry 18 = .ok (.istore 4, 2) := by decide +kernel
theorem d_MD_entry_20 : decode b_MD_entry 20 = .ok (.iconst 2, 1) := by decide +kernel
theorem d_MD_entry_21 : decode b_MD_entry 21 = .ok (.aload_n 0, 1) := by decide +kernel
theorem d_MD_entry_22 : decode b_MD_entry 22 = .ok (.getfield 7, 3) := by decide +kernel
theorem d_MD_entry_25 : decode b_MD_entry 25 = .ok (.iload_n 1, 1) := by decide +kernel
theorem d_MD_entry_26 : decode b_MD_entry 26 = .ok (.iaload, 1) := by decide +kernel
theorem d_MD_entry_27 : decode b_MD_entry 27 = .ok (.invokestatic 49, 3) := by decide +kernel
theorem d_MD_entry_30 : decode b_MD_entry 30 = .ok (.istore 5, 2) := by decide +kernel
theorem d_MD_entry_32 : decode b_MD_entry 32 = .ok (.iload 5, 2) := by decide +kernel
theorem d_MD_entry_34 : decode b_MD_entry 34 = .ok (.iload 4, 2) := by decide +kernel
theorem d_MD_entry_36 : decode b_MD_entry 36 = .ok (.invokestatic 49, 3) := by decide +kernel
theorem d_MD_entry_39 : decode b_MD_entry 39 = .ok (.istore 6, 2) := by decide +kernel
theorem d_MD_entry_41 : decode b_MD_entry 41 = .ok (.aload_n 0, 1) := by decide +kernel
theorem d_MD_entry_42 : decode b_MD_entry 42 = .ok (.getfield 56, 3) := by decide +kernel
theorem d_MD_entry_45 : decode b_MD_entry 45 = .ok (.istore 7, 2) := by decide +kernel
theorem d_MD_entry_47 : decode b_MD_entry 47 = .ok (.iload_n 2, 1) := by decide +kernel
theorem d_MD_entry_48 : decode b_MD_entry 48 = .ok (.iload 6, 2) := by decide +kernel
theorem d_MD_entry_50 : decode b_MD_entry 50 = .ok (.iload 5, 2) := by decide +kernel
theorem d_MD_entry_52 : decode b_MD_entry 52 = .ok (.iconst 1, 1) := by decide +kernel
theorem d_MD_entry_53 : decode b_MD_entry 53 = .ok (.invokestatic 63, 3) := by decide +kernel
theorem d_MD_entry_56 : decode b_MD_entry 56 = .ok (.ixor, 1) := by decide +kernel
theorem d_MD_entry_57 : decode b_MD_entry 57 = .ok (.istore 8, 2) := by decide +kernel
theorem d_MD_entry_59 : decode b_MD_entry 59 = .ok (.iconst 2, 1) := by decide +kernel
theorem d_MD_entry_60 : decode b_MD_entry 60 = .ok (.iload 4, 2) := by decide +kernel
theorem d_MD_entry_62 : decode b_MD_entry 62 = .ok (.invokestatic 49, 3) := by decide +kernel
theorem d_MD_entry_65 : decode b_MD_entry 65 = .ok (.istore 9, 2) := by decide +kernel
theorem d_MD_entry_67 : decode b_MD_entry 67 = .ok (.aload_n 0, 1) := by decide +kernel
theorem d_MD_entry_68 : decode b_MD_entry 68 = .ok (.iload 9, 2) := by decide +kernel
theorem d_MD_entry_70 : decode b_MD_entry 70 = .ok (.invokevirtual 67, 3) := by decide +kernel
theorem d_MD_entry_73 : decode b_MD_entry 73 = .ok (.aload_n 0, 1) := by decide +kernel
theorem d_MD_entry_74 : decode b_MD_entry 74 = .ok (.iload 8, 2) := by decide +kernel
theorem d_MD_entry_76 : decode b_MD_entry 76 = .ok (.bipush 16, 2) := by decide +kernel
theorem d_MD_entry_78 : decode b_MD_entry 78 = .ok (.iushr, 1) := by decide +kernel
theorem d_MD_entry_79 : decode b_MD_entry 79 = .ok (.invokevirtual 67, 3) := by decide +kernel
theorem d_MD_entry_82 : decode b_MD_entry 82 = .ok (.aload_n 0, 1) := by decide +kernel
theorem d_MD_entry_83 : decode b_MD_entry 83 = .ok (.iload 8, 2) := by decide +kernel
theorem d_MD_entry_85 : decode b_MD_entry 85 = .ok (.invokevirtual 67, 3) := by decide +kernel
theorem d_MD_entry_88 : decode b_MD_entry 88 = .ok (.aload_n 0, 1) := by decide +kernel
theorem d_MD_entry_89 : decode b_MD_entry 89 = .ok (.iload 7, 2) := by decide +kernel
theorem d_MD_entry_91 : decode b_MD_entry 91 = .ok (.aload_n 0, 1) := by decide +kernel
theorem d_MD_entry_92 : decode b_MD_entry 92 = .ok (.getfield 56, 3) := by decide +kernel
theorem d_MD_entry_95 : decode b_MD_entry 95 = .ok (.iload 6, 2) := by decide +kernel
theorem d_MD_entry_97 : decode b_MD_entry 97 = .ok (.iload 5, 2) := by decide +kernel
theorem d_MD_entry_99 : decode b_MD_entry 99 = .ok (.iconst 2, 1) := by decide +kernel
theorem d_MD_entry_100 : decode b_MD_entry 100 = .ok (.invokestatic 63, 3) := by decide +kernel
theorem d_MD_entry_103 : decode b_MD_entry 103 = .ok (.invokevirtual 70, 3) := by decide +kernel
theorem d_MD_entry_106 : decode b_MD_entry 106 = .ok (.istore 10, 2) := by decide +kernel
theorem d_MD_entry_108 : decode b_MD_entry 108 = .ok (.aload_n 0, 1) := by decide +kernel
theorem d_MD_entry_109 : decode b_MD_entry 109 = .ok (.iload 10, 2) := by decide +kernel
theorem d_MD_entry_111 : decode b_MD_entry 111 = .ok (.invokevirtual 67, 3) := by decide +kernel
theorem d_MD_entry_114 : decode b_MD_entry 114 = .ok (.return_, 1) := by decide +kernel
theorem d_MD_entryOf_0 : decode b_MD_entryOf 0 = .ok (.iconst 2, 1) := by decide +kernel
theorem d_MD_entryOf_1 : decode b_MD_entryOf 1 = .ok (.aload_n 0, 1) := by decide +kernel
theorem d_MD_entryOf_2 : decode b_MD_entryOf 2 = .ok (.getfield 7, 3) := by decide +kernel
theorem d_MD_entryOf_5 : decode b_MD_entryOf 5 = .ok (.iload_n 1, 1) := by decide +kernel
theorem d_MD_entryOf_6 : decode b_MD_entryOf 6 = .ok (.iaload, 1) := by decide +kernel
theorem d_MD_entryOf_7 : decode b_MD_entryOf 7 = .ok (.invokestatic 49, 3) := by decide +kernel
theorem d_MD_entryOf_10 : decode b_MD_entryOf 10 = .ok (.istore_n 2, 1) := by decide +kernel
theorem d_MD_entryOf_11 : decode b_MD_entryOf 11 = .ok (.iconst 0, 1) := by decide +kernel
theorem d_MD_entryOf_12 : decode b_MD_entryOf 12 = .ok (.istore_n 3, 1) := by decide +kernel
theorem d_MD_entryOf_13 : decode b_MD_entryOf 13 = .ok (.iload_n 3, 1) := by decide +kernel
theorem d_MD_entryOf_14 : decode b_MD_entryOf 14 = .ok (.aload_n 0, 1) := by decide +kernel
theorem d_MD_entryOf_15 : decode b_MD_entryOf 15 = .ok (.getfield 16, 3) := by decide +kernel
theorem d_MD_entryOf_18 : decode b_MD_entryOf 18 = .ok (.iconst 1, 1) := by decide +kernel
theorem d_MD_entryOf_19 : decode b_MD_entryOf 19 = .ok (.iaload, 1) := by decide +kernel
theorem d_MD_entryOf_20 : decode b_MD_entryOf 20 = .ok (.if_icmp .ge 67, 3) := by decide +kernel
theorem d_MD_entryOf_23 : decode b_MD_entryOf 23 = .ok (.iconst 2, 1) := by decide +kernel
theorem d_MD_entryOf_24 : decode b_MD_entryOf 24 = .ok (.bipush 8, 2) := by decide +kernel
theorem d_MD_entryOf_26 : decode b_MD_entryOf 26 = .ok (.iload_n 3, 1) := by decide +kernel
theorem d_MD_entryOf_27 : decode b_MD_entryOf 27 = .ok (.imul, 1) := by decide +kernel
theorem d_MD_entryOf_28 : decode b_MD_entryOf 28 = .ok (.iadd, 1) := by decide +kernel
theorem d_MD_entryOf_29 : decode b_MD_entryOf 29 = .ok (.istore 4, 2) := by decide +kernel
theorem d_MD_entryOf_31 : decode b_MD_entryOf 31 = .ok (.aload_n 0, 1) := by decide +kernel
theorem d_MD_entryOf_32 : decode b_MD_entryOf 32 = .ok (.iload 4, 2) := by decide +kernel
theorem d_MD_entryOf_34 : decode b_MD_entryOf 34 = .ok (.invokevirtual 77, 3) := by decide +kernel
theorem d_MD_entryOf_37 : decode b_MD_entryOf 37 = .ok (.aload_n 0, 1) := by decide +kernel
theorem d_MD_entryOf_38 : decode b_MD_entryOf 38 = .ok (.getfield 7, 3) := by decide +kernel
theorem d_MD_entryOf_41 : decode b_MD_entryOf 41 = .ok (.iload_n 1, 1) := by decide +kernel
theorem d_MD_entryOf_42 : decode b_MD_entryOf 42 = .ok (.iaload, 1) := by decide +kernel
theorem d_MD_entryOf_43 : decode b_MD_entryOf 43 = .ok (.invokestatic 49, 3) := by decide +kernel
theorem d_MD_entryOf_46 : decode b_MD_entryOf 46 = .ok (.istore 5, 2) := by decide +kernel
theorem d_MD_entryOf_48 : decode b_MD_entryOf 48 = .ok (.aload_n 0, 1) := by decide +kernel
theorem d_MD_entryOf_49 : decode b_MD_entryOf 49 = .ok (.iload 4, 2) := by decide +kernel
theorem d_MD_entryOf_51 : decode b_MD_entryOf 51 = .ok (.bipush 6, 2) := by decide +kernel
theorem d_MD_entryOf_53 : decode b_MD_entryOf 53 = .ok (.iadd, 1) := by decide +kernel
theorem d_MD_entryOf_54 : decode b_MD_entryOf 54 = .ok (.invokevirtual 77, 3) := by decide +kernel
theorem d_MD_entryOf_57 : decode b_MD_entryOf 57 = .ok (.aload_n 0, 1) := by decide +kernel
theorem d_MD_entryOf_58 : decode b_MD_entryOf 58 = .ok (.iload 4, 2) := by decide +kernel
theorem d_MD_entryOf_60 : decode b_MD_entryOf 60 = .ok (.iload 4, 2) := by decide +kernel
theorem d_MD_entryOf_62 : decode b_MD_entryOf 62 = .ok (.bipush 6, 2) := by decide +kernel
theorem d_MD_entryOf_64 : decode b_MD_entryOf 64 = .ok (.iadd, 1) := by decide +kernel
theorem d_MD_entryOf_65 : decode b_MD_entryOf 65 = .ok (.iload 5, 2) := by decide +kernel
theorem d_MD_entryOf_67 : decode b_MD_entryOf 67 = .ok (.iload_n 2, 1) := by decide +kernel
theorem d_MD_entryOf_68 : decode b_MD_entryOf 68 = .ok (.iconst 2, 1) := by decide +kernel
theorem d_MD_entryOf_69 : decode b_MD_entryOf 69 = .ok (.invokestatic 63, 3) := by decide +kernel
theorem d_MD_entryOf_72 : decode b_MD_entryOf 72 = .ok (.invokevirtual 70, 3) := by decide +kernel
theorem d_MD_entryOf_75 : decode b_MD_entryOf 75 = .ok (.if_icmp .ne 6, 3) := by decide +kernel
theorem d_MD_entryOf_78 : decode b_MD_entryOf 78 = .ok (.iload 4, 2) := by decide +kernel
theorem d_MD_entryOf_80 : decode b_MD_entryOf 80 = .ok (.ireturn, 1) := by decide +kernel
theorem d_MD_entryOf_81 : decode b_MD_entryOf 81 = .ok (.iinc 3 1, 3) := by decide +kernel
theorem d_MD_entryOf_84 : decode b_MD_entryOf 84 = .ok (.goto (-71), 3) := by decide +kernel
theorem d_MD_entryOf_87 : decode b_MD_entryOf 87 = .ok (.iconst (-1), 1) := by decide +kernel
theorem d_MD_entryOf_88 : decode b_MD_entryOf 88 = .ok (.ireturn, 1) := by decide +kernel
theorem d_MD_fails_0 : decode b_MD_fails 0 = .ok (.aload_n 0, 1) := by decide +kernel
theorem d_MD_fails_1 : decode b_MD_fails 1 = .ok (.iload_n 1, 1) := by decide +kernel
theorem d_MD_fails_2 : decode b_MD_fails 2 = .ok (.putfield 26, 3) := by decide +kernel
theorem d_MD_fails_5 : decode b_MD_fails 5 = .ok (.iconst 0, 1) := by decide +kernel
theorem d_MD_fails_6 : decode b_MD_fails 6 = .ok (.ireturn, 1) := by decide +kernel
theorem d_MD_init_0 : decode b_MD_init 0 = .ok (.aload_n 0, 1) := by decide +kernel
theorem d_MD_init_1 : decode b_MD_init 1 = .ok (.invokespecial 1, 3) := by decide +kernel
theorem d_MD_init_4 : decode b_MD_init 4 = .ok (.aload_n 0, 1) := by decide +kernel
theorem d_MD_init_5 : decode b_MD_init 5 = .ok (.iconst 4, 1) := by decide +kernel
theorem d_MD_init_6 : decode b_MD_init 6 = .ok (.newarray .int, 2) := by decide +kernel
theorem d_MD_init_8 : decode b_MD_init 8 = .ok (.putfield 7, 3) := by decide +kernel
theorem d_MD_init_11 : decode b_MD_init 11 = .ok (.aload_n 0, 1) := by decide +kernel
theorem d_MD_init_12 : decode b_MD_init 12 = .ok (.bipush 40, 2) := by decide +kernel
theorem d_MD_init_14 : decode b_MD_init 14 = .ok (.newarray .int, 2) := by decide +kernel
theorem d_MD_init_16 : decode b_MD_init 16 = .ok (.putfield 13, 3) := by decide +kernel
theorem d_MD_init_19 : decode b_MD_init 19 = .ok (.aload_n 0, 1) := by decide +kernel
theorem d_MD_init_20 : decode b_MD_init 20 = .ok (.bipush 120, 2) := by decide +kernel
theorem d_MD_init_22 : decode b_MD_init 22 = .ok (.newarray .int, 2) := by decide +kernel
theorem d_MD_init_24 : decode b_MD_init 24 = .ok (.putfield 16, 3) := by decide +kernel
theorem d_MD_init_27 : decode b_MD_init 27 = .ok (.aload_n 0, 1) := by decide +kernel
theorem d_MD_init_28 : decode b_MD_init 28 = .ok (.bipush 40, 2) := by decide +kernel
theorem d_MD_init_30 : decode b_MD_init 30 = .ok (.newarray .int, 2) := by decide +kernel
theorem d_MD_init_32 : decode b_MD_init 32 = .ok (.putfield 19, 3) := by decide +kernel
theorem d_MD_init_35 : decode b_MD_init 35 = .ok (.aload_n 0, 1) := by decide +kernel
theorem d_MD_init_36 : decode b_MD_init 36 = .ok (.sipush 160, 3) := by decide +kernel
theorem d_MD_init_39 : decode b_MD_init 39 = .ok (.newarray .char, 2) := by decide +kernel
theorem d_MD_init_41 : decode b_MD_init 41 = .ok (.putfield 22, 3) := by decide +kernel
theorem d_MD_init_44 : decode b_MD_init 44 = .ok (.return_, 1) := by decide +kernel
theorem d_MD_isKey_0 : decode b_MD_isKey 0 = .ok (.iload_n 1, 1) := by decide +kernel
theorem d_MD_isKey_1 : decode b_MD_isKey 1 = .ok (.ifCond .lt 15, 3) := by decide +kernel
theorem d_MD_isKey_4 : decode b_MD_isKey 4 = .ok (.iload_n 1, 1) := by decide +kernel
theorem d_MD_isKey_5 : decode b_MD_isKey 5 = .ok (.aload_n 0, 1) := by decide +kernel
theorem d_MD_isKey_6 : decode b_MD_isKey 6 = .ok (.getfield 42, 3) := by decide +kernel
theorem d_MD_isKey_9 : decode b_MD_isKey 9 = .ok (.if_icmp .ge 7, 3) := by decide +kernel
theorem d_MD_isKey_12 : decode b_MD_isKey 12 = .ok (.iconst 1, 1) := by decide +kernel
theorem d_MD_isKey_13 : decode b_MD_isKey 13 = .ok (.goto 4, 3) := by decide +kernel
theorem d_MD_isKey_16 : decode b_MD_isKey 16 = .ok (.iconst 0, 1) := by decide +kernel
theorem d_MD_isKey_17 : decode b_MD_isKey 17 = .ok (.ireturn, 1) := by decide +kernel
theorem d_MD_key_0 : decode b_MD_key 0 = .ok (.aload_n 0, 1) := by decide +kernel
theorem d_MD_key_1 : decode b_MD_key 1 = .ok (.iconst 0, 1) := by decide +kernel
theorem d_MD_key_2 : decode b_MD_key 2 = .ok (.putfield 26, 3) := by decide +kernel
theorem d_MD_key_5 : decode b_MD_key 5 = .ok (.iload_n 1, 1) := by decide +kernel
theorem d_MD_key_6 : decode b_MD_key 6 = .ok (.iconst 2, 1) := by decide +kernel
theorem d_MD_key_7 : decode b_MD_key 7 = .ok (.if_icmp .lt 10, 3) := by decide +kernel
theorem d_MD_key_10 : decode b_MD_key 10 = .ok (.iload_n 1, 1) := by decide +kernel
theorem d_MD_key_11 : decode b_MD_key 11 = .ok (.sipush 32747, 3) := by decide +kernel
theorem d_MD_key_14 : decode b_MD_key 14 = .ok (.if_icmp .le 9, 3) := by decide +kernel
theorem d_MD_key_17 : decode b_MD_key 17 = .ok (.aload_n 0, 1) := by decide +kernel
theorem d_MD_key_18 : decode b_MD_key 18 = .ok (.iconst 1, 1) := by decide +kernel
theorem d_MD_key_19 : decode b_MD_key 19 = .ok (.invokevirtual 39, 3) := by decide +kernel
theorem d_MD_key_22 : decode b_MD_key 22 = .ok (.ireturn, 1) := by decide +kernel
theorem d_MD_key_23 : decode b_MD_key 23 = .ok (.aload_n 0, 1) := by decide +kernel
theorem d_MD_key_24 : decode b_MD_key 24 = .ok (.getfield 42, 3) := by decide +kernel
theorem d_MD_key_27 : decode b_MD_key 27 = .ok (.iconst 4, 1) := by decide +kernel
theorem d_MD_key_28 : decode b_MD_key 28 = .ok (.if_icmp .ne 9, 3) := by decide +kernel
theorem d_MD_key_31 : decode b_MD_key 31 = .ok (.aload_n 0, 1) := by decide +kernel
theorem d_MD_key_32 : decode b_MD_key 32 = .ok (.iconst 2, 1) := by decide +kernel
theorem d_MD_key_33 : decode b_MD_key 33 = .ok (.invokevirtual 39, 3) := by decide +kernel
theorem d_MD_key_36 : decode b_MD_key 36 = .ok (.ireturn, 1) := by decide +kernel
theorem d_MD_key_37 : decode b_MD_key 37 = .ok (.aload_n 0, 1) := by decide +kernel
theorem d_MD_key_38 : decode b_MD_key 38 = .ok (.getfield 7, 3) := by decide +kernel
theorem d_MD_key_41 : decode b_MD_key 41 = .ok (.aload_n 0, 1) := by decide +kernel
theorem d_MD_key_42 : decode b_MD_key 42 = .ok (.getfield 42, 3) := by decide +kernel
theorem d_MD_key_45 : decode b_MD_key 45 = .ok (.iload_n 1, 1) := by decide +kernel
theorem d_MD_key_46 : decode b_MD_key 46 = .ok (.iastore, 1) := by decide +kernel
theorem d_MD_key_47 : decode b_MD_key 47 = .ok (.aload_n 0, 1) := by decide +kernel
theorem d_MD_key_48 : decode b_MD_key 48 = .ok (.dup, 1) := by decide +kernel
theorem d_MD_key_49 : decode b_MD_key 49 = .ok (.getfield 42, 3) := by decide +kernel
theorem d_MD_key_52 : decode b_MD_key 52 = .ok (.iconst 1, 1) := by decide +kernel
theorem d_MD_key_53 : decode b_MD_key 53 = .ok (.iadd, 1) := by decide +kernel
theorem d_MD_key_54 : decode b_MD_key 54 = .ok (.putfield 42, 3) := by decide +kernel
theorem d_MD_key_57 : decode b_MD_key 57 = .ok (.aload_n 0, 1) := by decide +kernel
theorem d_MD_key_58 : decode b_MD_key 58 = .ok (.getfield 42, 3) := by decide +kernel
theorem d_MD_key_61 : decode b_MD_key 61 = .ok (.iconst 1, 1) := by decide +kernel
theorem d_MD_key_62 : decode b_MD_key 62 = .ok (.isub, 1) := by decide +kernel
theorem d_MD_key_63 : decode b_MD_key 63 = .ok (.ireturn, 1) := by decide +kernel
theorem d_MD_load_0 : decode b_MD_load 0 = .ok (.aload_n 0, 1) := by decide +kernel
theorem d_MD_load_1 : decode b_MD_load 1 = .ok (.iconst 0, 1) := by decide +kernel
theorem d_MD_load_2 : decode b_MD_load 2 = .ok (.putfield 26, 3) := by decide +kernel
theorem d_MD_load_5 : decode b_MD_load 5 = .ok (.aload_n 0, 1) := by decide +kernel
theorem d_MD_load_6 : decode b_MD_load 6 = .ok (.getfield 100, 3) := by decide +kernel
theorem d_MD_load_9 : decode b_MD_load 9 = .ok (.istore_n 1, 1) := by decide +kernel
theorem d_MD_load_10 : decode b_MD_load 10 = .ok (.aload_n 0, 1) := by decide +kernel
theorem d_MD_load_11 : decode b_MD_load 11 = .ok (.iconst 0, 1) := by decide +kernel
theorem d_MD_load_12 : decode b_MD_load 12 = .ok (.putfield 100, 3) := by decide +kernel
theorem d_MD_load_15 : decode b_MD_load 15 = .ok (.bipush 6, 2) := by decide +kernel
theorem d_MD_load_17 : decode b_MD_load 17 = .ok (.iload_n 1, 1) := by decide +kernel
theorem d_MD_load_18 : decode b_MD_load 18 = .ok (.imul, 1) := by decide +kernel
theorem d_MD_load_19 : decode b_MD_load 19 = .ok (.bipush 8, 2) := by decide +kernel
theorem d_MD_load_21 : decode b_MD_load 21 = .ok (.idiv, 1) := by decide +kernel
theorem d_MD_load_22 : decode b_MD_load 22 = .ok (.istore_n 2, 1) := by decide +kernel
theorem d_MD_load_23 : decode b_MD_load 23 = .ok (.bipush 6, 2) := by decide +kernel
theorem d_MD_load_25 : decode b_MD_load 25 = .ok (.iload_n 1, 1) := by decide +kernel
theorem d_MD_load_26 : decode b_MD_load 26 = .ok (.imul, 1) := by decide +kernel
theorem d_MD_load_27 : decode b_MD_load 27 = .ok (.bipush 8, 2) := by decide +kernel
theorem d_MD_load_29 : decode b_MD_load 29 = .ok (.iload_n 2, 1) := by decide +kernel
theorem d_MD_load_30 : decode b_MD_load 30 = .ok (.imul, 1) := by decide +kernel
theorem d_MD_load_31 : decode b_MD_load 31 = .ok (.isub, 1) := by decide +kernel
theorem d_MD_load_32 : decode b_MD_load 32 = .ok (.istore_n 3, 1) := by decide +kernel
theorem d_MD_load_33 : decode b_MD_load 33 = .ok (.iload_n 3, 1) := by decide +kernel
theorem d_MD_load_34 : decode b_MD_load 34 = .ok (.bipush 6, 2) := by decide +kernel
theorem d_MD_load_36 : decode b_MD_load 36 = .ok (.if_icmp .ge 7, 3) := by decide +kernel
theorem d_MD_load_39 : decode b_MD_load 39 = .ok (.iconst 1, 1) := by decide +kernel
theorem d_MD_load_40 : decode b_MD_load 40 = .ok (.goto 4, 3) := by decide +kernel
theorem d_MD_load_43 : decode b_MD_load 43 = .ok (.iconst 0, 1) := by decide +kernel
theorem d_MD_load_44 : decode b_MD_load 44 = .ok (.istore 4, 2) := by decide +kernel
theorem d_MD_load_46 : decode b_MD_load 46 = .ok (.iload_n 1, 1) := by decide +kernel
theorem d_MD_load_47 : decode b_MD_load 47 = .ok (.ifCond .le 35, 3) := by decide +kernel
theorem d_MD_load_50 : decode b_MD_load 50 = .ok (.iload 4, 2) := by decide +kernel
theorem d_MD_load_52 : decode b_MD_load 52 = .ok (.ifCond .eq 30, 3) := by decide +kernel
theorem d_MD_load_55 : decode b_MD_load 55 = .ok (.aload_n 0, 1) := by decide +kernel
theorem d_MD_load_56 : decode b_MD_load 56 = .ok (.getfield 22, 3) := by decide +kernel
theorem d_MD_load_59 : decode b_MD_load 59 = .ok (.iload_n 1, 1) := by decide +kernel
theorem d_MD_load_60 : decode b_MD_load 60 = .ok (.iconst 1, 1) := by decide +kernel
theorem d_MD_load_61 : decode b_MD_load 61 = .ok (.isub, 1) := by decide +kernel
theorem d_MD_load_62 : decode b_MD_load 62 = .ok (.caload, 1) := by decide +kernel
theorem d_MD_load_63 : decode b_MD_load 63 = .ok (.invokestatic 103, 3) := by decide +kernel
theorem d_MD_load_66 : decode b_MD_load 66 = .ok (.iconst 1, 1) := by decide +kernel
theorem d_MD_load_67 : decode b_MD_load 67 = .ok (.iload_n 3, 1) := by decide +kernel
theorem d_MD_load_68 : decode b_MD_load 68 = .ok (.ishl, 1) := by decide +kernel
theorem d_MD_load_69 : decode b_MD_load 69 = .ok (.iconst 1, 1) := by decide +kernel
theorem d_MD_load_70 : decode b_MD_load 70 = .ok (.isub, 1) := by decide +kernel
theorem d_MD_load_71 : decode b_MD_load 71 = .ok (.iand, 1) := by decide +kernel
theorem d_MD_load_72 : decode b_MD_load 72 = .ok (.ifCond .ne 7, 3) := by decide +kernel
theorem d_MD_load_75 : decode b_MD_load 75 = .ok (.iconst 1, 1) := by decide +kernel
theorem d_MD_load_76 : decode b_MD_load 76 = .ok (.goto 4, 3) := by decide +kernel
theorem d_MD_load_79 : decode b_MD_load 79 = .ok (.iconst 0, 1) := by decide +kernel
theorem d_MD_load_80 : decode b_MD_load 80 = .ok (.istore 4, 2) := by decide +kernel
theorem d_MD_load_82 : decode b_MD_load 82 = .ok (.iload 4, 2) := by decide +kernel
theorem d_MD_load_84 : decode b_MD_load 84 = .ok (.ifCond .ne 9, 3) := by decide +kernel
theorem d_MD_load_87 : decode b_MD_load 87 = .ok (.aload_n 0, 1) := by decide +kernel
theorem d_MD_load_88 : decode b_MD_load 88 = .ok (.iconst 1, 1) := by decide +kernel
theorem d_MD_load_89 : decode b_MD_load 89 = .ok (.invokevirtual 39, 3) := by decide +kernel
theorem d_MD_load_92 : decode b_MD_load 92 = .ok (.ireturn, 1) := by decide +kernel
theorem d_MD_load_93 : decode b_MD_load 93 = .ok (.iconst 0, 1) := by decide +kernel
theorem d_MD_load_94 : decode b_MD_load 94 = .ok (.istore 5, 2) := by decide +kernel
theorem d_MD_load_96 : decode b_MD_load 96 = .ok (.iload 5, 2) := by decide +kernel
theorem d_MD_load_98 : decode b_MD_load 98 = .ok (.iload_n 2, 1) := by decide +kernel
theorem d_MD_load_99 : decode b_MD_load 99 = .ok (.if_icmp .ge 77, 3) := by decide +kernel
theorem d_MD_load_102 : decode b_MD_load 102 = .ok (.iconst 0, 1) := by decide +kernel
theorem d_MD_load_103 : decode b_MD_load 103 = .ok (.istore 6, 2) := by decide +kernel
theorem d_MD_load_105 : decode b_MD_load 105 = .ok (.bipush 8, 2) := by decide +kernel
theorem d_MD_load_107 : decode b_MD_load 107 = .ok (.iload 5, 2) := by decide +kernel
theorem d_MD_load_109 : decode b_MD_load 109 = .ok (.imul, 1) := by decide +kernel
theorem d_MD_load_110 : decode b_MD_load 110 = .ok (.istore 7, 2) := by decide +kernel
theorem d_MD_load_112 : decode b_MD_load 112 = .ok (.iload 7, 2) := by decide +kernel
theorem d_MD_load_114 : decode b_MD_load 114 = .ok (.bipush 8, 2) := by decide +kernel
theorem d_MD_load_116 : decode b_MD_load 116 = .ok (.iload 5, 2) := by decide +kernel
theorem d_MD_load_118 : decode b_MD_load 118 = .ok (.imul, 1) := by decide +kernel
theorem d_MD_load_119 : decode b_MD_load 119 = .ok (.bipush 8, 2) := by decide +kernel
theorem d_MD_load_121 : decode b_MD_load 121 = .ok (.iadd, 1) := by decide +kernel
theorem d_MD_load_122 : decode b_MD_load 122 = .ok (.if_icmp .ge 39, 3) := by decide +kernel
theorem d_MD_load_125 : decode b_MD_load 125 = .ok (.iconst 2, 1) := by decide +kernel
theorem d_MD_load_126 : decode b_MD_load 126 = .ok (.iload 6, 2) := by decide +kernel
theorem d_MD_load_128 : decode b_MD_load 128 = .ok (.imul, 1) := by decide +kernel
theorem d_MD_load_129 : decode b_MD_load 129 = .ok (.aload_n 0, 1) := by decide +kernel
theorem d_MD_load_130 : decode b_MD_load 130 = .ok (.getfield 22, 3) := by decide +kernel
theorem d_MD_load_133 : decode b_MD_load 133 = .ok (.iload 7, 2) := by decide +kernel
theorem d_MD_load_135 : decode b_MD_load 135 = .ok (.bipush 6, 2) := by decide +kernel
theorem d_MD_load_137 : decode b_MD_load 137 = .ok (.idiv, 1) := by decide +kernel
theorem d_MD_load_138 : decode b_MD_load 138 = .ok (.caload, 1) := by decide +kernel
theorem d_MD_load_139 : decode b_MD_load 139 = .ok (.invokestatic 103, 3) := by decide +kernel
theorem d_MD_load_142 : decode b_MD_load 142 = .ok (.iconst 5, 1) := by decide +kernel
theorem d_MD_load_143 : decode b_MD_load 143 = .ok (.iload 7, 2) := by decide +kernel
theorem d_MD_load_145 : decode b_MD_load 145 = .ok (.bipush 6, 2) := by decide +kernel
theorem d_MD_load_147 : decode b_MD_load 147 = .ok (.irem, 1) := by decide +kernel
theorem d_MD_load_148 : decode b_MD_load 148 = .ok (.isub, 1) := by decide +kernel
theorem d_MD_load_149 : decode b_MD_load 149 = .ok (.ishr, 1) := by decide +kernel
theorem d_MD_load_150 : decode b_MD_load 150 = .ok (.iconst 1, 1) := by decide +kernel
theorem d_MD_load_151 : decode b_MD_load 151 = .ok (.iand, 1) := by decide +kernel
theorem d_MD_load_152 : decode b_MD_load 152 = .ok (.iadd, 1) := by decide +kernel
theorem d_MD_load_153 : decode b_MD_load 153 = .ok (.istore 6, 2) := by decide +kernel
theorem d_MD_load_155 : decode b_MD_load 155 = .ok (.iinc 7 1, 3) := by decide +kernel
theorem d_MD_load_158 : decode b_MD_load 158 = .ok (.goto (-46), 3) := by decide +kernel
theorem d_MD_load_161 : decode b_MD_load 161 = .ok (.aload_n 0, 1) := by decide +kernel
theorem d_MD_load_162 : decode b_MD_load 162 = .ok (.getfield 16, 3) := by decide +kernel
theorem d_MD_load_165 : decode b_MD_load 165 = .ok (.iload 5, 2) := by decide +kernel
theorem d_MD_load_167 : decode b_MD_load 167 = .ok (.iload 6, 2) := by decide +kernel
theorem d_MD_load_169 : decode b_MD_load 169 = .ok (.iastore, 1) := by decide +kernel
theorem d_MD_load_170 : decode b_MD_load 170 = .ok (.iinc 5 1, 3) := by decide +kernel
theorem d_MD_load_173 : decode b_MD_load 173 = .ok (.goto (-77), 3) := by decide +kernel
theorem d_MD_load_176 : decode b_MD_load 176 = .ok (.aload_n 0, 1) := by decide +kernel
theorem d_MD_load_177 : decode b_MD_load 177 = .ok (.iload_n 2, 1) := by decide +kernel
theorem d_MD_load_178 : decode b_MD_load 178 = .ok (.putfield 56, 3) := by decide +kernel
theorem d_MD_load_181 : decode b_MD_load 181 = .ok (.aload_n 0, 1) := by decide +kernel
theorem d_MD_load_182 : decode b_MD_load 182 = .ok (.getfield 56, 3) := by decide +kernel
theorem d_MD_load_185 : decode b_MD_load 185 = .ok (.ireturn, 1) := by decide +kernel
theorem d_MD_mix_0 : decode b_MD_mix 0 = .ok (.iload_n 0, 1) := by decide +kernel
theorem d_MD_mix_1 : decode b_MD_mix 1 = .ok (.iload_n 0, 1) := by decide +kernel
theorem d_MD_mix_2 : decode b_MD_mix 2 = .ok (.bipush 16, 2) := by decide +kernel
theorem d_MD_mix_4 : decode b_MD_mix 4 = .ok (.iushr, 1) := by decide +kernel
theorem d_MD_mix_5 : decode b_MD_mix 5 = .ok (.ixor, 1) := by decide +kernel
theorem d_MD_mix_6 : decode b_MD_mix 6 = .ok (.ldc 30, 2) := by decide +kernel
theorem d_MD_mix_8 : decode b_MD_mix 8 = .ok (.imul, 1) := by decide +kernel
theorem d_MD_mix_9 : decode b_MD_mix 9 = .ok (.istore_n 1, 1) := by decide +kernel
theorem d_MD_mix_10 : decode b_MD_mix 10 = .ok (.iload_n 1, 1) := by decide +kernel
theorem d_MD_mix_11 : decode b_MD_mix 11 = .ok (.iload_n 1, 1) := by decide +kernel
theorem d_MD_mix_12 : decode b_MD_mix 12 = .ok (.bipush 15, 2) := by decide +kernel
theorem d_MD_mix_14 : decode b_MD_mix 14 = .ok (.iushr, 1) := by decide +kernel
theorem d_MD_mix_15 : decode b_MD_mix 15 = .ok (.ixor, 1) := by decide +kernel
theorem d_MD_mix_16 : decode b_MD_mix 16 = .ok (.ldc 31, 2) := by decide +kernel
theorem d_MD_mix_18 : decode b_MD_mix 18 = .ok (.imul, 1) := by decide +kernel
theorem d_MD_mix_19 : decode b_MD_mix 19 = .ok (.istore_n 1, 1) := by decide +kernel
theorem d_MD_mix_20 : decode b_MD_mix 20 = .ok (.iload_n 1, 1) := by decide +kernel
theorem d_MD_mix_21 : decode b_MD_mix 21 = .ok (.iload_n 1, 1) := by decide +kernel
theorem d_MD_mix_22 : decode b_MD_mix 22 = .ok (.bipush 16, 2) := by decide +kernel
theorem d_MD_mix_24 : decode b_MD_mix 24 = .ok (.iushr, 1) := by decide +kernel
theorem d_MD_mix_25 : decode b_MD_mix 25 = .ok (.ixor, 1) := by decide +kernel
theorem d_MD_mix_26 : decode b_MD_mix 26 = .ok (.ireturn, 1) := by decide +kernel
