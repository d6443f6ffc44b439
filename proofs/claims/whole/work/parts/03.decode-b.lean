theorem d_SF_address_0 : decode b_SF_address 0 = .ok (.aload_n 0, 1) := by decide +kernel
theorem d_SF_address_1 : decode b_SF_address 1 = .ok (.getfield 18, 3) := by decide +kernel
theorem d_SF_address_4 : decode b_SF_address 4 = .ok (.iload_n 1, 1) := by decide +kernel
theorem d_SF_address_5 : decode b_SF_address 5 = .ok (.invokevirtual 60, 3) := by decide +kernel
theorem d_SF_address_8 : decode b_SF_address 8 = .ok (.ireturn, 1) := by decide +kernel
theorem d_SF_agreed_0 : decode b_SF_agreed 0 = .ok (.aload_n 0, 1) := by decide +kernel
theorem d_SF_agreed_1 : decode b_SF_agreed 1 = .ok (.getfield 24, 3) := by decide +kernel
theorem d_SF_agreed_4 : decode b_SF_agreed 4 = .ok (.iload_n 1, 1) := by decide +kernel
theorem d_SF_agreed_5 : decode b_SF_agreed 5 = .ok (.invokevirtual 112, 3) := by decide +kernel
theorem d_SF_agreed_8 : decode b_SF_agreed 8 = .ok (.aload_n 0, 1) := by decide +kernel
theorem d_SF_agreed_9 : decode b_SF_agreed 9 = .ok (.getfield 14, 3) := by decide +kernel
theorem d_SF_agreed_12 : decode b_SF_agreed 12 = .ok (.iload_n 2, 1) := by decide +kernel
theorem d_SF_agreed_13 : decode b_SF_agreed 13 = .ok (.invokevirtual 60, 3) := by decide +kernel
theorem d_SF_agreed_16 : decode b_SF_agreed 16 = .ok (.invokestatic 50, 3) := by decide +kernel
theorem d_SF_agreed_19 : decode b_SF_agreed 19 = .ok (.ireturn, 1) := by decide +kernel
theorem d_SF_alter_0 : decode b_SF_alter 0 = .ok (.aload_n 0, 1) := by decide +kernel
theorem d_SF_alter_1 : decode b_SF_alter 1 = .ok (.getfield 24, 3) := by decide +kernel
theorem d_SF_alter_4 : decode b_SF_alter 4 = .ok (.iload_n 1, 1) := by decide +kernel
theorem d_SF_alter_5 : decode b_SF_alter 5 = .ok (.invokevirtual 94, 3) := by decide +kernel
theorem d_SF_alter_8 : decode b_SF_alter 8 = .ok (.ifCond .ne 13, 3) := by decide +kernel
theorem d_SF_alter_11 : decode b_SF_alter 11 = .ok (.new 118, 3) := by decide +kernel
theorem d_SF_alter_14 : decode b_SF_alter 14 = .ok (.dup, 1) := by decide +kernel
theorem d_SF_alter_15 : decode b_SF_alter 15 = .ok (.ldc 123, 2) := by decide +kernel
theorem d_SF_alter_17 : decode b_SF_alter 17 = .ok (.invokespecial 122, 3) := by decide +kernel
theorem d_SF_alter_20 : decode b_SF_alter 20 = .ok (.athrow, 1) := by decide +kernel
theorem d_SF_alter_21 : decode b_SF_alter 21 = .ok (.aload_n 0, 1) := by decide +kernel
theorem d_SF_alter_22 : decode b_SF_alter 22 = .ok (.getfield 24, 3) := by decide +kernel
theorem d_SF_alter_25 : decode b_SF_alter 25 = .ok (.iload_n 1, 1) := by decide +kernel
theorem d_SF_alter_26 : decode b_SF_alter 26 = .ok (.aload_n 0, 1) := by decide +kernel
theorem d_SF_alter_27 : decode b_SF_alter 27 = .ok (.getfield 24, 3) := by decide +kernel
theorem d_SF_alter_30 : decode b_SF_alter 30 = .ok (.iload_n 1, 1) := by decide +kernel
theorem d_SF_alter_31 : decode b_SF_alter 31 = .ok (.invokevirtual 60, 3) := by decide +kernel
theorem d_SF_alter_34 : decode b_SF_alter 34 = .ok (.iload_n 2, 1) := by decide +kernel
theorem d_SF_alter_35 : decode b_SF_alter 35 = .ok (.sipush 255, 3) := by decide +kernel
theorem d_SF_alter_38 : decode b_SF_alter 38 = .ok (.iand, 1) := by decide +kernel
theorem d_SF_alter_39 : decode b_SF_alter 39 = .ok (.ixor, 1) := by decide +kernel
theorem d_SF_alter_40 : decode b_SF_alter 40 = .ok (.invokevirtual 125, 3) := by decide +kernel
theorem d_SF_alter_43 : decode b_SF_alter 43 = .ok (.aload_n 0, 1) := by decide +kernel
theorem d_SF_alter_44 : decode b_SF_alter 44 = .ok (.getfield 24, 3) := by decide +kernel
theorem d_SF_alter_47 : decode b_SF_alter 47 = .ok (.iload_n 1, 1) := by decide +kernel
theorem d_SF_alter_48 : decode b_SF_alter 48 = .ok (.invokevirtual 60, 3) := by decide +kernel
theorem d_SF_alter_51 : decode b_SF_alter 51 = .ok (.ireturn, 1) := by decide +kernel
theorem d_SF_appendEntry_0 : decode b_SF_appendEntry 0 = .ok (.aload_n 0, 1) := by decide +kernel
theorem d_SF_appendEntry_1 : decode b_SF_appendEntry 1 = .ok (.getfield 24, 3) := by decide +kernel
theorem d_SF_appendEntry_4 : decode b_SF_appendEntry 4 = .ok (.invokevirtual 56, 3) := by decide +kernel
theorem d_SF_appendEntry_7 : decode b_SF_appendEntry 7 = .ok (.istore 4, 2) := by decide +kernel
theorem d_SF_appendEntry_9 : decode b_SF_appendEntry 9 = .ok (.iload_n 1, 1) := by decide +kernel
theorem d_SF_appendEntry_10 : decode b_SF_appendEntry 10 = .ok (.iload_n 3, 1) := by decide +kernel
theorem d_SF_appendEntry_11 : decode b_SF_appendEntry 11 = .ok (.invokestatic 50, 3) := by decide +kernel
theorem d_SF_appendEntry_14 : decode b_SF_appendEntry 14 = .ok (.istore 5, 2) := by decide +kernel
theorem d_SF_appendEntry_16 : decode b_SF_appendEntry 16 = .ok (.iload_n 2, 1) := by decide +kernel
theorem d_SF_appendEntry_17 : decode b_SF_appendEntry 17 = .ok (.iload 5, 2) := by decide +kernel
theorem d_SF_appendEntry_19 : decode b_SF_appendEntry 19 = .ok (.iload_n 1, 1) := by decide +kernel
theorem d_SF_appendEntry_20 : decode b_SF_appendEntry 20 = .ok (.iconst 1, 1) := by decide +kernel
theorem d_SF_appendEntry_21 : decode b_SF_appendEntry 21 = .ok (.invokestatic 148, 3) := by decide +kernel
theorem d_SF_appendEntry_24 : decode b_SF_appendEntry 24 = .ok (.ixor, 1) := by decide +kernel
theorem d_SF_appendEntry_25 : decode b_SF_appendEntry 25 = .ok (.istore 6, 2) := by decide +kernel
theorem d_SF_appendEntry_27 : decode b_SF_appendEntry 27 = .ok (.aload_n 0, 1) := by decide +kernel
theorem d_SF_appendEntry_28 : decode b_SF_appendEntry 28 = .ok (.getfield 24, 3) := by decide +kernel
theorem d_SF_appendEntry_31 : decode b_SF_appendEntry 31 = .ok (.iconst 2, 1) := by decide +kernel
theorem d_SF_appendEntry_32 : decode b_SF_appendEntry 32 = .ok (.iload_n 3, 1) := by decide +kernel
theorem d_SF_appendEntry_33 : decode b_SF_appendEntry 33 = .ok (.invokestatic 50, 3) := by decide +kernel
theorem d_SF_appendEntry_36 : decode b_SF_appendEntry 36 = .ok (.invokevirtual 88, 3) := by decide +kernel
theorem d_SF_appendEntry_39 : decode b_SF_appendEntry 39 = .ok (.aload_n 0, 1) := by decide +kernel
theorem d_SF_appendEntry_40 : decode b_SF_appendEntry 40 = .ok (.getfield 24, 3) := by decide +kernel
theorem d_SF_appendEntry_43 : decode b_SF_appendEntry 43 = .ok (.iload 6, 2) := by decide +kernel
theorem d_SF_appendEntry_45 : decode b_SF_appendEntry 45 = .ok (.bipush 16, 2) := by decide +kernel
theorem d_SF_appendEntry_47 : decode b_SF_appendEntry 47 = .ok (.iushr, 1) := by decide +kernel
theorem d_SF_appendEntry_48 : decode b_SF_appendEntry 48 = .ok (.invokevirtual 88, 3) := by decide +kernel
theorem d_SF_appendEntry_51 : decode b_SF_appendEntry 51 = .ok (.aload_n 0, 1) := by decide +kernel
theorem d_SF_appendEntry_52 : decode b_SF_appendEntry 52 = .ok (.getfield 24, 3) := by decide +kernel
theorem d_SF_appendEntry_55 : decode b_SF_appendEntry 55 = .ok (.iload 6, 2) := by decide +kernel
theorem d_SF_appendEntry_57 : decode b_SF_appendEntry 57 = .ok (.ldc 151, 2) := by decide +kernel
theorem d_SF_appendEntry_59 : decode b_SF_appendEntry 59 = .ok (.iand, 1) := by decide +kernel
theorem d_SF_appendEntry_60 : decode b_SF_appendEntry 60 = .ok (.invokevirtual 88, 3) := by decide +kernel
theorem d_SF_appendEntry_63 : decode b_SF_appendEntry 63 = .ok (.aload_n 0, 1) := by decide +kernel
theorem d_SF_appendEntry_64 : decode b_SF_appendEntry 64 = .ok (.getfield 24, 3) := by decide +kernel
theorem d_SF_appendEntry_67 : decode b_SF_appendEntry 67 = .ok (.aload_n 0, 1) := by decide +kernel
theorem d_SF_appendEntry_68 : decode b_SF_appendEntry 68 = .ok (.iload 4, 2) := by decide +kernel
theorem d_SF_appendEntry_70 : decode b_SF_appendEntry 70 = .ok (.iload 5, 2) := by decide +kernel
theorem d_SF_appendEntry_72 : decode b_SF_appendEntry 72 = .ok (.iload_n 1, 1) := by decide +kernel
theorem d_SF_appendEntry_73 : decode b_SF_appendEntry 73 = .ok (.invokevirtual 152, 3) := by decide +kernel
theorem d_SF_appendEntry_76 : decode b_SF_appendEntry 76 = .ok (.invokevirtual 88, 3) := by decide +kernel
theorem d_SF_appendEntry_79 : decode b_SF_appendEntry 79 = .ok (.return_, 1) := by decide +kernel
theorem d_SF_appendPieces_0 : decode b_SF_appendPieces 0 = .ok (.aload_n 0, 1) := by decide +kernel
theorem d_SF_appendPieces_1 : decode b_SF_appendPieces 1 = .ok (.getfield 21, 3) := by decide +kernel
theorem d_SF_appendPieces_4 : decode b_SF_appendPieces 4 = .ok (.invokevirtual 56, 3) := by decide +kernel
theorem d_SF_appendPieces_7 : decode b_SF_appendPieces 7 = .ok (.iconst 1, 1) := by decide +kernel
theorem d_SF_appendPieces_8 : decode b_SF_appendPieces 8 = .ok (.isub, 1) := by decide +kernel
theorem d_SF_appendPieces_9 : decode b_SF_appendPieces 9 = .ok (.iconst 0, 1) := by decide +kernel
theorem d_SF_appendPieces_10 : decode b_SF_appendPieces 10 = .ok (.invokestatic 158, 3) := by decide +kernel
theorem d_SF_appendPieces_13 : decode b_SF_appendPieces 13 = .ok (.bipush 8, 2) := by decide +kernel
theorem d_SF_appendPieces_15 : decode b_SF_appendPieces 15 = .ok (.idiv, 1) := by decide +kernel
theorem d_SF_appendPieces_16 : decode b_SF_appendPieces 16 = .ok (.istore_n 2, 1) := by decide +kernel
theorem d_SF_appendPieces_17 : decode b_SF_appendPieces 17 = .ok (.iconst 0, 1) := by decide +kernel
theorem d_SF_appendPieces_18 : decode b_SF_appendPieces 18 = .ok (.istore_n 3, 1) := by decide +kernel
theorem d_SF_appendPieces_19 : decode b_SF_appendPieces 19 = .ok (.iload_n 3, 1) := by decide +kernel
theorem d_SF_appendPieces_20 : decode b_SF_appendPieces 20 = .ok (.iload_n 2, 1) := by decide +kernel
theorem d_SF_appendPieces_21 : decode b_SF_appendPieces 21 = .ok (.if_icmp .gt 116, 3) := by decide +kernel
theorem d_SF_appendPieces_24 : decode b_SF_appendPieces 24 = .ok (.iload_n 3, 1) := by decide +kernel
theorem d_SF_appendPieces_25 : decode b_SF_appendPieces 25 = .ok (.bipush 8, 2) := by decide +kernel
theorem d_SF_appendPieces_27 : decode b_SF_appendPieces 27 = .ok (.imul, 1) := by decide +kernel
theorem d_SF_appendPieces_28 : decode b_SF_appendPieces 28 = .ok (.istore 4, 2) := by decide +kernel
theorem d_SF_appendPieces_30 : decode b_SF_appendPieces 30 = .ok (.aload_n 0, 1) := by decide +kernel
theorem d_SF_appendPieces_31 : decode b_SF_appendPieces 31 = .ok (.getfield 21, 3) := by decide +kernel
theorem d_SF_appendPieces_34 : decode b_SF_appendPieces 34 = .ok (.invokevirtual 56, 3) := by decide +kernel
theorem d_SF_appendPieces_37 : decode b_SF_appendPieces 37 = .ok (.iload 4, 2) := by decide +kernel
theorem d_SF_appendPieces_39 : decode b_SF_appendPieces 39 = .ok (.isub, 1) := by decide +kernel
theorem d_SF_appendPieces_40 : decode b_SF_appendPieces 40 = .ok (.bipush 8, 2) := by decide +kernel
theorem d_SF_appendPieces_42 : decode b_SF_appendPieces 42 = .ok (.invokestatic 163, 3) := by decide +kernel
theorem d_SF_appendPieces_45 : decode b_SF_appendPieces 45 = .ok (.istore 5, 2) := by decide +kernel
theorem d_SF_appendPieces_47 : decode b_SF_appendPieces 47 = .ok (.aload_n 0, 1) := by decide +kernel
theorem d_SF_appendPieces_48 : decode b_SF_appendPieces 48 = .ok (.getfield 24, 3) := by decide +kernel
theorem d_SF_appendPieces_51 : decode b_SF_appendPieces 51 = .ok (.invokevirtual 56, 3) := by decide +kernel
theorem d_SF_appendPieces_54 : decode b_SF_appendPieces 54 = .ok (.istore 6, 2) := by decide +kernel
theorem d_SF_appendPieces_56 : decode b_SF_appendPieces 56 = .ok (.iconst 0, 1) := by decide +kernel
theorem d_SF_appendPieces_57 : decode b_SF_appendPieces 57 = .ok (.istore 7, 2) := by decide +kernel
theorem d_SF_appendPieces_59 : decode b_SF_appendPieces 59 = .ok (.iload 7, 2) := by decide +kernel
theorem d_SF_appendPieces_61 : decode b_SF_appendPieces 61 = .ok (.iload 5, 2) := by decide +kernel
theorem d_SF_appendPieces_63 : decode b_SF_appendPieces 63 = .ok (.if_icmp .ge 36, 3) := by decide +kernel
theorem d_SF_appendPieces_66 : decode b_SF_appendPieces 66 = .ok (.aload_n 0, 1) := by decide +kernel
theorem d_SF_appendPieces_67 : decode b_SF_appendPieces 67 = .ok (.getfield 24, 3) := by decide +kernel
theorem d_SF_appendPieces_70 : decode b_SF_appendPieces 70 = .ok (.aload_n 0, 1) := by decide +kernel
theorem d_SF_appendPieces_71 : decode b_SF_appendPieces 71 = .ok (.getfield 21, 3) := by decide +kernel
theorem d_SF_appendPieces_74 : decode b_SF_appendPieces 74 = .ok (.iload 4, 2) := by decide +kernel
theorem d_SF_appendPieces_76 : decode b_SF_appendPieces 76 = .ok (.iload 7, 2) := by decide +kernel
theorem d_SF_appendPieces_78 : decode b_SF_appendPieces 78 = .ok (.iadd, 1) := by decide +kernel
theorem d_SF_appendPieces_79 : decode b_SF_appendPieces 79 = .ok (.invokevirtual 60, 3) := by decide +kernel
theorem d_SF_appendPieces_82 : decode b_SF_appendPieces 82 = .ok (.iload_n 1, 1) := by decide +kernel
theorem d_SF_appendPieces_83 : decode b_SF_appendPieces 83 = .ok (.iload_n 3, 1) := by decide +kernel
theorem d_SF_appendPieces_84 : decode b_SF_appendPieces 84 = .ok (.iload 7, 2) := by decide +kernel
theorem d_SF_appendPieces_86 : decode b_SF_appendPieces 86 = .ok (.invokestatic 166, 3) := by decide +kernel
theorem d_SF_appendPieces_89 : decode b_SF_appendPieces 89 = .ok (.invokevirtual 41, 3) := by decide +kernel
theorem d_SF_appendPieces_92 : decode b_SF_appendPieces 92 = .ok (.pop, 1) := by decide +kernel
theorem d_SF_appendPieces_93 : decode b_SF_appendPieces 93 = .ok (.iinc 7 1, 3) := by decide +kernel
theorem d_SF_appendPieces_96 : decode b_SF_appendPieces 96 = .ok (.goto (-37), 3) := by decide +kernel
theorem d_SF_appendPieces_99 : decode b_SF_appendPieces 99 = .ok (.aload_n 0, 1) := by decide +kernel
theorem d_SF_appendPieces_100 : decode b_SF_appendPieces 100 = .ok (.getfield 24, 3) := by decide +kernel
theorem d_SF_appendPieces_103 : decode b_SF_appendPieces 103 = .ok (.aload_n 0, 1) := by decide +kernel
theorem d_SF_appendPieces_104 : decode b_SF_appendPieces 104 = .ok (.iload_n 1, 1) := by decide +kernel
theorem d_SF_appendPieces_105 : decode b_SF_appendPieces 105 = .ok (.iload_n 3, 1) := by decide +kernel
theorem d_SF_appendPieces_106 : decode b_SF_appendPieces 106 = .ok (.iload 6, 2) := by decide +kernel
theorem d_SF_appendPieces_108 : decode b_SF_appendPieces 108 = .ok (.aload_n 0, 1) := by decide +kernel
theorem d_SF_appendPieces_109 : decode b_SF_appendPieces 109 = .ok (.getfield 24, 3) := by decide +kernel
theorem d_SF_appendPieces_112 : decode b_SF_appendPieces 112 = .ok (.invokevirtual 56, 3) := by decide +kernel
theorem d_SF_appendPieces_115 : decode b_SF_appendPieces 115 = .ok (.iload_n 3, 1) := by decide +kernel
theorem d_SF_appendPieces_116 : decode b_SF_appendPieces 116 = .ok (.iload_n 2, 1) := by decide +kernel
theorem d_SF_appendPieces_117 : decode b_SF_appendPieces 117 = .ok (.if_icmp .ne 7, 3) := by decide +kernel
theorem d_SF_appendPieces_120 : decode b_SF_appendPieces 120 = .ok (.iconst 1, 1) := by decide +kernel
theorem d_SF_appendPieces_121 : decode b_SF_appendPieces 121 = .ok (.goto 4, 3) := by decide +kernel
theorem d_SF_appendPieces_124 : decode b_SF_appendPieces 124 = .ok (.iconst 0, 1) := by decide +kernel
theorem d_SF_appendPieces_125 : decode b_SF_appendPieces 125 = .ok (.invokevirtual 170, 3) := by decide +kernel
theorem d_SF_appendPieces_128 : decode b_SF_appendPieces 128 = .ok (.invokevirtual 88, 3) := by decide +kernel
theorem d_SF_appendPieces_131 : decode b_SF_appendPieces 131 = .ok (.iinc 3 1, 3) := by decide +kernel
theorem d_SF_appendPieces_134 : decode b_SF_appendPieces 134 = .ok (.goto (-115), 3) := by decide +kernel
theorem d_SF_appendPieces_137 : decode b_SF_appendPieces 137 = .ok (.return_, 1) := by decide +kernel
theorem d_SF_areReceivers_0 : decode b_SF_areReceivers 0 = .ok (.iload_n 1, 1) := by decide +kernel
theorem d_SF_areReceivers_1 : decode b_SF_areReceivers 1 = .ok (.invokestatic 72, 3) := by decide +kernel
theorem d_SF_areReceivers_4 : decode b_SF_areReceivers 4 = .ok (.istore_n 2, 1) := by decide +kernel
theorem d_SF_areReceivers_5 : decode b_SF_areReceivers 5 = .ok (.iload_n 2, 1) := by decide +kernel
theorem d_SF_areReceivers_6 : decode b_SF_areReceivers 6 = .ok (.iconst 1, 1) := by decide +kernel
theorem d_SF_areReceivers_7 : decode b_SF_areReceivers 7 = .ok (.if_icmp .lt 24, 3) := by decide +kernel
theorem d_SF_areReceivers_10 : decode b_SF_areReceivers 10 = .ok (.iload_n 2, 1) := by decide +kernel
theorem d_SF_areReceivers_11 : decode b_SF_areReceivers 11 = .ok (.iconst 3, 1) := by decide +kernel
theorem d_SF_areReceivers_12 : decode b_SF_areReceivers 12 = .ok (.if_icmp .gt 19, 3) := by decide +kernel
theorem d_SF_areReceivers_15 : decode b_SF_areReceivers 15 = .ok (.iload_n 1, 1) := by decide +kernel
theorem d_SF_areReceivers_16 : decode b_SF_areReceivers 16 = .ok (.aload_n 0, 1) := by decide +kernel
theorem d_SF_areReceivers_17 : decode b_SF_areReceivers 17 = .ok (.getfield 14, 3) := by decide +kernel
theorem d_SF_areReceivers_20 : decode b_SF_areReceivers 20 = .ok (.invokevirtual 56, 3) := by decide +kernel
theorem d_SF_areReceivers_23 : decode b_SF_areReceivers 23 = .ok (.iushr, 1) := by decide +kernel
theorem d_SF_areReceivers_24 : decode b_SF_areReceivers 24 = .ok (.ifCond .ne 7, 3) := by decide +kernel
theorem d_SF_areReceivers_27 : decode b_SF_areReceivers 27 = .ok (.iconst 1, 1) := by decide +kernel
theorem d_SF_areReceivers_28 : decode b_SF_areReceivers 28 = .ok (.goto 4, 3) := by decide +kernel
theorem d_SF_areReceivers_31 : decode b_SF_areReceivers 31 = .ok (.iconst 0, 1) := by decide +kernel
theorem d_SF_areReceivers_32 : decode b_SF_areReceivers 32 = .ok (.ireturn, 1) := by decide +kernel
theorem d_SF_at_0 : decode b_SF_at 0 = .ok (.aload_n 0, 1) := by decide +kernel
theorem d_SF_at_1 : decode b_SF_at 1 = .ok (.getfield 24, 3) := by decide +kernel
theorem d_SF_at_4 : decode b_SF_at 4 = .ok (.iload_n 1, 1) := by decide +kernel
theorem d_SF_at_5 : decode b_SF_at 5 = .ok (.invokevirtual 60, 3) := by decide +kernel
theorem d_SF_at_8 : decode b_SF_at 8 = .ok (.ireturn, 1) := by decide +kernel
theorem d_SF_clear_0 : decode b_SF_clear 0 = .ok (.aload_n 0, 1) := by decide +kernel
theorem d_SF_clear_1 : decode b_SF_clear 1 = .ok (.getfield 21, 3) := by decide +kernel
theorem d_SF_clear_4 : decode b_SF_clear 4 = .ok (.invokevirtual 56, 3) := by decide +kernel
theorem d_SF_clear_7 : decode b_SF_clear 7 = .ok (.istore_n 1, 1) := by decide +kernel
theorem d_SF_clear_8 : decode b_SF_clear 8 = .ok (.aload_n 0, 1) := by decide +kernel
theorem d_SF_clear_9 : decode b_SF_clear 9 = .ok (.getfield 21, 3) := by decide +kernel
theorem d_SF_clear_12 : decode b_SF_clear 12 = .ok (.iconst 0, 1) := by decide +kernel
theorem d_SF_clear_13 : decode b_SF_clear 13 = .ok (.invokevirtual 64, 3) := by decide +kernel
theorem d_SF_clear_16 : decode b_SF_clear 16 = .ok (.pop, 1) := by decide +kernel
theorem d_SF_clear_17 : decode b_SF_clear 17 = .ok (.iload_n 1, 1) := by decide +kernel
theorem d_SF_clear_18 : decode b_SF_clear 18 = .ok (.ireturn, 1) := by decide +kernel
theorem d_SF_count_0 : decode b_SF_count 0 = .ok (.iload_n 1, 1) := by decide +kernel
theorem d_SF_count_1 : decode b_SF_count 1 = .ok (.tableswitch 51 0 2 #[27, 35, 43], 27) := by decide +kernel
theorem d_SF_count_28 : decode b_SF_count 28 = .ok (.aload_n 0, 1) := by decide +kernel
theorem d_SF_count_29 : decode b_SF_count 29 = .ok (.getfield 21, 3) := by decide +kernel
theorem d_SF_count_32 : decode b_SF_count 32 = .ok (.invokevirtual 56, 3) := by decide +kernel
theorem d_SF_count_35 : decode b_SF_count 35 = .ok (.ireturn, 1) := by decide +kernel
theorem d_SF_count_36 : decode b_SF_count 36 = .ok (.aload_n 0, 1) := by decide +kernel
theorem d_SF_count_37 : decode b_SF_count 37 = .ok (.getfield 24, 3) := by decide +kernel
theorem d_SF_count_40 : decode b_SF_count 40 = .ok (.invokevirtual 56, 3) := by decide +kernel
theorem d_SF_count_43 : decode b_SF_count 43 = .ok (.ireturn, 1) := by decide +kernel
theorem d_SF_count_44 : decode b_SF_count 44 = .ok (.aload_n 0, 1) := by decide +kernel
theorem d_SF_count_45 : decode b_SF_count 45 = .ok (.getfield 14, 3) := by decide +kernel
theorem d_SF_count_48 : decode b_SF_count 48 = .ok (.invokevirtual 56, 3) := by decide +kernel
theorem d_SF_count_51 : decode b_SF_count 51 = .ok (.ireturn, 1) := by decide +kernel
theorem d_SF_count_52 : decode b_SF_count 52 = .ok (.iconst (-1), 1) := by decide +kernel
theorem d_SF_count_53 : decode b_SF_count 53 = .ok (.ireturn, 1) := by decide +kernel
theorem d_SF_covered_0 : decode b_SF_covered 0 = .ok (.iload_n 0, 1) := by decide +kernel
theorem d_SF_covered_1 : decode b_SF_covered 1 = .ok (.iload_n 1, 1) := by decide +kernel
theorem d_SF_covered_2 : decode b_SF_covered 2 = .ok (.bipush 16, 2) := by decide +kernel
theorem d_SF_covered_4 : decode b_SF_covered 4 = .ok (.iload_n 2, 1) := by decide +kernel
theorem d_SF_covered_5 : decode b_SF_covered 5 = .ok (.imul, 1) := by decide +kernel
theorem d_SF_covered_6 : decode b_SF_covered 6 = .ok (.iload_n 3, 1) := by decide +kernel
theorem d_SF_covered_7 : decode b_SF_covered 7 = .ok (.iadd, 1) := by decide +kernel
theorem d_SF_covered_8 : decode b_SF_covered 8 = .ok (.iconst 4, 1) := by decide +kernel
theorem d_SF_covered_9 : decode b_SF_covered 9 = .ok (.invokestatic 148, 3) := by decide +kernel
theorem d_SF_covered_12 : decode b_SF_covered 12 = .ok (.sipush 255, 3) := by decide +kernel
theorem d_SF_covered_15 : decode b_SF_covered 15 = .ok (.iand, 1) := by decide +kernel
theorem d_SF_covered_16 : decode b_SF_covered 16 = .ok (.ixor, 1) := by decide +kernel
theorem d_SF_covered_17 : decode b_SF_covered 17 = .ok (.ireturn, 1) := by decide +kernel
theorem d_SF_cut_0 : decode b_SF_cut 0 = .ok (.aload_n 0, 1) := by decide +kernel
theorem d_SF_cut_1 : decode b_SF_cut 1 = .ok (.getfield 24, 3) := by decide +kernel
theorem d_SF_cut_4 : decode b_SF_cut 4 = .ok (.iload_n 1, 1) := by decide +kernel
theorem d_SF_cut_5 : decode b_SF_cut 5 = .ok (.invokevirtual 64, 3) := by decide +kernel
theorem d_SF_cut_8 : decode b_SF_cut 8 = .ok (.ireturn, 1) := by decide +kernel
theorem d_SF_draftBytes_0 : decode b_SF_draftBytes 0 = .ok (.aload_n 0, 1) := by decide +kernel
theorem d_SF_draftBytes_1 : decode b_SF_draftBytes 1 = .ok (.getfield 27, 3) := by decide +kernel
theorem d_SF_draftBytes_4 : decode b_SF_draftBytes 4 = .ok (.invokevirtual 56, 3) := by decide +kernel
theorem d_SF_draftBytes_7 : decode b_SF_draftBytes 7 = .ok (.bipush 6, 2) := by decide +kernel
theorem d_SF_draftBytes_9 : decode b_SF_draftBytes 9 = .ok (.imul, 1) := by decide +kernel
theorem d_SF_draftBytes_10 : decode b_SF_draftBytes 10 = .ok (.bipush 8, 2) := by decide +kernel
theorem d_SF_draftBytes_12 : decode b_SF_draftBytes 12 = .ok (.idiv, 1) := by decide +kernel
theorem d_SF_draftBytes_13 : decode b_SF_draftBytes 13 = .ok (.ireturn, 1) := by decide +kernel
theorem d_SF_draftIsPrintedForm_0 : decode b_SF_draftIsPrintedForm 0 = .ok (.aload_n 0, 1) := by decide +kernel
theorem d_SF_draftIsPrintedForm_1 : decode b_SF_draftIsPrintedForm 1 = .ok (.getfield 27, 3) := by decide +kernel
theorem d_SF_draftIsPrintedForm_4 : decode b_SF_draftIsPrintedForm 4 = .ok (.invokevirtual 56, 3) := by decide +kernel
theorem d_SF_draftIsPrintedForm_7 : decode b_SF_draftIsPrintedForm 7 = .ok (.bipush 6, 2) := by decide +kernel
theorem d_SF_draftIsPrintedForm_9 : decode b_SF_draftIsPrintedForm 9 = .ok (.imul, 1) := by decide +kernel
theorem d_SF_draftIsPrintedForm_10 : decode b_SF_draftIsPrintedForm 10 = .ok (.aload_n 0, 1) := by decide +kernel
theorem d_SF_draftIsPrintedForm_11 : decode b_SF_draftIsPrintedForm 11 = .ok (.invokevirtual 181, 3) := by decide +kernel
theorem d_SF_draftIsPrintedForm_14 : decode b_SF_draftIsPrintedForm 14 = .ok (.bipush 8, 2) := by decide +kernel
theorem d_SF_draftIsPrintedForm_16 : decode b_SF_draftIsPrintedForm 16 = .ok (.imul, 1) := by decide +kernel
theorem d_SF_draftIsPrintedForm_17 : decode b_SF_draftIsPrintedForm 17 = .ok (.isub, 1) := by decide +kernel
theorem d_SF_draftIsPrintedForm_18 : decode b_SF_draftIsPrintedForm 18 = .ok (.istore_n 1, 1) := by decide +kernel
theorem d_SF_draftIsPrintedForm_19 : decode b_SF_draftIsPrintedForm 19 = .ok (.iload_n 1, 1) := by decide +kernel
theorem d_SF_draftIsPrintedForm_20 : decode b_SF_draftIsPrintedForm 20 = .ok (.ifCond .ne 5, 3) := by decide +kernel
theorem d_SF_draftIsPrintedForm_23 : decode b_SF_draftIsPrintedForm 23 = .ok (.iconst 1, 1) := by decide +kernel
theorem d_SF_draftIsPrintedForm_24 : decode b_SF_draftIsPrintedForm 24 = .ok (.ireturn, 1) := by decide +kernel
theorem d_SF_draftIsPrintedForm_25 : decode b_SF_draftIsPrintedForm 25 = .ok (.iconst 1, 1) := by decide +kernel
theorem d_SF_draftIsPrintedForm_26 : decode b_SF_draftIsPrintedForm 26 = .ok (.iload_n 1, 1) := by decide +kernel
theorem d_SF_draftIsPrintedForm_27 : decode b_SF_draftIsPrintedForm 27 = .ok (.ishl, 1) := by decide +kernel
theorem d_SF_draftIsPrintedForm_28 : decode b_SF_draftIsPrintedForm 28 = .ok (.iconst 1, 1) := by decide +kernel
theorem d_SF_draftIsPrintedForm_29 : decode b_SF_draftIsPrintedForm 29 = .ok (.isub, 1) := by decide +kernel
theorem d_SF_draftIsPrintedForm_30 : decode b_SF_draftIsPrintedForm 30 = .ok (.istore_n 2, 1) := by decide +kernel
theorem d_SF_draftIsPrintedForm_31 : decode b_SF_draftIsPrintedForm 31 = .ok (.iload_n 1, 1) := by decide +kernel
theorem d_SF_draftIsPrintedForm_32 : decode b_SF_draftIsPrintedForm 32 = .ok (.bipush 6, 2) := by decide +kernel
theorem d_SF_draftIsPrintedForm_34 : decode b_SF_draftIsPrintedForm 34 = .ok (.if_icmp .ge 28, 3) := by decide +kernel
theorem d_SF_draftIsPrintedForm_37 : decode b_SF_draftIsPrintedForm 37 = .ok (.aload_n 0, 1) := by decide +kernel
theorem d_SF_draftIsPrintedForm_38 : decode b_SF_draftIsPrintedForm 38 = .ok (.getfield 27, 3) := by decide +kernel
theorem d_SF_draftIsPrintedForm_41 : decode b_SF_draftIsPrintedForm 41 = .ok (.aload_n 0, 1) := by decide +kernel
theorem d_SF_draftIsPrintedForm_42 : decode b_SF_draftIsPrintedForm 42 = .ok (.getfield 27, 3) := by decide +kernel
theorem d_SF_draftIsPrintedForm_45 : decode b_SF_draftIsPrintedForm 45 = .ok (.invokevirtual 56, 3) := by decide +kernel
theorem d_SF_draftIsPrintedForm_48 : decode b_SF_draftIsPrintedForm 48 = .ok (.iconst 1, 1) := by decide +kernel
theorem d_SF_draftIsPrintedForm_49 : decode b_SF_draftIsPrintedForm 49 = .ok (.isub, 1) := by decide +kernel
theorem d_SF_draftIsPrintedForm_50 : decode b_SF_draftIsPrintedForm 50 = .ok (.invokevirtual 60, 3) := by decide +kernel
theorem d_SF_draftIsPrintedForm_53 : decode b_SF_draftIsPrintedForm 53 = .ok (.iload_n 2, 1) := by decide +kernel
theorem d_SF_draftIsPrintedForm_54 : decode b_SF_draftIsPrintedForm 54 = .ok (.iand, 1) := by decide +kernel
theorem d_SF_draftIsPrintedForm_55 : decode b_SF_draftIsPrintedForm 55 = .ok (.ifCond .ne 7, 3) := by decide +kernel
theorem d_SF_draftIsPrintedForm_58 : decode b_SF_draftIsPrintedForm 58 = .ok (.iconst 1, 1) := by decide +kernel
theorem d_SF_draftIsPrintedForm_59 : decode b_SF_draftIsPrintedForm 59 = .ok (.goto 4, 3) := by decide +kernel
theorem d_SF_draftIsPrintedForm_62 : decode b_SF_draftIsPrintedForm 62 = .ok (.iconst 0, 1) := by decide +kernel
theorem d_SF_draftIsPrintedForm_63 : decode b_SF_draftIsPrintedForm 63 = .ok (.ireturn, 1) := by decide +kernel
theorem d_SF_entriesEnd_0 : decode b_SF_entriesEnd 0 = .ok (.iconst 2, 1) := by decide +kernel
theorem d_SF_entriesEnd_1 : decode b_SF_entriesEnd 1 = .ok (.aload_n 0, 1) := by decide +kernel
theorem d_SF_entriesEnd_2 : decode b_SF_entriesEnd 2 = .ok (.getfield 24, 3) := by decide +kernel
theorem d_SF_entriesEnd_5 : decode b_SF_entriesEnd 5 = .ok (.iconst 1, 1) := by decide +kernel
theorem d_SF_entriesEnd_6 : decode b_SF_entriesEnd 6 = .ok (.invokevirtual 60, 3) := by decide +kernel
theorem d_SF_entriesEnd_9 : decode b_SF_entriesEnd 9 = .ok (.bipush 8, 2) := by decide +kernel
theorem d_SF_entriesEnd_11 : decode b_SF_entriesEnd 11 = .ok (.imul, 1) := by decide +kernel
theorem d_SF_entriesEnd_12 : decode b_SF_entriesEnd 12 = .ok (.iadd, 1) := by decide +kernel
theorem d_SF_entriesEnd_13 : decode b_SF_entriesEnd 13 = .ok (.ireturn, 1) := by decide +kernel
theorem d_SF_entryFor_0 : decode b_SF_entryFor 0 = .ok (.aload_n 0, 1) := by decide +kernel
theorem d_SF_entryFor_1 : decode b_SF_entryFor 1 = .ok (.getfield 24, 3) := by decide +kernel
theorem d_SF_entryFor_4 : decode b_SF_entryFor 4 = .ok (.iconst 1, 1) := by decide +kernel
theorem d_SF_entryFor_5 : decode b_SF_entryFor 5 = .ok (.invokevirtual 60, 3) := by decide +kernel
theorem d_SF_entryFor_8 : decode b_SF_entryFor 8 = .ok (.istore_n 2, 1) := by decide +kernel
theorem d_SF_entryFor_9 : decode b_SF_entryFor 9 = .ok (.iconst 0, 1) := by decide +kernel
theorem d_SF_entryFor_10 : decode b_SF_entryFor 10 = .ok (.istore_n 3, 1) := by decide +kernel
theorem d_SF_entryFor_11 : decode b_SF_entryFor 11 = .ok (.iload_n 3, 1) := by decide +kernel
theorem d_SF_entryFor_12 : decode b_SF_entryFor 12 = .ok (.iload_n 2, 1) := by decide +kernel
theorem d_SF_entryFor_13 : decode b_SF_entryFor 13 = .ok (.if_icmp .ge 60, 3) := by decide +kernel
theorem d_SF_entryFor_16 : decode b_SF_entryFor 16 = .ok (.iconst 2, 1) := by decide +kernel
theorem d_SF_entryFor_17 : decode b_SF_entryFor 17 = .ok (.iload_n 3, 1) := by decide +kernel
theorem d_SF_entryFor_18 : decode b_SF_entryFor 18 = .ok (.bipush 8, 2) := by decide +kernel
theorem d_SF_entryFor_20 : decode b_SF_entryFor 20 = .ok (.imul, 1) := by decide +kernel
theorem d_SF_entryFor_21 : decode b_SF_entryFor 21 = .ok (.iadd, 1) := by decide +kernel
theorem d_SF_entryFor_22 : decode b_SF_entryFor 22 = .ok (.istore 4, 2) := by decide +kernel
theorem d_SF_entryFor_24 : decode b_SF_entryFor 24 = .ok (.aload_n 0, 1) := by decide +kernel
theorem d_SF_entryFor_25 : decode b_SF_entryFor 25 = .ok (.iload 4, 2) := by decide +kernel
theorem d_SF_entryFor_27 : decode b_SF_entryFor 27 = .ok (.aload_n 0, 1) := by decide +kernel
theorem d_SF_entryFor_28 : decode b_SF_entryFor 28 = .ok (.iload 4, 2) := by decide +kernel
theorem d_SF_entryFor_30 : decode b_SF_entryFor 30 = .ok (.iload_n 1, 1) := by decide +kernel
theorem d_SF_entryFor_31 : decode b_SF_entryFor 31 = .ok (.invokevirtual 174, 3) := by decide +kernel
theorem d_SF_entryFor_34 : decode b_SF_entryFor 34 = .ok (.aload_n 0, 1) := by decide +kernel
theorem d_SF_entryFor_35 : decode b_SF_entryFor 35 = .ok (.getfield 18, 3) := by decide +kernel
theorem d_SF_entryFor_38 : decode b_SF_entryFor 38 = .ok (.iload_n 1, 1) := by decide +kernel
theorem d_SF_entryFor_39 : decode b_SF_entryFor 39 = .ok (.invokevirtual 60, 3) := by decide +kernel
theorem d_SF_entryFor_42 : decode b_SF_entryFor 42 = .ok (.invokevirtual 152, 3) := by decide +kernel
theorem d_SF_entryFor_45 : decode b_SF_entryFor 45 = .ok (.istore 5, 2) := by decide +kernel
theorem d_SF_entryFor_47 : decode b_SF_entryFor 47 = .ok (.aload_n 0, 1) := by decide +kernel
theorem d_SF_entryFor_48 : decode b_SF_entryFor 48 = .ok (.getfield 24, 3) := by decide +kernel
theorem d_SF_entryFor_51 : decode b_SF_entryFor 51 = .ok (.iload 4, 2) := by decide +kernel
theorem d_SF_entryFor_53 : decode b_SF_entryFor 53 = .ok (.bipush 6, 2) := by decide +kernel
theorem d_SF_entryFor_55 : decode b_SF_entryFor 55 = .ok (.iadd, 1) := by decide +kernel
theorem d_SF_entryFor_56 : decode b_SF_entryFor 56 = .ok (.invokevirtual 112, 3) := by decide +kernel
theorem d_SF_entryFor_59 : decode b_SF_entryFor 59 = .ok (.iload 5, 2) := by decide +kernel
theorem d_SF_entryFor_61 : decode b_SF_entryFor 61 = .ok (.if_icmp .ne 6, 3) := by decide +kernel
theorem d_SF_entryFor_64 : decode b_SF_entryFor 64 = .ok (.iload 4, 2) := by decide +kernel
theorem d_SF_entryFor_66 : decode b_SF_entryFor 66 = .ok (.ireturn, 1) := by decide +kernel
theorem d_SF_entryFor_67 : decode b_SF_entryFor 67 = .ok (.iinc 3 1, 3) := by decide +kernel
theorem d_SF_entryFor_70 : decode b_SF_entryFor 70 = .ok (.goto (-59), 3) := by decide +kernel
theorem d_SF_entryFor_73 : decode b_SF_entryFor 73 = .ok (.iconst (-1), 1) := by decide +kernel
theorem d_SF_entryFor_74 : decode b_SF_entryFor 74 = .ok (.ireturn, 1) := by decide +kernel
theorem d_SF_entrySign_0 : decode b_SF_entrySign 0 = .ok (.aload_n 0, 1) := by decide +kernel
theorem d_SF_entrySign_1 : decode b_SF_entrySign 1 = .ok (.getfield 24, 3) := by decide +kernel
theorem d_SF_entrySign_4 : decode b_SF_entrySign 4 = .ok (.iload_n 1, 1) := by decide +kernel
theorem d_SF_entrySign_5 : decode b_SF_entrySign 5 = .ok (.iload_n 1, 1) := by decide +kernel
theorem d_SF_entrySign_6 : decode b_SF_entrySign 6 = .ok (.bipush 6, 2) := by decide +kernel
theorem d_SF_entrySign_8 : decode b_SF_entrySign 8 = .ok (.iadd, 1) := by decide +kernel
theorem d_SF_entrySign_9 : decode b_SF_entrySign 9 = .ok (.iload_n 2, 1) := by decide +kernel
theorem d_SF_entrySign_10 : decode b_SF_entrySign 10 = .ok (.iload_n 3, 1) := by decide +kernel
theorem d_SF_entrySign_11 : decode b_SF_entrySign 11 = .ok (.iconst 2, 1) := by decide +kernel
theorem d_SF_entrySign_12 : decode b_SF_entrySign 12 = .ok (.invokestatic 148, 3) := by decide +kernel
theorem d_SF_entrySign_15 : decode b_SF_entrySign 15 = .ok (.invokevirtual 155, 3) := by decide +kernel
theorem d_SF_entrySign_18 : decode b_SF_entrySign 18 = .ok (.ireturn, 1) := by decide +kernel
theorem d_SF_exponent_0 : decode b_SF_exponent 0 = .ok (.iconst 2, 1) := by decide +kernel
theorem d_SF_exponent_1 : decode b_SF_exponent 1 = .ok (.iload_n 0, 1) := by decide +kernel
theorem d_SF_exponent_2 : decode b_SF_exponent 2 = .ok (.iload_n 1, 1) := by decide +kernel
theorem d_SF_exponent_3 : decode b_SF_exponent 3 = .ok (.iload_n 2, 1) := by decide +kernel
theorem d_SF_exponent_4 : decode b_SF_exponent 4 = .ok (.invokestatic 148, 3) := by decide +kernel
theorem d_SF_exponent_7 : decode b_SF_exponent 7 = .ok (.iconst 1, 1) := by decide +kernel
theorem d_SF_exponent_8 : decode b_SF_exponent 8 = .ok (.iushr, 1) := by decide +kernel
theorem d_SF_exponent_9 : decode b_SF_exponent 9 = .ok (.sipush 32746, 3) := by decide +kernel
theorem d_SF_exponent_12 : decode b_SF_exponent 12 = .ok (.irem, 1) := by decide +kernel
theorem d_SF_exponent_13 : decode b_SF_exponent 13 = .ok (.iadd, 1) := by decide +kernel
theorem d_SF_exponent_14 : decode b_SF_exponent 14 = .ok (.ireturn, 1) := by decide +kernel
