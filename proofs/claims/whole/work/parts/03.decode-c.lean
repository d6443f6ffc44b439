theorem d_SF_hasShape_0 : decode b_SF_hasShape 0 = .ok (.aload_n 0, 1) := by decide +kernel
theorem d_SF_hasShape_1 : decode b_SF_hasShape 1 = .ok (.getfield 24, 3) := by decide +kernel
theorem d_SF_hasShape_4 : decode b_SF_hasShape 4 = .ok (.iconst 0, 1) := by decide +kernel
theorem d_SF_hasShape_5 : decode b_SF_hasShape 5 = .ok (.invokevirtual 60, 3) := by decide +kernel
theorem d_SF_hasShape_8 : decode b_SF_hasShape 8 = .ok (.bipush 83, 2) := by decide +kernel
theorem d_SF_hasShape_10 : decode b_SF_hasShape 10 = .ok (.if_icmp .ne 47, 3) := by decide +kernel
theorem d_SF_hasShape_13 : decode b_SF_hasShape 13 = .ok (.aload_n 0, 1) := by decide +kernel
theorem d_SF_hasShape_14 : decode b_SF_hasShape 14 = .ok (.getfield 24, 3) := by decide +kernel
theorem d_SF_hasShape_17 : decode b_SF_hasShape 17 = .ok (.iconst 1, 1) := by decide +kernel
theorem d_SF_hasShape_18 : decode b_SF_hasShape 18 = .ok (.invokevirtual 60, 3) := by decide +kernel
theorem d_SF_hasShape_21 : decode b_SF_hasShape 21 = .ok (.iconst 1, 1) := by decide +kernel
theorem d_SF_hasShape_22 : decode b_SF_hasShape 22 = .ok (.if_icmp .lt 35, 3) := by decide +kernel
theorem d_SF_hasShape_25 : decode b_SF_hasShape 25 = .ok (.aload_n 0, 1) := by decide +kernel
theorem d_SF_hasShape_26 : decode b_SF_hasShape 26 = .ok (.getfield 24, 3) := by decide +kernel
theorem d_SF_hasShape_29 : decode b_SF_hasShape 29 = .ok (.iconst 1, 1) := by decide +kernel
theorem d_SF_hasShape_30 : decode b_SF_hasShape 30 = .ok (.invokevirtual 60, 3) := by decide +kernel
theorem d_SF_hasShape_33 : decode b_SF_hasShape 33 = .ok (.iconst 3, 1) := by decide +kernel
theorem d_SF_hasShape_34 : decode b_SF_hasShape 34 = .ok (.if_icmp .gt 23, 3) := by decide +kernel
theorem d_SF_hasShape_37 : decode b_SF_hasShape 37 = .ok (.aload_n 0, 1) := by decide +kernel
theorem d_SF_hasShape_38 : decode b_SF_hasShape 38 = .ok (.getfield 24, 3) := by decide +kernel
theorem d_SF_hasShape_41 : decode b_SF_hasShape 41 = .ok (.invokevirtual 56, 3) := by decide +kernel
theorem d_SF_hasShape_44 : decode b_SF_hasShape 44 = .ok (.aload_n 0, 1) := by decide +kernel
theorem d_SF_hasShape_45 : decode b_SF_hasShape 45 = .ok (.invokevirtual 109, 3) := by decide +kernel
theorem d_SF_hasShape_48 : decode b_SF_hasShape 48 = .ok (.iconst 4, 1) := by decide +kernel
theorem d_SF_hasShape_49 : decode b_SF_hasShape 49 = .ok (.iadd, 1) := by decide +kernel
theorem d_SF_hasShape_50 : decode b_SF_hasShape 50 = .ok (.if_icmp .lt 7, 3) := by decide +kernel
theorem d_SF_hasShape_53 : decode b_SF_hasShape 53 = .ok (.iconst 1, 1) := by decide +kernel
theorem d_SF_hasShape_54 : decode b_SF_hasShape 54 = .ok (.goto 4, 3) := by decide +kernel
theorem d_SF_hasShape_57 : decode b_SF_hasShape 57 = .ok (.iconst 0, 1) := by decide +kernel
theorem d_SF_hasShape_58 : decode b_SF_hasShape 58 = .ok (.ireturn, 1) := by decide +kernel
theorem d_SF_headSign_0 : decode b_SF_headSign 0 = .ok (.aload_n 0, 1) := by decide +kernel
theorem d_SF_headSign_1 : decode b_SF_headSign 1 = .ok (.getfield 24, 3) := by decide +kernel
theorem d_SF_headSign_4 : decode b_SF_headSign 4 = .ok (.iconst 0, 1) := by decide +kernel
theorem d_SF_headSign_5 : decode b_SF_headSign 5 = .ok (.iload_n 2, 1) := by decide +kernel
theorem d_SF_headSign_6 : decode b_SF_headSign 6 = .ok (.iload_n 1, 1) := by decide +kernel
theorem d_SF_headSign_7 : decode b_SF_headSign 7 = .ok (.iconst 0, 1) := by decide +kernel
theorem d_SF_headSign_8 : decode b_SF_headSign 8 = .ok (.iconst 3, 1) := by decide +kernel
theorem d_SF_headSign_9 : decode b_SF_headSign 9 = .ok (.invokestatic 148, 3) := by decide +kernel
theorem d_SF_headSign_12 : decode b_SF_headSign 12 = .ok (.invokevirtual 155, 3) := by decide +kernel
theorem d_SF_headSign_15 : decode b_SF_headSign 15 = .ok (.ireturn, 1) := by decide +kernel
theorem d_SF_init_0 : decode b_SF_init 0 = .ok (.aload_n 0, 1) := by decide +kernel
theorem d_SF_init_1 : decode b_SF_init 1 = .ok (.invokespecial 1, 3) := by decide +kernel
theorem d_SF_init_4 : decode b_SF_init 4 = .ok (.aload_n 0, 1) := by decide +kernel
theorem d_SF_init_5 : decode b_SF_init 5 = .ok (.new 7, 3) := by decide +kernel
theorem d_SF_init_8 : decode b_SF_init 8 = .ok (.dup, 1) := by decide +kernel
theorem d_SF_init_9 : decode b_SF_init 9 = .ok (.iconst 4, 1) := by decide +kernel
theorem d_SF_init_10 : decode b_SF_init 10 = .ok (.invokespecial 11, 3) := by decide +kernel
theorem d_SF_init_13 : decode b_SF_init 13 = .ok (.putfield 14, 3) := by decide +kernel
theorem d_SF_init_16 : decode b_SF_init 16 = .ok (.aload_n 0, 1) := by decide +kernel
theorem d_SF_init_17 : decode b_SF_init 17 = .ok (.new 7, 3) := by decide +kernel
theorem d_SF_init_20 : decode b_SF_init 20 = .ok (.dup, 1) := by decide +kernel
theorem d_SF_init_21 : decode b_SF_init 21 = .ok (.iconst 4, 1) := by decide +kernel
theorem d_SF_init_22 : decode b_SF_init 22 = .ok (.invokespecial 11, 3) := by decide +kernel
theorem d_SF_init_25 : decode b_SF_init 25 = .ok (.putfield 18, 3) := by decide +kernel
theorem d_SF_init_28 : decode b_SF_init 28 = .ok (.aload_n 0, 1) := by decide +kernel
theorem d_SF_init_29 : decode b_SF_init 29 = .ok (.new 7, 3) := by decide +kernel
theorem d_SF_init_32 : decode b_SF_init 32 = .ok (.dup, 1) := by decide +kernel
theorem d_SF_init_33 : decode b_SF_init 33 = .ok (.bipush 40, 2) := by decide +kernel
theorem d_SF_init_35 : decode b_SF_init 35 = .ok (.invokespecial 11, 3) := by decide +kernel
theorem d_SF_init_38 : decode b_SF_init 38 = .ok (.putfield 21, 3) := by decide +kernel
theorem d_SF_init_41 : decode b_SF_init 41 = .ok (.aload_n 0, 1) := by decide +kernel
theorem d_SF_init_42 : decode b_SF_init 42 = .ok (.new 7, 3) := by decide +kernel
theorem d_SF_init_45 : decode b_SF_init 45 = .ok (.dup, 1) := by decide +kernel
theorem d_SF_init_46 : decode b_SF_init 46 = .ok (.bipush 120, 2) := by decide +kernel
theorem d_SF_init_48 : decode b_SF_init 48 = .ok (.invokespecial 11, 3) := by decide +kernel
theorem d_SF_init_51 : decode b_SF_init 51 = .ok (.putfield 24, 3) := by decide +kernel
theorem d_SF_init_54 : decode b_SF_init 54 = .ok (.aload_n 0, 1) := by decide +kernel
theorem d_SF_init_55 : decode b_SF_init 55 = .ok (.new 7, 3) := by decide +kernel
theorem d_SF_init_58 : decode b_SF_init 58 = .ok (.dup, 1) := by decide +kernel
theorem d_SF_init_59 : decode b_SF_init 59 = .ok (.sipush 160, 3) := by decide +kernel
theorem d_SF_init_62 : decode b_SF_init 62 = .ok (.invokespecial 11, 3) := by decide +kernel
theorem d_SF_init_65 : decode b_SF_init 65 = .ok (.putfield 27, 3) := by decide +kernel
theorem d_SF_init_68 : decode b_SF_init 68 = .ok (.aload_n 0, 1) := by decide +kernel
theorem d_SF_init_69 : decode b_SF_init 69 = .ok (.iconst 0, 1) := by decide +kernel
theorem d_SF_init_70 : decode b_SF_init 70 = .ok (.putfield 30, 3) := by decide +kernel
theorem d_SF_init_73 : decode b_SF_init 73 = .ok (.return_, 1) := by decide +kernel
theorem d_SF_key_0 : decode b_SF_key 0 = .ok (.iload_n 1, 1) := by decide +kernel
theorem d_SF_key_1 : decode b_SF_key 1 = .ok (.iconst 2, 1) := by decide +kernel
theorem d_SF_key_2 : decode b_SF_key 2 = .ok (.if_icmp .lt 10, 3) := by decide +kernel
theorem d_SF_key_5 : decode b_SF_key 5 = .ok (.iload_n 1, 1) := by decide +kernel
theorem d_SF_key_6 : decode b_SF_key 6 = .ok (.sipush 32747, 3) := by decide +kernel
theorem d_SF_key_9 : decode b_SF_key 9 = .ok (.if_icmp .le 13, 3) := by decide +kernel
theorem d_SF_key_12 : decode b_SF_key 12 = .ok (.new 34, 3) := by decide +kernel
theorem d_SF_key_15 : decode b_SF_key 15 = .ok (.dup, 1) := by decide +kernel
theorem d_SF_key_16 : decode b_SF_key 16 = .ok (.ldc 36, 2) := by decide +kernel
theorem d_SF_key_18 : decode b_SF_key 18 = .ok (.invokespecial 38, 3) := by decide +kernel
theorem d_SF_key_21 : decode b_SF_key 21 = .ok (.athrow, 1) := by decide +kernel
theorem d_SF_key_22 : decode b_SF_key 22 = .ok (.aload_n 0, 1) := by decide +kernel
theorem d_SF_key_23 : decode b_SF_key 23 = .ok (.getfield 14, 3) := by decide +kernel
theorem d_SF_key_26 : decode b_SF_key 26 = .ok (.iload_n 1, 1) := by decide +kernel
theorem d_SF_key_27 : decode b_SF_key 27 = .ok (.invokevirtual 41, 3) := by decide +kernel
theorem d_SF_key_30 : decode b_SF_key 30 = .ok (.ifCond .ne 13, 3) := by decide +kernel
theorem d_SF_key_33 : decode b_SF_key 33 = .ok (.new 45, 3) := by decide +kernel
theorem d_SF_key_36 : decode b_SF_key 36 = .ok (.dup, 1) := by decide +kernel
theorem d_SF_key_37 : decode b_SF_key 37 = .ok (.ldc 47, 2) := by decide +kernel
theorem d_SF_key_39 : decode b_SF_key 39 = .ok (.invokespecial 49, 3) := by decide +kernel
theorem d_SF_key_42 : decode b_SF_key 42 = .ok (.athrow, 1) := by decide +kernel
theorem d_SF_key_43 : decode b_SF_key 43 = .ok (.aload_n 0, 1) := by decide +kernel
theorem d_SF_key_44 : decode b_SF_key 44 = .ok (.getfield 18, 3) := by decide +kernel
theorem d_SF_key_47 : decode b_SF_key 47 = .ok (.iconst 2, 1) := by decide +kernel
theorem d_SF_key_48 : decode b_SF_key 48 = .ok (.iload_n 1, 1) := by decide +kernel
theorem d_SF_key_49 : decode b_SF_key 49 = .ok (.invokestatic 50, 3) := by decide +kernel
theorem d_SF_key_52 : decode b_SF_key 52 = .ok (.invokevirtual 41, 3) := by decide +kernel
theorem d_SF_key_55 : decode b_SF_key 55 = .ok (.pop, 1) := by decide +kernel
theorem d_SF_key_56 : decode b_SF_key 56 = .ok (.aload_n 0, 1) := by decide +kernel
theorem d_SF_key_57 : decode b_SF_key 57 = .ok (.getfield 14, 3) := by decide +kernel
theorem d_SF_key_60 : decode b_SF_key 60 = .ok (.invokevirtual 56, 3) := by decide +kernel
theorem d_SF_key_63 : decode b_SF_key 63 = .ok (.iconst 1, 1) := by decide +kernel
theorem d_SF_key_64 : decode b_SF_key 64 = .ok (.isub, 1) := by decide +kernel
theorem d_SF_key_65 : decode b_SF_key 65 = .ok (.ireturn, 1) := by decide +kernel
theorem d_SF_load_0 : decode b_SF_load 0 = .ok (.aload_n 0, 1) := by decide +kernel
theorem d_SF_load_1 : decode b_SF_load 1 = .ok (.invokevirtual 140, 3) := by decide +kernel
theorem d_SF_load_4 : decode b_SF_load 4 = .ok (.istore_n 1, 1) := by decide +kernel
theorem d_SF_load_5 : decode b_SF_load 5 = .ok (.iload_n 1, 1) := by decide +kernel
theorem d_SF_load_6 : decode b_SF_load 6 = .ok (.ifCond .eq 7, 3) := by decide +kernel
theorem d_SF_load_9 : decode b_SF_load 9 = .ok (.aload_n 0, 1) := by decide +kernel
theorem d_SF_load_10 : decode b_SF_load 10 = .ok (.invokevirtual 143, 3) := by decide +kernel
theorem d_SF_load_13 : decode b_SF_load 13 = .ok (.aload_n 0, 1) := by decide +kernel
theorem d_SF_load_14 : decode b_SF_load 14 = .ok (.getfield 27, 3) := by decide +kernel
theorem d_SF_load_17 : decode b_SF_load 17 = .ok (.iconst 0, 1) := by decide +kernel
theorem d_SF_load_18 : decode b_SF_load 18 = .ok (.invokevirtual 64, 3) := by decide +kernel
theorem d_SF_load_21 : decode b_SF_load 21 = .ok (.pop, 1) := by decide +kernel
theorem d_SF_load_22 : decode b_SF_load 22 = .ok (.iload_n 1, 1) := by decide +kernel
theorem d_SF_load_23 : decode b_SF_load 23 = .ok (.ifCond .ne 13, 3) := by decide +kernel
theorem d_SF_load_26 : decode b_SF_load 26 = .ok (.new 34, 3) := by decide +kernel
theorem d_SF_load_29 : decode b_SF_load 29 = .ok (.dup, 1) := by decide +kernel
theorem d_SF_load_30 : decode b_SF_load 30 = .ok (.ldc 146, 2) := by decide +kernel
theorem d_SF_load_32 : decode b_SF_load 32 = .ok (.invokespecial 38, 3) := by decide +kernel
theorem d_SF_load_35 : decode b_SF_load 35 = .ok (.athrow, 1) := by decide +kernel
theorem d_SF_load_36 : decode b_SF_load 36 = .ok (.aload_n 0, 1) := by decide +kernel
theorem d_SF_load_37 : decode b_SF_load 37 = .ok (.getfield 24, 3) := by decide +kernel
theorem d_SF_load_40 : decode b_SF_load 40 = .ok (.invokevirtual 56, 3) := by decide +kernel
theorem d_SF_load_43 : decode b_SF_load 43 = .ok (.ireturn, 1) := by decide +kernel
theorem d_SF_open_0 : decode b_SF_open 0 = .ok (.aload_n 0, 1) := by decide +kernel
theorem d_SF_open_1 : decode b_SF_open 1 = .ok (.getfield 14, 3) := by decide +kernel
theorem d_SF_open_4 : decode b_SF_open 4 = .ok (.iload_n 1, 1) := by decide +kernel
theorem d_SF_open_5 : decode b_SF_open 5 = .ok (.invokevirtual 94, 3) := by decide +kernel
theorem d_SF_open_8 : decode b_SF_open 8 = .ok (.ifCond .ne 13, 3) := by decide +kernel
theorem d_SF_open_11 : decode b_SF_open 11 = .ok (.new 34, 3) := by decide +kernel
theorem d_SF_open_14 : decode b_SF_open 14 = .ok (.dup, 1) := by decide +kernel
theorem d_SF_open_15 : decode b_SF_open 15 = .ok (.ldc 97, 2) := by decide +kernel
theorem d_SF_open_17 : decode b_SF_open 17 = .ok (.invokespecial 38, 3) := by decide +kernel
theorem d_SF_open_20 : decode b_SF_open 20 = .ok (.athrow, 1) := by decide +kernel
theorem d_SF_open_21 : decode b_SF_open 21 = .ok (.aload_n 0, 1) := by decide +kernel
theorem d_SF_open_22 : decode b_SF_open 22 = .ok (.iconst 0, 1) := by decide +kernel
theorem d_SF_open_23 : decode b_SF_open 23 = .ok (.putfield 30, 3) := by decide +kernel
theorem d_SF_open_26 : decode b_SF_open 26 = .ok (.aload_n 0, 1) := by decide +kernel
theorem d_SF_open_27 : decode b_SF_open 27 = .ok (.invokevirtual 99, 3) := by decide +kernel
theorem d_SF_open_30 : decode b_SF_open 30 = .ok (.ifCond .ne 5, 3) := by decide +kernel
theorem d_SF_open_33 : decode b_SF_open 33 = .ok (.iconst (-1), 1) := by decide +kernel
theorem d_SF_open_34 : decode b_SF_open 34 = .ok (.ireturn, 1) := by decide +kernel
theorem d_SF_open_35 : decode b_SF_open 35 = .ok (.aload_n 0, 1) := by decide +kernel
theorem d_SF_open_36 : decode b_SF_open 36 = .ok (.iload_n 1, 1) := by decide +kernel
theorem d_SF_open_37 : decode b_SF_open 37 = .ok (.invokevirtual 103, 3) := by decide +kernel
theorem d_SF_open_40 : decode b_SF_open 40 = .ok (.istore_n 2, 1) := by decide +kernel
theorem d_SF_open_41 : decode b_SF_open 41 = .ok (.iload_n 2, 1) := by decide +kernel
theorem d_SF_open_42 : decode b_SF_open 42 = .ok (.ifCond .ge 6, 3) := by decide +kernel
theorem d_SF_open_45 : decode b_SF_open 45 = .ok (.bipush (-2), 2) := by decide +kernel
theorem d_SF_open_47 : decode b_SF_open 47 = .ok (.ireturn, 1) := by decide +kernel
theorem d_SF_open_48 : decode b_SF_open 48 = .ok (.aload_n 0, 1) := by decide +kernel
theorem d_SF_open_49 : decode b_SF_open 49 = .ok (.iload_n 2, 1) := by decide +kernel
theorem d_SF_open_50 : decode b_SF_open 50 = .ok (.iload_n 1, 1) := by decide +kernel
theorem d_SF_open_51 : decode b_SF_open 51 = .ok (.invokevirtual 106, 3) := by decide +kernel
theorem d_SF_open_54 : decode b_SF_open 54 = .ok (.istore_n 3, 1) := by decide +kernel
theorem d_SF_open_55 : decode b_SF_open 55 = .ok (.aload_n 0, 1) := by decide +kernel
theorem d_SF_open_56 : decode b_SF_open 56 = .ok (.invokevirtual 109, 3) := by decide +kernel
theorem d_SF_open_59 : decode b_SF_open 59 = .ok (.istore 4, 2) := by decide +kernel
theorem d_SF_open_61 : decode b_SF_open 61 = .ok (.aload_n 0, 1) := by decide +kernel
theorem d_SF_open_62 : decode b_SF_open 62 = .ok (.getfield 24, 3) := by decide +kernel
theorem d_SF_open_65 : decode b_SF_open 65 = .ok (.iload 4, 2) := by decide +kernel
theorem d_SF_open_67 : decode b_SF_open 67 = .ok (.invokevirtual 112, 3) := by decide +kernel
theorem d_SF_open_70 : decode b_SF_open 70 = .ok (.aload_n 0, 1) := by decide +kernel
theorem d_SF_open_71 : decode b_SF_open 71 = .ok (.iload_n 3, 1) := by decide +kernel
theorem d_SF_open_72 : decode b_SF_open 72 = .ok (.iload 4, 2) := by decide +kernel
theorem d_SF_open_74 : decode b_SF_open 74 = .ok (.invokevirtual 85, 3) := by decide +kernel
theorem d_SF_open_77 : decode b_SF_open 77 = .ok (.if_icmp .eq 6, 3) := by decide +kernel
theorem d_SF_open_80 : decode b_SF_open 80 = .ok (.bipush (-3), 2) := by decide +kernel
theorem d_SF_open_82 : decode b_SF_open 82 = .ok (.ireturn, 1) := by decide +kernel
theorem d_SF_open_83 : decode b_SF_open 83 = .ok (.aload_n 0, 1) := by decide +kernel
theorem d_SF_open_84 : decode b_SF_open 84 = .ok (.iload_n 3, 1) := by decide +kernel
theorem d_SF_open_85 : decode b_SF_open 85 = .ok (.iload 4, 2) := by decide +kernel
theorem d_SF_open_87 : decode b_SF_open 87 = .ok (.iconst 2, 1) := by decide +kernel
theorem d_SF_open_88 : decode b_SF_open 88 = .ok (.iadd, 1) := by decide +kernel
theorem d_SF_open_89 : decode b_SF_open 89 = .ok (.invokevirtual 115, 3) := by decide +kernel
theorem d_SF_open_92 : decode b_SF_open 92 = .ok (.ireturn, 1) := by decide +kernel
theorem d_SF_pieceSign_0 : decode b_SF_pieceSign 0 = .ok (.iload 5, 2) := by decide +kernel
theorem d_SF_pieceSign_2 : decode b_SF_pieceSign 2 = .ok (.ifCond .eq 8, 3) := by decide +kernel
theorem d_SF_pieceSign_5 : decode b_SF_pieceSign 5 = .ok (.bipush 6, 2) := by decide +kernel
theorem d_SF_pieceSign_7 : decode b_SF_pieceSign 7 = .ok (.goto 4, 3) := by decide +kernel
theorem d_SF_pieceSign_10 : decode b_SF_pieceSign 10 = .ok (.iconst 5, 1) := by decide +kernel
theorem d_SF_pieceSign_11 : decode b_SF_pieceSign 11 = .ok (.istore 6, 2) := by decide +kernel
theorem d_SF_pieceSign_13 : decode b_SF_pieceSign 13 = .ok (.aload_n 0, 1) := by decide +kernel
theorem d_SF_pieceSign_14 : decode b_SF_pieceSign 14 = .ok (.getfield 24, 3) := by decide +kernel
theorem d_SF_pieceSign_17 : decode b_SF_pieceSign 17 = .ok (.iload_n 3, 1) := by decide +kernel
theorem d_SF_pieceSign_18 : decode b_SF_pieceSign 18 = .ok (.iload 4, 2) := by decide +kernel
theorem d_SF_pieceSign_20 : decode b_SF_pieceSign 20 = .ok (.iload_n 1, 1) := by decide +kernel
theorem d_SF_pieceSign_21 : decode b_SF_pieceSign 21 = .ok (.iload_n 2, 1) := by decide +kernel
theorem d_SF_pieceSign_22 : decode b_SF_pieceSign 22 = .ok (.iload 6, 2) := by decide +kernel
theorem d_SF_pieceSign_24 : decode b_SF_pieceSign 24 = .ok (.invokestatic 148, 3) := by decide +kernel
theorem d_SF_pieceSign_27 : decode b_SF_pieceSign 27 = .ok (.invokevirtual 155, 3) := by decide +kernel
theorem d_SF_pieceSign_30 : decode b_SF_pieceSign 30 = .ok (.ireturn, 1) := by decide +kernel
theorem d_SF_pieces_0 : decode b_SF_pieces 0 = .ok (.aload_n 0, 1) := by decide +kernel
theorem d_SF_pieces_1 : decode b_SF_pieces 1 = .ok (.getfield 30, 3) := by decide +kernel
theorem d_SF_pieces_4 : decode b_SF_pieces 4 = .ok (.ireturn, 1) := by decide +kernel
theorem d_SF_print_0 : decode b_SF_print 0 = .ok (.aload_n 0, 1) := by decide +kernel
theorem d_SF_print_1 : decode b_SF_print 1 = .ok (.getfield 24, 3) := by decide +kernel
theorem d_SF_print_4 : decode b_SF_print 4 = .ok (.invokevirtual 56, 3) := by decide +kernel
theorem d_SF_print_7 : decode b_SF_print 7 = .ok (.bipush 8, 2) := by decide +kernel
theorem d_SF_print_9 : decode b_SF_print 9 = .ok (.imul, 1) := by decide +kernel
theorem d_SF_print_10 : decode b_SF_print 10 = .ok (.iconst 5, 1) := by decide +kernel
theorem d_SF_print_11 : decode b_SF_print 11 = .ok (.iadd, 1) := by decide +kernel
theorem d_SF_print_12 : decode b_SF_print 12 = .ok (.bipush 6, 2) := by decide +kernel
theorem d_SF_print_14 : decode b_SF_print 14 = .ok (.idiv, 1) := by decide +kernel
theorem d_SF_print_15 : decode b_SF_print 15 = .ok (.istore_n 2, 1) := by decide +kernel
theorem d_SF_print_16 : decode b_SF_print 16 = .ok (.iload_n 1, 1) := by decide +kernel
theorem d_SF_print_17 : decode b_SF_print 17 = .ok (.ifCond .lt 8, 3) := by decide +kernel
theorem d_SF_print_20 : decode b_SF_print 20 = .ok (.iload_n 1, 1) := by decide +kernel
theorem d_SF_print_21 : decode b_SF_print 21 = .ok (.iload_n 2, 1) := by decide +kernel
theorem d_SF_print_22 : decode b_SF_print 22 = .ok (.if_icmp .lt 5, 3) := by decide +kernel
theorem d_SF_print_25 : decode b_SF_print 25 = .ok (.iconst (-1), 1) := by decide +kernel
theorem d_SF_print_26 : decode b_SF_print 26 = .ok (.ireturn, 1) := by decide +kernel
theorem d_SF_print_27 : decode b_SF_print 27 = .ok (.iload_n 1, 1) := by decide +kernel
theorem d_SF_print_28 : decode b_SF_print 28 = .ok (.bipush 6, 2) := by decide +kernel
theorem d_SF_print_30 : decode b_SF_print 30 = .ok (.imul, 1) := by decide +kernel
theorem d_SF_print_31 : decode b_SF_print 31 = .ok (.bipush 8, 2) := by decide +kernel
theorem d_SF_print_33 : decode b_SF_print 33 = .ok (.idiv, 1) := by decide +kernel
theorem d_SF_print_34 : decode b_SF_print 34 = .ok (.istore_n 3, 1) := by decide +kernel
theorem d_SF_print_35 : decode b_SF_print 35 = .ok (.iload_n 1, 1) := by decide +kernel
theorem d_SF_print_36 : decode b_SF_print 36 = .ok (.bipush 6, 2) := by decide +kernel
theorem d_SF_print_38 : decode b_SF_print 38 = .ok (.imul, 1) := by decide +kernel
theorem d_SF_print_39 : decode b_SF_print 39 = .ok (.bipush 8, 2) := by decide +kernel
theorem d_SF_print_41 : decode b_SF_print 41 = .ok (.irem, 1) := by decide +kernel
theorem d_SF_print_42 : decode b_SF_print 42 = .ok (.istore 4, 2) := by decide +kernel
theorem d_SF_print_44 : decode b_SF_print 44 = .ok (.aload_n 0, 1) := by decide +kernel
theorem d_SF_print_45 : decode b_SF_print 45 = .ok (.getfield 24, 3) := by decide +kernel
theorem d_SF_print_48 : decode b_SF_print 48 = .ok (.iload_n 3, 1) := by decide +kernel
theorem d_SF_print_49 : decode b_SF_print 49 = .ok (.iconst 1, 1) := by decide +kernel
theorem d_SF_print_50 : decode b_SF_print 50 = .ok (.iadd, 1) := by decide +kernel
theorem d_SF_print_51 : decode b_SF_print 51 = .ok (.invokevirtual 94, 3) := by decide +kernel
theorem d_SF_print_54 : decode b_SF_print 54 = .ok (.ifCond .eq 16, 3) := by decide +kernel
theorem d_SF_print_57 : decode b_SF_print 57 = .ok (.aload_n 0, 1) := by decide +kernel
theorem d_SF_print_58 : decode b_SF_print 58 = .ok (.getfield 24, 3) := by decide +kernel
theorem d_SF_print_61 : decode b_SF_print 61 = .ok (.iload_n 3, 1) := by decide +kernel
theorem d_SF_print_62 : decode b_SF_print 62 = .ok (.iconst 1, 1) := by decide +kernel
theorem d_SF_print_63 : decode b_SF_print 63 = .ok (.iadd, 1) := by decide +kernel
theorem d_SF_print_64 : decode b_SF_print 64 = .ok (.invokevirtual 60, 3) := by decide +kernel
theorem d_SF_print_67 : decode b_SF_print 67 = .ok (.goto 4, 3) := by decide +kernel
theorem d_SF_print_70 : decode b_SF_print 70 = .ok (.iconst 0, 1) := by decide +kernel
theorem d_SF_print_71 : decode b_SF_print 71 = .ok (.istore 5, 2) := by decide +kernel
theorem d_SF_print_73 : decode b_SF_print 73 = .ok (.aload_n 0, 1) := by decide +kernel
theorem d_SF_print_74 : decode b_SF_print 74 = .ok (.getfield 24, 3) := by decide +kernel
theorem d_SF_print_77 : decode b_SF_print 77 = .ok (.iload_n 3, 1) := by decide +kernel
theorem d_SF_print_78 : decode b_SF_print 78 = .ok (.invokevirtual 60, 3) := by decide +kernel
theorem d_SF_print_81 : decode b_SF_print 81 = .ok (.bipush 8, 2) := by decide +kernel
theorem d_SF_print_83 : decode b_SF_print 83 = .ok (.ishl, 1) := by decide +kernel
theorem d_SF_print_84 : decode b_SF_print 84 = .ok (.iload 5, 2) := by decide +kernel
theorem d_SF_print_86 : decode b_SF_print 86 = .ok (.ior, 1) := by decide +kernel
theorem d_SF_print_87 : decode b_SF_print 87 = .ok (.istore 6, 2) := by decide +kernel
theorem d_SF_print_89 : decode b_SF_print 89 = .ok (.ldc 129, 2) := by decide +kernel
theorem d_SF_print_91 : decode b_SF_print 91 = .ok (.iload 6, 2) := by decide +kernel
theorem d_SF_print_93 : decode b_SF_print 93 = .ok (.bipush 10, 2) := by decide +kernel
theorem d_SF_print_95 : decode b_SF_print 95 = .ok (.iload 4, 2) := by decide +kernel
theorem d_SF_print_97 : decode b_SF_print 97 = .ok (.isub, 1) := by decide +kernel
theorem d_SF_print_98 : decode b_SF_print 98 = .ok (.iushr, 1) := by decide +kernel
theorem d_SF_print_99 : decode b_SF_print 99 = .ok (.bipush 63, 2) := by decide +kernel
theorem d_SF_print_101 : decode b_SF_print 101 = .ok (.iand, 1) := by decide +kernel
theorem d_SF_print_102 : decode b_SF_print 102 = .ok (.invokevirtual 131, 3) := by decide +kernel
theorem d_SF_print_105 : decode b_SF_print 105 = .ok (.ireturn, 1) := by decide +kernel
theorem d_SF_put_0 : decode b_SF_put 0 = .ok (.iload_n 1, 1) := by decide +kernel
theorem d_SF_put_1 : decode b_SF_put 1 = .ok (.ifCond .lt 25, 3) := by decide +kernel
theorem d_SF_put_4 : decode b_SF_put 4 = .ok (.iload_n 1, 1) := by decide +kernel
theorem d_SF_put_5 : decode b_SF_put 5 = .ok (.sipush 255, 3) := by decide +kernel
theorem d_SF_put_8 : decode b_SF_put 8 = .ok (.if_icmp .gt 18, 3) := by decide +kernel
theorem d_SF_put_11 : decode b_SF_put 11 = .ok (.aload_n 0, 1) := by decide +kernel
theorem d_SF_put_12 : decode b_SF_put 12 = .ok (.getfield 21, 3) := by decide +kernel
theorem d_SF_put_15 : decode b_SF_put 15 = .ok (.iload_n 1, 1) := by decide +kernel
theorem d_SF_put_16 : decode b_SF_put 16 = .ok (.invokevirtual 41, 3) := by decide +kernel
theorem d_SF_put_19 : decode b_SF_put 19 = .ok (.ifCond .eq 7, 3) := by decide +kernel
theorem d_SF_put_22 : decode b_SF_put 22 = .ok (.iconst 1, 1) := by decide +kernel
theorem d_SF_put_23 : decode b_SF_put 23 = .ok (.goto 4, 3) := by decide +kernel
theorem d_SF_put_26 : decode b_SF_put 26 = .ok (.iconst 0, 1) := by decide +kernel
theorem d_SF_put_27 : decode b_SF_put 27 = .ok (.ireturn, 1) := by decide +kernel
theorem d_SF_read_0 : decode b_SF_read 0 = .ok (.aload_n 0, 1) := by decide +kernel
theorem d_SF_read_1 : decode b_SF_read 1 = .ok (.getfield 21, 3) := by decide +kernel
theorem d_SF_read_4 : decode b_SF_read 4 = .ok (.iload_n 1, 1) := by decide +kernel
theorem d_SF_read_5 : decode b_SF_read 5 = .ok (.invokevirtual 94, 3) := by decide +kernel
theorem d_SF_read_8 : decode b_SF_read 8 = .ok (.ifCond .ne 13, 3) := by decide +kernel
theorem d_SF_read_11 : decode b_SF_read 11 = .ok (.new 118, 3) := by decide +kernel
theorem d_SF_read_14 : decode b_SF_read 14 = .ok (.dup, 1) := by decide +kernel
theorem d_SF_read_15 : decode b_SF_read 15 = .ok (.ldc 120, 2) := by decide +kernel
theorem d_SF_read_17 : decode b_SF_read 17 = .ok (.invokespecial 122, 3) := by decide +kernel
theorem d_SF_read_20 : decode b_SF_read 20 = .ok (.athrow, 1) := by decide +kernel
theorem d_SF_read_21 : decode b_SF_read 21 = .ok (.aload_n 0, 1) := by decide +kernel
theorem d_SF_read_22 : decode b_SF_read 22 = .ok (.getfield 21, 3) := by decide +kernel
theorem d_SF_read_25 : decode b_SF_read 25 = .ok (.iload_n 1, 1) := by decide +kernel
theorem d_SF_read_26 : decode b_SF_read 26 = .ok (.invokevirtual 60, 3) := by decide +kernel
theorem d_SF_read_29 : decode b_SF_read 29 = .ok (.ireturn, 1) := by decide +kernel
theorem d_SF_seal_0 : decode b_SF_seal 0 = .ok (.aload_n 0, 1) := by decide +kernel
theorem d_SF_seal_1 : decode b_SF_seal 1 = .ok (.iload_n 1, 1) := by decide +kernel
theorem d_SF_seal_2 : decode b_SF_seal 2 = .ok (.invokevirtual 67, 3) := by decide +kernel
theorem d_SF_seal_5 : decode b_SF_seal 5 = .ok (.ifCond .ne 13, 3) := by decide +kernel
theorem d_SF_seal_8 : decode b_SF_seal 8 = .ok (.new 34, 3) := by decide +kernel
theorem d_SF_seal_11 : decode b_SF_seal 11 = .ok (.dup, 1) := by decide +kernel
theorem d_SF_seal_12 : decode b_SF_seal 12 = .ok (.ldc 70, 2) := by decide +kernel
theorem d_SF_seal_14 : decode b_SF_seal 14 = .ok (.invokespecial 38, 3) := by decide +kernel
theorem d_SF_seal_17 : decode b_SF_seal 17 = .ok (.athrow, 1) := by decide +kernel
theorem d_SF_seal_18 : decode b_SF_seal 18 = .ok (.aload_n 0, 1) := by decide +kernel
theorem d_SF_seal_19 : decode b_SF_seal 19 = .ok (.getfield 24, 3) := by decide +kernel
theorem d_SF_seal_22 : decode b_SF_seal 22 = .ok (.iconst 0, 1) := by decide +kernel
theorem d_SF_seal_23 : decode b_SF_seal 23 = .ok (.invokevirtual 64, 3) := by decide +kernel
theorem d_SF_seal_26 : decode b_SF_seal 26 = .ok (.pop, 1) := by decide +kernel
theorem d_SF_seal_27 : decode b_SF_seal 27 = .ok (.aload_n 0, 1) := by decide +kernel
theorem d_SF_seal_28 : decode b_SF_seal 28 = .ok (.getfield 24, 3) := by decide +kernel
theorem d_SF_seal_31 : decode b_SF_seal 31 = .ok (.bipush 83, 2) := by decide +kernel
theorem d_SF_seal_33 : decode b_SF_seal 33 = .ok (.invokevirtual 41, 3) := by decide +kernel
theorem d_SF_seal_36 : decode b_SF_seal 36 = .ok (.pop, 1) := by decide +kernel
theorem d_SF_seal_37 : decode b_SF_seal 37 = .ok (.aload_n 0, 1) := by decide +kernel
theorem d_SF_seal_38 : decode b_SF_seal 38 = .ok (.getfield 24, 3) := by decide +kernel
theorem d_SF_seal_41 : decode b_SF_seal 41 = .ok (.iload_n 1, 1) := by decide +kernel
theorem d_SF_seal_42 : decode b_SF_seal 42 = .ok (.invokestatic 72, 3) := by decide +kernel
theorem d_SF_seal_45 : decode b_SF_seal 45 = .ok (.invokevirtual 41, 3) := by decide +kernel
theorem d_SF_seal_48 : decode b_SF_seal 48 = .ok (.pop, 1) := by decide +kernel
theorem d_SF_seal_49 : decode b_SF_seal 49 = .ok (.iconst 0, 1) := by decide +kernel
theorem d_SF_seal_50 : decode b_SF_seal 50 = .ok (.istore 4, 2) := by decide +kernel
theorem d_SF_seal_52 : decode b_SF_seal 52 = .ok (.iload 4, 2) := by decide +kernel
theorem d_SF_seal_54 : decode b_SF_seal 54 = .ok (.aload_n 0, 1) := by decide +kernel
theorem d_SF_seal_55 : decode b_SF_seal 55 = .ok (.getfield 14, 3) := by decide +kernel
theorem d_SF_seal_58 : decode b_SF_seal 58 = .ok (.invokevirtual 56, 3) := by decide +kernel
theorem d_SF_seal_61 : decode b_SF_seal 61 = .ok (.if_icmp .ge 40, 3) := by decide +kernel
theorem d_SF_seal_64 : decode b_SF_seal 64 = .ok (.iload_n 1, 1) := by decide +kernel
theorem d_SF_seal_65 : decode b_SF_seal 65 = .ok (.iload 4, 2) := by decide +kernel
theorem d_SF_seal_67 : decode b_SF_seal 67 = .ok (.iushr, 1) := by decide +kernel
theorem d_SF_seal_68 : decode b_SF_seal 68 = .ok (.iconst 1, 1) := by decide +kernel
theorem d_SF_seal_69 : decode b_SF_seal 69 = .ok (.iand, 1) := by decide +kernel
theorem d_SF_seal_70 : decode b_SF_seal 70 = .ok (.iconst 1, 1) := by decide +kernel
theorem d_SF_seal_71 : decode b_SF_seal 71 = .ok (.if_icmp .ne 24, 3) := by decide +kernel
theorem d_SF_seal_74 : decode b_SF_seal 74 = .ok (.aload_n 0, 1) := by decide +kernel
theorem d_SF_seal_75 : decode b_SF_seal 75 = .ok (.aload_n 0, 1) := by decide +kernel
theorem d_SF_seal_76 : decode b_SF_seal 76 = .ok (.getfield 18, 3) := by decide +kernel
theorem d_SF_seal_79 : decode b_SF_seal 79 = .ok (.iload 4, 2) := by decide +kernel
theorem d_SF_seal_81 : decode b_SF_seal 81 = .ok (.invokevirtual 60, 3) := by decide +kernel
theorem d_SF_seal_84 : decode b_SF_seal 84 = .ok (.iload_n 2, 1) := by decide +kernel
theorem d_SF_seal_85 : decode b_SF_seal 85 = .ok (.iload_n 2, 1) := by decide +kernel
theorem d_SF_seal_86 : decode b_SF_seal 86 = .ok (.iload_n 3, 1) := by decide +kernel
theorem d_SF_seal_87 : decode b_SF_seal 87 = .ok (.iload 4, 2) := by decide +kernel
theorem d_SF_seal_89 : decode b_SF_seal 89 = .ok (.invokestatic 77, 3) := by decide +kernel
theorem d_SF_seal_92 : decode b_SF_seal 92 = .ok (.invokevirtual 81, 3) := by decide +kernel
theorem d_SF_seal_95 : decode b_SF_seal 95 = .ok (.iinc 4 1, 3) := by decide +kernel
theorem d_SF_seal_98 : decode b_SF_seal 98 = .ok (.goto (-46), 3) := by decide +kernel
theorem d_SF_seal_101 : decode b_SF_seal 101 = .ok (.aload_n 0, 1) := by decide +kernel
theorem d_SF_seal_102 : decode b_SF_seal 102 = .ok (.getfield 24, 3) := by decide +kernel
theorem d_SF_seal_105 : decode b_SF_seal 105 = .ok (.aload_n 0, 1) := by decide +kernel
theorem d_SF_seal_106 : decode b_SF_seal 106 = .ok (.iload_n 2, 1) := by decide +kernel
theorem d_SF_seal_107 : decode b_SF_seal 107 = .ok (.aload_n 0, 1) := by decide +kernel
theorem d_SF_seal_108 : decode b_SF_seal 108 = .ok (.getfield 24, 3) := by decide +kernel
theorem d_SF_seal_111 : decode b_SF_seal 111 = .ok (.invokevirtual 56, 3) := by decide +kernel
theorem d_SF_seal_114 : decode b_SF_seal 114 = .ok (.invokevirtual 85, 3) := by decide +kernel
theorem d_SF_seal_117 : decode b_SF_seal 117 = .ok (.invokevirtual 88, 3) := by decide +kernel
theorem d_SF_seal_120 : decode b_SF_seal 120 = .ok (.aload_n 0, 1) := by decide +kernel
theorem d_SF_seal_121 : decode b_SF_seal 121 = .ok (.iload_n 2, 1) := by decide +kernel
theorem d_SF_seal_122 : decode b_SF_seal 122 = .ok (.invokevirtual 91, 3) := by decide +kernel
theorem d_SF_seal_125 : decode b_SF_seal 125 = .ok (.aload_n 0, 1) := by decide +kernel
theorem d_SF_seal_126 : decode b_SF_seal 126 = .ok (.getfield 24, 3) := by decide +kernel
theorem d_SF_seal_129 : decode b_SF_seal 129 = .ok (.invokevirtual 56, 3) := by decide +kernel
theorem d_SF_seal_132 : decode b_SF_seal 132 = .ok (.ireturn, 1) := by decide +kernel
theorem d_SF_takeDraft_0 : decode b_SF_takeDraft 0 = .ok (.aload_n 0, 1) := by decide +kernel
theorem d_SF_takeDraft_1 : decode b_SF_takeDraft 1 = .ok (.getfield 24, 3) := by decide +kernel
theorem d_SF_takeDraft_4 : decode b_SF_takeDraft 4 = .ok (.iconst 0, 1) := by decide +kernel
theorem d_SF_takeDraft_5 : decode b_SF_takeDraft 5 = .ok (.invokevirtual 64, 3) := by decide +kernel
theorem d_SF_takeDraft_8 : decode b_SF_takeDraft 8 = .ok (.pop, 1) := by decide +kernel
theorem d_SF_takeDraft_9 : decode b_SF_takeDraft 9 = .ok (.aload_n 0, 1) := by decide +kernel
theorem d_SF_takeDraft_10 : decode b_SF_takeDraft 10 = .ok (.invokevirtual 181, 3) := by decide +kernel
theorem d_SF_takeDraft_13 : decode b_SF_takeDraft 13 = .ok (.istore_n 1, 1) := by decide +kernel
theorem d_SF_takeDraft_14 : decode b_SF_takeDraft 14 = .ok (.iconst 0, 1) := by decide +kernel
theorem d_SF_takeDraft_15 : decode b_SF_takeDraft 15 = .ok (.istore_n 2, 1) := by decide +kernel
theorem d_SF_takeDraft_16 : decode b_SF_takeDraft 16 = .ok (.iload_n 2, 1) := by decide +kernel
theorem d_SF_takeDraft_17 : decode b_SF_takeDraft 17 = .ok (.iload_n 1, 1) := by decide +kernel
theorem d_SF_takeDraft_18 : decode b_SF_takeDraft 18 = .ok (.if_icmp .ge 69, 3) := by decide +kernel
theorem d_SF_takeDraft_21 : decode b_SF_takeDraft 21 = .ok (.iload_n 2, 1) := by decide +kernel
theorem d_SF_takeDraft_22 : decode b_SF_takeDraft 22 = .ok (.bipush 8, 2) := by decide +kernel
theorem d_SF_takeDraft_24 : decode b_SF_takeDraft 24 = .ok (.imul, 1) := by decide +kernel
theorem d_SF_takeDraft_25 : decode b_SF_takeDraft 25 = .ok (.bipush 6, 2) := by decide +kernel
theorem d_SF_takeDraft_27 : decode b_SF_takeDraft 27 = .ok (.idiv, 1) := by decide +kernel
theorem d_SF_takeDraft_28 : decode b_SF_takeDraft 28 = .ok (.istore_n 3, 1) := by decide +kernel
theorem d_SF_takeDraft_29 : decode b_SF_takeDraft 29 = .ok (.iload_n 2, 1) := by decide +kernel
theorem d_SF_takeDraft_30 : decode b_SF_takeDraft 30 = .ok (.bipush 8, 2) := by decide +kernel
theorem d_SF_takeDraft_32 : decode b_SF_takeDraft 32 = .ok (.imul, 1) := by decide +kernel
theorem d_SF_takeDraft_33 : decode b_SF_takeDraft 33 = .ok (.bipush 6, 2) := by decide +kernel
theorem d_SF_takeDraft_35 : decode b_SF_takeDraft 35 = .ok (.irem, 1) := by decide +kernel
theorem d_SF_takeDraft_36 : decode b_SF_takeDraft 36 = .ok (.istore 4, 2) := by decide +kernel
theorem d_SF_takeDraft_38 : decode b_SF_takeDraft 38 = .ok (.aload_n 0, 1) := by decide +kernel
theorem d_SF_takeDraft_39 : decode b_SF_takeDraft 39 = .ok (.getfield 27, 3) := by decide +kernel
theorem d_SF_takeDraft_42 : decode b_SF_takeDraft 42 = .ok (.iload_n 3, 1) := by decide +kernel
theorem d_SF_takeDraft_43 : decode b_SF_takeDraft 43 = .ok (.invokevirtual 60, 3) := by decide +kernel
theorem d_SF_takeDraft_46 : decode b_SF_takeDraft 46 = .ok (.bipush 6, 2) := by decide +kernel
theorem d_SF_takeDraft_48 : decode b_SF_takeDraft 48 = .ok (.ishl, 1) := by decide +kernel
theorem d_SF_takeDraft_49 : decode b_SF_takeDraft 49 = .ok (.aload_n 0, 1) := by decide +kernel
theorem d_SF_takeDraft_50 : decode b_SF_takeDraft 50 = .ok (.getfield 27, 3) := by decide +kernel
theorem d_SF_takeDraft_53 : decode b_SF_takeDraft 53 = .ok (.iload_n 3, 1) := by decide +kernel
theorem d_SF_takeDraft_54 : decode b_SF_takeDraft 54 = .ok (.iconst 1, 1) := by decide +kernel
theorem d_SF_takeDraft_55 : decode b_SF_takeDraft 55 = .ok (.iadd, 1) := by decide +kernel
theorem d_SF_takeDraft_56 : decode b_SF_takeDraft 56 = .ok (.invokevirtual 60, 3) := by decide +kernel
theorem d_SF_takeDraft_59 : decode b_SF_takeDraft 59 = .ok (.ior, 1) := by decide +kernel
theorem d_SF_takeDraft_60 : decode b_SF_takeDraft 60 = .ok (.istore 5, 2) := by decide +kernel
theorem d_SF_takeDraft_62 : decode b_SF_takeDraft 62 = .ok (.aload_n 0, 1) := by decide +kernel
theorem d_SF_takeDraft_63 : decode b_SF_takeDraft 63 = .ok (.getfield 24, 3) := by decide +kernel
theorem d_SF_takeDraft_66 : decode b_SF_takeDraft 66 = .ok (.iload 5, 2) := by decide +kernel
theorem d_SF_takeDraft_68 : decode b_SF_takeDraft 68 = .ok (.iconst 4, 1) := by decide +kernel
theorem d_SF_takeDraft_69 : decode b_SF_takeDraft 69 = .ok (.iload 4, 2) := by decide +kernel
theorem d_SF_takeDraft_71 : decode b_SF_takeDraft 71 = .ok (.isub, 1) := by decide +kernel
theorem d_SF_takeDraft_72 : decode b_SF_takeDraft 72 = .ok (.iushr, 1) := by decide +kernel
theorem d_SF_takeDraft_73 : decode b_SF_takeDraft 73 = .ok (.sipush 255, 3) := by decide +kernel
theorem d_SF_takeDraft_76 : decode b_SF_takeDraft 76 = .ok (.iand, 1) := by decide +kernel
theorem d_SF_takeDraft_77 : decode b_SF_takeDraft 77 = .ok (.invokevirtual 41, 3) := by decide +kernel
theorem d_SF_takeDraft_80 : decode b_SF_takeDraft 80 = .ok (.pop, 1) := by decide +kernel
theorem d_SF_takeDraft_81 : decode b_SF_takeDraft 81 = .ok (.iinc 2 1, 3) := by decide +kernel
theorem d_SF_takeDraft_84 : decode b_SF_takeDraft 84 = .ok (.goto (-68), 3) := by decide +kernel
theorem d_SF_takeDraft_87 : decode b_SF_takeDraft 87 = .ok (.return_, 1) := by decide +kernel
theorem d_SF_takePieces_0 : decode b_SF_takePieces 0 = .ok (.aload_n 0, 1) := by decide +kernel
theorem d_SF_takePieces_1 : decode b_SF_takePieces 1 = .ok (.getfield 21, 3) := by decide +kernel
theorem d_SF_takePieces_4 : decode b_SF_takePieces 4 = .ok (.iconst 0, 1) := by decide +kernel
theorem d_SF_takePieces_5 : decode b_SF_takePieces 5 = .ok (.invokevirtual 64, 3) := by decide +kernel
theorem d_SF_takePieces_8 : decode b_SF_takePieces 8 = .ok (.pop, 1) := by decide +kernel
theorem d_SF_takePieces_9 : decode b_SF_takePieces 9 = .ok (.bipush 10, 2) := by decide +kernel
theorem d_SF_takePieces_11 : decode b_SF_takePieces 11 = .ok (.istore_n 3, 1) := by decide +kernel
theorem d_SF_takePieces_12 : decode b_SF_takePieces 12 = .ok (.aload_n 0, 1) := by decide +kernel
theorem d_SF_takePieces_13 : decode b_SF_takePieces 13 = .ok (.getfield 24, 3) := by decide +kernel
theorem d_SF_takePieces_16 : decode b_SF_takePieces 16 = .ok (.invokevirtual 56, 3) := by decide +kernel
theorem d_SF_takePieces_19 : decode b_SF_takePieces 19 = .ok (.iload_n 2, 1) := by decide +kernel
theorem d_SF_takePieces_20 : decode b_SF_takePieces 20 = .ok (.isub, 1) := by decide +kernel
theorem d_SF_takePieces_21 : decode b_SF_takePieces 21 = .ok (.iconst 1, 1) := by decide +kernel
theorem d_SF_takePieces_22 : decode b_SF_takePieces 22 = .ok (.isub, 1) := by decide +kernel
theorem d_SF_takePieces_23 : decode b_SF_takePieces 23 = .ok (.iload_n 3, 1) := by decide +kernel
theorem d_SF_takePieces_24 : decode b_SF_takePieces 24 = .ok (.idiv, 1) := by decide +kernel
theorem d_SF_takePieces_25 : decode b_SF_takePieces 25 = .ok (.istore 4, 2) := by decide +kernel
theorem d_SF_takePieces_27 : decode b_SF_takePieces 27 = .ok (.iconst 0, 1) := by decide +kernel
theorem d_SF_takePieces_28 : decode b_SF_takePieces 28 = .ok (.istore 5, 2) := by decide +kernel
theorem d_SF_takePieces_30 : decode b_SF_takePieces 30 = .ok (.iload 5, 2) := by decide +kernel
theorem d_SF_takePieces_32 : decode b_SF_takePieces 32 = .ok (.iload 4, 2) := by decide +kernel
theorem d_SF_takePieces_34 : decode b_SF_takePieces 34 = .ok (.if_icmp .gt 149, 3) := by decide +kernel
theorem d_SF_takePieces_37 : decode b_SF_takePieces 37 = .ok (.iload 5, 2) := by decide +kernel
theorem d_SF_takePieces_39 : decode b_SF_takePieces 39 = .ok (.iload 4, 2) := by decide +kernel
theorem d_SF_takePieces_41 : decode b_SF_takePieces 41 = .ok (.if_icmp .ne 7, 3) := by decide +kernel
theorem d_SF_takePieces_44 : decode b_SF_takePieces 44 = .ok (.iconst 1, 1) := by decide +kernel
theorem d_SF_takePieces_45 : decode b_SF_takePieces 45 = .ok (.goto 4, 3) := by decide +kernel
theorem d_SF_takePieces_48 : decode b_SF_takePieces 48 = .ok (.iconst 0, 1) := by decide +kernel
theorem d_SF_takePieces_49 : decode b_SF_takePieces 49 = .ok (.istore 6, 2) := by decide +kernel
theorem d_SF_takePieces_51 : decode b_SF_takePieces 51 = .ok (.iload_n 2, 1) := by decide +kernel
theorem d_SF_takePieces_52 : decode b_SF_takePieces 52 = .ok (.iload 5, 2) := by decide +kernel
theorem d_SF_takePieces_54 : decode b_SF_takePieces 54 = .ok (.iload_n 3, 1) := by decide +kernel
theorem d_SF_takePieces_55 : decode b_SF_takePieces 55 = .ok (.imul, 1) := by decide +kernel
theorem d_SF_takePieces_56 : decode b_SF_takePieces 56 = .ok (.iadd, 1) := by decide +kernel
theorem d_SF_takePieces_57 : decode b_SF_takePieces 57 = .ok (.istore 7, 2) := by decide +kernel
theorem d_SF_takePieces_59 : decode b_SF_takePieces 59 = .ok (.iload 6, 2) := by decide +kernel
theorem d_SF_takePieces_61 : decode b_SF_takePieces 61 = .ok (.ifCond .eq 15, 3) := by decide +kernel
theorem d_SF_takePieces_64 : decode b_SF_takePieces 64 = .ok (.aload_n 0, 1) := by decide +kernel
theorem d_SF_takePieces_65 : decode b_SF_takePieces 65 = .ok (.getfield 24, 3) := by decide +kernel
theorem d_SF_takePieces_68 : decode b_SF_takePieces 68 = .ok (.invokevirtual 56, 3) := by decide +kernel
theorem d_SF_takePieces_71 : decode b_SF_takePieces 71 = .ok (.iconst 2, 1) := by decide +kernel
theorem d_SF_takePieces_72 : decode b_SF_takePieces 72 = .ok (.isub, 1) := by decide +kernel
theorem d_SF_takePieces_73 : decode b_SF_takePieces 73 = .ok (.goto 8, 3) := by decide +kernel
theorem d_SF_takePieces_76 : decode b_SF_takePieces 76 = .ok (.iload 7, 2) := by decide +kernel
theorem d_SF_takePieces_78 : decode b_SF_takePieces 78 = .ok (.bipush 8, 2) := by decide +kernel
theorem d_SF_takePieces_80 : decode b_SF_takePieces 80 = .ok (.iadd, 1) := by decide +kernel
theorem d_SF_takePieces_81 : decode b_SF_takePieces 81 = .ok (.istore 8, 2) := by decide +kernel
theorem d_SF_takePieces_83 : decode b_SF_takePieces 83 = .ok (.iload 8, 2) := by decide +kernel
theorem d_SF_takePieces_85 : decode b_SF_takePieces 85 = .ok (.iload 7, 2) := by decide +kernel
theorem d_SF_takePieces_87 : decode b_SF_takePieces 87 = .ok (.if_icmp .ge 6, 3) := by decide +kernel
theorem d_SF_takePieces_90 : decode b_SF_takePieces 90 = .ok (.bipush (-4), 2) := by decide +kernel
theorem d_SF_takePieces_92 : decode b_SF_takePieces 92 = .ok (.ireturn, 1) := by decide +kernel
theorem d_SF_takePieces_93 : decode b_SF_takePieces 93 = .ok (.aload_n 0, 1) := by decide +kernel
theorem d_SF_takePieces_94 : decode b_SF_takePieces 94 = .ok (.getfield 24, 3) := by decide +kernel
theorem d_SF_takePieces_97 : decode b_SF_takePieces 97 = .ok (.iload 8, 2) := by decide +kernel
theorem d_SF_takePieces_99 : decode b_SF_takePieces 99 = .ok (.invokevirtual 112, 3) := by decide +kernel
theorem d_SF_takePieces_102 : decode b_SF_takePieces 102 = .ok (.istore 9, 2) := by decide +kernel
theorem d_SF_takePieces_104 : decode b_SF_takePieces 104 = .ok (.iload 9, 2) := by decide +kernel
theorem d_SF_takePieces_106 : decode b_SF_takePieces 106 = .ok (.aload_n 0, 1) := by decide +kernel
theorem d_SF_takePieces_107 : decode b_SF_takePieces 107 = .ok (.iload_n 1, 1) := by decide +kernel
theorem d_SF_takePieces_108 : decode b_SF_takePieces 108 = .ok (.iload 5, 2) := by decide +kernel
theorem d_SF_takePieces_110 : decode b_SF_takePieces 110 = .ok (.iload 7, 2) := by decide +kernel
theorem d_SF_takePieces_112 : decode b_SF_takePieces 112 = .ok (.iload 8, 2) := by decide +kernel
theorem d_SF_takePieces_114 : decode b_SF_takePieces 114 = .ok (.iload 6, 2) := by decide +kernel
theorem d_SF_takePieces_116 : decode b_SF_takePieces 116 = .ok (.invokevirtual 170, 3) := by decide +kernel
theorem d_SF_takePieces_119 : decode b_SF_takePieces 119 = .ok (.if_icmp .eq 37, 3) := by decide +kernel
theorem d_SF_takePieces_122 : decode b_SF_takePieces 122 = .ok (.iload 9, 2) := by decide +kernel
theorem d_SF_takePieces_124 : decode b_SF_takePieces 124 = .ok (.aload_n 0, 1) := by decide +kernel
theorem d_SF_takePieces_125 : decode b_SF_takePieces 125 = .ok (.iload_n 1, 1) := by decide +kernel
theorem d_SF_takePieces_126 : decode b_SF_takePieces 126 = .ok (.iload 5, 2) := by decide +kernel
theorem d_SF_takePieces_128 : decode b_SF_takePieces 128 = .ok (.iload 7, 2) := by decide +kernel
theorem d_SF_takePieces_130 : decode b_SF_takePieces 130 = .ok (.iload 8, 2) := by decide +kernel
theorem d_SF_takePieces_132 : decode b_SF_takePieces 132 = .ok (.iload 6, 2) := by decide +kernel
theorem d_SF_takePieces_134 : decode b_SF_takePieces 134 = .ok (.ifCond .ne 7, 3) := by decide +kernel
theorem d_SF_takePieces_137 : decode b_SF_takePieces 137 = .ok (.iconst 1, 1) := by decide +kernel
theorem d_SF_takePieces_138 : decode b_SF_takePieces 138 = .ok (.goto 4, 3) := by decide +kernel
theorem d_SF_takePieces_141 : decode b_SF_takePieces 141 = .ok (.iconst 0, 1) := by decide +kernel
theorem d_SF_takePieces_142 : decode b_SF_takePieces 142 = .ok (.invokevirtual 170, 3) := by decide +kernel
theorem d_SF_takePieces_145 : decode b_SF_takePieces 145 = .ok (.if_icmp .ne 8, 3) := by decide +kernel
theorem d_SF_takePieces_148 : decode b_SF_takePieces 148 = .ok (.bipush (-5), 2) := by decide +kernel
theorem d_SF_takePieces_150 : decode b_SF_takePieces 150 = .ok (.goto 5, 3) := by decide +kernel
theorem d_SF_takePieces_153 : decode b_SF_takePieces 153 = .ok (.bipush (-4), 2) := by decide +kernel
theorem d_SF_takePieces_155 : decode b_SF_takePieces 155 = .ok (.ireturn, 1) := by decide +kernel
theorem d_SF_takePieces_156 : decode b_SF_takePieces 156 = .ok (.aload_n 0, 1) := by decide +kernel
theorem d_SF_takePieces_157 : decode b_SF_takePieces 157 = .ok (.iload_n 1, 1) := by decide +kernel
theorem d_SF_takePieces_158 : decode b_SF_takePieces 158 = .ok (.iload 5, 2) := by decide +kernel
theorem d_SF_takePieces_160 : decode b_SF_takePieces 160 = .ok (.iload 7, 2) := by decide +kernel
theorem d_SF_takePieces_162 : decode b_SF_takePieces 162 = .ok (.iload 8, 2) := by decide +kernel
theorem d_SF_takePieces_164 : decode b_SF_takePieces 164 = .ok (.invokevirtual 177, 3) := by decide +kernel
theorem d_SF_takePieces_167 : decode b_SF_takePieces 167 = .ok (.aload_n 0, 1) := by decide +kernel
theorem d_SF_takePieces_168 : decode b_SF_takePieces 168 = .ok (.dup, 1) := by decide +kernel
theorem d_SF_takePieces_169 : decode b_SF_takePieces 169 = .ok (.getfield 30, 3) := by decide +kernel
theorem d_SF_takePieces_172 : decode b_SF_takePieces 172 = .ok (.iconst 1, 1) := by decide +kernel
theorem d_SF_takePieces_173 : decode b_SF_takePieces 173 = .ok (.iadd, 1) := by decide +kernel
theorem d_SF_takePieces_174 : decode b_SF_takePieces 174 = .ok (.putfield 30, 3) := by decide +kernel
theorem d_SF_takePieces_177 : decode b_SF_takePieces 177 = .ok (.iinc 5 1, 3) := by decide +kernel
theorem d_SF_takePieces_180 : decode b_SF_takePieces 180 = .ok (.goto (-150), 3) := by decide +kernel
theorem d_SF_takePieces_183 : decode b_SF_takePieces 183 = .ok (.aload_n 0, 1) := by decide +kernel
theorem d_SF_takePieces_184 : decode b_SF_takePieces 184 = .ok (.getfield 21, 3) := by decide +kernel
theorem d_SF_takePieces_187 : decode b_SF_takePieces 187 = .ok (.invokevirtual 56, 3) := by decide +kernel
theorem d_SF_takePieces_190 : decode b_SF_takePieces 190 = .ok (.ireturn, 1) := by decide +kernel
theorem d_SF_uncover_0 : decode b_SF_uncover 0 = .ok (.iload_n 3, 1) := by decide +kernel
theorem d_SF_uncover_1 : decode b_SF_uncover 1 = .ok (.istore 5, 2) := by decide +kernel
theorem d_SF_uncover_3 : decode b_SF_uncover 3 = .ok (.iload 5, 2) := by decide +kernel
theorem d_SF_uncover_5 : decode b_SF_uncover 5 = .ok (.iload 4, 2) := by decide +kernel
theorem d_SF_uncover_7 : decode b_SF_uncover 7 = .ok (.if_icmp .ge 35, 3) := by decide +kernel
theorem d_SF_uncover_10 : decode b_SF_uncover 10 = .ok (.aload_n 0, 1) := by decide +kernel
theorem d_SF_uncover_11 : decode b_SF_uncover 11 = .ok (.getfield 21, 3) := by decide +kernel
theorem d_SF_uncover_14 : decode b_SF_uncover 14 = .ok (.aload_n 0, 1) := by decide +kernel
theorem d_SF_uncover_15 : decode b_SF_uncover 15 = .ok (.getfield 24, 3) := by decide +kernel
theorem d_SF_uncover_18 : decode b_SF_uncover 18 = .ok (.iload 5, 2) := by decide +kernel
theorem d_SF_uncover_20 : decode b_SF_uncover 20 = .ok (.invokevirtual 60, 3) := by decide +kernel
theorem d_SF_uncover_23 : decode b_SF_uncover 23 = .ok (.iload_n 1, 1) := by decide +kernel
theorem d_SF_uncover_24 : decode b_SF_uncover 24 = .ok (.iload_n 2, 1) := by decide +kernel
theorem d_SF_uncover_25 : decode b_SF_uncover 25 = .ok (.iload 5, 2) := by decide +kernel
theorem d_SF_uncover_27 : decode b_SF_uncover 27 = .ok (.iload_n 3, 1) := by decide +kernel
theorem d_SF_uncover_28 : decode b_SF_uncover 28 = .ok (.isub, 1) := by decide +kernel
theorem d_SF_uncover_29 : decode b_SF_uncover 29 = .ok (.invokestatic 166, 3) := by decide +kernel
theorem d_SF_uncover_32 : decode b_SF_uncover 32 = .ok (.invokevirtual 41, 3) := by decide +kernel
theorem d_SF_uncover_35 : decode b_SF_uncover 35 = .ok (.pop, 1) := by decide +kernel
theorem d_SF_uncover_36 : decode b_SF_uncover 36 = .ok (.iinc 5 1, 3) := by decide +kernel
theorem d_SF_uncover_39 : decode b_SF_uncover 39 = .ok (.goto (-36), 3) := by decide +kernel
theorem d_SF_uncover_42 : decode b_SF_uncover 42 = .ok (.return_, 1) := by decide +kernel
theorem d_SF_unwrapped_0 : decode b_SF_unwrapped 0 = .ok (.aload_n 0, 1) := by decide +kernel
theorem d_SF_unwrapped_1 : decode b_SF_unwrapped 1 = .ok (.getfield 24, 3) := by decide +kernel
theorem d_SF_unwrapped_4 : decode b_SF_unwrapped 4 = .ok (.iload_n 1, 1) := by decide +kernel
theorem d_SF_unwrapped_5 : decode b_SF_unwrapped 5 = .ok (.iconst 2, 1) := by decide +kernel
theorem d_SF_unwrapped_6 : decode b_SF_unwrapped 6 = .ok (.iadd, 1) := by decide +kernel
theorem d_SF_unwrapped_7 : decode b_SF_unwrapped 7 = .ok (.invokevirtual 112, 3) := by decide +kernel
theorem d_SF_unwrapped_10 : decode b_SF_unwrapped 10 = .ok (.bipush 16, 2) := by decide +kernel
theorem d_SF_unwrapped_12 : decode b_SF_unwrapped 12 = .ok (.ishl, 1) := by decide +kernel
theorem d_SF_unwrapped_13 : decode b_SF_unwrapped 13 = .ok (.aload_n 0, 1) := by decide +kernel
theorem d_SF_unwrapped_14 : decode b_SF_unwrapped 14 = .ok (.getfield 24, 3) := by decide +kernel
theorem d_SF_unwrapped_17 : decode b_SF_unwrapped 17 = .ok (.iload_n 1, 1) := by decide +kernel
theorem d_SF_unwrapped_18 : decode b_SF_unwrapped 18 = .ok (.iconst 4, 1) := by decide +kernel
theorem d_SF_unwrapped_19 : decode b_SF_unwrapped 19 = .ok (.iadd, 1) := by decide +kernel
theorem d_SF_unwrapped_20 : decode b_SF_unwrapped 20 = .ok (.invokevirtual 112, 3) := by decide +kernel
theorem d_SF_unwrapped_23 : decode b_SF_unwrapped 23 = .ok (.ior, 1) := by decide +kernel
theorem d_SF_unwrapped_24 : decode b_SF_unwrapped 24 = .ok (.istore_n 3, 1) := by decide +kernel
theorem d_SF_unwrapped_25 : decode b_SF_unwrapped 25 = .ok (.iload_n 3, 1) := by decide +kernel
theorem d_SF_unwrapped_26 : decode b_SF_unwrapped 26 = .ok (.aload_n 0, 1) := by decide +kernel
theorem d_SF_unwrapped_27 : decode b_SF_unwrapped 27 = .ok (.iload_n 1, 1) := by decide +kernel
theorem d_SF_unwrapped_28 : decode b_SF_unwrapped 28 = .ok (.iload_n 2, 1) := by decide +kernel
theorem d_SF_unwrapped_29 : decode b_SF_unwrapped 29 = .ok (.invokevirtual 174, 3) := by decide +kernel
theorem d_SF_unwrapped_32 : decode b_SF_unwrapped 32 = .ok (.aload_n 0, 1) := by decide +kernel
theorem d_SF_unwrapped_33 : decode b_SF_unwrapped 33 = .ok (.getfield 18, 3) := by decide +kernel
theorem d_SF_unwrapped_36 : decode b_SF_unwrapped 36 = .ok (.iload_n 2, 1) := by decide +kernel
theorem d_SF_unwrapped_37 : decode b_SF_unwrapped 37 = .ok (.invokevirtual 60, 3) := by decide +kernel
theorem d_SF_unwrapped_40 : decode b_SF_unwrapped 40 = .ok (.iconst 1, 1) := by decide +kernel
theorem d_SF_unwrapped_41 : decode b_SF_unwrapped 41 = .ok (.invokestatic 148, 3) := by decide +kernel
theorem d_SF_unwrapped_44 : decode b_SF_unwrapped 44 = .ok (.ixor, 1) := by decide +kernel
theorem d_SF_unwrapped_45 : decode b_SF_unwrapped 45 = .ok (.ireturn, 1) := by decide +kernel
theorem d_SF_write_0 : decode b_SF_write 0 = .ok (.ldc 129, 2) := by decide +kernel
theorem d_SF_write_2 : decode b_SF_write 2 = .ok (.iload_n 1, 1) := by decide +kernel
theorem d_SF_write_3 : decode b_SF_write 3 = .ok (.invokevirtual 137, 3) := by decide +kernel
theorem d_SF_write_6 : decode b_SF_write 6 = .ok (.istore_n 2, 1) := by decide +kernel
theorem d_SF_write_7 : decode b_SF_write 7 = .ok (.iload_n 2, 1) := by decide +kernel
theorem d_SF_write_8 : decode b_SF_write 8 = .ok (.ifCond .lt 18, 3) := by decide +kernel
theorem d_SF_write_11 : decode b_SF_write 11 = .ok (.aload_n 0, 1) := by decide +kernel
theorem d_SF_write_12 : decode b_SF_write 12 = .ok (.getfield 27, 3) := by decide +kernel
theorem d_SF_write_15 : decode b_SF_write 15 = .ok (.iload_n 2, 1) := by decide +kernel
theorem d_SF_write_16 : decode b_SF_write 16 = .ok (.invokevirtual 41, 3) := by decide +kernel
theorem d_SF_write_19 : decode b_SF_write 19 = .ok (.ifCond .eq 7, 3) := by decide +kernel
theorem d_SF_write_22 : decode b_SF_write 22 = .ok (.iconst 1, 1) := by decide +kernel
theorem d_SF_write_23 : decode b_SF_write 23 = .ok (.goto 4, 3) := by decide +kernel
theorem d_SF_write_26 : decode b_SF_write 26 = .ok (.iconst 0, 1) := by decide +kernel
theorem d_SF_write_27 : decode b_SF_write 27 = .ok (.ireturn, 1) := by decide +kernel
