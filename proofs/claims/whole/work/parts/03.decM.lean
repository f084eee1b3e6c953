theorem dX12_init_0 : decode cX12_init 0 = .ok (.aload_n 0, 1) := by decide +kernel
theorem dX12_init_1 : decode cX12_init 1 = .ok (.invokespecial 1, 3) := by decide +kernel
theorem dX12_init_4 : decode cX12_init 4 = .ok (.aload_n 0, 1) := by decide +kernel
theorem dX12_init_5 : decode cX12_init 5 = .ok (.bipush 8, 2) := by decide +kernel
theorem dX12_init_7 : decode cX12_init 7 = .ok (.newarray .int, 2) := by decide +kernel
theorem dX12_init_9 : decode cX12_init 9 = .ok (.dup, 1) := by decide +kernel
theorem dX12_init_10 : decode cX12_init 10 = .ok (.iconst 0, 1) := by decide +kernel
theorem dX12_init_11 : decode cX12_init 11 = .ok (.iconst (-1), 1) := by decide +kernel
theorem dX12_init_12 : decode cX12_init 12 = .ok (.iastore, 1) := by decide +kernel
theorem dX12_init_13 : decode cX12_init 13 = .ok (.dup, 1) := by decide +kernel
theorem dX12_init_14 : decode cX12_init 14 = .ok (.iconst 1, 1) := by decide +kernel
theorem dX12_init_15 : decode cX12_init 15 = .ok (.iconst (-1), 1) := by decide +kernel
theorem dX12_init_16 : decode cX12_init 16 = .ok (.iastore, 1) := by decide +kernel
theorem dX12_init_17 : decode cX12_init 17 = .ok (.dup, 1) := by decide +kernel
theorem dX12_init_18 : decode cX12_init 18 = .ok (.iconst 2, 1) := by decide +kernel
theorem dX12_init_19 : decode cX12_init 19 = .ok (.iconst (-1), 1) := by decide +kernel
theorem dX12_init_20 : decode cX12_init 20 = .ok (.iastore, 1) := by decide +kernel
theorem dX12_init_21 : decode cX12_init 21 = .ok (.dup, 1) := by decide +kernel
theorem dX12_init_22 : decode cX12_init 22 = .ok (.iconst 3, 1) := by decide +kernel
theorem dX12_init_23 : decode cX12_init 23 = .ok (.iconst (-1), 1) := by decide +kernel
theorem dX12_init_24 : decode cX12_init 24 = .ok (.iastore, 1) := by decide +kernel
theorem dX12_init_25 : decode cX12_init 25 = .ok (.dup, 1) := by decide +kernel
theorem dX12_init_26 : decode cX12_init 26 = .ok (.iconst 4, 1) := by decide +kernel
theorem dX12_init_27 : decode cX12_init 27 = .ok (.iconst (-1), 1) := by decide +kernel
theorem dX12_init_28 : decode cX12_init 28 = .ok (.iastore, 1) := by decide +kernel
theorem dX12_init_29 : decode cX12_init 29 = .ok (.dup, 1) := by decide +kernel
theorem dX12_init_30 : decode cX12_init 30 = .ok (.iconst 5, 1) := by decide +kernel
theorem dX12_init_31 : decode cX12_init 31 = .ok (.iconst (-1), 1) := by decide +kernel
theorem dX12_init_32 : decode cX12_init 32 = .ok (.iastore, 1) := by decide +kernel
theorem dX12_init_33 : decode cX12_init 33 = .ok (.dup, 1) := by decide +kernel
theorem dX12_init_34 : decode cX12_init 34 = .ok (.bipush 6, 2) := by decide +kernel
theorem dX12_init_36 : decode cX12_init 36 = .ok (.iconst (-1), 1) := by decide +kernel
theorem dX12_init_37 : decode cX12_init 37 = .ok (.iastore, 1) := by decide +kernel
theorem dX12_init_38 : decode cX12_init 38 = .ok (.dup, 1) := by decide +kernel
theorem dX12_init_39 : decode cX12_init 39 = .ok (.bipush 7, 2) := by decide +kernel
theorem dX12_init_41 : decode cX12_init 41 = .ok (.iconst (-1), 1) := by decide +kernel
theorem dX12_init_42 : decode cX12_init 42 = .ok (.iastore, 1) := by decide +kernel
theorem dX12_init_43 : decode cX12_init 43 = .ok (.putfield 7, 3) := by decide +kernel
theorem dX12_init_46 : decode cX12_init 46 = .ok (.aload_n 0, 1) := by decide +kernel
theorem dX12_init_47 : decode cX12_init 47 = .ok (.bipush 8, 2) := by decide +kernel
theorem dX12_init_49 : decode cX12_init 49 = .ok (.newarray .int, 2) := by decide +kernel
theorem dX12_init_51 : decode cX12_init 51 = .ok (.putfield 13, 3) := by decide +kernel
theorem dX12_init_54 : decode cX12_init 54 = .ok (.aload_n 0, 1) := by decide +kernel
theorem dX12_init_55 : decode cX12_init 55 = .ok (.sipush 320, 3) := by decide +kernel
theorem dX12_init_58 : decode cX12_init 58 = .ok (.newarray .int, 2) := by decide +kernel
theorem dX12_init_60 : decode cX12_init 60 = .ok (.putfield 16, 3) := by decide +kernel
theorem dX12_init_63 : decode cX12_init 63 = .ok (.aload_n 0, 1) := by decide +kernel
theorem dX12_init_64 : decode cX12_init 64 = .ok (.bipush 95, 2) := by decide +kernel
theorem dX12_init_66 : decode cX12_init 66 = .ok (.newarray .int, 2) := by decide +kernel
theorem dX12_init_68 : decode cX12_init 68 = .ok (.putfield 19, 3) := by decide +kernel
theorem dX12_init_71 : decode cX12_init 71 = .ok (.aload_n 0, 1) := by decide +kernel
theorem dX12_init_72 : decode cX12_init 72 = .ok (.bipush 95, 2) := by decide +kernel
theorem dX12_init_74 : decode cX12_init 74 = .ok (.newarray .int, 2) := by decide +kernel
theorem dX12_init_76 : decode cX12_init 76 = .ok (.putfield 22, 3) := by decide +kernel
theorem dX12_init_79 : decode cX12_init 79 = .ok (.aload_n 0, 1) := by decide +kernel
theorem dX12_init_80 : decode cX12_init 80 = .ok (.bipush 95, 2) := by decide +kernel
theorem dX12_init_82 : decode cX12_init 82 = .ok (.newarray .int, 2) := by decide +kernel
theorem dX12_init_84 : decode cX12_init 84 = .ok (.putfield 25, 3) := by decide +kernel
theorem dX12_init_87 : decode cX12_init 87 = .ok (.aload_n 0, 1) := by decide +kernel
theorem dX12_init_88 : decode cX12_init 88 = .ok (.sipush 2280, 3) := by decide +kernel
theorem dX12_init_91 : decode cX12_init 91 = .ok (.newarray .int, 2) := by decide +kernel
theorem dX12_init_93 : decode cX12_init 93 = .ok (.putfield 28, 3) := by decide +kernel
theorem dX12_init_96 : decode cX12_init 96 = .ok (.aload_n 0, 1) := by decide +kernel
theorem dX12_init_97 : decode cX12_init 97 = .ok (.bipush 120, 2) := by decide +kernel
theorem dX12_init_99 : decode cX12_init 99 = .ok (.newarray .int, 2) := by decide +kernel
theorem dX12_init_101 : decode cX12_init 101 = .ok (.putfield 31, 3) := by decide +kernel
theorem dX12_init_104 : decode cX12_init 104 = .ok (.aload_n 0, 1) := by decide +kernel
theorem dX12_init_105 : decode cX12_init 105 = .ok (.iconst 2, 1) := by decide +kernel
theorem dX12_init_106 : decode cX12_init 106 = .ok (.newarray .boolean, 2) := by decide +kernel
theorem dX12_init_108 : decode cX12_init 108 = .ok (.putfield 34, 3) := by decide +kernel
theorem dX12_init_111 : decode cX12_init 111 = .ok (.aload_n 0, 1) := by decide +kernel
theorem dX12_init_112 : decode cX12_init 112 = .ok (.sipush 190, 3) := by decide +kernel
theorem dX12_init_115 : decode cX12_init 115 = .ok (.newarray .int, 2) := by decide +kernel
theorem dX12_init_117 : decode cX12_init 117 = .ok (.putfield 38, 3) := by decide +kernel
theorem dX12_init_120 : decode cX12_init 120 = .ok (.aload_n 0, 1) := by decide +kernel
theorem dX12_init_121 : decode cX12_init 121 = .ok (.bipush 16, 2) := by decide +kernel
theorem dX12_init_123 : decode cX12_init 123 = .ok (.newarray .int, 2) := by decide +kernel
theorem dX12_init_125 : decode cX12_init 125 = .ok (.putfield 41, 3) := by decide +kernel
theorem dX12_init_128 : decode cX12_init 128 = .ok (.return_, 1) := by decide +kernel
theorem dX12_in_0 : decode cX12_in 0 = .ok (.lload_n 0, 1) := by decide +kernel
theorem dX12_in_1 : decode cX12_in 1 = .ok (.lload_n 2, 1) := by decide +kernel
theorem dX12_in_2 : decode cX12_in 2 = .ok (.lcmp, 1) := by decide +kernel
theorem dX12_in_3 : decode cX12_in 3 = .ok (.ifCond .lt 14, 3) := by decide +kernel
theorem dX12_in_6 : decode cX12_in 6 = .ok (.lload_n 0, 1) := by decide +kernel
theorem dX12_in_7 : decode cX12_in 7 = .ok (.lload 4, 2) := by decide +kernel
theorem dX12_in_9 : decode cX12_in 9 = .ok (.lcmp, 1) := by decide +kernel
theorem dX12_in_10 : decode cX12_in 10 = .ok (.ifCond .gt 7, 3) := by decide +kernel
theorem dX12_in_13 : decode cX12_in 13 = .ok (.iconst 1, 1) := by decide +kernel
theorem dX12_in_14 : decode cX12_in 14 = .ok (.goto 4, 3) := by decide +kernel
theorem dX12_in_17 : decode cX12_in 17 = .ok (.iconst 0, 1) := by decide +kernel
theorem dX12_in_18 : decode cX12_in 18 = .ok (.ireturn, 1) := by decide +kernel
theorem dX12_finding_0 : decode cX12_finding 0 = .ok (.aload_n 0, 1) := by decide +kernel
theorem dX12_finding_1 : decode cX12_finding 1 = .ok (.iload_n 1, 1) := by decide +kernel
theorem dX12_finding_2 : decode cX12_finding 2 = .ok (.putfield 48, 3) := by decide +kernel
theorem dX12_finding_5 : decode cX12_finding 5 = .ok (.ldc 51, 2) := by decide +kernel
theorem dX12_finding_7 : decode cX12_finding 7 = .ok (.iload_n 1, 1) := by decide +kernel
theorem dX12_finding_8 : decode cX12_finding 8 = .ok (.isub, 1) := by decide +kernel
theorem dX12_finding_9 : decode cX12_finding 9 = .ok (.ireturn, 1) := by decide +kernel
theorem dX12_isRow_0 : decode cX12_isRow 0 = .ok (.iload_n 0, 1) := by decide +kernel
theorem dX12_isRow_1 : decode cX12_isRow 1 = .ok (.i2l, 1) := by decide +kernel
theorem dX12_isRow_2 : decode cX12_isRow 2 = .ok (.lconst 0, 1) := by decide +kernel
theorem dX12_isRow_3 : decode cX12_isRow 3 = .ok (.ldc2_w 52, 3) := by decide +kernel
theorem dX12_isRow_6 : decode cX12_isRow 6 = .ok (.invokestatic 54, 3) := by decide +kernel
theorem dX12_isRow_9 : decode cX12_isRow 9 = .ok (.ireturn, 1) := by decide +kernel
theorem dX12_row_0 : decode cX12_row 0 = .ok (.aload_n 0, 1) := by decide +kernel
theorem dX12_row_1 : decode cX12_row 1 = .ok (.iconst 0, 1) := by decide +kernel
theorem dX12_row_2 : decode cX12_row 2 = .ok (.putfield 44, 3) := by decide +kernel
theorem dX12_row_5 : decode cX12_row 5 = .ok (.iload_n 1, 1) := by decide +kernel
theorem dX12_row_6 : decode cX12_row 6 = .ok (.invokestatic 58, 3) := by decide +kernel
theorem dX12_row_9 : decode cX12_row 9 = .ok (.ifCond .eq 21, 3) := by decide +kernel
theorem dX12_row_12 : decode cX12_row 12 = .ok (.iload_n 2, 1) := by decide +kernel
theorem dX12_row_13 : decode cX12_row 13 = .ok (.i2l, 1) := by decide +kernel
theorem dX12_row_14 : decode cX12_row 14 = .ok (.lconst 0, 1) := by decide +kernel
theorem dX12_row_15 : decode cX12_row 15 = .ok (.ldc2_w 62, 3) := by decide +kernel
theorem dX12_row_18 : decode cX12_row 18 = .ok (.invokestatic 54, 3) := by decide +kernel
theorem dX12_row_21 : decode cX12_row 21 = .ok (.ifCond .eq 9, 3) := by decide +kernel
theorem dX12_row_24 : decode cX12_row 24 = .ok (.iload_n 3, 1) := by decide +kernel
theorem dX12_row_25 : decode cX12_row 25 = .ok (.bipush 40, 2) := by decide +kernel
theorem dX12_row_27 : decode cX12_row 27 = .ok (.if_icmp .le 6, 3) := by decide +kernel
theorem dX12_row_30 : decode cX12_row 30 = .ok (.ldc 64, 2) := by decide +kernel
theorem dX12_row_32 : decode cX12_row 32 = .ok (.ireturn, 1) := by decide +kernel
theorem dX12_row_33 : decode cX12_row 33 = .ok (.aload_n 0, 1) := by decide +kernel
theorem dX12_row_34 : decode cX12_row 34 = .ok (.iconst 0, 1) := by decide +kernel
theorem dX12_row_35 : decode cX12_row 35 = .ok (.putfield 48, 3) := by decide +kernel
theorem dX12_row_38 : decode cX12_row 38 = .ok (.iload_n 3, 1) := by decide +kernel
theorem dX12_row_39 : decode cX12_row 39 = .ok (.ifCond .ge 9, 3) := by decide +kernel
theorem dX12_row_42 : decode cX12_row 42 = .ok (.aload_n 0, 1) := by decide +kernel
theorem dX12_row_43 : decode cX12_row 43 = .ok (.iconst 4, 1) := by decide +kernel
theorem dX12_row_44 : decode cX12_row 44 = .ok (.invokevirtual 65, 3) := by decide +kernel
theorem dX12_row_47 : decode cX12_row 47 = .ok (.ireturn, 1) := by decide +kernel
theorem dX12_row_48 : decode cX12_row 48 = .ok (.aload_n 0, 1) := by decide +kernel
theorem dX12_row_49 : decode cX12_row 49 = .ok (.getfield 7, 3) := by decide +kernel
theorem dX12_row_52 : decode cX12_row 52 = .ok (.iload_n 1, 1) := by decide +kernel
theorem dX12_row_53 : decode cX12_row 53 = .ok (.iload_n 2, 1) := by decide +kernel
theorem dX12_row_54 : decode cX12_row 54 = .ok (.iastore, 1) := by decide +kernel
theorem dX12_row_55 : decode cX12_row 55 = .ok (.aload_n 0, 1) := by decide +kernel
theorem dX12_row_56 : decode cX12_row 56 = .ok (.getfield 13, 3) := by decide +kernel
theorem dX12_row_59 : decode cX12_row 59 = .ok (.iload_n 1, 1) := by decide +kernel
theorem dX12_row_60 : decode cX12_row 60 = .ok (.iload_n 3, 1) := by decide +kernel
theorem dX12_row_61 : decode cX12_row 61 = .ok (.iastore, 1) := by decide +kernel
theorem dX12_row_62 : decode cX12_row 62 = .ok (.iconst 0, 1) := by decide +kernel
theorem dX12_row_63 : decode cX12_row 63 = .ok (.istore 4, 2) := by decide +kernel
theorem dX12_row_65 : decode cX12_row 65 = .ok (.iload 4, 2) := by decide +kernel
theorem dX12_row_67 : decode cX12_row 67 = .ok (.bipush 40, 2) := by decide +kernel
theorem dX12_row_69 : decode cX12_row 69 = .ok (.if_icmp .ge 22, 3) := by decide +kernel
theorem dX12_row_72 : decode cX12_row 72 = .ok (.aload_n 0, 1) := by decide +kernel
theorem dX12_row_73 : decode cX12_row 73 = .ok (.getfield 16, 3) := by decide +kernel
theorem dX12_row_76 : decode cX12_row 76 = .ok (.bipush 40, 2) := by decide +kernel
theorem dX12_row_78 : decode cX12_row 78 = .ok (.iload_n 1, 1) := by decide +kernel
theorem dX12_row_79 : decode cX12_row 79 = .ok (.imul, 1) := by decide +kernel
theorem dX12_row_80 : decode cX12_row 80 = .ok (.iload 4, 2) := by decide +kernel
theorem dX12_row_82 : decode cX12_row 82 = .ok (.iadd, 1) := by decide +kernel
theorem dX12_row_83 : decode cX12_row 83 = .ok (.iconst 0, 1) := by decide +kernel
theorem dX12_row_84 : decode cX12_row 84 = .ok (.iastore, 1) := by decide +kernel
theorem dX12_row_85 : decode cX12_row 85 = .ok (.iinc 4 1, 3) := by decide +kernel
theorem dX12_row_88 : decode cX12_row 88 = .ok (.goto (-23), 3) := by decide +kernel
theorem dX12_row_91 : decode cX12_row 91 = .ok (.iload_n 3, 1) := by decide +kernel
theorem dX12_row_92 : decode cX12_row 92 = .ok (.ireturn, 1) := by decide +kernel
theorem dX12_set_0 : decode cX12_set 0 = .ok (.aload_n 0, 1) := by decide +kernel
theorem dX12_set_1 : decode cX12_set 1 = .ok (.iconst 0, 1) := by decide +kernel
theorem dX12_set_2 : decode cX12_set 2 = .ok (.putfield 44, 3) := by decide +kernel
theorem dX12_set_5 : decode cX12_set 5 = .ok (.iload_n 1, 1) := by decide +kernel
theorem dX12_set_6 : decode cX12_set 6 = .ok (.invokestatic 58, 3) := by decide +kernel
theorem dX12_set_9 : decode cX12_set 9 = .ok (.ifCond .ne 6, 3) := by decide +kernel
theorem dX12_set_12 : decode cX12_set 12 = .ok (.ldc 64, 2) := by decide +kernel
theorem dX12_set_14 : decode cX12_set 14 = .ok (.ireturn, 1) := by decide +kernel
theorem dX12_set_15 : decode cX12_set 15 = .ok (.aload_n 0, 1) := by decide +kernel
theorem dX12_set_16 : decode cX12_set 16 = .ok (.iconst 0, 1) := by decide +kernel
theorem dX12_set_17 : decode cX12_set 17 = .ok (.putfield 48, 3) := by decide +kernel
theorem dX12_set_20 : decode cX12_set 20 = .ok (.aload_n 0, 1) := by decide +kernel
theorem dX12_set_21 : decode cX12_set 21 = .ok (.getfield 7, 3) := by decide +kernel
theorem dX12_set_24 : decode cX12_set 24 = .ok (.iload_n 1, 1) := by decide +kernel
theorem dX12_set_25 : decode cX12_set 25 = .ok (.iaload, 1) := by decide +kernel
theorem dX12_set_26 : decode cX12_set 26 = .ok (.ifCond .ge 9, 3) := by decide +kernel
theorem dX12_set_29 : decode cX12_set 29 = .ok (.aload_n 0, 1) := by decide +kernel
theorem dX12_set_30 : decode cX12_set 30 = .ok (.iconst 1, 1) := by decide +kernel
theorem dX12_set_31 : decode cX12_set 31 = .ok (.invokevirtual 65, 3) := by decide +kernel
theorem dX12_set_34 : decode cX12_set 34 = .ok (.ireturn, 1) := by decide +kernel
theorem dX12_set_35 : decode cX12_set 35 = .ok (.iload_n 2, 1) := by decide +kernel
theorem dX12_set_36 : decode cX12_set 36 = .ok (.i2l, 1) := by decide +kernel
theorem dX12_set_37 : decode cX12_set 37 = .ok (.lconst 0, 1) := by decide +kernel
theorem dX12_set_38 : decode cX12_set 38 = .ok (.aload_n 0, 1) := by decide +kernel
theorem dX12_set_39 : decode cX12_set 39 = .ok (.getfield 13, 3) := by decide +kernel
theorem dX12_set_42 : decode cX12_set 42 = .ok (.iload_n 1, 1) := by decide +kernel
theorem dX12_set_43 : decode cX12_set 43 = .ok (.iaload, 1) := by decide +kernel
theorem dX12_set_44 : decode cX12_set 44 = .ok (.iconst 1, 1) := by decide +kernel
theorem dX12_set_45 : decode cX12_set 45 = .ok (.isub, 1) := by decide +kernel
theorem dX12_set_46 : decode cX12_set 46 = .ok (.i2l, 1) := by decide +kernel
theorem dX12_set_47 : decode cX12_set 47 = .ok (.invokestatic 54, 3) := by decide +kernel
theorem dX12_set_50 : decode cX12_set 50 = .ok (.ifCond .ne 9, 3) := by decide +kernel
theorem dX12_set_53 : decode cX12_set 53 = .ok (.aload_n 0, 1) := by decide +kernel
theorem dX12_set_54 : decode cX12_set 54 = .ok (.iconst 2, 1) := by decide +kernel
theorem dX12_set_55 : decode cX12_set 55 = .ok (.invokevirtual 65, 3) := by decide +kernel
theorem dX12_set_58 : decode cX12_set 58 = .ok (.ireturn, 1) := by decide +kernel
theorem dX12_set_59 : decode cX12_set 59 = .ok (.aload_n 0, 1) := by decide +kernel
theorem dX12_set_60 : decode cX12_set 60 = .ok (.getfield 16, 3) := by decide +kernel
theorem dX12_set_63 : decode cX12_set 63 = .ok (.bipush 40, 2) := by decide +kernel
theorem dX12_set_65 : decode cX12_set 65 = .ok (.iload_n 1, 1) := by decide +kernel
theorem dX12_set_66 : decode cX12_set 66 = .ok (.imul, 1) := by decide +kernel
theorem dX12_set_67 : decode cX12_set 67 = .ok (.iload_n 2, 1) := by decide +kernel
theorem dX12_set_68 : decode cX12_set 68 = .ok (.iadd, 1) := by decide +kernel
theorem dX12_set_69 : decode cX12_set 69 = .ok (.aload_n 0, 1) := by decide +kernel
theorem dX12_set_70 : decode cX12_set 70 = .ok (.getfield 7, 3) := by decide +kernel
theorem dX12_set_73 : decode cX12_set 73 = .ok (.iload_n 1, 1) := by decide +kernel
theorem dX12_set_74 : decode cX12_set 74 = .ok (.iaload, 1) := by decide +kernel
theorem dX12_set_75 : decode cX12_set 75 = .ok (.ifCond .ne 8, 3) := by decide +kernel
theorem dX12_set_78 : decode cX12_set 78 = .ok (.iload_n 3, 1) := by decide +kernel
theorem dX12_set_79 : decode cX12_set 79 = .ok (.i2b, 1) := by decide +kernel
theorem dX12_set_80 : decode cX12_set 80 = .ok (.goto 19, 3) := by decide +kernel
theorem dX12_set_83 : decode cX12_set 83 = .ok (.aload_n 0, 1) := by decide +kernel
theorem dX12_set_84 : decode cX12_set 84 = .ok (.getfield 7, 3) := by decide +kernel
theorem dX12_set_87 : decode cX12_set 87 = .ok (.iload_n 1, 1) := by decide +kernel
theorem dX12_set_88 : decode cX12_set 88 = .ok (.iaload, 1) := by decide +kernel
theorem dX12_set_89 : decode cX12_set 89 = .ok (.iconst 1, 1) := by decide +kernel
theorem dX12_set_90 : decode cX12_set 90 = .ok (.if_icmp .ne 8, 3) := by decide +kernel
theorem dX12_set_93 : decode cX12_set 93 = .ok (.iload_n 3, 1) := by decide +kernel
theorem dX12_set_94 : decode cX12_set 94 = .ok (.i2s, 1) := by decide +kernel
theorem dX12_set_95 : decode cX12_set 95 = .ok (.goto 4, 3) := by decide +kernel
theorem dX12_set_98 : decode cX12_set 98 = .ok (.iload_n 3, 1) := by decide +kernel
theorem dX12_set_99 : decode cX12_set 99 = .ok (.iastore, 1) := by decide +kernel
theorem dX12_set_100 : decode cX12_set 100 = .ok (.aload_n 0, 1) := by decide +kernel
theorem dX12_set_101 : decode cX12_set 101 = .ok (.getfield 16, 3) := by decide +kernel
theorem dX12_set_104 : decode cX12_set 104 = .ok (.bipush 40, 2) := by decide +kernel
theorem dX12_set_106 : decode cX12_set 106 = .ok (.iload_n 1, 1) := by decide +kernel
theorem dX12_set_107 : decode cX12_set 107 = .ok (.imul, 1) := by decide +kernel
theorem dX12_set_108 : decode cX12_set 108 = .ok (.iload_n 2, 1) := by decide +kernel
theorem dX12_set_109 : decode cX12_set 109 = .ok (.iadd, 1) := by decide +kernel
theorem dX12_set_110 : decode cX12_set 110 = .ok (.iaload, 1) := by decide +kernel
theorem dX12_set_111 : decode cX12_set 111 = .ok (.ireturn, 1) := by decide +kernel
theorem dX12_copy_0 : decode cX12_copy 0 = .ok (.aload_n 0, 1) := by decide +kernel
theorem dX12_copy_1 : decode cX12_copy 1 = .ok (.iconst 0, 1) := by decide +kernel
theorem dX12_copy_2 : decode cX12_copy 2 = .ok (.putfield 44, 3) := by decide +kernel
theorem dX12_copy_5 : decode cX12_copy 5 = .ok (.iload_n 1, 1) := by decide +kernel
theorem dX12_copy_6 : decode cX12_copy 6 = .ok (.invokestatic 58, 3) := by decide +kernel
theorem dX12_copy_9 : decode cX12_copy 9 = .ok (.ifCond .eq 10, 3) := by decide +kernel
theorem dX12_copy_12 : decode cX12_copy 12 = .ok (.iload_n 3, 1) := by decide +kernel
theorem dX12_copy_13 : decode cX12_copy 13 = .ok (.invokestatic 58, 3) := by decide +kernel
theorem dX12_copy_16 : decode cX12_copy 16 = .ok (.ifCond .ne 6, 3) := by decide +kernel
theorem dX12_copy_19 : decode cX12_copy 19 = .ok (.ldc 64, 2) := by decide +kernel
theorem dX12_copy_21 : decode cX12_copy 21 = .ok (.ireturn, 1) := by decide +kernel
theorem dX12_copy_22 : decode cX12_copy 22 = .ok (.aload_n 0, 1) := by decide +kernel
theorem dX12_copy_23 : decode cX12_copy 23 = .ok (.iconst 0, 1) := by decide +kernel
theorem dX12_copy_24 : decode cX12_copy 24 = .ok (.putfield 48, 3) := by decide +kernel
theorem dX12_copy_27 : decode cX12_copy 27 = .ok (.aload_n 0, 1) := by decide +kernel
theorem dX12_copy_28 : decode cX12_copy 28 = .ok (.getfield 7, 3) := by decide +kernel
theorem dX12_copy_31 : decode cX12_copy 31 = .ok (.iload_n 1, 1) := by decide +kernel
theorem dX12_copy_32 : decode cX12_copy 32 = .ok (.iaload, 1) := by decide +kernel
theorem dX12_copy_33 : decode cX12_copy 33 = .ok (.ifCond .lt 12, 3) := by decide +kernel
theorem dX12_copy_36 : decode cX12_copy 36 = .ok (.aload_n 0, 1) := by decide +kernel
theorem dX12_copy_37 : decode cX12_copy 37 = .ok (.getfield 7, 3) := by decide +kernel
theorem dX12_copy_40 : decode cX12_copy 40 = .ok (.iload_n 3, 1) := by decide +kernel
theorem dX12_copy_41 : decode cX12_copy 41 = .ok (.iaload, 1) := by decide +kernel
theorem dX12_copy_42 : decode cX12_copy 42 = .ok (.ifCond .ge 9, 3) := by decide +kernel
theorem dX12_copy_45 : decode cX12_copy 45 = .ok (.aload_n 0, 1) := by decide +kernel
theorem dX12_copy_46 : decode cX12_copy 46 = .ok (.iconst 1, 1) := by decide +kernel
theorem dX12_copy_47 : decode cX12_copy 47 = .ok (.invokevirtual 65, 3) := by decide +kernel
theorem dX12_copy_50 : decode cX12_copy 50 = .ok (.ireturn, 1) := by decide +kernel
theorem dX12_copy_51 : decode cX12_copy 51 = .ok (.aload_n 0, 1) := by decide +kernel
theorem dX12_copy_52 : decode cX12_copy 52 = .ok (.getfield 7, 3) := by decide +kernel
theorem dX12_copy_55 : decode cX12_copy 55 = .ok (.iload_n 1, 1) := by decide +kernel
theorem dX12_copy_56 : decode cX12_copy 56 = .ok (.iaload, 1) := by decide +kernel
theorem dX12_copy_57 : decode cX12_copy 57 = .ok (.aload_n 0, 1) := by decide +kernel
theorem dX12_copy_58 : decode cX12_copy 58 = .ok (.getfield 7, 3) := by decide +kernel
theorem dX12_copy_61 : decode cX12_copy 61 = .ok (.iload_n 3, 1) := by decide +kernel
theorem dX12_copy_62 : decode cX12_copy 62 = .ok (.iaload, 1) := by decide +kernel
theorem dX12_copy_63 : decode cX12_copy 63 = .ok (.if_icmp .eq 9, 3) := by decide +kernel
theorem dX12_copy_66 : decode cX12_copy 66 = .ok (.aload_n 0, 1) := by decide +kernel
theorem dX12_copy_67 : decode cX12_copy 67 = .ok (.iconst 5, 1) := by decide +kernel
theorem dX12_copy_68 : decode cX12_copy 68 = .ok (.invokevirtual 65, 3) := by decide +kernel
theorem dX12_copy_71 : decode cX12_copy 71 = .ok (.ireturn, 1) := by decide +kernel
theorem dX12_copy_72 : decode cX12_copy 72 = .ok (.iload_n 2, 1) := by decide +kernel
theorem dX12_copy_73 : decode cX12_copy 73 = .ok (.ifCond .lt 48, 3) := by decide +kernel
theorem dX12_copy_76 : decode cX12_copy 76 = .ok (.iload 4, 2) := by decide +kernel
theorem dX12_copy_78 : decode cX12_copy 78 = .ok (.ifCond .lt 43, 3) := by decide +kernel
theorem dX12_copy_81 : decode cX12_copy 81 = .ok (.iload 5, 2) := by decide +kernel
theorem dX12_copy_83 : decode cX12_copy 83 = .ok (.ifCond .lt 38, 3) := by decide +kernel
theorem dX12_copy_86 : decode cX12_copy 86 = .ok (.iload_n 2, 1) := by decide +kernel
theorem dX12_copy_87 : decode cX12_copy 87 = .ok (.i2l, 1) := by decide +kernel
theorem dX12_copy_88 : decode cX12_copy 88 = .ok (.iload 5, 2) := by decide +kernel
theorem dX12_copy_90 : decode cX12_copy 90 = .ok (.i2l, 1) := by decide +kernel
theorem dX12_copy_91 : decode cX12_copy 91 = .ok (.ladd, 1) := by decide +kernel
theorem dX12_copy_92 : decode cX12_copy 92 = .ok (.aload_n 0, 1) := by decide +kernel
theorem dX12_copy_93 : decode cX12_copy 93 = .ok (.getfield 13, 3) := by decide +kernel
theorem dX12_copy_96 : decode cX12_copy 96 = .ok (.iload_n 1, 1) := by decide +kernel
theorem dX12_copy_97 : decode cX12_copy 97 = .ok (.iaload, 1) := by decide +kernel
theorem dX12_copy_98 : decode cX12_copy 98 = .ok (.i2l, 1) := by decide +kernel
theorem dX12_copy_99 : decode cX12_copy 99 = .ok (.lcmp, 1) := by decide +kernel
theorem dX12_copy_100 : decode cX12_copy 100 = .ok (.ifCond .gt 21, 3) := by decide +kernel
theorem dX12_copy_103 : decode cX12_copy 103 = .ok (.iload 4, 2) := by decide +kernel
theorem dX12_copy_105 : decode cX12_copy 105 = .ok (.i2l, 1) := by decide +kernel
theorem dX12_copy_106 : decode cX12_copy 106 = .ok (.iload 5, 2) := by decide +kernel
theorem dX12_copy_108 : decode cX12_copy 108 = .ok (.i2l, 1) := by decide +kernel
theorem dX12_copy_109 : decode cX12_copy 109 = .ok (.ladd, 1) := by decide +kernel
theorem dX12_copy_110 : decode cX12_copy 110 = .ok (.aload_n 0, 1) := by decide +kernel
theorem dX12_copy_111 : decode cX12_copy 111 = .ok (.getfield 13, 3) := by decide +kernel
theorem dX12_copy_114 : decode cX12_copy 114 = .ok (.iload_n 3, 1) := by decide +kernel
theorem dX12_copy_115 : decode cX12_copy 115 = .ok (.iaload, 1) := by decide +kernel
theorem dX12_copy_116 : decode cX12_copy 116 = .ok (.i2l, 1) := by decide +kernel
theorem dX12_copy_117 : decode cX12_copy 117 = .ok (.lcmp, 1) := by decide +kernel
theorem dX12_copy_118 : decode cX12_copy 118 = .ok (.ifCond .le 9, 3) := by decide +kernel
theorem dX12_copy_121 : decode cX12_copy 121 = .ok (.aload_n 0, 1) := by decide +kernel
theorem dX12_copy_122 : decode cX12_copy 122 = .ok (.iconst 2, 1) := by decide +kernel
theorem dX12_copy_123 : decode cX12_copy 123 = .ok (.invokevirtual 65, 3) := by decide +kernel
theorem dX12_copy_126 : decode cX12_copy 126 = .ok (.ireturn, 1) := by decide +kernel
theorem dX12_copy_127 : decode cX12_copy 127 = .ok (.iload_n 2, 1) := by decide +kernel
theorem dX12_copy_128 : decode cX12_copy 128 = .ok (.iload 4, 2) := by decide +kernel
theorem dX12_copy_130 : decode cX12_copy 130 = .ok (.if_icmp .lt 7, 3) := by decide +kernel
theorem dX12_copy_133 : decode cX12_copy 133 = .ok (.iconst 1, 1) := by decide +kernel
theorem dX12_copy_134 : decode cX12_copy 134 = .ok (.goto 4, 3) := by decide +kernel
theorem dX12_copy_137 : decode cX12_copy 137 = .ok (.iconst 0, 1) := by decide +kernel
theorem dX12_copy_138 : decode cX12_copy 138 = .ok (.istore 6, 2) := by decide +kernel
theorem dX12_copy_140 : decode cX12_copy 140 = .ok (.iconst 0, 1) := by decide +kernel
theorem dX12_copy_141 : decode cX12_copy 141 = .ok (.istore 7, 2) := by decide +kernel
theorem dX12_copy_143 : decode cX12_copy 143 = .ok (.iload 7, 2) := by decide +kernel
theorem dX12_copy_145 : decode cX12_copy 145 = .ok (.iload 5, 2) := by decide +kernel
theorem dX12_copy_147 : decode cX12_copy 147 = .ok (.if_icmp .ge 57, 3) := by decide +kernel
theorem dX12_copy_150 : decode cX12_copy 150 = .ok (.iload 6, 2) := by decide +kernel
theorem dX12_copy_152 : decode cX12_copy 152 = .ok (.ifCond .eq 8, 3) := by decide +kernel
theorem dX12_copy_155 : decode cX12_copy 155 = .ok (.iload 7, 2) := by decide +kernel
theorem dX12_copy_157 : decode cX12_copy 157 = .ok (.goto 10, 3) := by decide +kernel
theorem dX12_copy_160 : decode cX12_copy 160 = .ok (.iload 5, 2) := by decide +kernel
theorem dX12_copy_162 : decode cX12_copy 162 = .ok (.iconst 1, 1) := by decide +kernel
theorem dX12_copy_163 : decode cX12_copy 163 = .ok (.isub, 1) := by decide +kernel
theorem dX12_copy_164 : decode cX12_copy 164 = .ok (.iload 7, 2) := by decide +kernel
theorem dX12_copy_166 : decode cX12_copy 166 = .ok (.isub, 1) := by decide +kernel
theorem dX12_copy_167 : decode cX12_copy 167 = .ok (.istore 8, 2) := by decide +kernel
theorem dX12_copy_169 : decode cX12_copy 169 = .ok (.aload_n 0, 1) := by decide +kernel
theorem dX12_copy_170 : decode cX12_copy 170 = .ok (.getfield 16, 3) := by decide +kernel
theorem dX12_copy_173 : decode cX12_copy 173 = .ok (.bipush 40, 2) := by decide +kernel
theorem dX12_copy_175 : decode cX12_copy 175 = .ok (.iload_n 3, 1) := by decide +kernel
theorem dX12_copy_176 : decode cX12_copy 176 = .ok (.imul, 1) := by decide +kernel
theorem dX12_copy_177 : decode cX12_copy 177 = .ok (.iload 4, 2) := by decide +kernel
theorem dX12_copy_179 : decode cX12_copy 179 = .ok (.iadd, 1) := by decide +kernel
theorem dX12_copy_180 : decode cX12_copy 180 = .ok (.iload 8, 2) := by decide +kernel
theorem dX12_copy_182 : decode cX12_copy 182 = .ok (.iadd, 1) := by decide +kernel
theorem dX12_copy_183 : decode cX12_copy 183 = .ok (.aload_n 0, 1) := by decide +kernel
theorem dX12_copy_184 : decode cX12_copy 184 = .ok (.getfield 16, 3) := by decide +kernel
theorem dX12_copy_187 : decode cX12_copy 187 = .ok (.bipush 40, 2) := by decide +kernel
theorem dX12_copy_189 : decode cX12_copy 189 = .ok (.iload_n 1, 1) := by decide +kernel
theorem dX12_copy_190 : decode cX12_copy 190 = .ok (.imul, 1) := by decide +kernel
theorem dX12_copy_191 : decode cX12_copy 191 = .ok (.iload_n 2, 1) := by decide +kernel
theorem dX12_copy_192 : decode cX12_copy 192 = .ok (.iadd, 1) := by decide +kernel
theorem dX12_copy_193 : decode cX12_copy 193 = .ok (.iload 8, 2) := by decide +kernel
theorem dX12_copy_195 : decode cX12_copy 195 = .ok (.iadd, 1) := by decide +kernel
theorem dX12_copy_196 : decode cX12_copy 196 = .ok (.iaload, 1) := by decide +kernel
theorem dX12_copy_197 : decode cX12_copy 197 = .ok (.iastore, 1) := by decide +kernel
theorem dX12_copy_198 : decode cX12_copy 198 = .ok (.iinc 7 1, 3) := by decide +kernel
theorem dX12_copy_201 : decode cX12_copy 201 = .ok (.goto (-58), 3) := by decide +kernel
theorem dX12_copy_204 : decode cX12_copy 204 = .ok (.iload 5, 2) := by decide +kernel
theorem dX12_copy_206 : decode cX12_copy 206 = .ok (.ireturn, 1) := by decide +kernel
theorem dX12_drop_0 : decode cX12_drop 0 = .ok (.aload_n 0, 1) := by decide +kernel
theorem dX12_drop_1 : decode cX12_drop 1 = .ok (.iconst 0, 1) := by decide +kernel
theorem dX12_drop_2 : decode cX12_drop 2 = .ok (.putfield 44, 3) := by decide +kernel
theorem dX12_drop_5 : decode cX12_drop 5 = .ok (.iload_n 1, 1) := by decide +kernel
theorem dX12_drop_6 : decode cX12_drop 6 = .ok (.invokestatic 58, 3) := by decide +kernel
theorem dX12_drop_9 : decode cX12_drop 9 = .ok (.ifCond .ne 6, 3) := by decide +kernel
theorem dX12_drop_12 : decode cX12_drop 12 = .ok (.ldc 64, 2) := by decide +kernel
theorem dX12_drop_14 : decode cX12_drop 14 = .ok (.ireturn, 1) := by decide +kernel
theorem dX12_drop_15 : decode cX12_drop 15 = .ok (.aload_n 0, 1) := by decide +kernel
theorem dX12_drop_16 : decode cX12_drop 16 = .ok (.iconst 0, 1) := by decide +kernel
theorem dX12_drop_17 : decode cX12_drop 17 = .ok (.putfield 48, 3) := by decide +kernel
theorem dX12_drop_20 : decode cX12_drop 20 = .ok (.aload_n 0, 1) := by decide +kernel
theorem dX12_drop_21 : decode cX12_drop 21 = .ok (.getfield 7, 3) := by decide +kernel
theorem dX12_drop_24 : decode cX12_drop 24 = .ok (.iload_n 1, 1) := by decide +kernel
theorem dX12_drop_25 : decode cX12_drop 25 = .ok (.iaload, 1) := by decide +kernel
theorem dX12_drop_26 : decode cX12_drop 26 = .ok (.ifCond .ge 9, 3) := by decide +kernel
theorem dX12_drop_29 : decode cX12_drop 29 = .ok (.aload_n 0, 1) := by decide +kernel
theorem dX12_drop_30 : decode cX12_drop 30 = .ok (.iconst 1, 1) := by decide +kernel
theorem dX12_drop_31 : decode cX12_drop 31 = .ok (.invokevirtual 65, 3) := by decide +kernel
theorem dX12_drop_34 : decode cX12_drop 34 = .ok (.ireturn, 1) := by decide +kernel
theorem dX12_drop_35 : decode cX12_drop 35 = .ok (.aload_n 0, 1) := by decide +kernel
theorem dX12_drop_36 : decode cX12_drop 36 = .ok (.getfield 7, 3) := by decide +kernel
theorem dX12_drop_39 : decode cX12_drop 39 = .ok (.iload_n 1, 1) := by decide +kernel
theorem dX12_drop_40 : decode cX12_drop 40 = .ok (.iconst (-1), 1) := by decide +kernel
theorem dX12_drop_41 : decode cX12_drop 41 = .ok (.iastore, 1) := by decide +kernel
theorem dX12_drop_42 : decode cX12_drop 42 = .ok (.aload_n 0, 1) := by decide +kernel
theorem dX12_drop_43 : decode cX12_drop 43 = .ok (.getfield 13, 3) := by decide +kernel
theorem dX12_drop_46 : decode cX12_drop 46 = .ok (.iload_n 1, 1) := by decide +kernel
theorem dX12_drop_47 : decode cX12_drop 47 = .ok (.iaload, 1) := by decide +kernel
theorem dX12_drop_48 : decode cX12_drop 48 = .ok (.ireturn, 1) := by decide +kernel
theorem dX12_feed_0 : decode cX12_feed 0 = .ok (.aload_n 0, 1) := by decide +kernel
theorem dX12_feed_1 : decode cX12_feed 1 = .ok (.iconst 0, 1) := by decide +kernel
theorem dX12_feed_2 : decode cX12_feed 2 = .ok (.putfield 44, 3) := by decide +kernel
theorem dX12_feed_5 : decode cX12_feed 5 = .ok (.iload_n 1, 1) := by decide +kernel
theorem dX12_feed_6 : decode cX12_feed 6 = .ok (.i2l, 1) := by decide +kernel
theorem dX12_feed_7 : decode cX12_feed 7 = .ok (.lconst 0, 1) := by decide +kernel
theorem dX12_feed_8 : decode cX12_feed 8 = .ok (.ldc2_w 69, 3) := by decide +kernel
theorem dX12_feed_11 : decode cX12_feed 11 = .ok (.invokestatic 54, 3) := by decide +kernel
theorem dX12_feed_14 : decode cX12_feed 14 = .ok (.ifCond .ne 6, 3) := by decide +kernel
theorem dX12_feed_17 : decode cX12_feed 17 = .ok (.ldc 64, 2) := by decide +kernel
theorem dX12_feed_19 : decode cX12_feed 19 = .ok (.ireturn, 1) := by decide +kernel
theorem dX12_feed_20 : decode cX12_feed 20 = .ok (.aload_n 0, 1) := by decide +kernel
theorem dX12_feed_21 : decode cX12_feed 21 = .ok (.getfield 71, 3) := by decide +kernel
theorem dX12_feed_24 : decode cX12_feed 24 = .ok (.bipush 120, 2) := by decide +kernel
theorem dX12_feed_26 : decode cX12_feed 26 = .ok (.if_icmp .ne 6, 3) := by decide +kernel
theorem dX12_feed_29 : decode cX12_feed 29 = .ok (.ldc 74, 2) := by decide +kernel
theorem dX12_feed_31 : decode cX12_feed 31 = .ok (.ireturn, 1) := by decide +kernel
theorem dX12_feed_32 : decode cX12_feed 32 = .ok (.aload_n 0, 1) := by decide +kernel
theorem dX12_feed_33 : decode cX12_feed 33 = .ok (.getfield 31, 3) := by decide +kernel
theorem dX12_feed_36 : decode cX12_feed 36 = .ok (.aload_n 0, 1) := by decide +kernel
theorem dX12_feed_37 : decode cX12_feed 37 = .ok (.getfield 71, 3) := by decide +kernel
theorem dX12_feed_40 : decode cX12_feed 40 = .ok (.iload_n 1, 1) := by decide +kernel
theorem dX12_feed_41 : decode cX12_feed 41 = .ok (.iastore, 1) := by decide +kernel
theorem dX12_feed_42 : decode cX12_feed 42 = .ok (.aload_n 0, 1) := by decide +kernel
theorem dX12_feed_43 : decode cX12_feed 43 = .ok (.dup, 1) := by decide +kernel
theorem dX12_feed_44 : decode cX12_feed 44 = .ok (.getfield 71, 3) := by decide +kernel
theorem dX12_feed_47 : decode cX12_feed 47 = .ok (.iconst 1, 1) := by decide +kernel
theorem dX12_feed_48 : decode cX12_feed 48 = .ok (.iadd, 1) := by decide +kernel
theorem dX12_feed_49 : decode cX12_feed 49 = .ok (.putfield 71, 3) := by decide +kernel
theorem dX12_feed_52 : decode cX12_feed 52 = .ok (.aload_n 0, 1) := by decide +kernel
theorem dX12_feed_53 : decode cX12_feed 53 = .ok (.getfield 71, 3) := by decide +kernel
theorem dX12_feed_56 : decode cX12_feed 56 = .ok (.ireturn, 1) := by decide +kernel
theorem dX12_bad_0 : decode cX12_bad 0 = .ok (.aload_n 0, 1) := by decide +kernel
theorem dX12_bad_1 : decode cX12_bad 1 = .ok (.getfield 75, 3) := by decide +kernel
theorem dX12_bad_4 : decode cX12_bad 4 = .ok (.ifCond .ne 16, 3) := by decide +kernel
theorem dX12_bad_7 : decode cX12_bad 7 = .ok (.aload_n 0, 1) := by decide +kernel
theorem dX12_bad_8 : decode cX12_bad 8 = .ok (.iload_n 1, 1) := by decide +kernel
theorem dX12_bad_9 : decode cX12_bad 9 = .ok (.putfield 75, 3) := by decide +kernel
theorem dX12_bad_12 : decode cX12_bad 12 = .ok (.aload_n 0, 1) := by decide +kernel
theorem dX12_bad_13 : decode cX12_bad 13 = .ok (.aload_n 0, 1) := by decide +kernel
theorem dX12_bad_14 : decode cX12_bad 14 = .ok (.getfield 78, 3) := by decide +kernel
theorem dX12_bad_17 : decode cX12_bad 17 = .ok (.putfield 81, 3) := by decide +kernel
theorem dX12_bad_20 : decode cX12_bad 20 = .ok (.return_, 1) := by decide +kernel
theorem dX12_nextToken_0 : decode cX12_nextToken 0 = .ok (.aload_n 0, 1) := by decide +kernel
theorem dX12_nextToken_1 : decode cX12_nextToken 1 = .ok (.aload_n 0, 1) := by decide +kernel
theorem dX12_nextToken_2 : decode cX12_nextToken 2 = .ok (.getfield 84, 3) := by decide +kernel
theorem dX12_nextToken_5 : decode cX12_nextToken 5 = .ok (.putfield 78, 3) := by decide +kernel
theorem dX12_nextToken_8 : decode cX12_nextToken 8 = .ok (.aload_n 0, 1) := by decide +kernel
theorem dX12_nextToken_9 : decode cX12_nextToken 9 = .ok (.aload_n 0, 1) := by decide +kernel
theorem dX12_nextToken_10 : decode cX12_nextToken 10 = .ok (.getfield 84, 3) := by decide +kernel
theorem dX12_nextToken_13 : decode cX12_nextToken 13 = .ok (.aload_n 0, 1) := by decide +kernel
theorem dX12_nextToken_14 : decode cX12_nextToken 14 = .ok (.getfield 71, 3) := by decide +kernel
theorem dX12_nextToken_17 : decode cX12_nextToken 17 = .ok (.if_icmp .ge 15, 3) := by decide +kernel
theorem dX12_nextToken_20 : decode cX12_nextToken 20 = .ok (.aload_n 0, 1) := by decide +kernel
theorem dX12_nextToken_21 : decode cX12_nextToken 21 = .ok (.getfield 31, 3) := by decide +kernel
theorem dX12_nextToken_24 : decode cX12_nextToken 24 = .ok (.aload_n 0, 1) := by decide +kernel
theorem dX12_nextToken_25 : decode cX12_nextToken 25 = .ok (.getfield 84, 3) := by decide +kernel
theorem dX12_nextToken_28 : decode cX12_nextToken 28 = .ok (.iaload, 1) := by decide +kernel
theorem dX12_nextToken_29 : decode cX12_nextToken 29 = .ok (.goto 5, 3) := by decide +kernel
theorem dX12_nextToken_32 : decode cX12_nextToken 32 = .ok (.ldc 87, 2) := by decide +kernel
theorem dX12_nextToken_34 : decode cX12_nextToken 34 = .ok (.putfield 88, 3) := by decide +kernel
theorem dX12_nextToken_37 : decode cX12_nextToken 37 = .ok (.aload_n 0, 1) := by decide +kernel
theorem dX12_nextToken_38 : decode cX12_nextToken 38 = .ok (.aload_n 0, 1) := by decide +kernel
theorem dX12_nextToken_39 : decode cX12_nextToken 39 = .ok (.getfield 84, 3) := by decide +kernel
theorem dX12_nextToken_42 : decode cX12_nextToken 42 = .ok (.aload_n 0, 1) := by decide +kernel
theorem dX12_nextToken_43 : decode cX12_nextToken 43 = .ok (.getfield 71, 3) := by decide +kernel
theorem dX12_nextToken_46 : decode cX12_nextToken 46 = .ok (.if_icmp .ne 7, 3) := by decide +kernel
theorem dX12_nextToken_49 : decode cX12_nextToken 49 = .ok (.iconst 1, 1) := by decide +kernel
theorem dX12_nextToken_50 : decode cX12_nextToken 50 = .ok (.goto 68, 3) := by decide +kernel
theorem dX12_nextToken_53 : decode cX12_nextToken 53 = .ok (.aload_n 0, 1) := by decide +kernel
theorem dX12_nextToken_54 : decode cX12_nextToken 54 = .ok (.getfield 88, 3) := by decide +kernel
theorem dX12_nextToken_57 : decode cX12_nextToken 57 = .ok (.i2l, 1) := by decide +kernel
theorem dX12_nextToken_58 : decode cX12_nextToken 58 = .ok (.ldc2_w 91, 3) := by decide +kernel
theorem dX12_nextToken_61 : decode cX12_nextToken 61 = .ok (.ldc2_w 93, 3) := by decide +kernel
theorem dX12_nextToken_64 : decode cX12_nextToken 64 = .ok (.invokestatic 54, 3) := by decide +kernel
theorem dX12_nextToken_67 : decode cX12_nextToken 67 = .ok (.ifCond .eq 7, 3) := by decide +kernel
theorem dX12_nextToken_70 : decode cX12_nextToken 70 = .ok (.iconst 2, 1) := by decide +kernel
theorem dX12_nextToken_71 : decode cX12_nextToken 71 = .ok (.goto 47, 3) := by decide +kernel
theorem dX12_nextToken_74 : decode cX12_nextToken 74 = .ok (.aload_n 0, 1) := by decide +kernel
theorem dX12_nextToken_75 : decode cX12_nextToken 75 = .ok (.getfield 88, 3) := by decide +kernel
theorem dX12_nextToken_78 : decode cX12_nextToken 78 = .ok (.i2l, 1) := by decide +kernel
theorem dX12_nextToken_79 : decode cX12_nextToken 79 = .ok (.ldc2_w 95, 3) := by decide +kernel
theorem dX12_nextToken_82 : decode cX12_nextToken 82 = .ok (.ldc2_w 97, 3) := by decide +kernel
theorem dX12_nextToken_85 : decode cX12_nextToken 85 = .ok (.invokestatic 54, 3) := by decide +kernel
theorem dX12_nextToken_88 : decode cX12_nextToken 88 = .ok (.ifCond .eq 7, 3) := by decide +kernel
theorem dX12_nextToken_91 : decode cX12_nextToken 91 = .ok (.iconst 3, 1) := by decide +kernel
theorem dX12_nextToken_92 : decode cX12_nextToken 92 = .ok (.goto 26, 3) := by decide +kernel
theorem dX12_nextToken_95 : decode cX12_nextToken 95 = .ok (.aload_n 0, 1) := by decide +kernel
theorem dX12_nextToken_96 : decode cX12_nextToken 96 = .ok (.getfield 88, 3) := by decide +kernel
theorem dX12_nextToken_99 : decode cX12_nextToken 99 = .ok (.bipush 44, 2) := by decide +kernel
theorem dX12_nextToken_101 : decode cX12_nextToken 101 = .ok (.if_icmp .eq 12, 3) := by decide +kernel
theorem dX12_nextToken_104 : decode cX12_nextToken 104 = .ok (.aload_n 0, 1) := by decide +kernel
theorem dX12_nextToken_105 : decode cX12_nextToken 105 = .ok (.getfield 88, 3) := by decide +kernel
theorem dX12_nextToken_108 : decode cX12_nextToken 108 = .ok (.bipush 59, 2) := by decide +kernel
theorem dX12_nextToken_110 : decode cX12_nextToken 110 = .ok (.if_icmp .ne 7, 3) := by decide +kernel
theorem dX12_nextToken_113 : decode cX12_nextToken 113 = .ok (.iconst 4, 1) := by decide +kernel
theorem dX12_nextToken_114 : decode cX12_nextToken 114 = .ok (.goto 4, 3) := by decide +kernel
theorem dX12_nextToken_117 : decode cX12_nextToken 117 = .ok (.iconst 0, 1) := by decide +kernel
theorem dX12_nextToken_118 : decode cX12_nextToken 118 = .ok (.putfield 99, 3) := by decide +kernel
theorem dX12_nextToken_121 : decode cX12_nextToken 121 = .ok (.aload_n 0, 1) := by decide +kernel
theorem dX12_nextToken_122 : decode cX12_nextToken 122 = .ok (.dup, 1) := by decide +kernel
theorem dX12_nextToken_123 : decode cX12_nextToken 123 = .ok (.getfield 84, 3) := by decide +kernel
theorem dX12_nextToken_126 : decode cX12_nextToken 126 = .ok (.aload_n 0, 1) := by decide +kernel
theorem dX12_nextToken_127 : decode cX12_nextToken 127 = .ok (.getfield 84, 3) := by decide +kernel
theorem dX12_nextToken_130 : decode cX12_nextToken 130 = .ok (.aload_n 0, 1) := by decide +kernel
theorem dX12_nextToken_131 : decode cX12_nextToken 131 = .ok (.getfield 71, 3) := by decide +kernel
theorem dX12_nextToken_134 : decode cX12_nextToken 134 = .ok (.if_icmp .ge 7, 3) := by decide +kernel
theorem dX12_nextToken_137 : decode cX12_nextToken 137 = .ok (.iconst 1, 1) := by decide +kernel
theorem dX12_nextToken_138 : decode cX12_nextToken 138 = .ok (.goto 4, 3) := by decide +kernel
theorem dX12_nextToken_141 : decode cX12_nextToken 141 = .ok (.iconst 0, 1) := by decide +kernel
theorem dX12_nextToken_142 : decode cX12_nextToken 142 = .ok (.iadd, 1) := by decide +kernel
theorem dX12_nextToken_143 : decode cX12_nextToken 143 = .ok (.putfield 84, 3) := by decide +kernel
theorem dX12_nextToken_146 : decode cX12_nextToken 146 = .ok (.aload_n 0, 1) := by decide +kernel
theorem dX12_nextToken_147 : decode cX12_nextToken 147 = .ok (.getfield 99, 3) := by decide +kernel
theorem dX12_nextToken_150 : decode cX12_nextToken 150 = .ok (.iconst 3, 1) := by decide +kernel
theorem dX12_nextToken_151 : decode cX12_nextToken 151 = .ok (.if_icmp .ne 126, 3) := by decide +kernel
theorem dX12_nextToken_154 : decode cX12_nextToken 154 = .ok (.aload_n 0, 1) := by decide +kernel
theorem dX12_nextToken_155 : decode cX12_nextToken 155 = .ok (.dup, 1) := by decide +kernel
theorem dX12_nextToken_156 : decode cX12_nextToken 156 = .ok (.getfield 88, 3) := by decide +kernel
theorem dX12_nextToken_159 : decode cX12_nextToken 159 = .ok (.bipush 48, 2) := by decide +kernel
theorem dX12_nextToken_161 : decode cX12_nextToken 161 = .ok (.isub, 1) := by decide +kernel
theorem dX12_nextToken_162 : decode cX12_nextToken 162 = .ok (.putfield 88, 3) := by decide +kernel
theorem dX12_nextToken_165 : decode cX12_nextToken 165 = .ok (.aload_n 0, 1) := by decide +kernel
theorem dX12_nextToken_166 : decode cX12_nextToken 166 = .ok (.getfield 84, 3) := by decide +kernel
theorem dX12_nextToken_169 : decode cX12_nextToken 169 = .ok (.aload_n 0, 1) := by decide +kernel
theorem dX12_nextToken_170 : decode cX12_nextToken 170 = .ok (.getfield 71, 3) := by decide +kernel
theorem dX12_nextToken_173 : decode cX12_nextToken 173 = .ok (.if_icmp .ge 82, 3) := by decide +kernel
theorem dX12_nextToken_176 : decode cX12_nextToken 176 = .ok (.aload_n 0, 1) := by decide +kernel
theorem dX12_nextToken_177 : decode cX12_nextToken 177 = .ok (.getfield 31, 3) := by decide +kernel
theorem dX12_nextToken_180 : decode cX12_nextToken 180 = .ok (.aload_n 0, 1) := by decide +kernel
theorem dX12_nextToken_181 : decode cX12_nextToken 181 = .ok (.getfield 84, 3) := by decide +kernel
theorem dX12_nextToken_184 : decode cX12_nextToken 184 = .ok (.iaload, 1) := by decide +kernel
theorem dX12_nextToken_185 : decode cX12_nextToken 185 = .ok (.i2l, 1) := by decide +kernel
theorem dX12_nextToken_186 : decode cX12_nextToken 186 = .ok (.ldc2_w 95, 3) := by decide +kernel
theorem dX12_nextToken_189 : decode cX12_nextToken 189 = .ok (.ldc2_w 97, 3) := by decide +kernel
theorem dX12_nextToken_192 : decode cX12_nextToken 192 = .ok (.invokestatic 54, 3) := by decide +kernel
theorem dX12_nextToken_195 : decode cX12_nextToken 195 = .ok (.ifCond .eq 60, 3) := by decide +kernel
theorem dX12_nextToken_198 : decode cX12_nextToken 198 = .ok (.aload_n 0, 1) := by decide +kernel
theorem dX12_nextToken_199 : decode cX12_nextToken 199 = .ok (.aload_n 0, 1) := by decide +kernel
theorem dX12_nextToken_200 : decode cX12_nextToken 200 = .ok (.getfield 84, 3) := by decide +kernel
theorem dX12_nextToken_203 : decode cX12_nextToken 203 = .ok (.aload_n 0, 1) := by decide +kernel
theorem dX12_nextToken_204 : decode cX12_nextToken 204 = .ok (.getfield 78, 3) := by decide +kernel
theorem dX12_nextToken_207 : decode cX12_nextToken 207 = .ok (.isub, 1) := by decide +kernel
theorem dX12_nextToken_208 : decode cX12_nextToken 208 = .ok (.iconst 2, 1) := by decide +kernel
theorem dX12_nextToken_209 : decode cX12_nextToken 209 = .ok (.if_icmp .ge 26, 3) := by decide +kernel
theorem dX12_nextToken_212 : decode cX12_nextToken 212 = .ok (.bipush 10, 2) := by decide +kernel
theorem dX12_nextToken_214 : decode cX12_nextToken 214 = .ok (.aload_n 0, 1) := by decide +kernel
theorem dX12_nextToken_215 : decode cX12_nextToken 215 = .ok (.getfield 88, 3) := by decide +kernel
theorem dX12_nextToken_218 : decode cX12_nextToken 218 = .ok (.imul, 1) := by decide +kernel
theorem dX12_nextToken_219 : decode cX12_nextToken 219 = .ok (.aload_n 0, 1) := by decide +kernel
theorem dX12_nextToken_220 : decode cX12_nextToken 220 = .ok (.getfield 31, 3) := by decide +kernel
theorem dX12_nextToken_223 : decode cX12_nextToken 223 = .ok (.aload_n 0, 1) := by decide +kernel
theorem dX12_nextToken_224 : decode cX12_nextToken 224 = .ok (.getfield 84, 3) := by decide +kernel
theorem dX12_nextToken_227 : decode cX12_nextToken 227 = .ok (.iaload, 1) := by decide +kernel
theorem dX12_nextToken_228 : decode cX12_nextToken 228 = .ok (.iadd, 1) := by decide +kernel
theorem dX12_nextToken_229 : decode cX12_nextToken 229 = .ok (.bipush 48, 2) := by decide +kernel
theorem dX12_nextToken_231 : decode cX12_nextToken 231 = .ok (.isub, 1) := by decide +kernel
theorem dX12_nextToken_232 : decode cX12_nextToken 232 = .ok (.goto 7, 3) := by decide +kernel
theorem dX12_nextToken_235 : decode cX12_nextToken 235 = .ok (.aload_n 0, 1) := by decide +kernel
theorem dX12_nextToken_236 : decode cX12_nextToken 236 = .ok (.getfield 88, 3) := by decide +kernel
theorem dX12_nextToken_239 : decode cX12_nextToken 239 = .ok (.putfield 88, 3) := by decide +kernel
theorem dX12_nextToken_242 : decode cX12_nextToken 242 = .ok (.aload_n 0, 1) := by decide +kernel
theorem dX12_nextToken_243 : decode cX12_nextToken 243 = .ok (.dup, 1) := by decide +kernel
theorem dX12_nextToken_244 : decode cX12_nextToken 244 = .ok (.getfield 84, 3) := by decide +kernel
theorem dX12_nextToken_247 : decode cX12_nextToken 247 = .ok (.iconst 1, 1) := by decide +kernel
theorem dX12_nextToken_248 : decode cX12_nextToken 248 = .ok (.iadd, 1) := by decide +kernel
theorem dX12_nextToken_249 : decode cX12_nextToken 249 = .ok (.putfield 84, 3) := by decide +kernel
theorem dX12_nextToken_252 : decode cX12_nextToken 252 = .ok (.goto (-87), 3) := by decide +kernel
theorem dX12_nextToken_255 : decode cX12_nextToken 255 = .ok (.aload_n 0, 1) := by decide +kernel
theorem dX12_nextToken_256 : decode cX12_nextToken 256 = .ok (.aload_n 0, 1) := by decide +kernel
theorem dX12_nextToken_257 : decode cX12_nextToken 257 = .ok (.getfield 84, 3) := by decide +kernel
theorem dX12_nextToken_260 : decode cX12_nextToken 260 = .ok (.aload_n 0, 1) := by decide +kernel
theorem dX12_nextToken_261 : decode cX12_nextToken 261 = .ok (.getfield 78, 3) := by decide +kernel
theorem dX12_nextToken_264 : decode cX12_nextToken 264 = .ok (.isub, 1) := by decide +kernel
theorem dX12_nextToken_265 : decode cX12_nextToken 265 = .ok (.iconst 2, 1) := by decide +kernel
theorem dX12_nextToken_266 : decode cX12_nextToken 266 = .ok (.if_icmp .le 7, 3) := by decide +kernel
theorem dX12_nextToken_269 : decode cX12_nextToken 269 = .ok (.iconst 0, 1) := by decide +kernel
theorem dX12_nextToken_270 : decode cX12_nextToken 270 = .ok (.goto 4, 3) := by decide +kernel
theorem dX12_nextToken_273 : decode cX12_nextToken 273 = .ok (.iconst 3, 1) := by decide +kernel
theorem dX12_nextToken_274 : decode cX12_nextToken 274 = .ok (.putfield 99, 3) := by decide +kernel
theorem dX12_nextToken_277 : decode cX12_nextToken 277 = .ok (.return_, 1) := by decide +kernel
theorem dX12_must_0 : decode cX12_must 0 = .ok (.iload_n 1, 1) := by decide +kernel
theorem dX12_must_1 : decode cX12_must 1 = .ok (.ifCond .ne 8, 3) := by decide +kernel
theorem dX12_must_4 : decode cX12_must 4 = .ok (.aload_n 0, 1) := by decide +kernel
theorem dX12_must_5 : decode cX12_must 5 = .ok (.iconst 1, 1) := by decide +kernel
theorem dX12_must_6 : decode cX12_must 6 = .ok (.invokevirtual 102, 3) := by decide +kernel
theorem dX12_must_9 : decode cX12_must 9 = .ok (.aload_n 0, 1) := by decide +kernel
theorem dX12_must_10 : decode cX12_must 10 = .ok (.getfield 75, 3) := by decide +kernel
theorem dX12_must_13 : decode cX12_must 13 = .ok (.ifCond .ne 7, 3) := by decide +kernel
theorem dX12_must_16 : decode cX12_must 16 = .ok (.aload_n 0, 1) := by decide +kernel
theorem dX12_must_17 : decode cX12_must 17 = .ok (.invokevirtual 106, 3) := by decide +kernel
theorem dX12_must_20 : decode cX12_must 20 = .ok (.return_, 1) := by decide +kernel
theorem dX12_isLetter_0 : decode cX12_isLetter 0 = .ok (.aload_n 0, 1) := by decide +kernel
theorem dX12_isLetter_1 : decode cX12_isLetter 1 = .ok (.getfield 75, 3) := by decide +kernel
theorem dX12_isLetter_4 : decode cX12_isLetter 4 = .ok (.ifCond .ne 23, 3) := by decide +kernel
theorem dX12_isLetter_7 : decode cX12_isLetter 7 = .ok (.aload_n 0, 1) := by decide +kernel
theorem dX12_isLetter_8 : decode cX12_isLetter 8 = .ok (.getfield 99, 3) := by decide +kernel
theorem dX12_isLetter_11 : decode cX12_isLetter 11 = .ok (.iconst 2, 1) := by decide +kernel
theorem dX12_isLetter_12 : decode cX12_isLetter 12 = .ok (.if_icmp .ne 15, 3) := by decide +kernel
theorem dX12_isLetter_15 : decode cX12_isLetter 15 = .ok (.aload_n 0, 1) := by decide +kernel
theorem dX12_isLetter_16 : decode cX12_isLetter 16 = .ok (.getfield 88, 3) := by decide +kernel
theorem dX12_isLetter_19 : decode cX12_isLetter 19 = .ok (.iload_n 1, 1) := by decide +kernel
theorem dX12_isLetter_20 : decode cX12_isLetter 20 = .ok (.if_icmp .ne 7, 3) := by decide +kernel
theorem dX12_isLetter_23 : decode cX12_isLetter 23 = .ok (.iconst 1, 1) := by decide +kernel
theorem dX12_isLetter_24 : decode cX12_isLetter 24 = .ok (.goto 4, 3) := by decide +kernel
theorem dX12_isLetter_27 : decode cX12_isLetter 27 = .ok (.iconst 0, 1) := by decide +kernel
theorem dX12_isLetter_28 : decode cX12_isLetter 28 = .ok (.ireturn, 1) := by decide +kernel
theorem dX12_number_0 : decode cX12_number 0 = .ok (.aload_n 0, 1) := by decide +kernel
theorem dX12_number_1 : decode cX12_number 1 = .ok (.getfield 75, 3) := by decide +kernel
theorem dX12_number_4 : decode cX12_number 4 = .ok (.ifCond .ne 16, 3) := by decide +kernel
theorem dX12_number_7 : decode cX12_number 7 = .ok (.aload_n 0, 1) := by decide +kernel
theorem dX12_number_8 : decode cX12_number 8 = .ok (.getfield 99, 3) := by decide +kernel
theorem dX12_number_11 : decode cX12_number 11 = .ok (.iconst 3, 1) := by decide +kernel
theorem dX12_number_12 : decode cX12_number 12 = .ok (.if_icmp .eq 8, 3) := by decide +kernel
theorem dX12_number_15 : decode cX12_number 15 = .ok (.aload_n 0, 1) := by decide +kernel
theorem dX12_number_16 : decode cX12_number 16 = .ok (.iconst 1, 1) := by decide +kernel
theorem dX12_number_17 : decode cX12_number 17 = .ok (.invokevirtual 102, 3) := by decide +kernel
theorem dX12_number_20 : decode cX12_number 20 = .ok (.aload_n 0, 1) := by decide +kernel
theorem dX12_number_21 : decode cX12_number 21 = .ok (.getfield 75, 3) := by decide +kernel
theorem dX12_number_24 : decode cX12_number 24 = .ok (.ifCond .ne 23, 3) := by decide +kernel
theorem dX12_number_27 : decode cX12_number 27 = .ok (.aload_n 0, 1) := by decide +kernel
theorem dX12_number_28 : decode cX12_number 28 = .ok (.getfield 88, 3) := by decide +kernel
theorem dX12_number_31 : decode cX12_number 31 = .ok (.i2l, 1) := by decide +kernel
theorem dX12_number_32 : decode cX12_number 32 = .ok (.iload_n 1, 1) := by decide +kernel
theorem dX12_number_33 : decode cX12_number 33 = .ok (.i2l, 1) := by decide +kernel
theorem dX12_number_34 : decode cX12_number 34 = .ok (.iload_n 2, 1) := by decide +kernel
theorem dX12_number_35 : decode cX12_number 35 = .ok (.i2l, 1) := by decide +kernel
theorem dX12_number_36 : decode cX12_number 36 = .ok (.invokestatic 54, 3) := by decide +kernel
theorem dX12_number_39 : decode cX12_number 39 = .ok (.ifCond .ne 8, 3) := by decide +kernel
theorem dX12_number_42 : decode cX12_number 42 = .ok (.aload_n 0, 1) := by decide +kernel
theorem dX12_number_43 : decode cX12_number 43 = .ok (.iconst 2, 1) := by decide +kernel
theorem dX12_number_44 : decode cX12_number 44 = .ok (.invokevirtual 102, 3) := by decide +kernel
theorem dX12_number_47 : decode cX12_number 47 = .ok (.aload_n 0, 1) := by decide +kernel
theorem dX12_number_48 : decode cX12_number 48 = .ok (.getfield 75, 3) := by decide +kernel
theorem dX12_number_51 : decode cX12_number 51 = .ok (.ifCond .ne 10, 3) := by decide +kernel
theorem dX12_number_54 : decode cX12_number 54 = .ok (.aload_n 0, 1) := by decide +kernel
theorem dX12_number_55 : decode cX12_number 55 = .ok (.getfield 88, 3) := by decide +kernel
theorem dX12_number_58 : decode cX12_number 58 = .ok (.goto 4, 3) := by decide +kernel
theorem dX12_number_61 : decode cX12_number 61 = .ok (.iload_n 1, 1) := by decide +kernel
theorem dX12_number_62 : decode cX12_number 62 = .ok (.istore_n 3, 1) := by decide +kernel
theorem dX12_number_63 : decode cX12_number 63 = .ok (.aload_n 0, 1) := by decide +kernel
theorem dX12_number_64 : decode cX12_number 64 = .ok (.iconst 1, 1) := by decide +kernel
theorem dX12_number_65 : decode cX12_number 65 = .ok (.invokevirtual 109, 3) := by decide +kernel
theorem dX12_number_68 : decode cX12_number 68 = .ok (.iload_n 3, 1) := by decide +kernel
theorem dX12_number_69 : decode cX12_number 69 = .ok (.ireturn, 1) := by decide +kernel
theorem dX12_mustSign_0 : decode cX12_mustSign 0 = .ok (.aload_n 0, 1) := by decide +kernel
theorem dX12_mustSign_1 : decode cX12_mustSign 1 = .ok (.aload_n 0, 1) := by decide +kernel
theorem dX12_mustSign_2 : decode cX12_mustSign 2 = .ok (.getfield 99, 3) := by decide +kernel
theorem dX12_mustSign_5 : decode cX12_mustSign 5 = .ok (.iconst 4, 1) := by decide +kernel
theorem dX12_mustSign_6 : decode cX12_mustSign 6 = .ok (.if_icmp .ne 15, 3) := by decide +kernel
theorem dX12_mustSign_9 : decode cX12_mustSign 9 = .ok (.aload_n 0, 1) := by decide +kernel
theorem dX12_mustSign_10 : decode cX12_mustSign 10 = .ok (.getfield 88, 3) := by decide +kernel
theorem dX12_mustSign_13 : decode cX12_mustSign 13 = .ok (.iload_n 1, 1) := by decide +kernel
theorem dX12_mustSign_14 : decode cX12_mustSign 14 = .ok (.if_icmp .ne 7, 3) := by decide +kernel
theorem dX12_mustSign_17 : decode cX12_mustSign 17 = .ok (.iconst 1, 1) := by decide +kernel
theorem dX12_mustSign_18 : decode cX12_mustSign 18 = .ok (.goto 4, 3) := by decide +kernel
theorem dX12_mustSign_21 : decode cX12_mustSign 21 = .ok (.iconst 0, 1) := by decide +kernel
theorem dX12_mustSign_22 : decode cX12_mustSign 22 = .ok (.invokevirtual 109, 3) := by decide +kernel
theorem dX12_mustSign_25 : decode cX12_mustSign 25 = .ok (.return_, 1) := by decide +kernel
theorem dX12_begin_0 : decode cX12_begin 0 = .ok (.aload_n 0, 1) := by decide +kernel
theorem dX12_begin_1 : decode cX12_begin 1 = .ok (.iconst 0, 1) := by decide +kernel
theorem dX12_begin_2 : decode cX12_begin 2 = .ok (.putfield 84, 3) := by decide +kernel
theorem dX12_begin_5 : decode cX12_begin 5 = .ok (.aload_n 0, 1) := by decide +kernel
theorem dX12_begin_6 : decode cX12_begin 6 = .ok (.iconst 0, 1) := by decide +kernel
theorem dX12_begin_7 : decode cX12_begin 7 = .ok (.putfield 75, 3) := by decide +kernel
theorem dX12_begin_10 : decode cX12_begin 10 = .ok (.aload_n 0, 1) := by decide +kernel
theorem dX12_begin_11 : decode cX12_begin 11 = .ok (.invokevirtual 106, 3) := by decide +kernel
theorem dX12_begin_14 : decode cX12_begin 14 = .ok (.return_, 1) := by decide +kernel
theorem dX12_failed_0 : decode cX12_failed 0 = .ok (.aload_n 0, 1) := by decide +kernel
theorem dX12_failed_1 : decode cX12_failed 1 = .ok (.getfield 75, 3) := by decide +kernel
theorem dX12_failed_4 : decode cX12_failed 4 = .ok (.ifCond .ne 16, 3) := by decide +kernel
theorem dX12_failed_7 : decode cX12_failed 7 = .ok (.aload_n 0, 1) := by decide +kernel
theorem dX12_failed_8 : decode cX12_failed 8 = .ok (.getfield 99, 3) := by decide +kernel
theorem dX12_failed_11 : decode cX12_failed 11 = .ok (.iconst 1, 1) := by decide +kernel
theorem dX12_failed_12 : decode cX12_failed 12 = .ok (.if_icmp .eq 8, 3) := by decide +kernel
theorem dX12_failed_15 : decode cX12_failed 15 = .ok (.aload_n 0, 1) := by decide +kernel
theorem dX12_failed_16 : decode cX12_failed 16 = .ok (.iconst 1, 1) := by decide +kernel
theorem dX12_failed_17 : decode cX12_failed 17 = .ok (.invokevirtual 102, 3) := by decide +kernel
theorem dX12_failed_20 : decode cX12_failed 20 = .ok (.aload_n 0, 1) := by decide +kernel
theorem dX12_failed_21 : decode cX12_failed 21 = .ok (.iconst 0, 1) := by decide +kernel
theorem dX12_failed_22 : decode cX12_failed 22 = .ok (.putfield 71, 3) := by decide +kernel
theorem dX12_failed_25 : decode cX12_failed 25 = .ok (.aload_n 0, 1) := by decide +kernel
theorem dX12_failed_26 : decode cX12_failed 26 = .ok (.aload_n 0, 1) := by decide +kernel
theorem dX12_failed_27 : decode cX12_failed 27 = .ok (.getfield 75, 3) := by decide +kernel
theorem dX12_failed_30 : decode cX12_failed 30 = .ok (.ifCond .le 10, 3) := by decide +kernel
theorem dX12_failed_33 : decode cX12_failed 33 = .ok (.aload_n 0, 1) := by decide +kernel
theorem dX12_failed_34 : decode cX12_failed 34 = .ok (.getfield 75, 3) := by decide +kernel
theorem dX12_failed_37 : decode cX12_failed 37 = .ok (.goto 7, 3) := by decide +kernel
theorem dX12_failed_40 : decode cX12_failed 40 = .ok (.aload_n 0, 1) := by decide +kernel
theorem dX12_failed_41 : decode cX12_failed 41 = .ok (.getfield 113, 3) := by decide +kernel
theorem dX12_failed_44 : decode cX12_failed 44 = .ok (.putfield 113, 3) := by decide +kernel
theorem dX12_failed_47 : decode cX12_failed 47 = .ok (.aload_n 0, 1) := by decide +kernel
theorem dX12_failed_48 : decode cX12_failed 48 = .ok (.getfield 75, 3) := by decide +kernel
theorem dX12_failed_51 : decode cX12_failed 51 = .ok (.ifCond .le 7, 3) := by decide +kernel
theorem dX12_failed_54 : decode cX12_failed 54 = .ok (.iconst 1, 1) := by decide +kernel
theorem dX12_failed_55 : decode cX12_failed 55 = .ok (.goto 4, 3) := by decide +kernel
theorem dX12_failed_58 : decode cX12_failed 58 = .ok (.iconst 0, 1) := by decide +kernel
theorem dX12_failed_59 : decode cX12_failed 59 = .ok (.ireturn, 1) := by decide +kernel
theorem dX12_fault_0 : decode cX12_fault 0 = .ok (.aload_n 0, 1) := by decide +kernel
theorem dX12_fault_1 : decode cX12_fault 1 = .ok (.iconst 0, 1) := by decide +kernel
theorem dX12_fault_2 : decode cX12_fault 2 = .ok (.putfield 44, 3) := by decide +kernel
theorem dX12_fault_5 : decode cX12_fault 5 = .ok (.aload_n 0, 1) := by decide +kernel
theorem dX12_fault_6 : decode cX12_fault 6 = .ok (.getfield 113, 3) := by decide +kernel
theorem dX12_fault_9 : decode cX12_fault 9 = .ok (.ireturn, 1) := by decide +kernel
theorem dX12_kindBy_0 : decode cX12_kindBy 0 = .ok (.iload_n 0, 1) := by decide +kernel
theorem dX12_kindBy_1 : decode cX12_kindBy 1 = .ok (.bipush 103, 2) := by decide +kernel
theorem dX12_kindBy_3 : decode cX12_kindBy 3 = .ok (.if_icmp .ne 7, 3) := by decide +kernel
theorem dX12_kindBy_6 : decode cX12_kindBy 6 = .ok (.iconst 1, 1) := by decide +kernel
theorem dX12_kindBy_7 : decode cX12_kindBy 7 = .ok (.goto 45, 3) := by decide +kernel
theorem dX12_kindBy_10 : decode cX12_kindBy 10 = .ok (.iload_n 0, 1) := by decide +kernel
theorem dX12_kindBy_11 : decode cX12_kindBy 11 = .ok (.bipush 115, 2) := by decide +kernel
theorem dX12_kindBy_13 : decode cX12_kindBy 13 = .ok (.if_icmp .ne 7, 3) := by decide +kernel
theorem dX12_kindBy_16 : decode cX12_kindBy 16 = .ok (.iconst 2, 1) := by decide +kernel
theorem dX12_kindBy_17 : decode cX12_kindBy 17 = .ok (.goto 35, 3) := by decide +kernel
theorem dX12_kindBy_20 : decode cX12_kindBy 20 = .ok (.iload_n 0, 1) := by decide +kernel
theorem dX12_kindBy_21 : decode cX12_kindBy 21 = .ok (.bipush 100, 2) := by decide +kernel
theorem dX12_kindBy_23 : decode cX12_kindBy 23 = .ok (.if_icmp .ne 7, 3) := by decide +kernel
theorem dX12_kindBy_26 : decode cX12_kindBy 26 = .ok (.iconst 3, 1) := by decide +kernel
theorem dX12_kindBy_27 : decode cX12_kindBy 27 = .ok (.goto 25, 3) := by decide +kernel
theorem dX12_kindBy_30 : decode cX12_kindBy 30 = .ok (.iload_n 0, 1) := by decide +kernel
theorem dX12_kindBy_31 : decode cX12_kindBy 31 = .ok (.bipush 99, 2) := by decide +kernel
theorem dX12_kindBy_33 : decode cX12_kindBy 33 = .ok (.if_icmp .ne 7, 3) := by decide +kernel
theorem dX12_kindBy_36 : decode cX12_kindBy 36 = .ok (.iconst 4, 1) := by decide +kernel
theorem dX12_kindBy_37 : decode cX12_kindBy 37 = .ok (.goto 15, 3) := by decide +kernel
theorem dX12_kindBy_40 : decode cX12_kindBy 40 = .ok (.iload_n 0, 1) := by decide +kernel
theorem dX12_kindBy_41 : decode cX12_kindBy 41 = .ok (.bipush 114, 2) := by decide +kernel
theorem dX12_kindBy_43 : decode cX12_kindBy 43 = .ok (.if_icmp .ne 7, 3) := by decide +kernel
theorem dX12_kindBy_46 : decode cX12_kindBy 46 = .ok (.iconst 5, 1) := by decide +kernel
theorem dX12_kindBy_47 : decode cX12_kindBy 47 = .ok (.goto 5, 3) := by decide +kernel
theorem dX12_kindBy_50 : decode cX12_kindBy 50 = .ok (.ldc 87, 2) := by decide +kernel
theorem dX12_kindBy_52 : decode cX12_kindBy 52 = .ok (.ireturn, 1) := by decide +kernel
theorem dX12_readCell_0 : decode cX12_readCell 0 = .ok (.iload_n 2, 1) := by decide +kernel
theorem dX12_readCell_1 : decode cX12_readCell 1 = .ok (.bipush 15, 2) := by decide +kernel
theorem dX12_readCell_3 : decode cX12_readCell 3 = .ok (.if_icmp .ne 8, 3) := by decide +kernel
theorem dX12_readCell_6 : decode cX12_readCell 6 = .ok (.aload_n 0, 1) := by decide +kernel
theorem dX12_readCell_7 : decode cX12_readCell 7 = .ok (.iconst 3, 1) := by decide +kernel
theorem dX12_readCell_8 : decode cX12_readCell 8 = .ok (.invokevirtual 102, 3) := by decide +kernel
theorem dX12_readCell_11 : decode cX12_readCell 11 = .ok (.aload_n 0, 1) := by decide +kernel
theorem dX12_readCell_12 : decode cX12_readCell 12 = .ok (.iconst 1, 1) := by decide +kernel
theorem dX12_readCell_13 : decode cX12_readCell 13 = .ok (.invokevirtual 109, 3) := by decide +kernel
theorem dX12_readCell_16 : decode cX12_readCell 16 = .ok (.aload_n 0, 1) := by decide +kernel
theorem dX12_readCell_17 : decode cX12_readCell 17 = .ok (.getfield 75, 3) := by decide +kernel
theorem dX12_readCell_20 : decode cX12_readCell 20 = .ok (.ifCond .ne 37, 3) := by decide +kernel
theorem dX12_readCell_23 : decode cX12_readCell 23 = .ok (.aload_n 0, 1) := by decide +kernel
theorem dX12_readCell_24 : decode cX12_readCell 24 = .ok (.getfield 99, 3) := by decide +kernel
theorem dX12_readCell_27 : decode cX12_readCell 27 = .ok (.iconst 3, 1) := by decide +kernel
theorem dX12_readCell_28 : decode cX12_readCell 28 = .ok (.if_icmp .ne 29, 3) := by decide +kernel
theorem dX12_readCell_31 : decode cX12_readCell 31 = .ok (.aload_n 0, 1) := by decide +kernel
theorem dX12_readCell_32 : decode cX12_readCell 32 = .ok (.getfield 88, 3) := by decide +kernel
theorem dX12_readCell_35 : decode cX12_readCell 35 = .ok (.bipush 15, 2) := by decide +kernel
theorem dX12_readCell_37 : decode cX12_readCell 37 = .ok (.if_icmp .ge 20, 3) := by decide +kernel
theorem dX12_readCell_40 : decode cX12_readCell 40 = .ok (.iload_n 1, 1) := by decide +kernel
theorem dX12_readCell_41 : decode cX12_readCell 41 = .ok (.aload_n 0, 1) := by decide +kernel
theorem dX12_readCell_42 : decode cX12_readCell 42 = .ok (.getfield 88, 3) := by decide +kernel
theorem dX12_readCell_45 : decode cX12_readCell 45 = .ok (.ishr, 1) := by decide +kernel
theorem dX12_readCell_46 : decode cX12_readCell 46 = .ok (.iconst 1, 1) := by decide +kernel
theorem dX12_readCell_47 : decode cX12_readCell 47 = .ok (.iand, 1) := by decide +kernel
theorem dX12_readCell_48 : decode cX12_readCell 48 = .ok (.iconst 1, 1) := by decide +kernel
theorem dX12_readCell_49 : decode cX12_readCell 49 = .ok (.if_icmp .ne 8, 3) := by decide +kernel
theorem dX12_readCell_52 : decode cX12_readCell 52 = .ok (.aload_n 0, 1) := by decide +kernel
theorem dX12_readCell_53 : decode cX12_readCell 53 = .ok (.iconst 2, 1) := by decide +kernel
theorem dX12_readCell_54 : decode cX12_readCell 54 = .ok (.invokevirtual 102, 3) := by decide +kernel
theorem dX12_readCell_57 : decode cX12_readCell 57 = .ok (.aload_n 0, 1) := by decide +kernel
theorem dX12_readCell_58 : decode cX12_readCell 58 = .ok (.iconst 0, 1) := by decide +kernel
theorem dX12_readCell_59 : decode cX12_readCell 59 = .ok (.bipush 14, 2) := by decide +kernel
theorem dX12_readCell_61 : decode cX12_readCell 61 = .ok (.invokevirtual 116, 3) := by decide +kernel
theorem dX12_readCell_64 : decode cX12_readCell 64 = .ok (.istore_n 3, 1) := by decide +kernel
theorem dX12_readCell_65 : decode cX12_readCell 65 = .ok (.aload_n 0, 1) := by decide +kernel
theorem dX12_readCell_66 : decode cX12_readCell 66 = .ok (.bipush 44, 2) := by decide +kernel
theorem dX12_readCell_68 : decode cX12_readCell 68 = .ok (.invokevirtual 120, 3) := by decide +kernel
theorem dX12_readCell_71 : decode cX12_readCell 71 = .ok (.aload_n 0, 1) := by decide +kernel
theorem dX12_readCell_72 : decode cX12_readCell 72 = .ok (.iconst 0, 1) := by decide +kernel
theorem dX12_readCell_73 : decode cX12_readCell 73 = .ok (.bipush 99, 2) := by decide +kernel
theorem dX12_readCell_75 : decode cX12_readCell 75 = .ok (.invokevirtual 116, 3) := by decide +kernel
theorem dX12_readCell_78 : decode cX12_readCell 78 = .ok (.istore 4, 2) := by decide +kernel
theorem dX12_readCell_80 : decode cX12_readCell 80 = .ok (.aload_n 0, 1) := by decide +kernel
theorem dX12_readCell_81 : decode cX12_readCell 81 = .ok (.bipush 59, 2) := by decide +kernel
theorem dX12_readCell_83 : decode cX12_readCell 83 = .ok (.invokevirtual 120, 3) := by decide +kernel
theorem dX12_readCell_86 : decode cX12_readCell 86 = .ok (.aload_n 0, 1) := by decide +kernel
theorem dX12_readCell_87 : decode cX12_readCell 87 = .ok (.getfield 75, 3) := by decide +kernel
theorem dX12_readCell_90 : decode cX12_readCell 90 = .ok (.ifCond .ne 19, 3) := by decide +kernel
theorem dX12_readCell_93 : decode cX12_readCell 93 = .ok (.aload_n 0, 1) := by decide +kernel
theorem dX12_readCell_94 : decode cX12_readCell 94 = .ok (.getfield 22, 3) := by decide +kernel
theorem dX12_readCell_97 : decode cX12_readCell 97 = .ok (.bipush 6, 2) := by decide +kernel
theorem dX12_readCell_99 : decode cX12_readCell 99 = .ok (.iload_n 3, 1) := by decide +kernel
theorem dX12_readCell_100 : decode cX12_readCell 100 = .ok (.iadd, 1) := by decide +kernel
theorem dX12_readCell_101 : decode cX12_readCell 101 = .ok (.iload 4, 2) := by decide +kernel
theorem dX12_readCell_103 : decode cX12_readCell 103 = .ok (.iastore, 1) := by decide +kernel
theorem dX12_readCell_104 : decode cX12_readCell 104 = .ok (.aload_n 0, 1) := by decide +kernel
theorem dX12_readCell_105 : decode cX12_readCell 105 = .ok (.iload_n 3, 1) := by decide +kernel
theorem dX12_readCell_106 : decode cX12_readCell 106 = .ok (.putfield 123, 3) := by decide +kernel
theorem dX12_readCell_109 : decode cX12_readCell 109 = .ok (.return_, 1) := by decide +kernel
theorem dX12_stepFrom_0 : decode cX12_stepFrom 0 = .ok (.iload_n 0, 1) := by decide +kernel
theorem dX12_stepFrom_1 : decode cX12_stepFrom 1 = .ok (.iconst 5, 1) := by decide +kernel
theorem dX12_stepFrom_2 : decode cX12_stepFrom 2 = .ok (.irem, 1) := by decide +kernel
theorem dX12_stepFrom_3 : decode cX12_stepFrom 3 = .ok (.istore_n 2, 1) := by decide +kernel
theorem dX12_stepFrom_4 : decode cX12_stepFrom 4 = .ok (.iload_n 1, 1) := by decide +kernel
theorem dX12_stepFrom_5 : decode cX12_stepFrom 5 = .ok (.bipush 101, 2) := by decide +kernel
theorem dX12_stepFrom_7 : decode cX12_stepFrom 7 = .ok (.if_icmp .ne 17, 3) := by decide +kernel
theorem dX12_stepFrom_10 : decode cX12_stepFrom 10 = .ok (.iload_n 2, 1) := by decide +kernel
theorem dX12_stepFrom_11 : decode cX12_stepFrom 11 = .ok (.iconst 4, 1) := by decide +kernel
theorem dX12_stepFrom_12 : decode cX12_stepFrom 12 = .ok (.if_icmp .ge 9, 3) := by decide +kernel
theorem dX12_stepFrom_15 : decode cX12_stepFrom 15 = .ok (.iload_n 0, 1) := by decide +kernel
theorem dX12_stepFrom_16 : decode cX12_stepFrom 16 = .ok (.iconst 1, 1) := by decide +kernel
theorem dX12_stepFrom_17 : decode cX12_stepFrom 17 = .ok (.iadd, 1) := by decide +kernel
theorem dX12_stepFrom_18 : decode cX12_stepFrom 18 = .ok (.goto 5, 3) := by decide +kernel
theorem dX12_stepFrom_21 : decode cX12_stepFrom 21 = .ok (.ldc 87, 2) := by decide +kernel
theorem dX12_stepFrom_23 : decode cX12_stepFrom 23 = .ok (.ireturn, 1) := by decide +kernel
theorem dX12_stepFrom_24 : decode cX12_stepFrom 24 = .ok (.iload_n 1, 1) := by decide +kernel
theorem dX12_stepFrom_25 : decode cX12_stepFrom 25 = .ok (.bipush 119, 2) := by decide +kernel
theorem dX12_stepFrom_27 : decode cX12_stepFrom 27 = .ok (.if_icmp .ne 16, 3) := by decide +kernel
theorem dX12_stepFrom_30 : decode cX12_stepFrom 30 = .ok (.iload_n 2, 1) := by decide +kernel
theorem dX12_stepFrom_31 : decode cX12_stepFrom 31 = .ok (.ifCond .le 9, 3) := by decide +kernel
theorem dX12_stepFrom_34 : decode cX12_stepFrom 34 = .ok (.iload_n 0, 1) := by decide +kernel
theorem dX12_stepFrom_35 : decode cX12_stepFrom 35 = .ok (.iconst 1, 1) := by decide +kernel
theorem dX12_stepFrom_36 : decode cX12_stepFrom 36 = .ok (.isub, 1) := by decide +kernel
theorem dX12_stepFrom_37 : decode cX12_stepFrom 37 = .ok (.goto 5, 3) := by decide +kernel
theorem dX12_stepFrom_40 : decode cX12_stepFrom 40 = .ok (.ldc 87, 2) := by decide +kernel
theorem dX12_stepFrom_42 : decode cX12_stepFrom 42 = .ok (.ireturn, 1) := by decide +kernel
theorem dX12_stepFrom_43 : decode cX12_stepFrom 43 = .ok (.iload_n 1, 1) := by decide +kernel
theorem dX12_stepFrom_44 : decode cX12_stepFrom 44 = .ok (.bipush 110, 2) := by decide +kernel
theorem dX12_stepFrom_46 : decode cX12_stepFrom 46 = .ok (.if_icmp .ne 17, 3) := by decide +kernel
theorem dX12_stepFrom_49 : decode cX12_stepFrom 49 = .ok (.iload_n 0, 1) := by decide +kernel
theorem dX12_stepFrom_50 : decode cX12_stepFrom 50 = .ok (.iconst 4, 1) := by decide +kernel
theorem dX12_stepFrom_51 : decode cX12_stepFrom 51 = .ok (.if_icmp .le 9, 3) := by decide +kernel
theorem dX12_stepFrom_54 : decode cX12_stepFrom 54 = .ok (.iload_n 0, 1) := by decide +kernel
theorem dX12_stepFrom_55 : decode cX12_stepFrom 55 = .ok (.iconst 5, 1) := by decide +kernel
theorem dX12_stepFrom_56 : decode cX12_stepFrom 56 = .ok (.isub, 1) := by decide +kernel
theorem dX12_stepFrom_57 : decode cX12_stepFrom 57 = .ok (.goto 5, 3) := by decide +kernel
theorem dX12_stepFrom_60 : decode cX12_stepFrom 60 = .ok (.ldc 87, 2) := by decide +kernel
theorem dX12_stepFrom_62 : decode cX12_stepFrom 62 = .ok (.ireturn, 1) := by decide +kernel
theorem dX12_stepFrom_63 : decode cX12_stepFrom 63 = .ok (.iload_n 1, 1) := by decide +kernel
theorem dX12_stepFrom_64 : decode cX12_stepFrom 64 = .ok (.bipush 98, 2) := by decide +kernel
theorem dX12_stepFrom_66 : decode cX12_stepFrom 66 = .ok (.if_icmp .ne 15, 3) := by decide +kernel
theorem dX12_stepFrom_69 : decode cX12_stepFrom 69 = .ok (.iload_n 0, 1) := by decide +kernel
theorem dX12_stepFrom_70 : decode cX12_stepFrom 70 = .ok (.bipush 10, 2) := by decide +kernel
theorem dX12_stepFrom_72 : decode cX12_stepFrom 72 = .ok (.if_icmp .ge 9, 3) := by decide +kernel
theorem dX12_stepFrom_75 : decode cX12_stepFrom 75 = .ok (.iload_n 0, 1) := by decide +kernel
theorem dX12_stepFrom_76 : decode cX12_stepFrom 76 = .ok (.iconst 5, 1) := by decide +kernel
theorem dX12_stepFrom_77 : decode cX12_stepFrom 77 = .ok (.iadd, 1) := by decide +kernel
theorem dX12_stepFrom_78 : decode cX12_stepFrom 78 = .ok (.goto 5, 3) := by decide +kernel
theorem dX12_stepFrom_81 : decode cX12_stepFrom 81 = .ok (.ldc 87, 2) := by decide +kernel
theorem dX12_stepFrom_83 : decode cX12_stepFrom 83 = .ok (.ireturn, 1) := by decide +kernel
theorem dX12_readPass_0 : decode cX12_readPass 0 = .ok (.aload_n 0, 1) := by decide +kernel
theorem dX12_readPass_1 : decode cX12_readPass 1 = .ok (.getfield 88, 3) := by decide +kernel
theorem dX12_readPass_4 : decode cX12_readPass 4 = .ok (.invokestatic 126, 3) := by decide +kernel
theorem dX12_readPass_7 : decode cX12_readPass 7 = .ok (.istore_n 1, 1) := by decide +kernel
theorem dX12_readPass_8 : decode cX12_readPass 8 = .ok (.aload_n 0, 1) := by decide +kernel
theorem dX12_readPass_9 : decode cX12_readPass 9 = .ok (.getfield 22, 3) := by decide +kernel
theorem dX12_readPass_12 : decode cX12_readPass 12 = .ok (.iconst 5, 1) := by decide +kernel
theorem dX12_readPass_13 : decode cX12_readPass 13 = .ok (.iaload, 1) := by decide +kernel
theorem dX12_readPass_14 : decode cX12_readPass 14 = .ok (.iconst 4, 1) := by decide +kernel
theorem dX12_readPass_15 : decode cX12_readPass 15 = .ok (.if_icmp .ne 8, 3) := by decide +kernel
theorem dX12_readPass_18 : decode cX12_readPass 18 = .ok (.aload_n 0, 1) := by decide +kernel
theorem dX12_readPass_19 : decode cX12_readPass 19 = .ok (.iconst 3, 1) := by decide +kernel
theorem dX12_readPass_20 : decode cX12_readPass 20 = .ok (.invokevirtual 102, 3) := by decide +kernel
theorem dX12_readPass_23 : decode cX12_readPass 23 = .ok (.aload_n 0, 1) := by decide +kernel
theorem dX12_readPass_24 : decode cX12_readPass 24 = .ok (.iconst 1, 1) := by decide +kernel
theorem dX12_readPass_25 : decode cX12_readPass 25 = .ok (.invokevirtual 109, 3) := by decide +kernel
theorem dX12_readPass_28 : decode cX12_readPass 28 = .ok (.aload_n 0, 1) := by decide +kernel
theorem dX12_readPass_29 : decode cX12_readPass 29 = .ok (.iconst 0, 1) := by decide +kernel
theorem dX12_readPass_30 : decode cX12_readPass 30 = .ok (.bipush 14, 2) := by decide +kernel
theorem dX12_readPass_32 : decode cX12_readPass 32 = .ok (.invokevirtual 116, 3) := by decide +kernel
theorem dX12_readPass_35 : decode cX12_readPass 35 = .ok (.istore_n 2, 1) := by decide +kernel
theorem dX12_readPass_36 : decode cX12_readPass 36 = .ok (.bipush 51, 2) := by decide +kernel
theorem dX12_readPass_38 : decode cX12_readPass 38 = .ok (.bipush 11, 2) := by decide +kernel
theorem dX12_readPass_40 : decode cX12_readPass 40 = .ok (.aload_n 0, 1) := by decide +kernel
theorem dX12_readPass_41 : decode cX12_readPass 41 = .ok (.getfield 22, 3) := by decide +kernel
theorem dX12_readPass_44 : decode cX12_readPass 44 = .ok (.iconst 5, 1) := by decide +kernel
theorem dX12_readPass_45 : decode cX12_readPass 45 = .ok (.iaload, 1) := by decide +kernel
theorem dX12_readPass_46 : decode cX12_readPass 46 = .ok (.iconst 3, 1) := by decide +kernel
theorem dX12_readPass_47 : decode cX12_readPass 47 = .ok (.iand, 1) := by decide +kernel
theorem dX12_readPass_48 : decode cX12_readPass 48 = .ok (.imul, 1) := by decide +kernel
theorem dX12_readPass_49 : decode cX12_readPass 49 = .ok (.iadd, 1) := by decide +kernel
theorem dX12_readPass_50 : decode cX12_readPass 50 = .ok (.istore_n 3, 1) := by decide +kernel
theorem dX12_readPass_51 : decode cX12_readPass 51 = .ok (.iconst 1, 1) := by decide +kernel
theorem dX12_readPass_52 : decode cX12_readPass 52 = .ok (.istore 4, 2) := by decide +kernel
theorem dX12_readPass_54 : decode cX12_readPass 54 = .ok (.aload_n 0, 1) := by decide +kernel
theorem dX12_readPass_55 : decode cX12_readPass 55 = .ok (.getfield 22, 3) := by decide +kernel
theorem dX12_readPass_58 : decode cX12_readPass 58 = .ok (.iload_n 3, 1) := by decide +kernel
theorem dX12_readPass_59 : decode cX12_readPass 59 = .ok (.iload_n 1, 1) := by decide +kernel
theorem dX12_readPass_60 : decode cX12_readPass 60 = .ok (.iastore, 1) := by decide +kernel
theorem dX12_readPass_61 : decode cX12_readPass 61 = .ok (.aload_n 0, 1) := by decide +kernel
theorem dX12_readPass_62 : decode cX12_readPass 62 = .ok (.getfield 22, 3) := by decide +kernel
theorem dX12_readPass_65 : decode cX12_readPass 65 = .ok (.iload_n 3, 1) := by decide +kernel
theorem dX12_readPass_66 : decode cX12_readPass 66 = .ok (.iconst 2, 1) := by decide +kernel
theorem dX12_readPass_67 : decode cX12_readPass 67 = .ok (.iadd, 1) := by decide +kernel
theorem dX12_readPass_68 : decode cX12_readPass 68 = .ok (.iload_n 2, 1) := by decide +kernel
theorem dX12_readPass_69 : decode cX12_readPass 69 = .ok (.iastore, 1) := by decide +kernel
theorem dX12_readPass_70 : decode cX12_readPass 70 = .ok (.aload_n 0, 1) := by decide +kernel
theorem dX12_readPass_71 : decode cX12_readPass 71 = .ok (.getfield 75, 3) := by decide +kernel
theorem dX12_readPass_74 : decode cX12_readPass 74 = .ok (.ifCond .ne 72, 3) := by decide +kernel
theorem dX12_readPass_77 : decode cX12_readPass 77 = .ok (.aload_n 0, 1) := by decide +kernel
theorem dX12_readPass_78 : decode cX12_readPass 78 = .ok (.getfield 99, 3) := by decide +kernel
theorem dX12_readPass_81 : decode cX12_readPass 81 = .ok (.iconst 2, 1) := by decide +kernel
theorem dX12_readPass_82 : decode cX12_readPass 82 = .ok (.if_icmp .ne 64, 3) := by decide +kernel
theorem dX12_readPass_85 : decode cX12_readPass 85 = .ok (.iload 4, 2) := by decide +kernel
theorem dX12_readPass_87 : decode cX12_readPass 87 = .ok (.bipush 9, 2) := by decide +kernel
theorem dX12_readPass_89 : decode cX12_readPass 89 = .ok (.if_icmp .ge 14, 3) := by decide +kernel
theorem dX12_readPass_92 : decode cX12_readPass 92 = .ok (.iload_n 2, 1) := by decide +kernel
theorem dX12_readPass_93 : decode cX12_readPass 93 = .ok (.aload_n 0, 1) := by decide +kernel
theorem dX12_readPass_94 : decode cX12_readPass 94 = .ok (.getfield 88, 3) := by decide +kernel
theorem dX12_readPass_97 : decode cX12_readPass 97 = .ok (.invokestatic 129, 3) := by decide +kernel
theorem dX12_readPass_100 : decode cX12_readPass 100 = .ok (.goto 5, 3) := by decide +kernel
theorem dX12_readPass_103 : decode cX12_readPass 103 = .ok (.ldc 87, 2) := by decide +kernel
theorem dX12_readPass_105 : decode cX12_readPass 105 = .ok (.istore_n 2, 1) := by decide +kernel
theorem dX12_readPass_106 : decode cX12_readPass 106 = .ok (.aload_n 0, 1) := by decide +kernel
theorem dX12_readPass_107 : decode cX12_readPass 107 = .ok (.iload_n 2, 1) := by decide +kernel
theorem dX12_readPass_108 : decode cX12_readPass 108 = .ok (.ldc 87, 2) := by decide +kernel
theorem dX12_readPass_110 : decode cX12_readPass 110 = .ok (.if_icmp .eq 7, 3) := by decide +kernel
theorem dX12_readPass_113 : decode cX12_readPass 113 = .ok (.iconst 1, 1) := by decide +kernel
theorem dX12_readPass_114 : decode cX12_readPass 114 = .ok (.goto 4, 3) := by decide +kernel
theorem dX12_readPass_117 : decode cX12_readPass 117 = .ok (.iconst 0, 1) := by decide +kernel
theorem dX12_readPass_118 : decode cX12_readPass 118 = .ok (.invokevirtual 109, 3) := by decide +kernel
theorem dX12_readPass_121 : decode cX12_readPass 121 = .ok (.aload_n 0, 1) := by decide +kernel
theorem dX12_readPass_122 : decode cX12_readPass 122 = .ok (.getfield 75, 3) := by decide +kernel
theorem dX12_readPass_125 : decode cX12_readPass 125 = .ok (.ifCond .ne (-55), 3) := by decide +kernel
theorem dX12_readPass_128 : decode cX12_readPass 128 = .ok (.aload_n 0, 1) := by decide +kernel
theorem dX12_readPass_129 : decode cX12_readPass 129 = .ok (.getfield 22, 3) := by decide +kernel
theorem dX12_readPass_132 : decode cX12_readPass 132 = .ok (.iload_n 3, 1) := by decide +kernel
theorem dX12_readPass_133 : decode cX12_readPass 133 = .ok (.iconst 2, 1) := by decide +kernel
theorem dX12_readPass_134 : decode cX12_readPass 134 = .ok (.iadd, 1) := by decide +kernel
theorem dX12_readPass_135 : decode cX12_readPass 135 = .ok (.iload 4, 2) := by decide +kernel
theorem dX12_readPass_137 : decode cX12_readPass 137 = .ok (.iadd, 1) := by decide +kernel
theorem dX12_readPass_138 : decode cX12_readPass 138 = .ok (.iload_n 2, 1) := by decide +kernel
theorem dX12_readPass_139 : decode cX12_readPass 139 = .ok (.iastore, 1) := by decide +kernel
theorem dX12_readPass_140 : decode cX12_readPass 140 = .ok (.iinc 4 1, 3) := by decide +kernel
theorem dX12_readPass_143 : decode cX12_readPass 143 = .ok (.goto (-73), 3) := by decide +kernel
theorem dX12_readPass_146 : decode cX12_readPass 146 = .ok (.aload_n 0, 1) := by decide +kernel
theorem dX12_readPass_147 : decode cX12_readPass 147 = .ok (.bipush 59, 2) := by decide +kernel
theorem dX12_readPass_149 : decode cX12_readPass 149 = .ok (.invokevirtual 120, 3) := by decide +kernel
theorem dX12_readPass_152 : decode cX12_readPass 152 = .ok (.aload_n 0, 1) := by decide +kernel
theorem dX12_readPass_153 : decode cX12_readPass 153 = .ok (.getfield 22, 3) := by decide +kernel
theorem dX12_readPass_156 : decode cX12_readPass 156 = .ok (.iload_n 3, 1) := by decide +kernel
theorem dX12_readPass_157 : decode cX12_readPass 157 = .ok (.iconst 1, 1) := by decide +kernel
theorem dX12_readPass_158 : decode cX12_readPass 158 = .ok (.iadd, 1) := by decide +kernel
theorem dX12_readPass_159 : decode cX12_readPass 159 = .ok (.iload 4, 2) := by decide +kernel
theorem dX12_readPass_161 : decode cX12_readPass 161 = .ok (.iastore, 1) := by decide +kernel
theorem dX12_readPass_162 : decode cX12_readPass 162 = .ok (.aload_n 0, 1) := by decide +kernel
theorem dX12_readPass_163 : decode cX12_readPass 163 = .ok (.getfield 22, 3) := by decide +kernel
theorem dX12_readPass_166 : decode cX12_readPass 166 = .ok (.iconst 5, 1) := by decide +kernel
theorem dX12_readPass_167 : decode cX12_readPass 167 = .ok (.dup2, 1) := by decide +kernel
theorem dX12_readPass_168 : decode cX12_readPass 168 = .ok (.iaload, 1) := by decide +kernel
theorem dX12_readPass_169 : decode cX12_readPass 169 = .ok (.aload_n 0, 1) := by decide +kernel
theorem dX12_readPass_170 : decode cX12_readPass 170 = .ok (.getfield 75, 3) := by decide +kernel
theorem dX12_readPass_173 : decode cX12_readPass 173 = .ok (.ifCond .ne 7, 3) := by decide +kernel
theorem dX12_readPass_176 : decode cX12_readPass 176 = .ok (.iconst 1, 1) := by decide +kernel
theorem dX12_readPass_177 : decode cX12_readPass 177 = .ok (.goto 4, 3) := by decide +kernel
theorem dX12_readPass_180 : decode cX12_readPass 180 = .ok (.iconst 0, 1) := by decide +kernel
theorem dX12_readPass_181 : decode cX12_readPass 181 = .ok (.iadd, 1) := by decide +kernel
theorem dX12_readPass_182 : decode cX12_readPass 182 = .ok (.iastore, 1) := by decide +kernel
theorem dX12_readPass_183 : decode cX12_readPass 183 = .ok (.return_, 1) := by decide +kernel
theorem dX12_table_0 : decode cX12_table 0 = .ok (.aload_n 0, 1) := by decide +kernel
theorem dX12_table_1 : decode cX12_table 1 = .ok (.iconst 0, 1) := by decide +kernel
theorem dX12_table_2 : decode cX12_table 2 = .ok (.putfield 44, 3) := by decide +kernel
theorem dX12_table_5 : decode cX12_table 5 = .ok (.aload_n 0, 1) := by decide +kernel
theorem dX12_table_6 : decode cX12_table 6 = .ok (.invokevirtual 132, 3) := by decide +kernel
theorem dX12_table_9 : decode cX12_table 9 = .ok (.iconst 0, 1) := by decide +kernel
theorem dX12_table_10 : decode cX12_table 10 = .ok (.istore_n 1, 1) := by decide +kernel
theorem dX12_table_11 : decode cX12_table 11 = .ok (.iload_n 1, 1) := by decide +kernel
theorem dX12_table_12 : decode cX12_table 12 = .ok (.bipush 95, 2) := by decide +kernel
theorem dX12_table_14 : decode cX12_table 14 = .ok (.if_icmp .ge 16, 3) := by decide +kernel
theorem dX12_table_17 : decode cX12_table 17 = .ok (.aload_n 0, 1) := by decide +kernel
theorem dX12_table_18 : decode cX12_table 18 = .ok (.getfield 22, 3) := by decide +kernel
theorem dX12_table_21 : decode cX12_table 21 = .ok (.iload_n 1, 1) := by decide +kernel
theorem dX12_table_22 : decode cX12_table 22 = .ok (.iconst 0, 1) := by decide +kernel
theorem dX12_table_23 : decode cX12_table 23 = .ok (.iastore, 1) := by decide +kernel
theorem dX12_table_24 : decode cX12_table 24 = .ok (.iinc 1 1, 3) := by decide +kernel
theorem dX12_table_27 : decode cX12_table 27 = .ok (.goto (-16), 3) := by decide +kernel
theorem dX12_table_30 : decode cX12_table 30 = .ok (.aload_n 0, 1) := by decide +kernel
theorem dX12_table_31 : decode cX12_table 31 = .ok (.getfield 22, 3) := by decide +kernel
theorem dX12_table_34 : decode cX12_table 34 = .ok (.iconst 0, 1) := by decide +kernel
theorem dX12_table_35 : decode cX12_table 35 = .ok (.iconst 1, 1) := by decide +kernel
theorem dX12_table_36 : decode cX12_table 36 = .ok (.iastore, 1) := by decide +kernel
theorem dX12_table_37 : decode cX12_table 37 = .ok (.aload_n 0, 1) := by decide +kernel
theorem dX12_table_38 : decode cX12_table 38 = .ok (.aload_n 0, 1) := by decide +kernel
theorem dX12_table_39 : decode cX12_table 39 = .ok (.bipush 116, 2) := by decide +kernel
theorem dX12_table_41 : decode cX12_table 41 = .ok (.invokevirtual 135, 3) := by decide +kernel
theorem dX12_table_44 : decode cX12_table 44 = .ok (.invokevirtual 109, 3) := by decide +kernel
theorem dX12_table_47 : decode cX12_table 47 = .ok (.aload_n 0, 1) := by decide +kernel
theorem dX12_table_48 : decode cX12_table 48 = .ok (.getfield 22, 3) := by decide +kernel
theorem dX12_table_51 : decode cX12_table 51 = .ok (.iconst 1, 1) := by decide +kernel
theorem dX12_table_52 : decode cX12_table 52 = .ok (.aload_n 0, 1) := by decide +kernel
theorem dX12_table_53 : decode cX12_table 53 = .ok (.iconst 0, 1) := by decide +kernel
theorem dX12_table_54 : decode cX12_table 54 = .ok (.bipush 9, 2) := by decide +kernel
theorem dX12_table_56 : decode cX12_table 56 = .ok (.invokevirtual 116, 3) := by decide +kernel
theorem dX12_table_59 : decode cX12_table 59 = .ok (.iastore, 1) := by decide +kernel
theorem dX12_table_60 : decode cX12_table 60 = .ok (.aload_n 0, 1) := by decide +kernel
theorem dX12_table_61 : decode cX12_table 61 = .ok (.bipush 44, 2) := by decide +kernel
theorem dX12_table_63 : decode cX12_table 63 = .ok (.invokevirtual 120, 3) := by decide +kernel
theorem dX12_table_66 : decode cX12_table 66 = .ok (.aload_n 0, 1) := by decide +kernel
theorem dX12_table_67 : decode cX12_table 67 = .ok (.getfield 22, 3) := by decide +kernel
theorem dX12_table_70 : decode cX12_table 70 = .ok (.iconst 3, 1) := by decide +kernel
theorem dX12_table_71 : decode cX12_table 71 = .ok (.aload_n 0, 1) := by decide +kernel
theorem dX12_table_72 : decode cX12_table 72 = .ok (.iconst 0, 1) := by decide +kernel
theorem dX12_table_73 : decode cX12_table 73 = .ok (.bipush 9, 2) := by decide +kernel
theorem dX12_table_75 : decode cX12_table 75 = .ok (.invokevirtual 116, 3) := by decide +kernel
theorem dX12_table_78 : decode cX12_table 78 = .ok (.iastore, 1) := by decide +kernel
theorem dX12_table_79 : decode cX12_table 79 = .ok (.aload_n 0, 1) := by decide +kernel
theorem dX12_table_80 : decode cX12_table 80 = .ok (.bipush 59, 2) := by decide +kernel
theorem dX12_table_82 : decode cX12_table 82 = .ok (.invokevirtual 120, 3) := by decide +kernel
theorem dX12_table_85 : decode cX12_table 85 = .ok (.iconst 0, 1) := by decide +kernel
theorem dX12_table_86 : decode cX12_table 86 = .ok (.istore_n 1, 1) := by decide +kernel
theorem dX12_table_87 : decode cX12_table 87 = .ok (.iconst 0, 1) := by decide +kernel
theorem dX12_table_88 : decode cX12_table 88 = .ok (.istore_n 2, 1) := by decide +kernel
theorem dX12_table_89 : decode cX12_table 89 = .ok (.aload_n 0, 1) := by decide +kernel
theorem dX12_table_90 : decode cX12_table 90 = .ok (.bipush 102, 2) := by decide +kernel
theorem dX12_table_92 : decode cX12_table 92 = .ok (.invokevirtual 135, 3) := by decide +kernel
theorem dX12_table_95 : decode cX12_table 95 = .ok (.ifCond .eq 24, 3) := by decide +kernel
theorem dX12_table_98 : decode cX12_table 98 = .ok (.aload_n 0, 1) := by decide +kernel
theorem dX12_table_99 : decode cX12_table 99 = .ok (.iload_n 1, 1) := by decide +kernel
theorem dX12_table_100 : decode cX12_table 100 = .ok (.iload_n 2, 1) := by decide +kernel
theorem dX12_table_101 : decode cX12_table 101 = .ok (.invokevirtual 138, 3) := by decide +kernel
theorem dX12_table_104 : decode cX12_table 104 = .ok (.iload_n 1, 1) := by decide +kernel
theorem dX12_table_105 : decode cX12_table 105 = .ok (.iconst 1, 1) := by decide +kernel
theorem dX12_table_106 : decode cX12_table 106 = .ok (.aload_n 0, 1) := by decide +kernel
theorem dX12_table_107 : decode cX12_table 107 = .ok (.getfield 123, 3) := by decide +kernel
theorem dX12_table_110 : decode cX12_table 110 = .ok (.ishl, 1) := by decide +kernel
theorem dX12_table_111 : decode cX12_table 111 = .ok (.ior, 1) := by decide +kernel
theorem dX12_table_112 : decode cX12_table 112 = .ok (.istore_n 1, 1) := by decide +kernel
theorem dX12_table_113 : decode cX12_table 113 = .ok (.iinc 2 1, 3) := by decide +kernel
theorem dX12_table_116 : decode cX12_table 116 = .ok (.goto (-27), 3) := by decide +kernel
theorem dX12_table_119 : decode cX12_table 119 = .ok (.aload_n 0, 1) := by decide +kernel
theorem dX12_table_120 : decode cX12_table 120 = .ok (.getfield 75, 3) := by decide +kernel
theorem dX12_table_123 : decode cX12_table 123 = .ok (.ifCond .ne 30, 3) := by decide +kernel
theorem dX12_table_126 : decode cX12_table 126 = .ok (.aload_n 0, 1) := by decide +kernel
theorem dX12_table_127 : decode cX12_table 127 = .ok (.getfield 99, 3) := by decide +kernel
theorem dX12_table_130 : decode cX12_table 130 = .ok (.iconst 2, 1) := by decide +kernel
theorem dX12_table_131 : decode cX12_table 131 = .ok (.if_icmp .ne 22, 3) := by decide +kernel
theorem dX12_table_134 : decode cX12_table 134 = .ok (.aload_n 0, 1) := by decide +kernel
theorem dX12_table_135 : decode cX12_table 135 = .ok (.getfield 88, 3) := by decide +kernel
theorem dX12_table_138 : decode cX12_table 138 = .ok (.invokestatic 126, 3) := by decide +kernel
theorem dX12_table_141 : decode cX12_table 141 = .ok (.ldc 87, 2) := by decide +kernel
theorem dX12_table_143 : decode cX12_table 143 = .ok (.if_icmp .eq 10, 3) := by decide +kernel
theorem dX12_table_146 : decode cX12_table 146 = .ok (.aload_n 0, 1) := by decide +kernel
theorem dX12_table_147 : decode cX12_table 147 = .ok (.invokevirtual 142, 3) := by decide +kernel
theorem dX12_table_150 : decode cX12_table 150 = .ok (.goto (-31), 3) := by decide +kernel
theorem dX12_table_153 : decode cX12_table 153 = .ok (.aload_n 0, 1) := by decide +kernel
theorem dX12_table_154 : decode cX12_table 154 = .ok (.invokevirtual 145, 3) := by decide +kernel
theorem dX12_table_157 : decode cX12_table 157 = .ok (.ifCond .eq 11, 3) := by decide +kernel
theorem dX12_table_160 : decode cX12_table 160 = .ok (.ldc 149, 2) := by decide +kernel
theorem dX12_table_162 : decode cX12_table 162 = .ok (.aload_n 0, 1) := by decide +kernel
theorem dX12_table_163 : decode cX12_table 163 = .ok (.getfield 81, 3) := by decide +kernel
theorem dX12_table_166 : decode cX12_table 166 = .ok (.isub, 1) := by decide +kernel
theorem dX12_table_167 : decode cX12_table 167 = .ok (.ireturn, 1) := by decide +kernel
theorem dX12_table_168 : decode cX12_table 168 = .ok (.aload_n 0, 1) := by decide +kernel
theorem dX12_table_169 : decode cX12_table 169 = .ok (.iconst 0, 1) := by decide +kernel
theorem dX12_table_170 : decode cX12_table 170 = .ok (.putfield 150, 3) := by decide +kernel
theorem dX12_table_173 : decode cX12_table 173 = .ok (.iconst 0, 1) := by decide +kernel
theorem dX12_table_174 : decode cX12_table 174 = .ok (.istore_n 3, 1) := by decide +kernel
theorem dX12_table_175 : decode cX12_table 175 = .ok (.iload_n 3, 1) := by decide +kernel
theorem dX12_table_176 : decode cX12_table 176 = .ok (.bipush 95, 2) := by decide +kernel
theorem dX12_table_178 : decode cX12_table 178 = .ok (.if_icmp .ge 21, 3) := by decide +kernel
theorem dX12_table_181 : decode cX12_table 181 = .ok (.aload_n 0, 1) := by decide +kernel
theorem dX12_table_182 : decode cX12_table 182 = .ok (.getfield 19, 3) := by decide +kernel
theorem dX12_table_185 : decode cX12_table 185 = .ok (.iload_n 3, 1) := by decide +kernel
theorem dX12_table_186 : decode cX12_table 186 = .ok (.aload_n 0, 1) := by decide +kernel
theorem dX12_table_187 : decode cX12_table 187 = .ok (.getfield 22, 3) := by decide +kernel
theorem dX12_table_190 : decode cX12_table 190 = .ok (.iload_n 3, 1) := by decide +kernel
theorem dX12_table_191 : decode cX12_table 191 = .ok (.iaload, 1) := by decide +kernel
theorem dX12_table_192 : decode cX12_table 192 = .ok (.iastore, 1) := by decide +kernel
theorem dX12_table_193 : decode cX12_table 193 = .ok (.iinc 3 1, 3) := by decide +kernel
theorem dX12_table_196 : decode cX12_table 196 = .ok (.goto (-21), 3) := by decide +kernel
theorem dX12_table_199 : decode cX12_table 199 = .ok (.aload_n 0, 1) := by decide +kernel
theorem dX12_table_200 : decode cX12_table 200 = .ok (.getfield 19, 3) := by decide +kernel
theorem dX12_table_203 : decode cX12_table 203 = .ok (.iconst 5, 1) := by decide +kernel
theorem dX12_table_204 : decode cX12_table 204 = .ok (.iaload, 1) := by decide +kernel
theorem dX12_table_205 : decode cX12_table 205 = .ok (.ireturn, 1) := by decide +kernel
theorem dX12_isThere_0 : decode cX12_isThere 0 = .ok (.aload_n 0, 1) := by decide +kernel
theorem dX12_isThere_1 : decode cX12_isThere 1 = .ok (.getfield 19, 3) := by decide +kernel
theorem dX12_isThere_4 : decode cX12_isThere 4 = .ok (.iconst 0, 1) := by decide +kernel
theorem dX12_isThere_5 : decode cX12_isThere 5 = .ok (.iaload, 1) := by decide +kernel
theorem dX12_isThere_6 : decode cX12_isThere 6 = .ok (.iconst 1, 1) := by decide +kernel
theorem dX12_isThere_7 : decode cX12_isThere 7 = .ok (.if_icmp .ne 7, 3) := by decide +kernel
theorem dX12_isThere_10 : decode cX12_isThere 10 = .ok (.iconst 1, 1) := by decide +kernel
theorem dX12_isThere_11 : decode cX12_isThere 11 = .ok (.goto 4, 3) := by decide +kernel
theorem dX12_isThere_14 : decode cX12_isThere 14 = .ok (.iconst 0, 1) := by decide +kernel
theorem dX12_isThere_15 : decode cX12_isThere 15 = .ok (.ireturn, 1) := by decide +kernel
theorem dX12_isPass_0 : decode cX12_isPass 0 = .ok (.iload_n 1, 1) := by decide +kernel
theorem dX12_isPass_1 : decode cX12_isPass 1 = .ok (.i2l, 1) := by decide +kernel
theorem dX12_isPass_2 : decode cX12_isPass 2 = .ok (.lconst 0, 1) := by decide +kernel
theorem dX12_isPass_3 : decode cX12_isPass 3 = .ok (.aload_n 0, 1) := by decide +kernel
theorem dX12_isPass_4 : decode cX12_isPass 4 = .ok (.getfield 19, 3) := by decide +kernel
theorem dX12_isPass_7 : decode cX12_isPass 7 = .ok (.iconst 5, 1) := by decide +kernel
theorem dX12_isPass_8 : decode cX12_isPass 8 = .ok (.iaload, 1) := by decide +kernel
theorem dX12_isPass_9 : decode cX12_isPass 9 = .ok (.iconst 1, 1) := by decide +kernel
theorem dX12_isPass_10 : decode cX12_isPass 10 = .ok (.isub, 1) := by decide +kernel
theorem dX12_isPass_11 : decode cX12_isPass 11 = .ok (.i2l, 1) := by decide +kernel
theorem dX12_isPass_12 : decode cX12_isPass 12 = .ok (.invokestatic 54, 3) := by decide +kernel
theorem dX12_isPass_15 : decode cX12_isPass 15 = .ok (.ireturn, 1) := by decide +kernel
theorem dX12_isCell_0 : decode cX12_isCell 0 = .ok (.iload_n 0, 1) := by decide +kernel
theorem dX12_isCell_1 : decode cX12_isCell 1 = .ok (.i2l, 1) := by decide +kernel
theorem dX12_isCell_2 : decode cX12_isCell 2 = .ok (.lconst 0, 1) := by decide +kernel
theorem dX12_isCell_3 : decode cX12_isCell 3 = .ok (.ldc2_w 153, 3) := by decide +kernel
theorem dX12_isCell_6 : decode cX12_isCell 6 = .ok (.invokestatic 54, 3) := by decide +kernel
theorem dX12_isCell_9 : decode cX12_isCell 9 = .ok (.ireturn, 1) := by decide +kernel
theorem dX12_areCells_0 : decode cX12_areCells 0 = .ok (.iload_n 0, 1) := by decide +kernel
theorem dX12_areCells_1 : decode cX12_areCells 1 = .ok (.i2l, 1) := by decide +kernel
theorem dX12_areCells_2 : decode cX12_areCells 2 = .ok (.lconst 0, 1) := by decide +kernel
theorem dX12_areCells_3 : decode cX12_areCells 3 = .ok (.ldc2_w 155, 3) := by decide +kernel
theorem dX12_areCells_6 : decode cX12_areCells 6 = .ok (.invokestatic 54, 3) := by decide +kernel
theorem dX12_areCells_9 : decode cX12_areCells 9 = .ok (.ireturn, 1) := by decide +kernel
theorem dX12_kindOf_0 : decode cX12_kindOf 0 = .ok (.aload_n 0, 1) := by decide +kernel
theorem dX12_kindOf_1 : decode cX12_kindOf 1 = .ok (.getfield 19, 3) := by decide +kernel
theorem dX12_kindOf_4 : decode cX12_kindOf 4 = .ok (.bipush 51, 2) := by decide +kernel
theorem dX12_kindOf_6 : decode cX12_kindOf 6 = .ok (.bipush 11, 2) := by decide +kernel
theorem dX12_kindOf_8 : decode cX12_kindOf 8 = .ok (.iload_n 1, 1) := by decide +kernel
theorem dX12_kindOf_9 : decode cX12_kindOf 9 = .ok (.imul, 1) := by decide +kernel
theorem dX12_kindOf_10 : decode cX12_kindOf 10 = .ok (.iadd, 1) := by decide +kernel
theorem dX12_kindOf_11 : decode cX12_kindOf 11 = .ok (.iaload, 1) := by decide +kernel
theorem dX12_kindOf_12 : decode cX12_kindOf 12 = .ok (.ireturn, 1) := by decide +kernel
theorem dX12_cellsOf_0 : decode cX12_cellsOf 0 = .ok (.aload_n 0, 1) := by decide +kernel
theorem dX12_cellsOf_1 : decode cX12_cellsOf 1 = .ok (.getfield 19, 3) := by decide +kernel
theorem dX12_cellsOf_4 : decode cX12_cellsOf 4 = .ok (.bipush 51, 2) := by decide +kernel
theorem dX12_cellsOf_6 : decode cX12_cellsOf 6 = .ok (.bipush 11, 2) := by decide +kernel
theorem dX12_cellsOf_8 : decode cX12_cellsOf 8 = .ok (.iload_n 1, 1) := by decide +kernel
theorem dX12_cellsOf_9 : decode cX12_cellsOf 9 = .ok (.imul, 1) := by decide +kernel
theorem dX12_cellsOf_10 : decode cX12_cellsOf 10 = .ok (.iadd, 1) := by decide +kernel
theorem dX12_cellsOf_11 : decode cX12_cellsOf 11 = .ok (.iconst 1, 1) := by decide +kernel
theorem dX12_cellsOf_12 : decode cX12_cellsOf 12 = .ok (.iadd, 1) := by decide +kernel
theorem dX12_cellsOf_13 : decode cX12_cellsOf 13 = .ok (.iaload, 1) := by decide +kernel
theorem dX12_cellsOf_14 : decode cX12_cellsOf 14 = .ok (.ireturn, 1) := by decide +kernel
theorem dX12_cellAt_0 : decode cX12_cellAt 0 = .ok (.aload_n 0, 1) := by decide +kernel
theorem dX12_cellAt_1 : decode cX12_cellAt 1 = .ok (.getfield 19, 3) := by decide +kernel
theorem dX12_cellAt_4 : decode cX12_cellAt 4 = .ok (.bipush 51, 2) := by decide +kernel
theorem dX12_cellAt_6 : decode cX12_cellAt 6 = .ok (.bipush 11, 2) := by decide +kernel
theorem dX12_cellAt_8 : decode cX12_cellAt 8 = .ok (.iload_n 1, 1) := by decide +kernel
theorem dX12_cellAt_9 : decode cX12_cellAt 9 = .ok (.imul, 1) := by decide +kernel
theorem dX12_cellAt_10 : decode cX12_cellAt 10 = .ok (.iadd, 1) := by decide +kernel
theorem dX12_cellAt_11 : decode cX12_cellAt 11 = .ok (.iconst 2, 1) := by decide +kernel
theorem dX12_cellAt_12 : decode cX12_cellAt 12 = .ok (.iadd, 1) := by decide +kernel
theorem dX12_cellAt_13 : decode cX12_cellAt 13 = .ok (.iload_n 2, 1) := by decide +kernel
theorem dX12_cellAt_14 : decode cX12_cellAt 14 = .ok (.iadd, 1) := by decide +kernel
theorem dX12_cellAt_15 : decode cX12_cellAt 15 = .ok (.iaload, 1) := by decide +kernel
theorem dX12_cellAt_16 : decode cX12_cellAt 16 = .ok (.ireturn, 1) := by decide +kernel
theorem dX12_overBy_0 : decode cX12_overBy 0 = .ok (.iconst 0, 1) := by decide +kernel
theorem dX12_overBy_1 : decode cX12_overBy 1 = .ok (.istore_n 2, 1) := by decide +kernel
theorem dX12_overBy_2 : decode cX12_overBy 2 = .ok (.iconst 0, 1) := by decide +kernel
theorem dX12_overBy_3 : decode cX12_overBy 3 = .ok (.istore_n 3, 1) := by decide +kernel
theorem dX12_overBy_4 : decode cX12_overBy 4 = .ok (.iload_n 3, 1) := by decide +kernel
theorem dX12_overBy_5 : decode cX12_overBy 5 = .ok (.aload_n 0, 1) := by decide +kernel
theorem dX12_overBy_6 : decode cX12_overBy 6 = .ok (.iload_n 1, 1) := by decide +kernel
theorem dX12_overBy_7 : decode cX12_overBy 7 = .ok (.invokevirtual 157, 3) := by decide +kernel
theorem dX12_overBy_10 : decode cX12_overBy 10 = .ok (.if_icmp .ge 20, 3) := by decide +kernel
theorem dX12_overBy_13 : decode cX12_overBy 13 = .ok (.iload_n 2, 1) := by decide +kernel
theorem dX12_overBy_14 : decode cX12_overBy 14 = .ok (.iconst 1, 1) := by decide +kernel
theorem dX12_overBy_15 : decode cX12_overBy 15 = .ok (.aload_n 0, 1) := by decide +kernel
theorem dX12_overBy_16 : decode cX12_overBy 16 = .ok (.iload_n 1, 1) := by decide +kernel
theorem dX12_overBy_17 : decode cX12_overBy 17 = .ok (.iload_n 3, 1) := by decide +kernel
theorem dX12_overBy_18 : decode cX12_overBy 18 = .ok (.invokevirtual 160, 3) := by decide +kernel
theorem dX12_overBy_21 : decode cX12_overBy 21 = .ok (.ishl, 1) := by decide +kernel
theorem dX12_overBy_22 : decode cX12_overBy 22 = .ok (.ior, 1) := by decide +kernel
theorem dX12_overBy_23 : decode cX12_overBy 23 = .ok (.istore_n 2, 1) := by decide +kernel
theorem dX12_overBy_24 : decode cX12_overBy 24 = .ok (.iinc 3 1, 3) := by decide +kernel
theorem dX12_overBy_27 : decode cX12_overBy 27 = .ok (.goto (-23), 3) := by decide +kernel
theorem dX12_overBy_30 : decode cX12_overBy 30 = .ok (.iload_n 2, 1) := by decide +kernel
theorem dX12_overBy_31 : decode cX12_overBy 31 = .ok (.ireturn, 1) := by decide +kernel
theorem dX12_lay_0 : decode cX12_lay 0 = .ok (.aload_n 0, 1) := by decide +kernel
theorem dX12_lay_1 : decode cX12_lay 1 = .ok (.bipush 6, 2) := by decide +kernel
theorem dX12_lay_3 : decode cX12_lay 3 = .ok (.iload_n 1, 1) := by decide +kernel
theorem dX12_lay_4 : decode cX12_lay 4 = .ok (.iadd, 1) := by decide +kernel
theorem dX12_lay_5 : decode cX12_lay 5 = .ok (.iaload, 1) := by decide +kernel
theorem dX12_lay_6 : decode cX12_lay 6 = .ok (.iload_n 2, 1) := by decide +kernel
theorem dX12_lay_7 : decode cX12_lay 7 = .ok (.iadd, 1) := by decide +kernel
theorem dX12_lay_8 : decode cX12_lay 8 = .ok (.sipush 999, 3) := by decide +kernel
theorem dX12_lay_11 : decode cX12_lay 11 = .ok (.if_icmp .le 16, 3) := by decide +kernel
theorem dX12_lay_14 : decode cX12_lay 14 = .ok (.sipush 999, 3) := by decide +kernel
theorem dX12_lay_17 : decode cX12_lay 17 = .ok (.aload_n 0, 1) := by decide +kernel
theorem dX12_lay_18 : decode cX12_lay 18 = .ok (.bipush 6, 2) := by decide +kernel
theorem dX12_lay_20 : decode cX12_lay 20 = .ok (.iload_n 1, 1) := by decide +kernel
theorem dX12_lay_21 : decode cX12_lay 21 = .ok (.iadd, 1) := by decide +kernel
theorem dX12_lay_22 : decode cX12_lay 22 = .ok (.iaload, 1) := by decide +kernel
theorem dX12_lay_23 : decode cX12_lay 23 = .ok (.isub, 1) := by decide +kernel
theorem dX12_lay_24 : decode cX12_lay 24 = .ok (.goto 4, 3) := by decide +kernel
theorem dX12_lay_27 : decode cX12_lay 27 = .ok (.iload_n 2, 1) := by decide +kernel
theorem dX12_lay_28 : decode cX12_lay 28 = .ok (.istore_n 3, 1) := by decide +kernel
theorem dX12_lay_29 : decode cX12_lay 29 = .ok (.aload_n 0, 1) := by decide +kernel
theorem dX12_lay_30 : decode cX12_lay 30 = .ok (.bipush 6, 2) := by decide +kernel
theorem dX12_lay_32 : decode cX12_lay 32 = .ok (.iload_n 1, 1) := by decide +kernel
theorem dX12_lay_33 : decode cX12_lay 33 = .ok (.iadd, 1) := by decide +kernel
theorem dX12_lay_34 : decode cX12_lay 34 = .ok (.dup2, 1) := by decide +kernel
theorem dX12_lay_35 : decode cX12_lay 35 = .ok (.iaload, 1) := by decide +kernel
theorem dX12_lay_36 : decode cX12_lay 36 = .ok (.iload_n 3, 1) := by decide +kernel
theorem dX12_lay_37 : decode cX12_lay 37 = .ok (.iadd, 1) := by decide +kernel
theorem dX12_lay_38 : decode cX12_lay 38 = .ok (.iastore, 1) := by decide +kernel
theorem dX12_lay_39 : decode cX12_lay 39 = .ok (.aload_n 0, 1) := by decide +kernel
theorem dX12_lay_40 : decode cX12_lay 40 = .ok (.bipush 21, 2) := by decide +kernel
theorem dX12_lay_42 : decode cX12_lay 42 = .ok (.iload_n 1, 1) := by decide +kernel
theorem dX12_lay_43 : decode cX12_lay 43 = .ok (.iadd, 1) := by decide +kernel
theorem dX12_lay_44 : decode cX12_lay 44 = .ok (.dup2, 1) := by decide +kernel
theorem dX12_lay_45 : decode cX12_lay 45 = .ok (.iaload, 1) := by decide +kernel
theorem dX12_lay_46 : decode cX12_lay 46 = .ok (.iload_n 3, 1) := by decide +kernel
theorem dX12_lay_47 : decode cX12_lay 47 = .ok (.iadd, 1) := by decide +kernel
theorem dX12_lay_48 : decode cX12_lay 48 = .ok (.iastore, 1) := by decide +kernel
theorem dX12_lay_49 : decode cX12_lay 49 = .ok (.aload_n 0, 1) := by decide +kernel
theorem dX12_lay_50 : decode cX12_lay 50 = .ok (.bipush 36, 2) := by decide +kernel
theorem dX12_lay_52 : decode cX12_lay 52 = .ok (.iload_n 1, 1) := by decide +kernel
theorem dX12_lay_53 : decode cX12_lay 53 = .ok (.iadd, 1) := by decide +kernel
theorem dX12_lay_54 : decode cX12_lay 54 = .ok (.iaload, 1) := by decide +kernel
theorem dX12_lay_55 : decode cX12_lay 55 = .ok (.aload_n 0, 1) := by decide +kernel
theorem dX12_lay_56 : decode cX12_lay 56 = .ok (.iconst 3, 1) := by decide +kernel
theorem dX12_lay_57 : decode cX12_lay 57 = .ok (.iaload, 1) := by decide +kernel
theorem dX12_lay_58 : decode cX12_lay 58 = .ok (.iconst 4, 1) := by decide +kernel
theorem dX12_lay_59 : decode cX12_lay 59 = .ok (.idiv, 1) := by decide +kernel
theorem dX12_lay_60 : decode cX12_lay 60 = .ok (.iadd, 1) := by decide +kernel
theorem dX12_lay_61 : decode cX12_lay 61 = .ok (.istore 4, 2) := by decide +kernel
theorem dX12_lay_63 : decode cX12_lay 63 = .ok (.aload_n 0, 1) := by decide +kernel
theorem dX12_lay_64 : decode cX12_lay 64 = .ok (.bipush 36, 2) := by decide +kernel
theorem dX12_lay_66 : decode cX12_lay 66 = .ok (.iload_n 1, 1) := by decide +kernel
theorem dX12_lay_67 : decode cX12_lay 67 = .ok (.iadd, 1) := by decide +kernel
theorem dX12_lay_68 : decode cX12_lay 68 = .ok (.iload 4, 2) := by decide +kernel
theorem dX12_lay_70 : decode cX12_lay 70 = .ok (.bipush 99, 2) := by decide +kernel
theorem dX12_lay_72 : decode cX12_lay 72 = .ok (.if_icmp .le 8, 3) := by decide +kernel
theorem dX12_lay_75 : decode cX12_lay 75 = .ok (.bipush 99, 2) := by decide +kernel
theorem dX12_lay_77 : decode cX12_lay 77 = .ok (.goto 5, 3) := by decide +kernel
theorem dX12_lay_80 : decode cX12_lay 80 = .ok (.iload 4, 2) := by decide +kernel
theorem dX12_lay_82 : decode cX12_lay 82 = .ok (.iastore, 1) := by decide +kernel
theorem dX12_lay_83 : decode cX12_lay 83 = .ok (.return_, 1) := by decide +kernel
theorem dX12_goOver_0 : decode cX12_goOver 0 = .ok (.aload_n 0, 1) := by decide +kernel
theorem dX12_goOver_1 : decode cX12_goOver 1 = .ok (.iconst 2, 1) := by decide +kernel
theorem dX12_goOver_2 : decode cX12_goOver 2 = .ok (.iaload, 1) := by decide +kernel
theorem dX12_goOver_3 : decode cX12_goOver 3 = .ok (.iconst 4, 1) := by decide +kernel
theorem dX12_goOver_4 : decode cX12_goOver 4 = .ok (.idiv, 1) := by decide +kernel
theorem dX12_goOver_5 : decode cX12_goOver 5 = .ok (.istore_n 3, 1) := by decide +kernel
theorem dX12_goOver_6 : decode cX12_goOver 6 = .ok (.iload_n 1, 1) := by decide +kernel
theorem dX12_goOver_7 : decode cX12_goOver 7 = .ok (.tableswitch 158 1 3 #[25, 34, 77], 25) := by decide +kernel
theorem dX12_goOver_32 : decode cX12_goOver 32 = .ok (.aload_n 0, 1) := by decide +kernel
theorem dX12_goOver_33 : decode cX12_goOver 33 = .ok (.iload_n 2, 1) := by decide +kernel
theorem dX12_goOver_34 : decode cX12_goOver 34 = .ok (.iload_n 3, 1) := by decide +kernel
theorem dX12_goOver_35 : decode cX12_goOver 35 = .ok (.invokestatic 163, 3) := by decide +kernel
theorem dX12_goOver_38 : decode cX12_goOver 38 = .ok (.goto 199, 3) := by decide +kernel
theorem dX12_goOver_41 : decode cX12_goOver 41 = .ok (.aload_n 0, 1) := by decide +kernel
theorem dX12_goOver_42 : decode cX12_goOver 42 = .ok (.bipush 21, 2) := by decide +kernel
theorem dX12_goOver_44 : decode cX12_goOver 44 = .ok (.iload_n 2, 1) := by decide +kernel
theorem dX12_goOver_45 : decode cX12_goOver 45 = .ok (.iadd, 1) := by decide +kernel
theorem dX12_goOver_46 : decode cX12_goOver 46 = .ok (.iaload, 1) := by decide +kernel
theorem dX12_goOver_47 : decode cX12_goOver 47 = .ok (.iconst 2, 1) := by decide +kernel
theorem dX12_goOver_48 : decode cX12_goOver 48 = .ok (.idiv, 1) := by decide +kernel
theorem dX12_goOver_49 : decode cX12_goOver 49 = .ok (.istore 4, 2) := by decide +kernel
theorem dX12_goOver_51 : decode cX12_goOver 51 = .ok (.aload_n 0, 1) := by decide +kernel
theorem dX12_goOver_52 : decode cX12_goOver 52 = .ok (.bipush 6, 2) := by decide +kernel
theorem dX12_goOver_54 : decode cX12_goOver 54 = .ok (.iload_n 2, 1) := by decide +kernel
theorem dX12_goOver_55 : decode cX12_goOver 55 = .ok (.iadd, 1) := by decide +kernel
theorem dX12_goOver_56 : decode cX12_goOver 56 = .ok (.dup2, 1) := by decide +kernel
theorem dX12_goOver_57 : decode cX12_goOver 57 = .ok (.iaload, 1) := by decide +kernel
theorem dX12_goOver_58 : decode cX12_goOver 58 = .ok (.iload 4, 2) := by decide +kernel
theorem dX12_goOver_60 : decode cX12_goOver 60 = .ok (.isub, 1) := by decide +kernel
theorem dX12_goOver_61 : decode cX12_goOver 61 = .ok (.iastore, 1) := by decide +kernel
theorem dX12_goOver_62 : decode cX12_goOver 62 = .ok (.aload_n 0, 1) := by decide +kernel
theorem dX12_goOver_63 : decode cX12_goOver 63 = .ok (.bipush 21, 2) := by decide +kernel
theorem dX12_goOver_65 : decode cX12_goOver 65 = .ok (.iload_n 2, 1) := by decide +kernel
theorem dX12_goOver_66 : decode cX12_goOver 66 = .ok (.iadd, 1) := by decide +kernel
theorem dX12_goOver_67 : decode cX12_goOver 67 = .ok (.dup2, 1) := by decide +kernel
theorem dX12_goOver_68 : decode cX12_goOver 68 = .ok (.iaload, 1) := by decide +kernel
theorem dX12_goOver_69 : decode cX12_goOver 69 = .ok (.iload 4, 2) := by decide +kernel
theorem dX12_goOver_71 : decode cX12_goOver 71 = .ok (.isub, 1) := by decide +kernel
theorem dX12_goOver_72 : decode cX12_goOver 72 = .ok (.iastore, 1) := by decide +kernel
theorem dX12_goOver_73 : decode cX12_goOver 73 = .ok (.aload_n 0, 1) := by decide +kernel
theorem dX12_goOver_74 : decode cX12_goOver 74 = .ok (.iload_n 2, 1) := by decide +kernel
theorem dX12_goOver_75 : decode cX12_goOver 75 = .ok (.iconst 2, 1) := by decide +kernel
theorem dX12_goOver_76 : decode cX12_goOver 76 = .ok (.iload_n 3, 1) := by decide +kernel
theorem dX12_goOver_77 : decode cX12_goOver 77 = .ok (.imul, 1) := by decide +kernel
theorem dX12_goOver_78 : decode cX12_goOver 78 = .ok (.invokestatic 163, 3) := by decide +kernel
theorem dX12_goOver_81 : decode cX12_goOver 81 = .ok (.goto 156, 3) := by decide +kernel
theorem dX12_goOver_84 : decode cX12_goOver 84 = .ok (.aload_n 0, 1) := by decide +kernel
theorem dX12_goOver_85 : decode cX12_goOver 85 = .ok (.iconst 2, 1) := by decide +kernel
theorem dX12_goOver_86 : decode cX12_goOver 86 = .ok (.iaload, 1) := by decide +kernel
theorem dX12_goOver_87 : decode cX12_goOver 87 = .ok (.ifCond .ne 67, 3) := by decide +kernel
theorem dX12_goOver_90 : decode cX12_goOver 90 = .ok (.aload_n 0, 1) := by decide +kernel
theorem dX12_goOver_91 : decode cX12_goOver 91 = .ok (.bipush 6, 2) := by decide +kernel
theorem dX12_goOver_93 : decode cX12_goOver 93 = .ok (.iload_n 2, 1) := by decide +kernel
theorem dX12_goOver_94 : decode cX12_goOver 94 = .ok (.iadd, 1) := by decide +kernel
theorem dX12_goOver_95 : decode cX12_goOver 95 = .ok (.aload_n 0, 1) := by decide +kernel
theorem dX12_goOver_96 : decode cX12_goOver 96 = .ok (.bipush 6, 2) := by decide +kernel
theorem dX12_goOver_98 : decode cX12_goOver 98 = .ok (.iload_n 2, 1) := by decide +kernel
theorem dX12_goOver_99 : decode cX12_goOver 99 = .ok (.iadd, 1) := by decide +kernel
theorem dX12_goOver_100 : decode cX12_goOver 100 = .ok (.iaload, 1) := by decide +kernel
theorem dX12_goOver_101 : decode cX12_goOver 101 = .ok (.iconst 2, 1) := by decide +kernel
theorem dX12_goOver_102 : decode cX12_goOver 102 = .ok (.if_icmp .ge 7, 3) := by decide +kernel
theorem dX12_goOver_105 : decode cX12_goOver 105 = .ok (.iconst 0, 1) := by decide +kernel
theorem dX12_goOver_106 : decode cX12_goOver 106 = .ok (.goto 11, 3) := by decide +kernel
theorem dX12_goOver_109 : decode cX12_goOver 109 = .ok (.aload_n 0, 1) := by decide +kernel
theorem dX12_goOver_110 : decode cX12_goOver 110 = .ok (.bipush 6, 2) := by decide +kernel
theorem dX12_goOver_112 : decode cX12_goOver 112 = .ok (.iload_n 2, 1) := by decide +kernel
theorem dX12_goOver_113 : decode cX12_goOver 113 = .ok (.iadd, 1) := by decide +kernel
theorem dX12_goOver_114 : decode cX12_goOver 114 = .ok (.iaload, 1) := by decide +kernel
theorem dX12_goOver_115 : decode cX12_goOver 115 = .ok (.iconst 2, 1) := by decide +kernel
theorem dX12_goOver_116 : decode cX12_goOver 116 = .ok (.isub, 1) := by decide +kernel
theorem dX12_goOver_117 : decode cX12_goOver 117 = .ok (.iastore, 1) := by decide +kernel
theorem dX12_goOver_118 : decode cX12_goOver 118 = .ok (.aload_n 0, 1) := by decide +kernel
theorem dX12_goOver_119 : decode cX12_goOver 119 = .ok (.bipush 21, 2) := by decide +kernel
theorem dX12_goOver_121 : decode cX12_goOver 121 = .ok (.iload_n 2, 1) := by decide +kernel
theorem dX12_goOver_122 : decode cX12_goOver 122 = .ok (.iadd, 1) := by decide +kernel
theorem dX12_goOver_123 : decode cX12_goOver 123 = .ok (.aload_n 0, 1) := by decide +kernel
theorem dX12_goOver_124 : decode cX12_goOver 124 = .ok (.bipush 21, 2) := by decide +kernel
theorem dX12_goOver_126 : decode cX12_goOver 126 = .ok (.iload_n 2, 1) := by decide +kernel
theorem dX12_goOver_127 : decode cX12_goOver 127 = .ok (.iadd, 1) := by decide +kernel
theorem dX12_goOver_128 : decode cX12_goOver 128 = .ok (.iaload, 1) := by decide +kernel
theorem dX12_goOver_129 : decode cX12_goOver 129 = .ok (.aload_n 0, 1) := by decide +kernel
theorem dX12_goOver_130 : decode cX12_goOver 130 = .ok (.bipush 6, 2) := by decide +kernel
theorem dX12_goOver_132 : decode cX12_goOver 132 = .ok (.iload_n 2, 1) := by decide +kernel
theorem dX12_goOver_133 : decode cX12_goOver 133 = .ok (.iadd, 1) := by decide +kernel
theorem dX12_goOver_134 : decode cX12_goOver 134 = .ok (.iaload, 1) := by decide +kernel
theorem dX12_goOver_135 : decode cX12_goOver 135 = .ok (.if_icmp .le 12, 3) := by decide +kernel
theorem dX12_goOver_138 : decode cX12_goOver 138 = .ok (.aload_n 0, 1) := by decide +kernel
theorem dX12_goOver_139 : decode cX12_goOver 139 = .ok (.bipush 6, 2) := by decide +kernel
theorem dX12_goOver_141 : decode cX12_goOver 141 = .ok (.iload_n 2, 1) := by decide +kernel
theorem dX12_goOver_142 : decode cX12_goOver 142 = .ok (.iadd, 1) := by decide +kernel
theorem dX12_goOver_143 : decode cX12_goOver 143 = .ok (.iaload, 1) := by decide +kernel
theorem dX12_goOver_144 : decode cX12_goOver 144 = .ok (.goto 9, 3) := by decide +kernel
theorem dX12_goOver_147 : decode cX12_goOver 147 = .ok (.aload_n 0, 1) := by decide +kernel
theorem dX12_goOver_148 : decode cX12_goOver 148 = .ok (.bipush 21, 2) := by decide +kernel
theorem dX12_goOver_150 : decode cX12_goOver 150 = .ok (.iload_n 2, 1) := by decide +kernel
theorem dX12_goOver_151 : decode cX12_goOver 151 = .ok (.iadd, 1) := by decide +kernel
theorem dX12_goOver_152 : decode cX12_goOver 152 = .ok (.iaload, 1) := by decide +kernel
theorem dX12_goOver_153 : decode cX12_goOver 153 = .ok (.iastore, 1) := by decide +kernel
theorem dX12_goOver_154 : decode cX12_goOver 154 = .ok (.aload_n 0, 1) := by decide +kernel
theorem dX12_goOver_155 : decode cX12_goOver 155 = .ok (.iload_n 2, 1) := by decide +kernel
theorem dX12_goOver_156 : decode cX12_goOver 156 = .ok (.iload_n 3, 1) := by decide +kernel
theorem dX12_goOver_157 : decode cX12_goOver 157 = .ok (.iconst 2, 1) := by decide +kernel
theorem dX12_goOver_158 : decode cX12_goOver 158 = .ok (.idiv, 1) := by decide +kernel
theorem dX12_goOver_159 : decode cX12_goOver 159 = .ok (.invokestatic 163, 3) := by decide +kernel
theorem dX12_goOver_162 : decode cX12_goOver 162 = .ok (.goto 75, 3) := by decide +kernel
theorem dX12_goOver_165 : decode cX12_goOver 165 = .ok (.iload_n 1, 1) := by decide +kernel
theorem dX12_goOver_166 : decode cX12_goOver 166 = .ok (.iconst 5, 1) := by decide +kernel
theorem dX12_goOver_167 : decode cX12_goOver 167 = .ok (.if_icmp .ne 8, 3) := by decide +kernel
theorem dX12_goOver_170 : decode cX12_goOver 170 = .ok (.bipush 8, 2) := by decide +kernel
theorem dX12_goOver_172 : decode cX12_goOver 172 = .ok (.goto 4, 3) := by decide +kernel
theorem dX12_goOver_175 : decode cX12_goOver 175 = .ok (.iconst 4, 1) := by decide +kernel
theorem dX12_goOver_176 : decode cX12_goOver 176 = .ok (.istore 5, 2) := by decide +kernel
theorem dX12_goOver_178 : decode cX12_goOver 178 = .ok (.aload_n 0, 1) := by decide +kernel
theorem dX12_goOver_179 : decode cX12_goOver 179 = .ok (.bipush 36, 2) := by decide +kernel
theorem dX12_goOver_181 : decode cX12_goOver 181 = .ok (.iload_n 2, 1) := by decide +kernel
theorem dX12_goOver_182 : decode cX12_goOver 182 = .ok (.iadd, 1) := by decide +kernel
theorem dX12_goOver_183 : decode cX12_goOver 183 = .ok (.aload_n 0, 1) := by decide +kernel
theorem dX12_goOver_184 : decode cX12_goOver 184 = .ok (.bipush 36, 2) := by decide +kernel
theorem dX12_goOver_186 : decode cX12_goOver 186 = .ok (.iload_n 2, 1) := by decide +kernel
theorem dX12_goOver_187 : decode cX12_goOver 187 = .ok (.iadd, 1) := by decide +kernel
theorem dX12_goOver_188 : decode cX12_goOver 188 = .ok (.iaload, 1) := by decide +kernel
theorem dX12_goOver_189 : decode cX12_goOver 189 = .ok (.iload 5, 2) := by decide +kernel
theorem dX12_goOver_191 : decode cX12_goOver 191 = .ok (.if_icmp .ge 7, 3) := by decide +kernel
theorem dX12_goOver_194 : decode cX12_goOver 194 = .ok (.iconst 0, 1) := by decide +kernel
theorem dX12_goOver_195 : decode cX12_goOver 195 = .ok (.goto 12, 3) := by decide +kernel
theorem dX12_goOver_198 : decode cX12_goOver 198 = .ok (.aload_n 0, 1) := by decide +kernel
theorem dX12_goOver_199 : decode cX12_goOver 199 = .ok (.bipush 36, 2) := by decide +kernel
theorem dX12_goOver_201 : decode cX12_goOver 201 = .ok (.iload_n 2, 1) := by decide +kernel
theorem dX12_goOver_202 : decode cX12_goOver 202 = .ok (.iadd, 1) := by decide +kernel
theorem dX12_goOver_203 : decode cX12_goOver 203 = .ok (.iaload, 1) := by decide +kernel
theorem dX12_goOver_204 : decode cX12_goOver 204 = .ok (.iload 5, 2) := by decide +kernel
theorem dX12_goOver_206 : decode cX12_goOver 206 = .ok (.isub, 1) := by decide +kernel
theorem dX12_goOver_207 : decode cX12_goOver 207 = .ok (.iastore, 1) := by decide +kernel
theorem dX12_goOver_208 : decode cX12_goOver 208 = .ok (.aload_n 0, 1) := by decide +kernel
theorem dX12_goOver_209 : decode cX12_goOver 209 = .ok (.bipush 21, 2) := by decide +kernel
theorem dX12_goOver_211 : decode cX12_goOver 211 = .ok (.iload_n 2, 1) := by decide +kernel
theorem dX12_goOver_212 : decode cX12_goOver 212 = .ok (.iadd, 1) := by decide +kernel
theorem dX12_goOver_213 : decode cX12_goOver 213 = .ok (.iaload, 1) := by decide +kernel
theorem dX12_goOver_214 : decode cX12_goOver 214 = .ok (.ifCond .le 23, 3) := by decide +kernel
theorem dX12_goOver_217 : decode cX12_goOver 217 = .ok (.aload_n 0, 1) := by decide +kernel
theorem dX12_goOver_218 : decode cX12_goOver 218 = .ok (.bipush 6, 2) := by decide +kernel
theorem dX12_goOver_220 : decode cX12_goOver 220 = .ok (.iload_n 2, 1) := by decide +kernel
theorem dX12_goOver_221 : decode cX12_goOver 221 = .ok (.iadd, 1) := by decide +kernel
theorem dX12_goOver_222 : decode cX12_goOver 222 = .ok (.dup2, 1) := by decide +kernel
theorem dX12_goOver_223 : decode cX12_goOver 223 = .ok (.iaload, 1) := by decide +kernel
theorem dX12_goOver_224 : decode cX12_goOver 224 = .ok (.iconst 1, 1) := by decide +kernel
theorem dX12_goOver_225 : decode cX12_goOver 225 = .ok (.isub, 1) := by decide +kernel
theorem dX12_goOver_226 : decode cX12_goOver 226 = .ok (.iastore, 1) := by decide +kernel
theorem dX12_goOver_227 : decode cX12_goOver 227 = .ok (.aload_n 0, 1) := by decide +kernel
theorem dX12_goOver_228 : decode cX12_goOver 228 = .ok (.bipush 21, 2) := by decide +kernel
theorem dX12_goOver_230 : decode cX12_goOver 230 = .ok (.iload_n 2, 1) := by decide +kernel
theorem dX12_goOver_231 : decode cX12_goOver 231 = .ok (.iadd, 1) := by decide +kernel
theorem dX12_goOver_232 : decode cX12_goOver 232 = .ok (.dup2, 1) := by decide +kernel
theorem dX12_goOver_233 : decode cX12_goOver 233 = .ok (.iaload, 1) := by decide +kernel
theorem dX12_goOver_234 : decode cX12_goOver 234 = .ok (.iconst 1, 1) := by decide +kernel
theorem dX12_goOver_235 : decode cX12_goOver 235 = .ok (.isub, 1) := by decide +kernel
theorem dX12_goOver_236 : decode cX12_goOver 236 = .ok (.iastore, 1) := by decide +kernel
theorem dX12_goOver_237 : decode cX12_goOver 237 = .ok (.aload_n 0, 1) := by decide +kernel
theorem dX12_goOver_238 : decode cX12_goOver 238 = .ok (.iconst 2, 1) := by decide +kernel
theorem dX12_goOver_239 : decode cX12_goOver 239 = .ok (.dup2, 1) := by decide +kernel
theorem dX12_goOver_240 : decode cX12_goOver 240 = .ok (.iaload, 1) := by decide +kernel
theorem dX12_goOver_241 : decode cX12_goOver 241 = .ok (.aload_n 0, 1) := by decide +kernel
theorem dX12_goOver_242 : decode cX12_goOver 242 = .ok (.iconst 2, 1) := by decide +kernel
theorem dX12_goOver_243 : decode cX12_goOver 243 = .ok (.iaload, 1) := by decide +kernel
theorem dX12_goOver_244 : decode cX12_goOver 244 = .ok (.ifCond .le 7, 3) := by decide +kernel
theorem dX12_goOver_247 : decode cX12_goOver 247 = .ok (.iconst 1, 1) := by decide +kernel
theorem dX12_goOver_248 : decode cX12_goOver 248 = .ok (.goto 4, 3) := by decide +kernel
theorem dX12_goOver_251 : decode cX12_goOver 251 = .ok (.iconst 0, 1) := by decide +kernel
theorem dX12_goOver_252 : decode cX12_goOver 252 = .ok (.isub, 1) := by decide +kernel
theorem dX12_goOver_253 : decode cX12_goOver 253 = .ok (.iastore, 1) := by decide +kernel
theorem dX12_goOver_254 : decode cX12_goOver 254 = .ok (.return_, 1) := by decide +kernel
theorem dX12_pass_0 : decode cX12_pass 0 = .ok (.iconst 0, 1) := by decide +kernel
theorem dX12_pass_1 : decode cX12_pass 1 = .ok (.istore_n 3, 1) := by decide +kernel
theorem dX12_pass_2 : decode cX12_pass 2 = .ok (.iload_n 3, 1) := by decide +kernel
theorem dX12_pass_3 : decode cX12_pass 3 = .ok (.aload_n 0, 1) := by decide +kernel
theorem dX12_pass_4 : decode cX12_pass 4 = .ok (.iload_n 2, 1) := by decide +kernel
theorem dX12_pass_5 : decode cX12_pass 5 = .ok (.invokevirtual 157, 3) := by decide +kernel
theorem dX12_pass_8 : decode cX12_pass 8 = .ok (.if_icmp .ge 24, 3) := by decide +kernel
theorem dX12_pass_11 : decode cX12_pass 11 = .ok (.aload_n 1, 1) := by decide +kernel
theorem dX12_pass_12 : decode cX12_pass 12 = .ok (.aload_n 0, 1) := by decide +kernel
theorem dX12_pass_13 : decode cX12_pass 13 = .ok (.iload_n 2, 1) := by decide +kernel
theorem dX12_pass_14 : decode cX12_pass 14 = .ok (.invokevirtual 167, 3) := by decide +kernel
theorem dX12_pass_17 : decode cX12_pass 17 = .ok (.aload_n 0, 1) := by decide +kernel
theorem dX12_pass_18 : decode cX12_pass 18 = .ok (.iload_n 2, 1) := by decide +kernel
theorem dX12_pass_19 : decode cX12_pass 19 = .ok (.iload_n 3, 1) := by decide +kernel
theorem dX12_pass_20 : decode cX12_pass 20 = .ok (.invokevirtual 160, 3) := by decide +kernel
theorem dX12_pass_23 : decode cX12_pass 23 = .ok (.invokestatic 170, 3) := by decide +kernel
theorem dX12_pass_26 : decode cX12_pass 26 = .ok (.iinc 3 1, 3) := by decide +kernel
theorem dX12_pass_29 : decode cX12_pass 29 = .ok (.goto (-27), 3) := by decide +kernel
theorem dX12_pass_32 : decode cX12_pass 32 = .ok (.return_, 1) := by decide +kernel
theorem dX12_allPasses_0 : decode cX12_allPasses 0 = .ok (.iconst 0, 1) := by decide +kernel
theorem dX12_allPasses_1 : decode cX12_allPasses 1 = .ok (.istore_n 2, 1) := by decide +kernel
theorem dX12_allPasses_2 : decode cX12_allPasses 2 = .ok (.iload_n 2, 1) := by decide +kernel
theorem dX12_allPasses_3 : decode cX12_allPasses 3 = .ok (.aload_n 0, 1) := by decide +kernel
theorem dX12_allPasses_4 : decode cX12_allPasses 4 = .ok (.getfield 19, 3) := by decide +kernel
theorem dX12_allPasses_7 : decode cX12_allPasses 7 = .ok (.iconst 5, 1) := by decide +kernel
theorem dX12_allPasses_8 : decode cX12_allPasses 8 = .ok (.iaload, 1) := by decide +kernel
theorem dX12_allPasses_9 : decode cX12_allPasses 9 = .ok (.if_icmp .ge 15, 3) := by decide +kernel
theorem dX12_allPasses_12 : decode cX12_allPasses 12 = .ok (.aload_n 0, 1) := by decide +kernel
theorem dX12_allPasses_13 : decode cX12_allPasses 13 = .ok (.aload_n 1, 1) := by decide +kernel
theorem dX12_allPasses_14 : decode cX12_allPasses 14 = .ok (.iload_n 2, 1) := by decide +kernel
theorem dX12_allPasses_15 : decode cX12_allPasses 15 = .ok (.invokevirtual 173, 3) := by decide +kernel
theorem dX12_allPasses_18 : decode cX12_allPasses 18 = .ok (.iinc 2 1, 3) := by decide +kernel
theorem dX12_allPasses_21 : decode cX12_allPasses 21 = .ok (.goto (-19), 3) := by decide +kernel
theorem dX12_allPasses_24 : decode cX12_allPasses 24 = .ok (.return_, 1) := by decide +kernel
theorem dX12_stands_0 : decode cX12_stands 0 = .ok (.aload_n 0, 1) := by decide +kernel
theorem dX12_stands_1 : decode cX12_stands 1 = .ok (.bipush 6, 2) := by decide +kernel
theorem dX12_stands_3 : decode cX12_stands 3 = .ok (.iload_n 1, 1) := by decide +kernel
theorem dX12_stands_4 : decode cX12_stands 4 = .ok (.iadd, 1) := by decide +kernel
theorem dX12_stands_5 : decode cX12_stands 5 = .ok (.aload_n 0, 1) := by decide +kernel
theorem dX12_stands_6 : decode cX12_stands 6 = .ok (.bipush 6, 2) := by decide +kernel
theorem dX12_stands_8 : decode cX12_stands 8 = .ok (.iload_n 1, 1) := by decide +kernel
theorem dX12_stands_9 : decode cX12_stands 9 = .ok (.iadd, 1) := by decide +kernel
theorem dX12_stands_10 : decode cX12_stands 10 = .ok (.iaload, 1) := by decide +kernel
theorem dX12_stands_11 : decode cX12_stands 11 = .ok (.bipush 10, 2) := by decide +kernel
theorem dX12_stands_13 : decode cX12_stands 13 = .ok (.if_icmp .ge 7, 3) := by decide +kernel
theorem dX12_stands_16 : decode cX12_stands 16 = .ok (.iconst 0, 1) := by decide +kernel
theorem dX12_stands_17 : decode cX12_stands 17 = .ok (.goto 12, 3) := by decide +kernel
theorem dX12_stands_20 : decode cX12_stands 20 = .ok (.aload_n 0, 1) := by decide +kernel
theorem dX12_stands_21 : decode cX12_stands 21 = .ok (.bipush 6, 2) := by decide +kernel
theorem dX12_stands_23 : decode cX12_stands 23 = .ok (.iload_n 1, 1) := by decide +kernel
theorem dX12_stands_24 : decode cX12_stands 24 = .ok (.iadd, 1) := by decide +kernel
theorem dX12_stands_25 : decode cX12_stands 25 = .ok (.iaload, 1) := by decide +kernel
theorem dX12_stands_26 : decode cX12_stands 26 = .ok (.bipush 10, 2) := by decide +kernel
theorem dX12_stands_28 : decode cX12_stands 28 = .ok (.isub, 1) := by decide +kernel
theorem dX12_stands_29 : decode cX12_stands 29 = .ok (.iastore, 1) := by decide +kernel
theorem dX12_stands_30 : decode cX12_stands 30 = .ok (.aload_n 0, 1) := by decide +kernel
theorem dX12_stands_31 : decode cX12_stands 31 = .ok (.bipush 21, 2) := by decide +kernel
theorem dX12_stands_33 : decode cX12_stands 33 = .ok (.iload_n 1, 1) := by decide +kernel
theorem dX12_stands_34 : decode cX12_stands 34 = .ok (.iadd, 1) := by decide +kernel
theorem dX12_stands_35 : decode cX12_stands 35 = .ok (.iconst 0, 1) := by decide +kernel
theorem dX12_stands_36 : decode cX12_stands 36 = .ok (.iastore, 1) := by decide +kernel
theorem dX12_stands_37 : decode cX12_stands 37 = .ok (.return_, 1) := by decide +kernel
theorem dX12_rests_0 : decode cX12_rests 0 = .ok (.iconst 0, 1) := by decide +kernel
theorem dX12_rests_1 : decode cX12_rests 1 = .ok (.istore_n 1, 1) := by decide +kernel
theorem dX12_rests_2 : decode cX12_rests 2 = .ok (.iload_n 1, 1) := by decide +kernel
theorem dX12_rests_3 : decode cX12_rests 3 = .ok (.bipush 15, 2) := by decide +kernel
theorem dX12_rests_5 : decode cX12_rests 5 = .ok (.if_icmp .ge 71, 3) := by decide +kernel
theorem dX12_rests_8 : decode cX12_rests 8 = .ok (.aload_n 0, 1) := by decide +kernel
theorem dX12_rests_9 : decode cX12_rests 9 = .ok (.bipush 6, 2) := by decide +kernel
theorem dX12_rests_11 : decode cX12_rests 11 = .ok (.iload_n 1, 1) := by decide +kernel
theorem dX12_rests_12 : decode cX12_rests 12 = .ok (.iadd, 1) := by decide +kernel
theorem dX12_rests_13 : decode cX12_rests 13 = .ok (.aload_n 0, 1) := by decide +kernel
theorem dX12_rests_14 : decode cX12_rests 14 = .ok (.bipush 6, 2) := by decide +kernel
theorem dX12_rests_16 : decode cX12_rests 16 = .ok (.iload_n 1, 1) := by decide +kernel
theorem dX12_rests_17 : decode cX12_rests 17 = .ok (.iadd, 1) := by decide +kernel
theorem dX12_rests_18 : decode cX12_rests 18 = .ok (.iaload, 1) := by decide +kernel
theorem dX12_rests_19 : decode cX12_rests 19 = .ok (.aload_n 0, 1) := by decide +kernel
theorem dX12_rests_20 : decode cX12_rests 20 = .ok (.iconst 1, 1) := by decide +kernel
theorem dX12_rests_21 : decode cX12_rests 21 = .ok (.iaload, 1) := by decide +kernel
theorem dX12_rests_22 : decode cX12_rests 22 = .ok (.if_icmp .ge 7, 3) := by decide +kernel
theorem dX12_rests_25 : decode cX12_rests 25 = .ok (.iconst 0, 1) := by decide +kernel
theorem dX12_rests_26 : decode cX12_rests 26 = .ok (.goto 13, 3) := by decide +kernel
theorem dX12_rests_29 : decode cX12_rests 29 = .ok (.aload_n 0, 1) := by decide +kernel
theorem dX12_rests_30 : decode cX12_rests 30 = .ok (.bipush 6, 2) := by decide +kernel
theorem dX12_rests_32 : decode cX12_rests 32 = .ok (.iload_n 1, 1) := by decide +kernel
theorem dX12_rests_33 : decode cX12_rests 33 = .ok (.iadd, 1) := by decide +kernel
theorem dX12_rests_34 : decode cX12_rests 34 = .ok (.iaload, 1) := by decide +kernel
theorem dX12_rests_35 : decode cX12_rests 35 = .ok (.aload_n 0, 1) := by decide +kernel
theorem dX12_rests_36 : decode cX12_rests 36 = .ok (.iconst 1, 1) := by decide +kernel
theorem dX12_rests_37 : decode cX12_rests 37 = .ok (.iaload, 1) := by decide +kernel
theorem dX12_rests_38 : decode cX12_rests 38 = .ok (.isub, 1) := by decide +kernel
theorem dX12_rests_39 : decode cX12_rests 39 = .ok (.iastore, 1) := by decide +kernel
theorem dX12_rests_40 : decode cX12_rests 40 = .ok (.aload_n 0, 1) := by decide +kernel
theorem dX12_rests_41 : decode cX12_rests 41 = .ok (.bipush 21, 2) := by decide +kernel
theorem dX12_rests_43 : decode cX12_rests 43 = .ok (.iload_n 1, 1) := by decide +kernel
theorem dX12_rests_44 : decode cX12_rests 44 = .ok (.iadd, 1) := by decide +kernel
theorem dX12_rests_45 : decode cX12_rests 45 = .ok (.iconst 0, 1) := by decide +kernel
theorem dX12_rests_46 : decode cX12_rests 46 = .ok (.iastore, 1) := by decide +kernel
theorem dX12_rests_47 : decode cX12_rests 47 = .ok (.aload_n 0, 1) := by decide +kernel
theorem dX12_rests_48 : decode cX12_rests 48 = .ok (.bipush 36, 2) := by decide +kernel
theorem dX12_rests_50 : decode cX12_rests 50 = .ok (.iload_n 1, 1) := by decide +kernel
theorem dX12_rests_51 : decode cX12_rests 51 = .ok (.iadd, 1) := by decide +kernel
theorem dX12_rests_52 : decode cX12_rests 52 = .ok (.dup2, 1) := by decide +kernel
theorem dX12_rests_53 : decode cX12_rests 53 = .ok (.iaload, 1) := by decide +kernel
theorem dX12_rests_54 : decode cX12_rests 54 = .ok (.aload_n 0, 1) := by decide +kernel
theorem dX12_rests_55 : decode cX12_rests 55 = .ok (.bipush 36, 2) := by decide +kernel
theorem dX12_rests_57 : decode cX12_rests 57 = .ok (.iload_n 1, 1) := by decide +kernel
theorem dX12_rests_58 : decode cX12_rests 58 = .ok (.iadd, 1) := by decide +kernel
theorem dX12_rests_59 : decode cX12_rests 59 = .ok (.iaload, 1) := by decide +kernel
theorem dX12_rests_60 : decode cX12_rests 60 = .ok (.ifCond .le 7, 3) := by decide +kernel
theorem dX12_rests_63 : decode cX12_rests 63 = .ok (.iconst 1, 1) := by decide +kernel
theorem dX12_rests_64 : decode cX12_rests 64 = .ok (.goto 4, 3) := by decide +kernel
theorem dX12_rests_67 : decode cX12_rests 67 = .ok (.iconst 0, 1) := by decide +kernel
theorem dX12_rests_68 : decode cX12_rests 68 = .ok (.isub, 1) := by decide +kernel
theorem dX12_rests_69 : decode cX12_rests 69 = .ok (.iastore, 1) := by decide +kernel
theorem dX12_rests_70 : decode cX12_rests 70 = .ok (.iinc 1 1, 3) := by decide +kernel
theorem dX12_rests_73 : decode cX12_rests 73 = .ok (.goto (-71), 3) := by decide +kernel
theorem dX12_rests_76 : decode cX12_rests 76 = .ok (.return_, 1) := by decide +kernel
theorem dX12_filmOf_0 : decode cX12_filmOf 0 = .ok (.iconst 0, 1) := by decide +kernel
theorem dX12_filmOf_1 : decode cX12_filmOf 1 = .ok (.istore_n 1, 1) := by decide +kernel
theorem dX12_filmOf_2 : decode cX12_filmOf 2 = .ok (.iconst 0, 1) := by decide +kernel
theorem dX12_filmOf_3 : decode cX12_filmOf 3 = .ok (.istore_n 2, 1) := by decide +kernel
theorem dX12_filmOf_4 : decode cX12_filmOf 4 = .ok (.iload_n 2, 1) := by decide +kernel
theorem dX12_filmOf_5 : decode cX12_filmOf 5 = .ok (.bipush 15, 2) := by decide +kernel
theorem dX12_filmOf_7 : decode cX12_filmOf 7 = .ok (.if_icmp .ge 18, 3) := by decide +kernel
theorem dX12_filmOf_10 : decode cX12_filmOf 10 = .ok (.iload_n 1, 1) := by decide +kernel
theorem dX12_filmOf_11 : decode cX12_filmOf 11 = .ok (.aload_n 0, 1) := by decide +kernel
theorem dX12_filmOf_12 : decode cX12_filmOf 12 = .ok (.bipush 6, 2) := by decide +kernel
theorem dX12_filmOf_14 : decode cX12_filmOf 14 = .ok (.iload_n 2, 1) := by decide +kernel
theorem dX12_filmOf_15 : decode cX12_filmOf 15 = .ok (.iadd, 1) := by decide +kernel
theorem dX12_filmOf_16 : decode cX12_filmOf 16 = .ok (.iaload, 1) := by decide +kernel
theorem dX12_filmOf_17 : decode cX12_filmOf 17 = .ok (.iadd, 1) := by decide +kernel
theorem dX12_filmOf_18 : decode cX12_filmOf 18 = .ok (.istore_n 1, 1) := by decide +kernel
theorem dX12_filmOf_19 : decode cX12_filmOf 19 = .ok (.iinc 2 1, 3) := by decide +kernel
theorem dX12_filmOf_22 : decode cX12_filmOf 22 = .ok (.goto (-18), 3) := by decide +kernel
theorem dX12_filmOf_25 : decode cX12_filmOf 25 = .ok (.iload_n 1, 1) := by decide +kernel
theorem dX12_filmOf_26 : decode cX12_filmOf 26 = .ok (.ireturn, 1) := by decide +kernel
theorem dX12_unevenOf_0 : decode cX12_unevenOf 0 = .ok (.iconst 0, 1) := by decide +kernel
theorem dX12_unevenOf_1 : decode cX12_unevenOf 1 = .ok (.istore_n 1, 1) := by decide +kernel
theorem dX12_unevenOf_2 : decode cX12_unevenOf 2 = .ok (.sipush 999, 3) := by decide +kernel
theorem dX12_unevenOf_5 : decode cX12_unevenOf 5 = .ok (.istore_n 2, 1) := by decide +kernel
theorem dX12_unevenOf_6 : decode cX12_unevenOf 6 = .ok (.iconst 0, 1) := by decide +kernel
theorem dX12_unevenOf_7 : decode cX12_unevenOf 7 = .ok (.istore_n 3, 1) := by decide +kernel
theorem dX12_unevenOf_8 : decode cX12_unevenOf 8 = .ok (.iload_n 3, 1) := by decide +kernel
theorem dX12_unevenOf_9 : decode cX12_unevenOf 9 = .ok (.bipush 15, 2) := by decide +kernel
theorem dX12_unevenOf_11 : decode cX12_unevenOf 11 = .ok (.if_icmp .ge 51, 3) := by decide +kernel
theorem dX12_unevenOf_14 : decode cX12_unevenOf 14 = .ok (.aload_n 0, 1) := by decide +kernel
theorem dX12_unevenOf_15 : decode cX12_unevenOf 15 = .ok (.bipush 6, 2) := by decide +kernel
theorem dX12_unevenOf_17 : decode cX12_unevenOf 17 = .ok (.iload_n 3, 1) := by decide +kernel
theorem dX12_unevenOf_18 : decode cX12_unevenOf 18 = .ok (.iadd, 1) := by decide +kernel
theorem dX12_unevenOf_19 : decode cX12_unevenOf 19 = .ok (.iaload, 1) := by decide +kernel
theorem dX12_unevenOf_20 : decode cX12_unevenOf 20 = .ok (.iload_n 1, 1) := by decide +kernel
theorem dX12_unevenOf_21 : decode cX12_unevenOf 21 = .ok (.if_icmp .le 12, 3) := by decide +kernel
theorem dX12_unevenOf_24 : decode cX12_unevenOf 24 = .ok (.aload_n 0, 1) := by decide +kernel
theorem dX12_unevenOf_25 : decode cX12_unevenOf 25 = .ok (.bipush 6, 2) := by decide +kernel
theorem dX12_unevenOf_27 : decode cX12_unevenOf 27 = .ok (.iload_n 3, 1) := by decide +kernel
theorem dX12_unevenOf_28 : decode cX12_unevenOf 28 = .ok (.iadd, 1) := by decide +kernel
theorem dX12_unevenOf_29 : decode cX12_unevenOf 29 = .ok (.iaload, 1) := by decide +kernel
theorem dX12_unevenOf_30 : decode cX12_unevenOf 30 = .ok (.goto 4, 3) := by decide +kernel
theorem dX12_unevenOf_33 : decode cX12_unevenOf 33 = .ok (.iload_n 1, 1) := by decide +kernel
theorem dX12_unevenOf_34 : decode cX12_unevenOf 34 = .ok (.istore_n 1, 1) := by decide +kernel
theorem dX12_unevenOf_35 : decode cX12_unevenOf 35 = .ok (.aload_n 0, 1) := by decide +kernel
theorem dX12_unevenOf_36 : decode cX12_unevenOf 36 = .ok (.bipush 6, 2) := by decide +kernel
theorem dX12_unevenOf_38 : decode cX12_unevenOf 38 = .ok (.iload_n 3, 1) := by decide +kernel
theorem dX12_unevenOf_39 : decode cX12_unevenOf 39 = .ok (.iadd, 1) := by decide +kernel
theorem dX12_unevenOf_40 : decode cX12_unevenOf 40 = .ok (.iaload, 1) := by decide +kernel
theorem dX12_unevenOf_41 : decode cX12_unevenOf 41 = .ok (.iload_n 2, 1) := by decide +kernel
theorem dX12_unevenOf_42 : decode cX12_unevenOf 42 = .ok (.if_icmp .ge 12, 3) := by decide +kernel
theorem dX12_unevenOf_45 : decode cX12_unevenOf 45 = .ok (.aload_n 0, 1) := by decide +kernel
theorem dX12_unevenOf_46 : decode cX12_unevenOf 46 = .ok (.bipush 6, 2) := by decide +kernel
theorem dX12_unevenOf_48 : decode cX12_unevenOf 48 = .ok (.iload_n 3, 1) := by decide +kernel
theorem dX12_unevenOf_49 : decode cX12_unevenOf 49 = .ok (.iadd, 1) := by decide +kernel
theorem dX12_unevenOf_50 : decode cX12_unevenOf 50 = .ok (.iaload, 1) := by decide +kernel
theorem dX12_unevenOf_51 : decode cX12_unevenOf 51 = .ok (.goto 4, 3) := by decide +kernel
theorem dX12_unevenOf_54 : decode cX12_unevenOf 54 = .ok (.iload_n 2, 1) := by decide +kernel
theorem dX12_unevenOf_55 : decode cX12_unevenOf 55 = .ok (.istore_n 2, 1) := by decide +kernel
theorem dX12_unevenOf_56 : decode cX12_unevenOf 56 = .ok (.iinc 3 1, 3) := by decide +kernel
theorem dX12_unevenOf_59 : decode cX12_unevenOf 59 = .ok (.goto (-51), 3) := by decide +kernel
theorem dX12_unevenOf_62 : decode cX12_unevenOf 62 = .ok (.iload_n 1, 1) := by decide +kernel
theorem dX12_unevenOf_63 : decode cX12_unevenOf 63 = .ok (.iload_n 2, 1) := by decide +kernel
theorem dX12_unevenOf_64 : decode cX12_unevenOf 64 = .ok (.isub, 1) := by decide +kernel
theorem dX12_unevenOf_65 : decode cX12_unevenOf 65 = .ok (.ireturn, 1) := by decide +kernel
theorem dX12_layThen_0 : decode cX12_layThen 0 = .ok (.iconst 0, 1) := by decide +kernel
theorem dX12_layThen_1 : decode cX12_layThen 1 = .ok (.istore_n 1, 1) := by decide +kernel
theorem dX12_layThen_2 : decode cX12_layThen 2 = .ok (.iload_n 1, 1) := by decide +kernel
theorem dX12_layThen_3 : decode cX12_layThen 3 = .ok (.bipush 95, 2) := by decide +kernel
theorem dX12_layThen_5 : decode cX12_layThen 5 = .ok (.if_icmp .ge 21, 3) := by decide +kernel
theorem dX12_layThen_8 : decode cX12_layThen 8 = .ok (.aload_n 0, 1) := by decide +kernel
theorem dX12_layThen_9 : decode cX12_layThen 9 = .ok (.getfield 25, 3) := by decide +kernel
theorem dX12_layThen_12 : decode cX12_layThen 12 = .ok (.iload_n 1, 1) := by decide +kernel
theorem dX12_layThen_13 : decode cX12_layThen 13 = .ok (.aload_n 0, 1) := by decide +kernel
theorem dX12_layThen_14 : decode cX12_layThen 14 = .ok (.getfield 19, 3) := by decide +kernel
theorem dX12_layThen_17 : decode cX12_layThen 17 = .ok (.iload_n 1, 1) := by decide +kernel
theorem dX12_layThen_18 : decode cX12_layThen 18 = .ok (.iaload, 1) := by decide +kernel
theorem dX12_layThen_19 : decode cX12_layThen 19 = .ok (.iastore, 1) := by decide +kernel
theorem dX12_layThen_20 : decode cX12_layThen 20 = .ok (.iinc 1 1, 3) := by decide +kernel
theorem dX12_layThen_23 : decode cX12_layThen 23 = .ok (.goto (-21), 3) := by decide +kernel
theorem dX12_layThen_26 : decode cX12_layThen 26 = .ok (.return_, 1) := by decide +kernel
theorem dX12_keep_0 : decode cX12_keep 0 = .ok (.aload_n 0, 1) := by decide +kernel
theorem dX12_keep_1 : decode cX12_keep 1 = .ok (.getfield 150, 3) := by decide +kernel
theorem dX12_keep_4 : decode cX12_keep 4 = .ok (.bipush 24, 2) := by decide +kernel
theorem dX12_keep_6 : decode cX12_keep 6 = .ok (.if_icmp .ne 43, 3) := by decide +kernel
theorem dX12_keep_9 : decode cX12_keep 9 = .ok (.iconst 0, 1) := by decide +kernel
theorem dX12_keep_10 : decode cX12_keep 10 = .ok (.istore_n 1, 1) := by decide +kernel
theorem dX12_keep_11 : decode cX12_keep 11 = .ok (.iload_n 1, 1) := by decide +kernel
theorem dX12_keep_12 : decode cX12_keep 12 = .ok (.sipush 2185, 3) := by decide +kernel
theorem dX12_keep_15 : decode cX12_keep 15 = .ok (.if_icmp .ge 24, 3) := by decide +kernel
theorem dX12_keep_18 : decode cX12_keep 18 = .ok (.aload_n 0, 1) := by decide +kernel
theorem dX12_keep_19 : decode cX12_keep 19 = .ok (.getfield 28, 3) := by decide +kernel
theorem dX12_keep_22 : decode cX12_keep 22 = .ok (.iload_n 1, 1) := by decide +kernel
theorem dX12_keep_23 : decode cX12_keep 23 = .ok (.aload_n 0, 1) := by decide +kernel
theorem dX12_keep_24 : decode cX12_keep 24 = .ok (.getfield 28, 3) := by decide +kernel
theorem dX12_keep_27 : decode cX12_keep 27 = .ok (.iload_n 1, 1) := by decide +kernel
theorem dX12_keep_28 : decode cX12_keep 28 = .ok (.bipush 95, 2) := by decide +kernel
theorem dX12_keep_30 : decode cX12_keep 30 = .ok (.iadd, 1) := by decide +kernel
theorem dX12_keep_31 : decode cX12_keep 31 = .ok (.iaload, 1) := by decide +kernel
theorem dX12_keep_32 : decode cX12_keep 32 = .ok (.iastore, 1) := by decide +kernel
theorem dX12_keep_33 : decode cX12_keep 33 = .ok (.iinc 1 1, 3) := by decide +kernel
theorem dX12_keep_36 : decode cX12_keep 36 = .ok (.goto (-25), 3) := by decide +kernel
theorem dX12_keep_39 : decode cX12_keep 39 = .ok (.aload_n 0, 1) := by decide +kernel
theorem dX12_keep_40 : decode cX12_keep 40 = .ok (.dup, 1) := by decide +kernel
theorem dX12_keep_41 : decode cX12_keep 41 = .ok (.getfield 150, 3) := by decide +kernel
theorem dX12_keep_44 : decode cX12_keep 44 = .ok (.iconst 1, 1) := by decide +kernel
theorem dX12_keep_45 : decode cX12_keep 45 = .ok (.isub, 1) := by decide +kernel
theorem dX12_keep_46 : decode cX12_keep 46 = .ok (.putfield 150, 3) := by decide +kernel
theorem dX12_keep_49 : decode cX12_keep 49 = .ok (.iconst 0, 1) := by decide +kernel
theorem dX12_keep_50 : decode cX12_keep 50 = .ok (.istore_n 1, 1) := by decide +kernel
theorem dX12_keep_51 : decode cX12_keep 51 = .ok (.iload_n 1, 1) := by decide +kernel
theorem dX12_keep_52 : decode cX12_keep 52 = .ok (.bipush 95, 2) := by decide +kernel
theorem dX12_keep_54 : decode cX12_keep 54 = .ok (.if_icmp .ge 29, 3) := by decide +kernel
theorem dX12_keep_57 : decode cX12_keep 57 = .ok (.aload_n 0, 1) := by decide +kernel
theorem dX12_keep_58 : decode cX12_keep 58 = .ok (.getfield 28, 3) := by decide +kernel
theorem dX12_keep_61 : decode cX12_keep 61 = .ok (.bipush 95, 2) := by decide +kernel
theorem dX12_keep_63 : decode cX12_keep 63 = .ok (.aload_n 0, 1) := by decide +kernel
theorem dX12_keep_64 : decode cX12_keep 64 = .ok (.getfield 150, 3) := by decide +kernel
theorem dX12_keep_67 : decode cX12_keep 67 = .ok (.imul, 1) := by decide +kernel
theorem dX12_keep_68 : decode cX12_keep 68 = .ok (.iload_n 1, 1) := by decide +kernel
theorem dX12_keep_69 : decode cX12_keep 69 = .ok (.iadd, 1) := by decide +kernel
theorem dX12_keep_70 : decode cX12_keep 70 = .ok (.aload_n 0, 1) := by decide +kernel
theorem dX12_keep_71 : decode cX12_keep 71 = .ok (.getfield 19, 3) := by decide +kernel
theorem dX12_keep_74 : decode cX12_keep 74 = .ok (.iload_n 1, 1) := by decide +kernel
theorem dX12_keep_75 : decode cX12_keep 75 = .ok (.iaload, 1) := by decide +kernel
theorem dX12_keep_76 : decode cX12_keep 76 = .ok (.iastore, 1) := by decide +kernel
theorem dX12_keep_77 : decode cX12_keep 77 = .ok (.iinc 1 1, 3) := by decide +kernel
theorem dX12_keep_80 : decode cX12_keep 80 = .ok (.goto (-29), 3) := by decide +kernel
theorem dX12_keep_83 : decode cX12_keep 83 = .ok (.aload_n 0, 1) := by decide +kernel
theorem dX12_keep_84 : decode cX12_keep 84 = .ok (.dup, 1) := by decide +kernel
theorem dX12_keep_85 : decode cX12_keep 85 = .ok (.getfield 150, 3) := by decide +kernel
theorem dX12_keep_88 : decode cX12_keep 88 = .ok (.iconst 1, 1) := by decide +kernel
theorem dX12_keep_89 : decode cX12_keep 89 = .ok (.iadd, 1) := by decide +kernel
theorem dX12_keep_90 : decode cX12_keep 90 = .ok (.putfield 150, 3) := by decide +kernel
theorem dX12_keep_93 : decode cX12_keep 93 = .ok (.return_, 1) := by decide +kernel
theorem dX12_atMost_0 : decode cX12_atMost 0 = .ok (.iload_n 0, 1) := by decide +kernel
theorem dX12_atMost_1 : decode cX12_atMost 1 = .ok (.iload_n 1, 1) := by decide +kernel
theorem dX12_atMost_2 : decode cX12_atMost 2 = .ok (.if_icmp .le 7, 3) := by decide +kernel
theorem dX12_atMost_5 : decode cX12_atMost 5 = .ok (.iload_n 1, 1) := by decide +kernel
theorem dX12_atMost_6 : decode cX12_atMost 6 = .ok (.goto 4, 3) := by decide +kernel
theorem dX12_atMost_9 : decode cX12_atMost 9 = .ok (.iload_n 0, 1) := by decide +kernel
theorem dX12_atMost_10 : decode cX12_atMost 10 = .ok (.ireturn, 1) := by decide +kernel
theorem dX12_charge_0 : decode cX12_charge 0 = .ok (.aload_n 0, 1) := by decide +kernel
theorem dX12_charge_1 : decode cX12_charge 1 = .ok (.iconst 0, 1) := by decide +kernel
theorem dX12_charge_2 : decode cX12_charge 2 = .ok (.putfield 44, 3) := by decide +kernel
theorem dX12_charge_5 : decode cX12_charge 5 = .ok (.aload_n 0, 1) := by decide +kernel
theorem dX12_charge_6 : decode cX12_charge 6 = .ok (.invokevirtual 177, 3) := by decide +kernel
theorem dX12_charge_9 : decode cX12_charge 9 = .ok (.ifCond .ne 6, 3) := by decide +kernel
theorem dX12_charge_12 : decode cX12_charge 12 = .ok (.ldc 180, 2) := by decide +kernel
theorem dX12_charge_14 : decode cX12_charge 14 = .ok (.ireturn, 1) := by decide +kernel
theorem dX12_charge_15 : decode cX12_charge 15 = .ok (.iload_n 1, 1) := by decide +kernel
theorem dX12_charge_16 : decode cX12_charge 16 = .ok (.i2l, 1) := by decide +kernel
theorem dX12_charge_17 : decode cX12_charge 17 = .ok (.lconst 0, 1) := by decide +kernel
theorem dX12_charge_18 : decode cX12_charge 18 = .ok (.ldc2_w 181, 3) := by decide +kernel
theorem dX12_charge_21 : decode cX12_charge 21 = .ok (.invokestatic 54, 3) := by decide +kernel
theorem dX12_charge_24 : decode cX12_charge 24 = .ok (.ifCond .eq 15, 3) := by decide +kernel
theorem dX12_charge_27 : decode cX12_charge 27 = .ok (.iload_n 2, 1) := by decide +kernel
theorem dX12_charge_28 : decode cX12_charge 28 = .ok (.i2l, 1) := by decide +kernel
theorem dX12_charge_29 : decode cX12_charge 29 = .ok (.lconst 0, 1) := by decide +kernel
theorem dX12_charge_30 : decode cX12_charge 30 = .ok (.ldc2_w 181, 3) := by decide +kernel
theorem dX12_charge_33 : decode cX12_charge 33 = .ok (.invokestatic 54, 3) := by decide +kernel
theorem dX12_charge_36 : decode cX12_charge 36 = .ok (.ifCond .ne 6, 3) := by decide +kernel
theorem dX12_charge_39 : decode cX12_charge 39 = .ok (.ldc 64, 2) := by decide +kernel
theorem dX12_charge_41 : decode cX12_charge 41 = .ok (.ireturn, 1) := by decide +kernel
theorem dX12_charge_42 : decode cX12_charge 42 = .ok (.aload_n 0, 1) := by decide +kernel
theorem dX12_charge_43 : decode cX12_charge 43 = .ok (.invokevirtual 183, 3) := by decide +kernel
theorem dX12_charge_46 : decode cX12_charge 46 = .ok (.aload_n 0, 1) := by decide +kernel
theorem dX12_charge_47 : decode cX12_charge 47 = .ok (.getfield 19, 3) := by decide +kernel
theorem dX12_charge_50 : decode cX12_charge 50 = .ok (.iconst 2, 1) := by decide +kernel
theorem dX12_charge_51 : decode cX12_charge 51 = .ok (.iaload, 1) := by decide +kernel
theorem dX12_charge_52 : decode cX12_charge 52 = .ok (.iload_n 1, 1) := by decide +kernel
theorem dX12_charge_53 : decode cX12_charge 53 = .ok (.iadd, 1) := by decide +kernel
theorem dX12_charge_54 : decode cX12_charge 54 = .ok (.bipush 99, 2) := by decide +kernel
theorem dX12_charge_56 : decode cX12_charge 56 = .ok (.invokestatic 186, 3) := by decide +kernel
theorem dX12_charge_59 : decode cX12_charge 59 = .ok (.istore_n 3, 1) := by decide +kernel
theorem dX12_charge_60 : decode cX12_charge 60 = .ok (.aload_n 0, 1) := by decide +kernel
theorem dX12_charge_61 : decode cX12_charge 61 = .ok (.getfield 19, 3) := by decide +kernel
theorem dX12_charge_64 : decode cX12_charge 64 = .ok (.iconst 4, 1) := by decide +kernel
theorem dX12_charge_65 : decode cX12_charge 65 = .ok (.dup2, 1) := by decide +kernel
theorem dX12_charge_66 : decode cX12_charge 66 = .ok (.iaload, 1) := by decide +kernel
theorem dX12_charge_67 : decode cX12_charge 67 = .ok (.iload_n 3, 1) := by decide +kernel
theorem dX12_charge_68 : decode cX12_charge 68 = .ok (.aload_n 0, 1) := by decide +kernel
theorem dX12_charge_69 : decode cX12_charge 69 = .ok (.getfield 19, 3) := by decide +kernel
theorem dX12_charge_72 : decode cX12_charge 72 = .ok (.iconst 2, 1) := by decide +kernel
theorem dX12_charge_73 : decode cX12_charge 73 = .ok (.iaload, 1) := by decide +kernel
theorem dX12_charge_74 : decode cX12_charge 74 = .ok (.isub, 1) := by decide +kernel
theorem dX12_charge_75 : decode cX12_charge 75 = .ok (.iadd, 1) := by decide +kernel
theorem dX12_charge_76 : decode cX12_charge 76 = .ok (.iastore, 1) := by decide +kernel
theorem dX12_charge_77 : decode cX12_charge 77 = .ok (.aload_n 0, 1) := by decide +kernel
theorem dX12_charge_78 : decode cX12_charge 78 = .ok (.getfield 19, 3) := by decide +kernel
theorem dX12_charge_81 : decode cX12_charge 81 = .ok (.iconst 2, 1) := by decide +kernel
theorem dX12_charge_82 : decode cX12_charge 82 = .ok (.iload_n 3, 1) := by decide +kernel
theorem dX12_charge_83 : decode cX12_charge 83 = .ok (.iastore, 1) := by decide +kernel
theorem dX12_charge_84 : decode cX12_charge 84 = .ok (.aload_n 0, 1) := by decide +kernel
theorem dX12_charge_85 : decode cX12_charge 85 = .ok (.getfield 19, 3) := by decide +kernel
theorem dX12_charge_88 : decode cX12_charge 88 = .ok (.iconst 3, 1) := by decide +kernel
theorem dX12_charge_89 : decode cX12_charge 89 = .ok (.aload_n 0, 1) := by decide +kernel
theorem dX12_charge_90 : decode cX12_charge 90 = .ok (.getfield 19, 3) := by decide +kernel
theorem dX12_charge_93 : decode cX12_charge 93 = .ok (.iconst 3, 1) := by decide +kernel
theorem dX12_charge_94 : decode cX12_charge 94 = .ok (.iaload, 1) := by decide +kernel
theorem dX12_charge_95 : decode cX12_charge 95 = .ok (.iload_n 2, 1) := by decide +kernel
theorem dX12_charge_96 : decode cX12_charge 96 = .ok (.iadd, 1) := by decide +kernel
theorem dX12_charge_97 : decode cX12_charge 97 = .ok (.bipush 99, 2) := by decide +kernel
theorem dX12_charge_99 : decode cX12_charge 99 = .ok (.invokestatic 186, 3) := by decide +kernel
theorem dX12_charge_102 : decode cX12_charge 102 = .ok (.iastore, 1) := by decide +kernel
theorem dX12_charge_103 : decode cX12_charge 103 = .ok (.iload_n 3, 1) := by decide +kernel
theorem dX12_charge_104 : decode cX12_charge 104 = .ok (.ireturn, 1) := by decide +kernel
theorem dX12_make_0 : decode cX12_make 0 = .ok (.aload_n 0, 1) := by decide +kernel
theorem dX12_make_1 : decode cX12_make 1 = .ok (.iconst 0, 1) := by decide +kernel
theorem dX12_make_2 : decode cX12_make 2 = .ok (.putfield 44, 3) := by decide +kernel
theorem dX12_make_5 : decode cX12_make 5 = .ok (.aload_n 0, 1) := by decide +kernel
theorem dX12_make_6 : decode cX12_make 6 = .ok (.iload_n 1, 1) := by decide +kernel
theorem dX12_make_7 : decode cX12_make 7 = .ok (.invokevirtual 189, 3) := by decide +kernel
theorem dX12_make_10 : decode cX12_make 10 = .ok (.ifCond .ne 6, 3) := by decide +kernel
theorem dX12_make_13 : decode cX12_make 13 = .ok (.ldc 64, 2) := by decide +kernel
theorem dX12_make_15 : decode cX12_make 15 = .ok (.ireturn, 1) := by decide +kernel
theorem dX12_make_16 : decode cX12_make 16 = .ok (.aload_n 0, 1) := by decide +kernel
theorem dX12_make_17 : decode cX12_make 17 = .ok (.invokevirtual 183, 3) := by decide +kernel
theorem dX12_make_20 : decode cX12_make 20 = .ok (.aload_n 0, 1) := by decide +kernel
theorem dX12_make_21 : decode cX12_make 21 = .ok (.aload_n 0, 1) := by decide +kernel
theorem dX12_make_22 : decode cX12_make 22 = .ok (.getfield 19, 3) := by decide +kernel
theorem dX12_make_25 : decode cX12_make 25 = .ok (.iload_n 1, 1) := by decide +kernel
theorem dX12_make_26 : decode cX12_make 26 = .ok (.invokevirtual 173, 3) := by decide +kernel
theorem dX12_make_29 : decode cX12_make 29 = .ok (.aload_n 0, 1) := by decide +kernel
theorem dX12_make_30 : decode cX12_make 30 = .ok (.getfield 19, 3) := by decide +kernel
theorem dX12_make_33 : decode cX12_make 33 = .ok (.iconst 2, 1) := by decide +kernel
theorem dX12_make_34 : decode cX12_make 34 = .ok (.iaload, 1) := by decide +kernel
theorem dX12_make_35 : decode cX12_make 35 = .ok (.ireturn, 1) := by decide +kernel
theorem dX12_stand_0 : decode cX12_stand 0 = .ok (.aload_n 0, 1) := by decide +kernel
theorem dX12_stand_1 : decode cX12_stand 1 = .ok (.iconst 0, 1) := by decide +kernel
theorem dX12_stand_2 : decode cX12_stand 2 = .ok (.putfield 44, 3) := by decide +kernel
theorem dX12_stand_5 : decode cX12_stand 5 = .ok (.aload_n 0, 1) := by decide +kernel
theorem dX12_stand_6 : decode cX12_stand 6 = .ok (.invokevirtual 177, 3) := by decide +kernel
theorem dX12_stand_9 : decode cX12_stand 9 = .ok (.ifCond .ne 6, 3) := by decide +kernel
theorem dX12_stand_12 : decode cX12_stand 12 = .ok (.ldc 180, 2) := by decide +kernel
theorem dX12_stand_14 : decode cX12_stand 14 = .ok (.ireturn, 1) := by decide +kernel
theorem dX12_stand_15 : decode cX12_stand 15 = .ok (.iload_n 1, 1) := by decide +kernel
theorem dX12_stand_16 : decode cX12_stand 16 = .ok (.invokestatic 192, 3) := by decide +kernel
theorem dX12_stand_19 : decode cX12_stand 19 = .ok (.ifCond .ne 6, 3) := by decide +kernel
theorem dX12_stand_22 : decode cX12_stand 22 = .ok (.ldc 64, 2) := by decide +kernel
theorem dX12_stand_24 : decode cX12_stand 24 = .ok (.ireturn, 1) := by decide +kernel
theorem dX12_stand_25 : decode cX12_stand 25 = .ok (.aload_n 0, 1) := by decide +kernel
theorem dX12_stand_26 : decode cX12_stand 26 = .ok (.invokevirtual 183, 3) := by decide +kernel
theorem dX12_stand_29 : decode cX12_stand 29 = .ok (.aload_n 0, 1) := by decide +kernel
theorem dX12_stand_30 : decode cX12_stand 30 = .ok (.getfield 19, 3) := by decide +kernel
theorem dX12_stand_33 : decode cX12_stand 33 = .ok (.iload_n 1, 1) := by decide +kernel
theorem dX12_stand_34 : decode cX12_stand 34 = .ok (.invokestatic 195, 3) := by decide +kernel
theorem dX12_stand_37 : decode cX12_stand 37 = .ok (.aload_n 0, 1) := by decide +kernel
theorem dX12_stand_38 : decode cX12_stand 38 = .ok (.getfield 19, 3) := by decide +kernel
theorem dX12_stand_41 : decode cX12_stand 41 = .ok (.bipush 6, 2) := by decide +kernel
theorem dX12_stand_43 : decode cX12_stand 43 = .ok (.iload_n 1, 1) := by decide +kernel
theorem dX12_stand_44 : decode cX12_stand 44 = .ok (.iadd, 1) := by decide +kernel
theorem dX12_stand_45 : decode cX12_stand 45 = .ok (.iaload, 1) := by decide +kernel
theorem dX12_stand_46 : decode cX12_stand 46 = .ok (.ireturn, 1) := by decide +kernel
theorem dX12_rest_0 : decode cX12_rest 0 = .ok (.aload_n 0, 1) := by decide +kernel
theorem dX12_rest_1 : decode cX12_rest 1 = .ok (.iconst 0, 1) := by decide +kernel
theorem dX12_rest_2 : decode cX12_rest 2 = .ok (.putfield 44, 3) := by decide +kernel
theorem dX12_rest_5 : decode cX12_rest 5 = .ok (.aload_n 0, 1) := by decide +kernel
theorem dX12_rest_6 : decode cX12_rest 6 = .ok (.invokevirtual 177, 3) := by decide +kernel
theorem dX12_rest_9 : decode cX12_rest 9 = .ok (.ifCond .ne 6, 3) := by decide +kernel
theorem dX12_rest_12 : decode cX12_rest 12 = .ok (.ldc 180, 2) := by decide +kernel
theorem dX12_rest_14 : decode cX12_rest 14 = .ok (.ireturn, 1) := by decide +kernel
theorem dX12_rest_15 : decode cX12_rest 15 = .ok (.aload_n 0, 1) := by decide +kernel
theorem dX12_rest_16 : decode cX12_rest 16 = .ok (.invokevirtual 183, 3) := by decide +kernel
theorem dX12_rest_19 : decode cX12_rest 19 = .ok (.aload_n 0, 1) := by decide +kernel
theorem dX12_rest_20 : decode cX12_rest 20 = .ok (.getfield 19, 3) := by decide +kernel
theorem dX12_rest_23 : decode cX12_rest 23 = .ok (.invokestatic 198, 3) := by decide +kernel
theorem dX12_rest_26 : decode cX12_rest 26 = .ok (.aload_n 0, 1) := by decide +kernel
theorem dX12_rest_27 : decode cX12_rest 27 = .ok (.getfield 19, 3) := by decide +kernel
theorem dX12_rest_30 : decode cX12_rest 30 = .ok (.invokestatic 202, 3) := by decide +kernel
theorem dX12_rest_33 : decode cX12_rest 33 = .ok (.ireturn, 1) := by decide +kernel
theorem dX12_undo_0 : decode cX12_undo 0 = .ok (.aload_n 0, 1) := by decide +kernel
theorem dX12_undo_1 : decode cX12_undo 1 = .ok (.iconst 0, 1) := by decide +kernel
theorem dX12_undo_2 : decode cX12_undo 2 = .ok (.putfield 44, 3) := by decide +kernel
theorem dX12_undo_5 : decode cX12_undo 5 = .ok (.aload_n 0, 1) := by decide +kernel
theorem dX12_undo_6 : decode cX12_undo 6 = .ok (.getfield 150, 3) := by decide +kernel
theorem dX12_undo_9 : decode cX12_undo 9 = .ok (.ifCond .ne 6, 3) := by decide +kernel
theorem dX12_undo_12 : decode cX12_undo 12 = .ok (.ldc 180, 2) := by decide +kernel
theorem dX12_undo_14 : decode cX12_undo 14 = .ok (.ireturn, 1) := by decide +kernel
theorem dX12_undo_15 : decode cX12_undo 15 = .ok (.aload_n 0, 1) := by decide +kernel
theorem dX12_undo_16 : decode cX12_undo 16 = .ok (.dup, 1) := by decide +kernel
theorem dX12_undo_17 : decode cX12_undo 17 = .ok (.getfield 150, 3) := by decide +kernel
theorem dX12_undo_20 : decode cX12_undo 20 = .ok (.iconst 1, 1) := by decide +kernel
theorem dX12_undo_21 : decode cX12_undo 21 = .ok (.isub, 1) := by decide +kernel
theorem dX12_undo_22 : decode cX12_undo 22 = .ok (.putfield 150, 3) := by decide +kernel
theorem dX12_undo_25 : decode cX12_undo 25 = .ok (.iconst 0, 1) := by decide +kernel
theorem dX12_undo_26 : decode cX12_undo 26 = .ok (.istore_n 1, 1) := by decide +kernel
theorem dX12_undo_27 : decode cX12_undo 27 = .ok (.iload_n 1, 1) := by decide +kernel
theorem dX12_undo_28 : decode cX12_undo 28 = .ok (.bipush 95, 2) := by decide +kernel
theorem dX12_undo_30 : decode cX12_undo 30 = .ok (.if_icmp .ge 29, 3) := by decide +kernel
theorem dX12_undo_33 : decode cX12_undo 33 = .ok (.aload_n 0, 1) := by decide +kernel
theorem dX12_undo_34 : decode cX12_undo 34 = .ok (.getfield 19, 3) := by decide +kernel
theorem dX12_undo_37 : decode cX12_undo 37 = .ok (.iload_n 1, 1) := by decide +kernel
theorem dX12_undo_38 : decode cX12_undo 38 = .ok (.aload_n 0, 1) := by decide +kernel
theorem dX12_undo_39 : decode cX12_undo 39 = .ok (.getfield 28, 3) := by decide +kernel
theorem dX12_undo_42 : decode cX12_undo 42 = .ok (.bipush 95, 2) := by decide +kernel
theorem dX12_undo_44 : decode cX12_undo 44 = .ok (.aload_n 0, 1) := by decide +kernel
theorem dX12_undo_45 : decode cX12_undo 45 = .ok (.getfield 150, 3) := by decide +kernel
theorem dX12_undo_48 : decode cX12_undo 48 = .ok (.imul, 1) := by decide +kernel
theorem dX12_undo_49 : decode cX12_undo 49 = .ok (.iload_n 1, 1) := by decide +kernel
theorem dX12_undo_50 : decode cX12_undo 50 = .ok (.iadd, 1) := by decide +kernel
theorem dX12_undo_51 : decode cX12_undo 51 = .ok (.iaload, 1) := by decide +kernel
theorem dX12_undo_52 : decode cX12_undo 52 = .ok (.iastore, 1) := by decide +kernel
theorem dX12_undo_53 : decode cX12_undo 53 = .ok (.iinc 1 1, 3) := by decide +kernel
theorem dX12_undo_56 : decode cX12_undo 56 = .ok (.goto (-29), 3) := by decide +kernel
theorem dX12_undo_59 : decode cX12_undo 59 = .ok (.aload_n 0, 1) := by decide +kernel
theorem dX12_undo_60 : decode cX12_undo 60 = .ok (.getfield 150, 3) := by decide +kernel
theorem dX12_undo_63 : decode cX12_undo 63 = .ok (.ireturn, 1) := by decide +kernel
theorem dX12_cell_0 : decode cX12_cell 0 = .ok (.aload_n 0, 1) := by decide +kernel
theorem dX12_cell_1 : decode cX12_cell 1 = .ok (.iconst 0, 1) := by decide +kernel
theorem dX12_cell_2 : decode cX12_cell 2 = .ok (.putfield 44, 3) := by decide +kernel
theorem dX12_cell_5 : decode cX12_cell 5 = .ok (.aload_n 0, 1) := by decide +kernel
theorem dX12_cell_6 : decode cX12_cell 6 = .ok (.invokevirtual 177, 3) := by decide +kernel
theorem dX12_cell_9 : decode cX12_cell 9 = .ok (.ifCond .ne 6, 3) := by decide +kernel
theorem dX12_cell_12 : decode cX12_cell 12 = .ok (.ldc 180, 2) := by decide +kernel
theorem dX12_cell_14 : decode cX12_cell 14 = .ok (.ireturn, 1) := by decide +kernel
theorem dX12_cell_15 : decode cX12_cell 15 = .ok (.iload_n 1, 1) := by decide +kernel
theorem dX12_cell_16 : decode cX12_cell 16 = .ok (.invokestatic 192, 3) := by decide +kernel
theorem dX12_cell_19 : decode cX12_cell 19 = .ok (.ifCond .eq 15, 3) := by decide +kernel
theorem dX12_cell_22 : decode cX12_cell 22 = .ok (.iload_n 2, 1) := by decide +kernel
theorem dX12_cell_23 : decode cX12_cell 23 = .ok (.i2l, 1) := by decide +kernel
theorem dX12_cell_24 : decode cX12_cell 24 = .ok (.lconst 0, 1) := by decide +kernel
theorem dX12_cell_25 : decode cX12_cell 25 = .ok (.ldc2_w 206, 3) := by decide +kernel
theorem dX12_cell_28 : decode cX12_cell 28 = .ok (.invokestatic 54, 3) := by decide +kernel
theorem dX12_cell_31 : decode cX12_cell 31 = .ok (.ifCond .ne 6, 3) := by decide +kernel
theorem dX12_cell_34 : decode cX12_cell 34 = .ok (.ldc 64, 2) := by decide +kernel
theorem dX12_cell_36 : decode cX12_cell 36 = .ok (.ireturn, 1) := by decide +kernel
theorem dX12_cell_37 : decode cX12_cell 37 = .ok (.iconst 0, 1) := by decide +kernel
theorem dX12_cell_38 : decode cX12_cell 38 = .ok (.istore_n 3, 1) := by decide +kernel
theorem dX12_cell_39 : decode cX12_cell 39 = .ok (.iconst 0, 1) := by decide +kernel
theorem dX12_cell_40 : decode cX12_cell 40 = .ok (.istore 4, 2) := by decide +kernel
theorem dX12_cell_42 : decode cX12_cell 42 = .ok (.iload 4, 2) := by decide +kernel
theorem dX12_cell_44 : decode cX12_cell 44 = .ok (.aload_n 0, 1) := by decide +kernel
theorem dX12_cell_45 : decode cX12_cell 45 = .ok (.getfield 19, 3) := by decide +kernel
theorem dX12_cell_48 : decode cX12_cell 48 = .ok (.iconst 5, 1) := by decide +kernel
theorem dX12_cell_49 : decode cX12_cell 49 = .ok (.iaload, 1) := by decide +kernel
theorem dX12_cell_50 : decode cX12_cell 50 = .ok (.if_icmp .ge 25, 3) := by decide +kernel
theorem dX12_cell_53 : decode cX12_cell 53 = .ok (.iload_n 3, 1) := by decide +kernel
theorem dX12_cell_54 : decode cX12_cell 54 = .ok (.aload_n 0, 1) := by decide +kernel
theorem dX12_cell_55 : decode cX12_cell 55 = .ok (.iload 4, 2) := by decide +kernel
theorem dX12_cell_57 : decode cX12_cell 57 = .ok (.invokevirtual 208, 3) := by decide +kernel
theorem dX12_cell_60 : decode cX12_cell 60 = .ok (.iload_n 1, 1) := by decide +kernel
theorem dX12_cell_61 : decode cX12_cell 61 = .ok (.ishr, 1) := by decide +kernel
theorem dX12_cell_62 : decode cX12_cell 62 = .ok (.iconst 1, 1) := by decide +kernel
theorem dX12_cell_63 : decode cX12_cell 63 = .ok (.iand, 1) := by decide +kernel
theorem dX12_cell_64 : decode cX12_cell 64 = .ok (.iload 4, 2) := by decide +kernel
theorem dX12_cell_66 : decode cX12_cell 66 = .ok (.ishl, 1) := by decide +kernel
theorem dX12_cell_67 : decode cX12_cell 67 = .ok (.ior, 1) := by decide +kernel
theorem dX12_cell_68 : decode cX12_cell 68 = .ok (.istore_n 3, 1) := by decide +kernel
theorem dX12_cell_69 : decode cX12_cell 69 = .ok (.iinc 4 1, 3) := by decide +kernel
theorem dX12_cell_72 : decode cX12_cell 72 = .ok (.goto (-30), 3) := by decide +kernel
theorem dX12_cell_75 : decode cX12_cell 75 = .ok (.iload_n 2, 1) := by decide +kernel
theorem dX12_cell_76 : decode cX12_cell 76 = .ok (.ifCond .ne 15, 3) := by decide +kernel
theorem dX12_cell_79 : decode cX12_cell 79 = .ok (.aload_n 0, 1) := by decide +kernel
theorem dX12_cell_80 : decode cX12_cell 80 = .ok (.getfield 19, 3) := by decide +kernel
theorem dX12_cell_83 : decode cX12_cell 83 = .ok (.bipush 6, 2) := by decide +kernel
theorem dX12_cell_85 : decode cX12_cell 85 = .ok (.iload_n 1, 1) := by decide +kernel
theorem dX12_cell_86 : decode cX12_cell 86 = .ok (.iadd, 1) := by decide +kernel
theorem dX12_cell_87 : decode cX12_cell 87 = .ok (.iaload, 1) := by decide +kernel
theorem dX12_cell_88 : decode cX12_cell 88 = .ok (.goto 38, 3) := by decide +kernel
theorem dX12_cell_91 : decode cX12_cell 91 = .ok (.iload_n 2, 1) := by decide +kernel
theorem dX12_cell_92 : decode cX12_cell 92 = .ok (.iconst 1, 1) := by decide +kernel
theorem dX12_cell_93 : decode cX12_cell 93 = .ok (.if_icmp .ne 15, 3) := by decide +kernel
theorem dX12_cell_96 : decode cX12_cell 96 = .ok (.aload_n 0, 1) := by decide +kernel
theorem dX12_cell_97 : decode cX12_cell 97 = .ok (.getfield 19, 3) := by decide +kernel
theorem dX12_cell_100 : decode cX12_cell 100 = .ok (.bipush 21, 2) := by decide +kernel
theorem dX12_cell_102 : decode cX12_cell 102 = .ok (.iload_n 1, 1) := by decide +kernel
theorem dX12_cell_103 : decode cX12_cell 103 = .ok (.iadd, 1) := by decide +kernel
theorem dX12_cell_104 : decode cX12_cell 104 = .ok (.iaload, 1) := by decide +kernel
theorem dX12_cell_105 : decode cX12_cell 105 = .ok (.goto 21, 3) := by decide +kernel
theorem dX12_cell_108 : decode cX12_cell 108 = .ok (.iload_n 2, 1) := by decide +kernel
theorem dX12_cell_109 : decode cX12_cell 109 = .ok (.iconst 2, 1) := by decide +kernel
theorem dX12_cell_110 : decode cX12_cell 110 = .ok (.if_icmp .ne 15, 3) := by decide +kernel
theorem dX12_cell_113 : decode cX12_cell 113 = .ok (.aload_n 0, 1) := by decide +kernel
theorem dX12_cell_114 : decode cX12_cell 114 = .ok (.getfield 19, 3) := by decide +kernel
theorem dX12_cell_117 : decode cX12_cell 117 = .ok (.bipush 36, 2) := by decide +kernel
theorem dX12_cell_119 : decode cX12_cell 119 = .ok (.iload_n 1, 1) := by decide +kernel
theorem dX12_cell_120 : decode cX12_cell 120 = .ok (.iadd, 1) := by decide +kernel
theorem dX12_cell_121 : decode cX12_cell 121 = .ok (.iaload, 1) := by decide +kernel
theorem dX12_cell_122 : decode cX12_cell 122 = .ok (.goto 4, 3) := by decide +kernel
theorem dX12_cell_125 : decode cX12_cell 125 = .ok (.iload_n 3, 1) := by decide +kernel
theorem dX12_cell_126 : decode cX12_cell 126 = .ok (.ireturn, 1) := by decide +kernel
theorem dX12_path_0 : decode cX12_path 0 = .ok (.aload_n 0, 1) := by decide +kernel
theorem dX12_path_1 : decode cX12_path 1 = .ok (.iconst 0, 1) := by decide +kernel
theorem dX12_path_2 : decode cX12_path 2 = .ok (.putfield 44, 3) := by decide +kernel
theorem dX12_path_5 : decode cX12_path 5 = .ok (.aload_n 0, 1) := by decide +kernel
theorem dX12_path_6 : decode cX12_path 6 = .ok (.iload_n 1, 1) := by decide +kernel
theorem dX12_path_7 : decode cX12_path 7 = .ok (.invokevirtual 189, 3) := by decide +kernel
theorem dX12_path_10 : decode cX12_path 10 = .ok (.ifCond .eq 8, 3) := by decide +kernel
theorem dX12_path_13 : decode cX12_path 13 = .ok (.iload_n 2, 1) := by decide +kernel
theorem dX12_path_14 : decode cX12_path 14 = .ok (.iconst (-1), 1) := by decide +kernel
theorem dX12_path_15 : decode cX12_path 15 = .ok (.if_icmp .ge 6, 3) := by decide +kernel
theorem dX12_path_18 : decode cX12_path 18 = .ok (.ldc 64, 2) := by decide +kernel
theorem dX12_path_20 : decode cX12_path 20 = .ok (.ireturn, 1) := by decide +kernel
theorem dX12_path_21 : decode cX12_path 21 = .ok (.iload_n 2, 1) := by decide +kernel
theorem dX12_path_22 : decode cX12_path 22 = .ok (.iconst (-1), 1) := by decide +kernel
theorem dX12_path_23 : decode cX12_path 23 = .ok (.if_icmp .ne 11, 3) := by decide +kernel
theorem dX12_path_26 : decode cX12_path 26 = .ok (.aload_n 0, 1) := by decide +kernel
theorem dX12_path_27 : decode cX12_path 27 = .ok (.iload_n 1, 1) := by decide +kernel
theorem dX12_path_28 : decode cX12_path 28 = .ok (.invokevirtual 157, 3) := by decide +kernel
theorem dX12_path_31 : decode cX12_path 31 = .ok (.goto 23, 3) := by decide +kernel
theorem dX12_path_34 : decode cX12_path 34 = .ok (.iload_n 2, 1) := by decide +kernel
theorem dX12_path_35 : decode cX12_path 35 = .ok (.aload_n 0, 1) := by decide +kernel
theorem dX12_path_36 : decode cX12_path 36 = .ok (.iload_n 1, 1) := by decide +kernel
theorem dX12_path_37 : decode cX12_path 37 = .ok (.invokevirtual 157, 3) := by decide +kernel
theorem dX12_path_40 : decode cX12_path 40 = .ok (.if_icmp .ge 12, 3) := by decide +kernel
theorem dX12_path_43 : decode cX12_path 43 = .ok (.aload_n 0, 1) := by decide +kernel
theorem dX12_path_44 : decode cX12_path 44 = .ok (.iload_n 1, 1) := by decide +kernel
theorem dX12_path_45 : decode cX12_path 45 = .ok (.iload_n 2, 1) := by decide +kernel
theorem dX12_path_46 : decode cX12_path 46 = .ok (.invokevirtual 160, 3) := by decide +kernel
theorem dX12_path_49 : decode cX12_path 49 = .ok (.goto 5, 3) := by decide +kernel
theorem dX12_path_52 : decode cX12_path 52 = .ok (.ldc 87, 2) := by decide +kernel
theorem dX12_path_54 : decode cX12_path 54 = .ok (.ireturn, 1) := by decide +kernel
theorem dX12_pad_0 : decode cX12_pad 0 = .ok (.aload_n 0, 1) := by decide +kernel
theorem dX12_pad_1 : decode cX12_pad 1 = .ok (.iconst 0, 1) := by decide +kernel
theorem dX12_pad_2 : decode cX12_pad 2 = .ok (.putfield 44, 3) := by decide +kernel
theorem dX12_pad_5 : decode cX12_pad 5 = .ok (.aload_n 0, 1) := by decide +kernel
theorem dX12_pad_6 : decode cX12_pad 6 = .ok (.invokevirtual 177, 3) := by decide +kernel
theorem dX12_pad_9 : decode cX12_pad 9 = .ok (.ifCond .ne 6, 3) := by decide +kernel
theorem dX12_pad_12 : decode cX12_pad 12 = .ok (.ldc 180, 2) := by decide +kernel
theorem dX12_pad_14 : decode cX12_pad 14 = .ok (.ireturn, 1) := by decide +kernel
theorem dX12_pad_15 : decode cX12_pad 15 = .ok (.iload_n 1, 1) := by decide +kernel
theorem dX12_pad_16 : decode cX12_pad 16 = .ok (.i2l, 1) := by decide +kernel
theorem dX12_pad_17 : decode cX12_pad 17 = .ok (.lconst 0, 1) := by decide +kernel
theorem dX12_pad_18 : decode cX12_pad 18 = .ok (.ldc2_w 62, 3) := by decide +kernel
theorem dX12_pad_21 : decode cX12_pad 21 = .ok (.invokestatic 54, 3) := by decide +kernel
theorem dX12_pad_24 : decode cX12_pad 24 = .ok (.ifCond .eq 14, 3) := by decide +kernel
theorem dX12_pad_27 : decode cX12_pad 27 = .ok (.aload_n 0, 1) := by decide +kernel
theorem dX12_pad_28 : decode cX12_pad 28 = .ok (.getfield 19, 3) := by decide +kernel
theorem dX12_pad_31 : decode cX12_pad 31 = .ok (.iconst 2, 1) := by decide +kernel
theorem dX12_pad_32 : decode cX12_pad 32 = .ok (.iload_n 1, 1) := by decide +kernel
theorem dX12_pad_33 : decode cX12_pad 33 = .ok (.iadd, 1) := by decide +kernel
theorem dX12_pad_34 : decode cX12_pad 34 = .ok (.iaload, 1) := by decide +kernel
theorem dX12_pad_35 : decode cX12_pad 35 = .ok (.goto 5, 3) := by decide +kernel
theorem dX12_pad_38 : decode cX12_pad 38 = .ok (.ldc 64, 2) := by decide +kernel
theorem dX12_pad_40 : decode cX12_pad 40 = .ok (.ireturn, 1) := by decide +kernel
theorem dX12_layAhead_0 : decode cX12_layAhead 0 = .ok (.aload_n 0, 1) := by decide +kernel
theorem dX12_layAhead_1 : decode cX12_layAhead 1 = .ok (.invokevirtual 211, 3) := by decide +kernel
theorem dX12_layAhead_4 : decode cX12_layAhead 4 = .ok (.iconst 0, 1) := by decide +kernel
theorem dX12_layAhead_5 : decode cX12_layAhead 5 = .ok (.istore_n 2, 1) := by decide +kernel
theorem dX12_layAhead_6 : decode cX12_layAhead 6 = .ok (.iload_n 2, 1) := by decide +kernel
theorem dX12_layAhead_7 : decode cX12_layAhead 7 = .ok (.iload_n 1, 1) := by decide +kernel
theorem dX12_layAhead_8 : decode cX12_layAhead 8 = .ok (.if_icmp .ge 17, 3) := by decide +kernel
theorem dX12_layAhead_11 : decode cX12_layAhead 11 = .ok (.aload_n 0, 1) := by decide +kernel
theorem dX12_layAhead_12 : decode cX12_layAhead 12 = .ok (.aload_n 0, 1) := by decide +kernel
theorem dX12_layAhead_13 : decode cX12_layAhead 13 = .ok (.getfield 25, 3) := by decide +kernel
theorem dX12_layAhead_16 : decode cX12_layAhead 16 = .ok (.invokevirtual 214, 3) := by decide +kernel
theorem dX12_layAhead_19 : decode cX12_layAhead 19 = .ok (.iinc 2 1, 3) := by decide +kernel
theorem dX12_layAhead_22 : decode cX12_layAhead 22 = .ok (.goto (-16), 3) := by decide +kernel
theorem dX12_layAhead_25 : decode cX12_layAhead 25 = .ok (.return_, 1) := by decide +kernel
theorem dX12_ahead_0 : decode cX12_ahead 0 = .ok (.aload_n 0, 1) := by decide +kernel
theorem dX12_ahead_1 : decode cX12_ahead 1 = .ok (.iconst 0, 1) := by decide +kernel
theorem dX12_ahead_2 : decode cX12_ahead 2 = .ok (.putfield 44, 3) := by decide +kernel
theorem dX12_ahead_5 : decode cX12_ahead 5 = .ok (.aload_n 0, 1) := by decide +kernel
theorem dX12_ahead_6 : decode cX12_ahead 6 = .ok (.invokevirtual 177, 3) := by decide +kernel
theorem dX12_ahead_9 : decode cX12_ahead 9 = .ok (.ifCond .ne 6, 3) := by decide +kernel
theorem dX12_ahead_12 : decode cX12_ahead 12 = .ok (.ldc 180, 2) := by decide +kernel
theorem dX12_ahead_14 : decode cX12_ahead 14 = .ok (.ireturn, 1) := by decide +kernel
theorem dX12_ahead_15 : decode cX12_ahead 15 = .ok (.iload_n 1, 1) := by decide +kernel
theorem dX12_ahead_16 : decode cX12_ahead 16 = .ok (.i2l, 1) := by decide +kernel
theorem dX12_ahead_17 : decode cX12_ahead 17 = .ok (.lconst 0, 1) := by decide +kernel
theorem dX12_ahead_18 : decode cX12_ahead 18 = .ok (.ldc2_w 217, 3) := by decide +kernel
theorem dX12_ahead_21 : decode cX12_ahead 21 = .ok (.invokestatic 54, 3) := by decide +kernel
theorem dX12_ahead_24 : decode cX12_ahead 24 = .ok (.ifCond .eq 20, 3) := by decide +kernel
theorem dX12_ahead_27 : decode cX12_ahead 27 = .ok (.iload_n 2, 1) := by decide +kernel
theorem dX12_ahead_28 : decode cX12_ahead 28 = .ok (.invokestatic 192, 3) := by decide +kernel
theorem dX12_ahead_31 : decode cX12_ahead 31 = .ok (.ifCond .eq 13, 3) := by decide +kernel
theorem dX12_ahead_34 : decode cX12_ahead 34 = .ok (.iload_n 3, 1) := by decide +kernel
theorem dX12_ahead_35 : decode cX12_ahead 35 = .ok (.i2l, 1) := by decide +kernel
theorem dX12_ahead_36 : decode cX12_ahead 36 = .ok (.lconst 0, 1) := by decide +kernel
theorem dX12_ahead_37 : decode cX12_ahead 37 = .ok (.lconst 1, 1) := by decide +kernel
theorem dX12_ahead_38 : decode cX12_ahead 38 = .ok (.invokestatic 54, 3) := by decide +kernel
theorem dX12_ahead_41 : decode cX12_ahead 41 = .ok (.ifCond .ne 6, 3) := by decide +kernel
theorem dX12_ahead_44 : decode cX12_ahead 44 = .ok (.ldc 64, 2) := by decide +kernel
theorem dX12_ahead_46 : decode cX12_ahead 46 = .ok (.ireturn, 1) := by decide +kernel
theorem dX12_ahead_47 : decode cX12_ahead 47 = .ok (.aload_n 0, 1) := by decide +kernel
theorem dX12_ahead_48 : decode cX12_ahead 48 = .ok (.iload_n 1, 1) := by decide +kernel
theorem dX12_ahead_49 : decode cX12_ahead 49 = .ok (.invokevirtual 219, 3) := by decide +kernel
theorem dX12_ahead_52 : decode cX12_ahead 52 = .ok (.iload_n 3, 1) := by decide +kernel
theorem dX12_ahead_53 : decode cX12_ahead 53 = .ok (.ifCond .ne 15, 3) := by decide +kernel
theorem dX12_ahead_56 : decode cX12_ahead 56 = .ok (.aload_n 0, 1) := by decide +kernel
theorem dX12_ahead_57 : decode cX12_ahead 57 = .ok (.getfield 25, 3) := by decide +kernel
theorem dX12_ahead_60 : decode cX12_ahead 60 = .ok (.bipush 6, 2) := by decide +kernel
theorem dX12_ahead_62 : decode cX12_ahead 62 = .ok (.iload_n 2, 1) := by decide +kernel
theorem dX12_ahead_63 : decode cX12_ahead 63 = .ok (.iadd, 1) := by decide +kernel
theorem dX12_ahead_64 : decode cX12_ahead 64 = .ok (.iaload, 1) := by decide +kernel
theorem dX12_ahead_65 : decode cX12_ahead 65 = .ok (.goto 12, 3) := by decide +kernel
theorem dX12_ahead_68 : decode cX12_ahead 68 = .ok (.aload_n 0, 1) := by decide +kernel
theorem dX12_ahead_69 : decode cX12_ahead 69 = .ok (.getfield 25, 3) := by decide +kernel
theorem dX12_ahead_72 : decode cX12_ahead 72 = .ok (.bipush 36, 2) := by decide +kernel
theorem dX12_ahead_74 : decode cX12_ahead 74 = .ok (.iload_n 2, 1) := by decide +kernel
theorem dX12_ahead_75 : decode cX12_ahead 75 = .ok (.iadd, 1) := by decide +kernel
theorem dX12_ahead_76 : decode cX12_ahead 76 = .ok (.iaload, 1) := by decide +kernel
theorem dX12_ahead_77 : decode cX12_ahead 77 = .ok (.ireturn, 1) := by decide +kernel
theorem dX12_uneven_0 : decode cX12_uneven 0 = .ok (.aload_n 0, 1) := by decide +kernel
theorem dX12_uneven_1 : decode cX12_uneven 1 = .ok (.iconst 0, 1) := by decide +kernel
theorem dX12_uneven_2 : decode cX12_uneven 2 = .ok (.putfield 44, 3) := by decide +kernel
theorem dX12_uneven_5 : decode cX12_uneven 5 = .ok (.aload_n 0, 1) := by decide +kernel
theorem dX12_uneven_6 : decode cX12_uneven 6 = .ok (.invokevirtual 177, 3) := by decide +kernel
theorem dX12_uneven_9 : decode cX12_uneven 9 = .ok (.ifCond .ne 6, 3) := by decide +kernel
theorem dX12_uneven_12 : decode cX12_uneven 12 = .ok (.ldc 180, 2) := by decide +kernel
theorem dX12_uneven_14 : decode cX12_uneven 14 = .ok (.ireturn, 1) := by decide +kernel
theorem dX12_uneven_15 : decode cX12_uneven 15 = .ok (.iload_n 1, 1) := by decide +kernel
theorem dX12_uneven_16 : decode cX12_uneven 16 = .ok (.i2l, 1) := by decide +kernel
theorem dX12_uneven_17 : decode cX12_uneven 17 = .ok (.lconst 0, 1) := by decide +kernel
theorem dX12_uneven_18 : decode cX12_uneven 18 = .ok (.ldc2_w 217, 3) := by decide +kernel
theorem dX12_uneven_21 : decode cX12_uneven 21 = .ok (.invokestatic 54, 3) := by decide +kernel
theorem dX12_uneven_24 : decode cX12_uneven 24 = .ok (.ifCond .ne 6, 3) := by decide +kernel
theorem dX12_uneven_27 : decode cX12_uneven 27 = .ok (.ldc 64, 2) := by decide +kernel
theorem dX12_uneven_29 : decode cX12_uneven 29 = .ok (.ireturn, 1) := by decide +kernel
theorem dX12_uneven_30 : decode cX12_uneven 30 = .ok (.aload_n 0, 1) := by decide +kernel
theorem dX12_uneven_31 : decode cX12_uneven 31 = .ok (.iload_n 1, 1) := by decide +kernel
theorem dX12_uneven_32 : decode cX12_uneven 32 = .ok (.invokevirtual 219, 3) := by decide +kernel
theorem dX12_uneven_35 : decode cX12_uneven 35 = .ok (.aload_n 0, 1) := by decide +kernel
theorem dX12_uneven_36 : decode cX12_uneven 36 = .ok (.getfield 25, 3) := by decide +kernel
theorem dX12_uneven_39 : decode cX12_uneven 39 = .ok (.invokestatic 222, 3) := by decide +kernel
theorem dX12_uneven_42 : decode cX12_uneven 42 = .ok (.ireturn, 1) := by decide +kernel
theorem dX12_placed_0 : decode cX12_placed 0 = .ok (.iload_n 1, 1) := by decide +kernel
theorem dX12_placed_1 : decode cX12_placed 1 = .ok (.iconst 2, 1) := by decide +kernel
theorem dX12_placed_2 : decode cX12_placed 2 = .ok (.aload_n 0, 1) := by decide +kernel
theorem dX12_placed_3 : decode cX12_placed 3 = .ok (.getfield 19, 3) := by decide +kernel
theorem dX12_placed_6 : decode cX12_placed 6 = .ok (.iconst 5, 1) := by decide +kernel
theorem dX12_placed_7 : decode cX12_placed 7 = .ok (.iaload, 1) := by decide +kernel
theorem dX12_placed_8 : decode cX12_placed 8 = .ok (.iconst 1, 1) := by decide +kernel
theorem dX12_placed_9 : decode cX12_placed 9 = .ok (.isub, 1) := by decide +kernel
theorem dX12_placed_10 : decode cX12_placed 10 = .ok (.iload_n 2, 1) := by decide +kernel
theorem dX12_placed_11 : decode cX12_placed 11 = .ok (.isub, 1) := by decide +kernel
theorem dX12_placed_12 : decode cX12_placed 12 = .ok (.imul, 1) := by decide +kernel
theorem dX12_placed_13 : decode cX12_placed 13 = .ok (.ishr, 1) := by decide +kernel
theorem dX12_placed_14 : decode cX12_placed 14 = .ok (.iconst 3, 1) := by decide +kernel
theorem dX12_placed_15 : decode cX12_placed 15 = .ok (.iand, 1) := by decide +kernel
theorem dX12_placed_16 : decode cX12_placed 16 = .ok (.ireturn, 1) := by decide +kernel
theorem dX12_isOrder_0 : decode cX12_isOrder 0 = .ok (.iconst 0, 1) := by decide +kernel
theorem dX12_isOrder_1 : decode cX12_isOrder 1 = .ok (.istore_n 2, 1) := by decide +kernel
theorem dX12_isOrder_2 : decode cX12_isOrder 2 = .ok (.iconst 0, 1) := by decide +kernel
theorem dX12_isOrder_3 : decode cX12_isOrder 3 = .ok (.istore_n 3, 1) := by decide +kernel
theorem dX12_isOrder_4 : decode cX12_isOrder 4 = .ok (.iload_n 3, 1) := by decide +kernel
theorem dX12_isOrder_5 : decode cX12_isOrder 5 = .ok (.aload_n 0, 1) := by decide +kernel
theorem dX12_isOrder_6 : decode cX12_isOrder 6 = .ok (.getfield 19, 3) := by decide +kernel
theorem dX12_isOrder_9 : decode cX12_isOrder 9 = .ok (.iconst 5, 1) := by decide +kernel
theorem dX12_isOrder_10 : decode cX12_isOrder 10 = .ok (.iaload, 1) := by decide +kernel
theorem dX12_isOrder_11 : decode cX12_isOrder 11 = .ok (.if_icmp .ge 20, 3) := by decide +kernel
theorem dX12_isOrder_14 : decode cX12_isOrder 14 = .ok (.iload_n 2, 1) := by decide +kernel
theorem dX12_isOrder_15 : decode cX12_isOrder 15 = .ok (.iconst 1, 1) := by decide +kernel
theorem dX12_isOrder_16 : decode cX12_isOrder 16 = .ok (.aload_n 0, 1) := by decide +kernel
theorem dX12_isOrder_17 : decode cX12_isOrder 17 = .ok (.iload_n 1, 1) := by decide +kernel
theorem dX12_isOrder_18 : decode cX12_isOrder 18 = .ok (.iload_n 3, 1) := by decide +kernel
theorem dX12_isOrder_19 : decode cX12_isOrder 19 = .ok (.invokevirtual 225, 3) := by decide +kernel
theorem dX12_isOrder_22 : decode cX12_isOrder 22 = .ok (.ishl, 1) := by decide +kernel
theorem dX12_isOrder_23 : decode cX12_isOrder 23 = .ok (.ior, 1) := by decide +kernel
theorem dX12_isOrder_24 : decode cX12_isOrder 24 = .ok (.istore_n 2, 1) := by decide +kernel
theorem dX12_isOrder_25 : decode cX12_isOrder 25 = .ok (.iinc 3 1, 3) := by decide +kernel
theorem dX12_isOrder_28 : decode cX12_isOrder 28 = .ok (.goto (-24), 3) := by decide +kernel
theorem dX12_isOrder_31 : decode cX12_isOrder 31 = .ok (.iload_n 2, 1) := by decide +kernel
theorem dX12_isOrder_32 : decode cX12_isOrder 32 = .ok (.iconst 1, 1) := by decide +kernel
theorem dX12_isOrder_33 : decode cX12_isOrder 33 = .ok (.aload_n 0, 1) := by decide +kernel
theorem dX12_isOrder_34 : decode cX12_isOrder 34 = .ok (.getfield 19, 3) := by decide +kernel
theorem dX12_isOrder_37 : decode cX12_isOrder 37 = .ok (.iconst 5, 1) := by decide +kernel
theorem dX12_isOrder_38 : decode cX12_isOrder 38 = .ok (.iaload, 1) := by decide +kernel
theorem dX12_isOrder_39 : decode cX12_isOrder 39 = .ok (.ishl, 1) := by decide +kernel
theorem dX12_isOrder_40 : decode cX12_isOrder 40 = .ok (.iconst 1, 1) := by decide +kernel
theorem dX12_isOrder_41 : decode cX12_isOrder 41 = .ok (.isub, 1) := by decide +kernel
theorem dX12_isOrder_42 : decode cX12_isOrder 42 = .ok (.if_icmp .ne 7, 3) := by decide +kernel
theorem dX12_isOrder_45 : decode cX12_isOrder 45 = .ok (.iconst 1, 1) := by decide +kernel
theorem dX12_isOrder_46 : decode cX12_isOrder 46 = .ok (.goto 4, 3) := by decide +kernel
theorem dX12_isOrder_49 : decode cX12_isOrder 49 = .ok (.iconst 0, 1) := by decide +kernel
theorem dX12_isOrder_50 : decode cX12_isOrder 50 = .ok (.ireturn, 1) := by decide +kernel
theorem dX12_order_0 : decode cX12_order 0 = .ok (.aload_n 0, 1) := by decide +kernel
theorem dX12_order_1 : decode cX12_order 1 = .ok (.iconst 0, 1) := by decide +kernel
theorem dX12_order_2 : decode cX12_order 2 = .ok (.putfield 44, 3) := by decide +kernel
theorem dX12_order_5 : decode cX12_order 5 = .ok (.aload_n 0, 1) := by decide +kernel
theorem dX12_order_6 : decode cX12_order 6 = .ok (.invokevirtual 177, 3) := by decide +kernel
theorem dX12_order_9 : decode cX12_order 9 = .ok (.ifCond .ne 6, 3) := by decide +kernel
theorem dX12_order_12 : decode cX12_order 12 = .ok (.ldc 180, 2) := by decide +kernel
theorem dX12_order_14 : decode cX12_order 14 = .ok (.ireturn, 1) := by decide +kernel
theorem dX12_order_15 : decode cX12_order 15 = .ok (.iload_n 1, 1) := by decide +kernel
theorem dX12_order_16 : decode cX12_order 16 = .ok (.i2l, 1) := by decide +kernel
theorem dX12_order_17 : decode cX12_order 17 = .ok (.ldc2_w 228, 3) := by decide +kernel
theorem dX12_order_20 : decode cX12_order 20 = .ok (.ldc2_w 206, 3) := by decide +kernel
theorem dX12_order_23 : decode cX12_order 23 = .ok (.invokestatic 54, 3) := by decide +kernel
theorem dX12_order_26 : decode cX12_order 26 = .ok (.ifCond .ne 6, 3) := by decide +kernel
theorem dX12_order_29 : decode cX12_order 29 = .ok (.ldc 64, 2) := by decide +kernel
theorem dX12_order_31 : decode cX12_order 31 = .ok (.ireturn, 1) := by decide +kernel
theorem dX12_order_32 : decode cX12_order 32 = .ok (.ldc 87, 2) := by decide +kernel
theorem dX12_order_34 : decode cX12_order 34 = .ok (.istore_n 2, 1) := by decide +kernel
theorem dX12_order_35 : decode cX12_order 35 = .ok (.iconst 0, 1) := by decide +kernel
theorem dX12_order_36 : decode cX12_order 36 = .ok (.istore_n 3, 1) := by decide +kernel
theorem dX12_order_37 : decode cX12_order 37 = .ok (.iconst 0, 1) := by decide +kernel
theorem dX12_order_38 : decode cX12_order 38 = .ok (.istore 4, 2) := by decide +kernel
theorem dX12_order_40 : decode cX12_order 40 = .ok (.iload 4, 2) := by decide +kernel
theorem dX12_order_42 : decode cX12_order 42 = .ok (.iconst 1, 1) := by decide +kernel
theorem dX12_order_43 : decode cX12_order 43 = .ok (.iconst 2, 1) := by decide +kernel
theorem dX12_order_44 : decode cX12_order 44 = .ok (.aload_n 0, 1) := by decide +kernel
theorem dX12_order_45 : decode cX12_order 45 = .ok (.getfield 19, 3) := by decide +kernel
theorem dX12_order_48 : decode cX12_order 48 = .ok (.iconst 5, 1) := by decide +kernel
theorem dX12_order_49 : decode cX12_order 49 = .ok (.iaload, 1) := by decide +kernel
theorem dX12_order_50 : decode cX12_order 50 = .ok (.imul, 1) := by decide +kernel
theorem dX12_order_51 : decode cX12_order 51 = .ok (.ishl, 1) := by decide +kernel
theorem dX12_order_52 : decode cX12_order 52 = .ok (.if_icmp .ge 110, 3) := by decide +kernel
theorem dX12_order_55 : decode cX12_order 55 = .ok (.aload_n 0, 1) := by decide +kernel
theorem dX12_order_56 : decode cX12_order 56 = .ok (.iload 4, 2) := by decide +kernel
theorem dX12_order_58 : decode cX12_order 58 = .ok (.invokevirtual 230, 3) := by decide +kernel
theorem dX12_order_61 : decode cX12_order 61 = .ok (.ifCond .eq 95, 3) := by decide +kernel
theorem dX12_order_64 : decode cX12_order 64 = .ok (.aload_n 0, 1) := by decide +kernel
theorem dX12_order_65 : decode cX12_order 65 = .ok (.invokevirtual 211, 3) := by decide +kernel
theorem dX12_order_68 : decode cX12_order 68 = .ok (.iconst 0, 1) := by decide +kernel
theorem dX12_order_69 : decode cX12_order 69 = .ok (.istore 5, 2) := by decide +kernel
theorem dX12_order_71 : decode cX12_order 71 = .ok (.iload 5, 2) := by decide +kernel
theorem dX12_order_73 : decode cX12_order 73 = .ok (.aload_n 0, 1) := by decide +kernel
theorem dX12_order_74 : decode cX12_order 74 = .ok (.getfield 19, 3) := by decide +kernel
theorem dX12_order_77 : decode cX12_order 77 = .ok (.iconst 5, 1) := by decide +kernel
theorem dX12_order_78 : decode cX12_order 78 = .ok (.iaload, 1) := by decide +kernel
theorem dX12_order_79 : decode cX12_order 79 = .ok (.if_icmp .ge 25, 3) := by decide +kernel
theorem dX12_order_82 : decode cX12_order 82 = .ok (.aload_n 0, 1) := by decide +kernel
theorem dX12_order_83 : decode cX12_order 83 = .ok (.aload_n 0, 1) := by decide +kernel
theorem dX12_order_84 : decode cX12_order 84 = .ok (.getfield 25, 3) := by decide +kernel
theorem dX12_order_87 : decode cX12_order 87 = .ok (.aload_n 0, 1) := by decide +kernel
theorem dX12_order_88 : decode cX12_order 88 = .ok (.iload 4, 2) := by decide +kernel
theorem dX12_order_90 : decode cX12_order 90 = .ok (.iload 5, 2) := by decide +kernel
theorem dX12_order_92 : decode cX12_order 92 = .ok (.invokevirtual 225, 3) := by decide +kernel
theorem dX12_order_95 : decode cX12_order 95 = .ok (.invokevirtual 173, 3) := by decide +kernel
theorem dX12_order_98 : decode cX12_order 98 = .ok (.iinc 5 1, 3) := by decide +kernel
theorem dX12_order_101 : decode cX12_order 101 = .ok (.goto (-30), 3) := by decide +kernel
theorem dX12_order_104 : decode cX12_order 104 = .ok (.aload_n 0, 1) := by decide +kernel
theorem dX12_order_105 : decode cX12_order 105 = .ok (.getfield 25, 3) := by decide +kernel
theorem dX12_order_108 : decode cX12_order 108 = .ok (.invokestatic 222, 3) := by decide +kernel
theorem dX12_order_111 : decode cX12_order 111 = .ok (.istore 5, 2) := by decide +kernel
theorem dX12_order_113 : decode cX12_order 113 = .ok (.iload_n 2, 1) := by decide +kernel
theorem dX12_order_114 : decode cX12_order 114 = .ok (.ldc 87, 2) := by decide +kernel
theorem dX12_order_116 : decode cX12_order 116 = .ok (.if_icmp .eq 9, 3) := by decide +kernel
theorem dX12_order_119 : decode cX12_order 119 = .ok (.iload 5, 2) := by decide +kernel
theorem dX12_order_121 : decode cX12_order 121 = .ok (.iload_n 3, 1) := by decide +kernel
theorem dX12_order_122 : decode cX12_order 122 = .ok (.if_icmp .ge 7, 3) := by decide +kernel
theorem dX12_order_125 : decode cX12_order 125 = .ok (.iconst 1, 1) := by decide +kernel
theorem dX12_order_126 : decode cX12_order 126 = .ok (.goto 4, 3) := by decide +kernel
theorem dX12_order_129 : decode cX12_order 129 = .ok (.iconst 0, 1) := by decide +kernel
theorem dX12_order_130 : decode cX12_order 130 = .ok (.istore 6, 2) := by decide +kernel
theorem dX12_order_132 : decode cX12_order 132 = .ok (.iload 6, 2) := by decide +kernel
theorem dX12_order_134 : decode cX12_order 134 = .ok (.ifCond .eq 8, 3) := by decide +kernel
theorem dX12_order_137 : decode cX12_order 137 = .ok (.iload 4, 2) := by decide +kernel
theorem dX12_order_139 : decode cX12_order 139 = .ok (.goto 4, 3) := by decide +kernel
theorem dX12_order_142 : decode cX12_order 142 = .ok (.iload_n 2, 1) := by decide +kernel
theorem dX12_order_143 : decode cX12_order 143 = .ok (.istore_n 2, 1) := by decide +kernel
theorem dX12_order_144 : decode cX12_order 144 = .ok (.iload 6, 2) := by decide +kernel
theorem dX12_order_146 : decode cX12_order 146 = .ok (.ifCond .eq 8, 3) := by decide +kernel
theorem dX12_order_149 : decode cX12_order 149 = .ok (.iload 5, 2) := by decide +kernel
theorem dX12_order_151 : decode cX12_order 151 = .ok (.goto 4, 3) := by decide +kernel
theorem dX12_order_154 : decode cX12_order 154 = .ok (.iload_n 3, 1) := by decide +kernel
theorem dX12_order_155 : decode cX12_order 155 = .ok (.istore_n 3, 1) := by decide +kernel
theorem dX12_order_156 : decode cX12_order 156 = .ok (.iinc 4 1, 3) := by decide +kernel
theorem dX12_order_159 : decode cX12_order 159 = .ok (.goto (-119), 3) := by decide +kernel
theorem dX12_order_162 : decode cX12_order 162 = .ok (.iload_n 1, 1) := by decide +kernel
theorem dX12_order_163 : decode cX12_order 163 = .ok (.ifCond .ge 7, 3) := by decide +kernel
theorem dX12_order_166 : decode cX12_order 166 = .ok (.iload_n 3, 1) := by decide +kernel
theorem dX12_order_167 : decode cX12_order 167 = .ok (.goto 24, 3) := by decide +kernel
theorem dX12_order_170 : decode cX12_order 170 = .ok (.iload_n 1, 1) := by decide +kernel
theorem dX12_order_171 : decode cX12_order 171 = .ok (.aload_n 0, 1) := by decide +kernel
theorem dX12_order_172 : decode cX12_order 172 = .ok (.getfield 19, 3) := by decide +kernel
theorem dX12_order_175 : decode cX12_order 175 = .ok (.iconst 5, 1) := by decide +kernel
theorem dX12_order_176 : decode cX12_order 176 = .ok (.iaload, 1) := by decide +kernel
theorem dX12_order_177 : decode cX12_order 177 = .ok (.if_icmp .ge 12, 3) := by decide +kernel
theorem dX12_order_180 : decode cX12_order 180 = .ok (.aload_n 0, 1) := by decide +kernel
theorem dX12_order_181 : decode cX12_order 181 = .ok (.iload_n 2, 1) := by decide +kernel
theorem dX12_order_182 : decode cX12_order 182 = .ok (.iload_n 1, 1) := by decide +kernel
theorem dX12_order_183 : decode cX12_order 183 = .ok (.invokevirtual 225, 3) := by decide +kernel
theorem dX12_order_186 : decode cX12_order 186 = .ok (.goto 5, 3) := by decide +kernel
theorem dX12_order_189 : decode cX12_order 189 = .ok (.ldc 87, 2) := by decide +kernel
theorem dX12_order_191 : decode cX12_order 191 = .ok (.ireturn, 1) := by decide +kernel
theorem dX12_overAll_0 : decode cX12_overAll 0 = .ok (.iconst 0, 1) := by decide +kernel
theorem dX12_overAll_1 : decode cX12_overAll 1 = .ok (.istore_n 1, 1) := by decide +kernel
theorem dX12_overAll_2 : decode cX12_overAll 2 = .ok (.iconst 0, 1) := by decide +kernel
theorem dX12_overAll_3 : decode cX12_overAll 3 = .ok (.istore_n 2, 1) := by decide +kernel
theorem dX12_overAll_4 : decode cX12_overAll 4 = .ok (.iload_n 2, 1) := by decide +kernel
theorem dX12_overAll_5 : decode cX12_overAll 5 = .ok (.aload_n 0, 1) := by decide +kernel
theorem dX12_overAll_6 : decode cX12_overAll 6 = .ok (.getfield 19, 3) := by decide +kernel
theorem dX12_overAll_9 : decode cX12_overAll 9 = .ok (.iconst 5, 1) := by decide +kernel
theorem dX12_overAll_10 : decode cX12_overAll 10 = .ok (.iaload, 1) := by decide +kernel
theorem dX12_overAll_11 : decode cX12_overAll 11 = .ok (.if_icmp .ge 17, 3) := by decide +kernel
theorem dX12_overAll_14 : decode cX12_overAll 14 = .ok (.iload_n 1, 1) := by decide +kernel
theorem dX12_overAll_15 : decode cX12_overAll 15 = .ok (.aload_n 0, 1) := by decide +kernel
theorem dX12_overAll_16 : decode cX12_overAll 16 = .ok (.iload_n 2, 1) := by decide +kernel
theorem dX12_overAll_17 : decode cX12_overAll 17 = .ok (.invokevirtual 208, 3) := by decide +kernel
theorem dX12_overAll_20 : decode cX12_overAll 20 = .ok (.ior, 1) := by decide +kernel
theorem dX12_overAll_21 : decode cX12_overAll 21 = .ok (.istore_n 1, 1) := by decide +kernel
theorem dX12_overAll_22 : decode cX12_overAll 22 = .ok (.iinc 2 1, 3) := by decide +kernel
theorem dX12_overAll_25 : decode cX12_overAll 25 = .ok (.goto (-21), 3) := by decide +kernel
theorem dX12_overAll_28 : decode cX12_overAll 28 = .ok (.iload_n 1, 1) := by decide +kernel
theorem dX12_overAll_29 : decode cX12_overAll 29 = .ok (.ireturn, 1) := by decide +kernel
theorem dX12_enough_0 : decode cX12_enough 0 = .ok (.aload_n 0, 1) := by decide +kernel
theorem dX12_enough_1 : decode cX12_enough 1 = .ok (.iconst 0, 1) := by decide +kernel
theorem dX12_enough_2 : decode cX12_enough 2 = .ok (.putfield 44, 3) := by decide +kernel
theorem dX12_enough_5 : decode cX12_enough 5 = .ok (.aload_n 0, 1) := by decide +kernel
theorem dX12_enough_6 : decode cX12_enough 6 = .ok (.invokevirtual 177, 3) := by decide +kernel
theorem dX12_enough_9 : decode cX12_enough 9 = .ok (.ifCond .ne 6, 3) := by decide +kernel
theorem dX12_enough_12 : decode cX12_enough 12 = .ok (.ldc 180, 2) := by decide +kernel
theorem dX12_enough_14 : decode cX12_enough 14 = .ok (.ireturn, 1) := by decide +kernel
theorem dX12_enough_15 : decode cX12_enough 15 = .ok (.iload_n 1, 1) := by decide +kernel
theorem dX12_enough_16 : decode cX12_enough 16 = .ok (.i2l, 1) := by decide +kernel
theorem dX12_enough_17 : decode cX12_enough 17 = .ok (.lconst 1, 1) := by decide +kernel
theorem dX12_enough_18 : decode cX12_enough 18 = .ok (.ldc2_w 233, 3) := by decide +kernel
theorem dX12_enough_21 : decode cX12_enough 21 = .ok (.invokestatic 54, 3) := by decide +kernel
theorem dX12_enough_24 : decode cX12_enough 24 = .ok (.ifCond .ne 6, 3) := by decide +kernel
theorem dX12_enough_27 : decode cX12_enough 27 = .ok (.ldc 64, 2) := by decide +kernel
theorem dX12_enough_29 : decode cX12_enough 29 = .ok (.ireturn, 1) := by decide +kernel
theorem dX12_enough_30 : decode cX12_enough 30 = .ok (.aload_n 0, 1) := by decide +kernel
theorem dX12_enough_31 : decode cX12_enough 31 = .ok (.invokevirtual 235, 3) := by decide +kernel
theorem dX12_enough_34 : decode cX12_enough 34 = .ok (.istore_n 2, 1) := by decide +kernel
theorem dX12_enough_35 : decode cX12_enough 35 = .ok (.aload_n 0, 1) := by decide +kernel
theorem dX12_enough_36 : decode cX12_enough 36 = .ok (.invokevirtual 211, 3) := by decide +kernel
theorem dX12_enough_39 : decode cX12_enough 39 = .ok (.iconst 0, 1) := by decide +kernel
theorem dX12_enough_40 : decode cX12_enough 40 = .ok (.istore_n 3, 1) := by decide +kernel
theorem dX12_enough_41 : decode cX12_enough 41 = .ok (.iload_n 3, 1) := by decide +kernel
theorem dX12_enough_42 : decode cX12_enough 42 = .ok (.bipush 40, 2) := by decide +kernel
theorem dX12_enough_44 : decode cX12_enough 44 = .ok (.if_icmp .gt 78, 3) := by decide +kernel
theorem dX12_enough_47 : decode cX12_enough 47 = .ok (.iconst 1, 1) := by decide +kernel
theorem dX12_enough_48 : decode cX12_enough 48 = .ok (.istore 4, 2) := by decide +kernel
theorem dX12_enough_50 : decode cX12_enough 50 = .ok (.iconst 0, 1) := by decide +kernel
theorem dX12_enough_51 : decode cX12_enough 51 = .ok (.istore 5, 2) := by decide +kernel
theorem dX12_enough_53 : decode cX12_enough 53 = .ok (.iload 5, 2) := by decide +kernel
theorem dX12_enough_55 : decode cX12_enough 55 = .ok (.bipush 15, 2) := by decide +kernel
theorem dX12_enough_57 : decode cX12_enough 57 = .ok (.if_icmp .ge 44, 3) := by decide +kernel
theorem dX12_enough_60 : decode cX12_enough 60 = .ok (.iload 4, 2) := by decide +kernel
theorem dX12_enough_62 : decode cX12_enough 62 = .ok (.ifCond .eq 30, 3) := by decide +kernel
theorem dX12_enough_65 : decode cX12_enough 65 = .ok (.iload_n 2, 1) := by decide +kernel
theorem dX12_enough_66 : decode cX12_enough 66 = .ok (.iload 5, 2) := by decide +kernel
theorem dX12_enough_68 : decode cX12_enough 68 = .ok (.ishr, 1) := by decide +kernel
theorem dX12_enough_69 : decode cX12_enough 69 = .ok (.iconst 1, 1) := by decide +kernel
theorem dX12_enough_70 : decode cX12_enough 70 = .ok (.iand, 1) := by decide +kernel
theorem dX12_enough_71 : decode cX12_enough 71 = .ok (.ifCond .eq 17, 3) := by decide +kernel
theorem dX12_enough_74 : decode cX12_enough 74 = .ok (.aload_n 0, 1) := by decide +kernel
theorem dX12_enough_75 : decode cX12_enough 75 = .ok (.getfield 25, 3) := by decide +kernel
theorem dX12_enough_78 : decode cX12_enough 78 = .ok (.bipush 6, 2) := by decide +kernel
theorem dX12_enough_80 : decode cX12_enough 80 = .ok (.iload 5, 2) := by decide +kernel
theorem dX12_enough_82 : decode cX12_enough 82 = .ok (.iadd, 1) := by decide +kernel
theorem dX12_enough_83 : decode cX12_enough 83 = .ok (.iaload, 1) := by decide +kernel
theorem dX12_enough_84 : decode cX12_enough 84 = .ok (.iload_n 1, 1) := by decide +kernel
theorem dX12_enough_85 : decode cX12_enough 85 = .ok (.if_icmp .lt 7, 3) := by decide +kernel
theorem dX12_enough_88 : decode cX12_enough 88 = .ok (.iconst 1, 1) := by decide +kernel
theorem dX12_enough_89 : decode cX12_enough 89 = .ok (.goto 4, 3) := by decide +kernel
theorem dX12_enough_92 : decode cX12_enough 92 = .ok (.iconst 0, 1) := by decide +kernel
theorem dX12_enough_93 : decode cX12_enough 93 = .ok (.istore 4, 2) := by decide +kernel
theorem dX12_enough_95 : decode cX12_enough 95 = .ok (.iinc 5 1, 3) := by decide +kernel
theorem dX12_enough_98 : decode cX12_enough 98 = .ok (.goto (-45), 3) := by decide +kernel
theorem dX12_enough_101 : decode cX12_enough 101 = .ok (.iload 4, 2) := by decide +kernel
theorem dX12_enough_103 : decode cX12_enough 103 = .ok (.ifCond .eq 5, 3) := by decide +kernel
theorem dX12_enough_106 : decode cX12_enough 106 = .ok (.iload_n 3, 1) := by decide +kernel
theorem dX12_enough_107 : decode cX12_enough 107 = .ok (.ireturn, 1) := by decide +kernel
theorem dX12_enough_108 : decode cX12_enough 108 = .ok (.aload_n 0, 1) := by decide +kernel
theorem dX12_enough_109 : decode cX12_enough 109 = .ok (.aload_n 0, 1) := by decide +kernel
theorem dX12_enough_110 : decode cX12_enough 110 = .ok (.getfield 25, 3) := by decide +kernel
theorem dX12_enough_113 : decode cX12_enough 113 = .ok (.invokevirtual 214, 3) := by decide +kernel
theorem dX12_enough_116 : decode cX12_enough 116 = .ok (.iinc 3 1, 3) := by decide +kernel
theorem dX12_enough_119 : decode cX12_enough 119 = .ok (.goto (-78), 3) := by decide +kernel
theorem dX12_enough_122 : decode cX12_enough 122 = .ok (.ldc 87, 2) := by decide +kernel
theorem dX12_enough_124 : decode cX12_enough 124 = .ok (.ireturn, 1) := by decide +kernel
theorem dX12_wetFor_0 : decode cX12_wetFor 0 = .ok (.aload_n 0, 1) := by decide +kernel
theorem dX12_wetFor_1 : decode cX12_wetFor 1 = .ok (.iconst 0, 1) := by decide +kernel
theorem dX12_wetFor_2 : decode cX12_wetFor 2 = .ok (.putfield 44, 3) := by decide +kernel
theorem dX12_wetFor_5 : decode cX12_wetFor 5 = .ok (.aload_n 0, 1) := by decide +kernel
theorem dX12_wetFor_6 : decode cX12_wetFor 6 = .ok (.iload_n 1, 1) := by decide +kernel
theorem dX12_wetFor_7 : decode cX12_wetFor 7 = .ok (.invokevirtual 189, 3) := by decide +kernel
theorem dX12_wetFor_10 : decode cX12_wetFor 10 = .ok (.ifCond .eq 15, 3) := by decide +kernel
theorem dX12_wetFor_13 : decode cX12_wetFor 13 = .ok (.iload_n 2, 1) := by decide +kernel
theorem dX12_wetFor_14 : decode cX12_wetFor 14 = .ok (.i2l, 1) := by decide +kernel
theorem dX12_wetFor_15 : decode cX12_wetFor 15 = .ok (.lconst 0, 1) := by decide +kernel
theorem dX12_wetFor_16 : decode cX12_wetFor 16 = .ok (.ldc2_w 181, 3) := by decide +kernel
theorem dX12_wetFor_19 : decode cX12_wetFor 19 = .ok (.invokestatic 54, 3) := by decide +kernel
theorem dX12_wetFor_22 : decode cX12_wetFor 22 = .ok (.ifCond .ne 6, 3) := by decide +kernel
theorem dX12_wetFor_25 : decode cX12_wetFor 25 = .ok (.ldc 64, 2) := by decide +kernel
theorem dX12_wetFor_27 : decode cX12_wetFor 27 = .ok (.ireturn, 1) := by decide +kernel
theorem dX12_wetFor_28 : decode cX12_wetFor 28 = .ok (.iconst 0, 1) := by decide +kernel
theorem dX12_wetFor_29 : decode cX12_wetFor 29 = .ok (.istore_n 3, 1) := by decide +kernel
theorem dX12_wetFor_30 : decode cX12_wetFor 30 = .ok (.iload_n 3, 1) := by decide +kernel
theorem dX12_wetFor_31 : decode cX12_wetFor 31 = .ok (.bipush 100, 2) := by decide +kernel
theorem dX12_wetFor_33 : decode cX12_wetFor 33 = .ok (.if_icmp .ge 104, 3) := by decide +kernel
theorem dX12_wetFor_36 : decode cX12_wetFor 36 = .ok (.aload_n 0, 1) := by decide +kernel
theorem dX12_wetFor_37 : decode cX12_wetFor 37 = .ok (.invokevirtual 211, 3) := by decide +kernel
theorem dX12_wetFor_40 : decode cX12_wetFor 40 = .ok (.aload_n 0, 1) := by decide +kernel
theorem dX12_wetFor_41 : decode cX12_wetFor 41 = .ok (.getfield 25, 3) := by decide +kernel
theorem dX12_wetFor_44 : decode cX12_wetFor 44 = .ok (.iconst 2, 1) := by decide +kernel
theorem dX12_wetFor_45 : decode cX12_wetFor 45 = .ok (.iload_n 3, 1) := by decide +kernel
theorem dX12_wetFor_46 : decode cX12_wetFor 46 = .ok (.iastore, 1) := by decide +kernel
theorem dX12_wetFor_47 : decode cX12_wetFor 47 = .ok (.aload_n 0, 1) := by decide +kernel
theorem dX12_wetFor_48 : decode cX12_wetFor 48 = .ok (.aload_n 0, 1) := by decide +kernel
theorem dX12_wetFor_49 : decode cX12_wetFor 49 = .ok (.getfield 25, 3) := by decide +kernel
theorem dX12_wetFor_52 : decode cX12_wetFor 52 = .ok (.iload_n 1, 1) := by decide +kernel
theorem dX12_wetFor_53 : decode cX12_wetFor 53 = .ok (.invokevirtual 173, 3) := by decide +kernel
theorem dX12_wetFor_56 : decode cX12_wetFor 56 = .ok (.iconst 1, 1) := by decide +kernel
theorem dX12_wetFor_57 : decode cX12_wetFor 57 = .ok (.istore 4, 2) := by decide +kernel
theorem dX12_wetFor_59 : decode cX12_wetFor 59 = .ok (.iconst 0, 1) := by decide +kernel
theorem dX12_wetFor_60 : decode cX12_wetFor 60 = .ok (.istore 5, 2) := by decide +kernel
theorem dX12_wetFor_62 : decode cX12_wetFor 62 = .ok (.iload 5, 2) := by decide +kernel
theorem dX12_wetFor_64 : decode cX12_wetFor 64 = .ok (.aload_n 0, 1) := by decide +kernel
theorem dX12_wetFor_65 : decode cX12_wetFor 65 = .ok (.iload_n 1, 1) := by decide +kernel
theorem dX12_wetFor_66 : decode cX12_wetFor 66 = .ok (.invokevirtual 157, 3) := by decide +kernel
theorem dX12_wetFor_69 : decode cX12_wetFor 69 = .ok (.if_icmp .ge 55, 3) := by decide +kernel
theorem dX12_wetFor_72 : decode cX12_wetFor 72 = .ok (.aload_n 0, 1) := by decide +kernel
theorem dX12_wetFor_73 : decode cX12_wetFor 73 = .ok (.iload_n 1, 1) := by decide +kernel
theorem dX12_wetFor_74 : decode cX12_wetFor 74 = .ok (.iload 5, 2) := by decide +kernel
theorem dX12_wetFor_76 : decode cX12_wetFor 76 = .ok (.invokevirtual 160, 3) := by decide +kernel
theorem dX12_wetFor_79 : decode cX12_wetFor 79 = .ok (.istore 6, 2) := by decide +kernel
theorem dX12_wetFor_81 : decode cX12_wetFor 81 = .ok (.iload 4, 2) := by decide +kernel
theorem dX12_wetFor_83 : decode cX12_wetFor 83 = .ok (.ifCond .eq 32, 3) := by decide +kernel
theorem dX12_wetFor_86 : decode cX12_wetFor 86 = .ok (.aload_n 0, 1) := by decide +kernel
theorem dX12_wetFor_87 : decode cX12_wetFor 87 = .ok (.getfield 25, 3) := by decide +kernel
theorem dX12_wetFor_90 : decode cX12_wetFor 90 = .ok (.bipush 6, 2) := by decide +kernel
theorem dX12_wetFor_92 : decode cX12_wetFor 92 = .ok (.iload 6, 2) := by decide +kernel
theorem dX12_wetFor_94 : decode cX12_wetFor 94 = .ok (.iadd, 1) := by decide +kernel
theorem dX12_wetFor_95 : decode cX12_wetFor 95 = .ok (.iaload, 1) := by decide +kernel
theorem dX12_wetFor_96 : decode cX12_wetFor 96 = .ok (.aload_n 0, 1) := by decide +kernel
theorem dX12_wetFor_97 : decode cX12_wetFor 97 = .ok (.getfield 19, 3) := by decide +kernel
theorem dX12_wetFor_100 : decode cX12_wetFor 100 = .ok (.bipush 6, 2) := by decide +kernel
theorem dX12_wetFor_102 : decode cX12_wetFor 102 = .ok (.iload 6, 2) := by decide +kernel
theorem dX12_wetFor_104 : decode cX12_wetFor 104 = .ok (.iadd, 1) := by decide +kernel
theorem dX12_wetFor_105 : decode cX12_wetFor 105 = .ok (.iaload, 1) := by decide +kernel
theorem dX12_wetFor_106 : decode cX12_wetFor 106 = .ok (.isub, 1) := by decide +kernel
theorem dX12_wetFor_107 : decode cX12_wetFor 107 = .ok (.iload_n 2, 1) := by decide +kernel
theorem dX12_wetFor_108 : decode cX12_wetFor 108 = .ok (.if_icmp .lt 7, 3) := by decide +kernel
theorem dX12_wetFor_111 : decode cX12_wetFor 111 = .ok (.iconst 1, 1) := by decide +kernel
theorem dX12_wetFor_112 : decode cX12_wetFor 112 = .ok (.goto 4, 3) := by decide +kernel
theorem dX12_wetFor_115 : decode cX12_wetFor 115 = .ok (.iconst 0, 1) := by decide +kernel
theorem dX12_wetFor_116 : decode cX12_wetFor 116 = .ok (.istore 4, 2) := by decide +kernel
theorem dX12_wetFor_118 : decode cX12_wetFor 118 = .ok (.iinc 5 1, 3) := by decide +kernel
theorem dX12_wetFor_121 : decode cX12_wetFor 121 = .ok (.goto (-59), 3) := by decide +kernel
theorem dX12_wetFor_124 : decode cX12_wetFor 124 = .ok (.iload 4, 2) := by decide +kernel
theorem dX12_wetFor_126 : decode cX12_wetFor 126 = .ok (.ifCond .eq 5, 3) := by decide +kernel
theorem dX12_wetFor_129 : decode cX12_wetFor 129 = .ok (.iload_n 3, 1) := by decide +kernel
theorem dX12_wetFor_130 : decode cX12_wetFor 130 = .ok (.ireturn, 1) := by decide +kernel
theorem dX12_wetFor_131 : decode cX12_wetFor 131 = .ok (.iinc 3 1, 3) := by decide +kernel
theorem dX12_wetFor_134 : decode cX12_wetFor 134 = .ok (.goto (-104), 3) := by decide +kernel
theorem dX12_wetFor_137 : decode cX12_wetFor 137 = .ok (.ldc 87, 2) := by decide +kernel
theorem dX12_wetFor_139 : decode cX12_wetFor 139 = .ok (.ireturn, 1) := by decide +kernel
theorem dX12_bits_0 : decode cX12_bits 0 = .ok (.iconst 0, 1) := by decide +kernel
theorem dX12_bits_1 : decode cX12_bits 1 = .ok (.istore_n 1, 1) := by decide +kernel
theorem dX12_bits_2 : decode cX12_bits 2 = .ok (.iconst 0, 1) := by decide +kernel
theorem dX12_bits_3 : decode cX12_bits 3 = .ok (.istore_n 2, 1) := by decide +kernel
theorem dX12_bits_4 : decode cX12_bits 4 = .ok (.iload_n 2, 1) := by decide +kernel
theorem dX12_bits_5 : decode cX12_bits 5 = .ok (.bipush 15, 2) := by decide +kernel
theorem dX12_bits_7 : decode cX12_bits 7 = .ok (.if_icmp .ge 17, 3) := by decide +kernel
theorem dX12_bits_10 : decode cX12_bits 10 = .ok (.iload_n 1, 1) := by decide +kernel
theorem dX12_bits_11 : decode cX12_bits 11 = .ok (.iload_n 0, 1) := by decide +kernel
theorem dX12_bits_12 : decode cX12_bits 12 = .ok (.iload_n 2, 1) := by decide +kernel
theorem dX12_bits_13 : decode cX12_bits 13 = .ok (.ishr, 1) := by decide +kernel
theorem dX12_bits_14 : decode cX12_bits 14 = .ok (.iconst 1, 1) := by decide +kernel
theorem dX12_bits_15 : decode cX12_bits 15 = .ok (.iand, 1) := by decide +kernel
theorem dX12_bits_16 : decode cX12_bits 16 = .ok (.iadd, 1) := by decide +kernel
theorem dX12_bits_17 : decode cX12_bits 17 = .ok (.istore_n 1, 1) := by decide +kernel
theorem dX12_bits_18 : decode cX12_bits 18 = .ok (.iinc 2 1, 3) := by decide +kernel
theorem dX12_bits_21 : decode cX12_bits 21 = .ok (.goto (-17), 3) := by decide +kernel
theorem dX12_bits_24 : decode cX12_bits 24 = .ok (.iload_n 1, 1) := by decide +kernel
theorem dX12_bits_25 : decode cX12_bits 25 = .ok (.ireturn, 1) := by decide +kernel
theorem dX12_over_0 : decode cX12_over 0 = .ok (.aload_n 0, 1) := by decide +kernel
theorem dX12_over_1 : decode cX12_over 1 = .ok (.iconst 0, 1) := by decide +kernel
theorem dX12_over_2 : decode cX12_over 2 = .ok (.putfield 44, 3) := by decide +kernel
theorem dX12_over_5 : decode cX12_over 5 = .ok (.aload_n 0, 1) := by decide +kernel
theorem dX12_over_6 : decode cX12_over 6 = .ok (.invokevirtual 177, 3) := by decide +kernel
theorem dX12_over_9 : decode cX12_over 9 = .ok (.ifCond .ne 6, 3) := by decide +kernel
theorem dX12_over_12 : decode cX12_over 12 = .ok (.ldc 180, 2) := by decide +kernel
theorem dX12_over_14 : decode cX12_over 14 = .ok (.ireturn, 1) := by decide +kernel
theorem dX12_over_15 : decode cX12_over 15 = .ok (.iload_n 1, 1) := by decide +kernel
theorem dX12_over_16 : decode cX12_over 16 = .ok (.invokestatic 239, 3) := by decide +kernel
theorem dX12_over_19 : decode cX12_over 19 = .ok (.ifCond .eq 13, 3) := by decide +kernel
theorem dX12_over_22 : decode cX12_over 22 = .ok (.iload_n 2, 1) := by decide +kernel
theorem dX12_over_23 : decode cX12_over 23 = .ok (.i2l, 1) := by decide +kernel
theorem dX12_over_24 : decode cX12_over 24 = .ok (.lconst 0, 1) := by decide +kernel
theorem dX12_over_25 : decode cX12_over 25 = .ok (.lconst 1, 1) := by decide +kernel
theorem dX12_over_26 : decode cX12_over 26 = .ok (.invokestatic 54, 3) := by decide +kernel
theorem dX12_over_29 : decode cX12_over 29 = .ok (.ifCond .ne 6, 3) := by decide +kernel
theorem dX12_over_32 : decode cX12_over 32 = .ok (.ldc 64, 2) := by decide +kernel
theorem dX12_over_34 : decode cX12_over 34 = .ok (.ireturn, 1) := by decide +kernel
theorem dX12_over_35 : decode cX12_over 35 = .ok (.ldc 87, 2) := by decide +kernel
theorem dX12_over_37 : decode cX12_over 37 = .ok (.istore_n 3, 1) := by decide +kernel
theorem dX12_over_38 : decode cX12_over 38 = .ok (.iconst 0, 1) := by decide +kernel
theorem dX12_over_39 : decode cX12_over 39 = .ok (.istore 4, 2) := by decide +kernel
theorem dX12_over_41 : decode cX12_over 41 = .ok (.iload 4, 2) := by decide +kernel
theorem dX12_over_43 : decode cX12_over 43 = .ok (.iconst 1, 1) := by decide +kernel
theorem dX12_over_44 : decode cX12_over 44 = .ok (.aload_n 0, 1) := by decide +kernel
theorem dX12_over_45 : decode cX12_over 45 = .ok (.getfield 19, 3) := by decide +kernel
theorem dX12_over_48 : decode cX12_over 48 = .ok (.iconst 5, 1) := by decide +kernel
theorem dX12_over_49 : decode cX12_over 49 = .ok (.iaload, 1) := by decide +kernel
theorem dX12_over_50 : decode cX12_over 50 = .ok (.ishl, 1) := by decide +kernel
theorem dX12_over_51 : decode cX12_over 51 = .ok (.if_icmp .ge 90, 3) := by decide +kernel
theorem dX12_over_54 : decode cX12_over 54 = .ok (.iload_n 1, 1) := by decide +kernel
theorem dX12_over_55 : decode cX12_over 55 = .ok (.istore 5, 2) := by decide +kernel
theorem dX12_over_57 : decode cX12_over 57 = .ok (.iconst 0, 1) := by decide +kernel
theorem dX12_over_58 : decode cX12_over 58 = .ok (.istore 6, 2) := by decide +kernel
theorem dX12_over_60 : decode cX12_over 60 = .ok (.iload 6, 2) := by decide +kernel
theorem dX12_over_62 : decode cX12_over 62 = .ok (.aload_n 0, 1) := by decide +kernel
theorem dX12_over_63 : decode cX12_over 63 = .ok (.getfield 19, 3) := by decide +kernel
theorem dX12_over_66 : decode cX12_over 66 = .ok (.iconst 5, 1) := by decide +kernel
theorem dX12_over_67 : decode cX12_over 67 = .ok (.iaload, 1) := by decide +kernel
theorem dX12_over_68 : decode cX12_over 68 = .ok (.if_icmp .ge 37, 3) := by decide +kernel
theorem dX12_over_71 : decode cX12_over 71 = .ok (.iload 5, 2) := by decide +kernel
theorem dX12_over_73 : decode cX12_over 73 = .ok (.iload 4, 2) := by decide +kernel
theorem dX12_over_75 : decode cX12_over 75 = .ok (.iload 6, 2) := by decide +kernel
theorem dX12_over_77 : decode cX12_over 77 = .ok (.ishr, 1) := by decide +kernel
theorem dX12_over_78 : decode cX12_over 78 = .ok (.iconst 1, 1) := by decide +kernel
theorem dX12_over_79 : decode cX12_over 79 = .ok (.iand, 1) := by decide +kernel
theorem dX12_over_80 : decode cX12_over 80 = .ok (.iconst 1, 1) := by decide +kernel
theorem dX12_over_81 : decode cX12_over 81 = .ok (.if_icmp .ne 14, 3) := by decide +kernel
theorem dX12_over_84 : decode cX12_over 84 = .ok (.aload_n 0, 1) := by decide +kernel
theorem dX12_over_85 : decode cX12_over 85 = .ok (.iload 6, 2) := by decide +kernel
theorem dX12_over_87 : decode cX12_over 87 = .ok (.invokevirtual 208, 3) := by decide +kernel
theorem dX12_over_90 : decode cX12_over 90 = .ok (.iconst (-1), 1) := by decide +kernel
theorem dX12_over_91 : decode cX12_over 91 = .ok (.ixor, 1) := by decide +kernel
theorem dX12_over_92 : decode cX12_over 92 = .ok (.goto 4, 3) := by decide +kernel
theorem dX12_over_95 : decode cX12_over 95 = .ok (.iconst (-1), 1) := by decide +kernel
theorem dX12_over_96 : decode cX12_over 96 = .ok (.iand, 1) := by decide +kernel
theorem dX12_over_97 : decode cX12_over 97 = .ok (.istore 5, 2) := by decide +kernel
theorem dX12_over_99 : decode cX12_over 99 = .ok (.iinc 6 1, 3) := by decide +kernel
theorem dX12_over_102 : decode cX12_over 102 = .ok (.goto (-42), 3) := by decide +kernel
theorem dX12_over_105 : decode cX12_over 105 = .ok (.iload 5, 2) := by decide +kernel
theorem dX12_over_107 : decode cX12_over 107 = .ok (.ifCond .ne 26, 3) := by decide +kernel
theorem dX12_over_110 : decode cX12_over 110 = .ok (.iload_n 3, 1) := by decide +kernel
theorem dX12_over_111 : decode cX12_over 111 = .ok (.ldc 87, 2) := by decide +kernel
theorem dX12_over_113 : decode cX12_over 113 = .ok (.if_icmp .eq 15, 3) := by decide +kernel
theorem dX12_over_116 : decode cX12_over 116 = .ok (.iload 4, 2) := by decide +kernel
theorem dX12_over_118 : decode cX12_over 118 = .ok (.invokestatic 242, 3) := by decide +kernel
theorem dX12_over_121 : decode cX12_over 121 = .ok (.iload_n 3, 1) := by decide +kernel
theorem dX12_over_122 : decode cX12_over 122 = .ok (.invokestatic 242, 3) := by decide +kernel
theorem dX12_over_125 : decode cX12_over 125 = .ok (.if_icmp .ge 8, 3) := by decide +kernel
theorem dX12_over_128 : decode cX12_over 128 = .ok (.iload 4, 2) := by decide +kernel
theorem dX12_over_130 : decode cX12_over 130 = .ok (.goto 4, 3) := by decide +kernel
theorem dX12_over_133 : decode cX12_over 133 = .ok (.iload_n 3, 1) := by decide +kernel
theorem dX12_over_134 : decode cX12_over 134 = .ok (.istore_n 3, 1) := by decide +kernel
theorem dX12_over_135 : decode cX12_over 135 = .ok (.iinc 4 1, 3) := by decide +kernel
theorem dX12_over_138 : decode cX12_over 138 = .ok (.goto (-97), 3) := by decide +kernel
theorem dX12_over_141 : decode cX12_over 141 = .ok (.iload_n 3, 1) := by decide +kernel
theorem dX12_over_142 : decode cX12_over 142 = .ok (.ldc 87, 2) := by decide +kernel
theorem dX12_over_144 : decode cX12_over 144 = .ok (.if_icmp .eq 8, 3) := by decide +kernel
theorem dX12_over_147 : decode cX12_over 147 = .ok (.iload_n 2, 1) := by decide +kernel
theorem dX12_over_148 : decode cX12_over 148 = .ok (.iconst 1, 1) := by decide +kernel
theorem dX12_over_149 : decode cX12_over 149 = .ok (.if_icmp .ne 7, 3) := by decide +kernel
theorem dX12_over_152 : decode cX12_over 152 = .ok (.iload_n 3, 1) := by decide +kernel
theorem dX12_over_153 : decode cX12_over 153 = .ok (.goto 7, 3) := by decide +kernel
theorem dX12_over_156 : decode cX12_over 156 = .ok (.iload_n 3, 1) := by decide +kernel
theorem dX12_over_157 : decode cX12_over 157 = .ok (.invokestatic 242, 3) := by decide +kernel
theorem dX12_over_160 : decode cX12_over 160 = .ok (.ireturn, 1) := by decide +kernel
theorem dX12_goOn_0 : decode cX12_goOn 0 = .ok (.aload_n 0, 1) := by decide +kernel
theorem dX12_goOn_1 : decode cX12_goOn 1 = .ok (.iconst 0, 1) := by decide +kernel
theorem dX12_goOn_2 : decode cX12_goOn 2 = .ok (.putfield 44, 3) := by decide +kernel
theorem dX12_goOn_5 : decode cX12_goOn 5 = .ok (.aload_n 0, 1) := by decide +kernel
theorem dX12_goOn_6 : decode cX12_goOn 6 = .ok (.invokevirtual 177, 3) := by decide +kernel
theorem dX12_goOn_9 : decode cX12_goOn 9 = .ok (.ifCond .ne 6, 3) := by decide +kernel
theorem dX12_goOn_12 : decode cX12_goOn 12 = .ok (.ldc 180, 2) := by decide +kernel
theorem dX12_goOn_14 : decode cX12_goOn 14 = .ok (.ireturn, 1) := by decide +kernel
theorem dX12_goOn_15 : decode cX12_goOn 15 = .ok (.aload_n 0, 1) := by decide +kernel
theorem dX12_goOn_16 : decode cX12_goOn 16 = .ok (.invokevirtual 211, 3) := by decide +kernel
theorem dX12_goOn_19 : decode cX12_goOn 19 = .ok (.aload_n 0, 1) := by decide +kernel
theorem dX12_goOn_20 : decode cX12_goOn 20 = .ok (.getfield 25, 3) := by decide +kernel
theorem dX12_goOn_23 : decode cX12_goOn 23 = .ok (.invokestatic 198, 3) := by decide +kernel
theorem dX12_goOn_26 : decode cX12_goOn 26 = .ok (.aload_n 0, 1) := by decide +kernel
theorem dX12_goOn_27 : decode cX12_goOn 27 = .ok (.aload_n 0, 1) := by decide +kernel
theorem dX12_goOn_28 : decode cX12_goOn 28 = .ok (.getfield 25, 3) := by decide +kernel
theorem dX12_goOn_31 : decode cX12_goOn 31 = .ok (.invokevirtual 214, 3) := by decide +kernel
theorem dX12_goOn_34 : decode cX12_goOn 34 = .ok (.aload_n 0, 1) := by decide +kernel
theorem dX12_goOn_35 : decode cX12_goOn 35 = .ok (.getfield 25, 3) := by decide +kernel
theorem dX12_goOn_38 : decode cX12_goOn 38 = .ok (.invokestatic 202, 3) := by decide +kernel
theorem dX12_goOn_41 : decode cX12_goOn 41 = .ok (.istore_n 1, 1) := by decide +kernel
theorem dX12_goOn_42 : decode cX12_goOn 42 = .ok (.aload_n 0, 1) := by decide +kernel
theorem dX12_goOn_43 : decode cX12_goOn 43 = .ok (.iconst 1, 1) := by decide +kernel
theorem dX12_goOn_44 : decode cX12_goOn 44 = .ok (.invokevirtual 219, 3) := by decide +kernel
theorem dX12_goOn_47 : decode cX12_goOn 47 = .ok (.aload_n 0, 1) := by decide +kernel
theorem dX12_goOn_48 : decode cX12_goOn 48 = .ok (.getfield 25, 3) := by decide +kernel
theorem dX12_goOn_51 : decode cX12_goOn 51 = .ok (.invokestatic 202, 3) := by decide +kernel
theorem dX12_goOn_54 : decode cX12_goOn 54 = .ok (.iload_n 1, 1) := by decide +kernel
theorem dX12_goOn_55 : decode cX12_goOn 55 = .ok (.isub, 1) := by decide +kernel
theorem dX12_goOn_56 : decode cX12_goOn 56 = .ok (.ireturn, 1) := by decide +kernel
theorem dX12_done_0 : decode cX12_done 0 = .ok (.aload_n 0, 1) := by decide +kernel
theorem dX12_done_1 : decode cX12_done 1 = .ok (.iconst 0, 1) := by decide +kernel
theorem dX12_done_2 : decode cX12_done 2 = .ok (.putfield 44, 3) := by decide +kernel
theorem dX12_done_5 : decode cX12_done 5 = .ok (.aload_n 0, 1) := by decide +kernel
theorem dX12_done_6 : decode cX12_done 6 = .ok (.invokevirtual 177, 3) := by decide +kernel
theorem dX12_done_9 : decode cX12_done 9 = .ok (.ifCond .ne 6, 3) := by decide +kernel
theorem dX12_done_12 : decode cX12_done 12 = .ok (.ldc 180, 2) := by decide +kernel
theorem dX12_done_14 : decode cX12_done 14 = .ok (.ireturn, 1) := by decide +kernel
theorem dX12_done_15 : decode cX12_done 15 = .ok (.iload_n 1, 1) := by decide +kernel
theorem dX12_done_16 : decode cX12_done 16 = .ok (.invokestatic 58, 3) := by decide +kernel
theorem dX12_done_19 : decode cX12_done 19 = .ok (.ifCond .eq 13, 3) := by decide +kernel
theorem dX12_done_22 : decode cX12_done 22 = .ok (.iload_n 3, 1) := by decide +kernel
theorem dX12_done_23 : decode cX12_done 23 = .ok (.i2l, 1) := by decide +kernel
theorem dX12_done_24 : decode cX12_done 24 = .ok (.lconst 0, 1) := by decide +kernel
theorem dX12_done_25 : decode cX12_done 25 = .ok (.lconst 1, 1) := by decide +kernel
theorem dX12_done_26 : decode cX12_done 26 = .ok (.invokestatic 54, 3) := by decide +kernel
theorem dX12_done_29 : decode cX12_done 29 = .ok (.ifCond .ne 6, 3) := by decide +kernel
theorem dX12_done_32 : decode cX12_done 32 = .ok (.ldc 64, 2) := by decide +kernel
theorem dX12_done_34 : decode cX12_done 34 = .ok (.ireturn, 1) := by decide +kernel
theorem dX12_done_35 : decode cX12_done 35 = .ok (.aload_n 0, 1) := by decide +kernel
theorem dX12_done_36 : decode cX12_done 36 = .ok (.getfield 7, 3) := by decide +kernel
theorem dX12_done_39 : decode cX12_done 39 = .ok (.iload_n 1, 1) := by decide +kernel
theorem dX12_done_40 : decode cX12_done 40 = .ok (.iaload, 1) := by decide +kernel
theorem dX12_done_41 : decode cX12_done 41 = .ok (.ifCond .ge 9, 3) := by decide +kernel
theorem dX12_done_44 : decode cX12_done 44 = .ok (.aload_n 0, 1) := by decide +kernel
theorem dX12_done_45 : decode cX12_done 45 = .ok (.iconst 1, 1) := by decide +kernel
theorem dX12_done_46 : decode cX12_done 46 = .ok (.invokevirtual 65, 3) := by decide +kernel
theorem dX12_done_49 : decode cX12_done 49 = .ok (.ireturn, 1) := by decide +kernel
theorem dX12_done_50 : decode cX12_done 50 = .ok (.iload_n 2, 1) := by decide +kernel
theorem dX12_done_51 : decode cX12_done 51 = .ok (.ifCond .lt 20, 3) := by decide +kernel
theorem dX12_done_54 : decode cX12_done 54 = .ok (.iload_n 2, 1) := by decide +kernel
theorem dX12_done_55 : decode cX12_done 55 = .ok (.i2l, 1) := by decide +kernel
theorem dX12_done_56 : decode cX12_done 56 = .ok (.ldc2_w 245, 3) := by decide +kernel
theorem dX12_done_59 : decode cX12_done 59 = .ok (.ladd, 1) := by decide +kernel
theorem dX12_done_60 : decode cX12_done 60 = .ok (.aload_n 0, 1) := by decide +kernel
theorem dX12_done_61 : decode cX12_done 61 = .ok (.getfield 13, 3) := by decide +kernel
theorem dX12_done_64 : decode cX12_done 64 = .ok (.iload_n 1, 1) := by decide +kernel
theorem dX12_done_65 : decode cX12_done 65 = .ok (.iaload, 1) := by decide +kernel
theorem dX12_done_66 : decode cX12_done 66 = .ok (.i2l, 1) := by decide +kernel
theorem dX12_done_67 : decode cX12_done 67 = .ok (.lcmp, 1) := by decide +kernel
theorem dX12_done_68 : decode cX12_done 68 = .ok (.ifCond .le 9, 3) := by decide +kernel
theorem dX12_done_71 : decode cX12_done 71 = .ok (.aload_n 0, 1) := by decide +kernel
theorem dX12_done_72 : decode cX12_done 72 = .ok (.iconst 2, 1) := by decide +kernel
theorem dX12_done_73 : decode cX12_done 73 = .ok (.invokevirtual 65, 3) := by decide +kernel
theorem dX12_done_76 : decode cX12_done 76 = .ok (.ireturn, 1) := by decide +kernel
theorem dX12_done_77 : decode cX12_done 77 = .ok (.aload_n 0, 1) := by decide +kernel
theorem dX12_done_78 : decode cX12_done 78 = .ok (.iconst 0, 1) := by decide +kernel
theorem dX12_done_79 : decode cX12_done 79 = .ok (.putfield 48, 3) := by decide +kernel
theorem dX12_done_82 : decode cX12_done 82 = .ok (.iconst 0, 1) := by decide +kernel
theorem dX12_done_83 : decode cX12_done 83 = .ok (.istore 4, 2) := by decide +kernel
theorem dX12_done_85 : decode cX12_done 85 = .ok (.ldc 87, 2) := by decide +kernel
theorem dX12_done_87 : decode cX12_done 87 = .ok (.istore 5, 2) := by decide +kernel
theorem dX12_done_89 : decode cX12_done 89 = .ok (.iconst 1, 1) := by decide +kernel
theorem dX12_done_90 : decode cX12_done 90 = .ok (.aload_n 0, 1) := by decide +kernel
theorem dX12_done_91 : decode cX12_done 91 = .ok (.getfield 19, 3) := by decide +kernel
theorem dX12_done_94 : decode cX12_done 94 = .ok (.iconst 5, 1) := by decide +kernel
theorem dX12_done_95 : decode cX12_done 95 = .ok (.iaload, 1) := by decide +kernel
theorem dX12_done_96 : decode cX12_done 96 = .ok (.ishl, 1) := by decide +kernel
theorem dX12_done_97 : decode cX12_done 97 = .ok (.iconst 1, 1) := by decide +kernel
theorem dX12_done_98 : decode cX12_done 98 = .ok (.isub, 1) := by decide +kernel
theorem dX12_done_99 : decode cX12_done 99 = .ok (.istore 6, 2) := by decide +kernel
theorem dX12_done_101 : decode cX12_done 101 = .ok (.iload 6, 2) := by decide +kernel
theorem dX12_done_103 : decode cX12_done 103 = .ok (.ifCond .lt 141, 3) := by decide +kernel
theorem dX12_done_106 : decode cX12_done 106 = .ok (.aload_n 0, 1) := by decide +kernel
theorem dX12_done_107 : decode cX12_done 107 = .ok (.invokevirtual 211, 3) := by decide +kernel
theorem dX12_done_110 : decode cX12_done 110 = .ok (.iconst 0, 1) := by decide +kernel
theorem dX12_done_111 : decode cX12_done 111 = .ok (.istore 7, 2) := by decide +kernel
theorem dX12_done_113 : decode cX12_done 113 = .ok (.iload 7, 2) := by decide +kernel
theorem dX12_done_115 : decode cX12_done 115 = .ok (.aload_n 0, 1) := by decide +kernel
theorem dX12_done_116 : decode cX12_done 116 = .ok (.getfield 19, 3) := by decide +kernel
theorem dX12_done_119 : decode cX12_done 119 = .ok (.iconst 5, 1) := by decide +kernel
theorem dX12_done_120 : decode cX12_done 120 = .ok (.iaload, 1) := by decide +kernel
theorem dX12_done_121 : decode cX12_done 121 = .ok (.if_icmp .ge 30, 3) := by decide +kernel
theorem dX12_done_124 : decode cX12_done 124 = .ok (.iload 6, 2) := by decide +kernel
theorem dX12_done_126 : decode cX12_done 126 = .ok (.iload 7, 2) := by decide +kernel
theorem dX12_done_128 : decode cX12_done 128 = .ok (.ishr, 1) := by decide +kernel
theorem dX12_done_129 : decode cX12_done 129 = .ok (.iconst 1, 1) := by decide +kernel
theorem dX12_done_130 : decode cX12_done 130 = .ok (.iand, 1) := by decide +kernel
theorem dX12_done_131 : decode cX12_done 131 = .ok (.iconst 1, 1) := by decide +kernel
theorem dX12_done_132 : decode cX12_done 132 = .ok (.if_icmp .ne 13, 3) := by decide +kernel
theorem dX12_done_135 : decode cX12_done 135 = .ok (.aload_n 0, 1) := by decide +kernel
theorem dX12_done_136 : decode cX12_done 136 = .ok (.aload_n 0, 1) := by decide +kernel
theorem dX12_done_137 : decode cX12_done 137 = .ok (.getfield 25, 3) := by decide +kernel
theorem dX12_done_140 : decode cX12_done 140 = .ok (.iload 7, 2) := by decide +kernel
theorem dX12_done_142 : decode cX12_done 142 = .ok (.invokevirtual 173, 3) := by decide +kernel
theorem dX12_done_145 : decode cX12_done 145 = .ok (.iinc 7 1, 3) := by decide +kernel
theorem dX12_done_148 : decode cX12_done 148 = .ok (.goto (-35), 3) := by decide +kernel
theorem dX12_done_151 : decode cX12_done 151 = .ok (.iconst 1, 1) := by decide +kernel
theorem dX12_done_152 : decode cX12_done 152 = .ok (.istore 7, 2) := by decide +kernel
theorem dX12_done_154 : decode cX12_done 154 = .ok (.iconst 0, 1) := by decide +kernel
theorem dX12_done_155 : decode cX12_done 155 = .ok (.istore 8, 2) := by decide +kernel
theorem dX12_done_157 : decode cX12_done 157 = .ok (.iload 8, 2) := by decide +kernel
theorem dX12_done_159 : decode cX12_done 159 = .ok (.bipush 15, 2) := by decide +kernel
theorem dX12_done_161 : decode cX12_done 161 = .ok (.if_icmp .ge 48, 3) := by decide +kernel
theorem dX12_done_164 : decode cX12_done 164 = .ok (.iload 7, 2) := by decide +kernel
theorem dX12_done_166 : decode cX12_done 166 = .ok (.ifCond .eq 34, 3) := by decide +kernel
theorem dX12_done_169 : decode cX12_done 169 = .ok (.aload_n 0, 1) := by decide +kernel
theorem dX12_done_170 : decode cX12_done 170 = .ok (.getfield 25, 3) := by decide +kernel
theorem dX12_done_173 : decode cX12_done 173 = .ok (.bipush 6, 2) := by decide +kernel
theorem dX12_done_175 : decode cX12_done 175 = .ok (.iload 8, 2) := by decide +kernel
theorem dX12_done_177 : decode cX12_done 177 = .ok (.iadd, 1) := by decide +kernel
theorem dX12_done_178 : decode cX12_done 178 = .ok (.iaload, 1) := by decide +kernel
theorem dX12_done_179 : decode cX12_done 179 = .ok (.aload_n 0, 1) := by decide +kernel
theorem dX12_done_180 : decode cX12_done 180 = .ok (.getfield 16, 3) := by decide +kernel
theorem dX12_done_183 : decode cX12_done 183 = .ok (.bipush 40, 2) := by decide +kernel
theorem dX12_done_185 : decode cX12_done 185 = .ok (.iload_n 1, 1) := by decide +kernel
theorem dX12_done_186 : decode cX12_done 186 = .ok (.imul, 1) := by decide +kernel
theorem dX12_done_187 : decode cX12_done 187 = .ok (.iload_n 2, 1) := by decide +kernel
theorem dX12_done_188 : decode cX12_done 188 = .ok (.iadd, 1) := by decide +kernel
theorem dX12_done_189 : decode cX12_done 189 = .ok (.iload 8, 2) := by decide +kernel
theorem dX12_done_191 : decode cX12_done 191 = .ok (.iadd, 1) := by decide +kernel
theorem dX12_done_192 : decode cX12_done 192 = .ok (.iaload, 1) := by decide +kernel
theorem dX12_done_193 : decode cX12_done 193 = .ok (.if_icmp .ne 7, 3) := by decide +kernel
theorem dX12_done_196 : decode cX12_done 196 = .ok (.iconst 1, 1) := by decide +kernel
theorem dX12_done_197 : decode cX12_done 197 = .ok (.goto 4, 3) := by decide +kernel
theorem dX12_done_200 : decode cX12_done 200 = .ok (.iconst 0, 1) := by decide +kernel
theorem dX12_done_201 : decode cX12_done 201 = .ok (.istore 7, 2) := by decide +kernel
theorem dX12_done_203 : decode cX12_done 203 = .ok (.iinc 8 1, 3) := by decide +kernel
theorem dX12_done_206 : decode cX12_done 206 = .ok (.goto (-49), 3) := by decide +kernel
theorem dX12_done_209 : decode cX12_done 209 = .ok (.iload 4, 2) := by decide +kernel
theorem dX12_done_211 : decode cX12_done 211 = .ok (.iload 7, 2) := by decide +kernel
theorem dX12_done_213 : decode cX12_done 213 = .ok (.ifCond .eq 7, 3) := by decide +kernel
theorem dX12_done_216 : decode cX12_done 216 = .ok (.iconst 1, 1) := by decide +kernel
theorem dX12_done_217 : decode cX12_done 217 = .ok (.goto 4, 3) := by decide +kernel
theorem dX12_done_220 : decode cX12_done 220 = .ok (.iconst 0, 1) := by decide +kernel
theorem dX12_done_221 : decode cX12_done 221 = .ok (.iadd, 1) := by decide +kernel
theorem dX12_done_222 : decode cX12_done 222 = .ok (.istore 4, 2) := by decide +kernel
theorem dX12_done_224 : decode cX12_done 224 = .ok (.iload 7, 2) := by decide +kernel
theorem dX12_done_226 : decode cX12_done 226 = .ok (.ifCond .eq 8, 3) := by decide +kernel
theorem dX12_done_229 : decode cX12_done 229 = .ok (.iload 6, 2) := by decide +kernel
theorem dX12_done_231 : decode cX12_done 231 = .ok (.goto 5, 3) := by decide +kernel
theorem dX12_done_234 : decode cX12_done 234 = .ok (.iload 5, 2) := by decide +kernel
theorem dX12_done_236 : decode cX12_done 236 = .ok (.istore 5, 2) := by decide +kernel
theorem dX12_done_238 : decode cX12_done 238 = .ok (.iinc 6 (-1), 3) := by decide +kernel
theorem dX12_done_241 : decode cX12_done 241 = .ok (.goto (-140), 3) := by decide +kernel
theorem dX12_done_244 : decode cX12_done 244 = .ok (.iload_n 3, 1) := by decide +kernel
theorem dX12_done_245 : decode cX12_done 245 = .ok (.ifCond .ne 8, 3) := by decide +kernel
theorem dX12_done_248 : decode cX12_done 248 = .ok (.iload 4, 2) := by decide +kernel
theorem dX12_done_250 : decode cX12_done 250 = .ok (.goto 5, 3) := by decide +kernel
theorem dX12_done_253 : decode cX12_done 253 = .ok (.iload 5, 2) := by decide +kernel
theorem dX12_done_255 : decode cX12_done 255 = .ok (.ireturn, 1) := by decide +kernel
theorem dX12_cups_0 : decode cX12_cups 0 = .ok (.aload_n 0, 1) := by decide +kernel
theorem dX12_cups_1 : decode cX12_cups 1 = .ok (.iconst 0, 1) := by decide +kernel
theorem dX12_cups_2 : decode cX12_cups 2 = .ok (.putfield 44, 3) := by decide +kernel
theorem dX12_cups_5 : decode cX12_cups 5 = .ok (.aload_n 0, 1) := by decide +kernel
theorem dX12_cups_6 : decode cX12_cups 6 = .ok (.invokevirtual 177, 3) := by decide +kernel
theorem dX12_cups_9 : decode cX12_cups 9 = .ok (.ifCond .ne 6, 3) := by decide +kernel
theorem dX12_cups_12 : decode cX12_cups 12 = .ok (.ldc 180, 2) := by decide +kernel
theorem dX12_cups_14 : decode cX12_cups 14 = .ok (.ireturn, 1) := by decide +kernel
theorem dX12_cups_15 : decode cX12_cups 15 = .ok (.iload_n 1, 1) := by decide +kernel
theorem dX12_cups_16 : decode cX12_cups 16 = .ok (.invokestatic 239, 3) := by decide +kernel
theorem dX12_cups_19 : decode cX12_cups 19 = .ok (.ifCond .eq 15, 3) := by decide +kernel
theorem dX12_cups_22 : decode cX12_cups 22 = .ok (.iload_n 2, 1) := by decide +kernel
theorem dX12_cups_23 : decode cX12_cups 23 = .ok (.i2l, 1) := by decide +kernel
theorem dX12_cups_24 : decode cX12_cups 24 = .ok (.lconst 1, 1) := by decide +kernel
theorem dX12_cups_25 : decode cX12_cups 25 = .ok (.ldc2_w 233, 3) := by decide +kernel
theorem dX12_cups_28 : decode cX12_cups 28 = .ok (.invokestatic 54, 3) := by decide +kernel
theorem dX12_cups_31 : decode cX12_cups 31 = .ok (.ifCond .ne 6, 3) := by decide +kernel
theorem dX12_cups_34 : decode cX12_cups 34 = .ok (.ldc 64, 2) := by decide +kernel
theorem dX12_cups_36 : decode cX12_cups 36 = .ok (.ireturn, 1) := by decide +kernel
theorem dX12_cups_37 : decode cX12_cups 37 = .ok (.iconst 0, 1) := by decide +kernel
theorem dX12_cups_38 : decode cX12_cups 38 = .ok (.istore_n 3, 1) := by decide +kernel
theorem dX12_cups_39 : decode cX12_cups 39 = .ok (.iconst 0, 1) := by decide +kernel
theorem dX12_cups_40 : decode cX12_cups 40 = .ok (.istore 4, 2) := by decide +kernel
theorem dX12_cups_42 : decode cX12_cups 42 = .ok (.iload 4, 2) := by decide +kernel
theorem dX12_cups_44 : decode cX12_cups 44 = .ok (.bipush 15, 2) := by decide +kernel
theorem dX12_cups_46 : decode cX12_cups 46 = .ok (.if_icmp .ge 52, 3) := by decide +kernel
theorem dX12_cups_49 : decode cX12_cups 49 = .ok (.iload_n 3, 1) := by decide +kernel
theorem dX12_cups_50 : decode cX12_cups 50 = .ok (.iload_n 1, 1) := by decide +kernel
theorem dX12_cups_51 : decode cX12_cups 51 = .ok (.iload 4, 2) := by decide +kernel
theorem dX12_cups_53 : decode cX12_cups 53 = .ok (.ishr, 1) := by decide +kernel
theorem dX12_cups_54 : decode cX12_cups 54 = .ok (.iconst 1, 1) := by decide +kernel
theorem dX12_cups_55 : decode cX12_cups 55 = .ok (.iand, 1) := by decide +kernel
theorem dX12_cups_56 : decode cX12_cups 56 = .ok (.iconst 1, 1) := by decide +kernel
theorem dX12_cups_57 : decode cX12_cups 57 = .ok (.if_icmp .ne 32, 3) := by decide +kernel
theorem dX12_cups_60 : decode cX12_cups 60 = .ok (.aload_n 0, 1) := by decide +kernel
theorem dX12_cups_61 : decode cX12_cups 61 = .ok (.getfield 19, 3) := by decide +kernel
theorem dX12_cups_64 : decode cX12_cups 64 = .ok (.bipush 6, 2) := by decide +kernel
theorem dX12_cups_66 : decode cX12_cups 66 = .ok (.iload 4, 2) := by decide +kernel
theorem dX12_cups_68 : decode cX12_cups 68 = .ok (.iadd, 1) := by decide +kernel
theorem dX12_cups_69 : decode cX12_cups 69 = .ok (.iaload, 1) := by decide +kernel
theorem dX12_cups_70 : decode cX12_cups 70 = .ok (.iload_n 2, 1) := by decide +kernel
theorem dX12_cups_71 : decode cX12_cups 71 = .ok (.if_icmp .ge 18, 3) := by decide +kernel
theorem dX12_cups_74 : decode cX12_cups 74 = .ok (.iload_n 2, 1) := by decide +kernel
theorem dX12_cups_75 : decode cX12_cups 75 = .ok (.aload_n 0, 1) := by decide +kernel
theorem dX12_cups_76 : decode cX12_cups 76 = .ok (.getfield 19, 3) := by decide +kernel
theorem dX12_cups_79 : decode cX12_cups 79 = .ok (.bipush 6, 2) := by decide +kernel
theorem dX12_cups_81 : decode cX12_cups 81 = .ok (.iload 4, 2) := by decide +kernel
theorem dX12_cups_83 : decode cX12_cups 83 = .ok (.iadd, 1) := by decide +kernel
theorem dX12_cups_84 : decode cX12_cups 84 = .ok (.iaload, 1) := by decide +kernel
theorem dX12_cups_85 : decode cX12_cups 85 = .ok (.isub, 1) := by decide +kernel
theorem dX12_cups_86 : decode cX12_cups 86 = .ok (.goto 4, 3) := by decide +kernel
theorem dX12_cups_89 : decode cX12_cups 89 = .ok (.iconst 0, 1) := by decide +kernel
theorem dX12_cups_90 : decode cX12_cups 90 = .ok (.iadd, 1) := by decide +kernel
theorem dX12_cups_91 : decode cX12_cups 91 = .ok (.istore_n 3, 1) := by decide +kernel
theorem dX12_cups_92 : decode cX12_cups 92 = .ok (.iinc 4 1, 3) := by decide +kernel
theorem dX12_cups_95 : decode cX12_cups 95 = .ok (.goto (-53), 3) := by decide +kernel
theorem dX12_cups_98 : decode cX12_cups 98 = .ok (.iload_n 3, 1) := by decide +kernel
theorem dX12_cups_99 : decode cX12_cups 99 = .ok (.ireturn, 1) := by decide +kernel
theorem dX12_thin_0 : decode cX12_thin 0 = .ok (.aload_n 0, 1) := by decide +kernel
theorem dX12_thin_1 : decode cX12_thin 1 = .ok (.iconst 0, 1) := by decide +kernel
theorem dX12_thin_2 : decode cX12_thin 2 = .ok (.putfield 44, 3) := by decide +kernel
theorem dX12_thin_5 : decode cX12_thin 5 = .ok (.aload_n 0, 1) := by decide +kernel
theorem dX12_thin_6 : decode cX12_thin 6 = .ok (.invokevirtual 177, 3) := by decide +kernel
theorem dX12_thin_9 : decode cX12_thin 9 = .ok (.ifCond .ne 6, 3) := by decide +kernel
theorem dX12_thin_12 : decode cX12_thin 12 = .ok (.ldc 180, 2) := by decide +kernel
theorem dX12_thin_14 : decode cX12_thin 14 = .ok (.ireturn, 1) := by decide +kernel
theorem dX12_thin_15 : decode cX12_thin 15 = .ok (.sipush 1000, 3) := by decide +kernel
theorem dX12_thin_18 : decode cX12_thin 18 = .ok (.istore_n 1, 1) := by decide +kernel
theorem dX12_thin_19 : decode cX12_thin 19 = .ok (.iconst 0, 1) := by decide +kernel
theorem dX12_thin_20 : decode cX12_thin 20 = .ok (.istore_n 2, 1) := by decide +kernel
theorem dX12_thin_21 : decode cX12_thin 21 = .ok (.iconst 0, 1) := by decide +kernel
theorem dX12_thin_22 : decode cX12_thin 22 = .ok (.istore_n 3, 1) := by decide +kernel
theorem dX12_thin_23 : decode cX12_thin 23 = .ok (.iload_n 3, 1) := by decide +kernel
theorem dX12_thin_24 : decode cX12_thin 24 = .ok (.bipush 15, 2) := by decide +kernel
theorem dX12_thin_26 : decode cX12_thin 26 = .ok (.if_icmp .ge 61, 3) := by decide +kernel
theorem dX12_thin_29 : decode cX12_thin 29 = .ok (.aload_n 0, 1) := by decide +kernel
theorem dX12_thin_30 : decode cX12_thin 30 = .ok (.getfield 19, 3) := by decide +kernel
theorem dX12_thin_33 : decode cX12_thin 33 = .ok (.bipush 6, 2) := by decide +kernel
theorem dX12_thin_35 : decode cX12_thin 35 = .ok (.iload_n 3, 1) := by decide +kernel
theorem dX12_thin_36 : decode cX12_thin 36 = .ok (.iadd, 1) := by decide +kernel
theorem dX12_thin_37 : decode cX12_thin 37 = .ok (.iaload, 1) := by decide +kernel
theorem dX12_thin_38 : decode cX12_thin 38 = .ok (.istore 4, 2) := by decide +kernel
theorem dX12_thin_40 : decode cX12_thin 40 = .ok (.iload 4, 2) := by decide +kernel
theorem dX12_thin_42 : decode cX12_thin 42 = .ok (.iload_n 1, 1) := by decide +kernel
theorem dX12_thin_43 : decode cX12_thin 43 = .ok (.if_icmp .ge 9, 3) := by decide +kernel
theorem dX12_thin_46 : decode cX12_thin 46 = .ok (.iconst 1, 1) := by decide +kernel
theorem dX12_thin_47 : decode cX12_thin 47 = .ok (.iload_n 3, 1) := by decide +kernel
theorem dX12_thin_48 : decode cX12_thin 48 = .ok (.ishl, 1) := by decide +kernel
theorem dX12_thin_49 : decode cX12_thin 49 = .ok (.goto 18, 3) := by decide +kernel
theorem dX12_thin_52 : decode cX12_thin 52 = .ok (.iload 4, 2) := by decide +kernel
theorem dX12_thin_54 : decode cX12_thin 54 = .ok (.iload_n 1, 1) := by decide +kernel
theorem dX12_thin_55 : decode cX12_thin 55 = .ok (.if_icmp .ne 11, 3) := by decide +kernel
theorem dX12_thin_58 : decode cX12_thin 58 = .ok (.iload_n 2, 1) := by decide +kernel
theorem dX12_thin_59 : decode cX12_thin 59 = .ok (.iconst 1, 1) := by decide +kernel
theorem dX12_thin_60 : decode cX12_thin 60 = .ok (.iload_n 3, 1) := by decide +kernel
theorem dX12_thin_61 : decode cX12_thin 61 = .ok (.ishl, 1) := by decide +kernel
theorem dX12_thin_62 : decode cX12_thin 62 = .ok (.ior, 1) := by decide +kernel
theorem dX12_thin_63 : decode cX12_thin 63 = .ok (.goto 4, 3) := by decide +kernel
theorem dX12_thin_66 : decode cX12_thin 66 = .ok (.iload_n 2, 1) := by decide +kernel
theorem dX12_thin_67 : decode cX12_thin 67 = .ok (.istore_n 2, 1) := by decide +kernel
theorem dX12_thin_68 : decode cX12_thin 68 = .ok (.iload 4, 2) := by decide +kernel
theorem dX12_thin_70 : decode cX12_thin 70 = .ok (.iload_n 1, 1) := by decide +kernel
theorem dX12_thin_71 : decode cX12_thin 71 = .ok (.if_icmp .ge 8, 3) := by decide +kernel
theorem dX12_thin_74 : decode cX12_thin 74 = .ok (.iload 4, 2) := by decide +kernel
theorem dX12_thin_76 : decode cX12_thin 76 = .ok (.goto 4, 3) := by decide +kernel
theorem dX12_thin_79 : decode cX12_thin 79 = .ok (.iload_n 1, 1) := by decide +kernel
theorem dX12_thin_80 : decode cX12_thin 80 = .ok (.istore_n 1, 1) := by decide +kernel
theorem dX12_thin_81 : decode cX12_thin 81 = .ok (.iinc 3 1, 3) := by decide +kernel
theorem dX12_thin_84 : decode cX12_thin 84 = .ok (.goto (-61), 3) := by decide +kernel
theorem dX12_thin_87 : decode cX12_thin 87 = .ok (.iload_n 2, 1) := by decide +kernel
theorem dX12_thin_88 : decode cX12_thin 88 = .ok (.ireturn, 1) := by decide +kernel
theorem dX12_dust_0 : decode cX12_dust 0 = .ok (.aload_n 0, 1) := by decide +kernel
theorem dX12_dust_1 : decode cX12_dust 1 = .ok (.iconst 0, 1) := by decide +kernel
theorem dX12_dust_2 : decode cX12_dust 2 = .ok (.putfield 44, 3) := by decide +kernel
theorem dX12_dust_5 : decode cX12_dust 5 = .ok (.iload_n 1, 1) := by decide +kernel
theorem dX12_dust_6 : decode cX12_dust 6 = .ok (.i2l, 1) := by decide +kernel
theorem dX12_dust_7 : decode cX12_dust 7 = .ok (.lconst 0, 1) := by decide +kernel
theorem dX12_dust_8 : decode cX12_dust 8 = .ok (.ldc2_w 247, 3) := by decide +kernel
theorem dX12_dust_11 : decode cX12_dust 11 = .ok (.invokestatic 54, 3) := by decide +kernel
theorem dX12_dust_14 : decode cX12_dust 14 = .ok (.ifCond .eq 37, 3) := by decide +kernel
theorem dX12_dust_17 : decode cX12_dust 17 = .ok (.iload_n 2, 1) := by decide +kernel
theorem dX12_dust_18 : decode cX12_dust 18 = .ok (.i2l, 1) := by decide +kernel
theorem dX12_dust_19 : decode cX12_dust 19 = .ok (.lconst 0, 1) := by decide +kernel
theorem dX12_dust_20 : decode cX12_dust 20 = .ok (.ldc2_w 247, 3) := by decide +kernel
theorem dX12_dust_23 : decode cX12_dust 23 = .ok (.invokestatic 54, 3) := by decide +kernel
theorem dX12_dust_26 : decode cX12_dust 26 = .ok (.ifCond .eq 25, 3) := by decide +kernel
theorem dX12_dust_29 : decode cX12_dust 29 = .ok (.iload_n 3, 1) := by decide +kernel
theorem dX12_dust_30 : decode cX12_dust 30 = .ok (.i2l, 1) := by decide +kernel
theorem dX12_dust_31 : decode cX12_dust 31 = .ok (.lconst 0, 1) := by decide +kernel
theorem dX12_dust_32 : decode cX12_dust 32 = .ok (.iload_n 2, 1) := by decide +kernel
theorem dX12_dust_33 : decode cX12_dust 33 = .ok (.i2l, 1) := by decide +kernel
theorem dX12_dust_34 : decode cX12_dust 34 = .ok (.invokestatic 54, 3) := by decide +kernel
theorem dX12_dust_37 : decode cX12_dust 37 = .ok (.ifCond .eq 14, 3) := by decide +kernel
theorem dX12_dust_40 : decode cX12_dust 40 = .ok (.iload 4, 2) := by decide +kernel
theorem dX12_dust_42 : decode cX12_dust 42 = .ok (.i2l, 1) := by decide +kernel
theorem dX12_dust_43 : decode cX12_dust 43 = .ok (.lconst 0, 1) := by decide +kernel
theorem dX12_dust_44 : decode cX12_dust 44 = .ok (.lconst 1, 1) := by decide +kernel
theorem dX12_dust_45 : decode cX12_dust 45 = .ok (.invokestatic 54, 3) := by decide +kernel
theorem dX12_dust_48 : decode cX12_dust 48 = .ok (.ifCond .ne 7, 3) := by decide +kernel
theorem dX12_dust_51 : decode cX12_dust 51 = .ok (.ldc2_w 249, 3) := by decide +kernel
theorem dX12_dust_54 : decode cX12_dust 54 = .ok (.lreturn, 1) := by decide +kernel
theorem dX12_dust_55 : decode cX12_dust 55 = .ok (.lconst 1, 1) := by decide +kernel
theorem dX12_dust_56 : decode cX12_dust 56 = .ok (.lstore 5, 2) := by decide +kernel
theorem dX12_dust_58 : decode cX12_dust 58 = .ok (.lconst 0, 1) := by decide +kernel
theorem dX12_dust_59 : decode cX12_dust 59 = .ok (.lstore 7, 2) := by decide +kernel
theorem dX12_dust_61 : decode cX12_dust 61 = .ok (.iconst 0, 1) := by decide +kernel
theorem dX12_dust_62 : decode cX12_dust 62 = .ok (.istore 9, 2) := by decide +kernel
theorem dX12_dust_64 : decode cX12_dust 64 = .ok (.iload 9, 2) := by decide +kernel
theorem dX12_dust_66 : decode cX12_dust 66 = .ok (.iload_n 2, 1) := by decide +kernel
theorem dX12_dust_67 : decode cX12_dust 67 = .ok (.if_icmp .ge 17, 3) := by decide +kernel
theorem dX12_dust_70 : decode cX12_dust 70 = .ok (.lload 5, 2) := by decide +kernel
theorem dX12_dust_72 : decode cX12_dust 72 = .ok (.ldc2_w 247, 3) := by decide +kernel
theorem dX12_dust_75 : decode cX12_dust 75 = .ok (.lmul, 1) := by decide +kernel
theorem dX12_dust_76 : decode cX12_dust 76 = .ok (.lstore 5, 2) := by decide +kernel
theorem dX12_dust_78 : decode cX12_dust 78 = .ok (.iinc 9 1, 3) := by decide +kernel
theorem dX12_dust_81 : decode cX12_dust 81 = .ok (.goto (-17), 3) := by decide +kernel
theorem dX12_dust_84 : decode cX12_dust 84 = .ok (.lconst 1, 1) := by decide +kernel
theorem dX12_dust_85 : decode cX12_dust 85 = .ok (.lstore 9, 2) := by decide +kernel
theorem dX12_dust_87 : decode cX12_dust 87 = .ok (.iconst 0, 1) := by decide +kernel
theorem dX12_dust_88 : decode cX12_dust 88 = .ok (.istore 11, 2) := by decide +kernel
theorem dX12_dust_90 : decode cX12_dust 90 = .ok (.iload 11, 2) := by decide +kernel
theorem dX12_dust_92 : decode cX12_dust 92 = .ok (.iload_n 2, 1) := by decide +kernel
theorem dX12_dust_93 : decode cX12_dust 93 = .ok (.if_icmp .gt 83, 3) := by decide +kernel
theorem dX12_dust_96 : decode cX12_dust 96 = .ok (.lload 9, 2) := by decide +kernel
theorem dX12_dust_98 : decode cX12_dust 98 = .ok (.lstore 12, 2) := by decide +kernel
theorem dX12_dust_100 : decode cX12_dust 100 = .ok (.iconst 0, 1) := by decide +kernel
theorem dX12_dust_101 : decode cX12_dust 101 = .ok (.istore 14, 2) := by decide +kernel
theorem dX12_dust_103 : decode cX12_dust 103 = .ok (.iload 14, 2) := by decide +kernel
theorem dX12_dust_105 : decode cX12_dust 105 = .ok (.iload_n 2, 1) := by decide +kernel
theorem dX12_dust_106 : decode cX12_dust 106 = .ok (.if_icmp .ge 31, 3) := by decide +kernel
theorem dX12_dust_109 : decode cX12_dust 109 = .ok (.lload 12, 2) := by decide +kernel
theorem dX12_dust_111 : decode cX12_dust 111 = .ok (.iload 14, 2) := by decide +kernel
theorem dX12_dust_113 : decode cX12_dust 113 = .ok (.iload 11, 2) := by decide +kernel
theorem dX12_dust_115 : decode cX12_dust 115 = .ok (.if_icmp .ge 8, 3) := by decide +kernel
theorem dX12_dust_118 : decode cX12_dust 118 = .ok (.iload_n 1, 1) := by decide +kernel
theorem dX12_dust_119 : decode cX12_dust 119 = .ok (.i2l, 1) := by decide +kernel
theorem dX12_dust_120 : decode cX12_dust 120 = .ok (.goto 8, 3) := by decide +kernel
theorem dX12_dust_123 : decode cX12_dust 123 = .ok (.bipush 10, 2) := by decide +kernel
theorem dX12_dust_125 : decode cX12_dust 125 = .ok (.iload_n 1, 1) := by decide +kernel
theorem dX12_dust_126 : decode cX12_dust 126 = .ok (.isub, 1) := by decide +kernel
theorem dX12_dust_127 : decode cX12_dust 127 = .ok (.i2l, 1) := by decide +kernel
theorem dX12_dust_128 : decode cX12_dust 128 = .ok (.lmul, 1) := by decide +kernel
theorem dX12_dust_129 : decode cX12_dust 129 = .ok (.lstore 12, 2) := by decide +kernel
theorem dX12_dust_131 : decode cX12_dust 131 = .ok (.iinc 14 1, 3) := by decide +kernel
theorem dX12_dust_134 : decode cX12_dust 134 = .ok (.goto (-31), 3) := by decide +kernel
theorem dX12_dust_137 : decode cX12_dust 137 = .ok (.lload 7, 2) := by decide +kernel
theorem dX12_dust_139 : decode cX12_dust 139 = .ok (.iload 11, 2) := by decide +kernel
theorem dX12_dust_141 : decode cX12_dust 141 = .ok (.iload_n 3, 1) := by decide +kernel
theorem dX12_dust_142 : decode cX12_dust 142 = .ok (.if_icmp .lt 8, 3) := by decide +kernel
theorem dX12_dust_145 : decode cX12_dust 145 = .ok (.lload 12, 2) := by decide +kernel
theorem dX12_dust_147 : decode cX12_dust 147 = .ok (.goto 4, 3) := by decide +kernel
theorem dX12_dust_150 : decode cX12_dust 150 = .ok (.lconst 0, 1) := by decide +kernel
theorem dX12_dust_151 : decode cX12_dust 151 = .ok (.ladd, 1) := by decide +kernel
theorem dX12_dust_152 : decode cX12_dust 152 = .ok (.lstore 7, 2) := by decide +kernel
theorem dX12_dust_154 : decode cX12_dust 154 = .ok (.lload 9, 2) := by decide +kernel
theorem dX12_dust_156 : decode cX12_dust 156 = .ok (.iload_n 2, 1) := by decide +kernel
theorem dX12_dust_157 : decode cX12_dust 157 = .ok (.iload 11, 2) := by decide +kernel
theorem dX12_dust_159 : decode cX12_dust 159 = .ok (.isub, 1) := by decide +kernel
theorem dX12_dust_160 : decode cX12_dust 160 = .ok (.i2l, 1) := by decide +kernel
theorem dX12_dust_161 : decode cX12_dust 161 = .ok (.lmul, 1) := by decide +kernel
theorem dX12_dust_162 : decode cX12_dust 162 = .ok (.iload 11, 2) := by decide +kernel
theorem dX12_dust_164 : decode cX12_dust 164 = .ok (.iconst 1, 1) := by decide +kernel
theorem dX12_dust_165 : decode cX12_dust 165 = .ok (.iadd, 1) := by decide +kernel
theorem dX12_dust_166 : decode cX12_dust 166 = .ok (.i2l, 1) := by decide +kernel
theorem dX12_dust_167 : decode cX12_dust 167 = .ok (.ldiv, 1) := by decide +kernel
theorem dX12_dust_168 : decode cX12_dust 168 = .ok (.lstore 9, 2) := by decide +kernel
theorem dX12_dust_170 : decode cX12_dust 170 = .ok (.iinc 11 1, 3) := by decide +kernel
theorem dX12_dust_173 : decode cX12_dust 173 = .ok (.goto (-83), 3) := by decide +kernel
theorem dX12_dust_176 : decode cX12_dust 176 = .ok (.lload 7, 2) := by decide +kernel
theorem dX12_dust_178 : decode cX12_dust 178 = .ok (.lstore 11, 2) := by decide +kernel
theorem dX12_dust_180 : decode cX12_dust 180 = .ok (.lload 5, 2) := by decide +kernel
theorem dX12_dust_182 : decode cX12_dust 182 = .ok (.lstore 13, 2) := by decide +kernel
theorem dX12_dust_184 : decode cX12_dust 184 = .ok (.lload 13, 2) := by decide +kernel
theorem dX12_dust_186 : decode cX12_dust 186 = .ok (.lconst 0, 1) := by decide +kernel
theorem dX12_dust_187 : decode cX12_dust 187 = .ok (.lcmp, 1) := by decide +kernel
theorem dX12_dust_188 : decode cX12_dust 188 = .ok (.ifCond .eq 21, 3) := by decide +kernel
theorem dX12_dust_191 : decode cX12_dust 191 = .ok (.lload 11, 2) := by decide +kernel
theorem dX12_dust_193 : decode cX12_dust 193 = .ok (.lload 13, 2) := by decide +kernel
theorem dX12_dust_195 : decode cX12_dust 195 = .ok (.lrem, 1) := by decide +kernel
theorem dX12_dust_196 : decode cX12_dust 196 = .ok (.lstore 15, 2) := by decide +kernel
theorem dX12_dust_198 : decode cX12_dust 198 = .ok (.lload 13, 2) := by decide +kernel
theorem dX12_dust_200 : decode cX12_dust 200 = .ok (.lstore 11, 2) := by decide +kernel
theorem dX12_dust_202 : decode cX12_dust 202 = .ok (.lload 15, 2) := by decide +kernel
theorem dX12_dust_204 : decode cX12_dust 204 = .ok (.lstore 13, 2) := by decide +kernel
theorem dX12_dust_206 : decode cX12_dust 206 = .ok (.goto (-22), 3) := by decide +kernel
theorem dX12_dust_209 : decode cX12_dust 209 = .ok (.iload 4, 2) := by decide +kernel
theorem dX12_dust_211 : decode cX12_dust 211 = .ok (.ifCond .ne 8, 3) := by decide +kernel
theorem dX12_dust_214 : decode cX12_dust 214 = .ok (.lload 7, 2) := by decide +kernel
theorem dX12_dust_216 : decode cX12_dust 216 = .ok (.goto 5, 3) := by decide +kernel
theorem dX12_dust_219 : decode cX12_dust 219 = .ok (.lload 5, 2) := by decide +kernel
theorem dX12_dust_221 : decode cX12_dust 221 = .ok (.lload 11, 2) := by decide +kernel
theorem dX12_dust_223 : decode cX12_dust 223 = .ok (.ldiv, 1) := by decide +kernel
theorem dX12_dust_224 : decode cX12_dust 224 = .ok (.lreturn, 1) := by decide +kernel
theorem dX12_evenings_0 : decode cX12_evenings 0 = .ok (.aload_n 0, 1) := by decide +kernel
theorem dX12_evenings_1 : decode cX12_evenings 1 = .ok (.iconst 0, 1) := by decide +kernel
theorem dX12_evenings_2 : decode cX12_evenings 2 = .ok (.putfield 44, 3) := by decide +kernel
theorem dX12_evenings_5 : decode cX12_evenings 5 = .ok (.aload_n 0, 1) := by decide +kernel
theorem dX12_evenings_6 : decode cX12_evenings 6 = .ok (.invokevirtual 177, 3) := by decide +kernel
theorem dX12_evenings_9 : decode cX12_evenings 9 = .ok (.ifCond .ne 6, 3) := by decide +kernel
theorem dX12_evenings_12 : decode cX12_evenings 12 = .ok (.ldc 180, 2) := by decide +kernel
theorem dX12_evenings_14 : decode cX12_evenings 14 = .ok (.ireturn, 1) := by decide +kernel
theorem dX12_evenings_15 : decode cX12_evenings 15 = .ok (.iload_n 1, 1) := by decide +kernel
theorem dX12_evenings_16 : decode cX12_evenings 16 = .ok (.i2l, 1) := by decide +kernel
theorem dX12_evenings_17 : decode cX12_evenings 17 = .ok (.lconst 0, 1) := by decide +kernel
theorem dX12_evenings_18 : decode cX12_evenings 18 = .ok (.ldc2_w 251, 3) := by decide +kernel
theorem dX12_evenings_21 : decode cX12_evenings 21 = .ok (.invokestatic 54, 3) := by decide +kernel
theorem dX12_evenings_24 : decode cX12_evenings 24 = .ok (.ifCond .eq 25, 3) := by decide +kernel
theorem dX12_evenings_27 : decode cX12_evenings 27 = .ok (.iload_n 2, 1) := by decide +kernel
theorem dX12_evenings_28 : decode cX12_evenings 28 = .ok (.i2l, 1) := by decide +kernel
theorem dX12_evenings_29 : decode cX12_evenings 29 = .ok (.lconst 1, 1) := by decide +kernel
theorem dX12_evenings_30 : decode cX12_evenings 30 = .ok (.ldc2_w 253, 3) := by decide +kernel
theorem dX12_evenings_33 : decode cX12_evenings 33 = .ok (.invokestatic 54, 3) := by decide +kernel
theorem dX12_evenings_36 : decode cX12_evenings 36 = .ok (.ifCond .eq 13, 3) := by decide +kernel
theorem dX12_evenings_39 : decode cX12_evenings 39 = .ok (.iload_n 3, 1) := by decide +kernel
theorem dX12_evenings_40 : decode cX12_evenings 40 = .ok (.i2l, 1) := by decide +kernel
theorem dX12_evenings_41 : decode cX12_evenings 41 = .ok (.lconst 0, 1) := by decide +kernel
theorem dX12_evenings_42 : decode cX12_evenings 42 = .ok (.lconst 1, 1) := by decide +kernel
theorem dX12_evenings_43 : decode cX12_evenings 43 = .ok (.invokestatic 54, 3) := by decide +kernel
theorem dX12_evenings_46 : decode cX12_evenings 46 = .ok (.ifCond .ne 6, 3) := by decide +kernel
theorem dX12_evenings_49 : decode cX12_evenings 49 = .ok (.ldc 64, 2) := by decide +kernel
theorem dX12_evenings_51 : decode cX12_evenings 51 = .ok (.ireturn, 1) := by decide +kernel
theorem dX12_evenings_52 : decode cX12_evenings 52 = .ok (.aload_n 0, 1) := by decide +kernel
theorem dX12_evenings_53 : decode cX12_evenings 53 = .ok (.invokevirtual 211, 3) := by decide +kernel
theorem dX12_evenings_56 : decode cX12_evenings 56 = .ok (.iload_n 2, 1) := by decide +kernel
theorem dX12_evenings_57 : decode cX12_evenings 57 = .ok (.i2l, 1) := by decide +kernel
theorem dX12_evenings_58 : decode cX12_evenings 58 = .ok (.lstore 4, 2) := by decide +kernel
theorem dX12_evenings_60 : decode cX12_evenings 60 = .ok (.iconst 0, 1) := by decide +kernel
theorem dX12_evenings_61 : decode cX12_evenings 61 = .ok (.istore 6, 2) := by decide +kernel
theorem dX12_evenings_63 : decode cX12_evenings 63 = .ok (.iload 6, 2) := by decide +kernel
theorem dX12_evenings_65 : decode cX12_evenings 65 = .ok (.iload_n 1, 1) := by decide +kernel
theorem dX12_evenings_66 : decode cX12_evenings 66 = .ok (.if_icmp .ge 74, 3) := by decide +kernel
theorem dX12_evenings_69 : decode cX12_evenings 69 = .ok (.lload 4, 2) := by decide +kernel
theorem dX12_evenings_71 : decode cX12_evenings 71 = .ok (.ldc2_w 255, 3) := by decide +kernel
theorem dX12_evenings_74 : decode cX12_evenings 74 = .ok (.lmul, 1) := by decide +kernel
theorem dX12_evenings_75 : decode cX12_evenings 75 = .ok (.ldc2_w 257, 3) := by decide +kernel
theorem dX12_evenings_78 : decode cX12_evenings 78 = .ok (.lrem, 1) := by decide +kernel
theorem dX12_evenings_79 : decode cX12_evenings 79 = .ok (.lstore 4, 2) := by decide +kernel
theorem dX12_evenings_81 : decode cX12_evenings 81 = .ok (.aload_n 0, 1) := by decide +kernel
theorem dX12_evenings_82 : decode cX12_evenings 82 = .ok (.getfield 19, 3) := by decide +kernel
theorem dX12_evenings_85 : decode cX12_evenings 85 = .ok (.iconst 5, 1) := by decide +kernel
theorem dX12_evenings_86 : decode cX12_evenings 86 = .ok (.iaload, 1) := by decide +kernel
theorem dX12_evenings_87 : decode cX12_evenings 87 = .ok (.ifCond .le 22, 3) := by decide +kernel
theorem dX12_evenings_90 : decode cX12_evenings 90 = .ok (.aload_n 0, 1) := by decide +kernel
theorem dX12_evenings_91 : decode cX12_evenings 91 = .ok (.aload_n 0, 1) := by decide +kernel
theorem dX12_evenings_92 : decode cX12_evenings 92 = .ok (.getfield 25, 3) := by decide +kernel
theorem dX12_evenings_95 : decode cX12_evenings 95 = .ok (.lload 4, 2) := by decide +kernel
theorem dX12_evenings_97 : decode cX12_evenings 97 = .ok (.aload_n 0, 1) := by decide +kernel
theorem dX12_evenings_98 : decode cX12_evenings 98 = .ok (.getfield 19, 3) := by decide +kernel
theorem dX12_evenings_101 : decode cX12_evenings 101 = .ok (.iconst 5, 1) := by decide +kernel
theorem dX12_evenings_102 : decode cX12_evenings 102 = .ok (.iaload, 1) := by decide +kernel
theorem dX12_evenings_103 : decode cX12_evenings 103 = .ok (.i2l, 1) := by decide +kernel
theorem dX12_evenings_104 : decode cX12_evenings 104 = .ok (.lrem, 1) := by decide +kernel
theorem dX12_evenings_105 : decode cX12_evenings 105 = .ok (.l2i, 1) := by decide +kernel
theorem dX12_evenings_106 : decode cX12_evenings 106 = .ok (.invokevirtual 173, 3) := by decide +kernel
theorem dX12_evenings_109 : decode cX12_evenings 109 = .ok (.lload 4, 2) := by decide +kernel
theorem dX12_evenings_111 : decode cX12_evenings 111 = .ok (.ldc2_w 52, 3) := by decide +kernel
theorem dX12_evenings_114 : decode cX12_evenings 114 = .ok (.lrem, 1) := by decide +kernel
theorem dX12_evenings_115 : decode cX12_evenings 115 = .ok (.lconst 0, 1) := by decide +kernel
theorem dX12_evenings_116 : decode cX12_evenings 116 = .ok (.lcmp, 1) := by decide +kernel
theorem dX12_evenings_117 : decode cX12_evenings 117 = .ok (.ifCond .ne 17, 3) := by decide +kernel
theorem dX12_evenings_120 : decode cX12_evenings 120 = .ok (.aload_n 0, 1) := by decide +kernel
theorem dX12_evenings_121 : decode cX12_evenings 121 = .ok (.getfield 25, 3) := by decide +kernel
theorem dX12_evenings_124 : decode cX12_evenings 124 = .ok (.lload 4, 2) := by decide +kernel
theorem dX12_evenings_126 : decode cX12_evenings 126 = .ok (.ldc2_w 245, 3) := by decide +kernel
theorem dX12_evenings_129 : decode cX12_evenings 129 = .ok (.lrem, 1) := by decide +kernel
theorem dX12_evenings_130 : decode cX12_evenings 130 = .ok (.l2i, 1) := by decide +kernel
theorem dX12_evenings_131 : decode cX12_evenings 131 = .ok (.invokestatic 195, 3) := by decide +kernel
theorem dX12_evenings_134 : decode cX12_evenings 134 = .ok (.iinc 6 1, 3) := by decide +kernel
theorem dX12_evenings_137 : decode cX12_evenings 137 = .ok (.goto (-74), 3) := by decide +kernel
theorem dX12_evenings_140 : decode cX12_evenings 140 = .ok (.iload_n 3, 1) := by decide +kernel
theorem dX12_evenings_141 : decode cX12_evenings 141 = .ok (.ifCond .ne 13, 3) := by decide +kernel
theorem dX12_evenings_144 : decode cX12_evenings 144 = .ok (.aload_n 0, 1) := by decide +kernel
theorem dX12_evenings_145 : decode cX12_evenings 145 = .ok (.getfield 25, 3) := by decide +kernel
theorem dX12_evenings_148 : decode cX12_evenings 148 = .ok (.invokestatic 202, 3) := by decide +kernel
theorem dX12_evenings_151 : decode cX12_evenings 151 = .ok (.goto 10, 3) := by decide +kernel
theorem dX12_evenings_154 : decode cX12_evenings 154 = .ok (.aload_n 0, 1) := by decide +kernel
theorem dX12_evenings_155 : decode cX12_evenings 155 = .ok (.getfield 25, 3) := by decide +kernel
theorem dX12_evenings_158 : decode cX12_evenings 158 = .ok (.invokestatic 222, 3) := by decide +kernel
theorem dX12_evenings_161 : decode cX12_evenings 161 = .ok (.ireturn, 1) := by decide +kernel
theorem dX12_image_0 : decode cX12_image 0 = .ok (.aload_n 0, 1) := by decide +kernel
theorem dX12_image_1 : decode cX12_image 1 = .ok (.iconst 0, 1) := by decide +kernel
theorem dX12_image_2 : decode cX12_image 2 = .ok (.putfield 44, 3) := by decide +kernel
theorem dX12_image_5 : decode cX12_image 5 = .ok (.iload_n 1, 1) := by decide +kernel
theorem dX12_image_6 : decode cX12_image 6 = .ok (.i2l, 1) := by decide +kernel
theorem dX12_image_7 : decode cX12_image 7 = .ok (.lconst 0, 1) := by decide +kernel
theorem dX12_image_8 : decode cX12_image 8 = .ok (.lconst 1, 1) := by decide +kernel
theorem dX12_image_9 : decode cX12_image 9 = .ok (.invokestatic 54, 3) := by decide +kernel
theorem dX12_image_12 : decode cX12_image 12 = .ok (.ifCond .ne 6, 3) := by decide +kernel
theorem dX12_image_15 : decode cX12_image 15 = .ok (.ldc 64, 2) := by decide +kernel
theorem dX12_image_17 : decode cX12_image 17 = .ok (.ireturn, 1) := by decide +kernel
theorem dX12_image_18 : decode cX12_image 18 = .ok (.aload_n 0, 1) := by decide +kernel
theorem dX12_image_19 : decode cX12_image 19 = .ok (.invokevirtual 177, 3) := by decide +kernel
theorem dX12_image_22 : decode cX12_image 22 = .ok (.ifCond .ne 6, 3) := by decide +kernel
theorem dX12_image_25 : decode cX12_image 25 = .ok (.ldc 180, 2) := by decide +kernel
theorem dX12_image_27 : decode cX12_image 27 = .ok (.ireturn, 1) := by decide +kernel
theorem dX12_image_28 : decode cX12_image 28 = .ok (.iconst 0, 1) := by decide +kernel
theorem dX12_image_29 : decode cX12_image 29 = .ok (.istore_n 2, 1) := by decide +kernel
theorem dX12_image_30 : decode cX12_image 30 = .ok (.iload_n 2, 1) := by decide +kernel
theorem dX12_image_31 : decode cX12_image 31 = .ok (.bipush 95, 2) := by decide +kernel
theorem dX12_image_33 : decode cX12_image 33 = .ok (.if_icmp .ge 26, 3) := by decide +kernel
theorem dX12_image_36 : decode cX12_image 36 = .ok (.aload_n 0, 1) := by decide +kernel
theorem dX12_image_37 : decode cX12_image 37 = .ok (.getfield 38, 3) := by decide +kernel
theorem dX12_image_40 : decode cX12_image 40 = .ok (.bipush 95, 2) := by decide +kernel
theorem dX12_image_42 : decode cX12_image 42 = .ok (.iload_n 1, 1) := by decide +kernel
theorem dX12_image_43 : decode cX12_image 43 = .ok (.imul, 1) := by decide +kernel
theorem dX12_image_44 : decode cX12_image 44 = .ok (.iload_n 2, 1) := by decide +kernel
theorem dX12_image_45 : decode cX12_image 45 = .ok (.iadd, 1) := by decide +kernel
theorem dX12_image_46 : decode cX12_image 46 = .ok (.aload_n 0, 1) := by decide +kernel
theorem dX12_image_47 : decode cX12_image 47 = .ok (.getfield 19, 3) := by decide +kernel
theorem dX12_image_50 : decode cX12_image 50 = .ok (.iload_n 2, 1) := by decide +kernel
theorem dX12_image_51 : decode cX12_image 51 = .ok (.iaload, 1) := by decide +kernel
theorem dX12_image_52 : decode cX12_image 52 = .ok (.iastore, 1) := by decide +kernel
theorem dX12_image_53 : decode cX12_image 53 = .ok (.iinc 2 1, 3) := by decide +kernel
theorem dX12_image_56 : decode cX12_image 56 = .ok (.goto (-26), 3) := by decide +kernel
theorem dX12_image_59 : decode cX12_image 59 = .ok (.aload_n 0, 1) := by decide +kernel
theorem dX12_image_60 : decode cX12_image 60 = .ok (.getfield 34, 3) := by decide +kernel
theorem dX12_image_63 : decode cX12_image 63 = .ok (.iload_n 1, 1) := by decide +kernel
theorem dX12_image_64 : decode cX12_image 64 = .ok (.iconst 1, 1) := by decide +kernel
theorem dX12_image_65 : decode cX12_image 65 = .ok (.bastore, 1) := by decide +kernel
theorem dX12_image_66 : decode cX12_image 66 = .ok (.iconst 1, 1) := by decide +kernel
theorem dX12_image_67 : decode cX12_image 67 = .ok (.ireturn, 1) := by decide +kernel
theorem dX12_restore_0 : decode cX12_restore 0 = .ok (.aload_n 0, 1) := by decide +kernel
theorem dX12_restore_1 : decode cX12_restore 1 = .ok (.iconst 0, 1) := by decide +kernel
theorem dX12_restore_2 : decode cX12_restore 2 = .ok (.putfield 44, 3) := by decide +kernel
theorem dX12_restore_5 : decode cX12_restore 5 = .ok (.iload_n 1, 1) := by decide +kernel
theorem dX12_restore_6 : decode cX12_restore 6 = .ok (.i2l, 1) := by decide +kernel
theorem dX12_restore_7 : decode cX12_restore 7 = .ok (.lconst 0, 1) := by decide +kernel
theorem dX12_restore_8 : decode cX12_restore 8 = .ok (.lconst 1, 1) := by decide +kernel
theorem dX12_restore_9 : decode cX12_restore 9 = .ok (.invokestatic 54, 3) := by decide +kernel
theorem dX12_restore_12 : decode cX12_restore 12 = .ok (.ifCond .ne 6, 3) := by decide +kernel
theorem dX12_restore_15 : decode cX12_restore 15 = .ok (.ldc 64, 2) := by decide +kernel
theorem dX12_restore_17 : decode cX12_restore 17 = .ok (.ireturn, 1) := by decide +kernel
theorem dX12_restore_18 : decode cX12_restore 18 = .ok (.aload_n 0, 1) := by decide +kernel
theorem dX12_restore_19 : decode cX12_restore 19 = .ok (.getfield 34, 3) := by decide +kernel
theorem dX12_restore_22 : decode cX12_restore 22 = .ok (.iload_n 1, 1) := by decide +kernel
theorem dX12_restore_23 : decode cX12_restore 23 = .ok (.baload, 1) := by decide +kernel
theorem dX12_restore_24 : decode cX12_restore 24 = .ok (.ifCond .ne 6, 3) := by decide +kernel
theorem dX12_restore_27 : decode cX12_restore 27 = .ok (.ldc 180, 2) := by decide +kernel
theorem dX12_restore_29 : decode cX12_restore 29 = .ok (.ireturn, 1) := by decide +kernel
theorem dX12_restore_30 : decode cX12_restore 30 = .ok (.iconst 0, 1) := by decide +kernel
theorem dX12_restore_31 : decode cX12_restore 31 = .ok (.istore_n 2, 1) := by decide +kernel
theorem dX12_restore_32 : decode cX12_restore 32 = .ok (.iload_n 2, 1) := by decide +kernel
theorem dX12_restore_33 : decode cX12_restore 33 = .ok (.bipush 95, 2) := by decide +kernel
theorem dX12_restore_35 : decode cX12_restore 35 = .ok (.if_icmp .ge 26, 3) := by decide +kernel
theorem dX12_restore_38 : decode cX12_restore 38 = .ok (.aload_n 0, 1) := by decide +kernel
theorem dX12_restore_39 : decode cX12_restore 39 = .ok (.getfield 19, 3) := by decide +kernel
theorem dX12_restore_42 : decode cX12_restore 42 = .ok (.iload_n 2, 1) := by decide +kernel
theorem dX12_restore_43 : decode cX12_restore 43 = .ok (.aload_n 0, 1) := by decide +kernel
theorem dX12_restore_44 : decode cX12_restore 44 = .ok (.getfield 38, 3) := by decide +kernel
theorem dX12_restore_47 : decode cX12_restore 47 = .ok (.bipush 95, 2) := by decide +kernel
theorem dX12_restore_49 : decode cX12_restore 49 = .ok (.iload_n 1, 1) := by decide +kernel
theorem dX12_restore_50 : decode cX12_restore 50 = .ok (.imul, 1) := by decide +kernel
theorem dX12_restore_51 : decode cX12_restore 51 = .ok (.iload_n 2, 1) := by decide +kernel
theorem dX12_restore_52 : decode cX12_restore 52 = .ok (.iadd, 1) := by decide +kernel
theorem dX12_restore_53 : decode cX12_restore 53 = .ok (.iaload, 1) := by decide +kernel
theorem dX12_restore_54 : decode cX12_restore 54 = .ok (.iastore, 1) := by decide +kernel
theorem dX12_restore_55 : decode cX12_restore 55 = .ok (.iinc 2 1, 3) := by decide +kernel
theorem dX12_restore_58 : decode cX12_restore 58 = .ok (.goto (-26), 3) := by decide +kernel
theorem dX12_restore_61 : decode cX12_restore 61 = .ok (.aload_n 0, 1) := by decide +kernel
theorem dX12_restore_62 : decode cX12_restore 62 = .ok (.iconst 0, 1) := by decide +kernel
theorem dX12_restore_63 : decode cX12_restore 63 = .ok (.putfield 150, 3) := by decide +kernel
theorem dX12_restore_66 : decode cX12_restore 66 = .ok (.iconst 1, 1) := by decide +kernel
theorem dX12_restore_67 : decode cX12_restore 67 = .ok (.ireturn, 1) := by decide +kernel
theorem dX12_isOf_0 : decode cX12_isOf 0 = .ok (.iload_n 1, 1) := by decide +kernel
theorem dX12_isOf_1 : decode cX12_isOf 1 = .ok (.ifCond .eq 28, 3) := by decide +kernel
theorem dX12_isOf_4 : decode cX12_isOf 4 = .ok (.iload_n 0, 1) := by decide +kernel
theorem dX12_isOf_5 : decode cX12_isOf 5 = .ok (.iload_n 1, 1) := by decide +kernel
theorem dX12_isOf_6 : decode cX12_isOf 6 = .ok (.if_icmp .eq 23, 3) := by decide +kernel
theorem dX12_isOf_9 : decode cX12_isOf 9 = .ok (.iload_n 1, 1) := by decide +kernel
theorem dX12_isOf_10 : decode cX12_isOf 10 = .ok (.iconst 1, 1) := by decide +kernel
theorem dX12_isOf_11 : decode cX12_isOf 11 = .ok (.if_icmp .ne 8, 3) := by decide +kernel
theorem dX12_isOf_14 : decode cX12_isOf 14 = .ok (.iload_n 0, 1) := by decide +kernel
theorem dX12_isOf_15 : decode cX12_isOf 15 = .ok (.iconst 4, 1) := by decide +kernel
theorem dX12_isOf_16 : decode cX12_isOf 16 = .ok (.if_icmp .lt 13, 3) := by decide +kernel
theorem dX12_isOf_19 : decode cX12_isOf 19 = .ok (.iload_n 1, 1) := by decide +kernel
theorem dX12_isOf_20 : decode cX12_isOf 20 = .ok (.iconst 4, 1) := by decide +kernel
theorem dX12_isOf_21 : decode cX12_isOf 21 = .ok (.if_icmp .ne 12, 3) := by decide +kernel
theorem dX12_isOf_24 : decode cX12_isOf 24 = .ok (.iload_n 0, 1) := by decide +kernel
theorem dX12_isOf_25 : decode cX12_isOf 25 = .ok (.iconst 5, 1) := by decide +kernel
theorem dX12_isOf_26 : decode cX12_isOf 26 = .ok (.if_icmp .ne 7, 3) := by decide +kernel
theorem dX12_isOf_29 : decode cX12_isOf 29 = .ok (.iconst 1, 1) := by decide +kernel
theorem dX12_isOf_30 : decode cX12_isOf 30 = .ok (.goto 4, 3) := by decide +kernel
theorem dX12_isOf_33 : decode cX12_isOf 33 = .ok (.iconst 0, 1) := by decide +kernel
theorem dX12_isOf_34 : decode cX12_isOf 34 = .ok (.ireturn, 1) := by decide +kernel
theorem dX12_kind_0 : decode cX12_kind 0 = .ok (.aload_n 0, 1) := by decide +kernel
theorem dX12_kind_1 : decode cX12_kind 1 = .ok (.iconst 0, 1) := by decide +kernel
theorem dX12_kind_2 : decode cX12_kind 2 = .ok (.putfield 44, 3) := by decide +kernel
theorem dX12_kind_5 : decode cX12_kind 5 = .ok (.aload_n 0, 1) := by decide +kernel
theorem dX12_kind_6 : decode cX12_kind 6 = .ok (.iload_n 1, 1) := by decide +kernel
theorem dX12_kind_7 : decode cX12_kind 7 = .ok (.invokevirtual 189, 3) := by decide +kernel
theorem dX12_kind_10 : decode cX12_kind 10 = .ok (.ifCond .eq 11, 3) := by decide +kernel
theorem dX12_kind_13 : decode cX12_kind 13 = .ok (.aload_n 0, 1) := by decide +kernel
theorem dX12_kind_14 : decode cX12_kind 14 = .ok (.iload_n 1, 1) := by decide +kernel
theorem dX12_kind_15 : decode cX12_kind 15 = .ok (.invokevirtual 167, 3) := by decide +kernel
theorem dX12_kind_18 : decode cX12_kind 18 = .ok (.goto 5, 3) := by decide +kernel
theorem dX12_kind_21 : decode cX12_kind 21 = .ok (.ldc 64, 2) := by decide +kernel
theorem dX12_kind_23 : decode cX12_kind 23 = .ok (.ireturn, 1) := by decide +kernel
theorem dX12_as_0 : decode cX12_as 0 = .ok (.aload_n 0, 1) := by decide +kernel
theorem dX12_as_1 : decode cX12_as 1 = .ok (.iconst 0, 1) := by decide +kernel
theorem dX12_as_2 : decode cX12_as 2 = .ok (.putfield 44, 3) := by decide +kernel
theorem dX12_as_5 : decode cX12_as 5 = .ok (.aload_n 0, 1) := by decide +kernel
theorem dX12_as_6 : decode cX12_as 6 = .ok (.iload_n 1, 1) := by decide +kernel
theorem dX12_as_7 : decode cX12_as 7 = .ok (.invokevirtual 189, 3) := by decide +kernel
theorem dX12_as_10 : decode cX12_as 10 = .ok (.ifCond .eq 15, 3) := by decide +kernel
theorem dX12_as_13 : decode cX12_as 13 = .ok (.iload_n 2, 1) := by decide +kernel
theorem dX12_as_14 : decode cX12_as 14 = .ok (.i2l, 1) := by decide +kernel
theorem dX12_as_15 : decode cX12_as 15 = .ok (.lconst 0, 1) := by decide +kernel
theorem dX12_as_16 : decode cX12_as 16 = .ok (.ldc2_w 259, 3) := by decide +kernel
theorem dX12_as_19 : decode cX12_as 19 = .ok (.invokestatic 54, 3) := by decide +kernel
theorem dX12_as_22 : decode cX12_as 22 = .ok (.ifCond .ne 6, 3) := by decide +kernel
theorem dX12_as_25 : decode cX12_as 25 = .ok (.ldc 64, 2) := by decide +kernel
theorem dX12_as_27 : decode cX12_as 27 = .ok (.ireturn, 1) := by decide +kernel
theorem dX12_as_28 : decode cX12_as 28 = .ok (.aload_n 0, 1) := by decide +kernel
theorem dX12_as_29 : decode cX12_as 29 = .ok (.iconst 0, 1) := by decide +kernel
theorem dX12_as_30 : decode cX12_as 30 = .ok (.putfield 48, 3) := by decide +kernel
theorem dX12_as_33 : decode cX12_as 33 = .ok (.aload_n 0, 1) := by decide +kernel
theorem dX12_as_34 : decode cX12_as 34 = .ok (.iload_n 1, 1) := by decide +kernel
theorem dX12_as_35 : decode cX12_as 35 = .ok (.invokevirtual 167, 3) := by decide +kernel
theorem dX12_as_38 : decode cX12_as 38 = .ok (.iload_n 2, 1) := by decide +kernel
theorem dX12_as_39 : decode cX12_as 39 = .ok (.invokestatic 261, 3) := by decide +kernel
theorem dX12_as_42 : decode cX12_as 42 = .ok (.ifCond .eq 7, 3) := by decide +kernel
theorem dX12_as_45 : decode cX12_as 45 = .ok (.iload_n 1, 1) := by decide +kernel
theorem dX12_as_46 : decode cX12_as 46 = .ok (.goto 8, 3) := by decide +kernel
theorem dX12_as_49 : decode cX12_as 49 = .ok (.aload_n 0, 1) := by decide +kernel
theorem dX12_as_50 : decode cX12_as 50 = .ok (.iconst 3, 1) := by decide +kernel
theorem dX12_as_51 : decode cX12_as 51 = .ok (.invokevirtual 65, 3) := by decide +kernel
theorem dX12_as_54 : decode cX12_as 54 = .ok (.ireturn, 1) := by decide +kernel
theorem dX12_began_0 : decode cX12_began 0 = .ok (.aload_n 0, 1) := by decide +kernel
theorem dX12_began_1 : decode cX12_began 1 = .ok (.getfield 265, 3) := by decide +kernel
theorem dX12_began_4 : decode cX12_began 4 = .ok (.bipush 16, 2) := by decide +kernel
theorem dX12_began_6 : decode cX12_began 6 = .ok (.if_icmp .ge 23, 3) := by decide +kernel
theorem dX12_began_9 : decode cX12_began 9 = .ok (.aload_n 0, 1) := by decide +kernel
theorem dX12_began_10 : decode cX12_began 10 = .ok (.getfield 41, 3) := by decide +kernel
theorem dX12_began_13 : decode cX12_began 13 = .ok (.aload_n 0, 1) := by decide +kernel
theorem dX12_began_14 : decode cX12_began 14 = .ok (.getfield 265, 3) := by decide +kernel
theorem dX12_began_17 : decode cX12_began 17 = .ok (.iload_n 1, 1) := by decide +kernel
theorem dX12_began_18 : decode cX12_began 18 = .ok (.iastore, 1) := by decide +kernel
theorem dX12_began_19 : decode cX12_began 19 = .ok (.aload_n 0, 1) := by decide +kernel
theorem dX12_began_20 : decode cX12_began 20 = .ok (.dup, 1) := by decide +kernel
theorem dX12_began_21 : decode cX12_began 21 = .ok (.getfield 265, 3) := by decide +kernel
theorem dX12_began_24 : decode cX12_began 24 = .ok (.iconst 1, 1) := by decide +kernel
theorem dX12_began_25 : decode cX12_began 25 = .ok (.iadd, 1) := by decide +kernel
theorem dX12_began_26 : decode cX12_began 26 = .ok (.putfield 265, 3) := by decide +kernel
theorem dX12_began_29 : decode cX12_began 29 = .ok (.return_, 1) := by decide +kernel
theorem dX12_plainSize_0 : decode cX12_plainSize 0 = .ok (.aload_n 0, 1) := by decide +kernel
theorem dX12_plainSize_1 : decode cX12_plainSize 1 = .ok (.bipush 10, 2) := by decide +kernel
theorem dX12_plainSize_3 : decode cX12_plainSize 3 = .ok (.invokevirtual 268, 3) := by decide +kernel
theorem dX12_plainSize_6 : decode cX12_plainSize 6 = .ok (.aload_n 0, 1) := by decide +kernel
theorem dX12_plainSize_7 : decode cX12_plainSize 7 = .ok (.iload_n 1, 1) := by decide +kernel
theorem dX12_plainSize_8 : decode cX12_plainSize 8 = .ok (.invokevirtual 157, 3) := by decide +kernel
theorem dX12_plainSize_11 : decode cX12_plainSize 11 = .ok (.ireturn, 1) := by decide +kernel
theorem dX12_clearSize_0 : decode cX12_clearSize 0 = .ok (.aload_n 0, 1) := by decide +kernel
theorem dX12_clearSize_1 : decode cX12_clearSize 1 = .ok (.iload_n 1, 1) := by decide +kernel
theorem dX12_clearSize_2 : decode cX12_clearSize 2 = .ok (.invokevirtual 167, 3) := by decide +kernel
theorem dX12_clearSize_5 : decode cX12_clearSize 5 = .ok (.iconst 5, 1) := by decide +kernel
theorem dX12_clearSize_6 : decode cX12_clearSize 6 = .ok (.if_icmp .ne 9, 3) := by decide +kernel
theorem dX12_clearSize_9 : decode cX12_clearSize 9 = .ok (.aload_n 0, 1) := by decide +kernel
theorem dX12_clearSize_10 : decode cX12_clearSize 10 = .ok (.bipush 14, 2) := by decide +kernel
theorem dX12_clearSize_12 : decode cX12_clearSize 12 = .ok (.invokevirtual 268, 3) := by decide +kernel
theorem dX12_clearSize_15 : decode cX12_clearSize 15 = .ok (.aload_n 0, 1) := by decide +kernel
theorem dX12_clearSize_16 : decode cX12_clearSize 16 = .ok (.bipush 13, 2) := by decide +kernel
theorem dX12_clearSize_18 : decode cX12_clearSize 18 = .ok (.invokevirtual 268, 3) := by decide +kernel
theorem dX12_clearSize_21 : decode cX12_clearSize 21 = .ok (.aload_n 0, 1) := by decide +kernel
theorem dX12_clearSize_22 : decode cX12_clearSize 22 = .ok (.iload_n 1, 1) := by decide +kernel
theorem dX12_clearSize_23 : decode cX12_clearSize 23 = .ok (.invokevirtual 271, 3) := by decide +kernel
theorem dX12_clearSize_26 : decode cX12_clearSize 26 = .ok (.bipush 100, 2) := by decide +kernel
theorem dX12_clearSize_28 : decode cX12_clearSize 28 = .ok (.isub, 1) := by decide +kernel
theorem dX12_clearSize_29 : decode cX12_clearSize 29 = .ok (.istore_n 2, 1) := by decide +kernel
theorem dX12_clearSize_30 : decode cX12_clearSize 30 = .ok (.aload_n 0, 1) := by decide +kernel
theorem dX12_clearSize_31 : decode cX12_clearSize 31 = .ok (.iload_n 1, 1) := by decide +kernel
theorem dX12_clearSize_32 : decode cX12_clearSize 32 = .ok (.invokevirtual 167, 3) := by decide +kernel
theorem dX12_clearSize_35 : decode cX12_clearSize 35 = .ok (.iconst 5, 1) := by decide +kernel
theorem dX12_clearSize_36 : decode cX12_clearSize 36 = .ok (.if_icmp .ne 9, 3) := by decide +kernel
theorem dX12_clearSize_39 : decode cX12_clearSize 39 = .ok (.iconst 2, 1) := by decide +kernel
theorem dX12_clearSize_40 : decode cX12_clearSize 40 = .ok (.iload_n 2, 1) := by decide +kernel
theorem dX12_clearSize_41 : decode cX12_clearSize 41 = .ok (.imul, 1) := by decide +kernel
theorem dX12_clearSize_42 : decode cX12_clearSize 42 = .ok (.goto 4, 3) := by decide +kernel
theorem dX12_clearSize_45 : decode cX12_clearSize 45 = .ok (.iload_n 2, 1) := by decide +kernel
theorem dX12_clearSize_46 : decode cX12_clearSize 46 = .ok (.ireturn, 1) := by decide +kernel
theorem dX12_markOf_0 : decode cX12_markOf 0 = .ok (.aload_n 0, 1) := by decide +kernel
theorem dX12_markOf_1 : decode cX12_markOf 1 = .ok (.iload_n 1, 1) := by decide +kernel
theorem dX12_markOf_2 : decode cX12_markOf 2 = .ok (.invokevirtual 167, 3) := by decide +kernel
theorem dX12_markOf_5 : decode cX12_markOf 5 = .ok (.istore_n 2, 1) := by decide +kernel
theorem dX12_markOf_6 : decode cX12_markOf 6 = .ok (.iload_n 2, 1) := by decide +kernel
theorem dX12_markOf_7 : decode cX12_markOf 7 = .ok (.iconst 4, 1) := by decide +kernel
theorem dX12_markOf_8 : decode cX12_markOf 8 = .ok (.if_icmp .lt 23, 3) := by decide +kernel
theorem dX12_markOf_11 : decode cX12_markOf 11 = .ok (.aload_n 0, 1) := by decide +kernel
theorem dX12_markOf_12 : decode cX12_markOf 12 = .ok (.bipush 23, 2) := by decide +kernel
theorem dX12_markOf_14 : decode cX12_markOf 14 = .ok (.invokevirtual 268, 3) := by decide +kernel
theorem dX12_markOf_17 : decode cX12_markOf 17 = .ok (.aload_n 0, 1) := by decide +kernel
theorem dX12_markOf_18 : decode cX12_markOf 18 = .ok (.bipush 20, 2) := by decide +kernel
theorem dX12_markOf_20 : decode cX12_markOf 20 = .ok (.invokevirtual 268, 3) := by decide +kernel
theorem dX12_markOf_23 : decode cX12_markOf 23 = .ok (.iload_n 1, 1) := by decide +kernel
theorem dX12_markOf_24 : decode cX12_markOf 24 = .ok (.aload_n 0, 1) := by decide +kernel
theorem dX12_markOf_25 : decode cX12_markOf 25 = .ok (.iload_n 1, 1) := by decide +kernel
theorem dX12_markOf_26 : decode cX12_markOf 26 = .ok (.invokevirtual 274, 3) := by decide +kernel
theorem dX12_markOf_29 : decode cX12_markOf 29 = .ok (.isub, 1) := by decide +kernel
theorem dX12_markOf_30 : decode cX12_markOf 30 = .ok (.ireturn, 1) := by decide +kernel
theorem dX12_markOf_31 : decode cX12_markOf 31 = .ok (.iload_n 2, 1) := by decide +kernel
theorem dX12_markOf_32 : decode cX12_markOf 32 = .ok (.iconst 1, 1) := by decide +kernel
theorem dX12_markOf_33 : decode cX12_markOf 33 = .ok (.if_icmp .eq 19, 3) := by decide +kernel
theorem dX12_markOf_36 : decode cX12_markOf 36 = .ok (.aload_n 0, 1) := by decide +kernel
theorem dX12_markOf_37 : decode cX12_markOf 37 = .ok (.iload_n 2, 1) := by decide +kernel
theorem dX12_markOf_38 : decode cX12_markOf 38 = .ok (.iconst 3, 1) := by decide +kernel
theorem dX12_markOf_39 : decode cX12_markOf 39 = .ok (.if_icmp .ne 8, 3) := by decide +kernel
theorem dX12_markOf_42 : decode cX12_markOf 42 = .ok (.bipush 22, 2) := by decide +kernel
theorem dX12_markOf_44 : decode cX12_markOf 44 = .ok (.goto 5, 3) := by decide +kernel
theorem dX12_markOf_47 : decode cX12_markOf 47 = .ok (.bipush 24, 2) := by decide +kernel
theorem dX12_markOf_49 : decode cX12_markOf 49 = .ok (.invokevirtual 268, 3) := by decide +kernel
theorem dX12_markOf_52 : decode cX12_markOf 52 = .ok (.aload_n 0, 1) := by decide +kernel
theorem dX12_markOf_53 : decode cX12_markOf 53 = .ok (.bipush 21, 2) := by decide +kernel
theorem dX12_markOf_55 : decode cX12_markOf 55 = .ok (.invokevirtual 268, 3) := by decide +kernel
theorem dX12_markOf_58 : decode cX12_markOf 58 = .ok (.aload_n 0, 1) := by decide +kernel
theorem dX12_markOf_59 : decode cX12_markOf 59 = .ok (.bipush 20, 2) := by decide +kernel
theorem dX12_markOf_61 : decode cX12_markOf 61 = .ok (.invokevirtual 268, 3) := by decide +kernel
theorem dX12_markOf_64 : decode cX12_markOf 64 = .ok (.iload_n 1, 1) := by decide +kernel
theorem dX12_markOf_65 : decode cX12_markOf 65 = .ok (.aload_n 0, 1) := by decide +kernel
theorem dX12_markOf_66 : decode cX12_markOf 66 = .ok (.getfield 19, 3) := by decide +kernel
theorem dX12_markOf_69 : decode cX12_markOf 69 = .ok (.iconst 2, 1) := by decide +kernel
theorem dX12_markOf_70 : decode cX12_markOf 70 = .ok (.iaload, 1) := by decide +kernel
theorem dX12_markOf_71 : decode cX12_markOf 71 = .ok (.iadd, 1) := by decide +kernel
theorem dX12_markOf_72 : decode cX12_markOf 72 = .ok (.istore_n 3, 1) := by decide +kernel
theorem dX12_markOf_73 : decode cX12_markOf 73 = .ok (.iload_n 2, 1) := by decide +kernel
theorem dX12_markOf_74 : decode cX12_markOf 74 = .ok (.iconst 1, 1) := by decide +kernel
theorem dX12_markOf_75 : decode cX12_markOf 75 = .ok (.if_icmp .ne 7, 3) := by decide +kernel
theorem dX12_markOf_78 : decode cX12_markOf 78 = .ok (.iload_n 3, 1) := by decide +kernel
theorem dX12_markOf_79 : decode cX12_markOf 79 = .ok (.goto 19, 3) := by decide +kernel
theorem dX12_markOf_82 : decode cX12_markOf 82 = .ok (.iload_n 2, 1) := by decide +kernel
theorem dX12_markOf_83 : decode cX12_markOf 83 = .ok (.iconst 3, 1) := by decide +kernel
theorem dX12_markOf_84 : decode cX12_markOf 84 = .ok (.if_icmp .ne 11, 3) := by decide +kernel
theorem dX12_markOf_87 : decode cX12_markOf 87 = .ok (.iload_n 3, 1) := by decide +kernel
theorem dX12_markOf_88 : decode cX12_markOf 88 = .ok (.sipush 1000, 3) := by decide +kernel
theorem dX12_markOf_91 : decode cX12_markOf 91 = .ok (.isub, 1) := by decide +kernel
theorem dX12_markOf_92 : decode cX12_markOf 92 = .ok (.goto 6, 3) := by decide +kernel
theorem dX12_markOf_95 : decode cX12_markOf 95 = .ok (.iconst 2, 1) := by decide +kernel
theorem dX12_markOf_96 : decode cX12_markOf 96 = .ok (.iload_n 3, 1) := by decide +kernel
theorem dX12_markOf_97 : decode cX12_markOf 97 = .ok (.imul, 1) := by decide +kernel
theorem dX12_markOf_98 : decode cX12_markOf 98 = .ok (.ireturn, 1) := by decide +kernel
theorem dX12_sizeOf_0 : decode cX12_sizeOf 0 = .ok (.aload_n 0, 1) := by decide +kernel
theorem dX12_sizeOf_1 : decode cX12_sizeOf 1 = .ok (.iload_n 1, 1) := by decide +kernel
theorem dX12_sizeOf_2 : decode cX12_sizeOf 2 = .ok (.invokevirtual 167, 3) := by decide +kernel
theorem dX12_sizeOf_5 : decode cX12_sizeOf 5 = .ok (.istore_n 2, 1) := by decide +kernel
theorem dX12_sizeOf_6 : decode cX12_sizeOf 6 = .ok (.iload_n 2, 1) := by decide +kernel
theorem dX12_sizeOf_7 : decode cX12_sizeOf 7 = .ok (.iconst 4, 1) := by decide +kernel
theorem dX12_sizeOf_8 : decode cX12_sizeOf 8 = .ok (.if_icmp .lt 9, 3) := by decide +kernel
theorem dX12_sizeOf_11 : decode cX12_sizeOf 11 = .ok (.aload_n 0, 1) := by decide +kernel
theorem dX12_sizeOf_12 : decode cX12_sizeOf 12 = .ok (.iload_n 1, 1) := by decide +kernel
theorem dX12_sizeOf_13 : decode cX12_sizeOf 13 = .ok (.invokevirtual 274, 3) := by decide +kernel
theorem dX12_sizeOf_16 : decode cX12_sizeOf 16 = .ok (.ireturn, 1) := by decide +kernel
theorem dX12_sizeOf_17 : decode cX12_sizeOf 17 = .ok (.iload_n 2, 1) := by decide +kernel
theorem dX12_sizeOf_18 : decode cX12_sizeOf 18 = .ok (.iconst 2, 1) := by decide +kernel
theorem dX12_sizeOf_19 : decode cX12_sizeOf 19 = .ok (.if_icmp .ne 9, 3) := by decide +kernel
theorem dX12_sizeOf_22 : decode cX12_sizeOf 22 = .ok (.aload_n 0, 1) := by decide +kernel
theorem dX12_sizeOf_23 : decode cX12_sizeOf 23 = .ok (.bipush 12, 2) := by decide +kernel
theorem dX12_sizeOf_25 : decode cX12_sizeOf 25 = .ok (.invokevirtual 268, 3) := by decide +kernel
theorem dX12_sizeOf_28 : decode cX12_sizeOf 28 = .ok (.aload_n 0, 1) := by decide +kernel
theorem dX12_sizeOf_29 : decode cX12_sizeOf 29 = .ok (.bipush 11, 2) := by decide +kernel
theorem dX12_sizeOf_31 : decode cX12_sizeOf 31 = .ok (.invokevirtual 268, 3) := by decide +kernel
theorem dX12_sizeOf_34 : decode cX12_sizeOf 34 = .ok (.aload_n 0, 1) := by decide +kernel
theorem dX12_sizeOf_35 : decode cX12_sizeOf 35 = .ok (.iload_n 1, 1) := by decide +kernel
theorem dX12_sizeOf_36 : decode cX12_sizeOf 36 = .ok (.invokevirtual 271, 3) := by decide +kernel
theorem dX12_sizeOf_39 : decode cX12_sizeOf 39 = .ok (.istore_n 3, 1) := by decide +kernel
theorem dX12_sizeOf_40 : decode cX12_sizeOf 40 = .ok (.iload_n 3, 1) := by decide +kernel
theorem dX12_sizeOf_41 : decode cX12_sizeOf 41 = .ok (.aload_n 0, 1) := by decide +kernel
theorem dX12_sizeOf_42 : decode cX12_sizeOf 42 = .ok (.iload_n 1, 1) := by decide +kernel
theorem dX12_sizeOf_43 : decode cX12_sizeOf 43 = .ok (.invokevirtual 277, 3) := by decide +kernel
theorem dX12_sizeOf_46 : decode cX12_sizeOf 46 = .ok (.iadd, 1) := by decide +kernel
theorem dX12_sizeOf_47 : decode cX12_sizeOf 47 = .ok (.istore_n 3, 1) := by decide +kernel
theorem dX12_sizeOf_48 : decode cX12_sizeOf 48 = .ok (.iload_n 2, 1) := by decide +kernel
theorem dX12_sizeOf_49 : decode cX12_sizeOf 49 = .ok (.iconst 2, 1) := by decide +kernel
theorem dX12_sizeOf_50 : decode cX12_sizeOf 50 = .ok (.if_icmp .ne 8, 3) := by decide +kernel
theorem dX12_sizeOf_53 : decode cX12_sizeOf 53 = .ok (.iload_n 3, 1) := by decide +kernel
theorem dX12_sizeOf_54 : decode cX12_sizeOf 54 = .ok (.ineg, 1) := by decide +kernel
theorem dX12_sizeOf_55 : decode cX12_sizeOf 55 = .ok (.goto 4, 3) := by decide +kernel
theorem dX12_sizeOf_58 : decode cX12_sizeOf 58 = .ok (.iload_n 3, 1) := by decide +kernel
theorem dX12_sizeOf_59 : decode cX12_sizeOf 59 = .ok (.ireturn, 1) := by decide +kernel
theorem dX12_ask_0 : decode cX12_ask 0 = .ok (.aload_n 0, 1) := by decide +kernel
theorem dX12_ask_1 : decode cX12_ask 1 = .ok (.iconst 0, 1) := by decide +kernel
theorem dX12_ask_2 : decode cX12_ask 2 = .ok (.putfield 44, 3) := by decide +kernel
theorem dX12_ask_5 : decode cX12_ask 5 = .ok (.aload_n 0, 1) := by decide +kernel
theorem dX12_ask_6 : decode cX12_ask 6 = .ok (.iload_n 1, 1) := by decide +kernel
theorem dX12_ask_7 : decode cX12_ask 7 = .ok (.invokevirtual 189, 3) := by decide +kernel
theorem dX12_ask_10 : decode cX12_ask 10 = .ok (.ifCond .eq 13, 3) := by decide +kernel
theorem dX12_ask_13 : decode cX12_ask 13 = .ok (.iload_n 2, 1) := by decide +kernel
theorem dX12_ask_14 : decode cX12_ask 14 = .ok (.i2l, 1) := by decide +kernel
theorem dX12_ask_15 : decode cX12_ask 15 = .ok (.lconst 0, 1) := by decide +kernel
theorem dX12_ask_16 : decode cX12_ask 16 = .ok (.lconst 1, 1) := by decide +kernel
theorem dX12_ask_17 : decode cX12_ask 17 = .ok (.invokestatic 54, 3) := by decide +kernel
theorem dX12_ask_20 : decode cX12_ask 20 = .ok (.ifCond .ne 6, 3) := by decide +kernel
theorem dX12_ask_23 : decode cX12_ask 23 = .ok (.ldc 64, 2) := by decide +kernel
theorem dX12_ask_25 : decode cX12_ask 25 = .ok (.ireturn, 1) := by decide +kernel
theorem dX12_ask_26 : decode cX12_ask 26 = .ok (.aload_n 0, 1) := by decide +kernel
theorem dX12_ask_27 : decode cX12_ask 27 = .ok (.iconst 0, 1) := by decide +kernel
theorem dX12_ask_28 : decode cX12_ask 28 = .ok (.putfield 265, 3) := by decide +kernel
theorem dX12_ask_31 : decode cX12_ask 31 = .ok (.iload_n 2, 1) := by decide +kernel
theorem dX12_ask_32 : decode cX12_ask 32 = .ok (.ifCond .ne 11, 3) := by decide +kernel
theorem dX12_ask_35 : decode cX12_ask 35 = .ok (.aload_n 0, 1) := by decide +kernel
theorem dX12_ask_36 : decode cX12_ask 36 = .ok (.iload_n 1, 1) := by decide +kernel
theorem dX12_ask_37 : decode cX12_ask 37 = .ok (.invokevirtual 280, 3) := by decide +kernel
theorem dX12_ask_40 : decode cX12_ask 40 = .ok (.goto 8, 3) := by decide +kernel
theorem dX12_ask_43 : decode cX12_ask 43 = .ok (.aload_n 0, 1) := by decide +kernel
theorem dX12_ask_44 : decode cX12_ask 44 = .ok (.iload_n 1, 1) := by decide +kernel
theorem dX12_ask_45 : decode cX12_ask 45 = .ok (.invokevirtual 277, 3) := by decide +kernel
theorem dX12_ask_48 : decode cX12_ask 48 = .ok (.ireturn, 1) := by decide +kernel
theorem dX12_trace_0 : decode cX12_trace 0 = .ok (.aload_n 0, 1) := by decide +kernel
theorem dX12_trace_1 : decode cX12_trace 1 = .ok (.iconst 0, 1) := by decide +kernel
theorem dX12_trace_2 : decode cX12_trace 2 = .ok (.putfield 44, 3) := by decide +kernel
theorem dX12_trace_5 : decode cX12_trace 5 = .ok (.iload_n 1, 1) := by decide +kernel
theorem dX12_trace_6 : decode cX12_trace 6 = .ok (.i2l, 1) := by decide +kernel
theorem dX12_trace_7 : decode cX12_trace 7 = .ok (.lconst 0, 1) := by decide +kernel
theorem dX12_trace_8 : decode cX12_trace 8 = .ok (.aload_n 0, 1) := by decide +kernel
theorem dX12_trace_9 : decode cX12_trace 9 = .ok (.getfield 265, 3) := by decide +kernel
theorem dX12_trace_12 : decode cX12_trace 12 = .ok (.iconst 1, 1) := by decide +kernel
theorem dX12_trace_13 : decode cX12_trace 13 = .ok (.isub, 1) := by decide +kernel
theorem dX12_trace_14 : decode cX12_trace 14 = .ok (.i2l, 1) := by decide +kernel
theorem dX12_trace_15 : decode cX12_trace 15 = .ok (.invokestatic 54, 3) := by decide +kernel
theorem dX12_trace_18 : decode cX12_trace 18 = .ok (.ifCond .eq 12, 3) := by decide +kernel
theorem dX12_trace_21 : decode cX12_trace 21 = .ok (.aload_n 0, 1) := by decide +kernel
theorem dX12_trace_22 : decode cX12_trace 22 = .ok (.getfield 41, 3) := by decide +kernel
theorem dX12_trace_25 : decode cX12_trace 25 = .ok (.iload_n 1, 1) := by decide +kernel
theorem dX12_trace_26 : decode cX12_trace 26 = .ok (.iaload, 1) := by decide +kernel
theorem dX12_trace_27 : decode cX12_trace 27 = .ok (.goto 5, 3) := by decide +kernel
theorem dX12_trace_30 : decode cX12_trace 30 = .ok (.ldc 87, 2) := by decide +kernel
theorem dX12_trace_32 : decode cX12_trace 32 = .ok (.ireturn, 1) := by decide +kernel
theorem dX12_count_0 : decode cX12_count 0 = .ok (.aload_n 0, 1) := by decide +kernel
theorem dX12_count_1 : decode cX12_count 1 = .ok (.iconst 0, 1) := by decide +kernel
theorem dX12_count_2 : decode cX12_count 2 = .ok (.putfield 44, 3) := by decide +kernel
theorem dX12_count_5 : decode cX12_count 5 = .ok (.iconst 0, 1) := by decide +kernel
theorem dX12_count_6 : decode cX12_count 6 = .ok (.istore_n 2, 1) := by decide +kernel
theorem dX12_count_7 : decode cX12_count 7 = .ok (.iload_n 1, 1) := by decide +kernel
theorem dX12_count_8 : decode cX12_count 8 = .ok (.tableswitch 173 0 6 #[44, 77, 84, 91, 127, 163, 168], 44) := by decide +kernel
theorem dX12_count_52 : decode cX12_count 52 = .ok (.iconst 0, 1) := by decide +kernel
theorem dX12_count_53 : decode cX12_count 53 = .ok (.istore_n 3, 1) := by decide +kernel
theorem dX12_count_54 : decode cX12_count 54 = .ok (.iload_n 3, 1) := by decide +kernel
theorem dX12_count_55 : decode cX12_count 55 = .ok (.bipush 8, 2) := by decide +kernel
theorem dX12_count_57 : decode cX12_count 57 = .ok (.if_icmp .ge 26, 3) := by decide +kernel
theorem dX12_count_60 : decode cX12_count 60 = .ok (.iload_n 2, 1) := by decide +kernel
theorem dX12_count_61 : decode cX12_count 61 = .ok (.aload_n 0, 1) := by decide +kernel
theorem dX12_count_62 : decode cX12_count 62 = .ok (.getfield 7, 3) := by decide +kernel
theorem dX12_count_65 : decode cX12_count 65 = .ok (.iload_n 3, 1) := by decide +kernel
theorem dX12_count_66 : decode cX12_count 66 = .ok (.iaload, 1) := by decide +kernel
theorem dX12_count_67 : decode cX12_count 67 = .ok (.ifCond .lt 7, 3) := by decide +kernel
theorem dX12_count_70 : decode cX12_count 70 = .ok (.iconst 1, 1) := by decide +kernel
theorem dX12_count_71 : decode cX12_count 71 = .ok (.goto 4, 3) := by decide +kernel
theorem dX12_count_74 : decode cX12_count 74 = .ok (.iconst 0, 1) := by decide +kernel
theorem dX12_count_75 : decode cX12_count 75 = .ok (.iadd, 1) := by decide +kernel
theorem dX12_count_76 : decode cX12_count 76 = .ok (.istore_n 2, 1) := by decide +kernel
theorem dX12_count_77 : decode cX12_count 77 = .ok (.iinc 3 1, 3) := by decide +kernel
theorem dX12_count_80 : decode cX12_count 80 = .ok (.goto (-26), 3) := by decide +kernel
theorem dX12_count_83 : decode cX12_count 83 = .ok (.iload_n 2, 1) := by decide +kernel
theorem dX12_count_84 : decode cX12_count 84 = .ok (.ireturn, 1) := by decide +kernel
theorem dX12_count_85 : decode cX12_count 85 = .ok (.aload_n 0, 1) := by decide +kernel
theorem dX12_count_86 : decode cX12_count 86 = .ok (.getfield 19, 3) := by decide +kernel
theorem dX12_count_89 : decode cX12_count 89 = .ok (.iconst 5, 1) := by decide +kernel
theorem dX12_count_90 : decode cX12_count 90 = .ok (.iaload, 1) := by decide +kernel
theorem dX12_count_91 : decode cX12_count 91 = .ok (.ireturn, 1) := by decide +kernel
theorem dX12_count_92 : decode cX12_count 92 = .ok (.aload_n 0, 1) := by decide +kernel
theorem dX12_count_93 : decode cX12_count 93 = .ok (.getfield 19, 3) := by decide +kernel
theorem dX12_count_96 : decode cX12_count 96 = .ok (.iconst 1, 1) := by decide +kernel
theorem dX12_count_97 : decode cX12_count 97 = .ok (.iaload, 1) := by decide +kernel
theorem dX12_count_98 : decode cX12_count 98 = .ok (.ireturn, 1) := by decide +kernel
theorem dX12_count_99 : decode cX12_count 99 = .ok (.iconst 0, 1) := by decide +kernel
theorem dX12_count_100 : decode cX12_count 100 = .ok (.istore_n 3, 1) := by decide +kernel
theorem dX12_count_101 : decode cX12_count 101 = .ok (.iload_n 3, 1) := by decide +kernel
theorem dX12_count_102 : decode cX12_count 102 = .ok (.bipush 15, 2) := by decide +kernel
theorem dX12_count_104 : decode cX12_count 104 = .ok (.if_icmp .ge 29, 3) := by decide +kernel
theorem dX12_count_107 : decode cX12_count 107 = .ok (.iload_n 2, 1) := by decide +kernel
theorem dX12_count_108 : decode cX12_count 108 = .ok (.aload_n 0, 1) := by decide +kernel
theorem dX12_count_109 : decode cX12_count 109 = .ok (.getfield 19, 3) := by decide +kernel
theorem dX12_count_112 : decode cX12_count 112 = .ok (.bipush 6, 2) := by decide +kernel
theorem dX12_count_114 : decode cX12_count 114 = .ok (.iload_n 3, 1) := by decide +kernel
theorem dX12_count_115 : decode cX12_count 115 = .ok (.iadd, 1) := by decide +kernel
theorem dX12_count_116 : decode cX12_count 116 = .ok (.iaload, 1) := by decide +kernel
theorem dX12_count_117 : decode cX12_count 117 = .ok (.ifCond .le 7, 3) := by decide +kernel
theorem dX12_count_120 : decode cX12_count 120 = .ok (.iconst 1, 1) := by decide +kernel
theorem dX12_count_121 : decode cX12_count 121 = .ok (.goto 4, 3) := by decide +kernel
theorem dX12_count_124 : decode cX12_count 124 = .ok (.iconst 0, 1) := by decide +kernel
theorem dX12_count_125 : decode cX12_count 125 = .ok (.iadd, 1) := by decide +kernel
theorem dX12_count_126 : decode cX12_count 126 = .ok (.istore_n 2, 1) := by decide +kernel
theorem dX12_count_127 : decode cX12_count 127 = .ok (.iinc 3 1, 3) := by decide +kernel
theorem dX12_count_130 : decode cX12_count 130 = .ok (.goto (-29), 3) := by decide +kernel
theorem dX12_count_133 : decode cX12_count 133 = .ok (.iload_n 2, 1) := by decide +kernel
theorem dX12_count_134 : decode cX12_count 134 = .ok (.ireturn, 1) := by decide +kernel
theorem dX12_count_135 : decode cX12_count 135 = .ok (.iconst 0, 1) := by decide +kernel
theorem dX12_count_136 : decode cX12_count 136 = .ok (.istore_n 3, 1) := by decide +kernel
theorem dX12_count_137 : decode cX12_count 137 = .ok (.iload_n 3, 1) := by decide +kernel
theorem dX12_count_138 : decode cX12_count 138 = .ok (.bipush 15, 2) := by decide +kernel
theorem dX12_count_140 : decode cX12_count 140 = .ok (.if_icmp .ge 29, 3) := by decide +kernel
theorem dX12_count_143 : decode cX12_count 143 = .ok (.iload_n 2, 1) := by decide +kernel
theorem dX12_count_144 : decode cX12_count 144 = .ok (.aload_n 0, 1) := by decide +kernel
theorem dX12_count_145 : decode cX12_count 145 = .ok (.getfield 19, 3) := by decide +kernel
theorem dX12_count_148 : decode cX12_count 148 = .ok (.bipush 21, 2) := by decide +kernel
theorem dX12_count_150 : decode cX12_count 150 = .ok (.iload_n 3, 1) := by decide +kernel
theorem dX12_count_151 : decode cX12_count 151 = .ok (.iadd, 1) := by decide +kernel
theorem dX12_count_152 : decode cX12_count 152 = .ok (.iaload, 1) := by decide +kernel
theorem dX12_count_153 : decode cX12_count 153 = .ok (.ifCond .le 7, 3) := by decide +kernel
theorem dX12_count_156 : decode cX12_count 156 = .ok (.iconst 1, 1) := by decide +kernel
theorem dX12_count_157 : decode cX12_count 157 = .ok (.goto 4, 3) := by decide +kernel
theorem dX12_count_160 : decode cX12_count 160 = .ok (.iconst 0, 1) := by decide +kernel
theorem dX12_count_161 : decode cX12_count 161 = .ok (.iadd, 1) := by decide +kernel
theorem dX12_count_162 : decode cX12_count 162 = .ok (.istore_n 2, 1) := by decide +kernel
theorem dX12_count_163 : decode cX12_count 163 = .ok (.iinc 3 1, 3) := by decide +kernel
theorem dX12_count_166 : decode cX12_count 166 = .ok (.goto (-29), 3) := by decide +kernel
theorem dX12_count_169 : decode cX12_count 169 = .ok (.iload_n 2, 1) := by decide +kernel
theorem dX12_count_170 : decode cX12_count 170 = .ok (.ireturn, 1) := by decide +kernel
theorem dX12_count_171 : decode cX12_count 171 = .ok (.aload_n 0, 1) := by decide +kernel
theorem dX12_count_172 : decode cX12_count 172 = .ok (.getfield 150, 3) := by decide +kernel
theorem dX12_count_175 : decode cX12_count 175 = .ok (.ireturn, 1) := by decide +kernel
theorem dX12_count_176 : decode cX12_count 176 = .ok (.aload_n 0, 1) := by decide +kernel
theorem dX12_count_177 : decode cX12_count 177 = .ok (.getfield 71, 3) := by decide +kernel
theorem dX12_count_180 : decode cX12_count 180 = .ok (.ireturn, 1) := by decide +kernel
theorem dX12_count_181 : decode cX12_count 181 = .ok (.ldc 64, 2) := by decide +kernel
theorem dX12_count_183 : decode cX12_count 183 = .ok (.ireturn, 1) := by decide +kernel
theorem dX12_status_0 : decode cX12_status 0 = .ok (.aload_n 0, 1) := by decide +kernel
theorem dX12_status_1 : decode cX12_status 1 = .ok (.iconst 0, 1) := by decide +kernel
theorem dX12_status_2 : decode cX12_status 2 = .ok (.putfield 44, 3) := by decide +kernel
theorem dX12_status_5 : decode cX12_status 5 = .ok (.aload_n 0, 1) := by decide +kernel
theorem dX12_status_6 : decode cX12_status 6 = .ok (.getfield 48, 3) := by decide +kernel
theorem dX12_status_9 : decode cX12_status 9 = .ok (.ireturn, 1) := by decide +kernel
