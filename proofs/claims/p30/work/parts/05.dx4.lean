theorem dX4_init_0 : decode cX4_init 0 = .ok (.aload_n 0, 1) := by decide +kernel
theorem dX4_init_1 : decode cX4_init 1 = .ok (.invokespecial 3, 3) := by decide +kernel
theorem dX4_init_4 : decode cX4_init 4 = .ok (.aload_n 0, 1) := by decide +kernel
theorem dX4_init_5 : decode cX4_init 5 = .ok (.new 9, 3) := by decide +kernel
theorem dX4_init_8 : decode cX4_init 8 = .ok (.dup, 1) := by decide +kernel
theorem dX4_init_9 : decode cX4_init 9 = .ok (.invokespecial 11, 3) := by decide +kernel
theorem dX4_init_12 : decode cX4_init 12 = .ok (.putfield 12, 3) := by decide +kernel
theorem dX4_init_15 : decode cX4_init 15 = .ok (.aload_n 0, 1) := by decide +kernel
theorem dX4_init_16 : decode cX4_init 16 = .ok (.iconst 2, 1) := by decide +kernel
theorem dX4_init_17 : decode cX4_init 17 = .ok (.anewarray 9, 3) := by decide +kernel
theorem dX4_init_20 : decode cX4_init 20 = .ok (.putfield 16, 3) := by decide +kernel
theorem dX4_init_23 : decode cX4_init 23 = .ok (.iconst 0, 1) := by decide +kernel
theorem dX4_init_24 : decode cX4_init 24 = .ok (.istore_n 1, 1) := by decide +kernel
theorem dX4_init_25 : decode cX4_init 25 = .ok (.iload_n 1, 1) := by decide +kernel
theorem dX4_init_26 : decode cX4_init 26 = .ok (.iconst 2, 1) := by decide +kernel
theorem dX4_init_27 : decode cX4_init 27 = .ok (.if_icmp .ge 22, 3) := by decide +kernel
theorem dX4_init_30 : decode cX4_init 30 = .ok (.aload_n 0, 1) := by decide +kernel
theorem dX4_init_31 : decode cX4_init 31 = .ok (.getfield 16, 3) := by decide +kernel
theorem dX4_init_34 : decode cX4_init 34 = .ok (.iload_n 1, 1) := by decide +kernel
theorem dX4_init_35 : decode cX4_init 35 = .ok (.new 9, 3) := by decide +kernel
theorem dX4_init_38 : decode cX4_init 38 = .ok (.dup, 1) := by decide +kernel
theorem dX4_init_39 : decode cX4_init 39 = .ok (.invokespecial 11, 3) := by decide +kernel
theorem dX4_init_42 : decode cX4_init 42 = .ok (.aastore, 1) := by decide +kernel
theorem dX4_init_43 : decode cX4_init 43 = .ok (.iinc 1 1, 3) := by decide +kernel
theorem dX4_init_46 : decode cX4_init 46 = .ok (.goto (-21), 3) := by decide +kernel
theorem dX4_init_49 : decode cX4_init 49 = .ok (.aload_n 0, 1) := by decide +kernel
theorem dX4_init_50 : decode cX4_init 50 = .ok (.iconst 2, 1) := by decide +kernel
theorem dX4_init_51 : decode cX4_init 51 = .ok (.newarray .boolean, 2) := by decide +kernel
theorem dX4_init_53 : decode cX4_init 53 = .ok (.putfield 20, 3) := by decide +kernel
theorem dX4_init_56 : decode cX4_init 56 = .ok (.aload_n 0, 1) := by decide +kernel
theorem dX4_init_57 : decode cX4_init 57 = .ok (.bipush 6, 2) := by decide +kernel
theorem dX4_init_59 : decode cX4_init 59 = .ok (.anewarray 9, 3) := by decide +kernel
theorem dX4_init_62 : decode cX4_init 62 = .ok (.putfield 24, 3) := by decide +kernel
theorem dX4_init_65 : decode cX4_init 65 = .ok (.iconst 0, 1) := by decide +kernel
theorem dX4_init_66 : decode cX4_init 66 = .ok (.istore_n 1, 1) := by decide +kernel
theorem dX4_init_67 : decode cX4_init 67 = .ok (.iload_n 1, 1) := by decide +kernel
theorem dX4_init_68 : decode cX4_init 68 = .ok (.bipush 6, 2) := by decide +kernel
theorem dX4_init_70 : decode cX4_init 70 = .ok (.if_icmp .ge 22, 3) := by decide +kernel
theorem dX4_init_73 : decode cX4_init 73 = .ok (.aload_n 0, 1) := by decide +kernel
theorem dX4_init_74 : decode cX4_init 74 = .ok (.getfield 24, 3) := by decide +kernel
theorem dX4_init_77 : decode cX4_init 77 = .ok (.iload_n 1, 1) := by decide +kernel
theorem dX4_init_78 : decode cX4_init 78 = .ok (.new 9, 3) := by decide +kernel
theorem dX4_init_81 : decode cX4_init 81 = .ok (.dup, 1) := by decide +kernel
theorem dX4_init_82 : decode cX4_init 82 = .ok (.invokespecial 11, 3) := by decide +kernel
theorem dX4_init_85 : decode cX4_init 85 = .ok (.aastore, 1) := by decide +kernel
theorem dX4_init_86 : decode cX4_init 86 = .ok (.iinc 1 1, 3) := by decide +kernel
theorem dX4_init_89 : decode cX4_init 89 = .ok (.goto (-22), 3) := by decide +kernel
theorem dX4_init_92 : decode cX4_init 92 = .ok (.aload_n 0, 1) := by decide +kernel
theorem dX4_init_93 : decode cX4_init 93 = .ok (.new 27, 3) := by decide +kernel
theorem dX4_init_96 : decode cX4_init 96 = .ok (.dup, 1) := by decide +kernel
theorem dX4_init_97 : decode cX4_init 97 = .ok (.invokespecial 29, 3) := by decide +kernel
theorem dX4_init_100 : decode cX4_init 100 = .ok (.putfield 30, 3) := by decide +kernel
theorem dX4_init_103 : decode cX4_init 103 = .ok (.aload_n 0, 1) := by decide +kernel
theorem dX4_init_104 : decode cX4_init 104 = .ok (.bipush 25, 2) := by decide +kernel
theorem dX4_init_106 : decode cX4_init 106 = .ok (.newarray .int, 2) := by decide +kernel
theorem dX4_init_108 : decode cX4_init 108 = .ok (.putfield 34, 3) := by decide +kernel
theorem dX4_init_111 : decode cX4_init 111 = .ok (.aload_n 0, 1) := by decide +kernel
theorem dX4_init_112 : decode cX4_init 112 = .ok (.new 38, 3) := by decide +kernel
theorem dX4_init_115 : decode cX4_init 115 = .ok (.dup, 1) := by decide +kernel
theorem dX4_init_116 : decode cX4_init 116 = .ok (.invokespecial 40, 3) := by decide +kernel
theorem dX4_init_119 : decode cX4_init 119 = .ok (.putfield 41, 3) := by decide +kernel
theorem dX4_init_122 : decode cX4_init 122 = .ok (.aload_n 0, 1) := by decide +kernel
theorem dX4_init_123 : decode cX4_init 123 = .ok (.new 45, 3) := by decide +kernel
theorem dX4_init_126 : decode cX4_init 126 = .ok (.dup, 1) := by decide +kernel
theorem dX4_init_127 : decode cX4_init 127 = .ok (.invokespecial 47, 3) := by decide +kernel
theorem dX4_init_130 : decode cX4_init 130 = .ok (.putfield 48, 3) := by decide +kernel
theorem dX4_init_133 : decode cX4_init 133 = .ok (.return_, 1) := by decide +kernel
theorem dX4_point_0 : decode cX4_point 0 = .ok (.iload_n 1, 1) := by decide +kernel
theorem dX4_point_1 : decode cX4_point 1 = .ok (.invokestatic 52, 3) := by decide +kernel
theorem dX4_point_4 : decode cX4_point 4 = .ok (.ifCond .eq 11, 3) := by decide +kernel
theorem dX4_point_7 : decode cX4_point 7 = .ok (.iload_n 2, 1) := by decide +kernel
theorem dX4_point_8 : decode cX4_point 8 = .ok (.iload_n 3, 1) := by decide +kernel
theorem dX4_point_9 : decode cX4_point 9 = .ok (.invokestatic 56, 3) := by decide +kernel
theorem dX4_point_12 : decode cX4_point 12 = .ok (.ifCond .ne 13, 3) := by decide +kernel
theorem dX4_point_15 : decode cX4_point 15 = .ok (.new 60, 3) := by decide +kernel
theorem dX4_point_18 : decode cX4_point 18 = .ok (.dup, 1) := by decide +kernel
theorem dX4_point_19 : decode cX4_point 19 = .ok (.ldc 62, 2) := by decide +kernel
theorem dX4_point_21 : decode cX4_point 21 = .ok (.invokespecial 64, 3) := by decide +kernel
theorem dX4_point_24 : decode cX4_point 24 = .ok (.athrow, 1) := by decide +kernel
theorem dX4_point_25 : decode cX4_point 25 = .ok (.iload 4, 2) := by decide +kernel
theorem dX4_point_27 : decode cX4_point 27 = .ok (.ifCond .lt 10, 3) := by decide +kernel
theorem dX4_point_30 : decode cX4_point 30 = .ok (.iload 4, 2) := by decide +kernel
theorem dX4_point_32 : decode cX4_point 32 = .ok (.bipush 9, 2) := by decide +kernel
theorem dX4_point_34 : decode cX4_point 34 = .ok (.if_icmp .le 13, 3) := by decide +kernel
theorem dX4_point_37 : decode cX4_point 37 = .ok (.new 67, 3) := by decide +kernel
theorem dX4_point_40 : decode cX4_point 40 = .ok (.dup, 1) := by decide +kernel
theorem dX4_point_41 : decode cX4_point 41 = .ok (.ldc 69, 2) := by decide +kernel
theorem dX4_point_43 : decode cX4_point 43 = .ok (.invokespecial 71, 3) := by decide +kernel
theorem dX4_point_46 : decode cX4_point 46 = .ok (.athrow, 1) := by decide +kernel
theorem dX4_point_47 : decode cX4_point 47 = .ok (.aload_n 0, 1) := by decide +kernel
theorem dX4_point_48 : decode cX4_point 48 = .ok (.invokevirtual 72, 3) := by decide +kernel
theorem dX4_point_51 : decode cX4_point 51 = .ok (.iload_n 1, 1) := by decide +kernel
theorem dX4_point_52 : decode cX4_point 52 = .ok (.iload_n 2, 1) := by decide +kernel
theorem dX4_point_53 : decode cX4_point 53 = .ok (.iload_n 3, 1) := by decide +kernel
theorem dX4_point_54 : decode cX4_point 54 = .ok (.invokestatic 75, 3) := by decide +kernel
theorem dX4_point_57 : decode cX4_point 57 = .ok (.istore 5, 2) := by decide +kernel
theorem dX4_point_59 : decode cX4_point 59 = .ok (.aload_n 0, 1) := by decide +kernel
theorem dX4_point_60 : decode cX4_point 60 = .ok (.getfield 12, 3) := by decide +kernel
theorem dX4_point_63 : decode cX4_point 63 = .ok (.getfield 79, 3) := by decide +kernel
theorem dX4_point_66 : decode cX4_point 66 = .ok (.iload 5, 2) := by decide +kernel
theorem dX4_point_68 : decode cX4_point 68 = .ok (.iaload, 1) := by decide +kernel
theorem dX4_point_69 : decode cX4_point 69 = .ok (.istore 6, 2) := by decide +kernel
theorem dX4_point_71 : decode cX4_point 71 = .ok (.aload_n 0, 1) := by decide +kernel
theorem dX4_point_72 : decode cX4_point 72 = .ok (.getfield 12, 3) := by decide +kernel
theorem dX4_point_75 : decode cX4_point 75 = .ok (.getfield 79, 3) := by decide +kernel
theorem dX4_point_78 : decode cX4_point 78 = .ok (.iload 5, 2) := by decide +kernel
theorem dX4_point_80 : decode cX4_point 80 = .ok (.iload 4, 2) := by decide +kernel
theorem dX4_point_82 : decode cX4_point 82 = .ok (.iastore, 1) := by decide +kernel
theorem dX4_point_83 : decode cX4_point 83 = .ok (.iload 6, 2) := by decide +kernel
theorem dX4_point_85 : decode cX4_point 85 = .ok (.ireturn, 1) := by decide +kernel
theorem dX4_cast_0 : decode cX4_cast 0 = .ok (.iload_n 1, 1) := by decide +kernel
theorem dX4_cast_1 : decode cX4_cast 1 = .ok (.invokestatic 52, 3) := by decide +kernel
theorem dX4_cast_4 : decode cX4_cast 4 = .ok (.ifCond .eq 14, 3) := by decide +kernel
theorem dX4_cast_7 : decode cX4_cast 7 = .ok (.iload_n 2, 1) := by decide +kernel
theorem dX4_cast_8 : decode cX4_cast 8 = .ok (.i2l, 1) := by decide +kernel
theorem dX4_cast_9 : decode cX4_cast 9 = .ok (.iload_n 3, 1) := by decide +kernel
theorem dX4_cast_10 : decode cX4_cast 10 = .ok (.i2l, 1) := by decide +kernel
theorem dX4_cast_11 : decode cX4_cast 11 = .ok (.invokestatic 82, 3) := by decide +kernel
theorem dX4_cast_14 : decode cX4_cast 14 = .ok (.iconst (-1), 1) := by decide +kernel
theorem dX4_cast_15 : decode cX4_cast 15 = .ok (.if_icmp .ne 13, 3) := by decide +kernel
theorem dX4_cast_18 : decode cX4_cast 18 = .ok (.new 60, 3) := by decide +kernel
theorem dX4_cast_21 : decode cX4_cast 21 = .ok (.dup, 1) := by decide +kernel
theorem dX4_cast_22 : decode cX4_cast 22 = .ok (.ldc 86, 2) := by decide +kernel
theorem dX4_cast_24 : decode cX4_cast 24 = .ok (.invokespecial 64, 3) := by decide +kernel
theorem dX4_cast_27 : decode cX4_cast 27 = .ok (.athrow, 1) := by decide +kernel
theorem dX4_cast_28 : decode cX4_cast 28 = .ok (.aload_n 0, 1) := by decide +kernel
theorem dX4_cast_29 : decode cX4_cast 29 = .ok (.invokevirtual 72, 3) := by decide +kernel
theorem dX4_cast_32 : decode cX4_cast 32 = .ok (.iconst 0, 1) := by decide +kernel
theorem dX4_cast_33 : decode cX4_cast 33 = .ok (.istore 4, 2) := by decide +kernel
theorem dX4_cast_35 : decode cX4_cast 35 = .ok (.iload 4, 2) := by decide +kernel
theorem dX4_cast_37 : decode cX4_cast 37 = .ok (.iconst 5, 1) := by decide +kernel
theorem dX4_cast_38 : decode cX4_cast 38 = .ok (.if_icmp .ge 67, 3) := by decide +kernel
theorem dX4_cast_41 : decode cX4_cast 41 = .ok (.iconst 0, 1) := by decide +kernel
theorem dX4_cast_42 : decode cX4_cast 42 = .ok (.istore 5, 2) := by decide +kernel
theorem dX4_cast_44 : decode cX4_cast 44 = .ok (.iload 5, 2) := by decide +kernel
theorem dX4_cast_46 : decode cX4_cast 46 = .ok (.iconst 5, 1) := by decide +kernel
theorem dX4_cast_47 : decode cX4_cast 47 = .ok (.if_icmp .ge 52, 3) := by decide +kernel
theorem dX4_cast_50 : decode cX4_cast 50 = .ok (.aload_n 0, 1) := by decide +kernel
theorem dX4_cast_51 : decode cX4_cast 51 = .ok (.getfield 12, 3) := by decide +kernel
theorem dX4_cast_54 : decode cX4_cast 54 = .ok (.getfield 88, 3) := by decide +kernel
theorem dX4_cast_57 : decode cX4_cast 57 = .ok (.iload_n 2, 1) := by decide +kernel
theorem dX4_cast_58 : decode cX4_cast 58 = .ok (.iload 5, 2) := by decide +kernel
theorem dX4_cast_60 : decode cX4_cast 60 = .ok (.iadd, 1) := by decide +kernel
theorem dX4_cast_61 : decode cX4_cast 61 = .ok (.iload_n 3, 1) := by decide +kernel
theorem dX4_cast_62 : decode cX4_cast 62 = .ok (.iload 4, 2) := by decide +kernel
theorem dX4_cast_64 : decode cX4_cast 64 = .ok (.iadd, 1) := by decide +kernel
theorem dX4_cast_65 : decode cX4_cast 65 = .ok (.invokevirtual 91, 3) := by decide +kernel
theorem dX4_cast_68 : decode cX4_cast 68 = .ok (.istore 6, 2) := by decide +kernel
theorem dX4_cast_70 : decode cX4_cast 70 = .ok (.aload_n 0, 1) := by decide +kernel
theorem dX4_cast_71 : decode cX4_cast 71 = .ok (.getfield 12, 3) := by decide +kernel
theorem dX4_cast_74 : decode cX4_cast 74 = .ok (.getfield 79, 3) := by decide +kernel
theorem dX4_cast_77 : decode cX4_cast 77 = .ok (.iload_n 1, 1) := by decide +kernel
theorem dX4_cast_78 : decode cX4_cast 78 = .ok (.iload 5, 2) := by decide +kernel
theorem dX4_cast_80 : decode cX4_cast 80 = .ok (.iload 4, 2) := by decide +kernel
theorem dX4_cast_82 : decode cX4_cast 82 = .ok (.invokestatic 75, 3) := by decide +kernel
theorem dX4_cast_85 : decode cX4_cast 85 = .ok (.iload 6, 2) := by decide +kernel
theorem dX4_cast_87 : decode cX4_cast 87 = .ok (.bipush 9, 2) := by decide +kernel
theorem dX4_cast_89 : decode cX4_cast 89 = .ok (.invokestatic 95, 3) := by decide +kernel
theorem dX4_cast_92 : decode cX4_cast 92 = .ok (.iastore, 1) := by decide +kernel
theorem dX4_cast_93 : decode cX4_cast 93 = .ok (.iinc 5 1, 3) := by decide +kernel
theorem dX4_cast_96 : decode cX4_cast 96 = .ok (.goto (-52), 3) := by decide +kernel
theorem dX4_cast_99 : decode cX4_cast 99 = .ok (.iinc 4 1, 3) := by decide +kernel
theorem dX4_cast_102 : decode cX4_cast 102 = .ok (.goto (-67), 3) := by decide +kernel
theorem dX4_cast_105 : decode cX4_cast 105 = .ok (.aload_n 0, 1) := by decide +kernel
theorem dX4_cast_106 : decode cX4_cast 106 = .ok (.getfield 12, 3) := by decide +kernel
theorem dX4_cast_109 : decode cX4_cast 109 = .ok (.iload_n 1, 1) := by decide +kernel
theorem dX4_cast_110 : decode cX4_cast 110 = .ok (.invokevirtual 100, 3) := by decide +kernel
theorem dX4_cast_113 : decode cX4_cast 113 = .ok (.ireturn, 1) := by decide +kernel
theorem dX4_sheet_0 : decode cX4_sheet 0 = .ok (.aload_n 0, 1) := by decide +kernel
theorem dX4_sheet_1 : decode cX4_sheet 1 = .ok (.invokevirtual 72, 3) := by decide +kernel
theorem dX4_sheet_4 : decode cX4_sheet 4 = .ok (.aload_n 0, 1) := by decide +kernel
theorem dX4_sheet_5 : decode cX4_sheet 5 = .ok (.getfield 12, 3) := by decide +kernel
theorem dX4_sheet_8 : decode cX4_sheet 8 = .ok (.getfield 88, 3) := by decide +kernel
theorem dX4_sheet_11 : decode cX4_sheet 11 = .ok (.invokevirtual 104, 3) := by decide +kernel
theorem dX4_sheet_14 : decode cX4_sheet 14 = .ok (.istore_n 1, 1) := by decide +kernel
theorem dX4_sheet_15 : decode cX4_sheet 15 = .ok (.aload_n 0, 1) := by decide +kernel
theorem dX4_sheet_16 : decode cX4_sheet 16 = .ok (.getfield 12, 3) := by decide +kernel
theorem dX4_sheet_19 : decode cX4_sheet 19 = .ok (.getfield 88, 3) := by decide +kernel
theorem dX4_sheet_22 : decode cX4_sheet 22 = .ok (.invokevirtual 108, 3) := by decide +kernel
theorem dX4_sheet_25 : decode cX4_sheet 25 = .ok (.aload_n 0, 1) := by decide +kernel
theorem dX4_sheet_26 : decode cX4_sheet 26 = .ok (.getfield 12, 3) := by decide +kernel
theorem dX4_sheet_29 : decode cX4_sheet 29 = .ok (.invokevirtual 111, 3) := by decide +kernel
theorem dX4_sheet_32 : decode cX4_sheet 32 = .ok (.aload_n 0, 1) := by decide +kernel
theorem dX4_sheet_33 : decode cX4_sheet 33 = .ok (.getfield 12, 3) := by decide +kernel
theorem dX4_sheet_36 : decode cX4_sheet 36 = .ok (.iconst 0, 1) := by decide +kernel
theorem dX4_sheet_37 : decode cX4_sheet 37 = .ok (.putfield 114, 3) := by decide +kernel
theorem dX4_sheet_40 : decode cX4_sheet 40 = .ok (.aload_n 0, 1) := by decide +kernel
theorem dX4_sheet_41 : decode cX4_sheet 41 = .ok (.getfield 12, 3) := by decide +kernel
theorem dX4_sheet_44 : decode cX4_sheet 44 = .ok (.dup, 1) := by decide +kernel
theorem dX4_sheet_45 : decode cX4_sheet 45 = .ok (.getfield 118, 3) := by decide +kernel
theorem dX4_sheet_48 : decode cX4_sheet 48 = .ok (.iconst 1, 1) := by decide +kernel
theorem dX4_sheet_49 : decode cX4_sheet 49 = .ok (.iadd, 1) := by decide +kernel
theorem dX4_sheet_50 : decode cX4_sheet 50 = .ok (.putfield 118, 3) := by decide +kernel
theorem dX4_sheet_53 : decode cX4_sheet 53 = .ok (.iload_n 1, 1) := by decide +kernel
theorem dX4_sheet_54 : decode cX4_sheet 54 = .ok (.ireturn, 1) := by decide +kernel
theorem dX4_pin_0 : decode cX4_pin 0 = .ok (.aload_n 0, 1) := by decide +kernel
theorem dX4_pin_1 : decode cX4_pin 1 = .ok (.invokevirtual 72, 3) := by decide +kernel
theorem dX4_pin_4 : decode cX4_pin 4 = .ok (.aload_n 0, 1) := by decide +kernel
theorem dX4_pin_5 : decode cX4_pin 5 = .ok (.getfield 12, 3) := by decide +kernel
theorem dX4_pin_8 : decode cX4_pin 8 = .ok (.getfield 121, 3) := by decide +kernel
theorem dX4_pin_11 : decode cX4_pin 11 = .ok (.istore_n 1, 1) := by decide +kernel
theorem dX4_pin_12 : decode cX4_pin 12 = .ok (.aload_n 0, 1) := by decide +kernel
theorem dX4_pin_13 : decode cX4_pin 13 = .ok (.getfield 12, 3) := by decide +kernel
theorem dX4_pin_16 : decode cX4_pin 16 = .ok (.invokevirtual 111, 3) := by decide +kernel
theorem dX4_pin_19 : decode cX4_pin 19 = .ok (.iload_n 1, 1) := by decide +kernel
theorem dX4_pin_20 : decode cX4_pin 20 = .ok (.ireturn, 1) := by decide +kernel
theorem dX4_foil_0 : decode cX4_foil 0 = .ok (.iload_n 2, 1) := by decide +kernel
theorem dX4_foil_1 : decode cX4_foil 1 = .ok (.i2l, 1) := by decide +kernel
theorem dX4_foil_2 : decode cX4_foil 2 = .ok (.iload_n 3, 1) := by decide +kernel
theorem dX4_foil_3 : decode cX4_foil 3 = .ok (.i2l, 1) := by decide +kernel
theorem dX4_foil_4 : decode cX4_foil 4 = .ok (.invokestatic 82, 3) := by decide +kernel
theorem dX4_foil_7 : decode cX4_foil 7 = .ok (.iconst (-1), 1) := by decide +kernel
theorem dX4_foil_8 : decode cX4_foil 8 = .ok (.if_icmp .eq 16, 3) := by decide +kernel
theorem dX4_foil_11 : decode cX4_foil 11 = .ok (.iload 4, 2) := by decide +kernel
theorem dX4_foil_13 : decode cX4_foil 13 = .ok (.i2l, 1) := by decide +kernel
theorem dX4_foil_14 : decode cX4_foil 14 = .ok (.iload 5, 2) := by decide +kernel
theorem dX4_foil_16 : decode cX4_foil 16 = .ok (.i2l, 1) := by decide +kernel
theorem dX4_foil_17 : decode cX4_foil 17 = .ok (.invokestatic 82, 3) := by decide +kernel
theorem dX4_foil_20 : decode cX4_foil 20 = .ok (.iconst (-1), 1) := by decide +kernel
theorem dX4_foil_21 : decode cX4_foil 21 = .ok (.if_icmp .ne 13, 3) := by decide +kernel
theorem dX4_foil_24 : decode cX4_foil 24 = .ok (.new 60, 3) := by decide +kernel
theorem dX4_foil_27 : decode cX4_foil 27 = .ok (.dup, 1) := by decide +kernel
theorem dX4_foil_28 : decode cX4_foil 28 = .ok (.ldc 124, 2) := by decide +kernel
theorem dX4_foil_30 : decode cX4_foil 30 = .ok (.invokespecial 64, 3) := by decide +kernel
theorem dX4_foil_33 : decode cX4_foil 33 = .ok (.athrow, 1) := by decide +kernel
theorem dX4_foil_34 : decode cX4_foil 34 = .ok (.iload_n 1, 1) := by decide +kernel
theorem dX4_foil_35 : decode cX4_foil 35 = .ok (.iconst 1, 1) := by decide +kernel
theorem dX4_foil_36 : decode cX4_foil 36 = .ok (.if_icmp .lt 21, 3) := by decide +kernel
theorem dX4_foil_39 : decode cX4_foil 39 = .ok (.iload_n 1, 1) := by decide +kernel
theorem dX4_foil_40 : decode cX4_foil 40 = .ok (.bipush 9, 2) := by decide +kernel
theorem dX4_foil_42 : decode cX4_foil 42 = .ok (.if_icmp .gt 15, 3) := by decide +kernel
theorem dX4_foil_45 : decode cX4_foil 45 = .ok (.iload 4, 2) := by decide +kernel
theorem dX4_foil_47 : decode cX4_foil 47 = .ok (.iload_n 2, 1) := by decide +kernel
theorem dX4_foil_48 : decode cX4_foil 48 = .ok (.if_icmp .lt 9, 3) := by decide +kernel
theorem dX4_foil_51 : decode cX4_foil 51 = .ok (.iload 5, 2) := by decide +kernel
theorem dX4_foil_53 : decode cX4_foil 53 = .ok (.iload_n 3, 1) := by decide +kernel
theorem dX4_foil_54 : decode cX4_foil 54 = .ok (.if_icmp .ge 13, 3) := by decide +kernel
theorem dX4_foil_57 : decode cX4_foil 57 = .ok (.new 67, 3) := by decide +kernel
theorem dX4_foil_60 : decode cX4_foil 60 = .ok (.dup, 1) := by decide +kernel
theorem dX4_foil_61 : decode cX4_foil 61 = .ok (.ldc 126, 2) := by decide +kernel
theorem dX4_foil_63 : decode cX4_foil 63 = .ok (.invokespecial 71, 3) := by decide +kernel
theorem dX4_foil_66 : decode cX4_foil 66 = .ok (.athrow, 1) := by decide +kernel
theorem dX4_foil_67 : decode cX4_foil 67 = .ok (.aload_n 0, 1) := by decide +kernel
theorem dX4_foil_68 : decode cX4_foil 68 = .ok (.invokevirtual 72, 3) := by decide +kernel
theorem dX4_foil_71 : decode cX4_foil 71 = .ok (.aload_n 0, 1) := by decide +kernel
theorem dX4_foil_72 : decode cX4_foil 72 = .ok (.getfield 12, 3) := by decide +kernel
theorem dX4_foil_75 : decode cX4_foil 75 = .ok (.iload_n 1, 1) := by decide +kernel
theorem dX4_foil_76 : decode cX4_foil 76 = .ok (.putfield 114, 3) := by decide +kernel
theorem dX4_foil_79 : decode cX4_foil 79 = .ok (.aload_n 0, 1) := by decide +kernel
theorem dX4_foil_80 : decode cX4_foil 80 = .ok (.getfield 12, 3) := by decide +kernel
theorem dX4_foil_83 : decode cX4_foil 83 = .ok (.iload_n 2, 1) := by decide +kernel
theorem dX4_foil_84 : decode cX4_foil 84 = .ok (.putfield 128, 3) := by decide +kernel
theorem dX4_foil_87 : decode cX4_foil 87 = .ok (.aload_n 0, 1) := by decide +kernel
theorem dX4_foil_88 : decode cX4_foil 88 = .ok (.getfield 12, 3) := by decide +kernel
theorem dX4_foil_91 : decode cX4_foil 91 = .ok (.iload_n 3, 1) := by decide +kernel
theorem dX4_foil_92 : decode cX4_foil 92 = .ok (.putfield 131, 3) := by decide +kernel
theorem dX4_foil_95 : decode cX4_foil 95 = .ok (.aload_n 0, 1) := by decide +kernel
theorem dX4_foil_96 : decode cX4_foil 96 = .ok (.getfield 12, 3) := by decide +kernel
theorem dX4_foil_99 : decode cX4_foil 99 = .ok (.iload 4, 2) := by decide +kernel
theorem dX4_foil_101 : decode cX4_foil 101 = .ok (.putfield 134, 3) := by decide +kernel
theorem dX4_foil_104 : decode cX4_foil 104 = .ok (.aload_n 0, 1) := by decide +kernel
theorem dX4_foil_105 : decode cX4_foil 105 = .ok (.getfield 12, 3) := by decide +kernel
theorem dX4_foil_108 : decode cX4_foil 108 = .ok (.iload 5, 2) := by decide +kernel
theorem dX4_foil_110 : decode cX4_foil 110 = .ok (.putfield 137, 3) := by decide +kernel
theorem dX4_foil_113 : decode cX4_foil 113 = .ok (.iload 4, 2) := by decide +kernel
theorem dX4_foil_115 : decode cX4_foil 115 = .ok (.iload_n 2, 1) := by decide +kernel
theorem dX4_foil_116 : decode cX4_foil 116 = .ok (.isub, 1) := by decide +kernel
theorem dX4_foil_117 : decode cX4_foil 117 = .ok (.iconst 1, 1) := by decide +kernel
theorem dX4_foil_118 : decode cX4_foil 118 = .ok (.iadd, 1) := by decide +kernel
theorem dX4_foil_119 : decode cX4_foil 119 = .ok (.iload 5, 2) := by decide +kernel
theorem dX4_foil_121 : decode cX4_foil 121 = .ok (.iload_n 3, 1) := by decide +kernel
theorem dX4_foil_122 : decode cX4_foil 122 = .ok (.isub, 1) := by decide +kernel
theorem dX4_foil_123 : decode cX4_foil 123 = .ok (.iconst 1, 1) := by decide +kernel
theorem dX4_foil_124 : decode cX4_foil 124 = .ok (.iadd, 1) := by decide +kernel
theorem dX4_foil_125 : decode cX4_foil 125 = .ok (.imul, 1) := by decide +kernel
theorem dX4_foil_126 : decode cX4_foil 126 = .ok (.ireturn, 1) := by decide +kernel
theorem dX4_press_0 : decode cX4_press 0 = .ok (.iload_n 1, 1) := by decide +kernel
theorem dX4_press_1 : decode cX4_press 1 = .ok (.invokestatic 52, 3) := by decide +kernel
theorem dX4_press_4 : decode cX4_press 4 = .ok (.ifCond .ne 13, 3) := by decide +kernel
theorem dX4_press_7 : decode cX4_press 7 = .ok (.new 60, 3) := by decide +kernel
theorem dX4_press_10 : decode cX4_press 10 = .ok (.dup, 1) := by decide +kernel
theorem dX4_press_11 : decode cX4_press 11 = .ok (.ldc 140, 2) := by decide +kernel
theorem dX4_press_13 : decode cX4_press 13 = .ok (.invokespecial 64, 3) := by decide +kernel
theorem dX4_press_16 : decode cX4_press 16 = .ok (.athrow, 1) := by decide +kernel
theorem dX4_press_17 : decode cX4_press 17 = .ok (.iload 4, 2) := by decide +kernel
theorem dX4_press_19 : decode cX4_press 19 = .ok (.invokestatic 142, 3) := by decide +kernel
theorem dX4_press_22 : decode cX4_press 22 = .ok (.ifCond .ne 13, 3) := by decide +kernel
theorem dX4_press_25 : decode cX4_press 25 = .ok (.new 67, 3) := by decide +kernel
theorem dX4_press_28 : decode cX4_press 28 = .ok (.dup, 1) := by decide +kernel
theorem dX4_press_29 : decode cX4_press 29 = .ok (.ldc 145, 2) := by decide +kernel
theorem dX4_press_31 : decode cX4_press 31 = .ok (.invokespecial 71, 3) := by decide +kernel
theorem dX4_press_34 : decode cX4_press 34 = .ok (.athrow, 1) := by decide +kernel
theorem dX4_press_35 : decode cX4_press 35 = .ok (.aload_n 0, 1) := by decide +kernel
theorem dX4_press_36 : decode cX4_press 36 = .ok (.invokevirtual 72, 3) := by decide +kernel
theorem dX4_press_39 : decode cX4_press 39 = .ok (.aload_n 0, 1) := by decide +kernel
theorem dX4_press_40 : decode cX4_press 40 = .ok (.getfield 12, 3) := by decide +kernel
theorem dX4_press_43 : decode cX4_press 43 = .ok (.iload_n 1, 1) := by decide +kernel
theorem dX4_press_44 : decode cX4_press 44 = .ok (.iload 4, 2) := by decide +kernel
theorem dX4_press_46 : decode cX4_press 46 = .ok (.aload_n 0, 1) := by decide +kernel
theorem dX4_press_47 : decode cX4_press 47 = .ok (.getfield 34, 3) := by decide +kernel
theorem dX4_press_50 : decode cX4_press 50 = .ok (.invokevirtual 147, 3) := by decide +kernel
theorem dX4_press_53 : decode cX4_press 53 = .ok (.aload_n 0, 1) := by decide +kernel
theorem dX4_press_54 : decode cX4_press 54 = .ok (.iload_n 2, 1) := by decide +kernel
theorem dX4_press_55 : decode cX4_press 55 = .ok (.iload_n 3, 1) := by decide +kernel
theorem dX4_press_56 : decode cX4_press 56 = .ok (.invokevirtual 151, 3) := by decide +kernel
theorem dX4_press_59 : decode cX4_press 59 = .ok (.istore 5, 2) := by decide +kernel
theorem dX4_press_61 : decode cX4_press 61 = .ok (.iload 5, 2) := by decide +kernel
theorem dX4_press_63 : decode cX4_press 63 = .ok (.ifCond .eq 19, 3) := by decide +kernel
theorem dX4_press_66 : decode cX4_press 66 = .ok (.aload_n 0, 1) := by decide +kernel
theorem dX4_press_67 : decode cX4_press 67 = .ok (.getfield 12, 3) := by decide +kernel
theorem dX4_press_70 : decode cX4_press 70 = .ok (.dup, 1) := by decide +kernel
theorem dX4_press_71 : decode cX4_press 71 = .ok (.getfield 154, 3) := by decide +kernel
theorem dX4_press_74 : decode cX4_press 74 = .ok (.iconst 1, 1) := by decide +kernel
theorem dX4_press_75 : decode cX4_press 75 = .ok (.iadd, 1) := by decide +kernel
theorem dX4_press_76 : decode cX4_press 76 = .ok (.putfield 154, 3) := by decide +kernel
theorem dX4_press_79 : decode cX4_press 79 = .ok (.iload 5, 2) := by decide +kernel
theorem dX4_press_81 : decode cX4_press 81 = .ok (.ireturn, 1) := by decide +kernel
theorem dX4_press_82 : decode cX4_press 82 = .ok (.bipush 100, 2) := by decide +kernel
theorem dX4_press_84 : decode cX4_press 84 = .ok (.aload_n 0, 1) := by decide +kernel
theorem dX4_press_85 : decode cX4_press 85 = .ok (.iload_n 2, 1) := by decide +kernel
theorem dX4_press_86 : decode cX4_press 86 = .ok (.iload_n 3, 1) := by decide +kernel
theorem dX4_press_87 : decode cX4_press 87 = .ok (.invokevirtual 157, 3) := by decide +kernel
theorem dX4_press_90 : decode cX4_press 90 = .ok (.iadd, 1) := by decide +kernel
theorem dX4_press_91 : decode cX4_press 91 = .ok (.ireturn, 1) := by decide +kernel
theorem dX4_fold_0 : decode cX4_fold 0 = .ok (.iload_n 1, 1) := by decide +kernel
theorem dX4_fold_1 : decode cX4_fold 1 = .ok (.invokestatic 160, 3) := by decide +kernel
theorem dX4_fold_4 : decode cX4_fold 4 = .ok (.ifCond .ne 13, 3) := by decide +kernel
theorem dX4_fold_7 : decode cX4_fold 7 = .ok (.new 60, 3) := by decide +kernel
theorem dX4_fold_10 : decode cX4_fold 10 = .ok (.dup, 1) := by decide +kernel
theorem dX4_fold_11 : decode cX4_fold 11 = .ok (.ldc 163, 2) := by decide +kernel
theorem dX4_fold_13 : decode cX4_fold 13 = .ok (.invokespecial 64, 3) := by decide +kernel
theorem dX4_fold_16 : decode cX4_fold 16 = .ok (.athrow, 1) := by decide +kernel
theorem dX4_fold_17 : decode cX4_fold 17 = .ok (.aload_n 0, 1) := by decide +kernel
theorem dX4_fold_18 : decode cX4_fold 18 = .ok (.invokevirtual 72, 3) := by decide +kernel
theorem dX4_fold_21 : decode cX4_fold 21 = .ok (.aload_n 0, 1) := by decide +kernel
theorem dX4_fold_22 : decode cX4_fold 22 = .ok (.getfield 12, 3) := by decide +kernel
theorem dX4_fold_25 : decode cX4_fold 25 = .ok (.getfield 165, 3) := by decide +kernel
theorem dX4_fold_28 : decode cX4_fold 28 = .ok (.iconst 0, 1) := by decide +kernel
theorem dX4_fold_29 : decode cX4_fold 29 = .ok (.iaload, 1) := by decide +kernel
theorem dX4_fold_30 : decode cX4_fold 30 = .ok (.istore_n 2, 1) := by decide +kernel
theorem dX4_fold_31 : decode cX4_fold 31 = .ok (.aload_n 0, 1) := by decide +kernel
theorem dX4_fold_32 : decode cX4_fold 32 = .ok (.getfield 12, 3) := by decide +kernel
theorem dX4_fold_35 : decode cX4_fold 35 = .ok (.getfield 165, 3) := by decide +kernel
theorem dX4_fold_38 : decode cX4_fold 38 = .ok (.iconst 1, 1) := by decide +kernel
theorem dX4_fold_39 : decode cX4_fold 39 = .ok (.iaload, 1) := by decide +kernel
theorem dX4_fold_40 : decode cX4_fold 40 = .ok (.istore_n 3, 1) := by decide +kernel
theorem dX4_fold_41 : decode cX4_fold 41 = .ok (.aload_n 0, 1) := by decide +kernel
theorem dX4_fold_42 : decode cX4_fold 42 = .ok (.getfield 48, 3) := by decide +kernel
theorem dX4_fold_45 : decode cX4_fold 45 = .ok (.aload_n 0, 1) := by decide +kernel
theorem dX4_fold_46 : decode cX4_fold 46 = .ok (.getfield 12, 3) := by decide +kernel
theorem dX4_fold_49 : decode cX4_fold 49 = .ok (.getfield 88, 3) := by decide +kernel
theorem dX4_fold_52 : decode cX4_fold 52 = .ok (.iload_n 1, 1) := by decide +kernel
theorem dX4_fold_53 : decode cX4_fold 53 = .ok (.iload_n 2, 1) := by decide +kernel
theorem dX4_fold_54 : decode cX4_fold 54 = .ok (.iload_n 3, 1) := by decide +kernel
theorem dX4_fold_55 : decode cX4_fold 55 = .ok (.invokevirtual 168, 3) := by decide +kernel
theorem dX4_fold_58 : decode cX4_fold 58 = .ok (.istore 4, 2) := by decide +kernel
theorem dX4_fold_60 : decode cX4_fold 60 = .ok (.iload 4, 2) := by decide +kernel
theorem dX4_fold_62 : decode cX4_fold 62 = .ok (.aload_n 0, 1) := by decide +kernel
theorem dX4_fold_63 : decode cX4_fold 63 = .ok (.getfield 48, 3) := by decide +kernel
theorem dX4_fold_66 : decode cX4_fold 66 = .ok (.aload_n 0, 1) := by decide +kernel
theorem dX4_fold_67 : decode cX4_fold 67 = .ok (.getfield 12, 3) := by decide +kernel
theorem dX4_fold_70 : decode cX4_fold 70 = .ok (.getfield 88, 3) := by decide +kernel
theorem dX4_fold_73 : decode cX4_fold 73 = .ok (.iload_n 2, 1) := by decide +kernel
theorem dX4_fold_74 : decode cX4_fold 74 = .ok (.iload_n 3, 1) := by decide +kernel
theorem dX4_fold_75 : decode cX4_fold 75 = .ok (.invokevirtual 172, 3) := by decide +kernel
theorem dX4_fold_78 : decode cX4_fold 78 = .ok (.iadd, 1) := by decide +kernel
theorem dX4_fold_79 : decode cX4_fold 79 = .ok (.istore 4, 2) := by decide +kernel
theorem dX4_fold_81 : decode cX4_fold 81 = .ok (.aload_n 0, 1) := by decide +kernel
theorem dX4_fold_82 : decode cX4_fold 82 = .ok (.getfield 12, 3) := by decide +kernel
theorem dX4_fold_85 : decode cX4_fold 85 = .ok (.dup, 1) := by decide +kernel
theorem dX4_fold_86 : decode cX4_fold 86 = .ok (.getfield 176, 3) := by decide +kernel
theorem dX4_fold_89 : decode cX4_fold 89 = .ok (.iload 4, 2) := by decide +kernel
theorem dX4_fold_91 : decode cX4_fold 91 = .ok (.iadd, 1) := by decide +kernel
theorem dX4_fold_92 : decode cX4_fold 92 = .ok (.putfield 176, 3) := by decide +kernel
theorem dX4_fold_95 : decode cX4_fold 95 = .ok (.aload_n 0, 1) := by decide +kernel
theorem dX4_fold_96 : decode cX4_fold 96 = .ok (.getfield 12, 3) := by decide +kernel
theorem dX4_fold_99 : decode cX4_fold 99 = .ok (.dup, 1) := by decide +kernel
theorem dX4_fold_100 : decode cX4_fold 100 = .ok (.getfield 179, 3) := by decide +kernel
theorem dX4_fold_103 : decode cX4_fold 103 = .ok (.iconst 1, 1) := by decide +kernel
theorem dX4_fold_104 : decode cX4_fold 104 = .ok (.iadd, 1) := by decide +kernel
theorem dX4_fold_105 : decode cX4_fold 105 = .ok (.putfield 179, 3) := by decide +kernel
theorem dX4_fold_108 : decode cX4_fold 108 = .ok (.iload 4, 2) := by decide +kernel
theorem dX4_fold_110 : decode cX4_fold 110 = .ok (.ireturn, 1) := by decide +kernel
theorem dX4_set_0 : decode cX4_set 0 = .ok (.iload_n 1, 1) := by decide +kernel
theorem dX4_set_1 : decode cX4_set 1 = .ok (.invokestatic 182, 3) := by decide +kernel
theorem dX4_set_4 : decode cX4_set 4 = .ok (.ifCond .ne 13, 3) := by decide +kernel
theorem dX4_set_7 : decode cX4_set 7 = .ok (.new 60, 3) := by decide +kernel
theorem dX4_set_10 : decode cX4_set 10 = .ok (.dup, 1) := by decide +kernel
theorem dX4_set_11 : decode cX4_set 11 = .ok (.ldc 185, 2) := by decide +kernel
theorem dX4_set_13 : decode cX4_set 13 = .ok (.invokespecial 64, 3) := by decide +kernel
theorem dX4_set_16 : decode cX4_set 16 = .ok (.athrow, 1) := by decide +kernel
theorem dX4_set_17 : decode cX4_set 17 = .ok (.iload_n 2, 1) := by decide +kernel
theorem dX4_set_18 : decode cX4_set 18 = .ok (.getstatic 187, 3) := by decide +kernel
theorem dX4_set_21 : decode cX4_set 21 = .ok (.iload_n 1, 1) := by decide +kernel
theorem dX4_set_22 : decode cX4_set 22 = .ok (.iaload, 1) := by decide +kernel
theorem dX4_set_23 : decode cX4_set 23 = .ok (.if_icmp .lt 12, 3) := by decide +kernel
theorem dX4_set_26 : decode cX4_set 26 = .ok (.iload_n 2, 1) := by decide +kernel
theorem dX4_set_27 : decode cX4_set 27 = .ok (.getstatic 190, 3) := by decide +kernel
theorem dX4_set_30 : decode cX4_set 30 = .ok (.iload_n 1, 1) := by decide +kernel
theorem dX4_set_31 : decode cX4_set 31 = .ok (.iaload, 1) := by decide +kernel
theorem dX4_set_32 : decode cX4_set 32 = .ok (.if_icmp .le 13, 3) := by decide +kernel
theorem dX4_set_35 : decode cX4_set 35 = .ok (.new 67, 3) := by decide +kernel
theorem dX4_set_38 : decode cX4_set 38 = .ok (.dup, 1) := by decide +kernel
theorem dX4_set_39 : decode cX4_set 39 = .ok (.ldc 193, 2) := by decide +kernel
theorem dX4_set_41 : decode cX4_set 41 = .ok (.invokespecial 71, 3) := by decide +kernel
theorem dX4_set_44 : decode cX4_set 44 = .ok (.athrow, 1) := by decide +kernel
theorem dX4_set_45 : decode cX4_set 45 = .ok (.aload_n 0, 1) := by decide +kernel
theorem dX4_set_46 : decode cX4_set 46 = .ok (.invokevirtual 72, 3) := by decide +kernel
theorem dX4_set_49 : decode cX4_set 49 = .ok (.aload_n 0, 1) := by decide +kernel
theorem dX4_set_50 : decode cX4_set 50 = .ok (.getfield 12, 3) := by decide +kernel
theorem dX4_set_53 : decode cX4_set 53 = .ok (.getfield 165, 3) := by decide +kernel
theorem dX4_set_56 : decode cX4_set 56 = .ok (.iload_n 1, 1) := by decide +kernel
theorem dX4_set_57 : decode cX4_set 57 = .ok (.iaload, 1) := by decide +kernel
theorem dX4_set_58 : decode cX4_set 58 = .ok (.istore_n 3, 1) := by decide +kernel
theorem dX4_set_59 : decode cX4_set 59 = .ok (.aload_n 0, 1) := by decide +kernel
theorem dX4_set_60 : decode cX4_set 60 = .ok (.getfield 12, 3) := by decide +kernel
theorem dX4_set_63 : decode cX4_set 63 = .ok (.getfield 165, 3) := by decide +kernel
theorem dX4_set_66 : decode cX4_set 66 = .ok (.iload_n 1, 1) := by decide +kernel
theorem dX4_set_67 : decode cX4_set 67 = .ok (.iload_n 2, 1) := by decide +kernel
theorem dX4_set_68 : decode cX4_set 68 = .ok (.iastore, 1) := by decide +kernel
theorem dX4_set_69 : decode cX4_set 69 = .ok (.iload_n 3, 1) := by decide +kernel
theorem dX4_set_70 : decode cX4_set 70 = .ok (.ireturn, 1) := by decide +kernel
theorem dX4_undo_0 : decode cX4_undo 0 = .ok (.aload_n 0, 1) := by decide +kernel
theorem dX4_undo_1 : decode cX4_undo 1 = .ok (.getfield 239, 3) := by decide +kernel
theorem dX4_undo_4 : decode cX4_undo 4 = .ok (.ifCond .ne 13, 3) := by decide +kernel
theorem dX4_undo_7 : decode cX4_undo 7 = .ok (.new 201, 3) := by decide +kernel
theorem dX4_undo_10 : decode cX4_undo 10 = .ok (.dup, 1) := by decide +kernel
theorem dX4_undo_11 : decode cX4_undo 11 = .ok (.ldc 242, 2) := by decide +kernel
theorem dX4_undo_13 : decode cX4_undo 13 = .ok (.invokespecial 205, 3) := by decide +kernel
theorem dX4_undo_16 : decode cX4_undo 16 = .ok (.athrow, 1) := by decide +kernel
theorem dX4_undo_17 : decode cX4_undo 17 = .ok (.aload_n 0, 1) := by decide +kernel
theorem dX4_undo_18 : decode cX4_undo 18 = .ok (.dup, 1) := by decide +kernel
theorem dX4_undo_19 : decode cX4_undo 19 = .ok (.getfield 239, 3) := by decide +kernel
theorem dX4_undo_22 : decode cX4_undo 22 = .ok (.iconst 1, 1) := by decide +kernel
theorem dX4_undo_23 : decode cX4_undo 23 = .ok (.isub, 1) := by decide +kernel
theorem dX4_undo_24 : decode cX4_undo 24 = .ok (.putfield 239, 3) := by decide +kernel
theorem dX4_undo_27 : decode cX4_undo 27 = .ok (.aload_n 0, 1) := by decide +kernel
theorem dX4_undo_28 : decode cX4_undo 28 = .ok (.getfield 12, 3) := by decide +kernel
theorem dX4_undo_31 : decode cX4_undo 31 = .ok (.aload_n 0, 1) := by decide +kernel
theorem dX4_undo_32 : decode cX4_undo 32 = .ok (.getfield 24, 3) := by decide +kernel
theorem dX4_undo_35 : decode cX4_undo 35 = .ok (.aload_n 0, 1) := by decide +kernel
theorem dX4_undo_36 : decode cX4_undo 36 = .ok (.getfield 244, 3) := by decide +kernel
theorem dX4_undo_39 : decode cX4_undo 39 = .ok (.aload_n 0, 1) := by decide +kernel
theorem dX4_undo_40 : decode cX4_undo 40 = .ok (.getfield 239, 3) := by decide +kernel
theorem dX4_undo_43 : decode cX4_undo 43 = .ok (.iadd, 1) := by decide +kernel
theorem dX4_undo_44 : decode cX4_undo 44 = .ok (.bipush 6, 2) := by decide +kernel
theorem dX4_undo_46 : decode cX4_undo 46 = .ok (.irem, 1) := by decide +kernel
theorem dX4_undo_47 : decode cX4_undo 47 = .ok (.aaload, 1) := by decide +kernel
theorem dX4_undo_48 : decode cX4_undo 48 = .ok (.invokevirtual 230, 3) := by decide +kernel
theorem dX4_undo_51 : decode cX4_undo 51 = .ok (.aload_n 0, 1) := by decide +kernel
theorem dX4_undo_52 : decode cX4_undo 52 = .ok (.getfield 239, 3) := by decide +kernel
theorem dX4_undo_55 : decode cX4_undo 55 = .ok (.ireturn, 1) := by decide +kernel
theorem dX4_dieOf_0 : decode cX4_dieOf 0 = .ok (.iload_n 1, 1) := by decide +kernel
theorem dX4_dieOf_1 : decode cX4_dieOf 1 = .ok (.invokestatic 52, 3) := by decide +kernel
theorem dX4_dieOf_4 : decode cX4_dieOf 4 = .ok (.ifCond .eq 11, 3) := by decide +kernel
theorem dX4_dieOf_7 : decode cX4_dieOf 7 = .ok (.iload_n 2, 1) := by decide +kernel
theorem dX4_dieOf_8 : decode cX4_dieOf 8 = .ok (.iload_n 3, 1) := by decide +kernel
theorem dX4_dieOf_9 : decode cX4_dieOf 9 = .ok (.invokestatic 56, 3) := by decide +kernel
theorem dX4_dieOf_12 : decode cX4_dieOf 12 = .ok (.ifCond .ne 13, 3) := by decide +kernel
theorem dX4_dieOf_15 : decode cX4_dieOf 15 = .ok (.new 60, 3) := by decide +kernel
theorem dX4_dieOf_18 : decode cX4_dieOf 18 = .ok (.dup, 1) := by decide +kernel
theorem dX4_dieOf_19 : decode cX4_dieOf 19 = .ok (.ldc 62, 2) := by decide +kernel
theorem dX4_dieOf_21 : decode cX4_dieOf 21 = .ok (.invokespecial 64, 3) := by decide +kernel
theorem dX4_dieOf_24 : decode cX4_dieOf 24 = .ok (.athrow, 1) := by decide +kernel
theorem dX4_dieOf_25 : decode cX4_dieOf 25 = .ok (.iload 4, 2) := by decide +kernel
theorem dX4_dieOf_27 : decode cX4_dieOf 27 = .ok (.invokestatic 142, 3) := by decide +kernel
theorem dX4_dieOf_30 : decode cX4_dieOf 30 = .ok (.ifCond .ne 13, 3) := by decide +kernel
theorem dX4_dieOf_33 : decode cX4_dieOf 33 = .ok (.new 67, 3) := by decide +kernel
theorem dX4_dieOf_36 : decode cX4_dieOf 36 = .ok (.dup, 1) := by decide +kernel
theorem dX4_dieOf_37 : decode cX4_dieOf 37 = .ok (.ldc 145, 2) := by decide +kernel
theorem dX4_dieOf_39 : decode cX4_dieOf 39 = .ok (.invokespecial 71, 3) := by decide +kernel
theorem dX4_dieOf_42 : decode cX4_dieOf 42 = .ok (.athrow, 1) := by decide +kernel
theorem dX4_dieOf_43 : decode cX4_dieOf 43 = .ok (.aload_n 0, 1) := by decide +kernel
theorem dX4_dieOf_44 : decode cX4_dieOf 44 = .ok (.getfield 12, 3) := by decide +kernel
theorem dX4_dieOf_47 : decode cX4_dieOf 47 = .ok (.iload_n 1, 1) := by decide +kernel
theorem dX4_dieOf_48 : decode cX4_dieOf 48 = .ok (.iload_n 2, 1) := by decide +kernel
theorem dX4_dieOf_49 : decode cX4_dieOf 49 = .ok (.iload_n 3, 1) := by decide +kernel
theorem dX4_dieOf_50 : decode cX4_dieOf 50 = .ok (.iload 4, 2) := by decide +kernel
theorem dX4_dieOf_52 : decode cX4_dieOf 52 = .ok (.invokevirtual 247, 3) := by decide +kernel
theorem dX4_dieOf_55 : decode cX4_dieOf 55 = .ok (.ireturn, 1) := by decide +kernel
theorem dX4_place_0 : decode cX4_place 0 = .ok (.iload_n 1, 1) := by decide +kernel
theorem dX4_place_1 : decode cX4_place 1 = .ok (.i2l, 1) := by decide +kernel
theorem dX4_place_2 : decode cX4_place 2 = .ok (.iload_n 2, 1) := by decide +kernel
theorem dX4_place_3 : decode cX4_place 3 = .ok (.i2l, 1) := by decide +kernel
theorem dX4_place_4 : decode cX4_place 4 = .ok (.invokestatic 82, 3) := by decide +kernel
theorem dX4_place_7 : decode cX4_place 7 = .ok (.istore 4, 2) := by decide +kernel
theorem dX4_place_9 : decode cX4_place 9 = .ok (.iload 4, 2) := by decide +kernel
theorem dX4_place_11 : decode cX4_place 11 = .ok (.iconst (-1), 1) := by decide +kernel
theorem dX4_place_12 : decode cX4_place 12 = .ok (.if_icmp .ne 13, 3) := by decide +kernel
theorem dX4_place_15 : decode cX4_place 15 = .ok (.new 60, 3) := by decide +kernel
theorem dX4_place_18 : decode cX4_place 18 = .ok (.dup, 1) := by decide +kernel
theorem dX4_place_19 : decode cX4_place 19 = .ok (.ldc 124, 2) := by decide +kernel
theorem dX4_place_21 : decode cX4_place 21 = .ok (.invokespecial 64, 3) := by decide +kernel
theorem dX4_place_24 : decode cX4_place 24 = .ok (.athrow, 1) := by decide +kernel
theorem dX4_place_25 : decode cX4_place 25 = .ok (.iload_n 3, 1) := by decide +kernel
theorem dX4_place_26 : decode cX4_place 26 = .ok (.ifCond .lt 9, 3) := by decide +kernel
theorem dX4_place_29 : decode cX4_place 29 = .ok (.iload_n 3, 1) := by decide +kernel
theorem dX4_place_30 : decode cX4_place 30 = .ok (.bipush 7, 2) := by decide +kernel
theorem dX4_place_32 : decode cX4_place 32 = .ok (.if_icmp .lt 13, 3) := by decide +kernel
theorem dX4_place_35 : decode cX4_place 35 = .ok (.new 67, 3) := by decide +kernel
theorem dX4_place_38 : decode cX4_place 38 = .ok (.dup, 1) := by decide +kernel
theorem dX4_place_39 : decode cX4_place 39 = .ok (.ldc 251, 2) := by decide +kernel
theorem dX4_place_41 : decode cX4_place 41 = .ok (.invokespecial 71, 3) := by decide +kernel
theorem dX4_place_44 : decode cX4_place 44 = .ok (.athrow, 1) := by decide +kernel
theorem dX4_place_45 : decode cX4_place 45 = .ok (.aload_n 0, 1) := by decide +kernel
theorem dX4_place_46 : decode cX4_place 46 = .ok (.iload 4, 2) := by decide +kernel
theorem dX4_place_48 : decode cX4_place 48 = .ok (.iload_n 3, 1) := by decide +kernel
theorem dX4_place_49 : decode cX4_place 49 = .ok (.invokevirtual 253, 3) := by decide +kernel
theorem dX4_place_52 : decode cX4_place 52 = .ok (.ireturn, 1) := by decide +kernel
theorem dX4_count_0 : decode cX4_count 0 = .ok (.iload_n 1, 1) := by decide +kernel
theorem dX4_count_1 : decode cX4_count 1 = .ok (.ifCond .lt 9, 3) := by decide +kernel
theorem dX4_count_4 : decode cX4_count 4 = .ok (.iload_n 1, 1) := by decide +kernel
theorem dX4_count_5 : decode cX4_count 5 = .ok (.bipush 14, 2) := by decide +kernel
theorem dX4_count_7 : decode cX4_count 7 = .ok (.if_icmp .lt 14, 3) := by decide +kernel
theorem dX4_count_10 : decode cX4_count 10 = .ok (.new 67, 3) := by decide +kernel
theorem dX4_count_13 : decode cX4_count 13 = .ok (.dup, 1) := by decide +kernel
theorem dX4_count_14 : decode cX4_count 14 = .ok (.ldc_w 256, 3) := by decide +kernel
theorem dX4_count_17 : decode cX4_count 17 = .ok (.invokespecial 71, 3) := by decide +kernel
theorem dX4_count_20 : decode cX4_count 20 = .ok (.athrow, 1) := by decide +kernel
theorem dX4_count_21 : decode cX4_count 21 = .ok (.aload_n 0, 1) := by decide +kernel
theorem dX4_count_22 : decode cX4_count 22 = .ok (.iload_n 1, 1) := by decide +kernel
theorem dX4_count_23 : decode cX4_count 23 = .ok (.invokevirtual 258, 3) := by decide +kernel
theorem dX4_count_26 : decode cX4_count 26 = .ok (.ireturn, 1) := by decide +kernel
theorem dX4_setting_0 : decode cX4_setting 0 = .ok (.iload_n 1, 1) := by decide +kernel
theorem dX4_setting_1 : decode cX4_setting 1 = .ok (.invokestatic 182, 3) := by decide +kernel
theorem dX4_setting_4 : decode cX4_setting 4 = .ok (.ifCond .ne 13, 3) := by decide +kernel
theorem dX4_setting_7 : decode cX4_setting 7 = .ok (.new 60, 3) := by decide +kernel
theorem dX4_setting_10 : decode cX4_setting 10 = .ok (.dup, 1) := by decide +kernel
theorem dX4_setting_11 : decode cX4_setting 11 = .ok (.ldc 185, 2) := by decide +kernel
theorem dX4_setting_13 : decode cX4_setting 13 = .ok (.invokespecial 64, 3) := by decide +kernel
theorem dX4_setting_16 : decode cX4_setting 16 = .ok (.athrow, 1) := by decide +kernel
theorem dX4_setting_17 : decode cX4_setting 17 = .ok (.aload_n 0, 1) := by decide +kernel
theorem dX4_setting_18 : decode cX4_setting 18 = .ok (.getfield 12, 3) := by decide +kernel
theorem dX4_setting_21 : decode cX4_setting 21 = .ok (.getfield 165, 3) := by decide +kernel
theorem dX4_setting_24 : decode cX4_setting 24 = .ok (.iload_n 1, 1) := by decide +kernel
theorem dX4_setting_25 : decode cX4_setting 25 = .ok (.iaload, 1) := by decide +kernel
theorem dX4_setting_26 : decode cX4_setting 26 = .ok (.ireturn, 1) := by decide +kernel
theorem dX4_wholeShare_0 : decode cX4_wholeShare 0 = .ok (.sipush 144, 3) := by decide +kernel
theorem dX4_wholeShare_3 : decode cX4_wholeShare 3 = .ok (.aload_n 0, 1) := by decide +kernel
theorem dX4_wholeShare_4 : decode cX4_wholeShare 4 = .ok (.getfield 12, 3) := by decide +kernel
theorem dX4_wholeShare_7 : decode cX4_wholeShare 7 = .ok (.getfield 88, 3) := by decide +kernel
theorem dX4_wholeShare_10 : decode cX4_wholeShare 10 = .ok (.invokevirtual 104, 3) := by decide +kernel
theorem dX4_wholeShare_13 : decode cX4_wholeShare 13 = .ok (.isub, 1) := by decide +kernel
theorem dX4_wholeShare_14 : decode cX4_wholeShare 14 = .ok (.i2d, 1) := by decide +kernel
theorem dX4_wholeShare_15 : decode cX4_wholeShare 15 = .ok (.ldc2_w 276, 3) := by decide +kernel
theorem dX4_wholeShare_18 : decode cX4_wholeShare 18 = .ok (.ddiv, 1) := by decide +kernel
theorem dX4_wholeShare_19 : decode cX4_wholeShare 19 = .ok (.dreturn, 1) := by decide +kernel
theorem dX4_isDie_0 : decode cX4_isDie 0 = .ok (.iload_n 0, 1) := by decide +kernel
theorem dX4_isDie_1 : decode cX4_isDie 1 = .ok (.ifCond .lt 12, 3) := by decide +kernel
theorem dX4_isDie_4 : decode cX4_isDie 4 = .ok (.iload_n 0, 1) := by decide +kernel
theorem dX4_isDie_5 : decode cX4_isDie 5 = .ok (.iconst 3, 1) := by decide +kernel
theorem dX4_isDie_6 : decode cX4_isDie 6 = .ok (.if_icmp .ge 7, 3) := by decide +kernel
theorem dX4_isDie_9 : decode cX4_isDie 9 = .ok (.iconst 1, 1) := by decide +kernel
theorem dX4_isDie_10 : decode cX4_isDie 10 = .ok (.goto 4, 3) := by decide +kernel
theorem dX4_isDie_13 : decode cX4_isDie 13 = .ok (.iconst 0, 1) := by decide +kernel
theorem dX4_isDie_14 : decode cX4_isDie 14 = .ok (.ireturn, 1) := by decide +kernel
theorem dX4_isPoint_0 : decode cX4_isPoint 0 = .ok (.iload_n 0, 1) := by decide +kernel
theorem dX4_isPoint_1 : decode cX4_isPoint 1 = .ok (.ifCond .lt 21, 3) := by decide +kernel
theorem dX4_isPoint_4 : decode cX4_isPoint 4 = .ok (.iload_n 0, 1) := by decide +kernel
theorem dX4_isPoint_5 : decode cX4_isPoint 5 = .ok (.iconst 5, 1) := by decide +kernel
theorem dX4_isPoint_6 : decode cX4_isPoint 6 = .ok (.if_icmp .ge 16, 3) := by decide +kernel
theorem dX4_isPoint_9 : decode cX4_isPoint 9 = .ok (.iload_n 1, 1) := by decide +kernel
theorem dX4_isPoint_10 : decode cX4_isPoint 10 = .ok (.ifCond .lt 12, 3) := by decide +kernel
theorem dX4_isPoint_13 : decode cX4_isPoint 13 = .ok (.iload_n 1, 1) := by decide +kernel
theorem dX4_isPoint_14 : decode cX4_isPoint 14 = .ok (.iconst 5, 1) := by decide +kernel
theorem dX4_isPoint_15 : decode cX4_isPoint 15 = .ok (.if_icmp .ge 7, 3) := by decide +kernel
theorem dX4_isPoint_18 : decode cX4_isPoint 18 = .ok (.iconst 1, 1) := by decide +kernel
theorem dX4_isPoint_19 : decode cX4_isPoint 19 = .ok (.goto 4, 3) := by decide +kernel
theorem dX4_isPoint_22 : decode cX4_isPoint 22 = .ok (.iconst 0, 1) := by decide +kernel
theorem dX4_isPoint_23 : decode cX4_isPoint 23 = .ok (.ireturn, 1) := by decide +kernel
theorem dX4_isTurn_0 : decode cX4_isTurn 0 = .ok (.iload_n 0, 1) := by decide +kernel
theorem dX4_isTurn_1 : decode cX4_isTurn 1 = .ok (.ifCond .lt 13, 3) := by decide +kernel
theorem dX4_isTurn_4 : decode cX4_isTurn 4 = .ok (.iload_n 0, 1) := by decide +kernel
theorem dX4_isTurn_5 : decode cX4_isTurn 5 = .ok (.bipush 8, 2) := by decide +kernel
theorem dX4_isTurn_7 : decode cX4_isTurn 7 = .ok (.if_icmp .ge 7, 3) := by decide +kernel
theorem dX4_isTurn_10 : decode cX4_isTurn 10 = .ok (.iconst 1, 1) := by decide +kernel
theorem dX4_isTurn_11 : decode cX4_isTurn 11 = .ok (.goto 4, 3) := by decide +kernel
theorem dX4_isTurn_14 : decode cX4_isTurn 14 = .ok (.iconst 0, 1) := by decide +kernel
theorem dX4_isTurn_15 : decode cX4_isTurn 15 = .ok (.ireturn, 1) := by decide +kernel
theorem dX4_isFoldRow_0 : decode cX4_isFoldRow 0 = .ok (.iload_n 0, 1) := by decide +kernel
theorem dX4_isFoldRow_1 : decode cX4_isFoldRow 1 = .ok (.iconst 1, 1) := by decide +kernel
theorem dX4_isFoldRow_2 : decode cX4_isFoldRow 2 = .ok (.if_icmp .lt 13, 3) := by decide +kernel
theorem dX4_isFoldRow_5 : decode cX4_isFoldRow 5 = .ok (.iload_n 0, 1) := by decide +kernel
theorem dX4_isFoldRow_6 : decode cX4_isFoldRow 6 = .ok (.bipush 12, 2) := by decide +kernel
theorem dX4_isFoldRow_8 : decode cX4_isFoldRow 8 = .ok (.if_icmp .ge 7, 3) := by decide +kernel
theorem dX4_isFoldRow_11 : decode cX4_isFoldRow 11 = .ok (.iconst 1, 1) := by decide +kernel
theorem dX4_isFoldRow_12 : decode cX4_isFoldRow 12 = .ok (.goto 4, 3) := by decide +kernel
theorem dX4_isFoldRow_15 : decode cX4_isFoldRow 15 = .ok (.iconst 0, 1) := by decide +kernel
theorem dX4_isFoldRow_16 : decode cX4_isFoldRow 16 = .ok (.ireturn, 1) := by decide +kernel
theorem dX4_isSetting_0 : decode cX4_isSetting 0 = .ok (.iload_n 0, 1) := by decide +kernel
theorem dX4_isSetting_1 : decode cX4_isSetting 1 = .ok (.ifCond .lt 12, 3) := by decide +kernel
theorem dX4_isSetting_4 : decode cX4_isSetting 4 = .ok (.iload_n 0, 1) := by decide +kernel
theorem dX4_isSetting_5 : decode cX4_isSetting 5 = .ok (.iconst 4, 1) := by decide +kernel
theorem dX4_isSetting_6 : decode cX4_isSetting 6 = .ok (.if_icmp .ge 7, 3) := by decide +kernel
theorem dX4_isSetting_9 : decode cX4_isSetting 9 = .ok (.iconst 1, 1) := by decide +kernel
theorem dX4_isSetting_10 : decode cX4_isSetting 10 = .ok (.goto 4, 3) := by decide +kernel
theorem dX4_isSetting_13 : decode cX4_isSetting 13 = .ok (.iconst 0, 1) := by decide +kernel
theorem dX4_isSetting_14 : decode cX4_isSetting 14 = .ok (.ireturn, 1) := by decide +kernel
theorem dX4_pointIndex_0 : decode cX4_pointIndex 0 = .ok (.iload_n 0, 1) := by decide +kernel
theorem dX4_pointIndex_1 : decode cX4_pointIndex 1 = .ok (.bipush 25, 2) := by decide +kernel
theorem dX4_pointIndex_3 : decode cX4_pointIndex 3 = .ok (.imul, 1) := by decide +kernel
theorem dX4_pointIndex_4 : decode cX4_pointIndex 4 = .ok (.iload_n 2, 1) := by decide +kernel
theorem dX4_pointIndex_5 : decode cX4_pointIndex 5 = .ok (.iconst 5, 1) := by decide +kernel
theorem dX4_pointIndex_6 : decode cX4_pointIndex 6 = .ok (.imul, 1) := by decide +kernel
theorem dX4_pointIndex_7 : decode cX4_pointIndex 7 = .ok (.iadd, 1) := by decide +kernel
theorem dX4_pointIndex_8 : decode cX4_pointIndex 8 = .ok (.iload_n 1, 1) := by decide +kernel
theorem dX4_pointIndex_9 : decode cX4_pointIndex 9 = .ok (.iadd, 1) := by decide +kernel
theorem dX4_pointIndex_10 : decode cX4_pointIndex 10 = .ok (.ireturn, 1) := by decide +kernel
theorem dX4_placeIndex_0 : decode cX4_placeIndex 0 = .ok (.lload_n 0, 1) := by decide +kernel
theorem dX4_placeIndex_1 : decode cX4_placeIndex 1 = .ok (.lconst 0, 1) := by decide +kernel
theorem dX4_placeIndex_2 : decode cX4_placeIndex 2 = .ok (.lcmp, 1) := by decide +kernel
theorem dX4_placeIndex_3 : decode cX4_placeIndex 3 = .ok (.ifCond .lt 25, 3) := by decide +kernel
theorem dX4_placeIndex_6 : decode cX4_placeIndex 6 = .ok (.lload_n 0, 1) := by decide +kernel
theorem dX4_placeIndex_7 : decode cX4_placeIndex 7 = .ok (.ldc2_w 308, 3) := by decide +kernel
theorem dX4_placeIndex_10 : decode cX4_placeIndex 10 = .ok (.lcmp, 1) := by decide +kernel
theorem dX4_placeIndex_11 : decode cX4_placeIndex 11 = .ok (.ifCond .ge 17, 3) := by decide +kernel
theorem dX4_placeIndex_14 : decode cX4_placeIndex 14 = .ok (.lload_n 2, 1) := by decide +kernel
theorem dX4_placeIndex_15 : decode cX4_placeIndex 15 = .ok (.lconst 0, 1) := by decide +kernel
theorem dX4_placeIndex_16 : decode cX4_placeIndex 16 = .ok (.lcmp, 1) := by decide +kernel
theorem dX4_placeIndex_17 : decode cX4_placeIndex 17 = .ok (.ifCond .lt 11, 3) := by decide +kernel
theorem dX4_placeIndex_20 : decode cX4_placeIndex 20 = .ok (.lload_n 2, 1) := by decide +kernel
theorem dX4_placeIndex_21 : decode cX4_placeIndex 21 = .ok (.ldc2_w 308, 3) := by decide +kernel
theorem dX4_placeIndex_24 : decode cX4_placeIndex 24 = .ok (.lcmp, 1) := by decide +kernel
theorem dX4_placeIndex_25 : decode cX4_placeIndex 25 = .ok (.ifCond .lt 5, 3) := by decide +kernel
theorem dX4_placeIndex_28 : decode cX4_placeIndex 28 = .ok (.iconst (-1), 1) := by decide +kernel
theorem dX4_placeIndex_29 : decode cX4_placeIndex 29 = .ok (.ireturn, 1) := by decide +kernel
theorem dX4_placeIndex_30 : decode cX4_placeIndex 30 = .ok (.lload_n 2, 1) := by decide +kernel
theorem dX4_placeIndex_31 : decode cX4_placeIndex 31 = .ok (.ldc2_w 308, 3) := by decide +kernel
theorem dX4_placeIndex_34 : decode cX4_placeIndex 34 = .ok (.lmul, 1) := by decide +kernel
theorem dX4_placeIndex_35 : decode cX4_placeIndex 35 = .ok (.lload_n 0, 1) := by decide +kernel
theorem dX4_placeIndex_36 : decode cX4_placeIndex 36 = .ok (.ladd, 1) := by decide +kernel
theorem dX4_placeIndex_37 : decode cX4_placeIndex 37 = .ok (.l2i, 1) := by decide +kernel
theorem dX4_placeIndex_38 : decode cX4_placeIndex 38 = .ok (.ireturn, 1) := by decide +kernel
theorem dX4_saveState_0 : decode cX4_saveState 0 = .ok (.aload_n 0, 1) := by decide +kernel
theorem dX4_saveState_1 : decode cX4_saveState 1 = .ok (.getfield 239, 3) := by decide +kernel
theorem dX4_saveState_4 : decode cX4_saveState 4 = .ok (.bipush 6, 2) := by decide +kernel
theorem dX4_saveState_6 : decode cX4_saveState 6 = .ok (.if_icmp .ne 26, 3) := by decide +kernel
theorem dX4_saveState_9 : decode cX4_saveState 9 = .ok (.aload_n 0, 1) := by decide +kernel
theorem dX4_saveState_10 : decode cX4_saveState 10 = .ok (.aload_n 0, 1) := by decide +kernel
theorem dX4_saveState_11 : decode cX4_saveState 11 = .ok (.getfield 244, 3) := by decide +kernel
theorem dX4_saveState_14 : decode cX4_saveState 14 = .ok (.iconst 1, 1) := by decide +kernel
theorem dX4_saveState_15 : decode cX4_saveState 15 = .ok (.iadd, 1) := by decide +kernel
theorem dX4_saveState_16 : decode cX4_saveState 16 = .ok (.bipush 6, 2) := by decide +kernel
theorem dX4_saveState_18 : decode cX4_saveState 18 = .ok (.irem, 1) := by decide +kernel
theorem dX4_saveState_19 : decode cX4_saveState 19 = .ok (.putfield 244, 3) := by decide +kernel
theorem dX4_saveState_22 : decode cX4_saveState 22 = .ok (.aload_n 0, 1) := by decide +kernel
theorem dX4_saveState_23 : decode cX4_saveState 23 = .ok (.dup, 1) := by decide +kernel
theorem dX4_saveState_24 : decode cX4_saveState 24 = .ok (.getfield 239, 3) := by decide +kernel
theorem dX4_saveState_27 : decode cX4_saveState 27 = .ok (.iconst 1, 1) := by decide +kernel
theorem dX4_saveState_28 : decode cX4_saveState 28 = .ok (.isub, 1) := by decide +kernel
theorem dX4_saveState_29 : decode cX4_saveState 29 = .ok (.putfield 239, 3) := by decide +kernel
theorem dX4_saveState_32 : decode cX4_saveState 32 = .ok (.aload_n 0, 1) := by decide +kernel
theorem dX4_saveState_33 : decode cX4_saveState 33 = .ok (.getfield 24, 3) := by decide +kernel
theorem dX4_saveState_36 : decode cX4_saveState 36 = .ok (.aload_n 0, 1) := by decide +kernel
theorem dX4_saveState_37 : decode cX4_saveState 37 = .ok (.getfield 244, 3) := by decide +kernel
theorem dX4_saveState_40 : decode cX4_saveState 40 = .ok (.aload_n 0, 1) := by decide +kernel
theorem dX4_saveState_41 : decode cX4_saveState 41 = .ok (.getfield 239, 3) := by decide +kernel
theorem dX4_saveState_44 : decode cX4_saveState 44 = .ok (.iadd, 1) := by decide +kernel
theorem dX4_saveState_45 : decode cX4_saveState 45 = .ok (.bipush 6, 2) := by decide +kernel
theorem dX4_saveState_47 : decode cX4_saveState 47 = .ok (.irem, 1) := by decide +kernel
theorem dX4_saveState_48 : decode cX4_saveState 48 = .ok (.aaload, 1) := by decide +kernel
theorem dX4_saveState_49 : decode cX4_saveState 49 = .ok (.aload_n 0, 1) := by decide +kernel
theorem dX4_saveState_50 : decode cX4_saveState 50 = .ok (.getfield 12, 3) := by decide +kernel
theorem dX4_saveState_53 : decode cX4_saveState 53 = .ok (.invokevirtual 230, 3) := by decide +kernel
theorem dX4_saveState_56 : decode cX4_saveState 56 = .ok (.aload_n 0, 1) := by decide +kernel
theorem dX4_saveState_57 : decode cX4_saveState 57 = .ok (.dup, 1) := by decide +kernel
theorem dX4_saveState_58 : decode cX4_saveState 58 = .ok (.getfield 239, 3) := by decide +kernel
theorem dX4_saveState_61 : decode cX4_saveState 61 = .ok (.iconst 1, 1) := by decide +kernel
theorem dX4_saveState_62 : decode cX4_saveState 62 = .ok (.iadd, 1) := by decide +kernel
theorem dX4_saveState_63 : decode cX4_saveState 63 = .ok (.putfield 239, 3) := by decide +kernel
theorem dX4_saveState_66 : decode cX4_saveState 66 = .ok (.return_, 1) := by decide +kernel
theorem dX4_refusal_0 : decode cX4_refusal 0 = .ok (.iload_n 1, 1) := by decide +kernel
theorem dX4_refusal_1 : decode cX4_refusal 1 = .ok (.i2l, 1) := by decide +kernel
theorem dX4_refusal_2 : decode cX4_refusal 2 = .ok (.aload_n 0, 1) := by decide +kernel
theorem dX4_refusal_3 : decode cX4_refusal 3 = .ok (.getfield 12, 3) := by decide +kernel
theorem dX4_refusal_6 : decode cX4_refusal 6 = .ok (.getfield 121, 3) := by decide +kernel
theorem dX4_refusal_9 : decode cX4_refusal 9 = .ok (.i2l, 1) := by decide +kernel
theorem dX4_refusal_10 : decode cX4_refusal 10 = .ok (.ladd, 1) := by decide +kernel
theorem dX4_refusal_11 : decode cX4_refusal 11 = .ok (.lstore_n 3, 1) := by decide +kernel
theorem dX4_refusal_12 : decode cX4_refusal 12 = .ok (.iconst 0, 1) := by decide +kernel
theorem dX4_refusal_13 : decode cX4_refusal 13 = .ok (.istore 5, 2) := by decide +kernel
theorem dX4_refusal_15 : decode cX4_refusal 15 = .ok (.iconst 0, 1) := by decide +kernel
theorem dX4_refusal_16 : decode cX4_refusal 16 = .ok (.istore 6, 2) := by decide +kernel
theorem dX4_refusal_18 : decode cX4_refusal 18 = .ok (.iload 6, 2) := by decide +kernel
theorem dX4_refusal_20 : decode cX4_refusal 20 = .ok (.bipush 25, 2) := by decide +kernel
theorem dX4_refusal_22 : decode cX4_refusal 22 = .ok (.if_icmp .ge 47, 3) := by decide +kernel
theorem dX4_refusal_25 : decode cX4_refusal 25 = .ok (.aload_n 0, 1) := by decide +kernel
theorem dX4_refusal_26 : decode cX4_refusal 26 = .ok (.getfield 34, 3) := by decide +kernel
theorem dX4_refusal_29 : decode cX4_refusal 29 = .ok (.iload 6, 2) := by decide +kernel
theorem dX4_refusal_31 : decode cX4_refusal 31 = .ok (.iaload, 1) := by decide +kernel
theorem dX4_refusal_32 : decode cX4_refusal 32 = .ok (.ifCond .le 17, 3) := by decide +kernel
theorem dX4_refusal_35 : decode cX4_refusal 35 = .ok (.iload 6, 2) := by decide +kernel
theorem dX4_refusal_37 : decode cX4_refusal 37 = .ok (.lload_n 3, 1) := by decide +kernel
theorem dX4_refusal_38 : decode cX4_refusal 38 = .ok (.iload_n 2, 1) := by decide +kernel
theorem dX4_refusal_39 : decode cX4_refusal 39 = .ok (.i2l, 1) := by decide +kernel
theorem dX4_refusal_40 : decode cX4_refusal 40 = .ok (.invokestatic 310, 3) := by decide +kernel
theorem dX4_refusal_43 : decode cX4_refusal 43 = .ok (.iconst (-1), 1) := by decide +kernel
theorem dX4_refusal_44 : decode cX4_refusal 44 = .ok (.if_icmp .ne 5, 3) := by decide +kernel
theorem dX4_refusal_47 : decode cX4_refusal 47 = .ok (.iconst 1, 1) := by decide +kernel
theorem dX4_refusal_48 : decode cX4_refusal 48 = .ok (.ireturn, 1) := by decide +kernel
theorem dX4_refusal_49 : decode cX4_refusal 49 = .ok (.iload 5, 2) := by decide +kernel
theorem dX4_refusal_51 : decode cX4_refusal 51 = .ok (.aload_n 0, 1) := by decide +kernel
theorem dX4_refusal_52 : decode cX4_refusal 52 = .ok (.getfield 34, 3) := by decide +kernel
theorem dX4_refusal_55 : decode cX4_refusal 55 = .ok (.iload 6, 2) := by decide +kernel
theorem dX4_refusal_57 : decode cX4_refusal 57 = .ok (.iaload, 1) := by decide +kernel
theorem dX4_refusal_58 : decode cX4_refusal 58 = .ok (.invokestatic 314, 3) := by decide +kernel
theorem dX4_refusal_61 : decode cX4_refusal 61 = .ok (.istore 5, 2) := by decide +kernel
theorem dX4_refusal_63 : decode cX4_refusal 63 = .ok (.iinc 6 1, 3) := by decide +kernel
theorem dX4_refusal_66 : decode cX4_refusal 66 = .ok (.goto (-48), 3) := by decide +kernel
theorem dX4_refusal_69 : decode cX4_refusal 69 = .ok (.iload 5, 2) := by decide +kernel
theorem dX4_refusal_71 : decode cX4_refusal 71 = .ok (.aload_n 0, 1) := by decide +kernel
theorem dX4_refusal_72 : decode cX4_refusal 72 = .ok (.getfield 12, 3) := by decide +kernel
theorem dX4_refusal_75 : decode cX4_refusal 75 = .ok (.getfield 165, 3) := by decide +kernel
theorem dX4_refusal_78 : decode cX4_refusal 78 = .ok (.iconst 2, 1) := by decide +kernel
theorem dX4_refusal_79 : decode cX4_refusal 79 = .ok (.iaload, 1) := by decide +kernel
theorem dX4_refusal_80 : decode cX4_refusal 80 = .ok (.if_icmp .le 5, 3) := by decide +kernel
theorem dX4_refusal_83 : decode cX4_refusal 83 = .ok (.iconst 2, 1) := by decide +kernel
theorem dX4_refusal_84 : decode cX4_refusal 84 = .ok (.ireturn, 1) := by decide +kernel
theorem dX4_refusal_85 : decode cX4_refusal 85 = .ok (.iload 5, 2) := by decide +kernel
theorem dX4_refusal_87 : decode cX4_refusal 87 = .ok (.ifCond .ne 7, 3) := by decide +kernel
theorem dX4_refusal_90 : decode cX4_refusal 90 = .ok (.iconst 3, 1) := by decide +kernel
theorem dX4_refusal_91 : decode cX4_refusal 91 = .ok (.goto 4, 3) := by decide +kernel
theorem dX4_refusal_94 : decode cX4_refusal 94 = .ok (.iconst 0, 1) := by decide +kernel
theorem dX4_refusal_95 : decode cX4_refusal 95 = .ok (.ireturn, 1) := by decide +kernel
theorem dX4_placeUnder_0 : decode cX4_placeUnder 0 = .ok (.lload_n 1, 1) := by decide +kernel
theorem dX4_placeUnder_1 : decode cX4_placeUnder 1 = .ok (.iload_n 0, 1) := by decide +kernel
theorem dX4_placeUnder_2 : decode cX4_placeUnder 2 = .ok (.iconst 5, 1) := by decide +kernel
theorem dX4_placeUnder_3 : decode cX4_placeUnder 3 = .ok (.irem, 1) := by decide +kernel
theorem dX4_placeUnder_4 : decode cX4_placeUnder 4 = .ok (.i2l, 1) := by decide +kernel
theorem dX4_placeUnder_5 : decode cX4_placeUnder 5 = .ok (.ladd, 1) := by decide +kernel
theorem dX4_placeUnder_6 : decode cX4_placeUnder 6 = .ok (.lload_n 3, 1) := by decide +kernel
theorem dX4_placeUnder_7 : decode cX4_placeUnder 7 = .ok (.iload_n 0, 1) := by decide +kernel
theorem dX4_placeUnder_8 : decode cX4_placeUnder 8 = .ok (.iconst 5, 1) := by decide +kernel
theorem dX4_placeUnder_9 : decode cX4_placeUnder 9 = .ok (.idiv, 1) := by decide +kernel
theorem dX4_placeUnder_10 : decode cX4_placeUnder 10 = .ok (.i2l, 1) := by decide +kernel
theorem dX4_placeUnder_11 : decode cX4_placeUnder 11 = .ok (.ladd, 1) := by decide +kernel
theorem dX4_placeUnder_12 : decode cX4_placeUnder 12 = .ok (.invokestatic 82, 3) := by decide +kernel
theorem dX4_placeUnder_15 : decode cX4_placeUnder 15 = .ok (.ireturn, 1) := by decide +kernel
theorem dX4_pressRelief_0 : decode cX4_pressRelief 0 = .ok (.iload_n 1, 1) := by decide +kernel
theorem dX4_pressRelief_1 : decode cX4_pressRelief 1 = .ok (.i2l, 1) := by decide +kernel
theorem dX4_pressRelief_2 : decode cX4_pressRelief 2 = .ok (.aload_n 0, 1) := by decide +kernel
theorem dX4_pressRelief_3 : decode cX4_pressRelief 3 = .ok (.getfield 12, 3) := by decide +kernel
theorem dX4_pressRelief_6 : decode cX4_pressRelief 6 = .ok (.getfield 121, 3) := by decide +kernel
theorem dX4_pressRelief_9 : decode cX4_pressRelief 9 = .ok (.i2l, 1) := by decide +kernel
theorem dX4_pressRelief_10 : decode cX4_pressRelief 10 = .ok (.ladd, 1) := by decide +kernel
theorem dX4_pressRelief_11 : decode cX4_pressRelief 11 = .ok (.lstore_n 3, 1) := by decide +kernel
theorem dX4_pressRelief_12 : decode cX4_pressRelief 12 = .ok (.aload_n 0, 1) := by decide +kernel
theorem dX4_pressRelief_13 : decode cX4_pressRelief 13 = .ok (.getfield 12, 3) := by decide +kernel
theorem dX4_pressRelief_16 : decode cX4_pressRelief 16 = .ok (.getfield 88, 3) := by decide +kernel
theorem dX4_pressRelief_19 : decode cX4_pressRelief 19 = .ok (.aload_n 0, 1) := by decide +kernel
theorem dX4_pressRelief_20 : decode cX4_pressRelief 20 = .ok (.getfield 34, 3) := by decide +kernel
theorem dX4_pressRelief_23 : decode cX4_pressRelief 23 = .ok (.lload_n 3, 1) := by decide +kernel
theorem dX4_pressRelief_24 : decode cX4_pressRelief 24 = .ok (.iload_n 2, 1) := by decide +kernel
theorem dX4_pressRelief_25 : decode cX4_pressRelief 25 = .ok (.i2l, 1) := by decide +kernel
theorem dX4_pressRelief_26 : decode cX4_pressRelief 26 = .ok (.invokevirtual 317, 3) := by decide +kernel
theorem dX4_pressRelief_29 : decode cX4_pressRelief 29 = .ok (.aload_n 0, 1) := by decide +kernel
theorem dX4_pressRelief_30 : decode cX4_pressRelief 30 = .ok (.getfield 12, 3) := by decide +kernel
theorem dX4_pressRelief_33 : decode cX4_pressRelief 33 = .ok (.aload_n 0, 1) := by decide +kernel
theorem dX4_pressRelief_34 : decode cX4_pressRelief 34 = .ok (.getfield 34, 3) := by decide +kernel
theorem dX4_pressRelief_37 : decode cX4_pressRelief 37 = .ok (.lload_n 3, 1) := by decide +kernel
theorem dX4_pressRelief_38 : decode cX4_pressRelief 38 = .ok (.iload_n 2, 1) := by decide +kernel
theorem dX4_pressRelief_39 : decode cX4_pressRelief 39 = .ok (.i2l, 1) := by decide +kernel
theorem dX4_pressRelief_40 : decode cX4_pressRelief 40 = .ok (.invokevirtual 321, 3) := by decide +kernel
theorem dX4_pressRelief_43 : decode cX4_pressRelief 43 = .ok (.aload_n 0, 1) := by decide +kernel
theorem dX4_pressRelief_44 : decode cX4_pressRelief 44 = .ok (.getfield 48, 3) := by decide +kernel
theorem dX4_pressRelief_47 : decode cX4_pressRelief 47 = .ok (.aload_n 0, 1) := by decide +kernel
theorem dX4_pressRelief_48 : decode cX4_pressRelief 48 = .ok (.getfield 12, 3) := by decide +kernel
theorem dX4_pressRelief_51 : decode cX4_pressRelief 51 = .ok (.getfield 88, 3) := by decide +kernel
theorem dX4_pressRelief_54 : decode cX4_pressRelief 54 = .ok (.aload_n 0, 1) := by decide +kernel
theorem dX4_pressRelief_55 : decode cX4_pressRelief 55 = .ok (.getfield 12, 3) := by decide +kernel
theorem dX4_pressRelief_58 : decode cX4_pressRelief 58 = .ok (.getfield 165, 3) := by decide +kernel
theorem dX4_pressRelief_61 : decode cX4_pressRelief 61 = .ok (.iconst 0, 1) := by decide +kernel
theorem dX4_pressRelief_62 : decode cX4_pressRelief 62 = .ok (.iaload, 1) := by decide +kernel
theorem dX4_pressRelief_63 : decode cX4_pressRelief 63 = .ok (.aload_n 0, 1) := by decide +kernel
theorem dX4_pressRelief_64 : decode cX4_pressRelief 64 = .ok (.getfield 12, 3) := by decide +kernel
theorem dX4_pressRelief_67 : decode cX4_pressRelief 67 = .ok (.getfield 165, 3) := by decide +kernel
theorem dX4_pressRelief_70 : decode cX4_pressRelief 70 = .ok (.iconst 1, 1) := by decide +kernel
theorem dX4_pressRelief_71 : decode cX4_pressRelief 71 = .ok (.iaload, 1) := by decide +kernel
theorem dX4_pressRelief_72 : decode cX4_pressRelief 72 = .ok (.invokevirtual 172, 3) := by decide +kernel
theorem dX4_pressRelief_75 : decode cX4_pressRelief 75 = .ok (.istore 5, 2) := by decide +kernel
theorem dX4_pressRelief_77 : decode cX4_pressRelief 77 = .ok (.aload_n 0, 1) := by decide +kernel
theorem dX4_pressRelief_78 : decode cX4_pressRelief 78 = .ok (.getfield 12, 3) := by decide +kernel
theorem dX4_pressRelief_81 : decode cX4_pressRelief 81 = .ok (.dup, 1) := by decide +kernel
theorem dX4_pressRelief_82 : decode cX4_pressRelief 82 = .ok (.getfield 176, 3) := by decide +kernel
theorem dX4_pressRelief_85 : decode cX4_pressRelief 85 = .ok (.iload 5, 2) := by decide +kernel
theorem dX4_pressRelief_87 : decode cX4_pressRelief 87 = .ok (.iadd, 1) := by decide +kernel
theorem dX4_pressRelief_88 : decode cX4_pressRelief 88 = .ok (.putfield 176, 3) := by decide +kernel
theorem dX4_pressRelief_91 : decode cX4_pressRelief 91 = .ok (.aload_n 0, 1) := by decide +kernel
theorem dX4_pressRelief_92 : decode cX4_pressRelief 92 = .ok (.getfield 12, 3) := by decide +kernel
theorem dX4_pressRelief_95 : decode cX4_pressRelief 95 = .ok (.dup, 1) := by decide +kernel
theorem dX4_pressRelief_96 : decode cX4_pressRelief 96 = .ok (.getfield 234, 3) := by decide +kernel
theorem dX4_pressRelief_99 : decode cX4_pressRelief 99 = .ok (.iconst 1, 1) := by decide +kernel
theorem dX4_pressRelief_100 : decode cX4_pressRelief 100 = .ok (.iadd, 1) := by decide +kernel
theorem dX4_pressRelief_101 : decode cX4_pressRelief 101 = .ok (.putfield 234, 3) := by decide +kernel
theorem dX4_pressRelief_104 : decode cX4_pressRelief 104 = .ok (.aload_n 0, 1) := by decide +kernel
theorem dX4_pressRelief_105 : decode cX4_pressRelief 105 = .ok (.getfield 12, 3) := by decide +kernel
theorem dX4_pressRelief_108 : decode cX4_pressRelief 108 = .ok (.dup, 1) := by decide +kernel
theorem dX4_pressRelief_109 : decode cX4_pressRelief 109 = .ok (.getfield 324, 3) := by decide +kernel
theorem dX4_pressRelief_112 : decode cX4_pressRelief 112 = .ok (.iconst 1, 1) := by decide +kernel
theorem dX4_pressRelief_113 : decode cX4_pressRelief 113 = .ok (.iadd, 1) := by decide +kernel
theorem dX4_pressRelief_114 : decode cX4_pressRelief 114 = .ok (.putfield 324, 3) := by decide +kernel
theorem dX4_pressRelief_117 : decode cX4_pressRelief 117 = .ok (.aload_n 0, 1) := by decide +kernel
theorem dX4_pressRelief_118 : decode cX4_pressRelief 118 = .ok (.getfield 12, 3) := by decide +kernel
theorem dX4_pressRelief_121 : decode cX4_pressRelief 121 = .ok (.invokevirtual 327, 3) := by decide +kernel
theorem dX4_pressRelief_124 : decode cX4_pressRelief 124 = .ok (.iload 5, 2) := by decide +kernel
theorem dX4_pressRelief_126 : decode cX4_pressRelief 126 = .ok (.ireturn, 1) := by decide +kernel
theorem dX4_propertyOf_0 : decode cX4_propertyOf 0 = .ok (.aload_n 0, 1) := by decide +kernel
theorem dX4_propertyOf_1 : decode cX4_propertyOf 1 = .ok (.getfield 12, 3) := by decide +kernel
theorem dX4_propertyOf_4 : decode cX4_propertyOf 4 = .ok (.getfield 88, 3) := by decide +kernel
theorem dX4_propertyOf_7 : decode cX4_propertyOf 7 = .ok (.astore_n 3, 1) := by decide +kernel
theorem dX4_propertyOf_8 : decode cX4_propertyOf 8 = .ok (.iload_n 2, 1) := by decide +kernel
theorem dX4_propertyOf_9 : decode cX4_propertyOf 9 = .ok (.tableswitch 107 0 5 #[39, 46, 53, 60, 66, 90], 39) := by decide +kernel
theorem dX4_propertyOf_48 : decode cX4_propertyOf 48 = .ok (.aload_n 3, 1) := by decide +kernel
theorem dX4_propertyOf_49 : decode cX4_propertyOf 49 = .ok (.getfield 343, 3) := by decide +kernel
theorem dX4_propertyOf_52 : decode cX4_propertyOf 52 = .ok (.iload_n 1, 1) := by decide +kernel
theorem dX4_propertyOf_53 : decode cX4_propertyOf 53 = .ok (.iaload, 1) := by decide +kernel
theorem dX4_propertyOf_54 : decode cX4_propertyOf 54 = .ok (.ireturn, 1) := by decide +kernel
theorem dX4_propertyOf_55 : decode cX4_propertyOf 55 = .ok (.aload_n 3, 1) := by decide +kernel
theorem dX4_propertyOf_56 : decode cX4_propertyOf 56 = .ok (.getfield 346, 3) := by decide +kernel
theorem dX4_propertyOf_59 : decode cX4_propertyOf 59 = .ok (.iload_n 1, 1) := by decide +kernel
theorem dX4_propertyOf_60 : decode cX4_propertyOf 60 = .ok (.iaload, 1) := by decide +kernel
theorem dX4_propertyOf_61 : decode cX4_propertyOf 61 = .ok (.ireturn, 1) := by decide +kernel
theorem dX4_propertyOf_62 : decode cX4_propertyOf 62 = .ok (.aload_n 3, 1) := by decide +kernel
theorem dX4_propertyOf_63 : decode cX4_propertyOf 63 = .ok (.getfield 349, 3) := by decide +kernel
theorem dX4_propertyOf_66 : decode cX4_propertyOf 66 = .ok (.iload_n 1, 1) := by decide +kernel
theorem dX4_propertyOf_67 : decode cX4_propertyOf 67 = .ok (.iaload, 1) := by decide +kernel
theorem dX4_propertyOf_68 : decode cX4_propertyOf 68 = .ok (.ireturn, 1) := by decide +kernel
theorem dX4_propertyOf_69 : decode cX4_propertyOf 69 = .ok (.aload_n 3, 1) := by decide +kernel
theorem dX4_propertyOf_70 : decode cX4_propertyOf 70 = .ok (.iload_n 1, 1) := by decide +kernel
theorem dX4_propertyOf_71 : decode cX4_propertyOf 71 = .ok (.invokevirtual 352, 3) := by decide +kernel
theorem dX4_propertyOf_74 : decode cX4_propertyOf 74 = .ok (.ireturn, 1) := by decide +kernel
theorem dX4_propertyOf_75 : decode cX4_propertyOf 75 = .ok (.aload_n 3, 1) := by decide +kernel
theorem dX4_propertyOf_76 : decode cX4_propertyOf 76 = .ok (.iload_n 1, 1) := by decide +kernel
theorem dX4_propertyOf_77 : decode cX4_propertyOf 77 = .ok (.aload_n 0, 1) := by decide +kernel
theorem dX4_propertyOf_78 : decode cX4_propertyOf 78 = .ok (.getfield 12, 3) := by decide +kernel
theorem dX4_propertyOf_81 : decode cX4_propertyOf 81 = .ok (.getfield 165, 3) := by decide +kernel
theorem dX4_propertyOf_84 : decode cX4_propertyOf 84 = .ok (.iconst 0, 1) := by decide +kernel
theorem dX4_propertyOf_85 : decode cX4_propertyOf 85 = .ok (.iaload, 1) := by decide +kernel
theorem dX4_propertyOf_86 : decode cX4_propertyOf 86 = .ok (.aload_n 0, 1) := by decide +kernel
theorem dX4_propertyOf_87 : decode cX4_propertyOf 87 = .ok (.getfield 12, 3) := by decide +kernel
theorem dX4_propertyOf_90 : decode cX4_propertyOf 90 = .ok (.getfield 165, 3) := by decide +kernel
theorem dX4_propertyOf_93 : decode cX4_propertyOf 93 = .ok (.iconst 1, 1) := by decide +kernel
theorem dX4_propertyOf_94 : decode cX4_propertyOf 94 = .ok (.iaload, 1) := by decide +kernel
theorem dX4_propertyOf_95 : decode cX4_propertyOf 95 = .ok (.invokevirtual 355, 3) := by decide +kernel
theorem dX4_propertyOf_98 : decode cX4_propertyOf 98 = .ok (.ireturn, 1) := by decide +kernel
theorem dX4_propertyOf_99 : decode cX4_propertyOf 99 = .ok (.aload_n 0, 1) := by decide +kernel
theorem dX4_propertyOf_100 : decode cX4_propertyOf 100 = .ok (.getfield 12, 3) := by decide +kernel
theorem dX4_propertyOf_103 : decode cX4_propertyOf 103 = .ok (.iload_n 1, 1) := by decide +kernel
theorem dX4_propertyOf_104 : decode cX4_propertyOf 104 = .ok (.invokevirtual 358, 3) := by decide +kernel
theorem dX4_propertyOf_107 : decode cX4_propertyOf 107 = .ok (.ifCond .eq 7, 3) := by decide +kernel
theorem dX4_propertyOf_110 : decode cX4_propertyOf 110 = .ok (.iconst 1, 1) := by decide +kernel
theorem dX4_propertyOf_111 : decode cX4_propertyOf 111 = .ok (.goto 4, 3) := by decide +kernel
theorem dX4_propertyOf_114 : decode cX4_propertyOf 114 = .ok (.iconst 0, 1) := by decide +kernel
theorem dX4_propertyOf_115 : decode cX4_propertyOf 115 = .ok (.ireturn, 1) := by decide +kernel
theorem dX4_propertyOf_116 : decode cX4_propertyOf 116 = .ok (.aload_n 3, 1) := by decide +kernel
theorem dX4_propertyOf_117 : decode cX4_propertyOf 117 = .ok (.getfield 361, 3) := by decide +kernel
theorem dX4_propertyOf_120 : decode cX4_propertyOf 120 = .ok (.iload_n 1, 1) := by decide +kernel
theorem dX4_propertyOf_121 : decode cX4_propertyOf 121 = .ok (.iaload, 1) := by decide +kernel
theorem dX4_propertyOf_122 : decode cX4_propertyOf 122 = .ok (.ireturn, 1) := by decide +kernel
theorem dX4_numberOf_0 : decode cX4_numberOf 0 = .ok (.iload_n 1, 1) := by decide +kernel
theorem dX4_numberOf_1 : decode cX4_numberOf 1 = .ok (.tableswitch 186 0 12 #[67, 75, 83, 91, 99, 110, 121, 132, 143, 154, 162, 170, 178], 67) := by decide +kernel
theorem dX4_numberOf_68 : decode cX4_numberOf 68 = .ok (.aload_n 0, 1) := by decide +kernel
theorem dX4_numberOf_69 : decode cX4_numberOf 69 = .ok (.getfield 12, 3) := by decide +kernel
theorem dX4_numberOf_72 : decode cX4_numberOf 72 = .ok (.getfield 234, 3) := by decide +kernel
theorem dX4_numberOf_75 : decode cX4_numberOf 75 = .ok (.ireturn, 1) := by decide +kernel
theorem dX4_numberOf_76 : decode cX4_numberOf 76 = .ok (.aload_n 0, 1) := by decide +kernel
theorem dX4_numberOf_77 : decode cX4_numberOf 77 = .ok (.getfield 12, 3) := by decide +kernel
theorem dX4_numberOf_80 : decode cX4_numberOf 80 = .ok (.getfield 324, 3) := by decide +kernel
theorem dX4_numberOf_83 : decode cX4_numberOf 83 = .ok (.ireturn, 1) := by decide +kernel
theorem dX4_numberOf_84 : decode cX4_numberOf 84 = .ok (.aload_n 0, 1) := by decide +kernel
theorem dX4_numberOf_85 : decode cX4_numberOf 85 = .ok (.getfield 12, 3) := by decide +kernel
theorem dX4_numberOf_88 : decode cX4_numberOf 88 = .ok (.getfield 121, 3) := by decide +kernel
theorem dX4_numberOf_91 : decode cX4_numberOf 91 = .ok (.ireturn, 1) := by decide +kernel
theorem dX4_numberOf_92 : decode cX4_numberOf 92 = .ok (.aload_n 0, 1) := by decide +kernel
theorem dX4_numberOf_93 : decode cX4_numberOf 93 = .ok (.getfield 12, 3) := by decide +kernel
theorem dX4_numberOf_96 : decode cX4_numberOf 96 = .ok (.getfield 154, 3) := by decide +kernel
theorem dX4_numberOf_99 : decode cX4_numberOf 99 = .ok (.ireturn, 1) := by decide +kernel
theorem dX4_numberOf_100 : decode cX4_numberOf 100 = .ok (.aload_n 0, 1) := by decide +kernel
theorem dX4_numberOf_101 : decode cX4_numberOf 101 = .ok (.getfield 12, 3) := by decide +kernel
theorem dX4_numberOf_104 : decode cX4_numberOf 104 = .ok (.getfield 88, 3) := by decide +kernel
theorem dX4_numberOf_107 : decode cX4_numberOf 107 = .ok (.invokevirtual 104, 3) := by decide +kernel
theorem dX4_numberOf_110 : decode cX4_numberOf 110 = .ok (.ireturn, 1) := by decide +kernel
theorem dX4_numberOf_111 : decode cX4_numberOf 111 = .ok (.aload_n 0, 1) := by decide +kernel
theorem dX4_numberOf_112 : decode cX4_numberOf 112 = .ok (.getfield 12, 3) := by decide +kernel
theorem dX4_numberOf_115 : decode cX4_numberOf 115 = .ok (.getfield 88, 3) := by decide +kernel
theorem dX4_numberOf_118 : decode cX4_numberOf 118 = .ok (.invokevirtual 364, 3) := by decide +kernel
theorem dX4_numberOf_121 : decode cX4_numberOf 121 = .ok (.ireturn, 1) := by decide +kernel
theorem dX4_numberOf_122 : decode cX4_numberOf 122 = .ok (.aload_n 0, 1) := by decide +kernel
theorem dX4_numberOf_123 : decode cX4_numberOf 123 = .ok (.getfield 12, 3) := by decide +kernel
theorem dX4_numberOf_126 : decode cX4_numberOf 126 = .ok (.getfield 88, 3) := by decide +kernel
theorem dX4_numberOf_129 : decode cX4_numberOf 129 = .ok (.invokevirtual 367, 3) := by decide +kernel
theorem dX4_numberOf_132 : decode cX4_numberOf 132 = .ok (.ireturn, 1) := by decide +kernel
theorem dX4_numberOf_133 : decode cX4_numberOf 133 = .ok (.aload_n 0, 1) := by decide +kernel
theorem dX4_numberOf_134 : decode cX4_numberOf 134 = .ok (.getfield 12, 3) := by decide +kernel
theorem dX4_numberOf_137 : decode cX4_numberOf 137 = .ok (.getfield 88, 3) := by decide +kernel
theorem dX4_numberOf_140 : decode cX4_numberOf 140 = .ok (.invokevirtual 370, 3) := by decide +kernel
theorem dX4_numberOf_143 : decode cX4_numberOf 143 = .ok (.ireturn, 1) := by decide +kernel
theorem dX4_numberOf_144 : decode cX4_numberOf 144 = .ok (.aload_n 0, 1) := by decide +kernel
theorem dX4_numberOf_145 : decode cX4_numberOf 145 = .ok (.getfield 12, 3) := by decide +kernel
theorem dX4_numberOf_148 : decode cX4_numberOf 148 = .ok (.getfield 88, 3) := by decide +kernel
theorem dX4_numberOf_151 : decode cX4_numberOf 151 = .ok (.invokevirtual 373, 3) := by decide +kernel
theorem dX4_numberOf_154 : decode cX4_numberOf 154 = .ok (.ireturn, 1) := by decide +kernel
theorem dX4_numberOf_155 : decode cX4_numberOf 155 = .ok (.aload_n 0, 1) := by decide +kernel
theorem dX4_numberOf_156 : decode cX4_numberOf 156 = .ok (.getfield 12, 3) := by decide +kernel
theorem dX4_numberOf_159 : decode cX4_numberOf 159 = .ok (.getfield 114, 3) := by decide +kernel
theorem dX4_numberOf_162 : decode cX4_numberOf 162 = .ok (.ireturn, 1) := by decide +kernel
theorem dX4_numberOf_163 : decode cX4_numberOf 163 = .ok (.aload_n 0, 1) := by decide +kernel
theorem dX4_numberOf_164 : decode cX4_numberOf 164 = .ok (.getfield 12, 3) := by decide +kernel
theorem dX4_numberOf_167 : decode cX4_numberOf 167 = .ok (.getfield 176, 3) := by decide +kernel
theorem dX4_numberOf_170 : decode cX4_numberOf 170 = .ok (.ireturn, 1) := by decide +kernel
theorem dX4_numberOf_171 : decode cX4_numberOf 171 = .ok (.aload_n 0, 1) := by decide +kernel
theorem dX4_numberOf_172 : decode cX4_numberOf 172 = .ok (.getfield 12, 3) := by decide +kernel
theorem dX4_numberOf_175 : decode cX4_numberOf 175 = .ok (.getfield 118, 3) := by decide +kernel
theorem dX4_numberOf_178 : decode cX4_numberOf 178 = .ok (.ireturn, 1) := by decide +kernel
theorem dX4_numberOf_179 : decode cX4_numberOf 179 = .ok (.aload_n 0, 1) := by decide +kernel
theorem dX4_numberOf_180 : decode cX4_numberOf 180 = .ok (.getfield 12, 3) := by decide +kernel
theorem dX4_numberOf_183 : decode cX4_numberOf 183 = .ok (.getfield 179, 3) := by decide +kernel
theorem dX4_numberOf_186 : decode cX4_numberOf 186 = .ok (.ireturn, 1) := by decide +kernel
theorem dX4_numberOf_187 : decode cX4_numberOf 187 = .ok (.aload_n 0, 1) := by decide +kernel
theorem dX4_numberOf_188 : decode cX4_numberOf 188 = .ok (.getfield 239, 3) := by decide +kernel
theorem dX4_numberOf_191 : decode cX4_numberOf 191 = .ok (.ireturn, 1) := by decide +kernel
