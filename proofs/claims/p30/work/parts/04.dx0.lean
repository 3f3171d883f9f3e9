theorem dX0_init_0 : decode cX0_init 0 = .ok (.aload_n 0, 1) := by decide +kernel
theorem dX0_init_1 : decode cX0_init 1 = .ok (.invokespecial 3, 3) := by decide +kernel
theorem dX0_init_4 : decode cX0_init 4 = .ok (.aload_n 0, 1) := by decide +kernel
theorem dX0_init_5 : decode cX0_init 5 = .ok (.sipush 144, 3) := by decide +kernel
theorem dX0_init_8 : decode cX0_init 8 = .ok (.newarray .int, 2) := by decide +kernel
theorem dX0_init_10 : decode cX0_init 10 = .ok (.putfield 9, 3) := by decide +kernel
theorem dX0_init_13 : decode cX0_init 13 = .ok (.aload_n 0, 1) := by decide +kernel
theorem dX0_init_14 : decode cX0_init 14 = .ok (.sipush 144, 3) := by decide +kernel
theorem dX0_init_17 : decode cX0_init 17 = .ok (.newarray .int, 2) := by decide +kernel
theorem dX0_init_19 : decode cX0_init 19 = .ok (.putfield 15, 3) := by decide +kernel
theorem dX0_init_22 : decode cX0_init 22 = .ok (.aload_n 0, 1) := by decide +kernel
theorem dX0_init_23 : decode cX0_init 23 = .ok (.sipush 144, 3) := by decide +kernel
theorem dX0_init_26 : decode cX0_init 26 = .ok (.newarray .int, 2) := by decide +kernel
theorem dX0_init_28 : decode cX0_init 28 = .ok (.putfield 18, 3) := by decide +kernel
theorem dX0_init_31 : decode cX0_init 31 = .ok (.return_, 1) := by decide +kernel
theorem dX0_crackAll_0 : decode cX0_crackAll 0 = .ok (.iconst 0, 1) := by decide +kernel
theorem dX0_crackAll_1 : decode cX0_crackAll 1 = .ok (.istore 4, 2) := by decide +kernel
theorem dX0_crackAll_3 : decode cX0_crackAll 3 = .ok (.iload 4, 2) := by decide +kernel
theorem dX0_crackAll_5 : decode cX0_crackAll 5 = .ok (.sipush 144, 3) := by decide +kernel
theorem dX0_crackAll_8 : decode cX0_crackAll 8 = .ok (.if_icmp .ge 35, 3) := by decide +kernel
theorem dX0_crackAll_11 : decode cX0_crackAll 11 = .ok (.aload_n 0, 1) := by decide +kernel
theorem dX0_crackAll_12 : decode cX0_crackAll 12 = .ok (.getfield 9, 3) := by decide +kernel
theorem dX0_crackAll_15 : decode cX0_crackAll 15 = .ok (.iload 4, 2) := by decide +kernel
theorem dX0_crackAll_17 : decode cX0_crackAll 17 = .ok (.aload_n 1, 1) := by decide +kernel
theorem dX0_crackAll_18 : decode cX0_crackAll 18 = .ok (.iload 4, 2) := by decide +kernel
theorem dX0_crackAll_20 : decode cX0_crackAll 20 = .ok (.invokevirtual 21, 3) := by decide +kernel
theorem dX0_crackAll_23 : decode cX0_crackAll 23 = .ok (.iastore, 1) := by decide +kernel
theorem dX0_crackAll_24 : decode cX0_crackAll 24 = .ok (.aload_n 0, 1) := by decide +kernel
theorem dX0_crackAll_25 : decode cX0_crackAll 25 = .ok (.getfield 15, 3) := by decide +kernel
theorem dX0_crackAll_28 : decode cX0_crackAll 28 = .ok (.iload 4, 2) := by decide +kernel
theorem dX0_crackAll_30 : decode cX0_crackAll 30 = .ok (.aload_n 1, 1) := by decide +kernel
theorem dX0_crackAll_31 : decode cX0_crackAll 31 = .ok (.iload 4, 2) := by decide +kernel
theorem dX0_crackAll_33 : decode cX0_crackAll 33 = .ok (.invokevirtual 27, 3) := by decide +kernel
theorem dX0_crackAll_36 : decode cX0_crackAll 36 = .ok (.iastore, 1) := by decide +kernel
theorem dX0_crackAll_37 : decode cX0_crackAll 37 = .ok (.iinc 4 1, 3) := by decide +kernel
theorem dX0_crackAll_40 : decode cX0_crackAll 40 = .ok (.goto (-37), 3) := by decide +kernel
theorem dX0_crackAll_43 : decode cX0_crackAll 43 = .ok (.iconst 0, 1) := by decide +kernel
theorem dX0_crackAll_44 : decode cX0_crackAll 44 = .ok (.istore 4, 2) := by decide +kernel
theorem dX0_crackAll_46 : decode cX0_crackAll 46 = .ok (.iconst 0, 1) := by decide +kernel
theorem dX0_crackAll_47 : decode cX0_crackAll 47 = .ok (.istore 5, 2) := by decide +kernel
theorem dX0_crackAll_49 : decode cX0_crackAll 49 = .ok (.iload 5, 2) := by decide +kernel
theorem dX0_crackAll_51 : decode cX0_crackAll 51 = .ok (.sipush 144, 3) := by decide +kernel
theorem dX0_crackAll_54 : decode cX0_crackAll 54 = .ok (.if_icmp .gt 36, 3) := by decide +kernel
theorem dX0_crackAll_57 : decode cX0_crackAll 57 = .ok (.aload_n 0, 1) := by decide +kernel
theorem dX0_crackAll_58 : decode cX0_crackAll 58 = .ok (.aload_n 1, 1) := by decide +kernel
theorem dX0_crackAll_59 : decode cX0_crackAll 59 = .ok (.iload_n 2, 1) := by decide +kernel
theorem dX0_crackAll_60 : decode cX0_crackAll 60 = .ok (.iload_n 3, 1) := by decide +kernel
theorem dX0_crackAll_61 : decode cX0_crackAll 61 = .ok (.invokevirtual 30, 3) := by decide +kernel
theorem dX0_crackAll_64 : decode cX0_crackAll 64 = .ok (.aload_n 0, 1) := by decide +kernel
theorem dX0_crackAll_65 : decode cX0_crackAll 65 = .ok (.getfield 34, 3) := by decide +kernel
theorem dX0_crackAll_68 : decode cX0_crackAll 68 = .ok (.ifCond .ne 6, 3) := by decide +kernel
theorem dX0_crackAll_71 : decode cX0_crackAll 71 = .ok (.goto 19, 3) := by decide +kernel
theorem dX0_crackAll_74 : decode cX0_crackAll 74 = .ok (.iload 4, 2) := by decide +kernel
theorem dX0_crackAll_76 : decode cX0_crackAll 76 = .ok (.aload_n 0, 1) := by decide +kernel
theorem dX0_crackAll_77 : decode cX0_crackAll 77 = .ok (.aload_n 1, 1) := by decide +kernel
theorem dX0_crackAll_78 : decode cX0_crackAll 78 = .ok (.invokevirtual 38, 3) := by decide +kernel
theorem dX0_crackAll_81 : decode cX0_crackAll 81 = .ok (.iadd, 1) := by decide +kernel
theorem dX0_crackAll_82 : decode cX0_crackAll 82 = .ok (.istore 4, 2) := by decide +kernel
theorem dX0_crackAll_84 : decode cX0_crackAll 84 = .ok (.iinc 5 1, 3) := by decide +kernel
theorem dX0_crackAll_87 : decode cX0_crackAll 87 = .ok (.goto (-38), 3) := by decide +kernel
theorem dX0_crackAll_90 : decode cX0_crackAll 90 = .ok (.iload 4, 2) := by decide +kernel
theorem dX0_crackAll_92 : decode cX0_crackAll 92 = .ok (.ireturn, 1) := by decide +kernel
theorem dX0_crackAtFold_0 : decode cX0_crackAtFold 0 = .ok (.aload_n 0, 1) := by decide +kernel
theorem dX0_crackAtFold_1 : decode cX0_crackAtFold 1 = .ok (.iconst 0, 1) := by decide +kernel
theorem dX0_crackAtFold_2 : decode cX0_crackAtFold 2 = .ok (.putfield 34, 3) := by decide +kernel
theorem dX0_crackAtFold_5 : decode cX0_crackAtFold 5 = .ok (.iconst 0, 1) := by decide +kernel
theorem dX0_crackAtFold_6 : decode cX0_crackAtFold 6 = .ok (.istore 5, 2) := by decide +kernel
theorem dX0_crackAtFold_8 : decode cX0_crackAtFold 8 = .ok (.iload 5, 2) := by decide +kernel
theorem dX0_crackAtFold_10 : decode cX0_crackAtFold 10 = .ok (.bipush 12, 2) := by decide +kernel
theorem dX0_crackAtFold_12 : decode cX0_crackAtFold 12 = .ok (.if_icmp .ge 102, 3) := by decide +kernel
theorem dX0_crackAtFold_15 : decode cX0_crackAtFold 15 = .ok (.iload 5, 2) := by decide +kernel
theorem dX0_crackAtFold_17 : decode cX0_crackAtFold 17 = .ok (.i2l, 1) := by decide +kernel
theorem dX0_crackAtFold_18 : decode cX0_crackAtFold 18 = .ok (.iload_n 2, 1) := by decide +kernel
theorem dX0_crackAtFold_19 : decode cX0_crackAtFold 19 = .ok (.i2l, 1) := by decide +kernel
theorem dX0_crackAtFold_20 : decode cX0_crackAtFold 20 = .ok (.invokestatic 42, 3) := by decide +kernel
theorem dX0_crackAtFold_23 : decode cX0_crackAtFold 23 = .ok (.istore 6, 2) := by decide +kernel
theorem dX0_crackAtFold_25 : decode cX0_crackAtFold 25 = .ok (.iload 5, 2) := by decide +kernel
theorem dX0_crackAtFold_27 : decode cX0_crackAtFold 27 = .ok (.i2l, 1) := by decide +kernel
theorem dX0_crackAtFold_28 : decode cX0_crackAtFold 28 = .ok (.iload_n 2, 1) := by decide +kernel
theorem dX0_crackAtFold_29 : decode cX0_crackAtFold 29 = .ok (.iconst 1, 1) := by decide +kernel
theorem dX0_crackAtFold_30 : decode cX0_crackAtFold 30 = .ok (.isub, 1) := by decide +kernel
theorem dX0_crackAtFold_31 : decode cX0_crackAtFold 31 = .ok (.i2l, 1) := by decide +kernel
theorem dX0_crackAtFold_32 : decode cX0_crackAtFold 32 = .ok (.invokestatic 42, 3) := by decide +kernel
theorem dX0_crackAtFold_35 : decode cX0_crackAtFold 35 = .ok (.istore 7, 2) := by decide +kernel
theorem dX0_crackAtFold_37 : decode cX0_crackAtFold 37 = .ok (.iload 6, 2) := by decide +kernel
theorem dX0_crackAtFold_39 : decode cX0_crackAtFold 39 = .ok (.iconst (-1), 1) := by decide +kernel
theorem dX0_crackAtFold_40 : decode cX0_crackAtFold 40 = .ok (.if_icmp .eq 68, 3) := by decide +kernel
theorem dX0_crackAtFold_43 : decode cX0_crackAtFold 43 = .ok (.iload 7, 2) := by decide +kernel
theorem dX0_crackAtFold_45 : decode cX0_crackAtFold 45 = .ok (.iconst (-1), 1) := by decide +kernel
theorem dX0_crackAtFold_46 : decode cX0_crackAtFold 46 = .ok (.if_icmp .ne 6, 3) := by decide +kernel
theorem dX0_crackAtFold_49 : decode cX0_crackAtFold 49 = .ok (.goto 59, 3) := by decide +kernel
theorem dX0_crackAtFold_52 : decode cX0_crackAtFold 52 = .ok (.aload_n 1, 1) := by decide +kernel
theorem dX0_crackAtFold_53 : decode cX0_crackAtFold 53 = .ok (.iload 6, 2) := by decide +kernel
theorem dX0_crackAtFold_55 : decode cX0_crackAtFold 55 = .ok (.iload 7, 2) := by decide +kernel
theorem dX0_crackAtFold_57 : decode cX0_crackAtFold 57 = .ok (.invokevirtual 46, 3) := by decide +kernel
theorem dX0_crackAtFold_60 : decode cX0_crackAtFold 60 = .ok (.istore 8, 2) := by decide +kernel
theorem dX0_crackAtFold_62 : decode cX0_crackAtFold 62 = .ok (.iload 8, 2) := by decide +kernel
theorem dX0_crackAtFold_64 : decode cX0_crackAtFold 64 = .ok (.aload_n 1, 1) := by decide +kernel
theorem dX0_crackAtFold_65 : decode cX0_crackAtFold 65 = .ok (.iload 7, 2) := by decide +kernel
theorem dX0_crackAtFold_67 : decode cX0_crackAtFold 67 = .ok (.iload_n 3, 1) := by decide +kernel
theorem dX0_crackAtFold_68 : decode cX0_crackAtFold 68 = .ok (.iload 4, 2) := by decide +kernel
theorem dX0_crackAtFold_70 : decode cX0_crackAtFold 70 = .ok (.invokevirtual 50, 3) := by decide +kernel
theorem dX0_crackAtFold_73 : decode cX0_crackAtFold 73 = .ok (.iconst 2, 1) := by decide +kernel
theorem dX0_crackAtFold_74 : decode cX0_crackAtFold 74 = .ok (.idiv, 1) := by decide +kernel
theorem dX0_crackAtFold_75 : decode cX0_crackAtFold 75 = .ok (.if_icmp .le 10, 3) := by decide +kernel
theorem dX0_crackAtFold_78 : decode cX0_crackAtFold 78 = .ok (.aload_n 0, 1) := by decide +kernel
theorem dX0_crackAtFold_79 : decode cX0_crackAtFold 79 = .ok (.aload_n 1, 1) := by decide +kernel
theorem dX0_crackAtFold_80 : decode cX0_crackAtFold 80 = .ok (.iload 7, 2) := by decide +kernel
theorem dX0_crackAtFold_82 : decode cX0_crackAtFold 82 = .ok (.invokevirtual 54, 3) := by decide +kernel
theorem dX0_crackAtFold_85 : decode cX0_crackAtFold 85 = .ok (.iload 8, 2) := by decide +kernel
theorem dX0_crackAtFold_87 : decode cX0_crackAtFold 87 = .ok (.aload_n 1, 1) := by decide +kernel
theorem dX0_crackAtFold_88 : decode cX0_crackAtFold 88 = .ok (.iload 6, 2) := by decide +kernel
theorem dX0_crackAtFold_90 : decode cX0_crackAtFold 90 = .ok (.iload_n 3, 1) := by decide +kernel
theorem dX0_crackAtFold_91 : decode cX0_crackAtFold 91 = .ok (.iload 4, 2) := by decide +kernel
theorem dX0_crackAtFold_93 : decode cX0_crackAtFold 93 = .ok (.invokevirtual 50, 3) := by decide +kernel
theorem dX0_crackAtFold_96 : decode cX0_crackAtFold 96 = .ok (.iconst 2, 1) := by decide +kernel
theorem dX0_crackAtFold_97 : decode cX0_crackAtFold 97 = .ok (.idiv, 1) := by decide +kernel
theorem dX0_crackAtFold_98 : decode cX0_crackAtFold 98 = .ok (.if_icmp .le 10, 3) := by decide +kernel
theorem dX0_crackAtFold_101 : decode cX0_crackAtFold 101 = .ok (.aload_n 0, 1) := by decide +kernel
theorem dX0_crackAtFold_102 : decode cX0_crackAtFold 102 = .ok (.aload_n 1, 1) := by decide +kernel
theorem dX0_crackAtFold_103 : decode cX0_crackAtFold 103 = .ok (.iload 6, 2) := by decide +kernel
theorem dX0_crackAtFold_105 : decode cX0_crackAtFold 105 = .ok (.invokevirtual 54, 3) := by decide +kernel
theorem dX0_crackAtFold_108 : decode cX0_crackAtFold 108 = .ok (.iinc 5 1, 3) := by decide +kernel
theorem dX0_crackAtFold_111 : decode cX0_crackAtFold 111 = .ok (.goto (-103), 3) := by decide +kernel
theorem dX0_crackAtFold_114 : decode cX0_crackAtFold 114 = .ok (.aload_n 0, 1) := by decide +kernel
theorem dX0_crackAtFold_115 : decode cX0_crackAtFold 115 = .ok (.aload_n 1, 1) := by decide +kernel
theorem dX0_crackAtFold_116 : decode cX0_crackAtFold 116 = .ok (.invokevirtual 38, 3) := by decide +kernel
theorem dX0_crackAtFold_119 : decode cX0_crackAtFold 119 = .ok (.ireturn, 1) := by decide +kernel
theorem dX0_findOverstrained_0 : decode cX0_findOverstrained 0 = .ok (.aload_n 0, 1) := by decide +kernel
theorem dX0_findOverstrained_1 : decode cX0_findOverstrained 1 = .ok (.iconst 0, 1) := by decide +kernel
theorem dX0_findOverstrained_2 : decode cX0_findOverstrained 2 = .ok (.putfield 34, 3) := by decide +kernel
theorem dX0_findOverstrained_5 : decode cX0_findOverstrained 5 = .ok (.iconst 0, 1) := by decide +kernel
theorem dX0_findOverstrained_6 : decode cX0_findOverstrained 6 = .ok (.istore 4, 2) := by decide +kernel
theorem dX0_findOverstrained_8 : decode cX0_findOverstrained 8 = .ok (.iload 4, 2) := by decide +kernel
theorem dX0_findOverstrained_10 : decode cX0_findOverstrained 10 = .ok (.sipush 144, 3) := by decide +kernel
theorem dX0_findOverstrained_13 : decode cX0_findOverstrained 13 = .ok (.if_icmp .ge 47, 3) := by decide +kernel
theorem dX0_findOverstrained_16 : decode cX0_findOverstrained 16 = .ok (.aload_n 0, 1) := by decide +kernel
theorem dX0_findOverstrained_17 : decode cX0_findOverstrained 17 = .ok (.getfield 9, 3) := by decide +kernel
theorem dX0_findOverstrained_20 : decode cX0_findOverstrained 20 = .ok (.iload 4, 2) := by decide +kernel
theorem dX0_findOverstrained_22 : decode cX0_findOverstrained 22 = .ok (.iaload, 1) := by decide +kernel
theorem dX0_findOverstrained_23 : decode cX0_findOverstrained 23 = .ok (.ifCond .le 31, 3) := by decide +kernel
theorem dX0_findOverstrained_26 : decode cX0_findOverstrained 26 = .ok (.aload_n 0, 1) := by decide +kernel
theorem dX0_findOverstrained_27 : decode cX0_findOverstrained 27 = .ok (.getfield 9, 3) := by decide +kernel
theorem dX0_findOverstrained_30 : decode cX0_findOverstrained 30 = .ok (.iload 4, 2) := by decide +kernel
theorem dX0_findOverstrained_32 : decode cX0_findOverstrained 32 = .ok (.iaload, 1) := by decide +kernel
theorem dX0_findOverstrained_33 : decode cX0_findOverstrained 33 = .ok (.iload_n 2, 1) := by decide +kernel
theorem dX0_findOverstrained_34 : decode cX0_findOverstrained 34 = .ok (.iload_n 3, 1) := by decide +kernel
theorem dX0_findOverstrained_35 : decode cX0_findOverstrained 35 = .ok (.aload_n 0, 1) := by decide +kernel
theorem dX0_findOverstrained_36 : decode cX0_findOverstrained 36 = .ok (.getfield 15, 3) := by decide +kernel
theorem dX0_findOverstrained_39 : decode cX0_findOverstrained 39 = .ok (.iload 4, 2) := by decide +kernel
theorem dX0_findOverstrained_41 : decode cX0_findOverstrained 41 = .ok (.iaload, 1) := by decide +kernel
theorem dX0_findOverstrained_42 : decode cX0_findOverstrained 42 = .ok (.imul, 1) := by decide +kernel
theorem dX0_findOverstrained_43 : decode cX0_findOverstrained 43 = .ok (.isub, 1) := by decide +kernel
theorem dX0_findOverstrained_44 : decode cX0_findOverstrained 44 = .ok (.if_icmp .le 10, 3) := by decide +kernel
theorem dX0_findOverstrained_47 : decode cX0_findOverstrained 47 = .ok (.aload_n 0, 1) := by decide +kernel
theorem dX0_findOverstrained_48 : decode cX0_findOverstrained 48 = .ok (.aload_n 1, 1) := by decide +kernel
theorem dX0_findOverstrained_49 : decode cX0_findOverstrained 49 = .ok (.iload 4, 2) := by decide +kernel
theorem dX0_findOverstrained_51 : decode cX0_findOverstrained 51 = .ok (.invokevirtual 54, 3) := by decide +kernel
theorem dX0_findOverstrained_54 : decode cX0_findOverstrained 54 = .ok (.iinc 4 1, 3) := by decide +kernel
theorem dX0_findOverstrained_57 : decode cX0_findOverstrained 57 = .ok (.goto (-49), 3) := by decide +kernel
theorem dX0_findOverstrained_60 : decode cX0_findOverstrained 60 = .ok (.return_, 1) := by decide +kernel
theorem dX0_noteIfWhole_0 : decode cX0_noteIfWhole 0 = .ok (.aload_n 1, 1) := by decide +kernel
theorem dX0_noteIfWhole_1 : decode cX0_noteIfWhole 1 = .ok (.getfield 58, 3) := by decide +kernel
theorem dX0_noteIfWhole_4 : decode cX0_noteIfWhole 4 = .ok (.iload_n 2, 1) := by decide +kernel
theorem dX0_noteIfWhole_5 : decode cX0_noteIfWhole 5 = .ok (.iaload, 1) := by decide +kernel
theorem dX0_noteIfWhole_6 : decode cX0_noteIfWhole 6 = .ok (.ifCond .ne 33, 3) := by decide +kernel
theorem dX0_noteIfWhole_9 : decode cX0_noteIfWhole 9 = .ok (.aload_n 0, 1) := by decide +kernel
theorem dX0_noteIfWhole_10 : decode cX0_noteIfWhole 10 = .ok (.getfield 34, 3) := by decide +kernel
theorem dX0_noteIfWhole_13 : decode cX0_noteIfWhole 13 = .ok (.sipush 144, 3) := by decide +kernel
theorem dX0_noteIfWhole_16 : decode cX0_noteIfWhole 16 = .ok (.if_icmp .ge 23, 3) := by decide +kernel
theorem dX0_noteIfWhole_19 : decode cX0_noteIfWhole 19 = .ok (.aload_n 0, 1) := by decide +kernel
theorem dX0_noteIfWhole_20 : decode cX0_noteIfWhole 20 = .ok (.getfield 18, 3) := by decide +kernel
theorem dX0_noteIfWhole_23 : decode cX0_noteIfWhole 23 = .ok (.aload_n 0, 1) := by decide +kernel
theorem dX0_noteIfWhole_24 : decode cX0_noteIfWhole 24 = .ok (.getfield 34, 3) := by decide +kernel
theorem dX0_noteIfWhole_27 : decode cX0_noteIfWhole 27 = .ok (.iload_n 2, 1) := by decide +kernel
theorem dX0_noteIfWhole_28 : decode cX0_noteIfWhole 28 = .ok (.iastore, 1) := by decide +kernel
theorem dX0_noteIfWhole_29 : decode cX0_noteIfWhole 29 = .ok (.aload_n 0, 1) := by decide +kernel
theorem dX0_noteIfWhole_30 : decode cX0_noteIfWhole 30 = .ok (.dup, 1) := by decide +kernel
theorem dX0_noteIfWhole_31 : decode cX0_noteIfWhole 31 = .ok (.getfield 34, 3) := by decide +kernel
theorem dX0_noteIfWhole_34 : decode cX0_noteIfWhole 34 = .ok (.iconst 1, 1) := by decide +kernel
theorem dX0_noteIfWhole_35 : decode cX0_noteIfWhole 35 = .ok (.iadd, 1) := by decide +kernel
theorem dX0_noteIfWhole_36 : decode cX0_noteIfWhole 36 = .ok (.putfield 34, 3) := by decide +kernel
theorem dX0_noteIfWhole_39 : decode cX0_noteIfWhole 39 = .ok (.return_, 1) := by decide +kernel
theorem dX0_crackFound_0 : decode cX0_crackFound 0 = .ok (.iconst 0, 1) := by decide +kernel
theorem dX0_crackFound_1 : decode cX0_crackFound 1 = .ok (.istore_n 2, 1) := by decide +kernel
theorem dX0_crackFound_2 : decode cX0_crackFound 2 = .ok (.iload_n 2, 1) := by decide +kernel
theorem dX0_crackFound_3 : decode cX0_crackFound 3 = .ok (.aload_n 0, 1) := by decide +kernel
theorem dX0_crackFound_4 : decode cX0_crackFound 4 = .ok (.getfield 34, 3) := by decide +kernel
theorem dX0_crackFound_7 : decode cX0_crackFound 7 = .ok (.if_icmp .ge 38, 3) := by decide +kernel
theorem dX0_crackFound_10 : decode cX0_crackFound 10 = .ok (.iload_n 2, 1) := by decide +kernel
theorem dX0_crackFound_11 : decode cX0_crackFound 11 = .ok (.sipush 144, 3) := by decide +kernel
theorem dX0_crackFound_14 : decode cX0_crackFound 14 = .ok (.if_icmp .ge 31, 3) := by decide +kernel
theorem dX0_crackFound_17 : decode cX0_crackFound 17 = .ok (.aload_n 1, 1) := by decide +kernel
theorem dX0_crackFound_18 : decode cX0_crackFound 18 = .ok (.getfield 58, 3) := by decide +kernel
theorem dX0_crackFound_21 : decode cX0_crackFound 21 = .ok (.aload_n 0, 1) := by decide +kernel
theorem dX0_crackFound_22 : decode cX0_crackFound 22 = .ok (.getfield 18, 3) := by decide +kernel
theorem dX0_crackFound_25 : decode cX0_crackFound 25 = .ok (.iload_n 2, 1) := by decide +kernel
theorem dX0_crackFound_26 : decode cX0_crackFound 26 = .ok (.iaload, 1) := by decide +kernel
theorem dX0_crackFound_27 : decode cX0_crackFound 27 = .ok (.iconst 1, 1) := by decide +kernel
theorem dX0_crackFound_28 : decode cX0_crackFound 28 = .ok (.iastore, 1) := by decide +kernel
theorem dX0_crackFound_29 : decode cX0_crackFound 29 = .ok (.aload_n 0, 1) := by decide +kernel
theorem dX0_crackFound_30 : decode cX0_crackFound 30 = .ok (.aload_n 0, 1) := by decide +kernel
theorem dX0_crackFound_31 : decode cX0_crackFound 31 = .ok (.getfield 18, 3) := by decide +kernel
theorem dX0_crackFound_34 : decode cX0_crackFound 34 = .ok (.iload_n 2, 1) := by decide +kernel
theorem dX0_crackFound_35 : decode cX0_crackFound 35 = .ok (.iaload, 1) := by decide +kernel
theorem dX0_crackFound_36 : decode cX0_crackFound 36 = .ok (.invokevirtual 61, 3) := by decide +kernel
theorem dX0_crackFound_39 : decode cX0_crackFound 39 = .ok (.iinc 2 1, 3) := by decide +kernel
theorem dX0_crackFound_42 : decode cX0_crackFound 42 = .ok (.goto (-40), 3) := by decide +kernel
theorem dX0_crackFound_45 : decode cX0_crackFound 45 = .ok (.aload_n 0, 1) := by decide +kernel
theorem dX0_crackFound_46 : decode cX0_crackFound 46 = .ok (.getfield 34, 3) := by decide +kernel
theorem dX0_crackFound_49 : decode cX0_crackFound 49 = .ok (.ireturn, 1) := by decide +kernel
theorem dX0_weakenBeside_0 : decode cX0_weakenBeside 0 = .ok (.iload_n 1, 1) := by decide +kernel
theorem dX0_weakenBeside_1 : decode cX0_weakenBeside 1 = .ok (.bipush 12, 2) := by decide +kernel
theorem dX0_weakenBeside_3 : decode cX0_weakenBeside 3 = .ok (.irem, 1) := by decide +kernel
theorem dX0_weakenBeside_4 : decode cX0_weakenBeside 4 = .ok (.istore_n 2, 1) := by decide +kernel
theorem dX0_weakenBeside_5 : decode cX0_weakenBeside 5 = .ok (.iload_n 2, 1) := by decide +kernel
theorem dX0_weakenBeside_6 : decode cX0_weakenBeside 6 = .ok (.ifCond .le 15, 3) := by decide +kernel
theorem dX0_weakenBeside_9 : decode cX0_weakenBeside 9 = .ok (.aload_n 0, 1) := by decide +kernel
theorem dX0_weakenBeside_10 : decode cX0_weakenBeside 10 = .ok (.getfield 15, 3) := by decide +kernel
theorem dX0_weakenBeside_13 : decode cX0_weakenBeside 13 = .ok (.iload_n 1, 1) := by decide +kernel
theorem dX0_weakenBeside_14 : decode cX0_weakenBeside 14 = .ok (.iconst 1, 1) := by decide +kernel
theorem dX0_weakenBeside_15 : decode cX0_weakenBeside 15 = .ok (.isub, 1) := by decide +kernel
theorem dX0_weakenBeside_16 : decode cX0_weakenBeside 16 = .ok (.dup2, 1) := by decide +kernel
theorem dX0_weakenBeside_17 : decode cX0_weakenBeside 17 = .ok (.iaload, 1) := by decide +kernel
theorem dX0_weakenBeside_18 : decode cX0_weakenBeside 18 = .ok (.iconst 1, 1) := by decide +kernel
theorem dX0_weakenBeside_19 : decode cX0_weakenBeside 19 = .ok (.iadd, 1) := by decide +kernel
theorem dX0_weakenBeside_20 : decode cX0_weakenBeside 20 = .ok (.iastore, 1) := by decide +kernel
theorem dX0_weakenBeside_21 : decode cX0_weakenBeside 21 = .ok (.iload_n 2, 1) := by decide +kernel
theorem dX0_weakenBeside_22 : decode cX0_weakenBeside 22 = .ok (.bipush 11, 2) := by decide +kernel
theorem dX0_weakenBeside_24 : decode cX0_weakenBeside 24 = .ok (.if_icmp .ge 15, 3) := by decide +kernel
theorem dX0_weakenBeside_27 : decode cX0_weakenBeside 27 = .ok (.aload_n 0, 1) := by decide +kernel
theorem dX0_weakenBeside_28 : decode cX0_weakenBeside 28 = .ok (.getfield 15, 3) := by decide +kernel
theorem dX0_weakenBeside_31 : decode cX0_weakenBeside 31 = .ok (.iload_n 1, 1) := by decide +kernel
theorem dX0_weakenBeside_32 : decode cX0_weakenBeside 32 = .ok (.iconst 1, 1) := by decide +kernel
theorem dX0_weakenBeside_33 : decode cX0_weakenBeside 33 = .ok (.iadd, 1) := by decide +kernel
theorem dX0_weakenBeside_34 : decode cX0_weakenBeside 34 = .ok (.dup2, 1) := by decide +kernel
theorem dX0_weakenBeside_35 : decode cX0_weakenBeside 35 = .ok (.iaload, 1) := by decide +kernel
theorem dX0_weakenBeside_36 : decode cX0_weakenBeside 36 = .ok (.iconst 1, 1) := by decide +kernel
theorem dX0_weakenBeside_37 : decode cX0_weakenBeside 37 = .ok (.iadd, 1) := by decide +kernel
theorem dX0_weakenBeside_38 : decode cX0_weakenBeside 38 = .ok (.iastore, 1) := by decide +kernel
theorem dX0_weakenBeside_39 : decode cX0_weakenBeside 39 = .ok (.iload_n 1, 1) := by decide +kernel
theorem dX0_weakenBeside_40 : decode cX0_weakenBeside 40 = .ok (.bipush 12, 2) := by decide +kernel
theorem dX0_weakenBeside_42 : decode cX0_weakenBeside 42 = .ok (.if_icmp .lt 16, 3) := by decide +kernel
theorem dX0_weakenBeside_45 : decode cX0_weakenBeside 45 = .ok (.aload_n 0, 1) := by decide +kernel
theorem dX0_weakenBeside_46 : decode cX0_weakenBeside 46 = .ok (.getfield 15, 3) := by decide +kernel
theorem dX0_weakenBeside_49 : decode cX0_weakenBeside 49 = .ok (.iload_n 1, 1) := by decide +kernel
theorem dX0_weakenBeside_50 : decode cX0_weakenBeside 50 = .ok (.bipush 12, 2) := by decide +kernel
theorem dX0_weakenBeside_52 : decode cX0_weakenBeside 52 = .ok (.isub, 1) := by decide +kernel
theorem dX0_weakenBeside_53 : decode cX0_weakenBeside 53 = .ok (.dup2, 1) := by decide +kernel
theorem dX0_weakenBeside_54 : decode cX0_weakenBeside 54 = .ok (.iaload, 1) := by decide +kernel
theorem dX0_weakenBeside_55 : decode cX0_weakenBeside 55 = .ok (.iconst 1, 1) := by decide +kernel
theorem dX0_weakenBeside_56 : decode cX0_weakenBeside 56 = .ok (.iadd, 1) := by decide +kernel
theorem dX0_weakenBeside_57 : decode cX0_weakenBeside 57 = .ok (.iastore, 1) := by decide +kernel
theorem dX0_weakenBeside_58 : decode cX0_weakenBeside 58 = .ok (.iload_n 1, 1) := by decide +kernel
theorem dX0_weakenBeside_59 : decode cX0_weakenBeside 59 = .ok (.sipush 132, 3) := by decide +kernel
theorem dX0_weakenBeside_62 : decode cX0_weakenBeside 62 = .ok (.if_icmp .ge 16, 3) := by decide +kernel
theorem dX0_weakenBeside_65 : decode cX0_weakenBeside 65 = .ok (.aload_n 0, 1) := by decide +kernel
theorem dX0_weakenBeside_66 : decode cX0_weakenBeside 66 = .ok (.getfield 15, 3) := by decide +kernel
theorem dX0_weakenBeside_69 : decode cX0_weakenBeside 69 = .ok (.iload_n 1, 1) := by decide +kernel
theorem dX0_weakenBeside_70 : decode cX0_weakenBeside 70 = .ok (.bipush 12, 2) := by decide +kernel
theorem dX0_weakenBeside_72 : decode cX0_weakenBeside 72 = .ok (.iadd, 1) := by decide +kernel
theorem dX0_weakenBeside_73 : decode cX0_weakenBeside 73 = .ok (.dup2, 1) := by decide +kernel
theorem dX0_weakenBeside_74 : decode cX0_weakenBeside 74 = .ok (.iaload, 1) := by decide +kernel
theorem dX0_weakenBeside_75 : decode cX0_weakenBeside 75 = .ok (.iconst 1, 1) := by decide +kernel
theorem dX0_weakenBeside_76 : decode cX0_weakenBeside 76 = .ok (.iadd, 1) := by decide +kernel
theorem dX0_weakenBeside_77 : decode cX0_weakenBeside 77 = .ok (.iastore, 1) := by decide +kernel
theorem dX0_weakenBeside_78 : decode cX0_weakenBeside 78 = .ok (.return_, 1) := by decide +kernel
theorem dX1_init_0 : decode cX1_init 0 = .ok (.aload_n 0, 1) := by decide +kernel
theorem dX1_init_1 : decode cX1_init 1 = .ok (.invokespecial 3, 3) := by decide +kernel
theorem dX1_init_4 : decode cX1_init 4 = .ok (.aload_n 0, 1) := by decide +kernel
theorem dX1_init_5 : decode cX1_init 5 = .ok (.bipush 40, 2) := by decide +kernel
theorem dX1_init_7 : decode cX1_init 7 = .ok (.newarray .int, 2) := by decide +kernel
theorem dX1_init_9 : decode cX1_init 9 = .ok (.putfield 9, 3) := by decide +kernel
theorem dX1_init_12 : decode cX1_init 12 = .ok (.return_, 1) := by decide +kernel
theorem dX2_init_0 : decode cX2_init 0 = .ok (.aload_n 0, 1) := by decide +kernel
theorem dX2_init_1 : decode cX2_init 1 = .ok (.invokespecial 3, 3) := by decide +kernel
theorem dX2_init_4 : decode cX2_init 4 = .ok (.aload_n 0, 1) := by decide +kernel
theorem dX2_init_5 : decode cX2_init 5 = .ok (.sipush 144, 3) := by decide +kernel
theorem dX2_init_8 : decode cX2_init 8 = .ok (.newarray .int, 2) := by decide +kernel
theorem dX2_init_10 : decode cX2_init 10 = .ok (.putfield 9, 3) := by decide +kernel
theorem dX2_init_13 : decode cX2_init 13 = .ok (.aload_n 0, 1) := by decide +kernel
theorem dX2_init_14 : decode cX2_init 14 = .ok (.sipush 144, 3) := by decide +kernel
theorem dX2_init_17 : decode cX2_init 17 = .ok (.newarray .int, 2) := by decide +kernel
theorem dX2_init_19 : decode cX2_init 19 = .ok (.putfield 15, 3) := by decide +kernel
theorem dX2_init_22 : decode cX2_init 22 = .ok (.aload_n 0, 1) := by decide +kernel
theorem dX2_init_23 : decode cX2_init 23 = .ok (.sipush 144, 3) := by decide +kernel
theorem dX2_init_26 : decode cX2_init 26 = .ok (.newarray .int, 2) := by decide +kernel
theorem dX2_init_28 : decode cX2_init 28 = .ok (.putfield 18, 3) := by decide +kernel
theorem dX2_init_31 : decode cX2_init 31 = .ok (.aload_n 0, 1) := by decide +kernel
theorem dX2_init_32 : decode cX2_init 32 = .ok (.sipush 144, 3) := by decide +kernel
theorem dX2_init_35 : decode cX2_init 35 = .ok (.newarray .int, 2) := by decide +kernel
theorem dX2_init_37 : decode cX2_init 37 = .ok (.putfield 21, 3) := by decide +kernel
theorem dX2_init_40 : decode cX2_init 40 = .ok (.return_, 1) := by decide +kernel
theorem dX2_makeNew_0 : decode cX2_makeNew 0 = .ok (.aload_n 0, 1) := by decide +kernel
theorem dX2_makeNew_1 : decode cX2_makeNew 1 = .ok (.getfield 9, 3) := by decide +kernel
theorem dX2_makeNew_4 : decode cX2_makeNew 4 = .ok (.iconst 0, 1) := by decide +kernel
theorem dX2_makeNew_5 : decode cX2_makeNew 5 = .ok (.invokestatic 24, 3) := by decide +kernel
theorem dX2_makeNew_8 : decode cX2_makeNew 8 = .ok (.aload_n 0, 1) := by decide +kernel
theorem dX2_makeNew_9 : decode cX2_makeNew 9 = .ok (.getfield 15, 3) := by decide +kernel
theorem dX2_makeNew_12 : decode cX2_makeNew 12 = .ok (.iconst 0, 1) := by decide +kernel
theorem dX2_makeNew_13 : decode cX2_makeNew 13 = .ok (.invokestatic 24, 3) := by decide +kernel
theorem dX2_makeNew_16 : decode cX2_makeNew 16 = .ok (.aload_n 0, 1) := by decide +kernel
theorem dX2_makeNew_17 : decode cX2_makeNew 17 = .ok (.getfield 18, 3) := by decide +kernel
theorem dX2_makeNew_20 : decode cX2_makeNew 20 = .ok (.iconst 0, 1) := by decide +kernel
theorem dX2_makeNew_21 : decode cX2_makeNew 21 = .ok (.invokestatic 24, 3) := by decide +kernel
theorem dX2_makeNew_24 : decode cX2_makeNew 24 = .ok (.aload_n 0, 1) := by decide +kernel
theorem dX2_makeNew_25 : decode cX2_makeNew 25 = .ok (.getfield 21, 3) := by decide +kernel
theorem dX2_makeNew_28 : decode cX2_makeNew 28 = .ok (.iconst 0, 1) := by decide +kernel
theorem dX2_makeNew_29 : decode cX2_makeNew 29 = .ok (.invokestatic 24, 3) := by decide +kernel
theorem dX2_makeNew_32 : decode cX2_makeNew 32 = .ok (.return_, 1) := by decide +kernel
theorem dX2_copyFrom_0 : decode cX2_copyFrom 0 = .ok (.aload_n 0, 1) := by decide +kernel
theorem dX2_copyFrom_1 : decode cX2_copyFrom 1 = .ok (.aload_n 1, 1) := by decide +kernel
theorem dX2_copyFrom_2 : decode cX2_copyFrom 2 = .ok (.invokevirtual 30, 3) := by decide +kernel
theorem dX2_copyFrom_5 : decode cX2_copyFrom 5 = .ok (.aload_n 1, 1) := by decide +kernel
theorem dX2_copyFrom_6 : decode cX2_copyFrom 6 = .ok (.getfield 15, 3) := by decide +kernel
theorem dX2_copyFrom_9 : decode cX2_copyFrom 9 = .ok (.iconst 0, 1) := by decide +kernel
theorem dX2_copyFrom_10 : decode cX2_copyFrom 10 = .ok (.aload_n 0, 1) := by decide +kernel
theorem dX2_copyFrom_11 : decode cX2_copyFrom 11 = .ok (.getfield 15, 3) := by decide +kernel
theorem dX2_copyFrom_14 : decode cX2_copyFrom 14 = .ok (.iconst 0, 1) := by decide +kernel
theorem dX2_copyFrom_15 : decode cX2_copyFrom 15 = .ok (.sipush 144, 3) := by decide +kernel
theorem dX2_copyFrom_18 : decode cX2_copyFrom 18 = .ok (.invokestatic 34, 3) := by decide +kernel
theorem dX2_copyFrom_21 : decode cX2_copyFrom 21 = .ok (.aload_n 1, 1) := by decide +kernel
theorem dX2_copyFrom_22 : decode cX2_copyFrom 22 = .ok (.getfield 21, 3) := by decide +kernel
theorem dX2_copyFrom_25 : decode cX2_copyFrom 25 = .ok (.iconst 0, 1) := by decide +kernel
theorem dX2_copyFrom_26 : decode cX2_copyFrom 26 = .ok (.aload_n 0, 1) := by decide +kernel
theorem dX2_copyFrom_27 : decode cX2_copyFrom 27 = .ok (.getfield 21, 3) := by decide +kernel
theorem dX2_copyFrom_30 : decode cX2_copyFrom 30 = .ok (.iconst 0, 1) := by decide +kernel
theorem dX2_copyFrom_31 : decode cX2_copyFrom 31 = .ok (.sipush 144, 3) := by decide +kernel
theorem dX2_copyFrom_34 : decode cX2_copyFrom 34 = .ok (.invokestatic 34, 3) := by decide +kernel
theorem dX2_copyFrom_37 : decode cX2_copyFrom 37 = .ok (.return_, 1) := by decide +kernel
theorem dX2_copyStrength_0 : decode cX2_copyStrength 0 = .ok (.aload_n 1, 1) := by decide +kernel
theorem dX2_copyStrength_1 : decode cX2_copyStrength 1 = .ok (.getfield 9, 3) := by decide +kernel
theorem dX2_copyStrength_4 : decode cX2_copyStrength 4 = .ok (.iconst 0, 1) := by decide +kernel
theorem dX2_copyStrength_5 : decode cX2_copyStrength 5 = .ok (.aload_n 0, 1) := by decide +kernel
theorem dX2_copyStrength_6 : decode cX2_copyStrength 6 = .ok (.getfield 9, 3) := by decide +kernel
theorem dX2_copyStrength_9 : decode cX2_copyStrength 9 = .ok (.iconst 0, 1) := by decide +kernel
theorem dX2_copyStrength_10 : decode cX2_copyStrength 10 = .ok (.sipush 144, 3) := by decide +kernel
theorem dX2_copyStrength_13 : decode cX2_copyStrength 13 = .ok (.invokestatic 34, 3) := by decide +kernel
theorem dX2_copyStrength_16 : decode cX2_copyStrength 16 = .ok (.aload_n 1, 1) := by decide +kernel
theorem dX2_copyStrength_17 : decode cX2_copyStrength 17 = .ok (.getfield 18, 3) := by decide +kernel
theorem dX2_copyStrength_20 : decode cX2_copyStrength 20 = .ok (.iconst 0, 1) := by decide +kernel
theorem dX2_copyStrength_21 : decode cX2_copyStrength 21 = .ok (.aload_n 0, 1) := by decide +kernel
theorem dX2_copyStrength_22 : decode cX2_copyStrength 22 = .ok (.getfield 18, 3) := by decide +kernel
theorem dX2_copyStrength_25 : decode cX2_copyStrength 25 = .ok (.iconst 0, 1) := by decide +kernel
theorem dX2_copyStrength_26 : decode cX2_copyStrength 26 = .ok (.sipush 144, 3) := by decide +kernel
theorem dX2_copyStrength_29 : decode cX2_copyStrength 29 = .ok (.invokestatic 34, 3) := by decide +kernel
theorem dX2_copyStrength_32 : decode cX2_copyStrength 32 = .ok (.return_, 1) := by decide +kernel
theorem dX2_depthAt_0 : decode cX2_depthAt 0 = .ok (.iload_n 1, 1) := by decide +kernel
theorem dX2_depthAt_1 : decode cX2_depthAt 1 = .ok (.i2l, 1) := by decide +kernel
theorem dX2_depthAt_2 : decode cX2_depthAt 2 = .ok (.iload_n 2, 1) := by decide +kernel
theorem dX2_depthAt_3 : decode cX2_depthAt 3 = .ok (.i2l, 1) := by decide +kernel
theorem dX2_depthAt_4 : decode cX2_depthAt 4 = .ok (.invokestatic 40, 3) := by decide +kernel
theorem dX2_depthAt_7 : decode cX2_depthAt 7 = .ok (.istore_n 3, 1) := by decide +kernel
theorem dX2_depthAt_8 : decode cX2_depthAt 8 = .ok (.iload_n 3, 1) := by decide +kernel
theorem dX2_depthAt_9 : decode cX2_depthAt 9 = .ok (.iconst (-1), 1) := by decide +kernel
theorem dX2_depthAt_10 : decode cX2_depthAt 10 = .ok (.if_icmp .ne 7, 3) := by decide +kernel
theorem dX2_depthAt_13 : decode cX2_depthAt 13 = .ok (.iconst 0, 1) := by decide +kernel
theorem dX2_depthAt_14 : decode cX2_depthAt 14 = .ok (.goto 9, 3) := by decide +kernel
theorem dX2_depthAt_17 : decode cX2_depthAt 17 = .ok (.aload_n 0, 1) := by decide +kernel
theorem dX2_depthAt_18 : decode cX2_depthAt 18 = .ok (.getfield 9, 3) := by decide +kernel
theorem dX2_depthAt_21 : decode cX2_depthAt 21 = .ok (.iload_n 3, 1) := by decide +kernel
theorem dX2_depthAt_22 : decode cX2_depthAt 22 = .ok (.iaload, 1) := by decide +kernel
theorem dX2_depthAt_23 : decode cX2_depthAt 23 = .ok (.ireturn, 1) := by decide +kernel
theorem dX2_emboss_0 : decode cX2_emboss 0 = .ok (.iconst 0, 1) := by decide +kernel
theorem dX2_emboss_1 : decode cX2_emboss 1 = .ok (.istore 6, 2) := by decide +kernel
theorem dX2_emboss_3 : decode cX2_emboss 3 = .ok (.iload 6, 2) := by decide +kernel
theorem dX2_emboss_5 : decode cX2_emboss 5 = .ok (.bipush 25, 2) := by decide +kernel
theorem dX2_emboss_7 : decode cX2_emboss 7 = .ok (.if_icmp .ge 64, 3) := by decide +kernel
theorem dX2_emboss_10 : decode cX2_emboss 10 = .ok (.iload 6, 2) := by decide +kernel
theorem dX2_emboss_12 : decode cX2_emboss 12 = .ok (.lload_n 2, 1) := by decide +kernel
theorem dX2_emboss_13 : decode cX2_emboss 13 = .ok (.lload 4, 2) := by decide +kernel
theorem dX2_emboss_15 : decode cX2_emboss 15 = .ok (.invokestatic 44, 3) := by decide +kernel
theorem dX2_emboss_18 : decode cX2_emboss 18 = .ok (.istore 7, 2) := by decide +kernel
theorem dX2_emboss_20 : decode cX2_emboss 20 = .ok (.aload_n 1, 1) := by decide +kernel
theorem dX2_emboss_21 : decode cX2_emboss 21 = .ok (.iload 6, 2) := by decide +kernel
theorem dX2_emboss_23 : decode cX2_emboss 23 = .ok (.iaload, 1) := by decide +kernel
theorem dX2_emboss_24 : decode cX2_emboss 24 = .ok (.ifCond .le 41, 3) := by decide +kernel
theorem dX2_emboss_27 : decode cX2_emboss 27 = .ok (.iload 7, 2) := by decide +kernel
theorem dX2_emboss_29 : decode cX2_emboss 29 = .ok (.iconst (-1), 1) := by decide +kernel
theorem dX2_emboss_30 : decode cX2_emboss 30 = .ok (.if_icmp .eq 35, 3) := by decide +kernel
theorem dX2_emboss_33 : decode cX2_emboss 33 = .ok (.aload_n 0, 1) := by decide +kernel
theorem dX2_emboss_34 : decode cX2_emboss 34 = .ok (.getfield 9, 3) := by decide +kernel
theorem dX2_emboss_37 : decode cX2_emboss 37 = .ok (.iload 7, 2) := by decide +kernel
theorem dX2_emboss_39 : decode cX2_emboss 39 = .ok (.aload_n 0, 1) := by decide +kernel
theorem dX2_emboss_40 : decode cX2_emboss 40 = .ok (.getfield 9, 3) := by decide +kernel
theorem dX2_emboss_43 : decode cX2_emboss 43 = .ok (.iload 7, 2) := by decide +kernel
theorem dX2_emboss_45 : decode cX2_emboss 45 = .ok (.iaload, 1) := by decide +kernel
theorem dX2_emboss_46 : decode cX2_emboss 46 = .ok (.aload_n 1, 1) := by decide +kernel
theorem dX2_emboss_47 : decode cX2_emboss 47 = .ok (.iload 6, 2) := by decide +kernel
theorem dX2_emboss_49 : decode cX2_emboss 49 = .ok (.iaload, 1) := by decide +kernel
theorem dX2_emboss_50 : decode cX2_emboss 50 = .ok (.invokestatic 48, 3) := by decide +kernel
theorem dX2_emboss_53 : decode cX2_emboss 53 = .ok (.iastore, 1) := by decide +kernel
theorem dX2_emboss_54 : decode cX2_emboss 54 = .ok (.aload_n 0, 1) := by decide +kernel
theorem dX2_emboss_55 : decode cX2_emboss 55 = .ok (.getfield 21, 3) := by decide +kernel
theorem dX2_emboss_58 : decode cX2_emboss 58 = .ok (.iload 7, 2) := by decide +kernel
theorem dX2_emboss_60 : decode cX2_emboss 60 = .ok (.dup2, 1) := by decide +kernel
theorem dX2_emboss_61 : decode cX2_emboss 61 = .ok (.iaload, 1) := by decide +kernel
theorem dX2_emboss_62 : decode cX2_emboss 62 = .ok (.iconst 1, 1) := by decide +kernel
theorem dX2_emboss_63 : decode cX2_emboss 63 = .ok (.iadd, 1) := by decide +kernel
theorem dX2_emboss_64 : decode cX2_emboss 64 = .ok (.iastore, 1) := by decide +kernel
theorem dX2_emboss_65 : decode cX2_emboss 65 = .ok (.iinc 6 1, 3) := by decide +kernel
theorem dX2_emboss_68 : decode cX2_emboss 68 = .ok (.goto (-65), 3) := by decide +kernel
theorem dX2_emboss_71 : decode cX2_emboss 71 = .ok (.return_, 1) := by decide +kernel
theorem dX2_strainOf_0 : decode cX2_strainOf 0 = .ok (.iload_n 1, 1) := by decide +kernel
theorem dX2_strainOf_1 : decode cX2_strainOf 1 = .ok (.bipush 12, 2) := by decide +kernel
theorem dX2_strainOf_3 : decode cX2_strainOf 3 = .ok (.irem, 1) := by decide +kernel
theorem dX2_strainOf_4 : decode cX2_strainOf 4 = .ok (.istore_n 2, 1) := by decide +kernel
theorem dX2_strainOf_5 : decode cX2_strainOf 5 = .ok (.iconst 0, 1) := by decide +kernel
theorem dX2_strainOf_6 : decode cX2_strainOf 6 = .ok (.istore_n 3, 1) := by decide +kernel
theorem dX2_strainOf_7 : decode cX2_strainOf 7 = .ok (.iload_n 2, 1) := by decide +kernel
theorem dX2_strainOf_8 : decode cX2_strainOf 8 = .ok (.ifCond .le 14, 3) := by decide +kernel
theorem dX2_strainOf_11 : decode cX2_strainOf 11 = .ok (.iload_n 3, 1) := by decide +kernel
theorem dX2_strainOf_12 : decode cX2_strainOf 12 = .ok (.aload_n 0, 1) := by decide +kernel
theorem dX2_strainOf_13 : decode cX2_strainOf 13 = .ok (.iload_n 1, 1) := by decide +kernel
theorem dX2_strainOf_14 : decode cX2_strainOf 14 = .ok (.iload_n 1, 1) := by decide +kernel
theorem dX2_strainOf_15 : decode cX2_strainOf 15 = .ok (.iconst 1, 1) := by decide +kernel
theorem dX2_strainOf_16 : decode cX2_strainOf 16 = .ok (.isub, 1) := by decide +kernel
theorem dX2_strainOf_17 : decode cX2_strainOf 17 = .ok (.invokevirtual 54, 3) := by decide +kernel
theorem dX2_strainOf_20 : decode cX2_strainOf 20 = .ok (.iadd, 1) := by decide +kernel
theorem dX2_strainOf_21 : decode cX2_strainOf 21 = .ok (.istore_n 3, 1) := by decide +kernel
theorem dX2_strainOf_22 : decode cX2_strainOf 22 = .ok (.iload_n 2, 1) := by decide +kernel
theorem dX2_strainOf_23 : decode cX2_strainOf 23 = .ok (.bipush 11, 2) := by decide +kernel
theorem dX2_strainOf_25 : decode cX2_strainOf 25 = .ok (.if_icmp .ge 14, 3) := by decide +kernel
theorem dX2_strainOf_28 : decode cX2_strainOf 28 = .ok (.iload_n 3, 1) := by decide +kernel
theorem dX2_strainOf_29 : decode cX2_strainOf 29 = .ok (.aload_n 0, 1) := by decide +kernel
theorem dX2_strainOf_30 : decode cX2_strainOf 30 = .ok (.iload_n 1, 1) := by decide +kernel
theorem dX2_strainOf_31 : decode cX2_strainOf 31 = .ok (.iload_n 1, 1) := by decide +kernel
theorem dX2_strainOf_32 : decode cX2_strainOf 32 = .ok (.iconst 1, 1) := by decide +kernel
theorem dX2_strainOf_33 : decode cX2_strainOf 33 = .ok (.iadd, 1) := by decide +kernel
theorem dX2_strainOf_34 : decode cX2_strainOf 34 = .ok (.invokevirtual 54, 3) := by decide +kernel
theorem dX2_strainOf_37 : decode cX2_strainOf 37 = .ok (.iadd, 1) := by decide +kernel
theorem dX2_strainOf_38 : decode cX2_strainOf 38 = .ok (.istore_n 3, 1) := by decide +kernel
theorem dX2_strainOf_39 : decode cX2_strainOf 39 = .ok (.iload_n 1, 1) := by decide +kernel
theorem dX2_strainOf_40 : decode cX2_strainOf 40 = .ok (.bipush 12, 2) := by decide +kernel
theorem dX2_strainOf_42 : decode cX2_strainOf 42 = .ok (.if_icmp .lt 15, 3) := by decide +kernel
theorem dX2_strainOf_45 : decode cX2_strainOf 45 = .ok (.iload_n 3, 1) := by decide +kernel
theorem dX2_strainOf_46 : decode cX2_strainOf 46 = .ok (.aload_n 0, 1) := by decide +kernel
theorem dX2_strainOf_47 : decode cX2_strainOf 47 = .ok (.iload_n 1, 1) := by decide +kernel
theorem dX2_strainOf_48 : decode cX2_strainOf 48 = .ok (.iload_n 1, 1) := by decide +kernel
theorem dX2_strainOf_49 : decode cX2_strainOf 49 = .ok (.bipush 12, 2) := by decide +kernel
theorem dX2_strainOf_51 : decode cX2_strainOf 51 = .ok (.isub, 1) := by decide +kernel
theorem dX2_strainOf_52 : decode cX2_strainOf 52 = .ok (.invokevirtual 54, 3) := by decide +kernel
theorem dX2_strainOf_55 : decode cX2_strainOf 55 = .ok (.iadd, 1) := by decide +kernel
theorem dX2_strainOf_56 : decode cX2_strainOf 56 = .ok (.istore_n 3, 1) := by decide +kernel
theorem dX2_strainOf_57 : decode cX2_strainOf 57 = .ok (.iload_n 1, 1) := by decide +kernel
theorem dX2_strainOf_58 : decode cX2_strainOf 58 = .ok (.sipush 132, 3) := by decide +kernel
theorem dX2_strainOf_61 : decode cX2_strainOf 61 = .ok (.if_icmp .ge 15, 3) := by decide +kernel
theorem dX2_strainOf_64 : decode cX2_strainOf 64 = .ok (.iload_n 3, 1) := by decide +kernel
theorem dX2_strainOf_65 : decode cX2_strainOf 65 = .ok (.aload_n 0, 1) := by decide +kernel
theorem dX2_strainOf_66 : decode cX2_strainOf 66 = .ok (.iload_n 1, 1) := by decide +kernel
theorem dX2_strainOf_67 : decode cX2_strainOf 67 = .ok (.iload_n 1, 1) := by decide +kernel
theorem dX2_strainOf_68 : decode cX2_strainOf 68 = .ok (.bipush 12, 2) := by decide +kernel
theorem dX2_strainOf_70 : decode cX2_strainOf 70 = .ok (.iadd, 1) := by decide +kernel
theorem dX2_strainOf_71 : decode cX2_strainOf 71 = .ok (.invokevirtual 54, 3) := by decide +kernel
theorem dX2_strainOf_74 : decode cX2_strainOf 74 = .ok (.iadd, 1) := by decide +kernel
theorem dX2_strainOf_75 : decode cX2_strainOf 75 = .ok (.istore_n 3, 1) := by decide +kernel
theorem dX2_strainOf_76 : decode cX2_strainOf 76 = .ok (.iload_n 3, 1) := by decide +kernel
theorem dX2_strainOf_77 : decode cX2_strainOf 77 = .ok (.ireturn, 1) := by decide +kernel
theorem dX2_difference_0 : decode cX2_difference 0 = .ok (.aload_n 0, 1) := by decide +kernel
theorem dX2_difference_1 : decode cX2_difference 1 = .ok (.getfield 9, 3) := by decide +kernel
theorem dX2_difference_4 : decode cX2_difference 4 = .ok (.iload_n 1, 1) := by decide +kernel
theorem dX2_difference_5 : decode cX2_difference 5 = .ok (.iaload, 1) := by decide +kernel
theorem dX2_difference_6 : decode cX2_difference 6 = .ok (.aload_n 0, 1) := by decide +kernel
theorem dX2_difference_7 : decode cX2_difference 7 = .ok (.getfield 9, 3) := by decide +kernel
theorem dX2_difference_10 : decode cX2_difference 10 = .ok (.iload_n 2, 1) := by decide +kernel
theorem dX2_difference_11 : decode cX2_difference 11 = .ok (.iaload, 1) := by decide +kernel
theorem dX2_difference_12 : decode cX2_difference 12 = .ok (.isub, 1) := by decide +kernel
theorem dX2_difference_13 : decode cX2_difference 13 = .ok (.istore_n 3, 1) := by decide +kernel
theorem dX2_difference_14 : decode cX2_difference 14 = .ok (.iload_n 3, 1) := by decide +kernel
theorem dX2_difference_15 : decode cX2_difference 15 = .ok (.ifCond .ge 8, 3) := by decide +kernel
theorem dX2_difference_18 : decode cX2_difference 18 = .ok (.iload_n 3, 1) := by decide +kernel
theorem dX2_difference_19 : decode cX2_difference 19 = .ok (.ineg, 1) := by decide +kernel
theorem dX2_difference_20 : decode cX2_difference 20 = .ok (.goto 4, 3) := by decide +kernel
theorem dX2_difference_23 : decode cX2_difference 23 = .ok (.iload_n 3, 1) := by decide +kernel
theorem dX2_difference_24 : decode cX2_difference 24 = .ok (.ireturn, 1) := by decide +kernel
theorem dX2_crackedBeside_0 : decode cX2_crackedBeside 0 = .ok (.iload_n 1, 1) := by decide +kernel
theorem dX2_crackedBeside_1 : decode cX2_crackedBeside 1 = .ok (.bipush 12, 2) := by decide +kernel
theorem dX2_crackedBeside_3 : decode cX2_crackedBeside 3 = .ok (.irem, 1) := by decide +kernel
theorem dX2_crackedBeside_4 : decode cX2_crackedBeside 4 = .ok (.istore_n 2, 1) := by decide +kernel
theorem dX2_crackedBeside_5 : decode cX2_crackedBeside 5 = .ok (.iconst 0, 1) := by decide +kernel
theorem dX2_crackedBeside_6 : decode cX2_crackedBeside 6 = .ok (.istore_n 3, 1) := by decide +kernel
theorem dX2_crackedBeside_7 : decode cX2_crackedBeside 7 = .ok (.iload_n 2, 1) := by decide +kernel
theorem dX2_crackedBeside_8 : decode cX2_crackedBeside 8 = .ok (.ifCond .le 14, 3) := by decide +kernel
theorem dX2_crackedBeside_11 : decode cX2_crackedBeside 11 = .ok (.iload_n 3, 1) := by decide +kernel
theorem dX2_crackedBeside_12 : decode cX2_crackedBeside 12 = .ok (.aload_n 0, 1) := by decide +kernel
theorem dX2_crackedBeside_13 : decode cX2_crackedBeside 13 = .ok (.getfield 18, 3) := by decide +kernel
theorem dX2_crackedBeside_16 : decode cX2_crackedBeside 16 = .ok (.iload_n 1, 1) := by decide +kernel
theorem dX2_crackedBeside_17 : decode cX2_crackedBeside 17 = .ok (.iconst 1, 1) := by decide +kernel
theorem dX2_crackedBeside_18 : decode cX2_crackedBeside 18 = .ok (.isub, 1) := by decide +kernel
theorem dX2_crackedBeside_19 : decode cX2_crackedBeside 19 = .ok (.iaload, 1) := by decide +kernel
theorem dX2_crackedBeside_20 : decode cX2_crackedBeside 20 = .ok (.iadd, 1) := by decide +kernel
theorem dX2_crackedBeside_21 : decode cX2_crackedBeside 21 = .ok (.istore_n 3, 1) := by decide +kernel
theorem dX2_crackedBeside_22 : decode cX2_crackedBeside 22 = .ok (.iload_n 2, 1) := by decide +kernel
theorem dX2_crackedBeside_23 : decode cX2_crackedBeside 23 = .ok (.bipush 11, 2) := by decide +kernel
theorem dX2_crackedBeside_25 : decode cX2_crackedBeside 25 = .ok (.if_icmp .ge 14, 3) := by decide +kernel
theorem dX2_crackedBeside_28 : decode cX2_crackedBeside 28 = .ok (.iload_n 3, 1) := by decide +kernel
theorem dX2_crackedBeside_29 : decode cX2_crackedBeside 29 = .ok (.aload_n 0, 1) := by decide +kernel
theorem dX2_crackedBeside_30 : decode cX2_crackedBeside 30 = .ok (.getfield 18, 3) := by decide +kernel
theorem dX2_crackedBeside_33 : decode cX2_crackedBeside 33 = .ok (.iload_n 1, 1) := by decide +kernel
theorem dX2_crackedBeside_34 : decode cX2_crackedBeside 34 = .ok (.iconst 1, 1) := by decide +kernel
theorem dX2_crackedBeside_35 : decode cX2_crackedBeside 35 = .ok (.iadd, 1) := by decide +kernel
theorem dX2_crackedBeside_36 : decode cX2_crackedBeside 36 = .ok (.iaload, 1) := by decide +kernel
theorem dX2_crackedBeside_37 : decode cX2_crackedBeside 37 = .ok (.iadd, 1) := by decide +kernel
theorem dX2_crackedBeside_38 : decode cX2_crackedBeside 38 = .ok (.istore_n 3, 1) := by decide +kernel
theorem dX2_crackedBeside_39 : decode cX2_crackedBeside 39 = .ok (.iload_n 1, 1) := by decide +kernel
theorem dX2_crackedBeside_40 : decode cX2_crackedBeside 40 = .ok (.bipush 12, 2) := by decide +kernel
theorem dX2_crackedBeside_42 : decode cX2_crackedBeside 42 = .ok (.if_icmp .lt 15, 3) := by decide +kernel
theorem dX2_crackedBeside_45 : decode cX2_crackedBeside 45 = .ok (.iload_n 3, 1) := by decide +kernel
theorem dX2_crackedBeside_46 : decode cX2_crackedBeside 46 = .ok (.aload_n 0, 1) := by decide +kernel
theorem dX2_crackedBeside_47 : decode cX2_crackedBeside 47 = .ok (.getfield 18, 3) := by decide +kernel
theorem dX2_crackedBeside_50 : decode cX2_crackedBeside 50 = .ok (.iload_n 1, 1) := by decide +kernel
theorem dX2_crackedBeside_51 : decode cX2_crackedBeside 51 = .ok (.bipush 12, 2) := by decide +kernel
theorem dX2_crackedBeside_53 : decode cX2_crackedBeside 53 = .ok (.isub, 1) := by decide +kernel
theorem dX2_crackedBeside_54 : decode cX2_crackedBeside 54 = .ok (.iaload, 1) := by decide +kernel
theorem dX2_crackedBeside_55 : decode cX2_crackedBeside 55 = .ok (.iadd, 1) := by decide +kernel
theorem dX2_crackedBeside_56 : decode cX2_crackedBeside 56 = .ok (.istore_n 3, 1) := by decide +kernel
theorem dX2_crackedBeside_57 : decode cX2_crackedBeside 57 = .ok (.iload_n 1, 1) := by decide +kernel
theorem dX2_crackedBeside_58 : decode cX2_crackedBeside 58 = .ok (.sipush 132, 3) := by decide +kernel
theorem dX2_crackedBeside_61 : decode cX2_crackedBeside 61 = .ok (.if_icmp .ge 15, 3) := by decide +kernel
theorem dX2_crackedBeside_64 : decode cX2_crackedBeside 64 = .ok (.iload_n 3, 1) := by decide +kernel
theorem dX2_crackedBeside_65 : decode cX2_crackedBeside 65 = .ok (.aload_n 0, 1) := by decide +kernel
theorem dX2_crackedBeside_66 : decode cX2_crackedBeside 66 = .ok (.getfield 18, 3) := by decide +kernel
theorem dX2_crackedBeside_69 : decode cX2_crackedBeside 69 = .ok (.iload_n 1, 1) := by decide +kernel
theorem dX2_crackedBeside_70 : decode cX2_crackedBeside 70 = .ok (.bipush 12, 2) := by decide +kernel
theorem dX2_crackedBeside_72 : decode cX2_crackedBeside 72 = .ok (.iadd, 1) := by decide +kernel
theorem dX2_crackedBeside_73 : decode cX2_crackedBeside 73 = .ok (.iaload, 1) := by decide +kernel
theorem dX2_crackedBeside_74 : decode cX2_crackedBeside 74 = .ok (.iadd, 1) := by decide +kernel
theorem dX2_crackedBeside_75 : decode cX2_crackedBeside 75 = .ok (.istore_n 3, 1) := by decide +kernel
theorem dX2_crackedBeside_76 : decode cX2_crackedBeside 76 = .ok (.iload_n 3, 1) := by decide +kernel
theorem dX2_crackedBeside_77 : decode cX2_crackedBeside 77 = .ok (.ireturn, 1) := by decide +kernel
theorem dX2_bearingOf_0 : decode cX2_bearingOf 0 = .ok (.iconst 0, 1) := by decide +kernel
theorem dX2_bearingOf_1 : decode cX2_bearingOf 1 = .ok (.iload_n 2, 1) := by decide +kernel
theorem dX2_bearingOf_2 : decode cX2_bearingOf 2 = .ok (.iload_n 3, 1) := by decide +kernel
theorem dX2_bearingOf_3 : decode cX2_bearingOf 3 = .ok (.aload_n 0, 1) := by decide +kernel
theorem dX2_bearingOf_4 : decode cX2_bearingOf 4 = .ok (.iload_n 1, 1) := by decide +kernel
theorem dX2_bearingOf_5 : decode cX2_bearingOf 5 = .ok (.invokevirtual 57, 3) := by decide +kernel
theorem dX2_bearingOf_8 : decode cX2_bearingOf 8 = .ok (.imul, 1) := by decide +kernel
theorem dX2_bearingOf_9 : decode cX2_bearingOf 9 = .ok (.isub, 1) := by decide +kernel
theorem dX2_bearingOf_10 : decode cX2_bearingOf 10 = .ok (.invokestatic 48, 3) := by decide +kernel
theorem dX2_bearingOf_13 : decode cX2_bearingOf 13 = .ok (.ireturn, 1) := by decide +kernel
theorem dX2_cracked_0 : decode cX2_cracked 0 = .ok (.iconst 0, 1) := by decide +kernel
theorem dX2_cracked_1 : decode cX2_cracked 1 = .ok (.istore_n 1, 1) := by decide +kernel
theorem dX2_cracked_2 : decode cX2_cracked 2 = .ok (.iconst 0, 1) := by decide +kernel
theorem dX2_cracked_3 : decode cX2_cracked 3 = .ok (.istore_n 2, 1) := by decide +kernel
theorem dX2_cracked_4 : decode cX2_cracked 4 = .ok (.iload_n 2, 1) := by decide +kernel
theorem dX2_cracked_5 : decode cX2_cracked 5 = .ok (.sipush 144, 3) := by decide +kernel
theorem dX2_cracked_8 : decode cX2_cracked 8 = .ok (.if_icmp .ge 18, 3) := by decide +kernel
theorem dX2_cracked_11 : decode cX2_cracked 11 = .ok (.iload_n 1, 1) := by decide +kernel
theorem dX2_cracked_12 : decode cX2_cracked 12 = .ok (.aload_n 0, 1) := by decide +kernel
theorem dX2_cracked_13 : decode cX2_cracked 13 = .ok (.getfield 18, 3) := by decide +kernel
theorem dX2_cracked_16 : decode cX2_cracked 16 = .ok (.iload_n 2, 1) := by decide +kernel
theorem dX2_cracked_17 : decode cX2_cracked 17 = .ok (.iaload, 1) := by decide +kernel
theorem dX2_cracked_18 : decode cX2_cracked 18 = .ok (.iadd, 1) := by decide +kernel
theorem dX2_cracked_19 : decode cX2_cracked 19 = .ok (.istore_n 1, 1) := by decide +kernel
theorem dX2_cracked_20 : decode cX2_cracked 20 = .ok (.iinc 2 1, 3) := by decide +kernel
theorem dX2_cracked_23 : decode cX2_cracked 23 = .ok (.goto (-19), 3) := by decide +kernel
theorem dX2_cracked_26 : decode cX2_cracked 26 = .ok (.iload_n 1, 1) := by decide +kernel
theorem dX2_cracked_27 : decode cX2_cracked 27 = .ok (.ireturn, 1) := by decide +kernel
theorem dX2_foiled_0 : decode cX2_foiled 0 = .ok (.iconst 0, 1) := by decide +kernel
theorem dX2_foiled_1 : decode cX2_foiled 1 = .ok (.istore_n 1, 1) := by decide +kernel
theorem dX2_foiled_2 : decode cX2_foiled 2 = .ok (.iconst 0, 1) := by decide +kernel
theorem dX2_foiled_3 : decode cX2_foiled 3 = .ok (.istore_n 2, 1) := by decide +kernel
theorem dX2_foiled_4 : decode cX2_foiled 4 = .ok (.iload_n 2, 1) := by decide +kernel
theorem dX2_foiled_5 : decode cX2_foiled 5 = .ok (.sipush 144, 3) := by decide +kernel
theorem dX2_foiled_8 : decode cX2_foiled 8 = .ok (.if_icmp .ge 21, 3) := by decide +kernel
theorem dX2_foiled_11 : decode cX2_foiled 11 = .ok (.aload_n 0, 1) := by decide +kernel
theorem dX2_foiled_12 : decode cX2_foiled 12 = .ok (.getfield 15, 3) := by decide +kernel
theorem dX2_foiled_15 : decode cX2_foiled 15 = .ok (.iload_n 2, 1) := by decide +kernel
theorem dX2_foiled_16 : decode cX2_foiled 16 = .ok (.iaload, 1) := by decide +kernel
theorem dX2_foiled_17 : decode cX2_foiled 17 = .ok (.ifCond .eq 6, 3) := by decide +kernel
theorem dX2_foiled_20 : decode cX2_foiled 20 = .ok (.iinc 1 1, 3) := by decide +kernel
theorem dX2_foiled_23 : decode cX2_foiled 23 = .ok (.iinc 2 1, 3) := by decide +kernel
theorem dX2_foiled_26 : decode cX2_foiled 26 = .ok (.goto (-22), 3) := by decide +kernel
theorem dX2_foiled_29 : decode cX2_foiled 29 = .ok (.iload_n 1, 1) := by decide +kernel
theorem dX2_foiled_30 : decode cX2_foiled 30 = .ok (.ireturn, 1) := by decide +kernel
theorem dX2_greatestDepth_0 : decode cX2_greatestDepth 0 = .ok (.iconst 0, 1) := by decide +kernel
theorem dX2_greatestDepth_1 : decode cX2_greatestDepth 1 = .ok (.istore_n 1, 1) := by decide +kernel
theorem dX2_greatestDepth_2 : decode cX2_greatestDepth 2 = .ok (.iconst 0, 1) := by decide +kernel
theorem dX2_greatestDepth_3 : decode cX2_greatestDepth 3 = .ok (.istore_n 2, 1) := by decide +kernel
theorem dX2_greatestDepth_4 : decode cX2_greatestDepth 4 = .ok (.iload_n 2, 1) := by decide +kernel
theorem dX2_greatestDepth_5 : decode cX2_greatestDepth 5 = .ok (.sipush 144, 3) := by decide +kernel
theorem dX2_greatestDepth_8 : decode cX2_greatestDepth 8 = .ok (.if_icmp .ge 20, 3) := by decide +kernel
theorem dX2_greatestDepth_11 : decode cX2_greatestDepth 11 = .ok (.iload_n 1, 1) := by decide +kernel
theorem dX2_greatestDepth_12 : decode cX2_greatestDepth 12 = .ok (.aload_n 0, 1) := by decide +kernel
theorem dX2_greatestDepth_13 : decode cX2_greatestDepth 13 = .ok (.getfield 9, 3) := by decide +kernel
theorem dX2_greatestDepth_16 : decode cX2_greatestDepth 16 = .ok (.iload_n 2, 1) := by decide +kernel
theorem dX2_greatestDepth_17 : decode cX2_greatestDepth 17 = .ok (.iaload, 1) := by decide +kernel
theorem dX2_greatestDepth_18 : decode cX2_greatestDepth 18 = .ok (.invokestatic 48, 3) := by decide +kernel
theorem dX2_greatestDepth_21 : decode cX2_greatestDepth 21 = .ok (.istore_n 1, 1) := by decide +kernel
theorem dX2_greatestDepth_22 : decode cX2_greatestDepth 22 = .ok (.iinc 2 1, 3) := by decide +kernel
theorem dX2_greatestDepth_25 : decode cX2_greatestDepth 25 = .ok (.goto (-21), 3) := by decide +kernel
theorem dX2_greatestDepth_28 : decode cX2_greatestDepth 28 = .ok (.iload_n 1, 1) := by decide +kernel
theorem dX2_greatestDepth_29 : decode cX2_greatestDepth 29 = .ok (.ireturn, 1) := by decide +kernel
theorem dX2_strainByPlaces_0 : decode cX2_strainByPlaces 0 = .ok (.iconst 0, 1) := by decide +kernel
theorem dX2_strainByPlaces_1 : decode cX2_strainByPlaces 1 = .ok (.istore_n 1, 1) := by decide +kernel
theorem dX2_strainByPlaces_2 : decode cX2_strainByPlaces 2 = .ok (.iconst 0, 1) := by decide +kernel
theorem dX2_strainByPlaces_3 : decode cX2_strainByPlaces 3 = .ok (.istore_n 2, 1) := by decide +kernel
theorem dX2_strainByPlaces_4 : decode cX2_strainByPlaces 4 = .ok (.iload_n 2, 1) := by decide +kernel
theorem dX2_strainByPlaces_5 : decode cX2_strainByPlaces 5 = .ok (.sipush 144, 3) := by decide +kernel
theorem dX2_strainByPlaces_8 : decode cX2_strainByPlaces 8 = .ok (.if_icmp .ge 17, 3) := by decide +kernel
theorem dX2_strainByPlaces_11 : decode cX2_strainByPlaces 11 = .ok (.iload_n 1, 1) := by decide +kernel
theorem dX2_strainByPlaces_12 : decode cX2_strainByPlaces 12 = .ok (.aload_n 0, 1) := by decide +kernel
theorem dX2_strainByPlaces_13 : decode cX2_strainByPlaces 13 = .ok (.iload_n 2, 1) := by decide +kernel
theorem dX2_strainByPlaces_14 : decode cX2_strainByPlaces 14 = .ok (.invokevirtual 61, 3) := by decide +kernel
theorem dX2_strainByPlaces_17 : decode cX2_strainByPlaces 17 = .ok (.iadd, 1) := by decide +kernel
theorem dX2_strainByPlaces_18 : decode cX2_strainByPlaces 18 = .ok (.istore_n 1, 1) := by decide +kernel
theorem dX2_strainByPlaces_19 : decode cX2_strainByPlaces 19 = .ok (.iinc 2 1, 3) := by decide +kernel
theorem dX2_strainByPlaces_22 : decode cX2_strainByPlaces 22 = .ok (.goto (-18), 3) := by decide +kernel
theorem dX2_strainByPlaces_25 : decode cX2_strainByPlaces 25 = .ok (.iload_n 1, 1) := by decide +kernel
theorem dX2_strainByPlaces_26 : decode cX2_strainByPlaces 26 = .ok (.ireturn, 1) := by decide +kernel
theorem dX2_strainByPairs_0 : decode cX2_strainByPairs 0 = .ok (.iconst 0, 1) := by decide +kernel
theorem dX2_strainByPairs_1 : decode cX2_strainByPairs 1 = .ok (.istore_n 1, 1) := by decide +kernel
theorem dX2_strainByPairs_2 : decode cX2_strainByPairs 2 = .ok (.iconst 0, 1) := by decide +kernel
theorem dX2_strainByPairs_3 : decode cX2_strainByPairs 3 = .ok (.istore_n 2, 1) := by decide +kernel
theorem dX2_strainByPairs_4 : decode cX2_strainByPairs 4 = .ok (.iload_n 2, 1) := by decide +kernel
theorem dX2_strainByPairs_5 : decode cX2_strainByPairs 5 = .ok (.sipush 144, 3) := by decide +kernel
theorem dX2_strainByPairs_8 : decode cX2_strainByPairs 8 = .ok (.if_icmp .ge 48, 3) := by decide +kernel
theorem dX2_strainByPairs_11 : decode cX2_strainByPairs 11 = .ok (.iload_n 2, 1) := by decide +kernel
theorem dX2_strainByPairs_12 : decode cX2_strainByPairs 12 = .ok (.bipush 12, 2) := by decide +kernel
theorem dX2_strainByPairs_14 : decode cX2_strainByPairs 14 = .ok (.irem, 1) := by decide +kernel
theorem dX2_strainByPairs_15 : decode cX2_strainByPairs 15 = .ok (.bipush 11, 2) := by decide +kernel
theorem dX2_strainByPairs_17 : decode cX2_strainByPairs 17 = .ok (.if_icmp .ge 14, 3) := by decide +kernel
theorem dX2_strainByPairs_20 : decode cX2_strainByPairs 20 = .ok (.iload_n 1, 1) := by decide +kernel
theorem dX2_strainByPairs_21 : decode cX2_strainByPairs 21 = .ok (.aload_n 0, 1) := by decide +kernel
theorem dX2_strainByPairs_22 : decode cX2_strainByPairs 22 = .ok (.iload_n 2, 1) := by decide +kernel
theorem dX2_strainByPairs_23 : decode cX2_strainByPairs 23 = .ok (.iload_n 2, 1) := by decide +kernel
theorem dX2_strainByPairs_24 : decode cX2_strainByPairs 24 = .ok (.iconst 1, 1) := by decide +kernel
theorem dX2_strainByPairs_25 : decode cX2_strainByPairs 25 = .ok (.iadd, 1) := by decide +kernel
theorem dX2_strainByPairs_26 : decode cX2_strainByPairs 26 = .ok (.invokevirtual 54, 3) := by decide +kernel
theorem dX2_strainByPairs_29 : decode cX2_strainByPairs 29 = .ok (.iadd, 1) := by decide +kernel
theorem dX2_strainByPairs_30 : decode cX2_strainByPairs 30 = .ok (.istore_n 1, 1) := by decide +kernel
theorem dX2_strainByPairs_31 : decode cX2_strainByPairs 31 = .ok (.iload_n 2, 1) := by decide +kernel
theorem dX2_strainByPairs_32 : decode cX2_strainByPairs 32 = .ok (.sipush 132, 3) := by decide +kernel
theorem dX2_strainByPairs_35 : decode cX2_strainByPairs 35 = .ok (.if_icmp .ge 15, 3) := by decide +kernel
theorem dX2_strainByPairs_38 : decode cX2_strainByPairs 38 = .ok (.iload_n 1, 1) := by decide +kernel
theorem dX2_strainByPairs_39 : decode cX2_strainByPairs 39 = .ok (.aload_n 0, 1) := by decide +kernel
theorem dX2_strainByPairs_40 : decode cX2_strainByPairs 40 = .ok (.iload_n 2, 1) := by decide +kernel
theorem dX2_strainByPairs_41 : decode cX2_strainByPairs 41 = .ok (.iload_n 2, 1) := by decide +kernel
theorem dX2_strainByPairs_42 : decode cX2_strainByPairs 42 = .ok (.bipush 12, 2) := by decide +kernel
theorem dX2_strainByPairs_44 : decode cX2_strainByPairs 44 = .ok (.iadd, 1) := by decide +kernel
theorem dX2_strainByPairs_45 : decode cX2_strainByPairs 45 = .ok (.invokevirtual 54, 3) := by decide +kernel
theorem dX2_strainByPairs_48 : decode cX2_strainByPairs 48 = .ok (.iadd, 1) := by decide +kernel
theorem dX2_strainByPairs_49 : decode cX2_strainByPairs 49 = .ok (.istore_n 1, 1) := by decide +kernel
theorem dX2_strainByPairs_50 : decode cX2_strainByPairs 50 = .ok (.iinc 2 1, 3) := by decide +kernel
theorem dX2_strainByPairs_53 : decode cX2_strainByPairs 53 = .ok (.goto (-49), 3) := by decide +kernel
theorem dX2_strainByPairs_56 : decode cX2_strainByPairs 56 = .ok (.iconst 2, 1) := by decide +kernel
theorem dX2_strainByPairs_57 : decode cX2_strainByPairs 57 = .ok (.iload_n 1, 1) := by decide +kernel
theorem dX2_strainByPairs_58 : decode cX2_strainByPairs 58 = .ok (.imul, 1) := by decide +kernel
theorem dX2_strainByPairs_59 : decode cX2_strainByPairs 59 = .ok (.ireturn, 1) := by decide +kernel
theorem dX3_init_0 : decode cX3_init 0 = .ok (.aload_n 0, 1) := by decide +kernel
theorem dX3_init_1 : decode cX3_init 1 = .ok (.invokespecial 3, 3) := by decide +kernel
theorem dX3_init_4 : decode cX3_init 4 = .ok (.aload_n 0, 1) := by decide +kernel
theorem dX3_init_5 : decode cX3_init 5 = .ok (.bipush 75, 2) := by decide +kernel
theorem dX3_init_7 : decode cX3_init 7 = .ok (.newarray .int, 2) := by decide +kernel
theorem dX3_init_9 : decode cX3_init 9 = .ok (.putfield 9, 3) := by decide +kernel
theorem dX3_init_12 : decode cX3_init 12 = .ok (.aload_n 0, 1) := by decide +kernel
theorem dX3_init_13 : decode cX3_init 13 = .ok (.getstatic 15, 3) := by decide +kernel
theorem dX3_init_16 : decode cX3_init 16 = .ok (.invokevirtual 18, 3) := by decide +kernel
theorem dX3_init_19 : decode cX3_init 19 = .ok (.checkcast 19, 3) := by decide +kernel
theorem dX3_init_22 : decode cX3_init 22 = .ok (.putfield 23, 3) := by decide +kernel
theorem dX3_init_25 : decode cX3_init 25 = .ok (.aload_n 0, 1) := by decide +kernel
theorem dX3_init_26 : decode cX3_init 26 = .ok (.new 26, 3) := by decide +kernel
theorem dX3_init_29 : decode cX3_init 29 = .ok (.dup, 1) := by decide +kernel
theorem dX3_init_30 : decode cX3_init 30 = .ok (.invokespecial 28, 3) := by decide +kernel
theorem dX3_init_33 : decode cX3_init 33 = .ok (.putfield 29, 3) := by decide +kernel
theorem dX3_init_36 : decode cX3_init 36 = .ok (.aload_n 0, 1) := by decide +kernel
theorem dX3_init_37 : decode cX3_init 37 = .ok (.iconst 1, 1) := by decide +kernel
theorem dX3_init_38 : decode cX3_init 38 = .ok (.putfield 33, 3) := by decide +kernel
theorem dX3_init_41 : decode cX3_init 41 = .ok (.return_, 1) := by decide +kernel
theorem dX3_copyFrom_0 : decode cX3_copyFrom 0 = .ok (.aload_n 1, 1) := by decide +kernel
theorem dX3_copyFrom_1 : decode cX3_copyFrom 1 = .ok (.getfield 9, 3) := by decide +kernel
theorem dX3_copyFrom_4 : decode cX3_copyFrom 4 = .ok (.iconst 0, 1) := by decide +kernel
theorem dX3_copyFrom_5 : decode cX3_copyFrom 5 = .ok (.aload_n 0, 1) := by decide +kernel
theorem dX3_copyFrom_6 : decode cX3_copyFrom 6 = .ok (.getfield 9, 3) := by decide +kernel
theorem dX3_copyFrom_9 : decode cX3_copyFrom 9 = .ok (.iconst 0, 1) := by decide +kernel
theorem dX3_copyFrom_10 : decode cX3_copyFrom 10 = .ok (.bipush 75, 2) := by decide +kernel
theorem dX3_copyFrom_12 : decode cX3_copyFrom 12 = .ok (.invokestatic 37, 3) := by decide +kernel
theorem dX3_copyFrom_15 : decode cX3_copyFrom 15 = .ok (.aload_n 1, 1) := by decide +kernel
theorem dX3_copyFrom_16 : decode cX3_copyFrom 16 = .ok (.getfield 23, 3) := by decide +kernel
theorem dX3_copyFrom_19 : decode cX3_copyFrom 19 = .ok (.iconst 0, 1) := by decide +kernel
theorem dX3_copyFrom_20 : decode cX3_copyFrom 20 = .ok (.aload_n 0, 1) := by decide +kernel
theorem dX3_copyFrom_21 : decode cX3_copyFrom 21 = .ok (.getfield 23, 3) := by decide +kernel
theorem dX3_copyFrom_24 : decode cX3_copyFrom 24 = .ok (.iconst 0, 1) := by decide +kernel
theorem dX3_copyFrom_25 : decode cX3_copyFrom 25 = .ok (.iconst 4, 1) := by decide +kernel
theorem dX3_copyFrom_26 : decode cX3_copyFrom 26 = .ok (.invokestatic 37, 3) := by decide +kernel
theorem dX3_copyFrom_29 : decode cX3_copyFrom 29 = .ok (.aload_n 0, 1) := by decide +kernel
theorem dX3_copyFrom_30 : decode cX3_copyFrom 30 = .ok (.getfield 29, 3) := by decide +kernel
theorem dX3_copyFrom_33 : decode cX3_copyFrom 33 = .ok (.aload_n 1, 1) := by decide +kernel
theorem dX3_copyFrom_34 : decode cX3_copyFrom 34 = .ok (.getfield 29, 3) := by decide +kernel
theorem dX3_copyFrom_37 : decode cX3_copyFrom 37 = .ok (.invokevirtual 43, 3) := by decide +kernel
theorem dX3_copyFrom_40 : decode cX3_copyFrom 40 = .ok (.aload_n 0, 1) := by decide +kernel
theorem dX3_copyFrom_41 : decode cX3_copyFrom 41 = .ok (.aload_n 1, 1) := by decide +kernel
theorem dX3_copyFrom_42 : decode cX3_copyFrom 42 = .ok (.getfield 47, 3) := by decide +kernel
theorem dX3_copyFrom_45 : decode cX3_copyFrom 45 = .ok (.putfield 47, 3) := by decide +kernel
theorem dX3_copyFrom_48 : decode cX3_copyFrom 48 = .ok (.aload_n 0, 1) := by decide +kernel
theorem dX3_copyFrom_49 : decode cX3_copyFrom 49 = .ok (.aload_n 1, 1) := by decide +kernel
theorem dX3_copyFrom_50 : decode cX3_copyFrom 50 = .ok (.getfield 50, 3) := by decide +kernel
theorem dX3_copyFrom_53 : decode cX3_copyFrom 53 = .ok (.putfield 50, 3) := by decide +kernel
theorem dX3_copyFrom_56 : decode cX3_copyFrom 56 = .ok (.aload_n 0, 1) := by decide +kernel
theorem dX3_copyFrom_57 : decode cX3_copyFrom 57 = .ok (.aload_n 1, 1) := by decide +kernel
theorem dX3_copyFrom_58 : decode cX3_copyFrom 58 = .ok (.getfield 53, 3) := by decide +kernel
theorem dX3_copyFrom_61 : decode cX3_copyFrom 61 = .ok (.putfield 53, 3) := by decide +kernel
theorem dX3_copyFrom_64 : decode cX3_copyFrom 64 = .ok (.aload_n 0, 1) := by decide +kernel
theorem dX3_copyFrom_65 : decode cX3_copyFrom 65 = .ok (.aload_n 1, 1) := by decide +kernel
theorem dX3_copyFrom_66 : decode cX3_copyFrom 66 = .ok (.getfield 56, 3) := by decide +kernel
theorem dX3_copyFrom_69 : decode cX3_copyFrom 69 = .ok (.putfield 56, 3) := by decide +kernel
theorem dX3_copyFrom_72 : decode cX3_copyFrom 72 = .ok (.aload_n 0, 1) := by decide +kernel
theorem dX3_copyFrom_73 : decode cX3_copyFrom 73 = .ok (.aload_n 1, 1) := by decide +kernel
theorem dX3_copyFrom_74 : decode cX3_copyFrom 74 = .ok (.getfield 59, 3) := by decide +kernel
theorem dX3_copyFrom_77 : decode cX3_copyFrom 77 = .ok (.putfield 59, 3) := by decide +kernel
theorem dX3_copyFrom_80 : decode cX3_copyFrom 80 = .ok (.aload_n 0, 1) := by decide +kernel
theorem dX3_copyFrom_81 : decode cX3_copyFrom 81 = .ok (.aload_n 1, 1) := by decide +kernel
theorem dX3_copyFrom_82 : decode cX3_copyFrom 82 = .ok (.getfield 33, 3) := by decide +kernel
theorem dX3_copyFrom_85 : decode cX3_copyFrom 85 = .ok (.putfield 33, 3) := by decide +kernel
theorem dX3_copyFrom_88 : decode cX3_copyFrom 88 = .ok (.aload_n 0, 1) := by decide +kernel
theorem dX3_copyFrom_89 : decode cX3_copyFrom 89 = .ok (.aload_n 1, 1) := by decide +kernel
theorem dX3_copyFrom_90 : decode cX3_copyFrom 90 = .ok (.getfield 62, 3) := by decide +kernel
theorem dX3_copyFrom_93 : decode cX3_copyFrom 93 = .ok (.putfield 62, 3) := by decide +kernel
theorem dX3_copyFrom_96 : decode cX3_copyFrom 96 = .ok (.aload_n 0, 1) := by decide +kernel
theorem dX3_copyFrom_97 : decode cX3_copyFrom 97 = .ok (.aload_n 1, 1) := by decide +kernel
theorem dX3_copyFrom_98 : decode cX3_copyFrom 98 = .ok (.getfield 65, 3) := by decide +kernel
theorem dX3_copyFrom_101 : decode cX3_copyFrom 101 = .ok (.putfield 65, 3) := by decide +kernel
theorem dX3_copyFrom_104 : decode cX3_copyFrom 104 = .ok (.aload_n 0, 1) := by decide +kernel
theorem dX3_copyFrom_105 : decode cX3_copyFrom 105 = .ok (.aload_n 1, 1) := by decide +kernel
theorem dX3_copyFrom_106 : decode cX3_copyFrom 106 = .ok (.getfield 68, 3) := by decide +kernel
theorem dX3_copyFrom_109 : decode cX3_copyFrom 109 = .ok (.putfield 68, 3) := by decide +kernel
theorem dX3_copyFrom_112 : decode cX3_copyFrom 112 = .ok (.aload_n 0, 1) := by decide +kernel
theorem dX3_copyFrom_113 : decode cX3_copyFrom 113 = .ok (.aload_n 1, 1) := by decide +kernel
theorem dX3_copyFrom_114 : decode cX3_copyFrom 114 = .ok (.getfield 71, 3) := by decide +kernel
theorem dX3_copyFrom_117 : decode cX3_copyFrom 117 = .ok (.putfield 71, 3) := by decide +kernel
theorem dX3_copyFrom_120 : decode cX3_copyFrom 120 = .ok (.aload_n 0, 1) := by decide +kernel
theorem dX3_copyFrom_121 : decode cX3_copyFrom 121 = .ok (.aload_n 1, 1) := by decide +kernel
theorem dX3_copyFrom_122 : decode cX3_copyFrom 122 = .ok (.getfield 74, 3) := by decide +kernel
theorem dX3_copyFrom_125 : decode cX3_copyFrom 125 = .ok (.putfield 74, 3) := by decide +kernel
theorem dX3_copyFrom_128 : decode cX3_copyFrom 128 = .ok (.aload_n 0, 1) := by decide +kernel
theorem dX3_copyFrom_129 : decode cX3_copyFrom 129 = .ok (.aload_n 1, 1) := by decide +kernel
theorem dX3_copyFrom_130 : decode cX3_copyFrom 130 = .ok (.getfield 77, 3) := by decide +kernel
theorem dX3_copyFrom_133 : decode cX3_copyFrom 133 = .ok (.putfield 77, 3) := by decide +kernel
theorem dX3_copyFrom_136 : decode cX3_copyFrom 136 = .ok (.return_, 1) := by decide +kernel
theorem dX3_turnedPoint_0 : decode cX3_turnedPoint 0 = .ok (.iload_n 2, 1) := by decide +kernel
theorem dX3_turnedPoint_1 : decode cX3_turnedPoint 1 = .ok (.istore 5, 2) := by decide +kernel
theorem dX3_turnedPoint_3 : decode cX3_turnedPoint 3 = .ok (.iload_n 3, 1) := by decide +kernel
theorem dX3_turnedPoint_4 : decode cX3_turnedPoint 4 = .ok (.istore 6, 2) := by decide +kernel
theorem dX3_turnedPoint_6 : decode cX3_turnedPoint 6 = .ok (.iconst 0, 1) := by decide +kernel
theorem dX3_turnedPoint_7 : decode cX3_turnedPoint 7 = .ok (.istore 7, 2) := by decide +kernel
theorem dX3_turnedPoint_9 : decode cX3_turnedPoint 9 = .ok (.iload 7, 2) := by decide +kernel
theorem dX3_turnedPoint_11 : decode cX3_turnedPoint 11 = .ok (.iload 4, 2) := by decide +kernel
theorem dX3_turnedPoint_13 : decode cX3_turnedPoint 13 = .ok (.iconst 4, 1) := by decide +kernel
theorem dX3_turnedPoint_14 : decode cX3_turnedPoint 14 = .ok (.irem, 1) := by decide +kernel
theorem dX3_turnedPoint_15 : decode cX3_turnedPoint 15 = .ok (.if_icmp .ge 23, 3) := by decide +kernel
theorem dX3_turnedPoint_18 : decode cX3_turnedPoint 18 = .ok (.iconst 4, 1) := by decide +kernel
theorem dX3_turnedPoint_19 : decode cX3_turnedPoint 19 = .ok (.iload 5, 2) := by decide +kernel
theorem dX3_turnedPoint_21 : decode cX3_turnedPoint 21 = .ok (.isub, 1) := by decide +kernel
theorem dX3_turnedPoint_22 : decode cX3_turnedPoint 22 = .ok (.istore 8, 2) := by decide +kernel
theorem dX3_turnedPoint_24 : decode cX3_turnedPoint 24 = .ok (.iload 6, 2) := by decide +kernel
theorem dX3_turnedPoint_26 : decode cX3_turnedPoint 26 = .ok (.istore 5, 2) := by decide +kernel
theorem dX3_turnedPoint_28 : decode cX3_turnedPoint 28 = .ok (.iload 8, 2) := by decide +kernel
theorem dX3_turnedPoint_30 : decode cX3_turnedPoint 30 = .ok (.istore 6, 2) := by decide +kernel
theorem dX3_turnedPoint_32 : decode cX3_turnedPoint 32 = .ok (.iinc 7 1, 3) := by decide +kernel
theorem dX3_turnedPoint_35 : decode cX3_turnedPoint 35 = .ok (.goto (-26), 3) := by decide +kernel
theorem dX3_turnedPoint_38 : decode cX3_turnedPoint 38 = .ok (.iload 4, 2) := by decide +kernel
theorem dX3_turnedPoint_40 : decode cX3_turnedPoint 40 = .ok (.iconst 4, 1) := by decide +kernel
theorem dX3_turnedPoint_41 : decode cX3_turnedPoint 41 = .ok (.if_icmp .lt 9, 3) := by decide +kernel
theorem dX3_turnedPoint_44 : decode cX3_turnedPoint 44 = .ok (.iconst 4, 1) := by decide +kernel
theorem dX3_turnedPoint_45 : decode cX3_turnedPoint 45 = .ok (.iload 5, 2) := by decide +kernel
theorem dX3_turnedPoint_47 : decode cX3_turnedPoint 47 = .ok (.isub, 1) := by decide +kernel
theorem dX3_turnedPoint_48 : decode cX3_turnedPoint 48 = .ok (.istore 5, 2) := by decide +kernel
theorem dX3_turnedPoint_50 : decode cX3_turnedPoint 50 = .ok (.aload_n 0, 1) := by decide +kernel
theorem dX3_turnedPoint_51 : decode cX3_turnedPoint 51 = .ok (.getfield 9, 3) := by decide +kernel
theorem dX3_turnedPoint_54 : decode cX3_turnedPoint 54 = .ok (.iload_n 1, 1) := by decide +kernel
theorem dX3_turnedPoint_55 : decode cX3_turnedPoint 55 = .ok (.iload 5, 2) := by decide +kernel
theorem dX3_turnedPoint_57 : decode cX3_turnedPoint 57 = .ok (.iload 6, 2) := by decide +kernel
theorem dX3_turnedPoint_59 : decode cX3_turnedPoint 59 = .ok (.invokestatic 80, 3) := by decide +kernel
theorem dX3_turnedPoint_62 : decode cX3_turnedPoint 62 = .ok (.iaload, 1) := by decide +kernel
theorem dX3_turnedPoint_63 : decode cX3_turnedPoint 63 = .ok (.ireturn, 1) := by decide +kernel
theorem dX3_turnDie_0 : decode cX3_turnDie 0 = .ok (.iconst 0, 1) := by decide +kernel
theorem dX3_turnDie_1 : decode cX3_turnDie 1 = .ok (.istore 4, 2) := by decide +kernel
theorem dX3_turnDie_3 : decode cX3_turnDie 3 = .ok (.iload 4, 2) := by decide +kernel
theorem dX3_turnDie_5 : decode cX3_turnDie 5 = .ok (.iconst 5, 1) := by decide +kernel
theorem dX3_turnDie_6 : decode cX3_turnDie 6 = .ok (.if_icmp .ge 43, 3) := by decide +kernel
theorem dX3_turnDie_9 : decode cX3_turnDie 9 = .ok (.iconst 0, 1) := by decide +kernel
theorem dX3_turnDie_10 : decode cX3_turnDie 10 = .ok (.istore 5, 2) := by decide +kernel
theorem dX3_turnDie_12 : decode cX3_turnDie 12 = .ok (.iload 5, 2) := by decide +kernel
theorem dX3_turnDie_14 : decode cX3_turnDie 14 = .ok (.iconst 5, 1) := by decide +kernel
theorem dX3_turnDie_15 : decode cX3_turnDie 15 = .ok (.if_icmp .ge 28, 3) := by decide +kernel
theorem dX3_turnDie_18 : decode cX3_turnDie 18 = .ok (.aload_n 3, 1) := by decide +kernel
theorem dX3_turnDie_19 : decode cX3_turnDie 19 = .ok (.iload 4, 2) := by decide +kernel
theorem dX3_turnDie_21 : decode cX3_turnDie 21 = .ok (.iconst 5, 1) := by decide +kernel
theorem dX3_turnDie_22 : decode cX3_turnDie 22 = .ok (.imul, 1) := by decide +kernel
theorem dX3_turnDie_23 : decode cX3_turnDie 23 = .ok (.iload 5, 2) := by decide +kernel
theorem dX3_turnDie_25 : decode cX3_turnDie 25 = .ok (.iadd, 1) := by decide +kernel
theorem dX3_turnDie_26 : decode cX3_turnDie 26 = .ok (.aload_n 0, 1) := by decide +kernel
theorem dX3_turnDie_27 : decode cX3_turnDie 27 = .ok (.iload_n 1, 1) := by decide +kernel
theorem dX3_turnDie_28 : decode cX3_turnDie 28 = .ok (.iload 5, 2) := by decide +kernel
theorem dX3_turnDie_30 : decode cX3_turnDie 30 = .ok (.iload 4, 2) := by decide +kernel
theorem dX3_turnDie_32 : decode cX3_turnDie 32 = .ok (.iload_n 2, 1) := by decide +kernel
theorem dX3_turnDie_33 : decode cX3_turnDie 33 = .ok (.invokevirtual 84, 3) := by decide +kernel
theorem dX3_turnDie_36 : decode cX3_turnDie 36 = .ok (.iastore, 1) := by decide +kernel
theorem dX3_turnDie_37 : decode cX3_turnDie 37 = .ok (.iinc 5 1, 3) := by decide +kernel
theorem dX3_turnDie_40 : decode cX3_turnDie 40 = .ok (.goto (-28), 3) := by decide +kernel
theorem dX3_turnDie_43 : decode cX3_turnDie 43 = .ok (.iinc 4 1, 3) := by decide +kernel
theorem dX3_turnDie_46 : decode cX3_turnDie 46 = .ok (.goto (-43), 3) := by decide +kernel
theorem dX3_turnDie_49 : decode cX3_turnDie 49 = .ok (.return_, 1) := by decide +kernel
theorem dX3_raisedPoints_0 : decode cX3_raisedPoints 0 = .ok (.iconst 0, 1) := by decide +kernel
theorem dX3_raisedPoints_1 : decode cX3_raisedPoints 1 = .ok (.istore_n 2, 1) := by decide +kernel
theorem dX3_raisedPoints_2 : decode cX3_raisedPoints 2 = .ok (.iconst 0, 1) := by decide +kernel
theorem dX3_raisedPoints_3 : decode cX3_raisedPoints 3 = .ok (.istore_n 3, 1) := by decide +kernel
theorem dX3_raisedPoints_4 : decode cX3_raisedPoints 4 = .ok (.iload_n 3, 1) := by decide +kernel
theorem dX3_raisedPoints_5 : decode cX3_raisedPoints 5 = .ok (.bipush 25, 2) := by decide +kernel
theorem dX3_raisedPoints_7 : decode cX3_raisedPoints 7 = .ok (.if_icmp .ge 26, 3) := by decide +kernel
theorem dX3_raisedPoints_10 : decode cX3_raisedPoints 10 = .ok (.aload_n 0, 1) := by decide +kernel
theorem dX3_raisedPoints_11 : decode cX3_raisedPoints 11 = .ok (.getfield 9, 3) := by decide +kernel
theorem dX3_raisedPoints_14 : decode cX3_raisedPoints 14 = .ok (.iload_n 1, 1) := by decide +kernel
theorem dX3_raisedPoints_15 : decode cX3_raisedPoints 15 = .ok (.bipush 25, 2) := by decide +kernel
theorem dX3_raisedPoints_17 : decode cX3_raisedPoints 17 = .ok (.imul, 1) := by decide +kernel
theorem dX3_raisedPoints_18 : decode cX3_raisedPoints 18 = .ok (.iload_n 3, 1) := by decide +kernel
theorem dX3_raisedPoints_19 : decode cX3_raisedPoints 19 = .ok (.iadd, 1) := by decide +kernel
theorem dX3_raisedPoints_20 : decode cX3_raisedPoints 20 = .ok (.iaload, 1) := by decide +kernel
theorem dX3_raisedPoints_21 : decode cX3_raisedPoints 21 = .ok (.ifCond .le 6, 3) := by decide +kernel
theorem dX3_raisedPoints_24 : decode cX3_raisedPoints 24 = .ok (.iinc 2 1, 3) := by decide +kernel
theorem dX3_raisedPoints_27 : decode cX3_raisedPoints 27 = .ok (.iinc 3 1, 3) := by decide +kernel
theorem dX3_raisedPoints_30 : decode cX3_raisedPoints 30 = .ok (.goto (-26), 3) := by decide +kernel
theorem dX3_raisedPoints_33 : decode cX3_raisedPoints 33 = .ok (.iload_n 2, 1) := by decide +kernel
theorem dX3_raisedPoints_34 : decode cX3_raisedPoints 34 = .ok (.ireturn, 1) := by decide +kernel
theorem dX3_isFoilReadyOver_0 : decode cX3_isFoilReadyOver 0 = .ok (.iload_n 1, 1) := by decide +kernel
theorem dX3_isFoilReadyOver_1 : decode cX3_isFoilReadyOver 1 = .ok (.bipush 12, 2) := by decide +kernel
theorem dX3_isFoilReadyOver_3 : decode cX3_isFoilReadyOver 3 = .ok (.irem, 1) := by decide +kernel
theorem dX3_isFoilReadyOver_4 : decode cX3_isFoilReadyOver 4 = .ok (.istore_n 2, 1) := by decide +kernel
theorem dX3_isFoilReadyOver_5 : decode cX3_isFoilReadyOver 5 = .ok (.iload_n 1, 1) := by decide +kernel
theorem dX3_isFoilReadyOver_6 : decode cX3_isFoilReadyOver 6 = .ok (.bipush 12, 2) := by decide +kernel
theorem dX3_isFoilReadyOver_8 : decode cX3_isFoilReadyOver 8 = .ok (.idiv, 1) := by decide +kernel
theorem dX3_isFoilReadyOver_9 : decode cX3_isFoilReadyOver 9 = .ok (.istore_n 3, 1) := by decide +kernel
theorem dX3_isFoilReadyOver_10 : decode cX3_isFoilReadyOver 10 = .ok (.aload_n 0, 1) := by decide +kernel
theorem dX3_isFoilReadyOver_11 : decode cX3_isFoilReadyOver 11 = .ok (.getfield 65, 3) := by decide +kernel
theorem dX3_isFoilReadyOver_14 : decode cX3_isFoilReadyOver 14 = .ok (.ifCond .eq 39, 3) := by decide +kernel
theorem dX3_isFoilReadyOver_17 : decode cX3_isFoilReadyOver 17 = .ok (.iload_n 2, 1) := by decide +kernel
theorem dX3_isFoilReadyOver_18 : decode cX3_isFoilReadyOver 18 = .ok (.aload_n 0, 1) := by decide +kernel
theorem dX3_isFoilReadyOver_19 : decode cX3_isFoilReadyOver 19 = .ok (.getfield 68, 3) := by decide +kernel
theorem dX3_isFoilReadyOver_22 : decode cX3_isFoilReadyOver 22 = .ok (.if_icmp .lt 31, 3) := by decide +kernel
theorem dX3_isFoilReadyOver_25 : decode cX3_isFoilReadyOver 25 = .ok (.iload_n 2, 1) := by decide +kernel
theorem dX3_isFoilReadyOver_26 : decode cX3_isFoilReadyOver 26 = .ok (.aload_n 0, 1) := by decide +kernel
theorem dX3_isFoilReadyOver_27 : decode cX3_isFoilReadyOver 27 = .ok (.getfield 74, 3) := by decide +kernel
theorem dX3_isFoilReadyOver_30 : decode cX3_isFoilReadyOver 30 = .ok (.if_icmp .gt 23, 3) := by decide +kernel
theorem dX3_isFoilReadyOver_33 : decode cX3_isFoilReadyOver 33 = .ok (.iload_n 3, 1) := by decide +kernel
theorem dX3_isFoilReadyOver_34 : decode cX3_isFoilReadyOver 34 = .ok (.aload_n 0, 1) := by decide +kernel
theorem dX3_isFoilReadyOver_35 : decode cX3_isFoilReadyOver 35 = .ok (.getfield 71, 3) := by decide +kernel
theorem dX3_isFoilReadyOver_38 : decode cX3_isFoilReadyOver 38 = .ok (.if_icmp .lt 15, 3) := by decide +kernel
theorem dX3_isFoilReadyOver_41 : decode cX3_isFoilReadyOver 41 = .ok (.iload_n 3, 1) := by decide +kernel
theorem dX3_isFoilReadyOver_42 : decode cX3_isFoilReadyOver 42 = .ok (.aload_n 0, 1) := by decide +kernel
theorem dX3_isFoilReadyOver_43 : decode cX3_isFoilReadyOver 43 = .ok (.getfield 77, 3) := by decide +kernel
theorem dX3_isFoilReadyOver_46 : decode cX3_isFoilReadyOver 46 = .ok (.if_icmp .gt 7, 3) := by decide +kernel
theorem dX3_isFoilReadyOver_49 : decode cX3_isFoilReadyOver 49 = .ok (.iconst 1, 1) := by decide +kernel
theorem dX3_isFoilReadyOver_50 : decode cX3_isFoilReadyOver 50 = .ok (.goto 4, 3) := by decide +kernel
theorem dX3_isFoilReadyOver_53 : decode cX3_isFoilReadyOver 53 = .ok (.iconst 0, 1) := by decide +kernel
theorem dX3_isFoilReadyOver_54 : decode cX3_isFoilReadyOver 54 = .ok (.ireturn, 1) := by decide +kernel
theorem dX3_stickFoil_0 : decode cX3_stickFoil 0 = .ok (.iconst 0, 1) := by decide +kernel
theorem dX3_stickFoil_1 : decode cX3_stickFoil 1 = .ok (.istore 6, 2) := by decide +kernel
theorem dX3_stickFoil_3 : decode cX3_stickFoil 3 = .ok (.iload 6, 2) := by decide +kernel
theorem dX3_stickFoil_5 : decode cX3_stickFoil 5 = .ok (.bipush 25, 2) := by decide +kernel
theorem dX3_stickFoil_7 : decode cX3_stickFoil 7 = .ok (.if_icmp .ge 55, 3) := by decide +kernel
theorem dX3_stickFoil_10 : decode cX3_stickFoil 10 = .ok (.iload 6, 2) := by decide +kernel
theorem dX3_stickFoil_12 : decode cX3_stickFoil 12 = .ok (.lload_n 2, 1) := by decide +kernel
theorem dX3_stickFoil_13 : decode cX3_stickFoil 13 = .ok (.lload 4, 2) := by decide +kernel
theorem dX3_stickFoil_15 : decode cX3_stickFoil 15 = .ok (.invokestatic 88, 3) := by decide +kernel
theorem dX3_stickFoil_18 : decode cX3_stickFoil 18 = .ok (.istore 7, 2) := by decide +kernel
theorem dX3_stickFoil_20 : decode cX3_stickFoil 20 = .ok (.aload_n 1, 1) := by decide +kernel
theorem dX3_stickFoil_21 : decode cX3_stickFoil 21 = .ok (.iload 6, 2) := by decide +kernel
theorem dX3_stickFoil_23 : decode cX3_stickFoil 23 = .ok (.iaload, 1) := by decide +kernel
theorem dX3_stickFoil_24 : decode cX3_stickFoil 24 = .ok (.ifCond .le 32, 3) := by decide +kernel
theorem dX3_stickFoil_27 : decode cX3_stickFoil 27 = .ok (.iload 7, 2) := by decide +kernel
theorem dX3_stickFoil_29 : decode cX3_stickFoil 29 = .ok (.iconst (-1), 1) := by decide +kernel
theorem dX3_stickFoil_30 : decode cX3_stickFoil 30 = .ok (.if_icmp .eq 26, 3) := by decide +kernel
theorem dX3_stickFoil_33 : decode cX3_stickFoil 33 = .ok (.aload_n 0, 1) := by decide +kernel
theorem dX3_stickFoil_34 : decode cX3_stickFoil 34 = .ok (.iload 7, 2) := by decide +kernel
theorem dX3_stickFoil_36 : decode cX3_stickFoil 36 = .ok (.invokevirtual 92, 3) := by decide +kernel
theorem dX3_stickFoil_39 : decode cX3_stickFoil 39 = .ok (.ifCond .eq 17, 3) := by decide +kernel
theorem dX3_stickFoil_42 : decode cX3_stickFoil 42 = .ok (.aload_n 0, 1) := by decide +kernel
theorem dX3_stickFoil_43 : decode cX3_stickFoil 43 = .ok (.getfield 29, 3) := by decide +kernel
theorem dX3_stickFoil_46 : decode cX3_stickFoil 46 = .ok (.getfield 96, 3) := by decide +kernel
theorem dX3_stickFoil_49 : decode cX3_stickFoil 49 = .ok (.iload 7, 2) := by decide +kernel
theorem dX3_stickFoil_51 : decode cX3_stickFoil 51 = .ok (.aload_n 0, 1) := by decide +kernel
theorem dX3_stickFoil_52 : decode cX3_stickFoil 52 = .ok (.getfield 65, 3) := by decide +kernel
theorem dX3_stickFoil_55 : decode cX3_stickFoil 55 = .ok (.iastore, 1) := by decide +kernel
theorem dX3_stickFoil_56 : decode cX3_stickFoil 56 = .ok (.iinc 6 1, 3) := by decide +kernel
theorem dX3_stickFoil_59 : decode cX3_stickFoil 59 = .ok (.goto (-56), 3) := by decide +kernel
theorem dX3_stickFoil_62 : decode cX3_stickFoil 62 = .ok (.aload_n 0, 1) := by decide +kernel
theorem dX3_stickFoil_63 : decode cX3_stickFoil 63 = .ok (.iconst 0, 1) := by decide +kernel
theorem dX3_stickFoil_64 : decode cX3_stickFoil 64 = .ok (.putfield 65, 3) := by decide +kernel
theorem dX3_stickFoil_67 : decode cX3_stickFoil 67 = .ok (.return_, 1) := by decide +kernel
theorem dX3_slipIfDue_0 : decode cX3_slipIfDue 0 = .ok (.aload_n 0, 1) := by decide +kernel
theorem dX3_slipIfDue_1 : decode cX3_slipIfDue 1 = .ok (.getfield 23, 3) := by decide +kernel
theorem dX3_slipIfDue_4 : decode cX3_slipIfDue 4 = .ok (.iconst 3, 1) := by decide +kernel
theorem dX3_slipIfDue_5 : decode cX3_slipIfDue 5 = .ok (.iaload, 1) := by decide +kernel
theorem dX3_slipIfDue_6 : decode cX3_slipIfDue 6 = .ok (.istore_n 1, 1) := by decide +kernel
theorem dX3_slipIfDue_7 : decode cX3_slipIfDue 7 = .ok (.iload_n 1, 1) := by decide +kernel
theorem dX3_slipIfDue_8 : decode cX3_slipIfDue 8 = .ok (.ifCond .le 26, 3) := by decide +kernel
theorem dX3_slipIfDue_11 : decode cX3_slipIfDue 11 = .ok (.aload_n 0, 1) := by decide +kernel
theorem dX3_slipIfDue_12 : decode cX3_slipIfDue 12 = .ok (.getfield 53, 3) := by decide +kernel
theorem dX3_slipIfDue_15 : decode cX3_slipIfDue 15 = .ok (.iload_n 1, 1) := by decide +kernel
theorem dX3_slipIfDue_16 : decode cX3_slipIfDue 16 = .ok (.irem, 1) := by decide +kernel
theorem dX3_slipIfDue_17 : decode cX3_slipIfDue 17 = .ok (.ifCond .ne 17, 3) := by decide +kernel
theorem dX3_slipIfDue_20 : decode cX3_slipIfDue 20 = .ok (.aload_n 0, 1) := by decide +kernel
theorem dX3_slipIfDue_21 : decode cX3_slipIfDue 21 = .ok (.aload_n 0, 1) := by decide +kernel
theorem dX3_slipIfDue_22 : decode cX3_slipIfDue 22 = .ok (.getfield 47, 3) := by decide +kernel
theorem dX3_slipIfDue_25 : decode cX3_slipIfDue 25 = .ok (.iconst 1, 1) := by decide +kernel
theorem dX3_slipIfDue_26 : decode cX3_slipIfDue 26 = .ok (.iadd, 1) := by decide +kernel
theorem dX3_slipIfDue_27 : decode cX3_slipIfDue 27 = .ok (.iconst 3, 1) := by decide +kernel
theorem dX3_slipIfDue_28 : decode cX3_slipIfDue 28 = .ok (.invokestatic 99, 3) := by decide +kernel
theorem dX3_slipIfDue_31 : decode cX3_slipIfDue 31 = .ok (.putfield 47, 3) := by decide +kernel
theorem dX3_slipIfDue_34 : decode cX3_slipIfDue 34 = .ok (.return_, 1) := by decide +kernel
theorem dX3_unslip_0 : decode cX3_unslip 0 = .ok (.aload_n 0, 1) := by decide +kernel
theorem dX3_unslip_1 : decode cX3_unslip 1 = .ok (.iconst 0, 1) := by decide +kernel
theorem dX3_unslip_2 : decode cX3_unslip 2 = .ok (.putfield 47, 3) := by decide +kernel
theorem dX3_unslip_5 : decode cX3_unslip 5 = .ok (.aload_n 0, 1) := by decide +kernel
theorem dX3_unslip_6 : decode cX3_unslip 6 = .ok (.iconst 0, 1) := by decide +kernel
theorem dX3_unslip_7 : decode cX3_unslip 7 = .ok (.putfield 53, 3) := by decide +kernel
theorem dX3_unslip_10 : decode cX3_unslip 10 = .ok (.return_, 1) := by decide +kernel
theorem dJ9_max_7cf53_0 : decode cJ9_max_7cf53 0 = .ok (.iload_n 0, 1) := by decide +kernel
theorem dJ9_max_7cf53_1 : decode cJ9_max_7cf53 1 = .ok (.iload_n 1, 1) := by decide +kernel
theorem dJ9_max_7cf53_2 : decode cJ9_max_7cf53 2 = .ok (.if_icmp .lt 7, 3) := by decide +kernel
theorem dJ9_max_7cf53_5 : decode cJ9_max_7cf53 5 = .ok (.iload_n 0, 1) := by decide +kernel
theorem dJ9_max_7cf53_6 : decode cJ9_max_7cf53 6 = .ok (.goto 4, 3) := by decide +kernel
theorem dJ9_max_7cf53_9 : decode cJ9_max_7cf53 9 = .ok (.iload_n 1, 1) := by decide +kernel
theorem dJ9_max_7cf53_10 : decode cJ9_max_7cf53 10 = .ok (.ireturn, 1) := by decide +kernel
theorem dJ9_min_7cf53_0 : decode cJ9_min_7cf53 0 = .ok (.iload_n 0, 1) := by decide +kernel
theorem dJ9_min_7cf53_1 : decode cJ9_min_7cf53 1 = .ok (.iload_n 1, 1) := by decide +kernel
theorem dJ9_min_7cf53_2 : decode cJ9_min_7cf53 2 = .ok (.if_icmp .gt 7, 3) := by decide +kernel
theorem dJ9_min_7cf53_5 : decode cJ9_min_7cf53 5 = .ok (.iload_n 0, 1) := by decide +kernel
theorem dJ9_min_7cf53_6 : decode cJ9_min_7cf53 6 = .ok (.goto 4, 3) := by decide +kernel
theorem dJ9_min_7cf53_9 : decode cJ9_min_7cf53 9 = .ok (.iload_n 1, 1) := by decide +kernel
theorem dJ9_min_7cf53_10 : decode cJ9_min_7cf53 10 = .ok (.ireturn, 1) := by decide +kernel
theorem dJ7_fill_53178_0 : decode cJ7_fill_53178 0 = .ok (.iconst 0, 1) := by decide +kernel
theorem dJ7_fill_53178_1 : decode cJ7_fill_53178 1 = .ok (.istore_n 2, 1) := by decide +kernel
theorem dJ7_fill_53178_2 : decode cJ7_fill_53178 2 = .ok (.aload_n 0, 1) := by decide +kernel
theorem dJ7_fill_53178_3 : decode cJ7_fill_53178 3 = .ok (.arraylength, 1) := by decide +kernel
theorem dJ7_fill_53178_4 : decode cJ7_fill_53178 4 = .ok (.istore_n 3, 1) := by decide +kernel
theorem dJ7_fill_53178_5 : decode cJ7_fill_53178 5 = .ok (.iload_n 2, 1) := by decide +kernel
theorem dJ7_fill_53178_6 : decode cJ7_fill_53178 6 = .ok (.iload_n 3, 1) := by decide +kernel
theorem dJ7_fill_53178_7 : decode cJ7_fill_53178 7 = .ok (.if_icmp .ge 13, 3) := by decide +kernel
theorem dJ7_fill_53178_10 : decode cJ7_fill_53178 10 = .ok (.aload_n 0, 1) := by decide +kernel
theorem dJ7_fill_53178_11 : decode cJ7_fill_53178 11 = .ok (.iload_n 2, 1) := by decide +kernel
theorem dJ7_fill_53178_12 : decode cJ7_fill_53178 12 = .ok (.iload_n 1, 1) := by decide +kernel
theorem dJ7_fill_53178_13 : decode cJ7_fill_53178 13 = .ok (.iastore, 1) := by decide +kernel
theorem dJ7_fill_53178_14 : decode cJ7_fill_53178 14 = .ok (.iinc 2 1, 3) := by decide +kernel
theorem dJ7_fill_53178_17 : decode cJ7_fill_53178 17 = .ok (.goto (-12), 3) := by decide +kernel
theorem dJ7_fill_53178_20 : decode cJ7_fill_53178 20 = .ok (.return_, 1) := by decide +kernel
