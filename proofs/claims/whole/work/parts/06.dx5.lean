theorem dX5_init_0 : decode cX5_init 0 = .ok (.aload_n 0, 1) := by decide +kernel
theorem dX5_init_1 : decode cX5_init 1 = .ok (.invokespecial 1, 3) := by decide +kernel
theorem dX5_init_4 : decode cX5_init 4 = .ok (.aload_n 0, 1) := by decide +kernel
theorem dX5_init_5 : decode cX5_init 5 = .ok (.sipush 667, 3) := by decide +kernel
theorem dX5_init_8 : decode cX5_init 8 = .ok (.newarray .int, 2) := by decide +kernel
theorem dX5_init_10 : decode cX5_init 10 = .ok (.putfield 7, 3) := by decide +kernel
theorem dX5_init_13 : decode cX5_init 13 = .ok (.aload_n 0, 1) := by decide +kernel
theorem dX5_init_14 : decode cX5_init 14 = .ok (.sipush 667, 3) := by decide +kernel
theorem dX5_init_17 : decode cX5_init 17 = .ok (.newarray .int, 2) := by decide +kernel
theorem dX5_init_19 : decode cX5_init 19 = .ok (.putfield 13, 3) := by decide +kernel
theorem dX5_init_22 : decode cX5_init 22 = .ok (.aload_n 0, 1) := by decide +kernel
theorem dX5_init_23 : decode cX5_init 23 = .ok (.sipush 4002, 3) := by decide +kernel
theorem dX5_init_26 : decode cX5_init 26 = .ok (.newarray .int, 2) := by decide +kernel
theorem dX5_init_28 : decode cX5_init 28 = .ok (.putfield 16, 3) := by decide +kernel
theorem dX5_init_31 : decode cX5_init 31 = .ok (.aload_n 0, 1) := by decide +kernel
theorem dX5_init_32 : decode cX5_init 32 = .ok (.sipush 1334, 3) := by decide +kernel
theorem dX5_init_35 : decode cX5_init 35 = .ok (.newarray .int, 2) := by decide +kernel
theorem dX5_init_37 : decode cX5_init 37 = .ok (.putfield 19, 3) := by decide +kernel
theorem dX5_init_40 : decode cX5_init 40 = .ok (.aload_n 0, 1) := by decide +kernel
theorem dX5_init_41 : decode cX5_init 41 = .ok (.iconst 2, 1) := by decide +kernel
theorem dX5_init_42 : decode cX5_init 42 = .ok (.newarray .boolean, 2) := by decide +kernel
theorem dX5_init_44 : decode cX5_init 44 = .ok (.putfield 22, 3) := by decide +kernel
theorem dX5_init_47 : decode cX5_init 47 = .ok (.aload_n 0, 1) := by decide +kernel
theorem dX5_init_48 : decode cX5_init 48 = .ok (.bipush 40, 2) := by decide +kernel
theorem dX5_init_50 : decode cX5_init 50 = .ok (.newarray .int, 2) := by decide +kernel
theorem dX5_init_52 : decode cX5_init 52 = .ok (.putfield 26, 3) := by decide +kernel
theorem dX5_init_55 : decode cX5_init 55 = .ok (.aload_n 0, 1) := by decide +kernel
theorem dX5_init_56 : decode cX5_init 56 = .ok (.sipush 144, 3) := by decide +kernel
theorem dX5_init_59 : decode cX5_init 59 = .ok (.newarray .boolean, 2) := by decide +kernel
theorem dX5_init_61 : decode cX5_init 61 = .ok (.putfield 29, 3) := by decide +kernel
theorem dX5_init_64 : decode cX5_init 64 = .ok (.aload_n 0, 1) := by decide +kernel
theorem dX5_init_65 : decode cX5_init 65 = .ok (.bipush 25, 2) := by decide +kernel
theorem dX5_init_67 : decode cX5_init 67 = .ok (.newarray .int, 2) := by decide +kernel
theorem dX5_init_69 : decode cX5_init 69 = .ok (.putfield 32, 3) := by decide +kernel
theorem dX5_init_72 : decode cX5_init 72 = .ok (.aload_n 0, 1) := by decide +kernel
theorem dX5_init_73 : decode cX5_init 73 = .ok (.iconst 0, 1) := by decide +kernel
theorem dX5_init_74 : decode cX5_init 74 = .ok (.putfield 35, 3) := by decide +kernel
theorem dX5_init_77 : decode cX5_init 77 = .ok (.aload_n 0, 1) := by decide +kernel
theorem dX5_init_78 : decode cX5_init 78 = .ok (.getfield 7, 3) := by decide +kernel
theorem dX5_init_81 : decode cX5_init 81 = .ok (.iconst 0, 1) := by decide +kernel
theorem dX5_init_82 : decode cX5_init 82 = .ok (.bipush 12, 2) := by decide +kernel
theorem dX5_init_84 : decode cX5_init 84 = .ok (.iastore, 1) := by decide +kernel
theorem dX5_init_85 : decode cX5_init 85 = .ok (.aload_n 0, 1) := by decide +kernel
theorem dX5_init_86 : decode cX5_init 86 = .ok (.getfield 7, 3) := by decide +kernel
theorem dX5_init_89 : decode cX5_init 89 = .ok (.iconst 1, 1) := by decide +kernel
theorem dX5_init_90 : decode cX5_init 90 = .ok (.iconst 3, 1) := by decide +kernel
theorem dX5_init_91 : decode cX5_init 91 = .ok (.iastore, 1) := by decide +kernel
theorem dX5_init_92 : decode cX5_init 92 = .ok (.aload_n 0, 1) := by decide +kernel
theorem dX5_init_93 : decode cX5_init 93 = .ok (.getfield 7, 3) := by decide +kernel
theorem dX5_init_96 : decode cX5_init 96 = .ok (.iconst 2, 1) := by decide +kernel
theorem dX5_init_97 : decode cX5_init 97 = .ok (.bipush 9, 2) := by decide +kernel
theorem dX5_init_99 : decode cX5_init 99 = .ok (.iastore, 1) := by decide +kernel
theorem dX5_init_100 : decode cX5_init 100 = .ok (.aload_n 0, 1) := by decide +kernel
theorem dX5_init_101 : decode cX5_init 101 = .ok (.getfield 7, 3) := by decide +kernel
theorem dX5_init_104 : decode cX5_init 104 = .ok (.bipush 14, 2) := by decide +kernel
theorem dX5_init_106 : decode cX5_init 106 = .ok (.iconst 1, 1) := by decide +kernel
theorem dX5_init_107 : decode cX5_init 107 = .ok (.iastore, 1) := by decide +kernel
theorem dX5_init_108 : decode cX5_init 108 = .ok (.return_, 1) := by decide +kernel
theorem dX5_thrown_0 : decode cX5_thrown 0 = .ok (.aload_n 0, 1) := by decide +kernel
theorem dX5_thrown_1 : decode cX5_thrown 1 = .ok (.getfield 35, 3) := by decide +kernel
theorem dX5_thrown_4 : decode cX5_thrown 4 = .ok (.ireturn, 1) := by decide +kernel
theorem dX5_in_0 : decode cX5_in 0 = .ok (.iload_n 0, 1) := by decide +kernel
theorem dX5_in_1 : decode cX5_in 1 = .ok (.iload_n 1, 1) := by decide +kernel
theorem dX5_in_2 : decode cX5_in 2 = .ok (.if_icmp .lt 12, 3) := by decide +kernel
theorem dX5_in_5 : decode cX5_in 5 = .ok (.iload_n 0, 1) := by decide +kernel
theorem dX5_in_6 : decode cX5_in 6 = .ok (.iload_n 2, 1) := by decide +kernel
theorem dX5_in_7 : decode cX5_in 7 = .ok (.if_icmp .gt 7, 3) := by decide +kernel
theorem dX5_in_10 : decode cX5_in 10 = .ok (.iconst 1, 1) := by decide +kernel
theorem dX5_in_11 : decode cX5_in 11 = .ok (.goto 4, 3) := by decide +kernel
theorem dX5_in_14 : decode cX5_in 14 = .ok (.iconst 0, 1) := by decide +kernel
theorem dX5_in_15 : decode cX5_in 15 = .ok (.ireturn, 1) := by decide +kernel
theorem dX5_fails_0 : decode cX5_fails 0 = .ok (.aload_n 0, 1) := by decide +kernel
theorem dX5_fails_1 : decode cX5_fails 1 = .ok (.iload_n 1, 1) := by decide +kernel
theorem dX5_fails_2 : decode cX5_fails 2 = .ok (.putfield 35, 3) := by decide +kernel
theorem dX5_fails_5 : decode cX5_fails 5 = .ok (.iconst 0, 1) := by decide +kernel
theorem dX5_fails_6 : decode cX5_fails 6 = .ok (.ireturn, 1) := by decide +kernel
theorem dX5_abs_0 : decode cX5_abs 0 = .ok (.iload_n 0, 1) := by decide +kernel
theorem dX5_abs_1 : decode cX5_abs 1 = .ok (.ifCond .ge 8, 3) := by decide +kernel
theorem dX5_abs_4 : decode cX5_abs 4 = .ok (.iload_n 0, 1) := by decide +kernel
theorem dX5_abs_5 : decode cX5_abs 5 = .ok (.ineg, 1) := by decide +kernel
theorem dX5_abs_6 : decode cX5_abs 6 = .ok (.goto 4, 3) := by decide +kernel
theorem dX5_abs_9 : decode cX5_abs 9 = .ok (.iload_n 0, 1) := by decide +kernel
theorem dX5_abs_10 : decode cX5_abs 10 = .ok (.ireturn, 1) := by decide +kernel
theorem dX5_isDie_0 : decode cX5_isDie 0 = .ok (.iload_n 0, 1) := by decide +kernel
theorem dX5_isDie_1 : decode cX5_isDie 1 = .ok (.iconst 0, 1) := by decide +kernel
theorem dX5_isDie_2 : decode cX5_isDie 2 = .ok (.iconst 2, 1) := by decide +kernel
theorem dX5_isDie_3 : decode cX5_isDie 3 = .ok (.invokestatic 39, 3) := by decide +kernel
theorem dX5_isDie_6 : decode cX5_isDie 6 = .ok (.ireturn, 1) := by decide +kernel
theorem dX5_isPoint_0 : decode cX5_isPoint 0 = .ok (.iload_n 0, 1) := by decide +kernel
theorem dX5_isPoint_1 : decode cX5_isPoint 1 = .ok (.iconst 0, 1) := by decide +kernel
theorem dX5_isPoint_2 : decode cX5_isPoint 2 = .ok (.iconst 4, 1) := by decide +kernel
theorem dX5_isPoint_3 : decode cX5_isPoint 3 = .ok (.invokestatic 39, 3) := by decide +kernel
theorem dX5_isPoint_6 : decode cX5_isPoint 6 = .ok (.ifCond .eq 16, 3) := by decide +kernel
theorem dX5_isPoint_9 : decode cX5_isPoint 9 = .ok (.iload_n 1, 1) := by decide +kernel
theorem dX5_isPoint_10 : decode cX5_isPoint 10 = .ok (.iconst 0, 1) := by decide +kernel
theorem dX5_isPoint_11 : decode cX5_isPoint 11 = .ok (.iconst 4, 1) := by decide +kernel
theorem dX5_isPoint_12 : decode cX5_isPoint 12 = .ok (.invokestatic 39, 3) := by decide +kernel
theorem dX5_isPoint_15 : decode cX5_isPoint 15 = .ok (.ifCond .eq 7, 3) := by decide +kernel
theorem dX5_isPoint_18 : decode cX5_isPoint 18 = .ok (.iconst 1, 1) := by decide +kernel
theorem dX5_isPoint_19 : decode cX5_isPoint 19 = .ok (.goto 4, 3) := by decide +kernel
theorem dX5_isPoint_22 : decode cX5_isPoint 22 = .ok (.iconst 0, 1) := by decide +kernel
theorem dX5_isPoint_23 : decode cX5_isPoint 23 = .ok (.ireturn, 1) := by decide +kernel
theorem dX5_isPlace_0 : decode cX5_isPlace 0 = .ok (.iload_n 0, 1) := by decide +kernel
theorem dX5_isPlace_1 : decode cX5_isPlace 1 = .ok (.iconst 0, 1) := by decide +kernel
theorem dX5_isPlace_2 : decode cX5_isPlace 2 = .ok (.bipush 11, 2) := by decide +kernel
theorem dX5_isPlace_4 : decode cX5_isPlace 4 = .ok (.invokestatic 39, 3) := by decide +kernel
theorem dX5_isPlace_7 : decode cX5_isPlace 7 = .ok (.ifCond .eq 17, 3) := by decide +kernel
theorem dX5_isPlace_10 : decode cX5_isPlace 10 = .ok (.iload_n 1, 1) := by decide +kernel
theorem dX5_isPlace_11 : decode cX5_isPlace 11 = .ok (.iconst 0, 1) := by decide +kernel
theorem dX5_isPlace_12 : decode cX5_isPlace 12 = .ok (.bipush 11, 2) := by decide +kernel
theorem dX5_isPlace_14 : decode cX5_isPlace 14 = .ok (.invokestatic 39, 3) := by decide +kernel
theorem dX5_isPlace_17 : decode cX5_isPlace 17 = .ok (.ifCond .eq 7, 3) := by decide +kernel
theorem dX5_isPlace_20 : decode cX5_isPlace 20 = .ok (.iconst 1, 1) := by decide +kernel
theorem dX5_isPlace_21 : decode cX5_isPlace 21 = .ok (.goto 4, 3) := by decide +kernel
theorem dX5_isPlace_24 : decode cX5_isPlace 24 = .ok (.iconst 0, 1) := by decide +kernel
theorem dX5_isPlace_25 : decode cX5_isPlace 25 = .ok (.ireturn, 1) := by decide +kernel
theorem dX5_saves_0 : decode cX5_saves 0 = .ok (.aload_n 0, 1) := by decide +kernel
theorem dX5_saves_1 : decode cX5_saves 1 = .ok (.getfield 43, 3) := by decide +kernel
theorem dX5_saves_4 : decode cX5_saves 4 = .ok (.bipush 6, 2) := by decide +kernel
theorem dX5_saves_6 : decode cX5_saves 6 = .ok (.if_icmp .ne 44, 3) := by decide +kernel
theorem dX5_saves_9 : decode cX5_saves 9 = .ok (.iconst 0, 1) := by decide +kernel
theorem dX5_saves_10 : decode cX5_saves 10 = .ok (.istore_n 1, 1) := by decide +kernel
theorem dX5_saves_11 : decode cX5_saves 11 = .ok (.iload_n 1, 1) := by decide +kernel
theorem dX5_saves_12 : decode cX5_saves 12 = .ok (.sipush 3335, 3) := by decide +kernel
theorem dX5_saves_15 : decode cX5_saves 15 = .ok (.if_icmp .ge 25, 3) := by decide +kernel
theorem dX5_saves_18 : decode cX5_saves 18 = .ok (.aload_n 0, 1) := by decide +kernel
theorem dX5_saves_19 : decode cX5_saves 19 = .ok (.getfield 16, 3) := by decide +kernel
theorem dX5_saves_22 : decode cX5_saves 22 = .ok (.iload_n 1, 1) := by decide +kernel
theorem dX5_saves_23 : decode cX5_saves 23 = .ok (.aload_n 0, 1) := by decide +kernel
theorem dX5_saves_24 : decode cX5_saves 24 = .ok (.getfield 16, 3) := by decide +kernel
theorem dX5_saves_27 : decode cX5_saves 27 = .ok (.iload_n 1, 1) := by decide +kernel
theorem dX5_saves_28 : decode cX5_saves 28 = .ok (.sipush 667, 3) := by decide +kernel
theorem dX5_saves_31 : decode cX5_saves 31 = .ok (.iadd, 1) := by decide +kernel
theorem dX5_saves_32 : decode cX5_saves 32 = .ok (.iaload, 1) := by decide +kernel
theorem dX5_saves_33 : decode cX5_saves 33 = .ok (.iastore, 1) := by decide +kernel
theorem dX5_saves_34 : decode cX5_saves 34 = .ok (.iinc 1 1, 3) := by decide +kernel
theorem dX5_saves_37 : decode cX5_saves 37 = .ok (.goto (-26), 3) := by decide +kernel
theorem dX5_saves_40 : decode cX5_saves 40 = .ok (.aload_n 0, 1) := by decide +kernel
theorem dX5_saves_41 : decode cX5_saves 41 = .ok (.dup, 1) := by decide +kernel
theorem dX5_saves_42 : decode cX5_saves 42 = .ok (.getfield 43, 3) := by decide +kernel
theorem dX5_saves_45 : decode cX5_saves 45 = .ok (.iconst 1, 1) := by decide +kernel
theorem dX5_saves_46 : decode cX5_saves 46 = .ok (.isub, 1) := by decide +kernel
theorem dX5_saves_47 : decode cX5_saves 47 = .ok (.putfield 43, 3) := by decide +kernel
theorem dX5_saves_50 : decode cX5_saves 50 = .ok (.iconst 0, 1) := by decide +kernel
theorem dX5_saves_51 : decode cX5_saves 51 = .ok (.istore_n 1, 1) := by decide +kernel
theorem dX5_saves_52 : decode cX5_saves 52 = .ok (.iload_n 1, 1) := by decide +kernel
theorem dX5_saves_53 : decode cX5_saves 53 = .ok (.sipush 667, 3) := by decide +kernel
theorem dX5_saves_56 : decode cX5_saves 56 = .ok (.if_icmp .ge 30, 3) := by decide +kernel
theorem dX5_saves_59 : decode cX5_saves 59 = .ok (.aload_n 0, 1) := by decide +kernel
theorem dX5_saves_60 : decode cX5_saves 60 = .ok (.getfield 16, 3) := by decide +kernel
theorem dX5_saves_63 : decode cX5_saves 63 = .ok (.sipush 667, 3) := by decide +kernel
theorem dX5_saves_66 : decode cX5_saves 66 = .ok (.aload_n 0, 1) := by decide +kernel
theorem dX5_saves_67 : decode cX5_saves 67 = .ok (.getfield 43, 3) := by decide +kernel
theorem dX5_saves_70 : decode cX5_saves 70 = .ok (.imul, 1) := by decide +kernel
theorem dX5_saves_71 : decode cX5_saves 71 = .ok (.iload_n 1, 1) := by decide +kernel
theorem dX5_saves_72 : decode cX5_saves 72 = .ok (.iadd, 1) := by decide +kernel
theorem dX5_saves_73 : decode cX5_saves 73 = .ok (.aload_n 0, 1) := by decide +kernel
theorem dX5_saves_74 : decode cX5_saves 74 = .ok (.getfield 7, 3) := by decide +kernel
theorem dX5_saves_77 : decode cX5_saves 77 = .ok (.iload_n 1, 1) := by decide +kernel
theorem dX5_saves_78 : decode cX5_saves 78 = .ok (.iaload, 1) := by decide +kernel
theorem dX5_saves_79 : decode cX5_saves 79 = .ok (.iastore, 1) := by decide +kernel
theorem dX5_saves_80 : decode cX5_saves 80 = .ok (.iinc 1 1, 3) := by decide +kernel
theorem dX5_saves_83 : decode cX5_saves 83 = .ok (.goto (-31), 3) := by decide +kernel
theorem dX5_saves_86 : decode cX5_saves 86 = .ok (.aload_n 0, 1) := by decide +kernel
theorem dX5_saves_87 : decode cX5_saves 87 = .ok (.dup, 1) := by decide +kernel
theorem dX5_saves_88 : decode cX5_saves 88 = .ok (.getfield 43, 3) := by decide +kernel
theorem dX5_saves_91 : decode cX5_saves 91 = .ok (.iconst 1, 1) := by decide +kernel
theorem dX5_saves_92 : decode cX5_saves 92 = .ok (.iadd, 1) := by decide +kernel
theorem dX5_saves_93 : decode cX5_saves 93 = .ok (.putfield 43, 3) := by decide +kernel
theorem dX5_saves_96 : decode cX5_saves 96 = .ok (.return_, 1) := by decide +kernel
theorem dX5_putAside_0 : decode cX5_putAside 0 = .ok (.iconst 0, 1) := by decide +kernel
theorem dX5_putAside_1 : decode cX5_putAside 1 = .ok (.istore_n 1, 1) := by decide +kernel
theorem dX5_putAside_2 : decode cX5_putAside 2 = .ok (.iload_n 1, 1) := by decide +kernel
theorem dX5_putAside_3 : decode cX5_putAside 3 = .ok (.sipush 667, 3) := by decide +kernel
theorem dX5_putAside_6 : decode cX5_putAside 6 = .ok (.if_icmp .ge 21, 3) := by decide +kernel
theorem dX5_putAside_9 : decode cX5_putAside 9 = .ok (.aload_n 0, 1) := by decide +kernel
theorem dX5_putAside_10 : decode cX5_putAside 10 = .ok (.getfield 13, 3) := by decide +kernel
theorem dX5_putAside_13 : decode cX5_putAside 13 = .ok (.iload_n 1, 1) := by decide +kernel
theorem dX5_putAside_14 : decode cX5_putAside 14 = .ok (.aload_n 0, 1) := by decide +kernel
theorem dX5_putAside_15 : decode cX5_putAside 15 = .ok (.getfield 7, 3) := by decide +kernel
theorem dX5_putAside_18 : decode cX5_putAside 18 = .ok (.iload_n 1, 1) := by decide +kernel
theorem dX5_putAside_19 : decode cX5_putAside 19 = .ok (.iaload, 1) := by decide +kernel
theorem dX5_putAside_20 : decode cX5_putAside 20 = .ok (.iastore, 1) := by decide +kernel
theorem dX5_putAside_21 : decode cX5_putAside 21 = .ok (.iinc 1 1, 3) := by decide +kernel
theorem dX5_putAside_24 : decode cX5_putAside 24 = .ok (.goto (-22), 3) := by decide +kernel
theorem dX5_putAside_27 : decode cX5_putAside 27 = .ok (.return_, 1) := by decide +kernel
theorem dX5_takeBack_0 : decode cX5_takeBack 0 = .ok (.iconst 0, 1) := by decide +kernel
theorem dX5_takeBack_1 : decode cX5_takeBack 1 = .ok (.istore_n 1, 1) := by decide +kernel
theorem dX5_takeBack_2 : decode cX5_takeBack 2 = .ok (.iload_n 1, 1) := by decide +kernel
theorem dX5_takeBack_3 : decode cX5_takeBack 3 = .ok (.sipush 667, 3) := by decide +kernel
theorem dX5_takeBack_6 : decode cX5_takeBack 6 = .ok (.if_icmp .ge 21, 3) := by decide +kernel
theorem dX5_takeBack_9 : decode cX5_takeBack 9 = .ok (.aload_n 0, 1) := by decide +kernel
theorem dX5_takeBack_10 : decode cX5_takeBack 10 = .ok (.getfield 7, 3) := by decide +kernel
theorem dX5_takeBack_13 : decode cX5_takeBack 13 = .ok (.iload_n 1, 1) := by decide +kernel
theorem dX5_takeBack_14 : decode cX5_takeBack 14 = .ok (.aload_n 0, 1) := by decide +kernel
theorem dX5_takeBack_15 : decode cX5_takeBack 15 = .ok (.getfield 13, 3) := by decide +kernel
theorem dX5_takeBack_18 : decode cX5_takeBack 18 = .ok (.iload_n 1, 1) := by decide +kernel
theorem dX5_takeBack_19 : decode cX5_takeBack 19 = .ok (.iaload, 1) := by decide +kernel
theorem dX5_takeBack_20 : decode cX5_takeBack 20 = .ok (.iastore, 1) := by decide +kernel
theorem dX5_takeBack_21 : decode cX5_takeBack 21 = .ok (.iinc 1 1, 3) := by decide +kernel
theorem dX5_takeBack_24 : decode cX5_takeBack 24 = .ok (.goto (-22), 3) := by decide +kernel
theorem dX5_takeBack_27 : decode cX5_takeBack 27 = .ok (.return_, 1) := by decide +kernel
theorem dX5_turned_0 : decode cX5_turned 0 = .ok (.iload_n 2, 1) := by decide +kernel
theorem dX5_turned_1 : decode cX5_turned 1 = .ok (.istore 5, 2) := by decide +kernel
theorem dX5_turned_3 : decode cX5_turned 3 = .ok (.iload_n 3, 1) := by decide +kernel
theorem dX5_turned_4 : decode cX5_turned 4 = .ok (.istore 6, 2) := by decide +kernel
theorem dX5_turned_6 : decode cX5_turned 6 = .ok (.iload 4, 2) := by decide +kernel
theorem dX5_turned_8 : decode cX5_turned 8 = .ok (.iconst 4, 1) := by decide +kernel
theorem dX5_turned_9 : decode cX5_turned 9 = .ok (.irem, 1) := by decide +kernel
theorem dX5_turned_10 : decode cX5_turned 10 = .ok (.istore 7, 2) := by decide +kernel
theorem dX5_turned_12 : decode cX5_turned 12 = .ok (.iload 7, 2) := by decide +kernel
theorem dX5_turned_14 : decode cX5_turned 14 = .ok (.ifCond .le 23, 3) := by decide +kernel
theorem dX5_turned_17 : decode cX5_turned 17 = .ok (.iload 5, 2) := by decide +kernel
theorem dX5_turned_19 : decode cX5_turned 19 = .ok (.istore 8, 2) := by decide +kernel
theorem dX5_turned_21 : decode cX5_turned 21 = .ok (.iload 6, 2) := by decide +kernel
theorem dX5_turned_23 : decode cX5_turned 23 = .ok (.istore 5, 2) := by decide +kernel
theorem dX5_turned_25 : decode cX5_turned 25 = .ok (.iconst 4, 1) := by decide +kernel
theorem dX5_turned_26 : decode cX5_turned 26 = .ok (.iload 8, 2) := by decide +kernel
theorem dX5_turned_28 : decode cX5_turned 28 = .ok (.isub, 1) := by decide +kernel
theorem dX5_turned_29 : decode cX5_turned 29 = .ok (.istore 6, 2) := by decide +kernel
theorem dX5_turned_31 : decode cX5_turned 31 = .ok (.iinc 7 (-1), 3) := by decide +kernel
theorem dX5_turned_34 : decode cX5_turned 34 = .ok (.goto (-22), 3) := by decide +kernel
theorem dX5_turned_37 : decode cX5_turned 37 = .ok (.iload 4, 2) := by decide +kernel
theorem dX5_turned_39 : decode cX5_turned 39 = .ok (.iconst 3, 1) := by decide +kernel
theorem dX5_turned_40 : decode cX5_turned 40 = .ok (.if_icmp .le 10, 3) := by decide +kernel
theorem dX5_turned_43 : decode cX5_turned 43 = .ok (.iconst 4, 1) := by decide +kernel
theorem dX5_turned_44 : decode cX5_turned 44 = .ok (.iload 5, 2) := by decide +kernel
theorem dX5_turned_46 : decode cX5_turned 46 = .ok (.isub, 1) := by decide +kernel
theorem dX5_turned_47 : decode cX5_turned 47 = .ok (.goto 5, 3) := by decide +kernel
theorem dX5_turned_50 : decode cX5_turned 50 = .ok (.iload 5, 2) := by decide +kernel
theorem dX5_turned_52 : decode cX5_turned 52 = .ok (.istore 5, 2) := by decide +kernel
theorem dX5_turned_54 : decode cX5_turned 54 = .ok (.aload_n 0, 1) := by decide +kernel
theorem dX5_turned_55 : decode cX5_turned 55 = .ok (.getfield 7, 3) := by decide +kernel
theorem dX5_turned_58 : decode cX5_turned 58 = .ok (.bipush 16, 2) := by decide +kernel
theorem dX5_turned_60 : decode cX5_turned 60 = .ok (.bipush 25, 2) := by decide +kernel
theorem dX5_turned_62 : decode cX5_turned 62 = .ok (.iload_n 1, 1) := by decide +kernel
theorem dX5_turned_63 : decode cX5_turned 63 = .ok (.imul, 1) := by decide +kernel
theorem dX5_turned_64 : decode cX5_turned 64 = .ok (.iadd, 1) := by decide +kernel
theorem dX5_turned_65 : decode cX5_turned 65 = .ok (.iconst 5, 1) := by decide +kernel
theorem dX5_turned_66 : decode cX5_turned 66 = .ok (.iload 6, 2) := by decide +kernel
theorem dX5_turned_68 : decode cX5_turned 68 = .ok (.imul, 1) := by decide +kernel
theorem dX5_turned_69 : decode cX5_turned 69 = .ok (.iadd, 1) := by decide +kernel
theorem dX5_turned_70 : decode cX5_turned 70 = .ok (.iload 5, 2) := by decide +kernel
theorem dX5_turned_72 : decode cX5_turned 72 = .ok (.iadd, 1) := by decide +kernel
theorem dX5_turned_73 : decode cX5_turned 73 = .ok (.iaload, 1) := by decide +kernel
theorem dX5_turned_74 : decode cX5_turned 74 = .ok (.ireturn, 1) := by decide +kernel
theorem dX5_raised_0 : decode cX5_raised 0 = .ok (.iconst 0, 1) := by decide +kernel
theorem dX5_raised_1 : decode cX5_raised 1 = .ok (.istore_n 2, 1) := by decide +kernel
theorem dX5_raised_2 : decode cX5_raised 2 = .ok (.iconst 0, 1) := by decide +kernel
theorem dX5_raised_3 : decode cX5_raised 3 = .ok (.istore_n 3, 1) := by decide +kernel
theorem dX5_raised_4 : decode cX5_raised 4 = .ok (.iload_n 3, 1) := by decide +kernel
theorem dX5_raised_5 : decode cX5_raised 5 = .ok (.bipush 25, 2) := by decide +kernel
theorem dX5_raised_7 : decode cX5_raised 7 = .ok (.if_icmp .ge 34, 3) := by decide +kernel
theorem dX5_raised_10 : decode cX5_raised 10 = .ok (.iload_n 2, 1) := by decide +kernel
theorem dX5_raised_11 : decode cX5_raised 11 = .ok (.aload_n 0, 1) := by decide +kernel
theorem dX5_raised_12 : decode cX5_raised 12 = .ok (.getfield 7, 3) := by decide +kernel
theorem dX5_raised_15 : decode cX5_raised 15 = .ok (.bipush 16, 2) := by decide +kernel
theorem dX5_raised_17 : decode cX5_raised 17 = .ok (.bipush 25, 2) := by decide +kernel
theorem dX5_raised_19 : decode cX5_raised 19 = .ok (.iload_n 1, 1) := by decide +kernel
theorem dX5_raised_20 : decode cX5_raised 20 = .ok (.imul, 1) := by decide +kernel
theorem dX5_raised_21 : decode cX5_raised 21 = .ok (.iadd, 1) := by decide +kernel
theorem dX5_raised_22 : decode cX5_raised 22 = .ok (.iload_n 3, 1) := by decide +kernel
theorem dX5_raised_23 : decode cX5_raised 23 = .ok (.iadd, 1) := by decide +kernel
theorem dX5_raised_24 : decode cX5_raised 24 = .ok (.iaload, 1) := by decide +kernel
theorem dX5_raised_25 : decode cX5_raised 25 = .ok (.ifCond .le 7, 3) := by decide +kernel
theorem dX5_raised_28 : decode cX5_raised 28 = .ok (.iconst 1, 1) := by decide +kernel
theorem dX5_raised_29 : decode cX5_raised 29 = .ok (.goto 4, 3) := by decide +kernel
theorem dX5_raised_32 : decode cX5_raised 32 = .ok (.iconst 0, 1) := by decide +kernel
theorem dX5_raised_33 : decode cX5_raised 33 = .ok (.iadd, 1) := by decide +kernel
theorem dX5_raised_34 : decode cX5_raised 34 = .ok (.istore_n 2, 1) := by decide +kernel
theorem dX5_raised_35 : decode cX5_raised 35 = .ok (.iinc 3 1, 3) := by decide +kernel
theorem dX5_raised_38 : decode cX5_raised 38 = .ok (.goto (-34), 3) := by decide +kernel
theorem dX5_raised_41 : decode cX5_raised 41 = .ok (.iload_n 2, 1) := by decide +kernel
theorem dX5_raised_42 : decode cX5_raised 42 = .ok (.ireturn, 1) := by decide +kernel
theorem dX5_depth_0 : decode cX5_depth 0 = .ok (.aload_n 0, 1) := by decide +kernel
theorem dX5_depth_1 : decode cX5_depth 1 = .ok (.getfield 7, 3) := by decide +kernel
theorem dX5_depth_4 : decode cX5_depth 4 = .ok (.bipush 91, 2) := by decide +kernel
theorem dX5_depth_6 : decode cX5_depth 6 = .ok (.bipush 12, 2) := by decide +kernel
theorem dX5_depth_8 : decode cX5_depth 8 = .ok (.iload_n 2, 1) := by decide +kernel
theorem dX5_depth_9 : decode cX5_depth 9 = .ok (.imul, 1) := by decide +kernel
theorem dX5_depth_10 : decode cX5_depth 10 = .ok (.iadd, 1) := by decide +kernel
theorem dX5_depth_11 : decode cX5_depth 11 = .ok (.iload_n 1, 1) := by decide +kernel
theorem dX5_depth_12 : decode cX5_depth 12 = .ok (.iadd, 1) := by decide +kernel
theorem dX5_depth_13 : decode cX5_depth 13 = .ok (.iaload, 1) := by decide +kernel
theorem dX5_depth_14 : decode cX5_depth 14 = .ok (.ireturn, 1) := by decide +kernel
theorem dX5_isCracked_0 : decode cX5_isCracked 0 = .ok (.aload_n 0, 1) := by decide +kernel
theorem dX5_isCracked_1 : decode cX5_isCracked 1 = .ok (.getfield 7, 3) := by decide +kernel
theorem dX5_isCracked_4 : decode cX5_isCracked 4 = .ok (.sipush 379, 3) := by decide +kernel
theorem dX5_isCracked_7 : decode cX5_isCracked 7 = .ok (.bipush 12, 2) := by decide +kernel
theorem dX5_isCracked_9 : decode cX5_isCracked 9 = .ok (.iload_n 2, 1) := by decide +kernel
theorem dX5_isCracked_10 : decode cX5_isCracked 10 = .ok (.imul, 1) := by decide +kernel
theorem dX5_isCracked_11 : decode cX5_isCracked 11 = .ok (.iadd, 1) := by decide +kernel
theorem dX5_isCracked_12 : decode cX5_isCracked 12 = .ok (.iload_n 1, 1) := by decide +kernel
theorem dX5_isCracked_13 : decode cX5_isCracked 13 = .ok (.iadd, 1) := by decide +kernel
theorem dX5_isCracked_14 : decode cX5_isCracked 14 = .ok (.iaload, 1) := by decide +kernel
theorem dX5_isCracked_15 : decode cX5_isCracked 15 = .ok (.iconst 1, 1) := by decide +kernel
theorem dX5_isCracked_16 : decode cX5_isCracked 16 = .ok (.if_icmp .ne 7, 3) := by decide +kernel
theorem dX5_isCracked_19 : decode cX5_isCracked 19 = .ok (.iconst 1, 1) := by decide +kernel
theorem dX5_isCracked_20 : decode cX5_isCracked 20 = .ok (.goto 4, 3) := by decide +kernel
theorem dX5_isCracked_23 : decode cX5_isCracked 23 = .ok (.iconst 0, 1) := by decide +kernel
theorem dX5_isCracked_24 : decode cX5_isCracked 24 = .ok (.ireturn, 1) := by decide +kernel
theorem dX5_besideX_0 : decode cX5_besideX 0 = .ok (.iload_n 1, 1) := by decide +kernel
theorem dX5_besideX_1 : decode cX5_besideX 1 = .ok (.ifCond .ne 9, 3) := by decide +kernel
theorem dX5_besideX_4 : decode cX5_besideX 4 = .ok (.iload_n 0, 1) := by decide +kernel
theorem dX5_besideX_5 : decode cX5_besideX 5 = .ok (.iconst 1, 1) := by decide +kernel
theorem dX5_besideX_6 : decode cX5_besideX 6 = .ok (.isub, 1) := by decide +kernel
theorem dX5_besideX_7 : decode cX5_besideX 7 = .ok (.goto 15, 3) := by decide +kernel
theorem dX5_besideX_10 : decode cX5_besideX 10 = .ok (.iload_n 1, 1) := by decide +kernel
theorem dX5_besideX_11 : decode cX5_besideX 11 = .ok (.iconst 1, 1) := by decide +kernel
theorem dX5_besideX_12 : decode cX5_besideX 12 = .ok (.if_icmp .ne 9, 3) := by decide +kernel
theorem dX5_besideX_15 : decode cX5_besideX 15 = .ok (.iload_n 0, 1) := by decide +kernel
theorem dX5_besideX_16 : decode cX5_besideX 16 = .ok (.iconst 1, 1) := by decide +kernel
theorem dX5_besideX_17 : decode cX5_besideX 17 = .ok (.iadd, 1) := by decide +kernel
theorem dX5_besideX_18 : decode cX5_besideX 18 = .ok (.goto 4, 3) := by decide +kernel
theorem dX5_besideX_21 : decode cX5_besideX 21 = .ok (.iload_n 0, 1) := by decide +kernel
theorem dX5_besideX_22 : decode cX5_besideX 22 = .ok (.ireturn, 1) := by decide +kernel
theorem dX5_besideY_0 : decode cX5_besideY 0 = .ok (.iload_n 1, 1) := by decide +kernel
theorem dX5_besideY_1 : decode cX5_besideY 1 = .ok (.iconst 2, 1) := by decide +kernel
theorem dX5_besideY_2 : decode cX5_besideY 2 = .ok (.if_icmp .ne 9, 3) := by decide +kernel
theorem dX5_besideY_5 : decode cX5_besideY 5 = .ok (.iload_n 0, 1) := by decide +kernel
theorem dX5_besideY_6 : decode cX5_besideY 6 = .ok (.iconst 1, 1) := by decide +kernel
theorem dX5_besideY_7 : decode cX5_besideY 7 = .ok (.isub, 1) := by decide +kernel
theorem dX5_besideY_8 : decode cX5_besideY 8 = .ok (.goto 15, 3) := by decide +kernel
theorem dX5_besideY_11 : decode cX5_besideY 11 = .ok (.iload_n 1, 1) := by decide +kernel
theorem dX5_besideY_12 : decode cX5_besideY 12 = .ok (.iconst 3, 1) := by decide +kernel
theorem dX5_besideY_13 : decode cX5_besideY 13 = .ok (.if_icmp .ne 9, 3) := by decide +kernel
theorem dX5_besideY_16 : decode cX5_besideY 16 = .ok (.iload_n 0, 1) := by decide +kernel
theorem dX5_besideY_17 : decode cX5_besideY 17 = .ok (.iconst 1, 1) := by decide +kernel
theorem dX5_besideY_18 : decode cX5_besideY 18 = .ok (.iadd, 1) := by decide +kernel
theorem dX5_besideY_19 : decode cX5_besideY 19 = .ok (.goto 4, 3) := by decide +kernel
theorem dX5_besideY_22 : decode cX5_besideY 22 = .ok (.iload_n 0, 1) := by decide +kernel
theorem dX5_besideY_23 : decode cX5_besideY 23 = .ok (.ireturn, 1) := by decide +kernel
theorem dX5_strain_0 : decode cX5_strain 0 = .ok (.iconst 0, 1) := by decide +kernel
theorem dX5_strain_1 : decode cX5_strain 1 = .ok (.istore_n 3, 1) := by decide +kernel
theorem dX5_strain_2 : decode cX5_strain 2 = .ok (.iconst 0, 1) := by decide +kernel
theorem dX5_strain_3 : decode cX5_strain 3 = .ok (.istore 4, 2) := by decide +kernel
theorem dX5_strain_5 : decode cX5_strain 5 = .ok (.iload 4, 2) := by decide +kernel
theorem dX5_strain_7 : decode cX5_strain 7 = .ok (.iconst 4, 1) := by decide +kernel
theorem dX5_strain_8 : decode cX5_strain 8 = .ok (.if_icmp .ge 60, 3) := by decide +kernel
theorem dX5_strain_11 : decode cX5_strain 11 = .ok (.iload_n 1, 1) := by decide +kernel
theorem dX5_strain_12 : decode cX5_strain 12 = .ok (.iload 4, 2) := by decide +kernel
theorem dX5_strain_14 : decode cX5_strain 14 = .ok (.invokestatic 46, 3) := by decide +kernel
theorem dX5_strain_17 : decode cX5_strain 17 = .ok (.istore 5, 2) := by decide +kernel
theorem dX5_strain_19 : decode cX5_strain 19 = .ok (.iload_n 2, 1) := by decide +kernel
theorem dX5_strain_20 : decode cX5_strain 20 = .ok (.iload 4, 2) := by decide +kernel
theorem dX5_strain_22 : decode cX5_strain 22 = .ok (.invokestatic 50, 3) := by decide +kernel
theorem dX5_strain_25 : decode cX5_strain 25 = .ok (.istore 6, 2) := by decide +kernel
theorem dX5_strain_27 : decode cX5_strain 27 = .ok (.iload_n 3, 1) := by decide +kernel
theorem dX5_strain_28 : decode cX5_strain 28 = .ok (.iload 5, 2) := by decide +kernel
theorem dX5_strain_30 : decode cX5_strain 30 = .ok (.iload 6, 2) := by decide +kernel
theorem dX5_strain_32 : decode cX5_strain 32 = .ok (.invokestatic 53, 3) := by decide +kernel
theorem dX5_strain_35 : decode cX5_strain 35 = .ok (.ifCond .eq 24, 3) := by decide +kernel
theorem dX5_strain_38 : decode cX5_strain 38 = .ok (.aload_n 0, 1) := by decide +kernel
theorem dX5_strain_39 : decode cX5_strain 39 = .ok (.iload_n 1, 1) := by decide +kernel
theorem dX5_strain_40 : decode cX5_strain 40 = .ok (.iload_n 2, 1) := by decide +kernel
theorem dX5_strain_41 : decode cX5_strain 41 = .ok (.invokevirtual 57, 3) := by decide +kernel
theorem dX5_strain_44 : decode cX5_strain 44 = .ok (.aload_n 0, 1) := by decide +kernel
theorem dX5_strain_45 : decode cX5_strain 45 = .ok (.iload 5, 2) := by decide +kernel
theorem dX5_strain_47 : decode cX5_strain 47 = .ok (.iload 6, 2) := by decide +kernel
theorem dX5_strain_49 : decode cX5_strain 49 = .ok (.invokevirtual 57, 3) := by decide +kernel
theorem dX5_strain_52 : decode cX5_strain 52 = .ok (.isub, 1) := by decide +kernel
theorem dX5_strain_53 : decode cX5_strain 53 = .ok (.invokestatic 60, 3) := by decide +kernel
theorem dX5_strain_56 : decode cX5_strain 56 = .ok (.goto 4, 3) := by decide +kernel
theorem dX5_strain_59 : decode cX5_strain 59 = .ok (.iconst 0, 1) := by decide +kernel
theorem dX5_strain_60 : decode cX5_strain 60 = .ok (.iadd, 1) := by decide +kernel
theorem dX5_strain_61 : decode cX5_strain 61 = .ok (.istore_n 3, 1) := by decide +kernel
theorem dX5_strain_62 : decode cX5_strain 62 = .ok (.iinc 4 1, 3) := by decide +kernel
theorem dX5_strain_65 : decode cX5_strain 65 = .ok (.goto (-60), 3) := by decide +kernel
theorem dX5_strain_68 : decode cX5_strain 68 = .ok (.iload_n 3, 1) := by decide +kernel
theorem dX5_strain_69 : decode cX5_strain 69 = .ok (.ireturn, 1) := by decide +kernel
theorem dX5_bears_0 : decode cX5_bears 0 = .ok (.aload_n 0, 1) := by decide +kernel
theorem dX5_bears_1 : decode cX5_bears 1 = .ok (.getfield 7, 3) := by decide +kernel
theorem dX5_bears_4 : decode cX5_bears 4 = .ok (.iconst 0, 1) := by decide +kernel
theorem dX5_bears_5 : decode cX5_bears 5 = .ok (.iaload, 1) := by decide +kernel
theorem dX5_bears_6 : decode cX5_bears 6 = .ok (.istore_n 3, 1) := by decide +kernel
theorem dX5_bears_7 : decode cX5_bears 7 = .ok (.iconst 0, 1) := by decide +kernel
theorem dX5_bears_8 : decode cX5_bears 8 = .ok (.istore 4, 2) := by decide +kernel
theorem dX5_bears_10 : decode cX5_bears 10 = .ok (.iload 4, 2) := by decide +kernel
theorem dX5_bears_12 : decode cX5_bears 12 = .ok (.iconst 4, 1) := by decide +kernel
theorem dX5_bears_13 : decode cX5_bears 13 = .ok (.if_icmp .ge 59, 3) := by decide +kernel
theorem dX5_bears_16 : decode cX5_bears 16 = .ok (.iload_n 1, 1) := by decide +kernel
theorem dX5_bears_17 : decode cX5_bears 17 = .ok (.iload 4, 2) := by decide +kernel
theorem dX5_bears_19 : decode cX5_bears 19 = .ok (.invokestatic 46, 3) := by decide +kernel
theorem dX5_bears_22 : decode cX5_bears 22 = .ok (.istore 5, 2) := by decide +kernel
theorem dX5_bears_24 : decode cX5_bears 24 = .ok (.iload_n 2, 1) := by decide +kernel
theorem dX5_bears_25 : decode cX5_bears 25 = .ok (.iload 4, 2) := by decide +kernel
theorem dX5_bears_27 : decode cX5_bears 27 = .ok (.invokestatic 50, 3) := by decide +kernel
theorem dX5_bears_30 : decode cX5_bears 30 = .ok (.istore 6, 2) := by decide +kernel
theorem dX5_bears_32 : decode cX5_bears 32 = .ok (.iload_n 3, 1) := by decide +kernel
theorem dX5_bears_33 : decode cX5_bears 33 = .ok (.iload 5, 2) := by decide +kernel
theorem dX5_bears_35 : decode cX5_bears 35 = .ok (.iload 6, 2) := by decide +kernel
theorem dX5_bears_37 : decode cX5_bears 37 = .ok (.invokestatic 53, 3) := by decide +kernel
theorem dX5_bears_40 : decode cX5_bears 40 = .ok (.ifCond .eq 23, 3) := by decide +kernel
theorem dX5_bears_43 : decode cX5_bears 43 = .ok (.aload_n 0, 1) := by decide +kernel
theorem dX5_bears_44 : decode cX5_bears 44 = .ok (.iload 5, 2) := by decide +kernel
theorem dX5_bears_46 : decode cX5_bears 46 = .ok (.iload 6, 2) := by decide +kernel
theorem dX5_bears_48 : decode cX5_bears 48 = .ok (.invokevirtual 64, 3) := by decide +kernel
theorem dX5_bears_51 : decode cX5_bears 51 = .ok (.ifCond .eq 12, 3) := by decide +kernel
theorem dX5_bears_54 : decode cX5_bears 54 = .ok (.aload_n 0, 1) := by decide +kernel
theorem dX5_bears_55 : decode cX5_bears 55 = .ok (.getfield 7, 3) := by decide +kernel
theorem dX5_bears_58 : decode cX5_bears 58 = .ok (.iconst 1, 1) := by decide +kernel
theorem dX5_bears_59 : decode cX5_bears 59 = .ok (.iaload, 1) := by decide +kernel
theorem dX5_bears_60 : decode cX5_bears 60 = .ok (.goto 4, 3) := by decide +kernel
theorem dX5_bears_63 : decode cX5_bears 63 = .ok (.iconst 0, 1) := by decide +kernel
theorem dX5_bears_64 : decode cX5_bears 64 = .ok (.isub, 1) := by decide +kernel
theorem dX5_bears_65 : decode cX5_bears 65 = .ok (.istore_n 3, 1) := by decide +kernel
theorem dX5_bears_66 : decode cX5_bears 66 = .ok (.iinc 4 1, 3) := by decide +kernel
theorem dX5_bears_69 : decode cX5_bears 69 = .ok (.goto (-59), 3) := by decide +kernel
theorem dX5_bears_72 : decode cX5_bears 72 = .ok (.iload_n 3, 1) := by decide +kernel
theorem dX5_bears_73 : decode cX5_bears 73 = .ok (.ifCond .ge 7, 3) := by decide +kernel
theorem dX5_bears_76 : decode cX5_bears 76 = .ok (.iconst 0, 1) := by decide +kernel
theorem dX5_bears_77 : decode cX5_bears 77 = .ok (.goto 4, 3) := by decide +kernel
theorem dX5_bears_80 : decode cX5_bears 80 = .ok (.iload_n 3, 1) := by decide +kernel
theorem dX5_bears_81 : decode cX5_bears 81 = .ok (.ireturn, 1) := by decide +kernel
theorem dX5_cracksNow_0 : decode cX5_cracksNow 0 = .ok (.iconst 0, 1) := by decide +kernel
theorem dX5_cracksNow_1 : decode cX5_cracksNow 1 = .ok (.istore_n 1, 1) := by decide +kernel
theorem dX5_cracksNow_2 : decode cX5_cracksNow 2 = .ok (.iconst 0, 1) := by decide +kernel
theorem dX5_cracksNow_3 : decode cX5_cracksNow 3 = .ok (.istore_n 2, 1) := by decide +kernel
theorem dX5_cracksNow_4 : decode cX5_cracksNow 4 = .ok (.iload_n 2, 1) := by decide +kernel
theorem dX5_cracksNow_5 : decode cX5_cracksNow 5 = .ok (.sipush 144, 3) := by decide +kernel
theorem dX5_cracksNow_8 : decode cX5_cracksNow 8 = .ok (.if_icmp .ge 59, 3) := by decide +kernel
theorem dX5_cracksNow_11 : decode cX5_cracksNow 11 = .ok (.iload_n 1, 1) := by decide +kernel
theorem dX5_cracksNow_12 : decode cX5_cracksNow 12 = .ok (.aload_n 0, 1) := by decide +kernel
theorem dX5_cracksNow_13 : decode cX5_cracksNow 13 = .ok (.getfield 29, 3) := by decide +kernel
theorem dX5_cracksNow_16 : decode cX5_cracksNow 16 = .ok (.iload_n 2, 1) := by decide +kernel
theorem dX5_cracksNow_17 : decode cX5_cracksNow 17 = .ok (.baload, 1) := by decide +kernel
theorem dX5_cracksNow_18 : decode cX5_cracksNow 18 = .ok (.ifCond .eq 7, 3) := by decide +kernel
theorem dX5_cracksNow_21 : decode cX5_cracksNow 21 = .ok (.iconst 1, 1) := by decide +kernel
theorem dX5_cracksNow_22 : decode cX5_cracksNow 22 = .ok (.goto 4, 3) := by decide +kernel
theorem dX5_cracksNow_25 : decode cX5_cracksNow 25 = .ok (.iconst 0, 1) := by decide +kernel
theorem dX5_cracksNow_26 : decode cX5_cracksNow 26 = .ok (.iadd, 1) := by decide +kernel
theorem dX5_cracksNow_27 : decode cX5_cracksNow 27 = .ok (.istore_n 1, 1) := by decide +kernel
theorem dX5_cracksNow_28 : decode cX5_cracksNow 28 = .ok (.aload_n 0, 1) := by decide +kernel
theorem dX5_cracksNow_29 : decode cX5_cracksNow 29 = .ok (.getfield 7, 3) := by decide +kernel
theorem dX5_cracksNow_32 : decode cX5_cracksNow 32 = .ok (.sipush 379, 3) := by decide +kernel
theorem dX5_cracksNow_35 : decode cX5_cracksNow 35 = .ok (.iload_n 2, 1) := by decide +kernel
theorem dX5_cracksNow_36 : decode cX5_cracksNow 36 = .ok (.iadd, 1) := by decide +kernel
theorem dX5_cracksNow_37 : decode cX5_cracksNow 37 = .ok (.aload_n 0, 1) := by decide +kernel
theorem dX5_cracksNow_38 : decode cX5_cracksNow 38 = .ok (.getfield 29, 3) := by decide +kernel
theorem dX5_cracksNow_41 : decode cX5_cracksNow 41 = .ok (.iload_n 2, 1) := by decide +kernel
theorem dX5_cracksNow_42 : decode cX5_cracksNow 42 = .ok (.baload, 1) := by decide +kernel
theorem dX5_cracksNow_43 : decode cX5_cracksNow 43 = .ok (.ifCond .eq 7, 3) := by decide +kernel
theorem dX5_cracksNow_46 : decode cX5_cracksNow 46 = .ok (.iconst 1, 1) := by decide +kernel
theorem dX5_cracksNow_47 : decode cX5_cracksNow 47 = .ok (.goto 13, 3) := by decide +kernel
theorem dX5_cracksNow_50 : decode cX5_cracksNow 50 = .ok (.aload_n 0, 1) := by decide +kernel
theorem dX5_cracksNow_51 : decode cX5_cracksNow 51 = .ok (.getfield 7, 3) := by decide +kernel
theorem dX5_cracksNow_54 : decode cX5_cracksNow 54 = .ok (.sipush 379, 3) := by decide +kernel
theorem dX5_cracksNow_57 : decode cX5_cracksNow 57 = .ok (.iload_n 2, 1) := by decide +kernel
theorem dX5_cracksNow_58 : decode cX5_cracksNow 58 = .ok (.iadd, 1) := by decide +kernel
theorem dX5_cracksNow_59 : decode cX5_cracksNow 59 = .ok (.iaload, 1) := by decide +kernel
theorem dX5_cracksNow_60 : decode cX5_cracksNow 60 = .ok (.iastore, 1) := by decide +kernel
theorem dX5_cracksNow_61 : decode cX5_cracksNow 61 = .ok (.iinc 2 1, 3) := by decide +kernel
theorem dX5_cracksNow_64 : decode cX5_cracksNow 64 = .ok (.goto (-60), 3) := by decide +kernel
theorem dX5_cracksNow_67 : decode cX5_cracksNow 67 = .ok (.iload_n 1, 1) := by decide +kernel
theorem dX5_cracksNow_68 : decode cX5_cracksNow 68 = .ok (.ireturn, 1) := by decide +kernel
theorem dX5_cracksRound_0 : decode cX5_cracksRound 0 = .ok (.iconst 0, 1) := by decide +kernel
theorem dX5_cracksRound_1 : decode cX5_cracksRound 1 = .ok (.istore_n 1, 1) := by decide +kernel
theorem dX5_cracksRound_2 : decode cX5_cracksRound 2 = .ok (.iload_n 1, 1) := by decide +kernel
theorem dX5_cracksRound_3 : decode cX5_cracksRound 3 = .ok (.sipush 144, 3) := by decide +kernel
theorem dX5_cracksRound_6 : decode cX5_cracksRound 6 = .ok (.if_icmp .ge 54, 3) := by decide +kernel
theorem dX5_cracksRound_9 : decode cX5_cracksRound 9 = .ok (.iload_n 1, 1) := by decide +kernel
theorem dX5_cracksRound_10 : decode cX5_cracksRound 10 = .ok (.bipush 12, 2) := by decide +kernel
theorem dX5_cracksRound_12 : decode cX5_cracksRound 12 = .ok (.irem, 1) := by decide +kernel
theorem dX5_cracksRound_13 : decode cX5_cracksRound 13 = .ok (.istore_n 2, 1) := by decide +kernel
theorem dX5_cracksRound_14 : decode cX5_cracksRound 14 = .ok (.iload_n 1, 1) := by decide +kernel
theorem dX5_cracksRound_15 : decode cX5_cracksRound 15 = .ok (.bipush 12, 2) := by decide +kernel
theorem dX5_cracksRound_17 : decode cX5_cracksRound 17 = .ok (.idiv, 1) := by decide +kernel
theorem dX5_cracksRound_18 : decode cX5_cracksRound 18 = .ok (.istore_n 3, 1) := by decide +kernel
theorem dX5_cracksRound_19 : decode cX5_cracksRound 19 = .ok (.aload_n 0, 1) := by decide +kernel
theorem dX5_cracksRound_20 : decode cX5_cracksRound 20 = .ok (.getfield 29, 3) := by decide +kernel
theorem dX5_cracksRound_23 : decode cX5_cracksRound 23 = .ok (.iload_n 1, 1) := by decide +kernel
theorem dX5_cracksRound_24 : decode cX5_cracksRound 24 = .ok (.aload_n 0, 1) := by decide +kernel
theorem dX5_cracksRound_25 : decode cX5_cracksRound 25 = .ok (.iload_n 2, 1) := by decide +kernel
theorem dX5_cracksRound_26 : decode cX5_cracksRound 26 = .ok (.iload_n 3, 1) := by decide +kernel
theorem dX5_cracksRound_27 : decode cX5_cracksRound 27 = .ok (.invokevirtual 64, 3) := by decide +kernel
theorem dX5_cracksRound_30 : decode cX5_cracksRound 30 = .ok (.ifCond .ne 22, 3) := by decide +kernel
theorem dX5_cracksRound_33 : decode cX5_cracksRound 33 = .ok (.aload_n 0, 1) := by decide +kernel
theorem dX5_cracksRound_34 : decode cX5_cracksRound 34 = .ok (.iload_n 2, 1) := by decide +kernel
theorem dX5_cracksRound_35 : decode cX5_cracksRound 35 = .ok (.iload_n 3, 1) := by decide +kernel
theorem dX5_cracksRound_36 : decode cX5_cracksRound 36 = .ok (.invokevirtual 67, 3) := by decide +kernel
theorem dX5_cracksRound_39 : decode cX5_cracksRound 39 = .ok (.aload_n 0, 1) := by decide +kernel
theorem dX5_cracksRound_40 : decode cX5_cracksRound 40 = .ok (.iload_n 2, 1) := by decide +kernel
theorem dX5_cracksRound_41 : decode cX5_cracksRound 41 = .ok (.iload_n 3, 1) := by decide +kernel
theorem dX5_cracksRound_42 : decode cX5_cracksRound 42 = .ok (.invokevirtual 70, 3) := by decide +kernel
theorem dX5_cracksRound_45 : decode cX5_cracksRound 45 = .ok (.if_icmp .le 7, 3) := by decide +kernel
theorem dX5_cracksRound_48 : decode cX5_cracksRound 48 = .ok (.iconst 1, 1) := by decide +kernel
theorem dX5_cracksRound_49 : decode cX5_cracksRound 49 = .ok (.goto 4, 3) := by decide +kernel
theorem dX5_cracksRound_52 : decode cX5_cracksRound 52 = .ok (.iconst 0, 1) := by decide +kernel
theorem dX5_cracksRound_53 : decode cX5_cracksRound 53 = .ok (.bastore, 1) := by decide +kernel
theorem dX5_cracksRound_54 : decode cX5_cracksRound 54 = .ok (.iinc 1 1, 3) := by decide +kernel
theorem dX5_cracksRound_57 : decode cX5_cracksRound 57 = .ok (.goto (-55), 3) := by decide +kernel
theorem dX5_cracksRound_60 : decode cX5_cracksRound 60 = .ok (.aload_n 0, 1) := by decide +kernel
theorem dX5_cracksRound_61 : decode cX5_cracksRound 61 = .ok (.invokevirtual 73, 3) := by decide +kernel
theorem dX5_cracksRound_64 : decode cX5_cracksRound 64 = .ok (.ireturn, 1) := by decide +kernel
theorem dX5_cracksAll_0 : decode cX5_cracksAll 0 = .ok (.iconst 0, 1) := by decide +kernel
theorem dX5_cracksAll_1 : decode cX5_cracksAll 1 = .ok (.istore_n 1, 1) := by decide +kernel
theorem dX5_cracksAll_2 : decode cX5_cracksAll 2 = .ok (.aload_n 0, 1) := by decide +kernel
theorem dX5_cracksAll_3 : decode cX5_cracksAll 3 = .ok (.invokevirtual 77, 3) := by decide +kernel
theorem dX5_cracksAll_6 : decode cX5_cracksAll 6 = .ok (.istore_n 2, 1) := by decide +kernel
theorem dX5_cracksAll_7 : decode cX5_cracksAll 7 = .ok (.iload_n 2, 1) := by decide +kernel
theorem dX5_cracksAll_8 : decode cX5_cracksAll 8 = .ok (.ifCond .le 15, 3) := by decide +kernel
theorem dX5_cracksAll_11 : decode cX5_cracksAll 11 = .ok (.iload_n 1, 1) := by decide +kernel
theorem dX5_cracksAll_12 : decode cX5_cracksAll 12 = .ok (.iload_n 2, 1) := by decide +kernel
theorem dX5_cracksAll_13 : decode cX5_cracksAll 13 = .ok (.iadd, 1) := by decide +kernel
theorem dX5_cracksAll_14 : decode cX5_cracksAll 14 = .ok (.istore_n 1, 1) := by decide +kernel
theorem dX5_cracksAll_15 : decode cX5_cracksAll 15 = .ok (.aload_n 0, 1) := by decide +kernel
theorem dX5_cracksAll_16 : decode cX5_cracksAll 16 = .ok (.invokevirtual 77, 3) := by decide +kernel
theorem dX5_cracksAll_19 : decode cX5_cracksAll 19 = .ok (.istore_n 2, 1) := by decide +kernel
theorem dX5_cracksAll_20 : decode cX5_cracksAll 20 = .ok (.goto (-13), 3) := by decide +kernel
theorem dX5_cracksAll_23 : decode cX5_cracksAll 23 = .ok (.iload_n 1, 1) := by decide +kernel
theorem dX5_cracksAll_24 : decode cX5_cracksAll 24 = .ok (.ireturn, 1) := by decide +kernel
theorem dX5_reason_0 : decode cX5_reason 0 = .ok (.iconst 0, 1) := by decide +kernel
theorem dX5_reason_1 : decode cX5_reason 1 = .ok (.istore 5, 2) := by decide +kernel
theorem dX5_reason_3 : decode cX5_reason 3 = .ok (.iconst 0, 1) := by decide +kernel
theorem dX5_reason_4 : decode cX5_reason 4 = .ok (.istore 6, 2) := by decide +kernel
theorem dX5_reason_6 : decode cX5_reason 6 = .ok (.iconst 0, 1) := by decide +kernel
theorem dX5_reason_7 : decode cX5_reason 7 = .ok (.istore 7, 2) := by decide +kernel
theorem dX5_reason_9 : decode cX5_reason 9 = .ok (.iconst 0, 1) := by decide +kernel
theorem dX5_reason_10 : decode cX5_reason 10 = .ok (.istore 8, 2) := by decide +kernel
theorem dX5_reason_12 : decode cX5_reason 12 = .ok (.iload 8, 2) := by decide +kernel
theorem dX5_reason_14 : decode cX5_reason 14 = .ok (.bipush 25, 2) := by decide +kernel
theorem dX5_reason_16 : decode cX5_reason 16 = .ok (.if_icmp .ge 108, 3) := by decide +kernel
theorem dX5_reason_19 : decode cX5_reason 19 = .ok (.aload_n 0, 1) := by decide +kernel
theorem dX5_reason_20 : decode cX5_reason 20 = .ok (.iload_n 1, 1) := by decide +kernel
theorem dX5_reason_21 : decode cX5_reason 21 = .ok (.iload 8, 2) := by decide +kernel
theorem dX5_reason_23 : decode cX5_reason 23 = .ok (.iconst 5, 1) := by decide +kernel
theorem dX5_reason_24 : decode cX5_reason 24 = .ok (.irem, 1) := by decide +kernel
theorem dX5_reason_25 : decode cX5_reason 25 = .ok (.iload 8, 2) := by decide +kernel
theorem dX5_reason_27 : decode cX5_reason 27 = .ok (.iconst 5, 1) := by decide +kernel
theorem dX5_reason_28 : decode cX5_reason 28 = .ok (.idiv, 1) := by decide +kernel
theorem dX5_reason_29 : decode cX5_reason 29 = .ok (.iload 4, 2) := by decide +kernel
theorem dX5_reason_31 : decode cX5_reason 31 = .ok (.invokevirtual 80, 3) := by decide +kernel
theorem dX5_reason_34 : decode cX5_reason 34 = .ok (.istore 9, 2) := by decide +kernel
theorem dX5_reason_36 : decode cX5_reason 36 = .ok (.iload 7, 2) := by decide +kernel
theorem dX5_reason_38 : decode cX5_reason 38 = .ok (.ifCond .ne 8, 3) := by decide +kernel
theorem dX5_reason_41 : decode cX5_reason 41 = .ok (.iload 9, 2) := by decide +kernel
theorem dX5_reason_43 : decode cX5_reason 43 = .ok (.ifCond .le 7, 3) := by decide +kernel
theorem dX5_reason_46 : decode cX5_reason 46 = .ok (.iconst 1, 1) := by decide +kernel
theorem dX5_reason_47 : decode cX5_reason 47 = .ok (.goto 4, 3) := by decide +kernel
theorem dX5_reason_50 : decode cX5_reason 50 = .ok (.iconst 0, 1) := by decide +kernel
theorem dX5_reason_51 : decode cX5_reason 51 = .ok (.istore 7, 2) := by decide +kernel
theorem dX5_reason_53 : decode cX5_reason 53 = .ok (.iload 6, 2) := by decide +kernel
theorem dX5_reason_55 : decode cX5_reason 55 = .ok (.ifCond .ne 14, 3) := by decide +kernel
theorem dX5_reason_58 : decode cX5_reason 58 = .ok (.iload 9, 2) := by decide +kernel
theorem dX5_reason_60 : decode cX5_reason 60 = .ok (.aload_n 0, 1) := by decide +kernel
theorem dX5_reason_61 : decode cX5_reason 61 = .ok (.getfield 7, 3) := by decide +kernel
theorem dX5_reason_64 : decode cX5_reason 64 = .ok (.iconst 2, 1) := by decide +kernel
theorem dX5_reason_65 : decode cX5_reason 65 = .ok (.iaload, 1) := by decide +kernel
theorem dX5_reason_66 : decode cX5_reason 66 = .ok (.if_icmp .le 7, 3) := by decide +kernel
theorem dX5_reason_69 : decode cX5_reason 69 = .ok (.iconst 1, 1) := by decide +kernel
theorem dX5_reason_70 : decode cX5_reason 70 = .ok (.goto 4, 3) := by decide +kernel
theorem dX5_reason_73 : decode cX5_reason 73 = .ok (.iconst 0, 1) := by decide +kernel
theorem dX5_reason_74 : decode cX5_reason 74 = .ok (.istore 6, 2) := by decide +kernel
theorem dX5_reason_76 : decode cX5_reason 76 = .ok (.iload 5, 2) := by decide +kernel
theorem dX5_reason_78 : decode cX5_reason 78 = .ok (.ifCond .ne 33, 3) := by decide +kernel
theorem dX5_reason_81 : decode cX5_reason 81 = .ok (.iload 9, 2) := by decide +kernel
theorem dX5_reason_83 : decode cX5_reason 83 = .ok (.ifCond .le 32, 3) := by decide +kernel
theorem dX5_reason_86 : decode cX5_reason 86 = .ok (.iload_n 2, 1) := by decide +kernel
theorem dX5_reason_87 : decode cX5_reason 87 = .ok (.aload_n 0, 1) := by decide +kernel
theorem dX5_reason_88 : decode cX5_reason 88 = .ok (.getfield 7, 3) := by decide +kernel
theorem dX5_reason_91 : decode cX5_reason 91 = .ok (.iconst 4, 1) := by decide +kernel
theorem dX5_reason_92 : decode cX5_reason 92 = .ok (.iaload, 1) := by decide +kernel
theorem dX5_reason_93 : decode cX5_reason 93 = .ok (.iadd, 1) := by decide +kernel
theorem dX5_reason_94 : decode cX5_reason 94 = .ok (.iload 8, 2) := by decide +kernel
theorem dX5_reason_96 : decode cX5_reason 96 = .ok (.iconst 5, 1) := by decide +kernel
theorem dX5_reason_97 : decode cX5_reason 97 = .ok (.irem, 1) := by decide +kernel
theorem dX5_reason_98 : decode cX5_reason 98 = .ok (.iadd, 1) := by decide +kernel
theorem dX5_reason_99 : decode cX5_reason 99 = .ok (.iload_n 3, 1) := by decide +kernel
theorem dX5_reason_100 : decode cX5_reason 100 = .ok (.iload 8, 2) := by decide +kernel
theorem dX5_reason_102 : decode cX5_reason 102 = .ok (.iconst 5, 1) := by decide +kernel
theorem dX5_reason_103 : decode cX5_reason 103 = .ok (.idiv, 1) := by decide +kernel
theorem dX5_reason_104 : decode cX5_reason 104 = .ok (.iadd, 1) := by decide +kernel
theorem dX5_reason_105 : decode cX5_reason 105 = .ok (.invokestatic 53, 3) := by decide +kernel
theorem dX5_reason_108 : decode cX5_reason 108 = .ok (.ifCond .ne 7, 3) := by decide +kernel
theorem dX5_reason_111 : decode cX5_reason 111 = .ok (.iconst 1, 1) := by decide +kernel
theorem dX5_reason_112 : decode cX5_reason 112 = .ok (.goto 4, 3) := by decide +kernel
theorem dX5_reason_115 : decode cX5_reason 115 = .ok (.iconst 0, 1) := by decide +kernel
theorem dX5_reason_116 : decode cX5_reason 116 = .ok (.istore 5, 2) := by decide +kernel
theorem dX5_reason_118 : decode cX5_reason 118 = .ok (.iinc 8 1, 3) := by decide +kernel
theorem dX5_reason_121 : decode cX5_reason 121 = .ok (.goto (-109), 3) := by decide +kernel
theorem dX5_reason_124 : decode cX5_reason 124 = .ok (.iload 5, 2) := by decide +kernel
theorem dX5_reason_126 : decode cX5_reason 126 = .ok (.ifCond .eq 7, 3) := by decide +kernel
theorem dX5_reason_129 : decode cX5_reason 129 = .ok (.iconst 1, 1) := by decide +kernel
theorem dX5_reason_130 : decode cX5_reason 130 = .ok (.goto 22, 3) := by decide +kernel
theorem dX5_reason_133 : decode cX5_reason 133 = .ok (.iload 6, 2) := by decide +kernel
theorem dX5_reason_135 : decode cX5_reason 135 = .ok (.ifCond .eq 7, 3) := by decide +kernel
theorem dX5_reason_138 : decode cX5_reason 138 = .ok (.iconst 2, 1) := by decide +kernel
theorem dX5_reason_139 : decode cX5_reason 139 = .ok (.goto 13, 3) := by decide +kernel
theorem dX5_reason_142 : decode cX5_reason 142 = .ok (.iload 7, 2) := by decide +kernel
theorem dX5_reason_144 : decode cX5_reason 144 = .ok (.ifCond .eq 7, 3) := by decide +kernel
theorem dX5_reason_147 : decode cX5_reason 147 = .ok (.iconst 0, 1) := by decide +kernel
theorem dX5_reason_148 : decode cX5_reason 148 = .ok (.goto 4, 3) := by decide +kernel
theorem dX5_reason_151 : decode cX5_reason 151 = .ok (.iconst 3, 1) := by decide +kernel
theorem dX5_reason_152 : decode cX5_reason 152 = .ok (.ireturn, 1) := by decide +kernel
theorem dX5_isReadyOver_0 : decode cX5_isReadyOver 0 = .ok (.aload_n 0, 1) := by decide +kernel
theorem dX5_isReadyOver_1 : decode cX5_isReadyOver 1 = .ok (.getfield 7, 3) := by decide +kernel
theorem dX5_isReadyOver_4 : decode cX5_isReadyOver 4 = .ok (.bipush 8, 2) := by decide +kernel
theorem dX5_isReadyOver_6 : decode cX5_isReadyOver 6 = .ok (.iaload, 1) := by decide +kernel
theorem dX5_isReadyOver_7 : decode cX5_isReadyOver 7 = .ok (.ifCond .le 49, 3) := by decide +kernel
theorem dX5_isReadyOver_10 : decode cX5_isReadyOver 10 = .ok (.iload_n 1, 1) := by decide +kernel
theorem dX5_isReadyOver_11 : decode cX5_isReadyOver 11 = .ok (.aload_n 0, 1) := by decide +kernel
theorem dX5_isReadyOver_12 : decode cX5_isReadyOver 12 = .ok (.getfield 7, 3) := by decide +kernel
theorem dX5_isReadyOver_15 : decode cX5_isReadyOver 15 = .ok (.bipush 9, 2) := by decide +kernel
theorem dX5_isReadyOver_17 : decode cX5_isReadyOver 17 = .ok (.iaload, 1) := by decide +kernel
theorem dX5_isReadyOver_18 : decode cX5_isReadyOver 18 = .ok (.aload_n 0, 1) := by decide +kernel
theorem dX5_isReadyOver_19 : decode cX5_isReadyOver 19 = .ok (.getfield 7, 3) := by decide +kernel
theorem dX5_isReadyOver_22 : decode cX5_isReadyOver 22 = .ok (.bipush 11, 2) := by decide +kernel
theorem dX5_isReadyOver_24 : decode cX5_isReadyOver 24 = .ok (.iaload, 1) := by decide +kernel
theorem dX5_isReadyOver_25 : decode cX5_isReadyOver 25 = .ok (.invokestatic 39, 3) := by decide +kernel
theorem dX5_isReadyOver_28 : decode cX5_isReadyOver 28 = .ok (.ifCond .eq 28, 3) := by decide +kernel
theorem dX5_isReadyOver_31 : decode cX5_isReadyOver 31 = .ok (.iload_n 2, 1) := by decide +kernel
theorem dX5_isReadyOver_32 : decode cX5_isReadyOver 32 = .ok (.aload_n 0, 1) := by decide +kernel
theorem dX5_isReadyOver_33 : decode cX5_isReadyOver 33 = .ok (.getfield 7, 3) := by decide +kernel
theorem dX5_isReadyOver_36 : decode cX5_isReadyOver 36 = .ok (.bipush 10, 2) := by decide +kernel
theorem dX5_isReadyOver_38 : decode cX5_isReadyOver 38 = .ok (.iaload, 1) := by decide +kernel
theorem dX5_isReadyOver_39 : decode cX5_isReadyOver 39 = .ok (.aload_n 0, 1) := by decide +kernel
theorem dX5_isReadyOver_40 : decode cX5_isReadyOver 40 = .ok (.getfield 7, 3) := by decide +kernel
theorem dX5_isReadyOver_43 : decode cX5_isReadyOver 43 = .ok (.bipush 12, 2) := by decide +kernel
theorem dX5_isReadyOver_45 : decode cX5_isReadyOver 45 = .ok (.iaload, 1) := by decide +kernel
theorem dX5_isReadyOver_46 : decode cX5_isReadyOver 46 = .ok (.invokestatic 39, 3) := by decide +kernel
theorem dX5_isReadyOver_49 : decode cX5_isReadyOver 49 = .ok (.ifCond .eq 7, 3) := by decide +kernel
theorem dX5_isReadyOver_52 : decode cX5_isReadyOver 52 = .ok (.iconst 1, 1) := by decide +kernel
theorem dX5_isReadyOver_53 : decode cX5_isReadyOver 53 = .ok (.goto 4, 3) := by decide +kernel
theorem dX5_isReadyOver_56 : decode cX5_isReadyOver 56 = .ok (.iconst 0, 1) := by decide +kernel
theorem dX5_isReadyOver_57 : decode cX5_isReadyOver 57 = .ok (.ireturn, 1) := by decide +kernel
theorem dX5_pressesPoint_0 : decode cX5_pressesPoint 0 = .ok (.iload_n 1, 1) := by decide +kernel
theorem dX5_pressesPoint_1 : decode cX5_pressesPoint 1 = .ok (.bipush 12, 2) := by decide +kernel
theorem dX5_pressesPoint_3 : decode cX5_pressesPoint 3 = .ok (.irem, 1) := by decide +kernel
theorem dX5_pressesPoint_4 : decode cX5_pressesPoint 4 = .ok (.istore_n 3, 1) := by decide +kernel
theorem dX5_pressesPoint_5 : decode cX5_pressesPoint 5 = .ok (.iload_n 1, 1) := by decide +kernel
theorem dX5_pressesPoint_6 : decode cX5_pressesPoint 6 = .ok (.bipush 12, 2) := by decide +kernel
theorem dX5_pressesPoint_8 : decode cX5_pressesPoint 8 = .ok (.idiv, 1) := by decide +kernel
theorem dX5_pressesPoint_9 : decode cX5_pressesPoint 9 = .ok (.istore 4, 2) := by decide +kernel
theorem dX5_pressesPoint_11 : decode cX5_pressesPoint 11 = .ok (.aload_n 0, 1) := by decide +kernel
theorem dX5_pressesPoint_12 : decode cX5_pressesPoint 12 = .ok (.getfield 7, 3) := by decide +kernel
theorem dX5_pressesPoint_15 : decode cX5_pressesPoint 15 = .ok (.bipush 91, 2) := by decide +kernel
theorem dX5_pressesPoint_17 : decode cX5_pressesPoint 17 = .ok (.iload_n 1, 1) := by decide +kernel
theorem dX5_pressesPoint_18 : decode cX5_pressesPoint 18 = .ok (.iadd, 1) := by decide +kernel
theorem dX5_pressesPoint_19 : decode cX5_pressesPoint 19 = .ok (.iload_n 2, 1) := by decide +kernel
theorem dX5_pressesPoint_20 : decode cX5_pressesPoint 20 = .ok (.aload_n 0, 1) := by decide +kernel
theorem dX5_pressesPoint_21 : decode cX5_pressesPoint 21 = .ok (.getfield 7, 3) := by decide +kernel
theorem dX5_pressesPoint_24 : decode cX5_pressesPoint 24 = .ok (.bipush 91, 2) := by decide +kernel
theorem dX5_pressesPoint_26 : decode cX5_pressesPoint 26 = .ok (.iload_n 1, 1) := by decide +kernel
theorem dX5_pressesPoint_27 : decode cX5_pressesPoint 27 = .ok (.iadd, 1) := by decide +kernel
theorem dX5_pressesPoint_28 : decode cX5_pressesPoint 28 = .ok (.iaload, 1) := by decide +kernel
theorem dX5_pressesPoint_29 : decode cX5_pressesPoint 29 = .ok (.if_icmp .le 7, 3) := by decide +kernel
theorem dX5_pressesPoint_32 : decode cX5_pressesPoint 32 = .ok (.iload_n 2, 1) := by decide +kernel
theorem dX5_pressesPoint_33 : decode cX5_pressesPoint 33 = .ok (.goto 12, 3) := by decide +kernel
theorem dX5_pressesPoint_36 : decode cX5_pressesPoint 36 = .ok (.aload_n 0, 1) := by decide +kernel
theorem dX5_pressesPoint_37 : decode cX5_pressesPoint 37 = .ok (.getfield 7, 3) := by decide +kernel
theorem dX5_pressesPoint_40 : decode cX5_pressesPoint 40 = .ok (.bipush 91, 2) := by decide +kernel
theorem dX5_pressesPoint_42 : decode cX5_pressesPoint 42 = .ok (.iload_n 1, 1) := by decide +kernel
theorem dX5_pressesPoint_43 : decode cX5_pressesPoint 43 = .ok (.iadd, 1) := by decide +kernel
theorem dX5_pressesPoint_44 : decode cX5_pressesPoint 44 = .ok (.iaload, 1) := by decide +kernel
theorem dX5_pressesPoint_45 : decode cX5_pressesPoint 45 = .ok (.iastore, 1) := by decide +kernel
theorem dX5_pressesPoint_46 : decode cX5_pressesPoint 46 = .ok (.aload_n 0, 1) := by decide +kernel
theorem dX5_pressesPoint_47 : decode cX5_pressesPoint 47 = .ok (.getfield 7, 3) := by decide +kernel
theorem dX5_pressesPoint_50 : decode cX5_pressesPoint 50 = .ok (.sipush 235, 3) := by decide +kernel
theorem dX5_pressesPoint_53 : decode cX5_pressesPoint 53 = .ok (.iload_n 1, 1) := by decide +kernel
theorem dX5_pressesPoint_54 : decode cX5_pressesPoint 54 = .ok (.iadd, 1) := by decide +kernel
theorem dX5_pressesPoint_55 : decode cX5_pressesPoint 55 = .ok (.aload_n 0, 1) := by decide +kernel
theorem dX5_pressesPoint_56 : decode cX5_pressesPoint 56 = .ok (.iload_n 3, 1) := by decide +kernel
theorem dX5_pressesPoint_57 : decode cX5_pressesPoint 57 = .ok (.iload 4, 2) := by decide +kernel
theorem dX5_pressesPoint_59 : decode cX5_pressesPoint 59 = .ok (.invokevirtual 84, 3) := by decide +kernel
theorem dX5_pressesPoint_62 : decode cX5_pressesPoint 62 = .ok (.ifCond .eq 13, 3) := by decide +kernel
theorem dX5_pressesPoint_65 : decode cX5_pressesPoint 65 = .ok (.aload_n 0, 1) := by decide +kernel
theorem dX5_pressesPoint_66 : decode cX5_pressesPoint 66 = .ok (.getfield 7, 3) := by decide +kernel
theorem dX5_pressesPoint_69 : decode cX5_pressesPoint 69 = .ok (.bipush 8, 2) := by decide +kernel
theorem dX5_pressesPoint_71 : decode cX5_pressesPoint 71 = .ok (.iaload, 1) := by decide +kernel
theorem dX5_pressesPoint_72 : decode cX5_pressesPoint 72 = .ok (.goto 13, 3) := by decide +kernel
theorem dX5_pressesPoint_75 : decode cX5_pressesPoint 75 = .ok (.aload_n 0, 1) := by decide +kernel
theorem dX5_pressesPoint_76 : decode cX5_pressesPoint 76 = .ok (.getfield 7, 3) := by decide +kernel
theorem dX5_pressesPoint_79 : decode cX5_pressesPoint 79 = .ok (.sipush 235, 3) := by decide +kernel
theorem dX5_pressesPoint_82 : decode cX5_pressesPoint 82 = .ok (.iload_n 1, 1) := by decide +kernel
theorem dX5_pressesPoint_83 : decode cX5_pressesPoint 83 = .ok (.iadd, 1) := by decide +kernel
theorem dX5_pressesPoint_84 : decode cX5_pressesPoint 84 = .ok (.iaload, 1) := by decide +kernel
theorem dX5_pressesPoint_85 : decode cX5_pressesPoint 85 = .ok (.iastore, 1) := by decide +kernel
theorem dX5_pressesPoint_86 : decode cX5_pressesPoint 86 = .ok (.aload_n 0, 1) := by decide +kernel
theorem dX5_pressesPoint_87 : decode cX5_pressesPoint 87 = .ok (.getfield 7, 3) := by decide +kernel
theorem dX5_pressesPoint_90 : decode cX5_pressesPoint 90 = .ok (.sipush 523, 3) := by decide +kernel
theorem dX5_pressesPoint_93 : decode cX5_pressesPoint 93 = .ok (.iload_n 1, 1) := by decide +kernel
theorem dX5_pressesPoint_94 : decode cX5_pressesPoint 94 = .ok (.iadd, 1) := by decide +kernel
theorem dX5_pressesPoint_95 : decode cX5_pressesPoint 95 = .ok (.dup2, 1) := by decide +kernel
theorem dX5_pressesPoint_96 : decode cX5_pressesPoint 96 = .ok (.iaload, 1) := by decide +kernel
theorem dX5_pressesPoint_97 : decode cX5_pressesPoint 97 = .ok (.iconst 1, 1) := by decide +kernel
theorem dX5_pressesPoint_98 : decode cX5_pressesPoint 98 = .ok (.iadd, 1) := by decide +kernel
theorem dX5_pressesPoint_99 : decode cX5_pressesPoint 99 = .ok (.iastore, 1) := by decide +kernel
theorem dX5_pressesPoint_100 : decode cX5_pressesPoint 100 = .ok (.return_, 1) := by decide +kernel
theorem dX5_presses_0 : decode cX5_presses 0 = .ok (.iconst 0, 1) := by decide +kernel
theorem dX5_presses_1 : decode cX5_presses 1 = .ok (.istore 5, 2) := by decide +kernel
theorem dX5_presses_3 : decode cX5_presses 3 = .ok (.iload 5, 2) := by decide +kernel
theorem dX5_presses_5 : decode cX5_presses 5 = .ok (.bipush 25, 2) := by decide +kernel
theorem dX5_presses_7 : decode cX5_presses 7 = .ok (.if_icmp .ge 60, 3) := by decide +kernel
theorem dX5_presses_10 : decode cX5_presses 10 = .ok (.aload_n 0, 1) := by decide +kernel
theorem dX5_presses_11 : decode cX5_presses 11 = .ok (.iload_n 1, 1) := by decide +kernel
theorem dX5_presses_12 : decode cX5_presses 12 = .ok (.iload 5, 2) := by decide +kernel
theorem dX5_presses_14 : decode cX5_presses 14 = .ok (.iconst 5, 1) := by decide +kernel
theorem dX5_presses_15 : decode cX5_presses 15 = .ok (.irem, 1) := by decide +kernel
theorem dX5_presses_16 : decode cX5_presses 16 = .ok (.iload 5, 2) := by decide +kernel
theorem dX5_presses_18 : decode cX5_presses 18 = .ok (.iconst 5, 1) := by decide +kernel
theorem dX5_presses_19 : decode cX5_presses 19 = .ok (.idiv, 1) := by decide +kernel
theorem dX5_presses_20 : decode cX5_presses 20 = .ok (.iload 4, 2) := by decide +kernel
theorem dX5_presses_22 : decode cX5_presses 22 = .ok (.invokevirtual 80, 3) := by decide +kernel
theorem dX5_presses_25 : decode cX5_presses 25 = .ok (.istore 6, 2) := by decide +kernel
theorem dX5_presses_27 : decode cX5_presses 27 = .ok (.iload 6, 2) := by decide +kernel
theorem dX5_presses_29 : decode cX5_presses 29 = .ok (.ifCond .le 32, 3) := by decide +kernel
theorem dX5_presses_32 : decode cX5_presses 32 = .ok (.aload_n 0, 1) := by decide +kernel
theorem dX5_presses_33 : decode cX5_presses 33 = .ok (.bipush 12, 2) := by decide +kernel
theorem dX5_presses_35 : decode cX5_presses 35 = .ok (.iload_n 3, 1) := by decide +kernel
theorem dX5_presses_36 : decode cX5_presses 36 = .ok (.iload 5, 2) := by decide +kernel
theorem dX5_presses_38 : decode cX5_presses 38 = .ok (.iconst 5, 1) := by decide +kernel
theorem dX5_presses_39 : decode cX5_presses 39 = .ok (.idiv, 1) := by decide +kernel
theorem dX5_presses_40 : decode cX5_presses 40 = .ok (.iadd, 1) := by decide +kernel
theorem dX5_presses_41 : decode cX5_presses 41 = .ok (.imul, 1) := by decide +kernel
theorem dX5_presses_42 : decode cX5_presses 42 = .ok (.iload_n 2, 1) := by decide +kernel
theorem dX5_presses_43 : decode cX5_presses 43 = .ok (.iadd, 1) := by decide +kernel
theorem dX5_presses_44 : decode cX5_presses 44 = .ok (.aload_n 0, 1) := by decide +kernel
theorem dX5_presses_45 : decode cX5_presses 45 = .ok (.getfield 7, 3) := by decide +kernel
theorem dX5_presses_48 : decode cX5_presses 48 = .ok (.iconst 4, 1) := by decide +kernel
theorem dX5_presses_49 : decode cX5_presses 49 = .ok (.iaload, 1) := by decide +kernel
theorem dX5_presses_50 : decode cX5_presses 50 = .ok (.iadd, 1) := by decide +kernel
theorem dX5_presses_51 : decode cX5_presses 51 = .ok (.iload 5, 2) := by decide +kernel
theorem dX5_presses_53 : decode cX5_presses 53 = .ok (.iconst 5, 1) := by decide +kernel
theorem dX5_presses_54 : decode cX5_presses 54 = .ok (.irem, 1) := by decide +kernel
theorem dX5_presses_55 : decode cX5_presses 55 = .ok (.iadd, 1) := by decide +kernel
theorem dX5_presses_56 : decode cX5_presses 56 = .ok (.iload 6, 2) := by decide +kernel
theorem dX5_presses_58 : decode cX5_presses 58 = .ok (.invokevirtual 87, 3) := by decide +kernel
theorem dX5_presses_61 : decode cX5_presses 61 = .ok (.iinc 5 1, 3) := by decide +kernel
theorem dX5_presses_64 : decode cX5_presses 64 = .ok (.goto (-61), 3) := by decide +kernel
theorem dX5_presses_67 : decode cX5_presses 67 = .ok (.aload_n 0, 1) := by decide +kernel
theorem dX5_presses_68 : decode cX5_presses 68 = .ok (.getfield 7, 3) := by decide +kernel
theorem dX5_presses_71 : decode cX5_presses 71 = .ok (.bipush 8, 2) := by decide +kernel
theorem dX5_presses_73 : decode cX5_presses 73 = .ok (.iconst 0, 1) := by decide +kernel
theorem dX5_presses_74 : decode cX5_presses 74 = .ok (.iastore, 1) := by decide +kernel
theorem dX5_presses_75 : decode cX5_presses 75 = .ok (.aload_n 0, 1) := by decide +kernel
theorem dX5_presses_76 : decode cX5_presses 76 = .ok (.invokevirtual 91, 3) := by decide +kernel
theorem dX5_presses_79 : decode cX5_presses 79 = .ok (.istore 5, 2) := by decide +kernel
theorem dX5_presses_81 : decode cX5_presses 81 = .ok (.aload_n 0, 1) := by decide +kernel
theorem dX5_presses_82 : decode cX5_presses 82 = .ok (.getfield 7, 3) := by decide +kernel
theorem dX5_presses_85 : decode cX5_presses 85 = .ok (.bipush 13, 2) := by decide +kernel
theorem dX5_presses_87 : decode cX5_presses 87 = .ok (.dup2, 1) := by decide +kernel
theorem dX5_presses_88 : decode cX5_presses 88 = .ok (.iaload, 1) := by decide +kernel
theorem dX5_presses_89 : decode cX5_presses 89 = .ok (.iload 5, 2) := by decide +kernel
theorem dX5_presses_91 : decode cX5_presses 91 = .ok (.iadd, 1) := by decide +kernel
theorem dX5_presses_92 : decode cX5_presses 92 = .ok (.iastore, 1) := by decide +kernel
theorem dX5_presses_93 : decode cX5_presses 93 = .ok (.aload_n 0, 1) := by decide +kernel
theorem dX5_presses_94 : decode cX5_presses 94 = .ok (.getfield 7, 3) := by decide +kernel
theorem dX5_presses_97 : decode cX5_presses 97 = .ok (.bipush 6, 2) := by decide +kernel
theorem dX5_presses_99 : decode cX5_presses 99 = .ok (.dup2, 1) := by decide +kernel
theorem dX5_presses_100 : decode cX5_presses 100 = .ok (.iaload, 1) := by decide +kernel
theorem dX5_presses_101 : decode cX5_presses 101 = .ok (.iconst 1, 1) := by decide +kernel
theorem dX5_presses_102 : decode cX5_presses 102 = .ok (.iadd, 1) := by decide +kernel
theorem dX5_presses_103 : decode cX5_presses 103 = .ok (.iastore, 1) := by decide +kernel
theorem dX5_presses_104 : decode cX5_presses 104 = .ok (.aload_n 0, 1) := by decide +kernel
theorem dX5_presses_105 : decode cX5_presses 105 = .ok (.getfield 7, 3) := by decide +kernel
theorem dX5_presses_108 : decode cX5_presses 108 = .ok (.iconst 5, 1) := by decide +kernel
theorem dX5_presses_109 : decode cX5_presses 109 = .ok (.dup2, 1) := by decide +kernel
theorem dX5_presses_110 : decode cX5_presses 110 = .ok (.iaload, 1) := by decide +kernel
theorem dX5_presses_111 : decode cX5_presses 111 = .ok (.iconst 1, 1) := by decide +kernel
theorem dX5_presses_112 : decode cX5_presses 112 = .ok (.iadd, 1) := by decide +kernel
theorem dX5_presses_113 : decode cX5_presses 113 = .ok (.iastore, 1) := by decide +kernel
theorem dX5_presses_114 : decode cX5_presses 114 = .ok (.aload_n 0, 1) := by decide +kernel
theorem dX5_presses_115 : decode cX5_presses 115 = .ok (.getfield 7, 3) := by decide +kernel
theorem dX5_presses_118 : decode cX5_presses 118 = .ok (.iconst 4, 1) := by decide +kernel
theorem dX5_presses_119 : decode cX5_presses 119 = .ok (.dup2, 1) := by decide +kernel
theorem dX5_presses_120 : decode cX5_presses 120 = .ok (.iaload, 1) := by decide +kernel
theorem dX5_presses_121 : decode cX5_presses 121 = .ok (.aload_n 0, 1) := by decide +kernel
theorem dX5_presses_122 : decode cX5_presses 122 = .ok (.getfield 7, 3) := by decide +kernel
theorem dX5_presses_125 : decode cX5_presses 125 = .ok (.iconst 3, 1) := by decide +kernel
theorem dX5_presses_126 : decode cX5_presses 126 = .ok (.iaload, 1) := by decide +kernel
theorem dX5_presses_127 : decode cX5_presses 127 = .ok (.ifCond .le 33, 3) := by decide +kernel
theorem dX5_presses_130 : decode cX5_presses 130 = .ok (.aload_n 0, 1) := by decide +kernel
theorem dX5_presses_131 : decode cX5_presses 131 = .ok (.getfield 7, 3) := by decide +kernel
theorem dX5_presses_134 : decode cX5_presses 134 = .ok (.iconst 5, 1) := by decide +kernel
theorem dX5_presses_135 : decode cX5_presses 135 = .ok (.iaload, 1) := by decide +kernel
theorem dX5_presses_136 : decode cX5_presses 136 = .ok (.aload_n 0, 1) := by decide +kernel
theorem dX5_presses_137 : decode cX5_presses 137 = .ok (.getfield 7, 3) := by decide +kernel
theorem dX5_presses_140 : decode cX5_presses 140 = .ok (.iconst 3, 1) := by decide +kernel
theorem dX5_presses_141 : decode cX5_presses 141 = .ok (.iaload, 1) := by decide +kernel
theorem dX5_presses_142 : decode cX5_presses 142 = .ok (.irem, 1) := by decide +kernel
theorem dX5_presses_143 : decode cX5_presses 143 = .ok (.ifCond .ne 17, 3) := by decide +kernel
theorem dX5_presses_146 : decode cX5_presses 146 = .ok (.aload_n 0, 1) := by decide +kernel
theorem dX5_presses_147 : decode cX5_presses 147 = .ok (.getfield 7, 3) := by decide +kernel
theorem dX5_presses_150 : decode cX5_presses 150 = .ok (.iconst 4, 1) := by decide +kernel
theorem dX5_presses_151 : decode cX5_presses 151 = .ok (.iaload, 1) := by decide +kernel
theorem dX5_presses_152 : decode cX5_presses 152 = .ok (.iconst 3, 1) := by decide +kernel
theorem dX5_presses_153 : decode cX5_presses 153 = .ok (.if_icmp .ge 7, 3) := by decide +kernel
theorem dX5_presses_156 : decode cX5_presses 156 = .ok (.iconst 1, 1) := by decide +kernel
theorem dX5_presses_157 : decode cX5_presses 157 = .ok (.goto 4, 3) := by decide +kernel
theorem dX5_presses_160 : decode cX5_presses 160 = .ok (.iconst 0, 1) := by decide +kernel
theorem dX5_presses_161 : decode cX5_presses 161 = .ok (.iadd, 1) := by decide +kernel
theorem dX5_presses_162 : decode cX5_presses 162 = .ok (.iastore, 1) := by decide +kernel
theorem dX5_presses_163 : decode cX5_presses 163 = .ok (.iload 5, 2) := by decide +kernel
theorem dX5_presses_165 : decode cX5_presses 165 = .ok (.ireturn, 1) := by decide +kernel
theorem dX5_folds_0 : decode cX5_folds 0 = .ok (.iconst 0, 1) := by decide +kernel
theorem dX5_folds_1 : decode cX5_folds 1 = .ok (.istore_n 2, 1) := by decide +kernel
theorem dX5_folds_2 : decode cX5_folds 2 = .ok (.iload_n 2, 1) := by decide +kernel
theorem dX5_folds_3 : decode cX5_folds 3 = .ok (.sipush 144, 3) := by decide +kernel
theorem dX5_folds_6 : decode cX5_folds 6 = .ok (.if_icmp .ge 97, 3) := by decide +kernel
theorem dX5_folds_9 : decode cX5_folds 9 = .ok (.iload_n 2, 1) := by decide +kernel
theorem dX5_folds_10 : decode cX5_folds 10 = .ok (.bipush 12, 2) := by decide +kernel
theorem dX5_folds_12 : decode cX5_folds 12 = .ok (.irem, 1) := by decide +kernel
theorem dX5_folds_13 : decode cX5_folds 13 = .ok (.istore_n 3, 1) := by decide +kernel
theorem dX5_folds_14 : decode cX5_folds 14 = .ok (.iload_n 2, 1) := by decide +kernel
theorem dX5_folds_15 : decode cX5_folds 15 = .ok (.bipush 12, 2) := by decide +kernel
theorem dX5_folds_17 : decode cX5_folds 17 = .ok (.idiv, 1) := by decide +kernel
theorem dX5_folds_18 : decode cX5_folds 18 = .ok (.istore 4, 2) := by decide +kernel
theorem dX5_folds_20 : decode cX5_folds 20 = .ok (.iload 4, 2) := by decide +kernel
theorem dX5_folds_22 : decode cX5_folds 22 = .ok (.iload_n 1, 1) := by decide +kernel
theorem dX5_folds_23 : decode cX5_folds 23 = .ok (.if_icmp .eq 11, 3) := by decide +kernel
theorem dX5_folds_26 : decode cX5_folds 26 = .ok (.iload 4, 2) := by decide +kernel
theorem dX5_folds_28 : decode cX5_folds 28 = .ok (.iload_n 1, 1) := by decide +kernel
theorem dX5_folds_29 : decode cX5_folds 29 = .ok (.iconst 1, 1) := by decide +kernel
theorem dX5_folds_30 : decode cX5_folds 30 = .ok (.isub, 1) := by decide +kernel
theorem dX5_folds_31 : decode cX5_folds 31 = .ok (.if_icmp .ne 7, 3) := by decide +kernel
theorem dX5_folds_34 : decode cX5_folds 34 = .ok (.iconst 1, 1) := by decide +kernel
theorem dX5_folds_35 : decode cX5_folds 35 = .ok (.goto 4, 3) := by decide +kernel
theorem dX5_folds_38 : decode cX5_folds 38 = .ok (.iconst 0, 1) := by decide +kernel
theorem dX5_folds_39 : decode cX5_folds 39 = .ok (.istore 5, 2) := by decide +kernel
theorem dX5_folds_41 : decode cX5_folds 41 = .ok (.aload_n 0, 1) := by decide +kernel
theorem dX5_folds_42 : decode cX5_folds 42 = .ok (.getfield 29, 3) := by decide +kernel
theorem dX5_folds_45 : decode cX5_folds 45 = .ok (.iload_n 2, 1) := by decide +kernel
theorem dX5_folds_46 : decode cX5_folds 46 = .ok (.iload 5, 2) := by decide +kernel
theorem dX5_folds_48 : decode cX5_folds 48 = .ok (.ifCond .eq 47, 3) := by decide +kernel
theorem dX5_folds_51 : decode cX5_folds 51 = .ok (.aload_n 0, 1) := by decide +kernel
theorem dX5_folds_52 : decode cX5_folds 52 = .ok (.iload_n 3, 1) := by decide +kernel
theorem dX5_folds_53 : decode cX5_folds 53 = .ok (.iload 4, 2) := by decide +kernel
theorem dX5_folds_55 : decode cX5_folds 55 = .ok (.invokevirtual 64, 3) := by decide +kernel
theorem dX5_folds_58 : decode cX5_folds 58 = .ok (.ifCond .ne 37, 3) := by decide +kernel
theorem dX5_folds_61 : decode cX5_folds 61 = .ok (.aload_n 0, 1) := by decide +kernel
theorem dX5_folds_62 : decode cX5_folds 62 = .ok (.iload_n 3, 1) := by decide +kernel
theorem dX5_folds_63 : decode cX5_folds 63 = .ok (.iload_n 1, 1) := by decide +kernel
theorem dX5_folds_64 : decode cX5_folds 64 = .ok (.invokevirtual 57, 3) := by decide +kernel
theorem dX5_folds_67 : decode cX5_folds 67 = .ok (.aload_n 0, 1) := by decide +kernel
theorem dX5_folds_68 : decode cX5_folds 68 = .ok (.iload_n 3, 1) := by decide +kernel
theorem dX5_folds_69 : decode cX5_folds 69 = .ok (.iload_n 1, 1) := by decide +kernel
theorem dX5_folds_70 : decode cX5_folds 70 = .ok (.iconst 1, 1) := by decide +kernel
theorem dX5_folds_71 : decode cX5_folds 71 = .ok (.isub, 1) := by decide +kernel
theorem dX5_folds_72 : decode cX5_folds 72 = .ok (.invokevirtual 57, 3) := by decide +kernel
theorem dX5_folds_75 : decode cX5_folds 75 = .ok (.isub, 1) := by decide +kernel
theorem dX5_folds_76 : decode cX5_folds 76 = .ok (.invokestatic 60, 3) := by decide +kernel
theorem dX5_folds_79 : decode cX5_folds 79 = .ok (.aload_n 0, 1) := by decide +kernel
theorem dX5_folds_80 : decode cX5_folds 80 = .ok (.iload_n 3, 1) := by decide +kernel
theorem dX5_folds_81 : decode cX5_folds 81 = .ok (.iload 4, 2) := by decide +kernel
theorem dX5_folds_83 : decode cX5_folds 83 = .ok (.invokevirtual 70, 3) := by decide +kernel
theorem dX5_folds_86 : decode cX5_folds 86 = .ok (.iconst 2, 1) := by decide +kernel
theorem dX5_folds_87 : decode cX5_folds 87 = .ok (.idiv, 1) := by decide +kernel
theorem dX5_folds_88 : decode cX5_folds 88 = .ok (.if_icmp .le 7, 3) := by decide +kernel
theorem dX5_folds_91 : decode cX5_folds 91 = .ok (.iconst 1, 1) := by decide +kernel
theorem dX5_folds_92 : decode cX5_folds 92 = .ok (.goto 4, 3) := by decide +kernel
theorem dX5_folds_95 : decode cX5_folds 95 = .ok (.iconst 0, 1) := by decide +kernel
theorem dX5_folds_96 : decode cX5_folds 96 = .ok (.bastore, 1) := by decide +kernel
theorem dX5_folds_97 : decode cX5_folds 97 = .ok (.iinc 2 1, 3) := by decide +kernel
theorem dX5_folds_100 : decode cX5_folds 100 = .ok (.goto (-98), 3) := by decide +kernel
theorem dX5_folds_103 : decode cX5_folds 103 = .ok (.aload_n 0, 1) := by decide +kernel
theorem dX5_folds_104 : decode cX5_folds 104 = .ok (.invokevirtual 73, 3) := by decide +kernel
theorem dX5_folds_107 : decode cX5_folds 107 = .ok (.istore_n 2, 1) := by decide +kernel
theorem dX5_folds_108 : decode cX5_folds 108 = .ok (.iload_n 2, 1) := by decide +kernel
theorem dX5_folds_109 : decode cX5_folds 109 = .ok (.aload_n 0, 1) := by decide +kernel
theorem dX5_folds_110 : decode cX5_folds 110 = .ok (.invokevirtual 91, 3) := by decide +kernel
theorem dX5_folds_113 : decode cX5_folds 113 = .ok (.iadd, 1) := by decide +kernel
theorem dX5_folds_114 : decode cX5_folds 114 = .ok (.istore_n 2, 1) := by decide +kernel
theorem dX5_folds_115 : decode cX5_folds 115 = .ok (.aload_n 0, 1) := by decide +kernel
theorem dX5_folds_116 : decode cX5_folds 116 = .ok (.getfield 7, 3) := by decide +kernel
theorem dX5_folds_119 : decode cX5_folds 119 = .ok (.bipush 13, 2) := by decide +kernel
theorem dX5_folds_121 : decode cX5_folds 121 = .ok (.dup2, 1) := by decide +kernel
theorem dX5_folds_122 : decode cX5_folds 122 = .ok (.iaload, 1) := by decide +kernel
theorem dX5_folds_123 : decode cX5_folds 123 = .ok (.iload_n 2, 1) := by decide +kernel
theorem dX5_folds_124 : decode cX5_folds 124 = .ok (.iadd, 1) := by decide +kernel
theorem dX5_folds_125 : decode cX5_folds 125 = .ok (.iastore, 1) := by decide +kernel
theorem dX5_folds_126 : decode cX5_folds 126 = .ok (.aload_n 0, 1) := by decide +kernel
theorem dX5_folds_127 : decode cX5_folds 127 = .ok (.getfield 7, 3) := by decide +kernel
theorem dX5_folds_130 : decode cX5_folds 130 = .ok (.bipush 15, 2) := by decide +kernel
theorem dX5_folds_132 : decode cX5_folds 132 = .ok (.dup2, 1) := by decide +kernel
theorem dX5_folds_133 : decode cX5_folds 133 = .ok (.iaload, 1) := by decide +kernel
theorem dX5_folds_134 : decode cX5_folds 134 = .ok (.iconst 1, 1) := by decide +kernel
theorem dX5_folds_135 : decode cX5_folds 135 = .ok (.iadd, 1) := by decide +kernel
theorem dX5_folds_136 : decode cX5_folds 136 = .ok (.iastore, 1) := by decide +kernel
theorem dX5_folds_137 : decode cX5_folds 137 = .ok (.iload_n 2, 1) := by decide +kernel
theorem dX5_folds_138 : decode cX5_folds 138 = .ok (.ireturn, 1) := by decide +kernel
theorem dX5_point_0 : decode cX5_point 0 = .ok (.aload_n 0, 1) := by decide +kernel
theorem dX5_point_1 : decode cX5_point 1 = .ok (.iconst 0, 1) := by decide +kernel
theorem dX5_point_2 : decode cX5_point 2 = .ok (.putfield 35, 3) := by decide +kernel
theorem dX5_point_5 : decode cX5_point 5 = .ok (.iload_n 1, 1) := by decide +kernel
theorem dX5_point_6 : decode cX5_point 6 = .ok (.invokestatic 94, 3) := by decide +kernel
theorem dX5_point_9 : decode cX5_point 9 = .ok (.ifCond .eq 11, 3) := by decide +kernel
theorem dX5_point_12 : decode cX5_point 12 = .ok (.iload_n 2, 1) := by decide +kernel
theorem dX5_point_13 : decode cX5_point 13 = .ok (.iload_n 3, 1) := by decide +kernel
theorem dX5_point_14 : decode cX5_point 14 = .ok (.invokestatic 98, 3) := by decide +kernel
theorem dX5_point_17 : decode cX5_point 17 = .ok (.ifCond .ne 9, 3) := by decide +kernel
theorem dX5_point_20 : decode cX5_point 20 = .ok (.aload_n 0, 1) := by decide +kernel
theorem dX5_point_21 : decode cX5_point 21 = .ok (.iconst 1, 1) := by decide +kernel
theorem dX5_point_22 : decode cX5_point 22 = .ok (.invokevirtual 101, 3) := by decide +kernel
theorem dX5_point_25 : decode cX5_point 25 = .ok (.ireturn, 1) := by decide +kernel
theorem dX5_point_26 : decode cX5_point 26 = .ok (.iload 4, 2) := by decide +kernel
theorem dX5_point_28 : decode cX5_point 28 = .ok (.iconst 0, 1) := by decide +kernel
theorem dX5_point_29 : decode cX5_point 29 = .ok (.bipush 9, 2) := by decide +kernel
theorem dX5_point_31 : decode cX5_point 31 = .ok (.invokestatic 39, 3) := by decide +kernel
theorem dX5_point_34 : decode cX5_point 34 = .ok (.ifCond .ne 9, 3) := by decide +kernel
theorem dX5_point_37 : decode cX5_point 37 = .ok (.aload_n 0, 1) := by decide +kernel
theorem dX5_point_38 : decode cX5_point 38 = .ok (.iconst 2, 1) := by decide +kernel
theorem dX5_point_39 : decode cX5_point 39 = .ok (.invokevirtual 101, 3) := by decide +kernel
theorem dX5_point_42 : decode cX5_point 42 = .ok (.ireturn, 1) := by decide +kernel
theorem dX5_point_43 : decode cX5_point 43 = .ok (.aload_n 0, 1) := by decide +kernel
theorem dX5_point_44 : decode cX5_point 44 = .ok (.invokevirtual 104, 3) := by decide +kernel
theorem dX5_point_47 : decode cX5_point 47 = .ok (.aload_n 0, 1) := by decide +kernel
theorem dX5_point_48 : decode cX5_point 48 = .ok (.getfield 7, 3) := by decide +kernel
theorem dX5_point_51 : decode cX5_point 51 = .ok (.bipush 16, 2) := by decide +kernel
theorem dX5_point_53 : decode cX5_point 53 = .ok (.bipush 25, 2) := by decide +kernel
theorem dX5_point_55 : decode cX5_point 55 = .ok (.iload_n 1, 1) := by decide +kernel
theorem dX5_point_56 : decode cX5_point 56 = .ok (.imul, 1) := by decide +kernel
theorem dX5_point_57 : decode cX5_point 57 = .ok (.iadd, 1) := by decide +kernel
theorem dX5_point_58 : decode cX5_point 58 = .ok (.iconst 5, 1) := by decide +kernel
theorem dX5_point_59 : decode cX5_point 59 = .ok (.iload_n 3, 1) := by decide +kernel
theorem dX5_point_60 : decode cX5_point 60 = .ok (.imul, 1) := by decide +kernel
theorem dX5_point_61 : decode cX5_point 61 = .ok (.iadd, 1) := by decide +kernel
theorem dX5_point_62 : decode cX5_point 62 = .ok (.iload_n 2, 1) := by decide +kernel
theorem dX5_point_63 : decode cX5_point 63 = .ok (.iadd, 1) := by decide +kernel
theorem dX5_point_64 : decode cX5_point 64 = .ok (.iaload, 1) := by decide +kernel
theorem dX5_point_65 : decode cX5_point 65 = .ok (.istore 5, 2) := by decide +kernel
theorem dX5_point_67 : decode cX5_point 67 = .ok (.aload_n 0, 1) := by decide +kernel
theorem dX5_point_68 : decode cX5_point 68 = .ok (.getfield 7, 3) := by decide +kernel
theorem dX5_point_71 : decode cX5_point 71 = .ok (.bipush 16, 2) := by decide +kernel
theorem dX5_point_73 : decode cX5_point 73 = .ok (.bipush 25, 2) := by decide +kernel
theorem dX5_point_75 : decode cX5_point 75 = .ok (.iload_n 1, 1) := by decide +kernel
theorem dX5_point_76 : decode cX5_point 76 = .ok (.imul, 1) := by decide +kernel
theorem dX5_point_77 : decode cX5_point 77 = .ok (.iadd, 1) := by decide +kernel
theorem dX5_point_78 : decode cX5_point 78 = .ok (.iconst 5, 1) := by decide +kernel
theorem dX5_point_79 : decode cX5_point 79 = .ok (.iload_n 3, 1) := by decide +kernel
theorem dX5_point_80 : decode cX5_point 80 = .ok (.imul, 1) := by decide +kernel
theorem dX5_point_81 : decode cX5_point 81 = .ok (.iadd, 1) := by decide +kernel
theorem dX5_point_82 : decode cX5_point 82 = .ok (.iload_n 2, 1) := by decide +kernel
theorem dX5_point_83 : decode cX5_point 83 = .ok (.iadd, 1) := by decide +kernel
theorem dX5_point_84 : decode cX5_point 84 = .ok (.iload 4, 2) := by decide +kernel
theorem dX5_point_86 : decode cX5_point 86 = .ok (.iastore, 1) := by decide +kernel
theorem dX5_point_87 : decode cX5_point 87 = .ok (.iload 5, 2) := by decide +kernel
theorem dX5_point_89 : decode cX5_point 89 = .ok (.ireturn, 1) := by decide +kernel
theorem dX5_cast_0 : decode cX5_cast 0 = .ok (.aload_n 0, 1) := by decide +kernel
theorem dX5_cast_1 : decode cX5_cast 1 = .ok (.iconst 0, 1) := by decide +kernel
theorem dX5_cast_2 : decode cX5_cast 2 = .ok (.putfield 35, 3) := by decide +kernel
theorem dX5_cast_5 : decode cX5_cast 5 = .ok (.iload_n 1, 1) := by decide +kernel
theorem dX5_cast_6 : decode cX5_cast 6 = .ok (.invokestatic 94, 3) := by decide +kernel
theorem dX5_cast_9 : decode cX5_cast 9 = .ok (.ifCond .eq 11, 3) := by decide +kernel
theorem dX5_cast_12 : decode cX5_cast 12 = .ok (.iload_n 2, 1) := by decide +kernel
theorem dX5_cast_13 : decode cX5_cast 13 = .ok (.iload_n 3, 1) := by decide +kernel
theorem dX5_cast_14 : decode cX5_cast 14 = .ok (.invokestatic 53, 3) := by decide +kernel
theorem dX5_cast_17 : decode cX5_cast 17 = .ok (.ifCond .ne 9, 3) := by decide +kernel
theorem dX5_cast_20 : decode cX5_cast 20 = .ok (.aload_n 0, 1) := by decide +kernel
theorem dX5_cast_21 : decode cX5_cast 21 = .ok (.iconst 1, 1) := by decide +kernel
theorem dX5_cast_22 : decode cX5_cast 22 = .ok (.invokevirtual 101, 3) := by decide +kernel
theorem dX5_cast_25 : decode cX5_cast 25 = .ok (.ireturn, 1) := by decide +kernel
theorem dX5_cast_26 : decode cX5_cast 26 = .ok (.aload_n 0, 1) := by decide +kernel
theorem dX5_cast_27 : decode cX5_cast 27 = .ok (.invokevirtual 104, 3) := by decide +kernel
theorem dX5_cast_30 : decode cX5_cast 30 = .ok (.iconst 0, 1) := by decide +kernel
theorem dX5_cast_31 : decode cX5_cast 31 = .ok (.istore 4, 2) := by decide +kernel
theorem dX5_cast_33 : decode cX5_cast 33 = .ok (.iload 4, 2) := by decide +kernel
theorem dX5_cast_35 : decode cX5_cast 35 = .ok (.bipush 25, 2) := by decide +kernel
theorem dX5_cast_37 : decode cX5_cast 37 = .ok (.if_icmp .ge 62, 3) := by decide +kernel
theorem dX5_cast_40 : decode cX5_cast 40 = .ok (.iload_n 2, 1) := by decide +kernel
theorem dX5_cast_41 : decode cX5_cast 41 = .ok (.iload 4, 2) := by decide +kernel
theorem dX5_cast_43 : decode cX5_cast 43 = .ok (.iconst 5, 1) := by decide +kernel
theorem dX5_cast_44 : decode cX5_cast 44 = .ok (.irem, 1) := by decide +kernel
theorem dX5_cast_45 : decode cX5_cast 45 = .ok (.iadd, 1) := by decide +kernel
theorem dX5_cast_46 : decode cX5_cast 46 = .ok (.istore 5, 2) := by decide +kernel
theorem dX5_cast_48 : decode cX5_cast 48 = .ok (.iload_n 3, 1) := by decide +kernel
theorem dX5_cast_49 : decode cX5_cast 49 = .ok (.iload 4, 2) := by decide +kernel
theorem dX5_cast_51 : decode cX5_cast 51 = .ok (.iconst 5, 1) := by decide +kernel
theorem dX5_cast_52 : decode cX5_cast 52 = .ok (.idiv, 1) := by decide +kernel
theorem dX5_cast_53 : decode cX5_cast 53 = .ok (.iadd, 1) := by decide +kernel
theorem dX5_cast_54 : decode cX5_cast 54 = .ok (.istore 6, 2) := by decide +kernel
theorem dX5_cast_56 : decode cX5_cast 56 = .ok (.aload_n 0, 1) := by decide +kernel
theorem dX5_cast_57 : decode cX5_cast 57 = .ok (.getfield 7, 3) := by decide +kernel
theorem dX5_cast_60 : decode cX5_cast 60 = .ok (.bipush 16, 2) := by decide +kernel
theorem dX5_cast_62 : decode cX5_cast 62 = .ok (.bipush 25, 2) := by decide +kernel
theorem dX5_cast_64 : decode cX5_cast 64 = .ok (.iload_n 1, 1) := by decide +kernel
theorem dX5_cast_65 : decode cX5_cast 65 = .ok (.imul, 1) := by decide +kernel
theorem dX5_cast_66 : decode cX5_cast 66 = .ok (.iadd, 1) := by decide +kernel
theorem dX5_cast_67 : decode cX5_cast 67 = .ok (.iload 4, 2) := by decide +kernel
theorem dX5_cast_69 : decode cX5_cast 69 = .ok (.iadd, 1) := by decide +kernel
theorem dX5_cast_70 : decode cX5_cast 70 = .ok (.iload 5, 2) := by decide +kernel
theorem dX5_cast_72 : decode cX5_cast 72 = .ok (.iload 6, 2) := by decide +kernel
theorem dX5_cast_74 : decode cX5_cast 74 = .ok (.invokestatic 53, 3) := by decide +kernel
theorem dX5_cast_77 : decode cX5_cast 77 = .ok (.ifCond .eq 14, 3) := by decide +kernel
theorem dX5_cast_80 : decode cX5_cast 80 = .ok (.aload_n 0, 1) := by decide +kernel
theorem dX5_cast_81 : decode cX5_cast 81 = .ok (.iload 5, 2) := by decide +kernel
theorem dX5_cast_83 : decode cX5_cast 83 = .ok (.iload 6, 2) := by decide +kernel
theorem dX5_cast_85 : decode cX5_cast 85 = .ok (.invokevirtual 57, 3) := by decide +kernel
theorem dX5_cast_88 : decode cX5_cast 88 = .ok (.goto 4, 3) := by decide +kernel
theorem dX5_cast_91 : decode cX5_cast 91 = .ok (.iconst 0, 1) := by decide +kernel
theorem dX5_cast_92 : decode cX5_cast 92 = .ok (.iastore, 1) := by decide +kernel
theorem dX5_cast_93 : decode cX5_cast 93 = .ok (.iinc 4 1, 3) := by decide +kernel
theorem dX5_cast_96 : decode cX5_cast 96 = .ok (.goto (-63), 3) := by decide +kernel
theorem dX5_cast_99 : decode cX5_cast 99 = .ok (.aload_n 0, 1) := by decide +kernel
theorem dX5_cast_100 : decode cX5_cast 100 = .ok (.iload_n 1, 1) := by decide +kernel
theorem dX5_cast_101 : decode cX5_cast 101 = .ok (.invokevirtual 107, 3) := by decide +kernel
theorem dX5_cast_104 : decode cX5_cast 104 = .ok (.ireturn, 1) := by decide +kernel
theorem dX5_cracked_0 : decode cX5_cracked 0 = .ok (.iconst 0, 1) := by decide +kernel
theorem dX5_cracked_1 : decode cX5_cracked 1 = .ok (.istore_n 1, 1) := by decide +kernel
theorem dX5_cracked_2 : decode cX5_cracked 2 = .ok (.iconst 0, 1) := by decide +kernel
theorem dX5_cracked_3 : decode cX5_cracked 3 = .ok (.istore_n 2, 1) := by decide +kernel
theorem dX5_cracked_4 : decode cX5_cracked 4 = .ok (.iload_n 2, 1) := by decide +kernel
theorem dX5_cracked_5 : decode cX5_cracked 5 = .ok (.sipush 144, 3) := by decide +kernel
theorem dX5_cracked_8 : decode cX5_cracked 8 = .ok (.if_icmp .ge 22, 3) := by decide +kernel
theorem dX5_cracked_11 : decode cX5_cracked 11 = .ok (.iload_n 1, 1) := by decide +kernel
theorem dX5_cracked_12 : decode cX5_cracked 12 = .ok (.aload_n 0, 1) := by decide +kernel
theorem dX5_cracked_13 : decode cX5_cracked 13 = .ok (.getfield 7, 3) := by decide +kernel
theorem dX5_cracked_16 : decode cX5_cracked 16 = .ok (.sipush 379, 3) := by decide +kernel
theorem dX5_cracked_19 : decode cX5_cracked 19 = .ok (.iload_n 2, 1) := by decide +kernel
theorem dX5_cracked_20 : decode cX5_cracked 20 = .ok (.iadd, 1) := by decide +kernel
theorem dX5_cracked_21 : decode cX5_cracked 21 = .ok (.iaload, 1) := by decide +kernel
theorem dX5_cracked_22 : decode cX5_cracked 22 = .ok (.iadd, 1) := by decide +kernel
theorem dX5_cracked_23 : decode cX5_cracked 23 = .ok (.istore_n 1, 1) := by decide +kernel
theorem dX5_cracked_24 : decode cX5_cracked 24 = .ok (.iinc 2 1, 3) := by decide +kernel
theorem dX5_cracked_27 : decode cX5_cracked 27 = .ok (.goto (-23), 3) := by decide +kernel
theorem dX5_cracked_30 : decode cX5_cracked 30 = .ok (.iload_n 1, 1) := by decide +kernel
theorem dX5_cracked_31 : decode cX5_cracked 31 = .ok (.ireturn, 1) := by decide +kernel
theorem dX5_sheet_0 : decode cX5_sheet 0 = .ok (.aload_n 0, 1) := by decide +kernel
theorem dX5_sheet_1 : decode cX5_sheet 1 = .ok (.iconst 0, 1) := by decide +kernel
theorem dX5_sheet_2 : decode cX5_sheet 2 = .ok (.putfield 35, 3) := by decide +kernel
theorem dX5_sheet_5 : decode cX5_sheet 5 = .ok (.aload_n 0, 1) := by decide +kernel
theorem dX5_sheet_6 : decode cX5_sheet 6 = .ok (.invokevirtual 104, 3) := by decide +kernel
theorem dX5_sheet_9 : decode cX5_sheet 9 = .ok (.aload_n 0, 1) := by decide +kernel
theorem dX5_sheet_10 : decode cX5_sheet 10 = .ok (.invokevirtual 110, 3) := by decide +kernel
theorem dX5_sheet_13 : decode cX5_sheet 13 = .ok (.istore_n 1, 1) := by decide +kernel
theorem dX5_sheet_14 : decode cX5_sheet 14 = .ok (.bipush 91, 2) := by decide +kernel
theorem dX5_sheet_16 : decode cX5_sheet 16 = .ok (.istore_n 2, 1) := by decide +kernel
theorem dX5_sheet_17 : decode cX5_sheet 17 = .ok (.iload_n 2, 1) := by decide +kernel
theorem dX5_sheet_18 : decode cX5_sheet 18 = .ok (.sipush 667, 3) := by decide +kernel
theorem dX5_sheet_21 : decode cX5_sheet 21 = .ok (.if_icmp .ge 16, 3) := by decide +kernel
theorem dX5_sheet_24 : decode cX5_sheet 24 = .ok (.aload_n 0, 1) := by decide +kernel
theorem dX5_sheet_25 : decode cX5_sheet 25 = .ok (.getfield 7, 3) := by decide +kernel
theorem dX5_sheet_28 : decode cX5_sheet 28 = .ok (.iload_n 2, 1) := by decide +kernel
theorem dX5_sheet_29 : decode cX5_sheet 29 = .ok (.iconst 0, 1) := by decide +kernel
theorem dX5_sheet_30 : decode cX5_sheet 30 = .ok (.iastore, 1) := by decide +kernel
theorem dX5_sheet_31 : decode cX5_sheet 31 = .ok (.iinc 2 1, 3) := by decide +kernel
theorem dX5_sheet_34 : decode cX5_sheet 34 = .ok (.goto (-17), 3) := by decide +kernel
theorem dX5_sheet_37 : decode cX5_sheet 37 = .ok (.aload_n 0, 1) := by decide +kernel
theorem dX5_sheet_38 : decode cX5_sheet 38 = .ok (.getfield 7, 3) := by decide +kernel
theorem dX5_sheet_41 : decode cX5_sheet 41 = .ok (.iconst 4, 1) := by decide +kernel
theorem dX5_sheet_42 : decode cX5_sheet 42 = .ok (.iconst 0, 1) := by decide +kernel
theorem dX5_sheet_43 : decode cX5_sheet 43 = .ok (.iastore, 1) := by decide +kernel
theorem dX5_sheet_44 : decode cX5_sheet 44 = .ok (.aload_n 0, 1) := by decide +kernel
theorem dX5_sheet_45 : decode cX5_sheet 45 = .ok (.getfield 7, 3) := by decide +kernel
theorem dX5_sheet_48 : decode cX5_sheet 48 = .ok (.iconst 5, 1) := by decide +kernel
theorem dX5_sheet_49 : decode cX5_sheet 49 = .ok (.iconst 0, 1) := by decide +kernel
theorem dX5_sheet_50 : decode cX5_sheet 50 = .ok (.iastore, 1) := by decide +kernel
theorem dX5_sheet_51 : decode cX5_sheet 51 = .ok (.aload_n 0, 1) := by decide +kernel
theorem dX5_sheet_52 : decode cX5_sheet 52 = .ok (.getfield 7, 3) := by decide +kernel
theorem dX5_sheet_55 : decode cX5_sheet 55 = .ok (.bipush 8, 2) := by decide +kernel
theorem dX5_sheet_57 : decode cX5_sheet 57 = .ok (.iconst 0, 1) := by decide +kernel
theorem dX5_sheet_58 : decode cX5_sheet 58 = .ok (.iastore, 1) := by decide +kernel
theorem dX5_sheet_59 : decode cX5_sheet 59 = .ok (.aload_n 0, 1) := by decide +kernel
theorem dX5_sheet_60 : decode cX5_sheet 60 = .ok (.getfield 7, 3) := by decide +kernel
theorem dX5_sheet_63 : decode cX5_sheet 63 = .ok (.bipush 14, 2) := by decide +kernel
theorem dX5_sheet_65 : decode cX5_sheet 65 = .ok (.dup2, 1) := by decide +kernel
theorem dX5_sheet_66 : decode cX5_sheet 66 = .ok (.iaload, 1) := by decide +kernel
theorem dX5_sheet_67 : decode cX5_sheet 67 = .ok (.iconst 1, 1) := by decide +kernel
theorem dX5_sheet_68 : decode cX5_sheet 68 = .ok (.iadd, 1) := by decide +kernel
theorem dX5_sheet_69 : decode cX5_sheet 69 = .ok (.iastore, 1) := by decide +kernel
theorem dX5_sheet_70 : decode cX5_sheet 70 = .ok (.iload_n 1, 1) := by decide +kernel
theorem dX5_sheet_71 : decode cX5_sheet 71 = .ok (.ireturn, 1) := by decide +kernel
theorem dX5_pin_0 : decode cX5_pin 0 = .ok (.aload_n 0, 1) := by decide +kernel
theorem dX5_pin_1 : decode cX5_pin 1 = .ok (.iconst 0, 1) := by decide +kernel
theorem dX5_pin_2 : decode cX5_pin 2 = .ok (.putfield 35, 3) := by decide +kernel
theorem dX5_pin_5 : decode cX5_pin 5 = .ok (.aload_n 0, 1) := by decide +kernel
theorem dX5_pin_6 : decode cX5_pin 6 = .ok (.invokevirtual 104, 3) := by decide +kernel
theorem dX5_pin_9 : decode cX5_pin 9 = .ok (.aload_n 0, 1) := by decide +kernel
theorem dX5_pin_10 : decode cX5_pin 10 = .ok (.getfield 7, 3) := by decide +kernel
theorem dX5_pin_13 : decode cX5_pin 13 = .ok (.iconst 4, 1) := by decide +kernel
theorem dX5_pin_14 : decode cX5_pin 14 = .ok (.iaload, 1) := by decide +kernel
theorem dX5_pin_15 : decode cX5_pin 15 = .ok (.istore_n 1, 1) := by decide +kernel
theorem dX5_pin_16 : decode cX5_pin 16 = .ok (.aload_n 0, 1) := by decide +kernel
theorem dX5_pin_17 : decode cX5_pin 17 = .ok (.getfield 7, 3) := by decide +kernel
theorem dX5_pin_20 : decode cX5_pin 20 = .ok (.iconst 4, 1) := by decide +kernel
theorem dX5_pin_21 : decode cX5_pin 21 = .ok (.iconst 0, 1) := by decide +kernel
theorem dX5_pin_22 : decode cX5_pin 22 = .ok (.iastore, 1) := by decide +kernel
theorem dX5_pin_23 : decode cX5_pin 23 = .ok (.aload_n 0, 1) := by decide +kernel
theorem dX5_pin_24 : decode cX5_pin 24 = .ok (.getfield 7, 3) := by decide +kernel
theorem dX5_pin_27 : decode cX5_pin 27 = .ok (.iconst 5, 1) := by decide +kernel
theorem dX5_pin_28 : decode cX5_pin 28 = .ok (.iconst 0, 1) := by decide +kernel
theorem dX5_pin_29 : decode cX5_pin 29 = .ok (.iastore, 1) := by decide +kernel
theorem dX5_pin_30 : decode cX5_pin 30 = .ok (.iload_n 1, 1) := by decide +kernel
theorem dX5_pin_31 : decode cX5_pin 31 = .ok (.ireturn, 1) := by decide +kernel
theorem dX5_foil_0 : decode cX5_foil 0 = .ok (.aload_n 0, 1) := by decide +kernel
theorem dX5_foil_1 : decode cX5_foil 1 = .ok (.iconst 0, 1) := by decide +kernel
theorem dX5_foil_2 : decode cX5_foil 2 = .ok (.putfield 35, 3) := by decide +kernel
theorem dX5_foil_5 : decode cX5_foil 5 = .ok (.iload_n 2, 1) := by decide +kernel
theorem dX5_foil_6 : decode cX5_foil 6 = .ok (.iload_n 3, 1) := by decide +kernel
theorem dX5_foil_7 : decode cX5_foil 7 = .ok (.invokestatic 53, 3) := by decide +kernel
theorem dX5_foil_10 : decode cX5_foil 10 = .ok (.ifCond .eq 13, 3) := by decide +kernel
theorem dX5_foil_13 : decode cX5_foil 13 = .ok (.iload 4, 2) := by decide +kernel
theorem dX5_foil_15 : decode cX5_foil 15 = .ok (.iload 5, 2) := by decide +kernel
theorem dX5_foil_17 : decode cX5_foil 17 = .ok (.invokestatic 53, 3) := by decide +kernel
theorem dX5_foil_20 : decode cX5_foil 20 = .ok (.ifCond .ne 9, 3) := by decide +kernel
theorem dX5_foil_23 : decode cX5_foil 23 = .ok (.aload_n 0, 1) := by decide +kernel
theorem dX5_foil_24 : decode cX5_foil 24 = .ok (.iconst 1, 1) := by decide +kernel
theorem dX5_foil_25 : decode cX5_foil 25 = .ok (.invokevirtual 101, 3) := by decide +kernel
theorem dX5_foil_28 : decode cX5_foil 28 = .ok (.ireturn, 1) := by decide +kernel
theorem dX5_foil_29 : decode cX5_foil 29 = .ok (.iload_n 1, 1) := by decide +kernel
theorem dX5_foil_30 : decode cX5_foil 30 = .ok (.iconst 1, 1) := by decide +kernel
theorem dX5_foil_31 : decode cX5_foil 31 = .ok (.bipush 9, 2) := by decide +kernel
theorem dX5_foil_33 : decode cX5_foil 33 = .ok (.invokestatic 39, 3) := by decide +kernel
theorem dX5_foil_36 : decode cX5_foil 36 = .ok (.ifCond .eq 15, 3) := by decide +kernel
theorem dX5_foil_39 : decode cX5_foil 39 = .ok (.iload 4, 2) := by decide +kernel
theorem dX5_foil_41 : decode cX5_foil 41 = .ok (.iload_n 2, 1) := by decide +kernel
theorem dX5_foil_42 : decode cX5_foil 42 = .ok (.if_icmp .lt 9, 3) := by decide +kernel
theorem dX5_foil_45 : decode cX5_foil 45 = .ok (.iload 5, 2) := by decide +kernel
theorem dX5_foil_47 : decode cX5_foil 47 = .ok (.iload_n 3, 1) := by decide +kernel
theorem dX5_foil_48 : decode cX5_foil 48 = .ok (.if_icmp .ge 9, 3) := by decide +kernel
theorem dX5_foil_51 : decode cX5_foil 51 = .ok (.aload_n 0, 1) := by decide +kernel
theorem dX5_foil_52 : decode cX5_foil 52 = .ok (.iconst 2, 1) := by decide +kernel
theorem dX5_foil_53 : decode cX5_foil 53 = .ok (.invokevirtual 101, 3) := by decide +kernel
theorem dX5_foil_56 : decode cX5_foil 56 = .ok (.ireturn, 1) := by decide +kernel
theorem dX5_foil_57 : decode cX5_foil 57 = .ok (.aload_n 0, 1) := by decide +kernel
theorem dX5_foil_58 : decode cX5_foil 58 = .ok (.invokevirtual 104, 3) := by decide +kernel
theorem dX5_foil_61 : decode cX5_foil 61 = .ok (.aload_n 0, 1) := by decide +kernel
theorem dX5_foil_62 : decode cX5_foil 62 = .ok (.getfield 7, 3) := by decide +kernel
theorem dX5_foil_65 : decode cX5_foil 65 = .ok (.bipush 8, 2) := by decide +kernel
theorem dX5_foil_67 : decode cX5_foil 67 = .ok (.iload_n 1, 1) := by decide +kernel
theorem dX5_foil_68 : decode cX5_foil 68 = .ok (.iastore, 1) := by decide +kernel
theorem dX5_foil_69 : decode cX5_foil 69 = .ok (.aload_n 0, 1) := by decide +kernel
theorem dX5_foil_70 : decode cX5_foil 70 = .ok (.getfield 7, 3) := by decide +kernel
theorem dX5_foil_73 : decode cX5_foil 73 = .ok (.bipush 9, 2) := by decide +kernel
theorem dX5_foil_75 : decode cX5_foil 75 = .ok (.iload_n 2, 1) := by decide +kernel
theorem dX5_foil_76 : decode cX5_foil 76 = .ok (.iastore, 1) := by decide +kernel
theorem dX5_foil_77 : decode cX5_foil 77 = .ok (.aload_n 0, 1) := by decide +kernel
theorem dX5_foil_78 : decode cX5_foil 78 = .ok (.getfield 7, 3) := by decide +kernel
theorem dX5_foil_81 : decode cX5_foil 81 = .ok (.bipush 10, 2) := by decide +kernel
theorem dX5_foil_83 : decode cX5_foil 83 = .ok (.iload_n 3, 1) := by decide +kernel
theorem dX5_foil_84 : decode cX5_foil 84 = .ok (.iastore, 1) := by decide +kernel
theorem dX5_foil_85 : decode cX5_foil 85 = .ok (.aload_n 0, 1) := by decide +kernel
theorem dX5_foil_86 : decode cX5_foil 86 = .ok (.getfield 7, 3) := by decide +kernel
theorem dX5_foil_89 : decode cX5_foil 89 = .ok (.bipush 11, 2) := by decide +kernel
theorem dX5_foil_91 : decode cX5_foil 91 = .ok (.iload 4, 2) := by decide +kernel
theorem dX5_foil_93 : decode cX5_foil 93 = .ok (.iastore, 1) := by decide +kernel
theorem dX5_foil_94 : decode cX5_foil 94 = .ok (.aload_n 0, 1) := by decide +kernel
theorem dX5_foil_95 : decode cX5_foil 95 = .ok (.getfield 7, 3) := by decide +kernel
theorem dX5_foil_98 : decode cX5_foil 98 = .ok (.bipush 12, 2) := by decide +kernel
theorem dX5_foil_100 : decode cX5_foil 100 = .ok (.iload 5, 2) := by decide +kernel
theorem dX5_foil_102 : decode cX5_foil 102 = .ok (.iastore, 1) := by decide +kernel
theorem dX5_foil_103 : decode cX5_foil 103 = .ok (.iload 4, 2) := by decide +kernel
theorem dX5_foil_105 : decode cX5_foil 105 = .ok (.iload_n 2, 1) := by decide +kernel
theorem dX5_foil_106 : decode cX5_foil 106 = .ok (.isub, 1) := by decide +kernel
theorem dX5_foil_107 : decode cX5_foil 107 = .ok (.iconst 1, 1) := by decide +kernel
theorem dX5_foil_108 : decode cX5_foil 108 = .ok (.iadd, 1) := by decide +kernel
theorem dX5_foil_109 : decode cX5_foil 109 = .ok (.iload 5, 2) := by decide +kernel
theorem dX5_foil_111 : decode cX5_foil 111 = .ok (.iload_n 3, 1) := by decide +kernel
theorem dX5_foil_112 : decode cX5_foil 112 = .ok (.isub, 1) := by decide +kernel
theorem dX5_foil_113 : decode cX5_foil 113 = .ok (.iconst 1, 1) := by decide +kernel
theorem dX5_foil_114 : decode cX5_foil 114 = .ok (.iadd, 1) := by decide +kernel
theorem dX5_foil_115 : decode cX5_foil 115 = .ok (.imul, 1) := by decide +kernel
theorem dX5_foil_116 : decode cX5_foil 116 = .ok (.ireturn, 1) := by decide +kernel
theorem dX5_press_0 : decode cX5_press 0 = .ok (.aload_n 0, 1) := by decide +kernel
theorem dX5_press_1 : decode cX5_press 1 = .ok (.iconst 0, 1) := by decide +kernel
theorem dX5_press_2 : decode cX5_press 2 = .ok (.putfield 35, 3) := by decide +kernel
theorem dX5_press_5 : decode cX5_press 5 = .ok (.iload_n 1, 1) := by decide +kernel
theorem dX5_press_6 : decode cX5_press 6 = .ok (.invokestatic 94, 3) := by decide +kernel
theorem dX5_press_9 : decode cX5_press 9 = .ok (.ifCond .ne 9, 3) := by decide +kernel
theorem dX5_press_12 : decode cX5_press 12 = .ok (.aload_n 0, 1) := by decide +kernel
theorem dX5_press_13 : decode cX5_press 13 = .ok (.iconst 1, 1) := by decide +kernel
theorem dX5_press_14 : decode cX5_press 14 = .ok (.invokevirtual 101, 3) := by decide +kernel
theorem dX5_press_17 : decode cX5_press 17 = .ok (.ireturn, 1) := by decide +kernel
theorem dX5_press_18 : decode cX5_press 18 = .ok (.iload 4, 2) := by decide +kernel
theorem dX5_press_20 : decode cX5_press 20 = .ok (.iconst 0, 1) := by decide +kernel
theorem dX5_press_21 : decode cX5_press 21 = .ok (.bipush 7, 2) := by decide +kernel
theorem dX5_press_23 : decode cX5_press 23 = .ok (.invokestatic 39, 3) := by decide +kernel
theorem dX5_press_26 : decode cX5_press 26 = .ok (.ifCond .ne 9, 3) := by decide +kernel
theorem dX5_press_29 : decode cX5_press 29 = .ok (.aload_n 0, 1) := by decide +kernel
theorem dX5_press_30 : decode cX5_press 30 = .ok (.iconst 2, 1) := by decide +kernel
theorem dX5_press_31 : decode cX5_press 31 = .ok (.invokevirtual 101, 3) := by decide +kernel
theorem dX5_press_34 : decode cX5_press 34 = .ok (.ireturn, 1) := by decide +kernel
theorem dX5_press_35 : decode cX5_press 35 = .ok (.aload_n 0, 1) := by decide +kernel
theorem dX5_press_36 : decode cX5_press 36 = .ok (.invokevirtual 104, 3) := by decide +kernel
theorem dX5_press_39 : decode cX5_press 39 = .ok (.aload_n 0, 1) := by decide +kernel
theorem dX5_press_40 : decode cX5_press 40 = .ok (.iload_n 1, 1) := by decide +kernel
theorem dX5_press_41 : decode cX5_press 41 = .ok (.iload_n 2, 1) := by decide +kernel
theorem dX5_press_42 : decode cX5_press 42 = .ok (.iload_n 3, 1) := by decide +kernel
theorem dX5_press_43 : decode cX5_press 43 = .ok (.iload 4, 2) := by decide +kernel
theorem dX5_press_45 : decode cX5_press 45 = .ok (.invokevirtual 113, 3) := by decide +kernel
theorem dX5_press_48 : decode cX5_press 48 = .ok (.istore 5, 2) := by decide +kernel
theorem dX5_press_50 : decode cX5_press 50 = .ok (.iload 5, 2) := by decide +kernel
theorem dX5_press_52 : decode cX5_press 52 = .ok (.ifCond .le 17, 3) := by decide +kernel
theorem dX5_press_55 : decode cX5_press 55 = .ok (.aload_n 0, 1) := by decide +kernel
theorem dX5_press_56 : decode cX5_press 56 = .ok (.getfield 7, 3) := by decide +kernel
theorem dX5_press_59 : decode cX5_press 59 = .ok (.bipush 7, 2) := by decide +kernel
theorem dX5_press_61 : decode cX5_press 61 = .ok (.dup2, 1) := by decide +kernel
theorem dX5_press_62 : decode cX5_press 62 = .ok (.iaload, 1) := by decide +kernel
theorem dX5_press_63 : decode cX5_press 63 = .ok (.iconst 1, 1) := by decide +kernel
theorem dX5_press_64 : decode cX5_press 64 = .ok (.iadd, 1) := by decide +kernel
theorem dX5_press_65 : decode cX5_press 65 = .ok (.iastore, 1) := by decide +kernel
theorem dX5_press_66 : decode cX5_press 66 = .ok (.iload 5, 2) := by decide +kernel
theorem dX5_press_68 : decode cX5_press 68 = .ok (.ireturn, 1) := by decide +kernel
theorem dX5_press_69 : decode cX5_press 69 = .ok (.bipush 100, 2) := by decide +kernel
theorem dX5_press_71 : decode cX5_press 71 = .ok (.aload_n 0, 1) := by decide +kernel
theorem dX5_press_72 : decode cX5_press 72 = .ok (.iload_n 1, 1) := by decide +kernel
theorem dX5_press_73 : decode cX5_press 73 = .ok (.iload_n 2, 1) := by decide +kernel
theorem dX5_press_74 : decode cX5_press 74 = .ok (.iload_n 3, 1) := by decide +kernel
theorem dX5_press_75 : decode cX5_press 75 = .ok (.iload 4, 2) := by decide +kernel
theorem dX5_press_77 : decode cX5_press 77 = .ok (.invokevirtual 116, 3) := by decide +kernel
theorem dX5_press_80 : decode cX5_press 80 = .ok (.iadd, 1) := by decide +kernel
theorem dX5_press_81 : decode cX5_press 81 = .ok (.ireturn, 1) := by decide +kernel
theorem dX5_fold_0 : decode cX5_fold 0 = .ok (.aload_n 0, 1) := by decide +kernel
theorem dX5_fold_1 : decode cX5_fold 1 = .ok (.iconst 0, 1) := by decide +kernel
theorem dX5_fold_2 : decode cX5_fold 2 = .ok (.putfield 35, 3) := by decide +kernel
theorem dX5_fold_5 : decode cX5_fold 5 = .ok (.iload_n 1, 1) := by decide +kernel
theorem dX5_fold_6 : decode cX5_fold 6 = .ok (.iconst 1, 1) := by decide +kernel
theorem dX5_fold_7 : decode cX5_fold 7 = .ok (.bipush 11, 2) := by decide +kernel
theorem dX5_fold_9 : decode cX5_fold 9 = .ok (.invokestatic 39, 3) := by decide +kernel
theorem dX5_fold_12 : decode cX5_fold 12 = .ok (.ifCond .ne 9, 3) := by decide +kernel
theorem dX5_fold_15 : decode cX5_fold 15 = .ok (.aload_n 0, 1) := by decide +kernel
theorem dX5_fold_16 : decode cX5_fold 16 = .ok (.iconst 1, 1) := by decide +kernel
theorem dX5_fold_17 : decode cX5_fold 17 = .ok (.invokevirtual 101, 3) := by decide +kernel
theorem dX5_fold_20 : decode cX5_fold 20 = .ok (.ireturn, 1) := by decide +kernel
theorem dX5_fold_21 : decode cX5_fold 21 = .ok (.aload_n 0, 1) := by decide +kernel
theorem dX5_fold_22 : decode cX5_fold 22 = .ok (.invokevirtual 104, 3) := by decide +kernel
theorem dX5_fold_25 : decode cX5_fold 25 = .ok (.aload_n 0, 1) := by decide +kernel
theorem dX5_fold_26 : decode cX5_fold 26 = .ok (.iload_n 1, 1) := by decide +kernel
theorem dX5_fold_27 : decode cX5_fold 27 = .ok (.invokevirtual 119, 3) := by decide +kernel
theorem dX5_fold_30 : decode cX5_fold 30 = .ok (.ireturn, 1) := by decide +kernel
theorem dX5_set_0 : decode cX5_set 0 = .ok (.aload_n 0, 1) := by decide +kernel
theorem dX5_set_1 : decode cX5_set 1 = .ok (.iconst 0, 1) := by decide +kernel
theorem dX5_set_2 : decode cX5_set 2 = .ok (.putfield 35, 3) := by decide +kernel
theorem dX5_set_5 : decode cX5_set 5 = .ok (.iload_n 1, 1) := by decide +kernel
theorem dX5_set_6 : decode cX5_set 6 = .ok (.iconst 0, 1) := by decide +kernel
theorem dX5_set_7 : decode cX5_set 7 = .ok (.iconst 3, 1) := by decide +kernel
theorem dX5_set_8 : decode cX5_set 8 = .ok (.invokestatic 39, 3) := by decide +kernel
theorem dX5_set_11 : decode cX5_set 11 = .ok (.ifCond .ne 9, 3) := by decide +kernel
theorem dX5_set_14 : decode cX5_set 14 = .ok (.aload_n 0, 1) := by decide +kernel
theorem dX5_set_15 : decode cX5_set 15 = .ok (.iconst 1, 1) := by decide +kernel
theorem dX5_set_16 : decode cX5_set 16 = .ok (.invokevirtual 101, 3) := by decide +kernel
theorem dX5_set_19 : decode cX5_set 19 = .ok (.ireturn, 1) := by decide +kernel
theorem dX5_set_20 : decode cX5_set 20 = .ok (.iload_n 1, 1) := by decide +kernel
theorem dX5_set_21 : decode cX5_set 21 = .ok (.ifCond .ne 8, 3) := by decide +kernel
theorem dX5_set_24 : decode cX5_set 24 = .ok (.bipush 99, 2) := by decide +kernel
theorem dX5_set_26 : decode cX5_set 26 = .ok (.goto 15, 3) := by decide +kernel
theorem dX5_set_29 : decode cX5_set 29 = .ok (.iload_n 1, 1) := by decide +kernel
theorem dX5_set_30 : decode cX5_set 30 = .ok (.iconst 1, 1) := by decide +kernel
theorem dX5_set_31 : decode cX5_set 31 = .ok (.if_icmp .ne 8, 3) := by decide +kernel
theorem dX5_set_34 : decode cX5_set 34 = .ok (.bipush 20, 2) := by decide +kernel
theorem dX5_set_36 : decode cX5_set 36 = .ok (.goto 5, 3) := by decide +kernel
theorem dX5_set_39 : decode cX5_set 39 = .ok (.bipush 9, 2) := by decide +kernel
theorem dX5_set_41 : decode cX5_set 41 = .ok (.istore_n 3, 1) := by decide +kernel
theorem dX5_set_42 : decode cX5_set 42 = .ok (.iload_n 2, 1) := by decide +kernel
theorem dX5_set_43 : decode cX5_set 43 = .ok (.iload_n 1, 1) := by decide +kernel
theorem dX5_set_44 : decode cX5_set 44 = .ok (.iconst 2, 1) := by decide +kernel
theorem dX5_set_45 : decode cX5_set 45 = .ok (.if_icmp .ne 7, 3) := by decide +kernel
theorem dX5_set_48 : decode cX5_set 48 = .ok (.iconst 1, 1) := by decide +kernel
theorem dX5_set_49 : decode cX5_set 49 = .ok (.goto 4, 3) := by decide +kernel
theorem dX5_set_52 : decode cX5_set 52 = .ok (.iconst 0, 1) := by decide +kernel
theorem dX5_set_53 : decode cX5_set 53 = .ok (.iload_n 3, 1) := by decide +kernel
theorem dX5_set_54 : decode cX5_set 54 = .ok (.invokestatic 39, 3) := by decide +kernel
theorem dX5_set_57 : decode cX5_set 57 = .ok (.ifCond .ne 9, 3) := by decide +kernel
theorem dX5_set_60 : decode cX5_set 60 = .ok (.aload_n 0, 1) := by decide +kernel
theorem dX5_set_61 : decode cX5_set 61 = .ok (.iconst 2, 1) := by decide +kernel
theorem dX5_set_62 : decode cX5_set 62 = .ok (.invokevirtual 101, 3) := by decide +kernel
theorem dX5_set_65 : decode cX5_set 65 = .ok (.ireturn, 1) := by decide +kernel
theorem dX5_set_66 : decode cX5_set 66 = .ok (.aload_n 0, 1) := by decide +kernel
theorem dX5_set_67 : decode cX5_set 67 = .ok (.invokevirtual 104, 3) := by decide +kernel
theorem dX5_set_70 : decode cX5_set 70 = .ok (.aload_n 0, 1) := by decide +kernel
theorem dX5_set_71 : decode cX5_set 71 = .ok (.getfield 7, 3) := by decide +kernel
theorem dX5_set_74 : decode cX5_set 74 = .ok (.iload_n 1, 1) := by decide +kernel
theorem dX5_set_75 : decode cX5_set 75 = .ok (.iaload, 1) := by decide +kernel
theorem dX5_set_76 : decode cX5_set 76 = .ok (.istore 4, 2) := by decide +kernel
theorem dX5_set_78 : decode cX5_set 78 = .ok (.aload_n 0, 1) := by decide +kernel
theorem dX5_set_79 : decode cX5_set 79 = .ok (.getfield 7, 3) := by decide +kernel
theorem dX5_set_82 : decode cX5_set 82 = .ok (.iload_n 1, 1) := by decide +kernel
theorem dX5_set_83 : decode cX5_set 83 = .ok (.iload_n 2, 1) := by decide +kernel
theorem dX5_set_84 : decode cX5_set 84 = .ok (.iastore, 1) := by decide +kernel
theorem dX5_set_85 : decode cX5_set 85 = .ok (.iload 4, 2) := by decide +kernel
theorem dX5_set_87 : decode cX5_set 87 = .ok (.ireturn, 1) := by decide +kernel
theorem dX5_append_0 : decode cX5_append 0 = .ok (.aload_n 0, 1) := by decide +kernel
theorem dX5_append_1 : decode cX5_append 1 = .ok (.iconst 0, 1) := by decide +kernel
theorem dX5_append_2 : decode cX5_append 2 = .ok (.putfield 35, 3) := by decide +kernel
theorem dX5_append_5 : decode cX5_append 5 = .ok (.iload_n 1, 1) := by decide +kernel
theorem dX5_append_6 : decode cX5_append 6 = .ok (.bipush 33, 2) := by decide +kernel
theorem dX5_append_8 : decode cX5_append 8 = .ok (.bipush 126, 2) := by decide +kernel
theorem dX5_append_10 : decode cX5_append 10 = .ok (.invokestatic 39, 3) := by decide +kernel
theorem dX5_append_13 : decode cX5_append 13 = .ok (.ifCond .ne 9, 3) := by decide +kernel
theorem dX5_append_16 : decode cX5_append 16 = .ok (.aload_n 0, 1) := by decide +kernel
theorem dX5_append_17 : decode cX5_append 17 = .ok (.iconst 1, 1) := by decide +kernel
theorem dX5_append_18 : decode cX5_append 18 = .ok (.invokevirtual 101, 3) := by decide +kernel
theorem dX5_append_21 : decode cX5_append 21 = .ok (.ireturn, 1) := by decide +kernel
theorem dX5_append_22 : decode cX5_append 22 = .ok (.aload_n 0, 1) := by decide +kernel
theorem dX5_append_23 : decode cX5_append 23 = .ok (.getfield 122, 3) := by decide +kernel
theorem dX5_append_26 : decode cX5_append 26 = .ok (.bipush 40, 2) := by decide +kernel
theorem dX5_append_28 : decode cX5_append 28 = .ok (.if_icmp .ne 9, 3) := by decide +kernel
theorem dX5_append_31 : decode cX5_append 31 = .ok (.aload_n 0, 1) := by decide +kernel
theorem dX5_append_32 : decode cX5_append 32 = .ok (.iconst 2, 1) := by decide +kernel
theorem dX5_append_33 : decode cX5_append 33 = .ok (.invokevirtual 101, 3) := by decide +kernel
theorem dX5_append_36 : decode cX5_append 36 = .ok (.ireturn, 1) := by decide +kernel
theorem dX5_append_37 : decode cX5_append 37 = .ok (.aload_n 0, 1) := by decide +kernel
theorem dX5_append_38 : decode cX5_append 38 = .ok (.getfield 26, 3) := by decide +kernel
theorem dX5_append_41 : decode cX5_append 41 = .ok (.aload_n 0, 1) := by decide +kernel
theorem dX5_append_42 : decode cX5_append 42 = .ok (.getfield 122, 3) := by decide +kernel
theorem dX5_append_45 : decode cX5_append 45 = .ok (.iload_n 1, 1) := by decide +kernel
theorem dX5_append_46 : decode cX5_append 46 = .ok (.iastore, 1) := by decide +kernel
theorem dX5_append_47 : decode cX5_append 47 = .ok (.aload_n 0, 1) := by decide +kernel
theorem dX5_append_48 : decode cX5_append 48 = .ok (.dup, 1) := by decide +kernel
theorem dX5_append_49 : decode cX5_append 49 = .ok (.getfield 122, 3) := by decide +kernel
theorem dX5_append_52 : decode cX5_append 52 = .ok (.iconst 1, 1) := by decide +kernel
theorem dX5_append_53 : decode cX5_append 53 = .ok (.iadd, 1) := by decide +kernel
theorem dX5_append_54 : decode cX5_append 54 = .ok (.putfield 122, 3) := by decide +kernel
theorem dX5_append_57 : decode cX5_append 57 = .ok (.aload_n 0, 1) := by decide +kernel
theorem dX5_append_58 : decode cX5_append 58 = .ok (.getfield 122, 3) := by decide +kernel
theorem dX5_append_61 : decode cX5_append 61 = .ok (.ireturn, 1) := by decide +kernel
theorem dX5_clearBuffer_0 : decode cX5_clearBuffer 0 = .ok (.aload_n 0, 1) := by decide +kernel
theorem dX5_clearBuffer_1 : decode cX5_clearBuffer 1 = .ok (.iconst 0, 1) := by decide +kernel
theorem dX5_clearBuffer_2 : decode cX5_clearBuffer 2 = .ok (.putfield 35, 3) := by decide +kernel
theorem dX5_clearBuffer_5 : decode cX5_clearBuffer 5 = .ok (.aload_n 0, 1) := by decide +kernel
theorem dX5_clearBuffer_6 : decode cX5_clearBuffer 6 = .ok (.getfield 122, 3) := by decide +kernel
theorem dX5_clearBuffer_9 : decode cX5_clearBuffer 9 = .ok (.istore_n 1, 1) := by decide +kernel
theorem dX5_clearBuffer_10 : decode cX5_clearBuffer 10 = .ok (.aload_n 0, 1) := by decide +kernel
theorem dX5_clearBuffer_11 : decode cX5_clearBuffer 11 = .ok (.iconst 0, 1) := by decide +kernel
theorem dX5_clearBuffer_12 : decode cX5_clearBuffer 12 = .ok (.putfield 122, 3) := by decide +kernel
theorem dX5_clearBuffer_15 : decode cX5_clearBuffer 15 = .ok (.iload_n 1, 1) := by decide +kernel
theorem dX5_clearBuffer_16 : decode cX5_clearBuffer 16 = .ok (.ireturn, 1) := by decide +kernel
theorem dX5_sign_0 : decode cX5_sign 0 = .ok (.aload_n 0, 1) := by decide +kernel
theorem dX5_sign_1 : decode cX5_sign 1 = .ok (.getfield 125, 3) := by decide +kernel
theorem dX5_sign_4 : decode cX5_sign 4 = .ok (.aload_n 0, 1) := by decide +kernel
theorem dX5_sign_5 : decode cX5_sign 5 = .ok (.getfield 122, 3) := by decide +kernel
theorem dX5_sign_8 : decode cX5_sign 8 = .ok (.if_icmp .ge 15, 3) := by decide +kernel
theorem dX5_sign_11 : decode cX5_sign 11 = .ok (.aload_n 0, 1) := by decide +kernel
theorem dX5_sign_12 : decode cX5_sign 12 = .ok (.getfield 26, 3) := by decide +kernel
theorem dX5_sign_15 : decode cX5_sign 15 = .ok (.aload_n 0, 1) := by decide +kernel
theorem dX5_sign_16 : decode cX5_sign 16 = .ok (.getfield 125, 3) := by decide +kernel
theorem dX5_sign_19 : decode cX5_sign 19 = .ok (.iaload, 1) := by decide +kernel
theorem dX5_sign_20 : decode cX5_sign 20 = .ok (.goto 4, 3) := by decide +kernel
theorem dX5_sign_23 : decode cX5_sign 23 = .ok (.iconst 0, 1) := by decide +kernel
theorem dX5_sign_24 : decode cX5_sign 24 = .ok (.ireturn, 1) := by decide +kernel
theorem dX5_isSign_0 : decode cX5_isSign 0 = .ok (.aload_n 0, 1) := by decide +kernel
theorem dX5_isSign_1 : decode cX5_isSign 1 = .ok (.invokevirtual 128, 3) := by decide +kernel
theorem dX5_isSign_4 : decode cX5_isSign 4 = .ok (.bipush 48, 2) := by decide +kernel
theorem dX5_isSign_6 : decode cX5_isSign 6 = .ok (.bipush 57, 2) := by decide +kernel
theorem dX5_isSign_8 : decode cX5_isSign 8 = .ok (.invokestatic 39, 3) := by decide +kernel
theorem dX5_isSign_11 : decode cX5_isSign 11 = .ok (.ifCond .ne 12, 3) := by decide +kernel
theorem dX5_isSign_14 : decode cX5_isSign 14 = .ok (.aload_n 0, 1) := by decide +kernel
theorem dX5_isSign_15 : decode cX5_isSign 15 = .ok (.invokevirtual 128, 3) := by decide +kernel
theorem dX5_isSign_18 : decode cX5_isSign 18 = .ok (.bipush 46, 2) := by decide +kernel
theorem dX5_isSign_20 : decode cX5_isSign 20 = .ok (.if_icmp .ne 7, 3) := by decide +kernel
theorem dX5_isSign_23 : decode cX5_isSign 23 = .ok (.iconst 1, 1) := by decide +kernel
theorem dX5_isSign_24 : decode cX5_isSign 24 = .ok (.goto 4, 3) := by decide +kernel
theorem dX5_isSign_27 : decode cX5_isSign 27 = .ok (.iconst 0, 1) := by decide +kernel
theorem dX5_isSign_28 : decode cX5_isSign 28 = .ok (.ireturn, 1) := by decide +kernel
theorem dX5_readsRow_0 : decode cX5_readsRow 0 = .ok (.aload_n 0, 1) := by decide +kernel
theorem dX5_readsRow_1 : decode cX5_readsRow 1 = .ok (.aload_n 0, 1) := by decide +kernel
theorem dX5_readsRow_2 : decode cX5_readsRow 2 = .ok (.invokevirtual 131, 3) := by decide +kernel
theorem dX5_readsRow_5 : decode cX5_readsRow 5 = .ok (.putfield 135, 3) := by decide +kernel
theorem dX5_readsRow_8 : decode cX5_readsRow 8 = .ok (.iconst 0, 1) := by decide +kernel
theorem dX5_readsRow_9 : decode cX5_readsRow 9 = .ok (.istore_n 2, 1) := by decide +kernel
theorem dX5_readsRow_10 : decode cX5_readsRow 10 = .ok (.iload_n 2, 1) := by decide +kernel
theorem dX5_readsRow_11 : decode cX5_readsRow 11 = .ok (.iconst 5, 1) := by decide +kernel
theorem dX5_readsRow_12 : decode cX5_readsRow 12 = .ok (.if_icmp .ge 56, 3) := by decide +kernel
theorem dX5_readsRow_15 : decode cX5_readsRow 15 = .ok (.aload_n 0, 1) := by decide +kernel
theorem dX5_readsRow_16 : decode cX5_readsRow 16 = .ok (.invokevirtual 131, 3) := by decide +kernel
theorem dX5_readsRow_19 : decode cX5_readsRow 19 = .ok (.ifCond .eq 49, 3) := by decide +kernel
theorem dX5_readsRow_22 : decode cX5_readsRow 22 = .ok (.aload_n 0, 1) := by decide +kernel
theorem dX5_readsRow_23 : decode cX5_readsRow 23 = .ok (.getfield 32, 3) := by decide +kernel
theorem dX5_readsRow_26 : decode cX5_readsRow 26 = .ok (.iconst 5, 1) := by decide +kernel
theorem dX5_readsRow_27 : decode cX5_readsRow 27 = .ok (.iload_n 1, 1) := by decide +kernel
theorem dX5_readsRow_28 : decode cX5_readsRow 28 = .ok (.imul, 1) := by decide +kernel
theorem dX5_readsRow_29 : decode cX5_readsRow 29 = .ok (.iload_n 2, 1) := by decide +kernel
theorem dX5_readsRow_30 : decode cX5_readsRow 30 = .ok (.iadd, 1) := by decide +kernel
theorem dX5_readsRow_31 : decode cX5_readsRow 31 = .ok (.aload_n 0, 1) := by decide +kernel
theorem dX5_readsRow_32 : decode cX5_readsRow 32 = .ok (.invokevirtual 128, 3) := by decide +kernel
theorem dX5_readsRow_35 : decode cX5_readsRow 35 = .ok (.bipush 46, 2) := by decide +kernel
theorem dX5_readsRow_37 : decode cX5_readsRow 37 = .ok (.if_icmp .ne 7, 3) := by decide +kernel
theorem dX5_readsRow_40 : decode cX5_readsRow 40 = .ok (.iconst 0, 1) := by decide +kernel
theorem dX5_readsRow_41 : decode cX5_readsRow 41 = .ok (.goto 10, 3) := by decide +kernel
theorem dX5_readsRow_44 : decode cX5_readsRow 44 = .ok (.aload_n 0, 1) := by decide +kernel
theorem dX5_readsRow_45 : decode cX5_readsRow 45 = .ok (.invokevirtual 128, 3) := by decide +kernel
theorem dX5_readsRow_48 : decode cX5_readsRow 48 = .ok (.bipush 48, 2) := by decide +kernel
theorem dX5_readsRow_50 : decode cX5_readsRow 50 = .ok (.isub, 1) := by decide +kernel
theorem dX5_readsRow_51 : decode cX5_readsRow 51 = .ok (.iastore, 1) := by decide +kernel
theorem dX5_readsRow_52 : decode cX5_readsRow 52 = .ok (.aload_n 0, 1) := by decide +kernel
theorem dX5_readsRow_53 : decode cX5_readsRow 53 = .ok (.dup, 1) := by decide +kernel
theorem dX5_readsRow_54 : decode cX5_readsRow 54 = .ok (.getfield 125, 3) := by decide +kernel
theorem dX5_readsRow_57 : decode cX5_readsRow 57 = .ok (.iconst 1, 1) := by decide +kernel
theorem dX5_readsRow_58 : decode cX5_readsRow 58 = .ok (.iadd, 1) := by decide +kernel
theorem dX5_readsRow_59 : decode cX5_readsRow 59 = .ok (.putfield 125, 3) := by decide +kernel
theorem dX5_readsRow_62 : decode cX5_readsRow 62 = .ok (.iinc 2 1, 3) := by decide +kernel
theorem dX5_readsRow_65 : decode cX5_readsRow 65 = .ok (.goto (-55), 3) := by decide +kernel
theorem dX5_readsRow_68 : decode cX5_readsRow 68 = .ok (.return_, 1) := by decide +kernel
theorem dX5_readsAll_0 : decode cX5_readsAll 0 = .ok (.iconst 0, 1) := by decide +kernel
theorem dX5_readsAll_1 : decode cX5_readsAll 1 = .ok (.istore_n 1, 1) := by decide +kernel
theorem dX5_readsAll_2 : decode cX5_readsAll 2 = .ok (.iload_n 1, 1) := by decide +kernel
theorem dX5_readsAll_3 : decode cX5_readsAll 3 = .ok (.bipush 25, 2) := by decide +kernel
theorem dX5_readsAll_5 : decode cX5_readsAll 5 = .ok (.if_icmp .ge 16, 3) := by decide +kernel
theorem dX5_readsAll_8 : decode cX5_readsAll 8 = .ok (.aload_n 0, 1) := by decide +kernel
theorem dX5_readsAll_9 : decode cX5_readsAll 9 = .ok (.getfield 32, 3) := by decide +kernel
theorem dX5_readsAll_12 : decode cX5_readsAll 12 = .ok (.iload_n 1, 1) := by decide +kernel
theorem dX5_readsAll_13 : decode cX5_readsAll 13 = .ok (.iconst 0, 1) := by decide +kernel
theorem dX5_readsAll_14 : decode cX5_readsAll 14 = .ok (.iastore, 1) := by decide +kernel
theorem dX5_readsAll_15 : decode cX5_readsAll 15 = .ok (.iinc 1 1, 3) := by decide +kernel
theorem dX5_readsAll_18 : decode cX5_readsAll 18 = .ok (.goto (-16), 3) := by decide +kernel
theorem dX5_readsAll_21 : decode cX5_readsAll 21 = .ok (.aload_n 0, 1) := by decide +kernel
theorem dX5_readsAll_22 : decode cX5_readsAll 22 = .ok (.iconst 0, 1) := by decide +kernel
theorem dX5_readsAll_23 : decode cX5_readsAll 23 = .ok (.putfield 125, 3) := by decide +kernel
theorem dX5_readsAll_26 : decode cX5_readsAll 26 = .ok (.iconst 0, 1) := by decide +kernel
theorem dX5_readsAll_27 : decode cX5_readsAll 27 = .ok (.istore_n 1, 1) := by decide +kernel
theorem dX5_readsAll_28 : decode cX5_readsAll 28 = .ok (.aload_n 0, 1) := by decide +kernel
theorem dX5_readsAll_29 : decode cX5_readsAll 29 = .ok (.iload_n 1, 1) := by decide +kernel
theorem dX5_readsAll_30 : decode cX5_readsAll 30 = .ok (.invokevirtual 139, 3) := by decide +kernel
theorem dX5_readsAll_33 : decode cX5_readsAll 33 = .ok (.aload_n 0, 1) := by decide +kernel
theorem dX5_readsAll_34 : decode cX5_readsAll 34 = .ok (.getfield 135, 3) := by decide +kernel
theorem dX5_readsAll_37 : decode cX5_readsAll 37 = .ok (.ifCond .eq 76, 3) := by decide +kernel
theorem dX5_readsAll_40 : decode cX5_readsAll 40 = .ok (.aload_n 0, 1) := by decide +kernel
theorem dX5_readsAll_41 : decode cX5_readsAll 41 = .ok (.getfield 125, 3) := by decide +kernel
theorem dX5_readsAll_44 : decode cX5_readsAll 44 = .ok (.aload_n 0, 1) := by decide +kernel
theorem dX5_readsAll_45 : decode cX5_readsAll 45 = .ok (.getfield 122, 3) := by decide +kernel
theorem dX5_readsAll_48 : decode cX5_readsAll 48 = .ok (.if_icmp .ge 65, 3) := by decide +kernel
theorem dX5_readsAll_51 : decode cX5_readsAll 51 = .ok (.iinc 1 1, 3) := by decide +kernel
theorem dX5_readsAll_54 : decode cX5_readsAll 54 = .ok (.aload_n 0, 1) := by decide +kernel
theorem dX5_readsAll_55 : decode cX5_readsAll 55 = .ok (.aload_n 0, 1) := by decide +kernel
theorem dX5_readsAll_56 : decode cX5_readsAll 56 = .ok (.invokevirtual 128, 3) := by decide +kernel
theorem dX5_readsAll_59 : decode cX5_readsAll 59 = .ok (.bipush 47, 2) := by decide +kernel
theorem dX5_readsAll_61 : decode cX5_readsAll 61 = .ok (.if_icmp .ne 12, 3) := by decide +kernel
theorem dX5_readsAll_64 : decode cX5_readsAll 64 = .ok (.iload_n 1, 1) := by decide +kernel
theorem dX5_readsAll_65 : decode cX5_readsAll 65 = .ok (.iconst 5, 1) := by decide +kernel
theorem dX5_readsAll_66 : decode cX5_readsAll 66 = .ok (.if_icmp .ge 7, 3) := by decide +kernel
theorem dX5_readsAll_69 : decode cX5_readsAll 69 = .ok (.iconst 1, 1) := by decide +kernel
theorem dX5_readsAll_70 : decode cX5_readsAll 70 = .ok (.goto 4, 3) := by decide +kernel
theorem dX5_readsAll_73 : decode cX5_readsAll 73 = .ok (.iconst 0, 1) := by decide +kernel
theorem dX5_readsAll_74 : decode cX5_readsAll 74 = .ok (.putfield 135, 3) := by decide +kernel
theorem dX5_readsAll_77 : decode cX5_readsAll 77 = .ok (.aload_n 0, 1) := by decide +kernel
theorem dX5_readsAll_78 : decode cX5_readsAll 78 = .ok (.dup, 1) := by decide +kernel
theorem dX5_readsAll_79 : decode cX5_readsAll 79 = .ok (.getfield 125, 3) := by decide +kernel
theorem dX5_readsAll_82 : decode cX5_readsAll 82 = .ok (.aload_n 0, 1) := by decide +kernel
theorem dX5_readsAll_83 : decode cX5_readsAll 83 = .ok (.getfield 135, 3) := by decide +kernel
theorem dX5_readsAll_86 : decode cX5_readsAll 86 = .ok (.ifCond .eq 7, 3) := by decide +kernel
theorem dX5_readsAll_89 : decode cX5_readsAll 89 = .ok (.iconst 1, 1) := by decide +kernel
theorem dX5_readsAll_90 : decode cX5_readsAll 90 = .ok (.goto 4, 3) := by decide +kernel
theorem dX5_readsAll_93 : decode cX5_readsAll 93 = .ok (.iconst 0, 1) := by decide +kernel
theorem dX5_readsAll_94 : decode cX5_readsAll 94 = .ok (.iadd, 1) := by decide +kernel
theorem dX5_readsAll_95 : decode cX5_readsAll 95 = .ok (.putfield 125, 3) := by decide +kernel
theorem dX5_readsAll_98 : decode cX5_readsAll 98 = .ok (.aload_n 0, 1) := by decide +kernel
theorem dX5_readsAll_99 : decode cX5_readsAll 99 = .ok (.getfield 135, 3) := by decide +kernel
theorem dX5_readsAll_102 : decode cX5_readsAll 102 = .ok (.ifCond .eq (-69), 3) := by decide +kernel
theorem dX5_readsAll_105 : decode cX5_readsAll 105 = .ok (.aload_n 0, 1) := by decide +kernel
theorem dX5_readsAll_106 : decode cX5_readsAll 106 = .ok (.iload_n 1, 1) := by decide +kernel
theorem dX5_readsAll_107 : decode cX5_readsAll 107 = .ok (.invokevirtual 139, 3) := by decide +kernel
theorem dX5_readsAll_110 : decode cX5_readsAll 110 = .ok (.goto (-77), 3) := by decide +kernel
theorem dX5_readsAll_113 : decode cX5_readsAll 113 = .ok (.return_, 1) := by decide +kernel
theorem dX5_firstError_0 : decode cX5_firstError 0 = .ok (.aload_n 0, 1) := by decide +kernel
theorem dX5_firstError_1 : decode cX5_firstError 1 = .ok (.iconst 0, 1) := by decide +kernel
theorem dX5_firstError_2 : decode cX5_firstError 2 = .ok (.putfield 35, 3) := by decide +kernel
theorem dX5_firstError_5 : decode cX5_firstError 5 = .ok (.aload_n 0, 1) := by decide +kernel
theorem dX5_firstError_6 : decode cX5_firstError 6 = .ok (.invokevirtual 143, 3) := by decide +kernel
theorem dX5_firstError_9 : decode cX5_firstError 9 = .ok (.aload_n 0, 1) := by decide +kernel
theorem dX5_firstError_10 : decode cX5_firstError 10 = .ok (.getfield 125, 3) := by decide +kernel
theorem dX5_firstError_13 : decode cX5_firstError 13 = .ok (.ireturn, 1) := by decide +kernel
theorem dX5_load_0 : decode cX5_load 0 = .ok (.aload_n 0, 1) := by decide +kernel
theorem dX5_load_1 : decode cX5_load 1 = .ok (.iconst 0, 1) := by decide +kernel
theorem dX5_load_2 : decode cX5_load 2 = .ok (.putfield 35, 3) := by decide +kernel
theorem dX5_load_5 : decode cX5_load 5 = .ok (.iload_n 1, 1) := by decide +kernel
theorem dX5_load_6 : decode cX5_load 6 = .ok (.invokestatic 94, 3) := by decide +kernel
theorem dX5_load_9 : decode cX5_load 9 = .ok (.ifCond .ne 9, 3) := by decide +kernel
theorem dX5_load_12 : decode cX5_load 12 = .ok (.aload_n 0, 1) := by decide +kernel
theorem dX5_load_13 : decode cX5_load 13 = .ok (.iconst 1, 1) := by decide +kernel
theorem dX5_load_14 : decode cX5_load 14 = .ok (.invokevirtual 101, 3) := by decide +kernel
theorem dX5_load_17 : decode cX5_load 17 = .ok (.ireturn, 1) := by decide +kernel
theorem dX5_load_18 : decode cX5_load 18 = .ok (.aload_n 0, 1) := by decide +kernel
theorem dX5_load_19 : decode cX5_load 19 = .ok (.invokevirtual 143, 3) := by decide +kernel
theorem dX5_load_22 : decode cX5_load 22 = .ok (.aload_n 0, 1) := by decide +kernel
theorem dX5_load_23 : decode cX5_load 23 = .ok (.getfield 135, 3) := by decide +kernel
theorem dX5_load_26 : decode cX5_load 26 = .ok (.ifCond .ne 9, 3) := by decide +kernel
theorem dX5_load_29 : decode cX5_load 29 = .ok (.aload_n 0, 1) := by decide +kernel
theorem dX5_load_30 : decode cX5_load 30 = .ok (.iconst 2, 1) := by decide +kernel
theorem dX5_load_31 : decode cX5_load 31 = .ok (.invokevirtual 101, 3) := by decide +kernel
theorem dX5_load_34 : decode cX5_load 34 = .ok (.ireturn, 1) := by decide +kernel
theorem dX5_load_35 : decode cX5_load 35 = .ok (.aload_n 0, 1) := by decide +kernel
theorem dX5_load_36 : decode cX5_load 36 = .ok (.invokevirtual 104, 3) := by decide +kernel
theorem dX5_load_39 : decode cX5_load 39 = .ok (.aload_n 0, 1) := by decide +kernel
theorem dX5_load_40 : decode cX5_load 40 = .ok (.iconst 0, 1) := by decide +kernel
theorem dX5_load_41 : decode cX5_load 41 = .ok (.putfield 122, 3) := by decide +kernel
theorem dX5_load_44 : decode cX5_load 44 = .ok (.iconst 0, 1) := by decide +kernel
theorem dX5_load_45 : decode cX5_load 45 = .ok (.istore_n 2, 1) := by decide +kernel
theorem dX5_load_46 : decode cX5_load 46 = .ok (.iload_n 2, 1) := by decide +kernel
theorem dX5_load_47 : decode cX5_load 47 = .ok (.bipush 25, 2) := by decide +kernel
theorem dX5_load_49 : decode cX5_load 49 = .ok (.if_icmp .ge 29, 3) := by decide +kernel
theorem dX5_load_52 : decode cX5_load 52 = .ok (.aload_n 0, 1) := by decide +kernel
theorem dX5_load_53 : decode cX5_load 53 = .ok (.getfield 7, 3) := by decide +kernel
theorem dX5_load_56 : decode cX5_load 56 = .ok (.bipush 16, 2) := by decide +kernel
theorem dX5_load_58 : decode cX5_load 58 = .ok (.bipush 25, 2) := by decide +kernel
theorem dX5_load_60 : decode cX5_load 60 = .ok (.iload_n 1, 1) := by decide +kernel
theorem dX5_load_61 : decode cX5_load 61 = .ok (.imul, 1) := by decide +kernel
theorem dX5_load_62 : decode cX5_load 62 = .ok (.iadd, 1) := by decide +kernel
theorem dX5_load_63 : decode cX5_load 63 = .ok (.iload_n 2, 1) := by decide +kernel
theorem dX5_load_64 : decode cX5_load 64 = .ok (.iadd, 1) := by decide +kernel
theorem dX5_load_65 : decode cX5_load 65 = .ok (.aload_n 0, 1) := by decide +kernel
theorem dX5_load_66 : decode cX5_load 66 = .ok (.getfield 32, 3) := by decide +kernel
theorem dX5_load_69 : decode cX5_load 69 = .ok (.iload_n 2, 1) := by decide +kernel
theorem dX5_load_70 : decode cX5_load 70 = .ok (.iaload, 1) := by decide +kernel
theorem dX5_load_71 : decode cX5_load 71 = .ok (.iastore, 1) := by decide +kernel
theorem dX5_load_72 : decode cX5_load 72 = .ok (.iinc 2 1, 3) := by decide +kernel
theorem dX5_load_75 : decode cX5_load 75 = .ok (.goto (-29), 3) := by decide +kernel
theorem dX5_load_78 : decode cX5_load 78 = .ok (.aload_n 0, 1) := by decide +kernel
theorem dX5_load_79 : decode cX5_load 79 = .ok (.iload_n 1, 1) := by decide +kernel
theorem dX5_load_80 : decode cX5_load 80 = .ok (.invokevirtual 107, 3) := by decide +kernel
theorem dX5_load_83 : decode cX5_load 83 = .ok (.ireturn, 1) := by decide +kernel
theorem dX5_keep_0 : decode cX5_keep 0 = .ok (.aload_n 0, 1) := by decide +kernel
theorem dX5_keep_1 : decode cX5_keep 1 = .ok (.iconst 0, 1) := by decide +kernel
theorem dX5_keep_2 : decode cX5_keep 2 = .ok (.putfield 35, 3) := by decide +kernel
theorem dX5_keep_5 : decode cX5_keep 5 = .ok (.iload_n 1, 1) := by decide +kernel
theorem dX5_keep_6 : decode cX5_keep 6 = .ok (.iconst 0, 1) := by decide +kernel
theorem dX5_keep_7 : decode cX5_keep 7 = .ok (.iconst 1, 1) := by decide +kernel
theorem dX5_keep_8 : decode cX5_keep 8 = .ok (.invokestatic 39, 3) := by decide +kernel
theorem dX5_keep_11 : decode cX5_keep 11 = .ok (.ifCond .ne 9, 3) := by decide +kernel
theorem dX5_keep_14 : decode cX5_keep 14 = .ok (.aload_n 0, 1) := by decide +kernel
theorem dX5_keep_15 : decode cX5_keep 15 = .ok (.iconst 1, 1) := by decide +kernel
theorem dX5_keep_16 : decode cX5_keep 16 = .ok (.invokevirtual 101, 3) := by decide +kernel
theorem dX5_keep_19 : decode cX5_keep 19 = .ok (.ireturn, 1) := by decide +kernel
theorem dX5_keep_20 : decode cX5_keep 20 = .ok (.iconst 0, 1) := by decide +kernel
theorem dX5_keep_21 : decode cX5_keep 21 = .ok (.istore_n 2, 1) := by decide +kernel
theorem dX5_keep_22 : decode cX5_keep 22 = .ok (.iload_n 2, 1) := by decide +kernel
theorem dX5_keep_23 : decode cX5_keep 23 = .ok (.sipush 667, 3) := by decide +kernel
theorem dX5_keep_26 : decode cX5_keep 26 = .ok (.if_icmp .ge 27, 3) := by decide +kernel
theorem dX5_keep_29 : decode cX5_keep 29 = .ok (.aload_n 0, 1) := by decide +kernel
theorem dX5_keep_30 : decode cX5_keep 30 = .ok (.getfield 19, 3) := by decide +kernel
theorem dX5_keep_33 : decode cX5_keep 33 = .ok (.sipush 667, 3) := by decide +kernel
theorem dX5_keep_36 : decode cX5_keep 36 = .ok (.iload_n 1, 1) := by decide +kernel
theorem dX5_keep_37 : decode cX5_keep 37 = .ok (.imul, 1) := by decide +kernel
theorem dX5_keep_38 : decode cX5_keep 38 = .ok (.iload_n 2, 1) := by decide +kernel
theorem dX5_keep_39 : decode cX5_keep 39 = .ok (.iadd, 1) := by decide +kernel
theorem dX5_keep_40 : decode cX5_keep 40 = .ok (.aload_n 0, 1) := by decide +kernel
theorem dX5_keep_41 : decode cX5_keep 41 = .ok (.getfield 7, 3) := by decide +kernel
theorem dX5_keep_44 : decode cX5_keep 44 = .ok (.iload_n 2, 1) := by decide +kernel
theorem dX5_keep_45 : decode cX5_keep 45 = .ok (.iaload, 1) := by decide +kernel
theorem dX5_keep_46 : decode cX5_keep 46 = .ok (.iastore, 1) := by decide +kernel
theorem dX5_keep_47 : decode cX5_keep 47 = .ok (.iinc 2 1, 3) := by decide +kernel
theorem dX5_keep_50 : decode cX5_keep 50 = .ok (.goto (-28), 3) := by decide +kernel
theorem dX5_keep_53 : decode cX5_keep 53 = .ok (.aload_n 0, 1) := by decide +kernel
theorem dX5_keep_54 : decode cX5_keep 54 = .ok (.getfield 22, 3) := by decide +kernel
theorem dX5_keep_57 : decode cX5_keep 57 = .ok (.iload_n 1, 1) := by decide +kernel
theorem dX5_keep_58 : decode cX5_keep 58 = .ok (.iconst 1, 1) := by decide +kernel
theorem dX5_keep_59 : decode cX5_keep 59 = .ok (.bastore, 1) := by decide +kernel
theorem dX5_keep_60 : decode cX5_keep 60 = .ok (.aload_n 0, 1) := by decide +kernel
theorem dX5_keep_61 : decode cX5_keep 61 = .ok (.getfield 7, 3) := by decide +kernel
theorem dX5_keep_64 : decode cX5_keep 64 = .ok (.bipush 6, 2) := by decide +kernel
theorem dX5_keep_66 : decode cX5_keep 66 = .ok (.iaload, 1) := by decide +kernel
theorem dX5_keep_67 : decode cX5_keep 67 = .ok (.ireturn, 1) := by decide +kernel
theorem dX5_goBack_0 : decode cX5_goBack 0 = .ok (.aload_n 0, 1) := by decide +kernel
theorem dX5_goBack_1 : decode cX5_goBack 1 = .ok (.iconst 0, 1) := by decide +kernel
theorem dX5_goBack_2 : decode cX5_goBack 2 = .ok (.putfield 35, 3) := by decide +kernel
theorem dX5_goBack_5 : decode cX5_goBack 5 = .ok (.iload_n 1, 1) := by decide +kernel
theorem dX5_goBack_6 : decode cX5_goBack 6 = .ok (.iconst 0, 1) := by decide +kernel
theorem dX5_goBack_7 : decode cX5_goBack 7 = .ok (.iconst 1, 1) := by decide +kernel
theorem dX5_goBack_8 : decode cX5_goBack 8 = .ok (.invokestatic 39, 3) := by decide +kernel
theorem dX5_goBack_11 : decode cX5_goBack 11 = .ok (.ifCond .ne 9, 3) := by decide +kernel
theorem dX5_goBack_14 : decode cX5_goBack 14 = .ok (.aload_n 0, 1) := by decide +kernel
theorem dX5_goBack_15 : decode cX5_goBack 15 = .ok (.iconst 1, 1) := by decide +kernel
theorem dX5_goBack_16 : decode cX5_goBack 16 = .ok (.invokevirtual 101, 3) := by decide +kernel
theorem dX5_goBack_19 : decode cX5_goBack 19 = .ok (.ireturn, 1) := by decide +kernel
theorem dX5_goBack_20 : decode cX5_goBack 20 = .ok (.aload_n 0, 1) := by decide +kernel
theorem dX5_goBack_21 : decode cX5_goBack 21 = .ok (.getfield 22, 3) := by decide +kernel
theorem dX5_goBack_24 : decode cX5_goBack 24 = .ok (.iload_n 1, 1) := by decide +kernel
theorem dX5_goBack_25 : decode cX5_goBack 25 = .ok (.baload, 1) := by decide +kernel
theorem dX5_goBack_26 : decode cX5_goBack 26 = .ok (.ifCond .ne 9, 3) := by decide +kernel
theorem dX5_goBack_29 : decode cX5_goBack 29 = .ok (.aload_n 0, 1) := by decide +kernel
theorem dX5_goBack_30 : decode cX5_goBack 30 = .ok (.iconst 2, 1) := by decide +kernel
theorem dX5_goBack_31 : decode cX5_goBack 31 = .ok (.invokevirtual 101, 3) := by decide +kernel
theorem dX5_goBack_34 : decode cX5_goBack 34 = .ok (.ireturn, 1) := by decide +kernel
theorem dX5_goBack_35 : decode cX5_goBack 35 = .ok (.aload_n 0, 1) := by decide +kernel
theorem dX5_goBack_36 : decode cX5_goBack 36 = .ok (.invokevirtual 104, 3) := by decide +kernel
theorem dX5_goBack_39 : decode cX5_goBack 39 = .ok (.iconst 0, 1) := by decide +kernel
theorem dX5_goBack_40 : decode cX5_goBack 40 = .ok (.istore_n 2, 1) := by decide +kernel
theorem dX5_goBack_41 : decode cX5_goBack 41 = .ok (.iload_n 2, 1) := by decide +kernel
theorem dX5_goBack_42 : decode cX5_goBack 42 = .ok (.sipush 667, 3) := by decide +kernel
theorem dX5_goBack_45 : decode cX5_goBack 45 = .ok (.if_icmp .ge 27, 3) := by decide +kernel
theorem dX5_goBack_48 : decode cX5_goBack 48 = .ok (.aload_n 0, 1) := by decide +kernel
theorem dX5_goBack_49 : decode cX5_goBack 49 = .ok (.getfield 7, 3) := by decide +kernel
theorem dX5_goBack_52 : decode cX5_goBack 52 = .ok (.iload_n 2, 1) := by decide +kernel
theorem dX5_goBack_53 : decode cX5_goBack 53 = .ok (.aload_n 0, 1) := by decide +kernel
theorem dX5_goBack_54 : decode cX5_goBack 54 = .ok (.getfield 19, 3) := by decide +kernel
theorem dX5_goBack_57 : decode cX5_goBack 57 = .ok (.sipush 667, 3) := by decide +kernel
theorem dX5_goBack_60 : decode cX5_goBack 60 = .ok (.iload_n 1, 1) := by decide +kernel
theorem dX5_goBack_61 : decode cX5_goBack 61 = .ok (.imul, 1) := by decide +kernel
theorem dX5_goBack_62 : decode cX5_goBack 62 = .ok (.iload_n 2, 1) := by decide +kernel
theorem dX5_goBack_63 : decode cX5_goBack 63 = .ok (.iadd, 1) := by decide +kernel
theorem dX5_goBack_64 : decode cX5_goBack 64 = .ok (.iaload, 1) := by decide +kernel
theorem dX5_goBack_65 : decode cX5_goBack 65 = .ok (.iastore, 1) := by decide +kernel
theorem dX5_goBack_66 : decode cX5_goBack 66 = .ok (.iinc 2 1, 3) := by decide +kernel
theorem dX5_goBack_69 : decode cX5_goBack 69 = .ok (.goto (-28), 3) := by decide +kernel
theorem dX5_goBack_72 : decode cX5_goBack 72 = .ok (.aload_n 0, 1) := by decide +kernel
theorem dX5_goBack_73 : decode cX5_goBack 73 = .ok (.getfield 7, 3) := by decide +kernel
theorem dX5_goBack_76 : decode cX5_goBack 76 = .ok (.bipush 6, 2) := by decide +kernel
theorem dX5_goBack_78 : decode cX5_goBack 78 = .ok (.iaload, 1) := by decide +kernel
theorem dX5_goBack_79 : decode cX5_goBack 79 = .ok (.ireturn, 1) := by decide +kernel
theorem dX5_undo_0 : decode cX5_undo 0 = .ok (.aload_n 0, 1) := by decide +kernel
theorem dX5_undo_1 : decode cX5_undo 1 = .ok (.iconst 0, 1) := by decide +kernel
theorem dX5_undo_2 : decode cX5_undo 2 = .ok (.putfield 35, 3) := by decide +kernel
theorem dX5_undo_5 : decode cX5_undo 5 = .ok (.aload_n 0, 1) := by decide +kernel
theorem dX5_undo_6 : decode cX5_undo 6 = .ok (.getfield 43, 3) := by decide +kernel
theorem dX5_undo_9 : decode cX5_undo 9 = .ok (.ifCond .ne 9, 3) := by decide +kernel
theorem dX5_undo_12 : decode cX5_undo 12 = .ok (.aload_n 0, 1) := by decide +kernel
theorem dX5_undo_13 : decode cX5_undo 13 = .ok (.iconst 1, 1) := by decide +kernel
theorem dX5_undo_14 : decode cX5_undo 14 = .ok (.invokevirtual 101, 3) := by decide +kernel
theorem dX5_undo_17 : decode cX5_undo 17 = .ok (.ireturn, 1) := by decide +kernel
theorem dX5_undo_18 : decode cX5_undo 18 = .ok (.aload_n 0, 1) := by decide +kernel
theorem dX5_undo_19 : decode cX5_undo 19 = .ok (.dup, 1) := by decide +kernel
theorem dX5_undo_20 : decode cX5_undo 20 = .ok (.getfield 43, 3) := by decide +kernel
theorem dX5_undo_23 : decode cX5_undo 23 = .ok (.iconst 1, 1) := by decide +kernel
theorem dX5_undo_24 : decode cX5_undo 24 = .ok (.isub, 1) := by decide +kernel
theorem dX5_undo_25 : decode cX5_undo 25 = .ok (.putfield 43, 3) := by decide +kernel
theorem dX5_undo_28 : decode cX5_undo 28 = .ok (.iconst 0, 1) := by decide +kernel
theorem dX5_undo_29 : decode cX5_undo 29 = .ok (.istore_n 1, 1) := by decide +kernel
theorem dX5_undo_30 : decode cX5_undo 30 = .ok (.iload_n 1, 1) := by decide +kernel
theorem dX5_undo_31 : decode cX5_undo 31 = .ok (.sipush 667, 3) := by decide +kernel
theorem dX5_undo_34 : decode cX5_undo 34 = .ok (.if_icmp .ge 30, 3) := by decide +kernel
theorem dX5_undo_37 : decode cX5_undo 37 = .ok (.aload_n 0, 1) := by decide +kernel
theorem dX5_undo_38 : decode cX5_undo 38 = .ok (.getfield 7, 3) := by decide +kernel
theorem dX5_undo_41 : decode cX5_undo 41 = .ok (.iload_n 1, 1) := by decide +kernel
theorem dX5_undo_42 : decode cX5_undo 42 = .ok (.aload_n 0, 1) := by decide +kernel
theorem dX5_undo_43 : decode cX5_undo 43 = .ok (.getfield 16, 3) := by decide +kernel
theorem dX5_undo_46 : decode cX5_undo 46 = .ok (.sipush 667, 3) := by decide +kernel
theorem dX5_undo_49 : decode cX5_undo 49 = .ok (.aload_n 0, 1) := by decide +kernel
theorem dX5_undo_50 : decode cX5_undo 50 = .ok (.getfield 43, 3) := by decide +kernel
theorem dX5_undo_53 : decode cX5_undo 53 = .ok (.imul, 1) := by decide +kernel
theorem dX5_undo_54 : decode cX5_undo 54 = .ok (.iload_n 1, 1) := by decide +kernel
theorem dX5_undo_55 : decode cX5_undo 55 = .ok (.iadd, 1) := by decide +kernel
theorem dX5_undo_56 : decode cX5_undo 56 = .ok (.iaload, 1) := by decide +kernel
theorem dX5_undo_57 : decode cX5_undo 57 = .ok (.iastore, 1) := by decide +kernel
theorem dX5_undo_58 : decode cX5_undo 58 = .ok (.iinc 1 1, 3) := by decide +kernel
theorem dX5_undo_61 : decode cX5_undo 61 = .ok (.goto (-31), 3) := by decide +kernel
theorem dX5_undo_64 : decode cX5_undo 64 = .ok (.aload_n 0, 1) := by decide +kernel
theorem dX5_undo_65 : decode cX5_undo 65 = .ok (.getfield 43, 3) := by decide +kernel
theorem dX5_undo_68 : decode cX5_undo 68 = .ok (.ireturn, 1) := by decide +kernel
theorem dX5_dieOf_0 : decode cX5_dieOf 0 = .ok (.aload_n 0, 1) := by decide +kernel
theorem dX5_dieOf_1 : decode cX5_dieOf 1 = .ok (.iconst 0, 1) := by decide +kernel
theorem dX5_dieOf_2 : decode cX5_dieOf 2 = .ok (.putfield 35, 3) := by decide +kernel
theorem dX5_dieOf_5 : decode cX5_dieOf 5 = .ok (.iload_n 1, 1) := by decide +kernel
theorem dX5_dieOf_6 : decode cX5_dieOf 6 = .ok (.invokestatic 94, 3) := by decide +kernel
theorem dX5_dieOf_9 : decode cX5_dieOf 9 = .ok (.ifCond .eq 11, 3) := by decide +kernel
theorem dX5_dieOf_12 : decode cX5_dieOf 12 = .ok (.iload_n 2, 1) := by decide +kernel
theorem dX5_dieOf_13 : decode cX5_dieOf 13 = .ok (.iload_n 3, 1) := by decide +kernel
theorem dX5_dieOf_14 : decode cX5_dieOf 14 = .ok (.invokestatic 98, 3) := by decide +kernel
theorem dX5_dieOf_17 : decode cX5_dieOf 17 = .ok (.ifCond .ne 9, 3) := by decide +kernel
theorem dX5_dieOf_20 : decode cX5_dieOf 20 = .ok (.aload_n 0, 1) := by decide +kernel
theorem dX5_dieOf_21 : decode cX5_dieOf 21 = .ok (.iconst 1, 1) := by decide +kernel
theorem dX5_dieOf_22 : decode cX5_dieOf 22 = .ok (.invokevirtual 101, 3) := by decide +kernel
theorem dX5_dieOf_25 : decode cX5_dieOf 25 = .ok (.ireturn, 1) := by decide +kernel
theorem dX5_dieOf_26 : decode cX5_dieOf 26 = .ok (.iload 4, 2) := by decide +kernel
theorem dX5_dieOf_28 : decode cX5_dieOf 28 = .ok (.iconst 0, 1) := by decide +kernel
theorem dX5_dieOf_29 : decode cX5_dieOf 29 = .ok (.bipush 7, 2) := by decide +kernel
theorem dX5_dieOf_31 : decode cX5_dieOf 31 = .ok (.invokestatic 39, 3) := by decide +kernel
theorem dX5_dieOf_34 : decode cX5_dieOf 34 = .ok (.ifCond .eq 15, 3) := by decide +kernel
theorem dX5_dieOf_37 : decode cX5_dieOf 37 = .ok (.aload_n 0, 1) := by decide +kernel
theorem dX5_dieOf_38 : decode cX5_dieOf 38 = .ok (.iload_n 1, 1) := by decide +kernel
theorem dX5_dieOf_39 : decode cX5_dieOf 39 = .ok (.iload_n 2, 1) := by decide +kernel
theorem dX5_dieOf_40 : decode cX5_dieOf 40 = .ok (.iload_n 3, 1) := by decide +kernel
theorem dX5_dieOf_41 : decode cX5_dieOf 41 = .ok (.iload 4, 2) := by decide +kernel
theorem dX5_dieOf_43 : decode cX5_dieOf 43 = .ok (.invokevirtual 80, 3) := by decide +kernel
theorem dX5_dieOf_46 : decode cX5_dieOf 46 = .ok (.goto 8, 3) := by decide +kernel
theorem dX5_dieOf_49 : decode cX5_dieOf 49 = .ok (.aload_n 0, 1) := by decide +kernel
theorem dX5_dieOf_50 : decode cX5_dieOf 50 = .ok (.iconst 2, 1) := by decide +kernel
theorem dX5_dieOf_51 : decode cX5_dieOf 51 = .ok (.invokevirtual 101, 3) := by decide +kernel
theorem dX5_dieOf_54 : decode cX5_dieOf 54 = .ok (.ireturn, 1) := by decide +kernel
theorem dX5_tellsPlace_0 : decode cX5_tellsPlace 0 = .ok (.bipush 12, 2) := by decide +kernel
theorem dX5_tellsPlace_2 : decode cX5_tellsPlace 2 = .ok (.iload_n 2, 1) := by decide +kernel
theorem dX5_tellsPlace_3 : decode cX5_tellsPlace 3 = .ok (.imul, 1) := by decide +kernel
theorem dX5_tellsPlace_4 : decode cX5_tellsPlace 4 = .ok (.iload_n 1, 1) := by decide +kernel
theorem dX5_tellsPlace_5 : decode cX5_tellsPlace 5 = .ok (.iadd, 1) := by decide +kernel
theorem dX5_tellsPlace_6 : decode cX5_tellsPlace 6 = .ok (.istore 4, 2) := by decide +kernel
theorem dX5_tellsPlace_8 : decode cX5_tellsPlace 8 = .ok (.iload_n 3, 1) := by decide +kernel
theorem dX5_tellsPlace_9 : decode cX5_tellsPlace 9 = .ok (.tableswitch 103 0 5 #[39, 50, 62, 74, 81, 88], 39) := by decide +kernel
theorem dX5_tellsPlace_48 : decode cX5_tellsPlace 48 = .ok (.aload_n 0, 1) := by decide +kernel
theorem dX5_tellsPlace_49 : decode cX5_tellsPlace 49 = .ok (.getfield 7, 3) := by decide +kernel
theorem dX5_tellsPlace_52 : decode cX5_tellsPlace 52 = .ok (.bipush 91, 2) := by decide +kernel
theorem dX5_tellsPlace_54 : decode cX5_tellsPlace 54 = .ok (.iload 4, 2) := by decide +kernel
theorem dX5_tellsPlace_56 : decode cX5_tellsPlace 56 = .ok (.iadd, 1) := by decide +kernel
theorem dX5_tellsPlace_57 : decode cX5_tellsPlace 57 = .ok (.iaload, 1) := by decide +kernel
theorem dX5_tellsPlace_58 : decode cX5_tellsPlace 58 = .ok (.ireturn, 1) := by decide +kernel
theorem dX5_tellsPlace_59 : decode cX5_tellsPlace 59 = .ok (.aload_n 0, 1) := by decide +kernel
theorem dX5_tellsPlace_60 : decode cX5_tellsPlace 60 = .ok (.getfield 7, 3) := by decide +kernel
theorem dX5_tellsPlace_63 : decode cX5_tellsPlace 63 = .ok (.sipush 235, 3) := by decide +kernel
theorem dX5_tellsPlace_66 : decode cX5_tellsPlace 66 = .ok (.iload 4, 2) := by decide +kernel
theorem dX5_tellsPlace_68 : decode cX5_tellsPlace 68 = .ok (.iadd, 1) := by decide +kernel
theorem dX5_tellsPlace_69 : decode cX5_tellsPlace 69 = .ok (.iaload, 1) := by decide +kernel
theorem dX5_tellsPlace_70 : decode cX5_tellsPlace 70 = .ok (.ireturn, 1) := by decide +kernel
theorem dX5_tellsPlace_71 : decode cX5_tellsPlace 71 = .ok (.aload_n 0, 1) := by decide +kernel
theorem dX5_tellsPlace_72 : decode cX5_tellsPlace 72 = .ok (.getfield 7, 3) := by decide +kernel
theorem dX5_tellsPlace_75 : decode cX5_tellsPlace 75 = .ok (.sipush 379, 3) := by decide +kernel
theorem dX5_tellsPlace_78 : decode cX5_tellsPlace 78 = .ok (.iload 4, 2) := by decide +kernel
theorem dX5_tellsPlace_80 : decode cX5_tellsPlace 80 = .ok (.iadd, 1) := by decide +kernel
theorem dX5_tellsPlace_81 : decode cX5_tellsPlace 81 = .ok (.iaload, 1) := by decide +kernel
theorem dX5_tellsPlace_82 : decode cX5_tellsPlace 82 = .ok (.ireturn, 1) := by decide +kernel
theorem dX5_tellsPlace_83 : decode cX5_tellsPlace 83 = .ok (.aload_n 0, 1) := by decide +kernel
theorem dX5_tellsPlace_84 : decode cX5_tellsPlace 84 = .ok (.iload_n 1, 1) := by decide +kernel
theorem dX5_tellsPlace_85 : decode cX5_tellsPlace 85 = .ok (.iload_n 2, 1) := by decide +kernel
theorem dX5_tellsPlace_86 : decode cX5_tellsPlace 86 = .ok (.invokevirtual 67, 3) := by decide +kernel
theorem dX5_tellsPlace_89 : decode cX5_tellsPlace 89 = .ok (.ireturn, 1) := by decide +kernel
theorem dX5_tellsPlace_90 : decode cX5_tellsPlace 90 = .ok (.aload_n 0, 1) := by decide +kernel
theorem dX5_tellsPlace_91 : decode cX5_tellsPlace 91 = .ok (.iload_n 1, 1) := by decide +kernel
theorem dX5_tellsPlace_92 : decode cX5_tellsPlace 92 = .ok (.iload_n 2, 1) := by decide +kernel
theorem dX5_tellsPlace_93 : decode cX5_tellsPlace 93 = .ok (.invokevirtual 70, 3) := by decide +kernel
theorem dX5_tellsPlace_96 : decode cX5_tellsPlace 96 = .ok (.ireturn, 1) := by decide +kernel
theorem dX5_tellsPlace_97 : decode cX5_tellsPlace 97 = .ok (.aload_n 0, 1) := by decide +kernel
theorem dX5_tellsPlace_98 : decode cX5_tellsPlace 98 = .ok (.iload_n 1, 1) := by decide +kernel
theorem dX5_tellsPlace_99 : decode cX5_tellsPlace 99 = .ok (.iload_n 2, 1) := by decide +kernel
theorem dX5_tellsPlace_100 : decode cX5_tellsPlace 100 = .ok (.invokevirtual 84, 3) := by decide +kernel
theorem dX5_tellsPlace_103 : decode cX5_tellsPlace 103 = .ok (.ifCond .eq 7, 3) := by decide +kernel
theorem dX5_tellsPlace_106 : decode cX5_tellsPlace 106 = .ok (.iconst 1, 1) := by decide +kernel
theorem dX5_tellsPlace_107 : decode cX5_tellsPlace 107 = .ok (.goto 4, 3) := by decide +kernel
theorem dX5_tellsPlace_110 : decode cX5_tellsPlace 110 = .ok (.iconst 0, 1) := by decide +kernel
theorem dX5_tellsPlace_111 : decode cX5_tellsPlace 111 = .ok (.ireturn, 1) := by decide +kernel
theorem dX5_tellsPlace_112 : decode cX5_tellsPlace 112 = .ok (.aload_n 0, 1) := by decide +kernel
theorem dX5_tellsPlace_113 : decode cX5_tellsPlace 113 = .ok (.getfield 7, 3) := by decide +kernel
theorem dX5_tellsPlace_116 : decode cX5_tellsPlace 116 = .ok (.sipush 523, 3) := by decide +kernel
theorem dX5_tellsPlace_119 : decode cX5_tellsPlace 119 = .ok (.iload 4, 2) := by decide +kernel
theorem dX5_tellsPlace_121 : decode cX5_tellsPlace 121 = .ok (.iadd, 1) := by decide +kernel
theorem dX5_tellsPlace_122 : decode cX5_tellsPlace 122 = .ok (.iaload, 1) := by decide +kernel
theorem dX5_tellsPlace_123 : decode cX5_tellsPlace 123 = .ok (.ireturn, 1) := by decide +kernel
theorem dX5_place_0 : decode cX5_place 0 = .ok (.aload_n 0, 1) := by decide +kernel
theorem dX5_place_1 : decode cX5_place 1 = .ok (.iconst 0, 1) := by decide +kernel
theorem dX5_place_2 : decode cX5_place 2 = .ok (.putfield 35, 3) := by decide +kernel
theorem dX5_place_5 : decode cX5_place 5 = .ok (.iload_n 1, 1) := by decide +kernel
theorem dX5_place_6 : decode cX5_place 6 = .ok (.iload_n 2, 1) := by decide +kernel
theorem dX5_place_7 : decode cX5_place 7 = .ok (.invokestatic 53, 3) := by decide +kernel
theorem dX5_place_10 : decode cX5_place 10 = .ok (.ifCond .ne 9, 3) := by decide +kernel
theorem dX5_place_13 : decode cX5_place 13 = .ok (.aload_n 0, 1) := by decide +kernel
theorem dX5_place_14 : decode cX5_place 14 = .ok (.iconst 1, 1) := by decide +kernel
theorem dX5_place_15 : decode cX5_place 15 = .ok (.invokevirtual 101, 3) := by decide +kernel
theorem dX5_place_18 : decode cX5_place 18 = .ok (.ireturn, 1) := by decide +kernel
theorem dX5_place_19 : decode cX5_place 19 = .ok (.iload_n 3, 1) := by decide +kernel
theorem dX5_place_20 : decode cX5_place 20 = .ok (.iconst 0, 1) := by decide +kernel
theorem dX5_place_21 : decode cX5_place 21 = .ok (.bipush 6, 2) := by decide +kernel
theorem dX5_place_23 : decode cX5_place 23 = .ok (.invokestatic 39, 3) := by decide +kernel
theorem dX5_place_26 : decode cX5_place 26 = .ok (.ifCond .eq 13, 3) := by decide +kernel
theorem dX5_place_29 : decode cX5_place 29 = .ok (.aload_n 0, 1) := by decide +kernel
theorem dX5_place_30 : decode cX5_place 30 = .ok (.iload_n 1, 1) := by decide +kernel
theorem dX5_place_31 : decode cX5_place 31 = .ok (.iload_n 2, 1) := by decide +kernel
theorem dX5_place_32 : decode cX5_place 32 = .ok (.iload_n 3, 1) := by decide +kernel
theorem dX5_place_33 : decode cX5_place 33 = .ok (.invokevirtual 146, 3) := by decide +kernel
theorem dX5_place_36 : decode cX5_place 36 = .ok (.goto 8, 3) := by decide +kernel
theorem dX5_place_39 : decode cX5_place 39 = .ok (.aload_n 0, 1) := by decide +kernel
theorem dX5_place_40 : decode cX5_place 40 = .ok (.iconst 2, 1) := by decide +kernel
theorem dX5_place_41 : decode cX5_place 41 = .ok (.invokevirtual 101, 3) := by decide +kernel
theorem dX5_place_44 : decode cX5_place 44 = .ok (.ireturn, 1) := by decide +kernel
theorem dX5_greatestDepth_0 : decode cX5_greatestDepth 0 = .ok (.iconst 0, 1) := by decide +kernel
theorem dX5_greatestDepth_1 : decode cX5_greatestDepth 1 = .ok (.istore_n 1, 1) := by decide +kernel
theorem dX5_greatestDepth_2 : decode cX5_greatestDepth 2 = .ok (.iconst 0, 1) := by decide +kernel
theorem dX5_greatestDepth_3 : decode cX5_greatestDepth 3 = .ok (.istore_n 2, 1) := by decide +kernel
theorem dX5_greatestDepth_4 : decode cX5_greatestDepth 4 = .ok (.iload_n 2, 1) := by decide +kernel
theorem dX5_greatestDepth_5 : decode cX5_greatestDepth 5 = .ok (.sipush 144, 3) := by decide +kernel
theorem dX5_greatestDepth_8 : decode cX5_greatestDepth 8 = .ok (.if_icmp .ge 36, 3) := by decide +kernel
theorem dX5_greatestDepth_11 : decode cX5_greatestDepth 11 = .ok (.aload_n 0, 1) := by decide +kernel
theorem dX5_greatestDepth_12 : decode cX5_greatestDepth 12 = .ok (.getfield 7, 3) := by decide +kernel
theorem dX5_greatestDepth_15 : decode cX5_greatestDepth 15 = .ok (.bipush 91, 2) := by decide +kernel
theorem dX5_greatestDepth_17 : decode cX5_greatestDepth 17 = .ok (.iload_n 2, 1) := by decide +kernel
theorem dX5_greatestDepth_18 : decode cX5_greatestDepth 18 = .ok (.iadd, 1) := by decide +kernel
theorem dX5_greatestDepth_19 : decode cX5_greatestDepth 19 = .ok (.iaload, 1) := by decide +kernel
theorem dX5_greatestDepth_20 : decode cX5_greatestDepth 20 = .ok (.iload_n 1, 1) := by decide +kernel
theorem dX5_greatestDepth_21 : decode cX5_greatestDepth 21 = .ok (.if_icmp .le 15, 3) := by decide +kernel
theorem dX5_greatestDepth_24 : decode cX5_greatestDepth 24 = .ok (.aload_n 0, 1) := by decide +kernel
theorem dX5_greatestDepth_25 : decode cX5_greatestDepth 25 = .ok (.getfield 7, 3) := by decide +kernel
theorem dX5_greatestDepth_28 : decode cX5_greatestDepth 28 = .ok (.bipush 91, 2) := by decide +kernel
theorem dX5_greatestDepth_30 : decode cX5_greatestDepth 30 = .ok (.iload_n 2, 1) := by decide +kernel
theorem dX5_greatestDepth_31 : decode cX5_greatestDepth 31 = .ok (.iadd, 1) := by decide +kernel
theorem dX5_greatestDepth_32 : decode cX5_greatestDepth 32 = .ok (.iaload, 1) := by decide +kernel
theorem dX5_greatestDepth_33 : decode cX5_greatestDepth 33 = .ok (.goto 4, 3) := by decide +kernel
theorem dX5_greatestDepth_36 : decode cX5_greatestDepth 36 = .ok (.iload_n 1, 1) := by decide +kernel
theorem dX5_greatestDepth_37 : decode cX5_greatestDepth 37 = .ok (.istore_n 1, 1) := by decide +kernel
theorem dX5_greatestDepth_38 : decode cX5_greatestDepth 38 = .ok (.iinc 2 1, 3) := by decide +kernel
theorem dX5_greatestDepth_41 : decode cX5_greatestDepth 41 = .ok (.goto (-37), 3) := by decide +kernel
theorem dX5_greatestDepth_44 : decode cX5_greatestDepth 44 = .ok (.iload_n 1, 1) := by decide +kernel
theorem dX5_greatestDepth_45 : decode cX5_greatestDepth 45 = .ok (.ireturn, 1) := by decide +kernel
theorem dX5_allStrain_0 : decode cX5_allStrain 0 = .ok (.iconst 0, 1) := by decide +kernel
theorem dX5_allStrain_1 : decode cX5_allStrain 1 = .ok (.istore_n 1, 1) := by decide +kernel
theorem dX5_allStrain_2 : decode cX5_allStrain 2 = .ok (.iconst 0, 1) := by decide +kernel
theorem dX5_allStrain_3 : decode cX5_allStrain 3 = .ok (.istore_n 2, 1) := by decide +kernel
theorem dX5_allStrain_4 : decode cX5_allStrain 4 = .ok (.iload_n 2, 1) := by decide +kernel
theorem dX5_allStrain_5 : decode cX5_allStrain 5 = .ok (.sipush 144, 3) := by decide +kernel
theorem dX5_allStrain_8 : decode cX5_allStrain 8 = .ok (.if_icmp .ge 24, 3) := by decide +kernel
theorem dX5_allStrain_11 : decode cX5_allStrain 11 = .ok (.iload_n 1, 1) := by decide +kernel
theorem dX5_allStrain_12 : decode cX5_allStrain 12 = .ok (.aload_n 0, 1) := by decide +kernel
theorem dX5_allStrain_13 : decode cX5_allStrain 13 = .ok (.iload_n 2, 1) := by decide +kernel
theorem dX5_allStrain_14 : decode cX5_allStrain 14 = .ok (.bipush 12, 2) := by decide +kernel
theorem dX5_allStrain_16 : decode cX5_allStrain 16 = .ok (.irem, 1) := by decide +kernel
theorem dX5_allStrain_17 : decode cX5_allStrain 17 = .ok (.iload_n 2, 1) := by decide +kernel
theorem dX5_allStrain_18 : decode cX5_allStrain 18 = .ok (.bipush 12, 2) := by decide +kernel
theorem dX5_allStrain_20 : decode cX5_allStrain 20 = .ok (.idiv, 1) := by decide +kernel
theorem dX5_allStrain_21 : decode cX5_allStrain 21 = .ok (.invokevirtual 67, 3) := by decide +kernel
theorem dX5_allStrain_24 : decode cX5_allStrain 24 = .ok (.iadd, 1) := by decide +kernel
theorem dX5_allStrain_25 : decode cX5_allStrain 25 = .ok (.istore_n 1, 1) := by decide +kernel
theorem dX5_allStrain_26 : decode cX5_allStrain 26 = .ok (.iinc 2 1, 3) := by decide +kernel
theorem dX5_allStrain_29 : decode cX5_allStrain 29 = .ok (.goto (-25), 3) := by decide +kernel
theorem dX5_allStrain_32 : decode cX5_allStrain 32 = .ok (.iload_n 1, 1) := by decide +kernel
theorem dX5_allStrain_33 : decode cX5_allStrain 33 = .ok (.ireturn, 1) := by decide +kernel
theorem dX5_pairStrain_0 : decode cX5_pairStrain 0 = .ok (.iconst 0, 1) := by decide +kernel
theorem dX5_pairStrain_1 : decode cX5_pairStrain 1 = .ok (.istore_n 1, 1) := by decide +kernel
theorem dX5_pairStrain_2 : decode cX5_pairStrain 2 = .ok (.iconst 0, 1) := by decide +kernel
theorem dX5_pairStrain_3 : decode cX5_pairStrain 3 = .ok (.istore_n 2, 1) := by decide +kernel
theorem dX5_pairStrain_4 : decode cX5_pairStrain 4 = .ok (.iload_n 2, 1) := by decide +kernel
theorem dX5_pairStrain_5 : decode cX5_pairStrain 5 = .ok (.sipush 144, 3) := by decide +kernel
theorem dX5_pairStrain_8 : decode cX5_pairStrain 8 = .ok (.if_icmp .ge 91, 3) := by decide +kernel
theorem dX5_pairStrain_11 : decode cX5_pairStrain 11 = .ok (.iload_n 2, 1) := by decide +kernel
theorem dX5_pairStrain_12 : decode cX5_pairStrain 12 = .ok (.bipush 12, 2) := by decide +kernel
theorem dX5_pairStrain_14 : decode cX5_pairStrain 14 = .ok (.irem, 1) := by decide +kernel
theorem dX5_pairStrain_15 : decode cX5_pairStrain 15 = .ok (.istore_n 3, 1) := by decide +kernel
theorem dX5_pairStrain_16 : decode cX5_pairStrain 16 = .ok (.iload_n 2, 1) := by decide +kernel
theorem dX5_pairStrain_17 : decode cX5_pairStrain 17 = .ok (.bipush 12, 2) := by decide +kernel
theorem dX5_pairStrain_19 : decode cX5_pairStrain 19 = .ok (.idiv, 1) := by decide +kernel
theorem dX5_pairStrain_20 : decode cX5_pairStrain 20 = .ok (.istore 4, 2) := by decide +kernel
theorem dX5_pairStrain_22 : decode cX5_pairStrain 22 = .ok (.iload_n 1, 1) := by decide +kernel
theorem dX5_pairStrain_23 : decode cX5_pairStrain 23 = .ok (.iload_n 3, 1) := by decide +kernel
theorem dX5_pairStrain_24 : decode cX5_pairStrain 24 = .ok (.iconst 1, 1) := by decide +kernel
theorem dX5_pairStrain_25 : decode cX5_pairStrain 25 = .ok (.iadd, 1) := by decide +kernel
theorem dX5_pairStrain_26 : decode cX5_pairStrain 26 = .ok (.bipush 12, 2) := by decide +kernel
theorem dX5_pairStrain_28 : decode cX5_pairStrain 28 = .ok (.if_icmp .ge 26, 3) := by decide +kernel
theorem dX5_pairStrain_31 : decode cX5_pairStrain 31 = .ok (.aload_n 0, 1) := by decide +kernel
theorem dX5_pairStrain_32 : decode cX5_pairStrain 32 = .ok (.iload_n 3, 1) := by decide +kernel
theorem dX5_pairStrain_33 : decode cX5_pairStrain 33 = .ok (.iload 4, 2) := by decide +kernel
theorem dX5_pairStrain_35 : decode cX5_pairStrain 35 = .ok (.invokevirtual 57, 3) := by decide +kernel
theorem dX5_pairStrain_38 : decode cX5_pairStrain 38 = .ok (.aload_n 0, 1) := by decide +kernel
theorem dX5_pairStrain_39 : decode cX5_pairStrain 39 = .ok (.iload_n 3, 1) := by decide +kernel
theorem dX5_pairStrain_40 : decode cX5_pairStrain 40 = .ok (.iconst 1, 1) := by decide +kernel
theorem dX5_pairStrain_41 : decode cX5_pairStrain 41 = .ok (.iadd, 1) := by decide +kernel
theorem dX5_pairStrain_42 : decode cX5_pairStrain 42 = .ok (.iload 4, 2) := by decide +kernel
theorem dX5_pairStrain_44 : decode cX5_pairStrain 44 = .ok (.invokevirtual 57, 3) := by decide +kernel
theorem dX5_pairStrain_47 : decode cX5_pairStrain 47 = .ok (.isub, 1) := by decide +kernel
theorem dX5_pairStrain_48 : decode cX5_pairStrain 48 = .ok (.invokestatic 60, 3) := by decide +kernel
theorem dX5_pairStrain_51 : decode cX5_pairStrain 51 = .ok (.goto 4, 3) := by decide +kernel
theorem dX5_pairStrain_54 : decode cX5_pairStrain 54 = .ok (.iconst 0, 1) := by decide +kernel
theorem dX5_pairStrain_55 : decode cX5_pairStrain 55 = .ok (.iadd, 1) := by decide +kernel
theorem dX5_pairStrain_56 : decode cX5_pairStrain 56 = .ok (.istore_n 1, 1) := by decide +kernel
theorem dX5_pairStrain_57 : decode cX5_pairStrain 57 = .ok (.iload_n 1, 1) := by decide +kernel
theorem dX5_pairStrain_58 : decode cX5_pairStrain 58 = .ok (.iload 4, 2) := by decide +kernel
theorem dX5_pairStrain_60 : decode cX5_pairStrain 60 = .ok (.iconst 1, 1) := by decide +kernel
theorem dX5_pairStrain_61 : decode cX5_pairStrain 61 = .ok (.iadd, 1) := by decide +kernel
theorem dX5_pairStrain_62 : decode cX5_pairStrain 62 = .ok (.bipush 12, 2) := by decide +kernel
theorem dX5_pairStrain_64 : decode cX5_pairStrain 64 = .ok (.if_icmp .ge 26, 3) := by decide +kernel
theorem dX5_pairStrain_67 : decode cX5_pairStrain 67 = .ok (.aload_n 0, 1) := by decide +kernel
theorem dX5_pairStrain_68 : decode cX5_pairStrain 68 = .ok (.iload_n 3, 1) := by decide +kernel
theorem dX5_pairStrain_69 : decode cX5_pairStrain 69 = .ok (.iload 4, 2) := by decide +kernel
theorem dX5_pairStrain_71 : decode cX5_pairStrain 71 = .ok (.invokevirtual 57, 3) := by decide +kernel
theorem dX5_pairStrain_74 : decode cX5_pairStrain 74 = .ok (.aload_n 0, 1) := by decide +kernel
theorem dX5_pairStrain_75 : decode cX5_pairStrain 75 = .ok (.iload_n 3, 1) := by decide +kernel
theorem dX5_pairStrain_76 : decode cX5_pairStrain 76 = .ok (.iload 4, 2) := by decide +kernel
theorem dX5_pairStrain_78 : decode cX5_pairStrain 78 = .ok (.iconst 1, 1) := by decide +kernel
theorem dX5_pairStrain_79 : decode cX5_pairStrain 79 = .ok (.iadd, 1) := by decide +kernel
theorem dX5_pairStrain_80 : decode cX5_pairStrain 80 = .ok (.invokevirtual 57, 3) := by decide +kernel
theorem dX5_pairStrain_83 : decode cX5_pairStrain 83 = .ok (.isub, 1) := by decide +kernel
theorem dX5_pairStrain_84 : decode cX5_pairStrain 84 = .ok (.invokestatic 60, 3) := by decide +kernel
theorem dX5_pairStrain_87 : decode cX5_pairStrain 87 = .ok (.goto 4, 3) := by decide +kernel
theorem dX5_pairStrain_90 : decode cX5_pairStrain 90 = .ok (.iconst 0, 1) := by decide +kernel
theorem dX5_pairStrain_91 : decode cX5_pairStrain 91 = .ok (.iadd, 1) := by decide +kernel
theorem dX5_pairStrain_92 : decode cX5_pairStrain 92 = .ok (.istore_n 1, 1) := by decide +kernel
theorem dX5_pairStrain_93 : decode cX5_pairStrain 93 = .ok (.iinc 2 1, 3) := by decide +kernel
theorem dX5_pairStrain_96 : decode cX5_pairStrain 96 = .ok (.goto (-92), 3) := by decide +kernel
theorem dX5_pairStrain_99 : decode cX5_pairStrain 99 = .ok (.iconst 2, 1) := by decide +kernel
theorem dX5_pairStrain_100 : decode cX5_pairStrain 100 = .ok (.iload_n 1, 1) := by decide +kernel
theorem dX5_pairStrain_101 : decode cX5_pairStrain 101 = .ok (.imul, 1) := by decide +kernel
theorem dX5_pairStrain_102 : decode cX5_pairStrain 102 = .ok (.ireturn, 1) := by decide +kernel
theorem dX5_foiled_0 : decode cX5_foiled 0 = .ok (.iconst 0, 1) := by decide +kernel
theorem dX5_foiled_1 : decode cX5_foiled 1 = .ok (.istore_n 1, 1) := by decide +kernel
theorem dX5_foiled_2 : decode cX5_foiled 2 = .ok (.iconst 0, 1) := by decide +kernel
theorem dX5_foiled_3 : decode cX5_foiled 3 = .ok (.istore_n 2, 1) := by decide +kernel
theorem dX5_foiled_4 : decode cX5_foiled 4 = .ok (.iload_n 2, 1) := by decide +kernel
theorem dX5_foiled_5 : decode cX5_foiled 5 = .ok (.sipush 144, 3) := by decide +kernel
theorem dX5_foiled_8 : decode cX5_foiled 8 = .ok (.if_icmp .ge 30, 3) := by decide +kernel
theorem dX5_foiled_11 : decode cX5_foiled 11 = .ok (.iload_n 1, 1) := by decide +kernel
theorem dX5_foiled_12 : decode cX5_foiled 12 = .ok (.aload_n 0, 1) := by decide +kernel
theorem dX5_foiled_13 : decode cX5_foiled 13 = .ok (.getfield 7, 3) := by decide +kernel
theorem dX5_foiled_16 : decode cX5_foiled 16 = .ok (.sipush 235, 3) := by decide +kernel
theorem dX5_foiled_19 : decode cX5_foiled 19 = .ok (.iload_n 2, 1) := by decide +kernel
theorem dX5_foiled_20 : decode cX5_foiled 20 = .ok (.iadd, 1) := by decide +kernel
theorem dX5_foiled_21 : decode cX5_foiled 21 = .ok (.iaload, 1) := by decide +kernel
theorem dX5_foiled_22 : decode cX5_foiled 22 = .ok (.ifCond .le 7, 3) := by decide +kernel
theorem dX5_foiled_25 : decode cX5_foiled 25 = .ok (.iconst 1, 1) := by decide +kernel
theorem dX5_foiled_26 : decode cX5_foiled 26 = .ok (.goto 4, 3) := by decide +kernel
theorem dX5_foiled_29 : decode cX5_foiled 29 = .ok (.iconst 0, 1) := by decide +kernel
theorem dX5_foiled_30 : decode cX5_foiled 30 = .ok (.iadd, 1) := by decide +kernel
theorem dX5_foiled_31 : decode cX5_foiled 31 = .ok (.istore_n 1, 1) := by decide +kernel
theorem dX5_foiled_32 : decode cX5_foiled 32 = .ok (.iinc 2 1, 3) := by decide +kernel
theorem dX5_foiled_35 : decode cX5_foiled 35 = .ok (.goto (-31), 3) := by decide +kernel
theorem dX5_foiled_38 : decode cX5_foiled 38 = .ok (.iload_n 1, 1) := by decide +kernel
theorem dX5_foiled_39 : decode cX5_foiled 39 = .ok (.ireturn, 1) := by decide +kernel
theorem dX5_tellsCount_0 : decode cX5_tellsCount 0 = .ok (.iload_n 1, 1) := by decide +kernel
theorem dX5_tellsCount_1 : decode cX5_tellsCount 1 = .ok (.tableswitch 143 0 12 #[67, 75, 82, 89, 97, 102, 107, 112, 117, 122, 130, 130, 130], 67) := by decide +kernel
theorem dX5_tellsCount_68 : decode cX5_tellsCount 68 = .ok (.aload_n 0, 1) := by decide +kernel
theorem dX5_tellsCount_69 : decode cX5_tellsCount 69 = .ok (.getfield 7, 3) := by decide +kernel
theorem dX5_tellsCount_72 : decode cX5_tellsCount 72 = .ok (.bipush 6, 2) := by decide +kernel
theorem dX5_tellsCount_74 : decode cX5_tellsCount 74 = .ok (.iaload, 1) := by decide +kernel
theorem dX5_tellsCount_75 : decode cX5_tellsCount 75 = .ok (.ireturn, 1) := by decide +kernel
theorem dX5_tellsCount_76 : decode cX5_tellsCount 76 = .ok (.aload_n 0, 1) := by decide +kernel
theorem dX5_tellsCount_77 : decode cX5_tellsCount 77 = .ok (.getfield 7, 3) := by decide +kernel
theorem dX5_tellsCount_80 : decode cX5_tellsCount 80 = .ok (.iconst 5, 1) := by decide +kernel
theorem dX5_tellsCount_81 : decode cX5_tellsCount 81 = .ok (.iaload, 1) := by decide +kernel
theorem dX5_tellsCount_82 : decode cX5_tellsCount 82 = .ok (.ireturn, 1) := by decide +kernel
theorem dX5_tellsCount_83 : decode cX5_tellsCount 83 = .ok (.aload_n 0, 1) := by decide +kernel
theorem dX5_tellsCount_84 : decode cX5_tellsCount 84 = .ok (.getfield 7, 3) := by decide +kernel
theorem dX5_tellsCount_87 : decode cX5_tellsCount 87 = .ok (.iconst 4, 1) := by decide +kernel
theorem dX5_tellsCount_88 : decode cX5_tellsCount 88 = .ok (.iaload, 1) := by decide +kernel
theorem dX5_tellsCount_89 : decode cX5_tellsCount 89 = .ok (.ireturn, 1) := by decide +kernel
theorem dX5_tellsCount_90 : decode cX5_tellsCount 90 = .ok (.aload_n 0, 1) := by decide +kernel
theorem dX5_tellsCount_91 : decode cX5_tellsCount 91 = .ok (.getfield 7, 3) := by decide +kernel
theorem dX5_tellsCount_94 : decode cX5_tellsCount 94 = .ok (.bipush 7, 2) := by decide +kernel
theorem dX5_tellsCount_96 : decode cX5_tellsCount 96 = .ok (.iaload, 1) := by decide +kernel
theorem dX5_tellsCount_97 : decode cX5_tellsCount 97 = .ok (.ireturn, 1) := by decide +kernel
theorem dX5_tellsCount_98 : decode cX5_tellsCount 98 = .ok (.aload_n 0, 1) := by decide +kernel
theorem dX5_tellsCount_99 : decode cX5_tellsCount 99 = .ok (.invokevirtual 110, 3) := by decide +kernel
theorem dX5_tellsCount_102 : decode cX5_tellsCount 102 = .ok (.ireturn, 1) := by decide +kernel
theorem dX5_tellsCount_103 : decode cX5_tellsCount 103 = .ok (.aload_n 0, 1) := by decide +kernel
theorem dX5_tellsCount_104 : decode cX5_tellsCount 104 = .ok (.invokevirtual 150, 3) := by decide +kernel
theorem dX5_tellsCount_107 : decode cX5_tellsCount 107 = .ok (.ireturn, 1) := by decide +kernel
theorem dX5_tellsCount_108 : decode cX5_tellsCount 108 = .ok (.aload_n 0, 1) := by decide +kernel
theorem dX5_tellsCount_109 : decode cX5_tellsCount 109 = .ok (.invokevirtual 153, 3) := by decide +kernel
theorem dX5_tellsCount_112 : decode cX5_tellsCount 112 = .ok (.ireturn, 1) := by decide +kernel
theorem dX5_tellsCount_113 : decode cX5_tellsCount 113 = .ok (.aload_n 0, 1) := by decide +kernel
theorem dX5_tellsCount_114 : decode cX5_tellsCount 114 = .ok (.invokevirtual 156, 3) := by decide +kernel
theorem dX5_tellsCount_117 : decode cX5_tellsCount 117 = .ok (.ireturn, 1) := by decide +kernel
theorem dX5_tellsCount_118 : decode cX5_tellsCount 118 = .ok (.aload_n 0, 1) := by decide +kernel
theorem dX5_tellsCount_119 : decode cX5_tellsCount 119 = .ok (.invokevirtual 159, 3) := by decide +kernel
theorem dX5_tellsCount_122 : decode cX5_tellsCount 122 = .ok (.ireturn, 1) := by decide +kernel
theorem dX5_tellsCount_123 : decode cX5_tellsCount 123 = .ok (.aload_n 0, 1) := by decide +kernel
theorem dX5_tellsCount_124 : decode cX5_tellsCount 124 = .ok (.getfield 7, 3) := by decide +kernel
theorem dX5_tellsCount_127 : decode cX5_tellsCount 127 = .ok (.bipush 8, 2) := by decide +kernel
theorem dX5_tellsCount_129 : decode cX5_tellsCount 129 = .ok (.iaload, 1) := by decide +kernel
theorem dX5_tellsCount_130 : decode cX5_tellsCount 130 = .ok (.ireturn, 1) := by decide +kernel
theorem dX5_tellsCount_131 : decode cX5_tellsCount 131 = .ok (.aload_n 0, 1) := by decide +kernel
theorem dX5_tellsCount_132 : decode cX5_tellsCount 132 = .ok (.getfield 7, 3) := by decide +kernel
theorem dX5_tellsCount_135 : decode cX5_tellsCount 135 = .ok (.bipush 13, 2) := by decide +kernel
theorem dX5_tellsCount_137 : decode cX5_tellsCount 137 = .ok (.iload_n 1, 1) := by decide +kernel
theorem dX5_tellsCount_138 : decode cX5_tellsCount 138 = .ok (.iadd, 1) := by decide +kernel
theorem dX5_tellsCount_139 : decode cX5_tellsCount 139 = .ok (.bipush 10, 2) := by decide +kernel
theorem dX5_tellsCount_141 : decode cX5_tellsCount 141 = .ok (.isub, 1) := by decide +kernel
theorem dX5_tellsCount_142 : decode cX5_tellsCount 142 = .ok (.iaload, 1) := by decide +kernel
theorem dX5_tellsCount_143 : decode cX5_tellsCount 143 = .ok (.ireturn, 1) := by decide +kernel
theorem dX5_tellsCount_144 : decode cX5_tellsCount 144 = .ok (.aload_n 0, 1) := by decide +kernel
theorem dX5_tellsCount_145 : decode cX5_tellsCount 145 = .ok (.getfield 43, 3) := by decide +kernel
theorem dX5_tellsCount_148 : decode cX5_tellsCount 148 = .ok (.ireturn, 1) := by decide +kernel
theorem dX5_count_0 : decode cX5_count 0 = .ok (.aload_n 0, 1) := by decide +kernel
theorem dX5_count_1 : decode cX5_count 1 = .ok (.iconst 0, 1) := by decide +kernel
theorem dX5_count_2 : decode cX5_count 2 = .ok (.putfield 35, 3) := by decide +kernel
theorem dX5_count_5 : decode cX5_count 5 = .ok (.iload_n 1, 1) := by decide +kernel
theorem dX5_count_6 : decode cX5_count 6 = .ok (.iconst 0, 1) := by decide +kernel
theorem dX5_count_7 : decode cX5_count 7 = .ok (.bipush 13, 2) := by decide +kernel
theorem dX5_count_9 : decode cX5_count 9 = .ok (.invokestatic 39, 3) := by decide +kernel
theorem dX5_count_12 : decode cX5_count 12 = .ok (.ifCond .eq 11, 3) := by decide +kernel
theorem dX5_count_15 : decode cX5_count 15 = .ok (.aload_n 0, 1) := by decide +kernel
theorem dX5_count_16 : decode cX5_count 16 = .ok (.iload_n 1, 1) := by decide +kernel
theorem dX5_count_17 : decode cX5_count 17 = .ok (.invokevirtual 162, 3) := by decide +kernel
theorem dX5_count_20 : decode cX5_count 20 = .ok (.goto 8, 3) := by decide +kernel
theorem dX5_count_23 : decode cX5_count 23 = .ok (.aload_n 0, 1) := by decide +kernel
theorem dX5_count_24 : decode cX5_count 24 = .ok (.iconst 1, 1) := by decide +kernel
theorem dX5_count_25 : decode cX5_count 25 = .ok (.invokevirtual 101, 3) := by decide +kernel
theorem dX5_count_28 : decode cX5_count 28 = .ok (.ireturn, 1) := by decide +kernel
theorem dX5_setting_0 : decode cX5_setting 0 = .ok (.aload_n 0, 1) := by decide +kernel
theorem dX5_setting_1 : decode cX5_setting 1 = .ok (.iconst 0, 1) := by decide +kernel
theorem dX5_setting_2 : decode cX5_setting 2 = .ok (.putfield 35, 3) := by decide +kernel
theorem dX5_setting_5 : decode cX5_setting 5 = .ok (.iload_n 1, 1) := by decide +kernel
theorem dX5_setting_6 : decode cX5_setting 6 = .ok (.iconst 0, 1) := by decide +kernel
theorem dX5_setting_7 : decode cX5_setting 7 = .ok (.iconst 3, 1) := by decide +kernel
theorem dX5_setting_8 : decode cX5_setting 8 = .ok (.invokestatic 39, 3) := by decide +kernel
theorem dX5_setting_11 : decode cX5_setting 11 = .ok (.ifCond .eq 12, 3) := by decide +kernel
theorem dX5_setting_14 : decode cX5_setting 14 = .ok (.aload_n 0, 1) := by decide +kernel
theorem dX5_setting_15 : decode cX5_setting 15 = .ok (.getfield 7, 3) := by decide +kernel
theorem dX5_setting_18 : decode cX5_setting 18 = .ok (.iload_n 1, 1) := by decide +kernel
theorem dX5_setting_19 : decode cX5_setting 19 = .ok (.iaload, 1) := by decide +kernel
theorem dX5_setting_20 : decode cX5_setting 20 = .ok (.goto 8, 3) := by decide +kernel
theorem dX5_setting_23 : decode cX5_setting 23 = .ok (.aload_n 0, 1) := by decide +kernel
theorem dX5_setting_24 : decode cX5_setting 24 = .ok (.iconst 1, 1) := by decide +kernel
theorem dX5_setting_25 : decode cX5_setting 25 = .ok (.invokevirtual 101, 3) := by decide +kernel
theorem dX5_setting_28 : decode cX5_setting 28 = .ok (.ireturn, 1) := by decide +kernel
theorem dX5_would_0 : decode cX5_would 0 = .ok (.aload_n 0, 1) := by decide +kernel
theorem dX5_would_1 : decode cX5_would 1 = .ok (.iload_n 1, 1) := by decide +kernel
theorem dX5_would_2 : decode cX5_would 2 = .ok (.iload_n 2, 1) := by decide +kernel
theorem dX5_would_3 : decode cX5_would 3 = .ok (.iload_n 3, 1) := by decide +kernel
theorem dX5_would_4 : decode cX5_would 4 = .ok (.iload 4, 2) := by decide +kernel
theorem dX5_would_6 : decode cX5_would 6 = .ok (.invokevirtual 113, 3) := by decide +kernel
theorem dX5_would_9 : decode cX5_would 9 = .ok (.istore 5, 2) := by decide +kernel
theorem dX5_would_11 : decode cX5_would 11 = .ok (.iload 5, 2) := by decide +kernel
theorem dX5_would_13 : decode cX5_would 13 = .ok (.ifCond .le 6, 3) := by decide +kernel
theorem dX5_would_16 : decode cX5_would 16 = .ok (.iload 5, 2) := by decide +kernel
theorem dX5_would_18 : decode cX5_would 18 = .ok (.ireturn, 1) := by decide +kernel
theorem dX5_would_19 : decode cX5_would 19 = .ok (.aload_n 0, 1) := by decide +kernel
theorem dX5_would_20 : decode cX5_would 20 = .ok (.invokevirtual 165, 3) := by decide +kernel
theorem dX5_would_23 : decode cX5_would 23 = .ok (.bipush 100, 2) := by decide +kernel
theorem dX5_would_25 : decode cX5_would 25 = .ok (.aload_n 0, 1) := by decide +kernel
theorem dX5_would_26 : decode cX5_would 26 = .ok (.iload_n 1, 1) := by decide +kernel
theorem dX5_would_27 : decode cX5_would 27 = .ok (.iload_n 2, 1) := by decide +kernel
theorem dX5_would_28 : decode cX5_would 28 = .ok (.iload_n 3, 1) := by decide +kernel
theorem dX5_would_29 : decode cX5_would 29 = .ok (.iload 4, 2) := by decide +kernel
theorem dX5_would_31 : decode cX5_would 31 = .ok (.invokevirtual 116, 3) := by decide +kernel
theorem dX5_would_34 : decode cX5_would 34 = .ok (.iadd, 1) := by decide +kernel
theorem dX5_would_35 : decode cX5_would 35 = .ok (.istore 6, 2) := by decide +kernel
theorem dX5_would_37 : decode cX5_would 37 = .ok (.aload_n 0, 1) := by decide +kernel
theorem dX5_would_38 : decode cX5_would 38 = .ok (.invokevirtual 168, 3) := by decide +kernel
theorem dX5_would_41 : decode cX5_would 41 = .ok (.iload 6, 2) := by decide +kernel
theorem dX5_would_43 : decode cX5_would 43 = .ok (.ireturn, 1) := by decide +kernel
theorem dX5_ifPressed_0 : decode cX5_ifPressed 0 = .ok (.aload_n 0, 1) := by decide +kernel
theorem dX5_ifPressed_1 : decode cX5_ifPressed 1 = .ok (.iconst 0, 1) := by decide +kernel
theorem dX5_ifPressed_2 : decode cX5_ifPressed 2 = .ok (.putfield 35, 3) := by decide +kernel
theorem dX5_ifPressed_5 : decode cX5_ifPressed 5 = .ok (.iload_n 1, 1) := by decide +kernel
theorem dX5_ifPressed_6 : decode cX5_ifPressed 6 = .ok (.invokestatic 94, 3) := by decide +kernel
theorem dX5_ifPressed_9 : decode cX5_ifPressed 9 = .ok (.ifCond .ne 9, 3) := by decide +kernel
theorem dX5_ifPressed_12 : decode cX5_ifPressed 12 = .ok (.aload_n 0, 1) := by decide +kernel
theorem dX5_ifPressed_13 : decode cX5_ifPressed 13 = .ok (.iconst 1, 1) := by decide +kernel
theorem dX5_ifPressed_14 : decode cX5_ifPressed 14 = .ok (.invokevirtual 101, 3) := by decide +kernel
theorem dX5_ifPressed_17 : decode cX5_ifPressed 17 = .ok (.ireturn, 1) := by decide +kernel
theorem dX5_ifPressed_18 : decode cX5_ifPressed 18 = .ok (.iload 4, 2) := by decide +kernel
theorem dX5_ifPressed_20 : decode cX5_ifPressed 20 = .ok (.iconst 0, 1) := by decide +kernel
theorem dX5_ifPressed_21 : decode cX5_ifPressed 21 = .ok (.bipush 7, 2) := by decide +kernel
theorem dX5_ifPressed_23 : decode cX5_ifPressed 23 = .ok (.invokestatic 39, 3) := by decide +kernel
theorem dX5_ifPressed_26 : decode cX5_ifPressed 26 = .ok (.ifCond .eq 15, 3) := by decide +kernel
theorem dX5_ifPressed_29 : decode cX5_ifPressed 29 = .ok (.aload_n 0, 1) := by decide +kernel
theorem dX5_ifPressed_30 : decode cX5_ifPressed 30 = .ok (.iload_n 1, 1) := by decide +kernel
theorem dX5_ifPressed_31 : decode cX5_ifPressed 31 = .ok (.iload_n 2, 1) := by decide +kernel
theorem dX5_ifPressed_32 : decode cX5_ifPressed 32 = .ok (.iload_n 3, 1) := by decide +kernel
theorem dX5_ifPressed_33 : decode cX5_ifPressed 33 = .ok (.iload 4, 2) := by decide +kernel
theorem dX5_ifPressed_35 : decode cX5_ifPressed 35 = .ok (.invokevirtual 171, 3) := by decide +kernel
theorem dX5_ifPressed_38 : decode cX5_ifPressed 38 = .ok (.goto 8, 3) := by decide +kernel
theorem dX5_ifPressed_41 : decode cX5_ifPressed 41 = .ok (.aload_n 0, 1) := by decide +kernel
theorem dX5_ifPressed_42 : decode cX5_ifPressed 42 = .ok (.iconst 2, 1) := by decide +kernel
theorem dX5_ifPressed_43 : decode cX5_ifPressed 43 = .ok (.invokevirtual 101, 3) := by decide +kernel
theorem dX5_ifPressed_46 : decode cX5_ifPressed 46 = .ok (.ireturn, 1) := by decide +kernel
theorem dX5_gentlestPlace_0 : decode cX5_gentlestPlace 0 = .ok (.iconst (-1), 1) := by decide +kernel
theorem dX5_gentlestPlace_1 : decode cX5_gentlestPlace 1 = .ok (.istore_n 3, 1) := by decide +kernel
theorem dX5_gentlestPlace_2 : decode cX5_gentlestPlace 2 = .ok (.ldc 174, 2) := by decide +kernel
theorem dX5_gentlestPlace_4 : decode cX5_gentlestPlace 4 = .ok (.istore 4, 2) := by decide +kernel
theorem dX5_gentlestPlace_6 : decode cX5_gentlestPlace 6 = .ok (.iconst 0, 1) := by decide +kernel
theorem dX5_gentlestPlace_7 : decode cX5_gentlestPlace 7 = .ok (.istore 5, 2) := by decide +kernel
theorem dX5_gentlestPlace_9 : decode cX5_gentlestPlace 9 = .ok (.iload 5, 2) := by decide +kernel
theorem dX5_gentlestPlace_11 : decode cX5_gentlestPlace 11 = .ok (.sipush 144, 3) := by decide +kernel
theorem dX5_gentlestPlace_14 : decode cX5_gentlestPlace 14 = .ok (.if_icmp .ge 86, 3) := by decide +kernel
theorem dX5_gentlestPlace_17 : decode cX5_gentlestPlace 17 = .ok (.aload_n 0, 1) := by decide +kernel
theorem dX5_gentlestPlace_18 : decode cX5_gentlestPlace 18 = .ok (.iload_n 1, 1) := by decide +kernel
theorem dX5_gentlestPlace_19 : decode cX5_gentlestPlace 19 = .ok (.iload 5, 2) := by decide +kernel
theorem dX5_gentlestPlace_21 : decode cX5_gentlestPlace 21 = .ok (.bipush 12, 2) := by decide +kernel
theorem dX5_gentlestPlace_23 : decode cX5_gentlestPlace 23 = .ok (.irem, 1) := by decide +kernel
theorem dX5_gentlestPlace_24 : decode cX5_gentlestPlace 24 = .ok (.iload 5, 2) := by decide +kernel
theorem dX5_gentlestPlace_26 : decode cX5_gentlestPlace 26 = .ok (.bipush 12, 2) := by decide +kernel
theorem dX5_gentlestPlace_28 : decode cX5_gentlestPlace 28 = .ok (.idiv, 1) := by decide +kernel
theorem dX5_gentlestPlace_29 : decode cX5_gentlestPlace 29 = .ok (.iload_n 2, 1) := by decide +kernel
theorem dX5_gentlestPlace_30 : decode cX5_gentlestPlace 30 = .ok (.invokevirtual 171, 3) := by decide +kernel
theorem dX5_gentlestPlace_33 : decode cX5_gentlestPlace 33 = .ok (.istore 6, 2) := by decide +kernel
theorem dX5_gentlestPlace_35 : decode cX5_gentlestPlace 35 = .ok (.iload 6, 2) := by decide +kernel
theorem dX5_gentlestPlace_37 : decode cX5_gentlestPlace 37 = .ok (.bipush 100, 2) := by decide +kernel
theorem dX5_gentlestPlace_39 : decode cX5_gentlestPlace 39 = .ok (.if_icmp .lt 14, 3) := by decide +kernel
theorem dX5_gentlestPlace_42 : decode cX5_gentlestPlace 42 = .ok (.iload 6, 2) := by decide +kernel
theorem dX5_gentlestPlace_44 : decode cX5_gentlestPlace 44 = .ok (.iload 4, 2) := by decide +kernel
theorem dX5_gentlestPlace_46 : decode cX5_gentlestPlace 46 = .ok (.if_icmp .ge 7, 3) := by decide +kernel
theorem dX5_gentlestPlace_49 : decode cX5_gentlestPlace 49 = .ok (.iconst 1, 1) := by decide +kernel
theorem dX5_gentlestPlace_50 : decode cX5_gentlestPlace 50 = .ok (.goto 4, 3) := by decide +kernel
theorem dX5_gentlestPlace_53 : decode cX5_gentlestPlace 53 = .ok (.iconst 0, 1) := by decide +kernel
theorem dX5_gentlestPlace_54 : decode cX5_gentlestPlace 54 = .ok (.istore 7, 2) := by decide +kernel
theorem dX5_gentlestPlace_56 : decode cX5_gentlestPlace 56 = .ok (.iload 7, 2) := by decide +kernel
theorem dX5_gentlestPlace_58 : decode cX5_gentlestPlace 58 = .ok (.ifCond .eq 20, 3) := by decide +kernel
theorem dX5_gentlestPlace_61 : decode cX5_gentlestPlace 61 = .ok (.bipush 100, 2) := by decide +kernel
theorem dX5_gentlestPlace_63 : decode cX5_gentlestPlace 63 = .ok (.iload 5, 2) := by decide +kernel
theorem dX5_gentlestPlace_65 : decode cX5_gentlestPlace 65 = .ok (.bipush 12, 2) := by decide +kernel
theorem dX5_gentlestPlace_67 : decode cX5_gentlestPlace 67 = .ok (.idiv, 1) := by decide +kernel
theorem dX5_gentlestPlace_68 : decode cX5_gentlestPlace 68 = .ok (.imul, 1) := by decide +kernel
theorem dX5_gentlestPlace_69 : decode cX5_gentlestPlace 69 = .ok (.iload 5, 2) := by decide +kernel
theorem dX5_gentlestPlace_71 : decode cX5_gentlestPlace 71 = .ok (.bipush 12, 2) := by decide +kernel
theorem dX5_gentlestPlace_73 : decode cX5_gentlestPlace 73 = .ok (.irem, 1) := by decide +kernel
theorem dX5_gentlestPlace_74 : decode cX5_gentlestPlace 74 = .ok (.iadd, 1) := by decide +kernel
theorem dX5_gentlestPlace_75 : decode cX5_gentlestPlace 75 = .ok (.goto 4, 3) := by decide +kernel
theorem dX5_gentlestPlace_78 : decode cX5_gentlestPlace 78 = .ok (.iload_n 3, 1) := by decide +kernel
theorem dX5_gentlestPlace_79 : decode cX5_gentlestPlace 79 = .ok (.istore_n 3, 1) := by decide +kernel
theorem dX5_gentlestPlace_80 : decode cX5_gentlestPlace 80 = .ok (.iload 7, 2) := by decide +kernel
theorem dX5_gentlestPlace_82 : decode cX5_gentlestPlace 82 = .ok (.ifCond .eq 8, 3) := by decide +kernel
theorem dX5_gentlestPlace_85 : decode cX5_gentlestPlace 85 = .ok (.iload 6, 2) := by decide +kernel
theorem dX5_gentlestPlace_87 : decode cX5_gentlestPlace 87 = .ok (.goto 5, 3) := by decide +kernel
theorem dX5_gentlestPlace_90 : decode cX5_gentlestPlace 90 = .ok (.iload 4, 2) := by decide +kernel
theorem dX5_gentlestPlace_92 : decode cX5_gentlestPlace 92 = .ok (.istore 4, 2) := by decide +kernel
theorem dX5_gentlestPlace_94 : decode cX5_gentlestPlace 94 = .ok (.iinc 5 1, 3) := by decide +kernel
theorem dX5_gentlestPlace_97 : decode cX5_gentlestPlace 97 = .ok (.goto (-88), 3) := by decide +kernel
theorem dX5_gentlestPlace_100 : decode cX5_gentlestPlace 100 = .ok (.iload_n 3, 1) := by decide +kernel
theorem dX5_gentlestPlace_101 : decode cX5_gentlestPlace 101 = .ok (.ireturn, 1) := by decide +kernel
theorem dX5_gentlest_0 : decode cX5_gentlest 0 = .ok (.aload_n 0, 1) := by decide +kernel
theorem dX5_gentlest_1 : decode cX5_gentlest 1 = .ok (.iconst 0, 1) := by decide +kernel
theorem dX5_gentlest_2 : decode cX5_gentlest 2 = .ok (.putfield 35, 3) := by decide +kernel
theorem dX5_gentlest_5 : decode cX5_gentlest 5 = .ok (.iload_n 1, 1) := by decide +kernel
theorem dX5_gentlest_6 : decode cX5_gentlest 6 = .ok (.invokestatic 94, 3) := by decide +kernel
theorem dX5_gentlest_9 : decode cX5_gentlest 9 = .ok (.ifCond .ne 9, 3) := by decide +kernel
theorem dX5_gentlest_12 : decode cX5_gentlest 12 = .ok (.aload_n 0, 1) := by decide +kernel
theorem dX5_gentlest_13 : decode cX5_gentlest 13 = .ok (.iconst 1, 1) := by decide +kernel
theorem dX5_gentlest_14 : decode cX5_gentlest 14 = .ok (.invokevirtual 101, 3) := by decide +kernel
theorem dX5_gentlest_17 : decode cX5_gentlest 17 = .ok (.ireturn, 1) := by decide +kernel
theorem dX5_gentlest_18 : decode cX5_gentlest 18 = .ok (.iload_n 2, 1) := by decide +kernel
theorem dX5_gentlest_19 : decode cX5_gentlest 19 = .ok (.iconst 0, 1) := by decide +kernel
theorem dX5_gentlest_20 : decode cX5_gentlest 20 = .ok (.bipush 7, 2) := by decide +kernel
theorem dX5_gentlest_22 : decode cX5_gentlest 22 = .ok (.invokestatic 39, 3) := by decide +kernel
theorem dX5_gentlest_25 : decode cX5_gentlest 25 = .ok (.ifCond .eq 12, 3) := by decide +kernel
theorem dX5_gentlest_28 : decode cX5_gentlest 28 = .ok (.aload_n 0, 1) := by decide +kernel
theorem dX5_gentlest_29 : decode cX5_gentlest 29 = .ok (.iload_n 1, 1) := by decide +kernel
theorem dX5_gentlest_30 : decode cX5_gentlest 30 = .ok (.iload_n 2, 1) := by decide +kernel
theorem dX5_gentlest_31 : decode cX5_gentlest 31 = .ok (.invokevirtual 175, 3) := by decide +kernel
theorem dX5_gentlest_34 : decode cX5_gentlest 34 = .ok (.goto 8, 3) := by decide +kernel
theorem dX5_gentlest_37 : decode cX5_gentlest 37 = .ok (.aload_n 0, 1) := by decide +kernel
theorem dX5_gentlest_38 : decode cX5_gentlest 38 = .ok (.iconst 2, 1) := by decide +kernel
theorem dX5_gentlest_39 : decode cX5_gentlest 39 = .ok (.invokevirtual 101, 3) := by decide +kernel
theorem dX5_gentlest_42 : decode cX5_gentlest 42 = .ok (.ireturn, 1) := by decide +kernel
theorem dX5_wouldFold_0 : decode cX5_wouldFold 0 = .ok (.aload_n 0, 1) := by decide +kernel
theorem dX5_wouldFold_1 : decode cX5_wouldFold 1 = .ok (.invokevirtual 165, 3) := by decide +kernel
theorem dX5_wouldFold_4 : decode cX5_wouldFold 4 = .ok (.aload_n 0, 1) := by decide +kernel
theorem dX5_wouldFold_5 : decode cX5_wouldFold 5 = .ok (.iload_n 1, 1) := by decide +kernel
theorem dX5_wouldFold_6 : decode cX5_wouldFold 6 = .ok (.invokevirtual 119, 3) := by decide +kernel
theorem dX5_wouldFold_9 : decode cX5_wouldFold 9 = .ok (.istore_n 2, 1) := by decide +kernel
theorem dX5_wouldFold_10 : decode cX5_wouldFold 10 = .ok (.aload_n 0, 1) := by decide +kernel
theorem dX5_wouldFold_11 : decode cX5_wouldFold 11 = .ok (.invokevirtual 168, 3) := by decide +kernel
theorem dX5_wouldFold_14 : decode cX5_wouldFold 14 = .ok (.iload_n 2, 1) := by decide +kernel
theorem dX5_wouldFold_15 : decode cX5_wouldFold 15 = .ok (.ireturn, 1) := by decide +kernel
theorem dX5_ifFolded_0 : decode cX5_ifFolded 0 = .ok (.aload_n 0, 1) := by decide +kernel
theorem dX5_ifFolded_1 : decode cX5_ifFolded 1 = .ok (.iconst 0, 1) := by decide +kernel
theorem dX5_ifFolded_2 : decode cX5_ifFolded 2 = .ok (.putfield 35, 3) := by decide +kernel
theorem dX5_ifFolded_5 : decode cX5_ifFolded 5 = .ok (.iload_n 1, 1) := by decide +kernel
theorem dX5_ifFolded_6 : decode cX5_ifFolded 6 = .ok (.iconst 1, 1) := by decide +kernel
theorem dX5_ifFolded_7 : decode cX5_ifFolded 7 = .ok (.bipush 11, 2) := by decide +kernel
theorem dX5_ifFolded_9 : decode cX5_ifFolded 9 = .ok (.invokestatic 39, 3) := by decide +kernel
theorem dX5_ifFolded_12 : decode cX5_ifFolded 12 = .ok (.ifCond .eq 11, 3) := by decide +kernel
theorem dX5_ifFolded_15 : decode cX5_ifFolded 15 = .ok (.aload_n 0, 1) := by decide +kernel
theorem dX5_ifFolded_16 : decode cX5_ifFolded 16 = .ok (.iload_n 1, 1) := by decide +kernel
theorem dX5_ifFolded_17 : decode cX5_ifFolded 17 = .ok (.invokevirtual 178, 3) := by decide +kernel
theorem dX5_ifFolded_20 : decode cX5_ifFolded 20 = .ok (.goto 8, 3) := by decide +kernel
theorem dX5_ifFolded_23 : decode cX5_ifFolded 23 = .ok (.aload_n 0, 1) := by decide +kernel
theorem dX5_ifFolded_24 : decode cX5_ifFolded 24 = .ok (.iconst 1, 1) := by decide +kernel
theorem dX5_ifFolded_25 : decode cX5_ifFolded 25 = .ok (.invokevirtual 101, 3) := by decide +kernel
theorem dX5_ifFolded_28 : decode cX5_ifFolded 28 = .ok (.ireturn, 1) := by decide +kernel
theorem dX5_best_0 : decode cX5_best 0 = .ok (.iconst 1, 1) := by decide +kernel
theorem dX5_best_1 : decode cX5_best 1 = .ok (.istore_n 1, 1) := by decide +kernel
theorem dX5_best_2 : decode cX5_best 2 = .ok (.iconst 2, 1) := by decide +kernel
theorem dX5_best_3 : decode cX5_best 3 = .ok (.istore_n 2, 1) := by decide +kernel
theorem dX5_best_4 : decode cX5_best 4 = .ok (.iload_n 2, 1) := by decide +kernel
theorem dX5_best_5 : decode cX5_best 5 = .ok (.bipush 12, 2) := by decide +kernel
theorem dX5_best_7 : decode cX5_best 7 = .ok (.if_icmp .ge 28, 3) := by decide +kernel
theorem dX5_best_10 : decode cX5_best 10 = .ok (.aload_n 0, 1) := by decide +kernel
theorem dX5_best_11 : decode cX5_best 11 = .ok (.iload_n 2, 1) := by decide +kernel
theorem dX5_best_12 : decode cX5_best 12 = .ok (.invokevirtual 178, 3) := by decide +kernel
theorem dX5_best_15 : decode cX5_best 15 = .ok (.aload_n 0, 1) := by decide +kernel
theorem dX5_best_16 : decode cX5_best 16 = .ok (.iload_n 1, 1) := by decide +kernel
theorem dX5_best_17 : decode cX5_best 17 = .ok (.invokevirtual 178, 3) := by decide +kernel
theorem dX5_best_20 : decode cX5_best 20 = .ok (.if_icmp .ge 7, 3) := by decide +kernel
theorem dX5_best_23 : decode cX5_best 23 = .ok (.iload_n 2, 1) := by decide +kernel
theorem dX5_best_24 : decode cX5_best 24 = .ok (.goto 4, 3) := by decide +kernel
theorem dX5_best_27 : decode cX5_best 27 = .ok (.iload_n 1, 1) := by decide +kernel
theorem dX5_best_28 : decode cX5_best 28 = .ok (.istore_n 1, 1) := by decide +kernel
theorem dX5_best_29 : decode cX5_best 29 = .ok (.iinc 2 1, 3) := by decide +kernel
theorem dX5_best_32 : decode cX5_best 32 = .ok (.goto (-28), 3) := by decide +kernel
theorem dX5_best_35 : decode cX5_best 35 = .ok (.iload_n 1, 1) := by decide +kernel
theorem dX5_best_36 : decode cX5_best 36 = .ok (.ireturn, 1) := by decide +kernel
theorem dX5_bestFold_0 : decode cX5_bestFold 0 = .ok (.aload_n 0, 1) := by decide +kernel
theorem dX5_bestFold_1 : decode cX5_bestFold 1 = .ok (.iconst 0, 1) := by decide +kernel
theorem dX5_bestFold_2 : decode cX5_bestFold 2 = .ok (.putfield 35, 3) := by decide +kernel
theorem dX5_bestFold_5 : decode cX5_bestFold 5 = .ok (.aload_n 0, 1) := by decide +kernel
theorem dX5_bestFold_6 : decode cX5_bestFold 6 = .ok (.invokevirtual 181, 3) := by decide +kernel
theorem dX5_bestFold_9 : decode cX5_bestFold 9 = .ok (.ireturn, 1) := by decide +kernel
theorem dX5_areAlike_0 : decode cX5_areAlike 0 = .ok (.iconst 1, 1) := by decide +kernel
theorem dX5_areAlike_1 : decode cX5_areAlike 1 = .ok (.istore 4, 2) := by decide +kernel
theorem dX5_areAlike_3 : decode cX5_areAlike 3 = .ok (.iconst 0, 1) := by decide +kernel
theorem dX5_areAlike_4 : decode cX5_areAlike 4 = .ok (.istore 5, 2) := by decide +kernel
theorem dX5_areAlike_6 : decode cX5_areAlike 6 = .ok (.iload 5, 2) := by decide +kernel
theorem dX5_areAlike_8 : decode cX5_areAlike 8 = .ok (.bipush 25, 2) := by decide +kernel
theorem dX5_areAlike_10 : decode cX5_areAlike 10 = .ok (.if_icmp .ge 52, 3) := by decide +kernel
theorem dX5_areAlike_13 : decode cX5_areAlike 13 = .ok (.iload 4, 2) := by decide +kernel
theorem dX5_areAlike_15 : decode cX5_areAlike 15 = .ok (.ifCond .eq 38, 3) := by decide +kernel
theorem dX5_areAlike_18 : decode cX5_areAlike 18 = .ok (.aload_n 0, 1) := by decide +kernel
theorem dX5_areAlike_19 : decode cX5_areAlike 19 = .ok (.iload_n 1, 1) := by decide +kernel
theorem dX5_areAlike_20 : decode cX5_areAlike 20 = .ok (.iload 5, 2) := by decide +kernel
theorem dX5_areAlike_22 : decode cX5_areAlike 22 = .ok (.iconst 5, 1) := by decide +kernel
theorem dX5_areAlike_23 : decode cX5_areAlike 23 = .ok (.irem, 1) := by decide +kernel
theorem dX5_areAlike_24 : decode cX5_areAlike 24 = .ok (.iload 5, 2) := by decide +kernel
theorem dX5_areAlike_26 : decode cX5_areAlike 26 = .ok (.iconst 5, 1) := by decide +kernel
theorem dX5_areAlike_27 : decode cX5_areAlike 27 = .ok (.idiv, 1) := by decide +kernel
theorem dX5_areAlike_28 : decode cX5_areAlike 28 = .ok (.iload_n 3, 1) := by decide +kernel
theorem dX5_areAlike_29 : decode cX5_areAlike 29 = .ok (.invokevirtual 80, 3) := by decide +kernel
theorem dX5_areAlike_32 : decode cX5_areAlike 32 = .ok (.aload_n 0, 1) := by decide +kernel
theorem dX5_areAlike_33 : decode cX5_areAlike 33 = .ok (.iload_n 2, 1) := by decide +kernel
theorem dX5_areAlike_34 : decode cX5_areAlike 34 = .ok (.iload 5, 2) := by decide +kernel
theorem dX5_areAlike_36 : decode cX5_areAlike 36 = .ok (.iconst 5, 1) := by decide +kernel
theorem dX5_areAlike_37 : decode cX5_areAlike 37 = .ok (.irem, 1) := by decide +kernel
theorem dX5_areAlike_38 : decode cX5_areAlike 38 = .ok (.iload 5, 2) := by decide +kernel
theorem dX5_areAlike_40 : decode cX5_areAlike 40 = .ok (.iconst 5, 1) := by decide +kernel
theorem dX5_areAlike_41 : decode cX5_areAlike 41 = .ok (.idiv, 1) := by decide +kernel
theorem dX5_areAlike_42 : decode cX5_areAlike 42 = .ok (.iconst 0, 1) := by decide +kernel
theorem dX5_areAlike_43 : decode cX5_areAlike 43 = .ok (.invokevirtual 80, 3) := by decide +kernel
theorem dX5_areAlike_46 : decode cX5_areAlike 46 = .ok (.if_icmp .ne 7, 3) := by decide +kernel
theorem dX5_areAlike_49 : decode cX5_areAlike 49 = .ok (.iconst 1, 1) := by decide +kernel
theorem dX5_areAlike_50 : decode cX5_areAlike 50 = .ok (.goto 4, 3) := by decide +kernel
theorem dX5_areAlike_53 : decode cX5_areAlike 53 = .ok (.iconst 0, 1) := by decide +kernel
theorem dX5_areAlike_54 : decode cX5_areAlike 54 = .ok (.istore 4, 2) := by decide +kernel
theorem dX5_areAlike_56 : decode cX5_areAlike 56 = .ok (.iinc 5 1, 3) := by decide +kernel
theorem dX5_areAlike_59 : decode cX5_areAlike 59 = .ok (.goto (-53), 3) := by decide +kernel
theorem dX5_areAlike_62 : decode cX5_areAlike 62 = .ok (.iload 4, 2) := by decide +kernel
theorem dX5_areAlike_64 : decode cX5_areAlike 64 = .ok (.ireturn, 1) := by decide +kernel
theorem dX5_alikeBy_0 : decode cX5_alikeBy 0 = .ok (.iconst 0, 1) := by decide +kernel
theorem dX5_alikeBy_1 : decode cX5_alikeBy 1 = .ok (.istore_n 3, 1) := by decide +kernel
theorem dX5_alikeBy_2 : decode cX5_alikeBy 2 = .ok (.iload_n 3, 1) := by decide +kernel
theorem dX5_alikeBy_3 : decode cX5_alikeBy 3 = .ok (.bipush 8, 2) := by decide +kernel
theorem dX5_alikeBy_5 : decode cX5_alikeBy 5 = .ok (.if_icmp .ge 21, 3) := by decide +kernel
theorem dX5_alikeBy_8 : decode cX5_alikeBy 8 = .ok (.aload_n 0, 1) := by decide +kernel
theorem dX5_alikeBy_9 : decode cX5_alikeBy 9 = .ok (.iload_n 1, 1) := by decide +kernel
theorem dX5_alikeBy_10 : decode cX5_alikeBy 10 = .ok (.iload_n 2, 1) := by decide +kernel
theorem dX5_alikeBy_11 : decode cX5_alikeBy 11 = .ok (.iload_n 3, 1) := by decide +kernel
theorem dX5_alikeBy_12 : decode cX5_alikeBy 12 = .ok (.invokevirtual 184, 3) := by decide +kernel
theorem dX5_alikeBy_15 : decode cX5_alikeBy 15 = .ok (.ifCond .eq 5, 3) := by decide +kernel
theorem dX5_alikeBy_18 : decode cX5_alikeBy 18 = .ok (.iload_n 3, 1) := by decide +kernel
theorem dX5_alikeBy_19 : decode cX5_alikeBy 19 = .ok (.ireturn, 1) := by decide +kernel
theorem dX5_alikeBy_20 : decode cX5_alikeBy 20 = .ok (.iinc 3 1, 3) := by decide +kernel
theorem dX5_alikeBy_23 : decode cX5_alikeBy 23 = .ok (.goto (-21), 3) := by decide +kernel
theorem dX5_alikeBy_26 : decode cX5_alikeBy 26 = .ok (.iconst (-1), 1) := by decide +kernel
theorem dX5_alikeBy_27 : decode cX5_alikeBy 27 = .ok (.ireturn, 1) := by decide +kernel
theorem dX5_alike_0 : decode cX5_alike 0 = .ok (.aload_n 0, 1) := by decide +kernel
theorem dX5_alike_1 : decode cX5_alike 1 = .ok (.iconst 0, 1) := by decide +kernel
theorem dX5_alike_2 : decode cX5_alike 2 = .ok (.putfield 35, 3) := by decide +kernel
theorem dX5_alike_5 : decode cX5_alike 5 = .ok (.iload_n 1, 1) := by decide +kernel
theorem dX5_alike_6 : decode cX5_alike 6 = .ok (.invokestatic 94, 3) := by decide +kernel
theorem dX5_alike_9 : decode cX5_alike 9 = .ok (.ifCond .eq 19, 3) := by decide +kernel
theorem dX5_alike_12 : decode cX5_alike 12 = .ok (.iload_n 2, 1) := by decide +kernel
theorem dX5_alike_13 : decode cX5_alike 13 = .ok (.invokestatic 94, 3) := by decide +kernel
theorem dX5_alike_16 : decode cX5_alike 16 = .ok (.ifCond .eq 12, 3) := by decide +kernel
theorem dX5_alike_19 : decode cX5_alike 19 = .ok (.aload_n 0, 1) := by decide +kernel
theorem dX5_alike_20 : decode cX5_alike 20 = .ok (.iload_n 1, 1) := by decide +kernel
theorem dX5_alike_21 : decode cX5_alike 21 = .ok (.iload_n 2, 1) := by decide +kernel
theorem dX5_alike_22 : decode cX5_alike 22 = .ok (.invokevirtual 187, 3) := by decide +kernel
theorem dX5_alike_25 : decode cX5_alike 25 = .ok (.goto 8, 3) := by decide +kernel
theorem dX5_alike_28 : decode cX5_alike 28 = .ok (.aload_n 0, 1) := by decide +kernel
theorem dX5_alike_29 : decode cX5_alike 29 = .ok (.iconst 1, 1) := by decide +kernel
theorem dX5_alike_30 : decode cX5_alike 30 = .ok (.invokevirtual 101, 3) := by decide +kernel
theorem dX5_alike_33 : decode cX5_alike 33 = .ok (.ireturn, 1) := by decide +kernel
theorem dX5_neededFor_0 : decode cX5_neededFor 0 = .ok (.aload_n 0, 1) := by decide +kernel
theorem dX5_neededFor_1 : decode cX5_neededFor 1 = .ok (.getfield 7, 3) := by decide +kernel
theorem dX5_neededFor_4 : decode cX5_neededFor 4 = .ok (.iconst 0, 1) := by decide +kernel
theorem dX5_neededFor_5 : decode cX5_neededFor 5 = .ok (.iaload, 1) := by decide +kernel
theorem dX5_neededFor_6 : decode cX5_neededFor 6 = .ok (.istore 5, 2) := by decide +kernel
theorem dX5_neededFor_8 : decode cX5_neededFor 8 = .ok (.iconst (-1), 1) := by decide +kernel
theorem dX5_neededFor_9 : decode cX5_neededFor 9 = .ok (.istore 6, 2) := by decide +kernel
theorem dX5_neededFor_11 : decode cX5_neededFor 11 = .ok (.bipush 99, 2) := by decide +kernel
theorem dX5_neededFor_13 : decode cX5_neededFor 13 = .ok (.istore 7, 2) := by decide +kernel
theorem dX5_neededFor_15 : decode cX5_neededFor 15 = .ok (.iload 7, 2) := by decide +kernel
theorem dX5_neededFor_17 : decode cX5_neededFor 17 = .ok (.ifCond .lt 40, 3) := by decide +kernel
theorem dX5_neededFor_20 : decode cX5_neededFor 20 = .ok (.aload_n 0, 1) := by decide +kernel
theorem dX5_neededFor_21 : decode cX5_neededFor 21 = .ok (.getfield 7, 3) := by decide +kernel
theorem dX5_neededFor_24 : decode cX5_neededFor 24 = .ok (.iconst 0, 1) := by decide +kernel
theorem dX5_neededFor_25 : decode cX5_neededFor 25 = .ok (.iload 7, 2) := by decide +kernel
theorem dX5_neededFor_27 : decode cX5_neededFor 27 = .ok (.iastore, 1) := by decide +kernel
theorem dX5_neededFor_28 : decode cX5_neededFor 28 = .ok (.aload_n 0, 1) := by decide +kernel
theorem dX5_neededFor_29 : decode cX5_neededFor 29 = .ok (.iload_n 1, 1) := by decide +kernel
theorem dX5_neededFor_30 : decode cX5_neededFor 30 = .ok (.iload_n 2, 1) := by decide +kernel
theorem dX5_neededFor_31 : decode cX5_neededFor 31 = .ok (.iload_n 3, 1) := by decide +kernel
theorem dX5_neededFor_32 : decode cX5_neededFor 32 = .ok (.iload 4, 2) := by decide +kernel
theorem dX5_neededFor_34 : decode cX5_neededFor 34 = .ok (.invokevirtual 171, 3) := by decide +kernel
theorem dX5_neededFor_37 : decode cX5_neededFor 37 = .ok (.bipush 100, 2) := by decide +kernel
theorem dX5_neededFor_39 : decode cX5_neededFor 39 = .ok (.if_icmp .ne 8, 3) := by decide +kernel
theorem dX5_neededFor_42 : decode cX5_neededFor 42 = .ok (.iload 7, 2) := by decide +kernel
theorem dX5_neededFor_44 : decode cX5_neededFor 44 = .ok (.goto 5, 3) := by decide +kernel
theorem dX5_neededFor_47 : decode cX5_neededFor 47 = .ok (.iload 6, 2) := by decide +kernel
theorem dX5_neededFor_49 : decode cX5_neededFor 49 = .ok (.istore 6, 2) := by decide +kernel
theorem dX5_neededFor_51 : decode cX5_neededFor 51 = .ok (.iinc 7 (-1), 3) := by decide +kernel
theorem dX5_neededFor_54 : decode cX5_neededFor 54 = .ok (.goto (-39), 3) := by decide +kernel
theorem dX5_neededFor_57 : decode cX5_neededFor 57 = .ok (.aload_n 0, 1) := by decide +kernel
theorem dX5_neededFor_58 : decode cX5_neededFor 58 = .ok (.getfield 7, 3) := by decide +kernel
theorem dX5_neededFor_61 : decode cX5_neededFor 61 = .ok (.iconst 0, 1) := by decide +kernel
theorem dX5_neededFor_62 : decode cX5_neededFor 62 = .ok (.iload 5, 2) := by decide +kernel
theorem dX5_neededFor_64 : decode cX5_neededFor 64 = .ok (.iastore, 1) := by decide +kernel
theorem dX5_neededFor_65 : decode cX5_neededFor 65 = .ok (.iload 6, 2) := by decide +kernel
theorem dX5_neededFor_67 : decode cX5_neededFor 67 = .ok (.ireturn, 1) := by decide +kernel
theorem dX5_needed_0 : decode cX5_needed 0 = .ok (.aload_n 0, 1) := by decide +kernel
theorem dX5_needed_1 : decode cX5_needed 1 = .ok (.iconst 0, 1) := by decide +kernel
theorem dX5_needed_2 : decode cX5_needed 2 = .ok (.putfield 35, 3) := by decide +kernel
theorem dX5_needed_5 : decode cX5_needed 5 = .ok (.iload_n 1, 1) := by decide +kernel
theorem dX5_needed_6 : decode cX5_needed 6 = .ok (.invokestatic 94, 3) := by decide +kernel
theorem dX5_needed_9 : decode cX5_needed 9 = .ok (.ifCond .ne 9, 3) := by decide +kernel
theorem dX5_needed_12 : decode cX5_needed 12 = .ok (.aload_n 0, 1) := by decide +kernel
theorem dX5_needed_13 : decode cX5_needed 13 = .ok (.iconst 1, 1) := by decide +kernel
theorem dX5_needed_14 : decode cX5_needed 14 = .ok (.invokevirtual 101, 3) := by decide +kernel
theorem dX5_needed_17 : decode cX5_needed 17 = .ok (.ireturn, 1) := by decide +kernel
theorem dX5_needed_18 : decode cX5_needed 18 = .ok (.iload 4, 2) := by decide +kernel
theorem dX5_needed_20 : decode cX5_needed 20 = .ok (.iconst 0, 1) := by decide +kernel
theorem dX5_needed_21 : decode cX5_needed 21 = .ok (.bipush 7, 2) := by decide +kernel
theorem dX5_needed_23 : decode cX5_needed 23 = .ok (.invokestatic 39, 3) := by decide +kernel
theorem dX5_needed_26 : decode cX5_needed 26 = .ok (.ifCond .eq 15, 3) := by decide +kernel
theorem dX5_needed_29 : decode cX5_needed 29 = .ok (.aload_n 0, 1) := by decide +kernel
theorem dX5_needed_30 : decode cX5_needed 30 = .ok (.iload_n 1, 1) := by decide +kernel
theorem dX5_needed_31 : decode cX5_needed 31 = .ok (.iload_n 2, 1) := by decide +kernel
theorem dX5_needed_32 : decode cX5_needed 32 = .ok (.iload_n 3, 1) := by decide +kernel
theorem dX5_needed_33 : decode cX5_needed 33 = .ok (.iload 4, 2) := by decide +kernel
theorem dX5_needed_35 : decode cX5_needed 35 = .ok (.invokevirtual 190, 3) := by decide +kernel
theorem dX5_needed_38 : decode cX5_needed 38 = .ok (.goto 8, 3) := by decide +kernel
theorem dX5_needed_41 : decode cX5_needed 41 = .ok (.aload_n 0, 1) := by decide +kernel
theorem dX5_needed_42 : decode cX5_needed 42 = .ok (.iconst 2, 1) := by decide +kernel
theorem dX5_needed_43 : decode cX5_needed 43 = .ok (.invokevirtual 101, 3) := by decide +kernel
theorem dX5_needed_46 : decode cX5_needed 46 = .ok (.ireturn, 1) := by decide +kernel
theorem dX5_share_0 : decode cX5_share 0 = .ok (.sipush 144, 3) := by decide +kernel
theorem dX5_share_3 : decode cX5_share 3 = .ok (.aload_n 0, 1) := by decide +kernel
theorem dX5_share_4 : decode cX5_share 4 = .ok (.invokevirtual 110, 3) := by decide +kernel
theorem dX5_share_7 : decode cX5_share 7 = .ok (.isub, 1) := by decide +kernel
theorem dX5_share_8 : decode cX5_share 8 = .ok (.i2d, 1) := by decide +kernel
theorem dX5_share_9 : decode cX5_share 9 = .ok (.ldc2_w 193, 3) := by decide +kernel
theorem dX5_share_12 : decode cX5_share 12 = .ok (.ddiv, 1) := by decide +kernel
theorem dX5_share_13 : decode cX5_share 13 = .ok (.dreturn, 1) := by decide +kernel
theorem dX5_wholeShare_0 : decode cX5_wholeShare 0 = .ok (.aload_n 0, 1) := by decide +kernel
theorem dX5_wholeShare_1 : decode cX5_wholeShare 1 = .ok (.iconst 0, 1) := by decide +kernel
theorem dX5_wholeShare_2 : decode cX5_wholeShare 2 = .ok (.putfield 35, 3) := by decide +kernel
theorem dX5_wholeShare_5 : decode cX5_wholeShare 5 = .ok (.aload_n 0, 1) := by decide +kernel
theorem dX5_wholeShare_6 : decode cX5_wholeShare 6 = .ok (.invokevirtual 195, 3) := by decide +kernel
theorem dX5_wholeShare_9 : decode cX5_wholeShare 9 = .ok (.dreturn, 1) := by decide +kernel
theorem dX5_hashes_0 : decode cX5_hashes 0 = .ok (.aload_n 0, 1) := by decide +kernel
theorem dX5_hashes_1 : decode cX5_hashes 1 = .ok (.ldc2_w 199, 3) := by decide +kernel
theorem dX5_hashes_4 : decode cX5_hashes 4 = .ok (.aload_n 0, 1) := by decide +kernel
theorem dX5_hashes_5 : decode cX5_hashes 5 = .ok (.getfield 201, 3) := by decide +kernel
theorem dX5_hashes_8 : decode cX5_hashes 8 = .ok (.lmul, 1) := by decide +kernel
theorem dX5_hashes_9 : decode cX5_hashes 9 = .ok (.lload_n 1, 1) := by decide +kernel
theorem dX5_hashes_10 : decode cX5_hashes 10 = .ok (.ladd, 1) := by decide +kernel
theorem dX5_hashes_11 : decode cX5_hashes 11 = .ok (.putfield 201, 3) := by decide +kernel
theorem dX5_hashes_14 : decode cX5_hashes 14 = .ok (.return_, 1) := by decide +kernel
theorem dX5_hashesDie_0 : decode cX5_hashesDie 0 = .ok (.aload_n 0, 1) := by decide +kernel
theorem dX5_hashesDie_1 : decode cX5_hashesDie 1 = .ok (.aload_n 0, 1) := by decide +kernel
theorem dX5_hashesDie_2 : decode cX5_hashesDie 2 = .ok (.iload_n 1, 1) := by decide +kernel
theorem dX5_hashesDie_3 : decode cX5_hashesDie 3 = .ok (.iconst 3, 1) := by decide +kernel
theorem dX5_hashesDie_4 : decode cX5_hashesDie 4 = .ok (.iconst 4, 1) := by decide +kernel
theorem dX5_hashesDie_5 : decode cX5_hashesDie 5 = .ok (.iconst 0, 1) := by decide +kernel
theorem dX5_hashesDie_6 : decode cX5_hashesDie 6 = .ok (.invokevirtual 171, 3) := by decide +kernel
theorem dX5_hashesDie_9 : decode cX5_hashesDie 9 = .ok (.i2l, 1) := by decide +kernel
theorem dX5_hashesDie_10 : decode cX5_hashesDie 10 = .ok (.invokevirtual 205, 3) := by decide +kernel
theorem dX5_hashesDie_13 : decode cX5_hashesDie 13 = .ok (.aload_n 0, 1) := by decide +kernel
theorem dX5_hashesDie_14 : decode cX5_hashesDie 14 = .ok (.aload_n 0, 1) := by decide +kernel
theorem dX5_hashesDie_15 : decode cX5_hashesDie 15 = .ok (.iload_n 1, 1) := by decide +kernel
theorem dX5_hashesDie_16 : decode cX5_hashesDie 16 = .ok (.iconst 0, 1) := by decide +kernel
theorem dX5_hashesDie_17 : decode cX5_hashesDie 17 = .ok (.invokevirtual 175, 3) := by decide +kernel
theorem dX5_hashesDie_20 : decode cX5_hashesDie 20 = .ok (.i2l, 1) := by decide +kernel
theorem dX5_hashesDie_21 : decode cX5_hashesDie 21 = .ok (.invokevirtual 205, 3) := by decide +kernel
theorem dX5_hashesDie_24 : decode cX5_hashesDie 24 = .ok (.aload_n 0, 1) := by decide +kernel
theorem dX5_hashesDie_25 : decode cX5_hashesDie 25 = .ok (.aload_n 0, 1) := by decide +kernel
theorem dX5_hashesDie_26 : decode cX5_hashesDie 26 = .ok (.iload_n 1, 1) := by decide +kernel
theorem dX5_hashesDie_27 : decode cX5_hashesDie 27 = .ok (.iconst 0, 1) := by decide +kernel
theorem dX5_hashesDie_28 : decode cX5_hashesDie 28 = .ok (.invokevirtual 187, 3) := by decide +kernel
theorem dX5_hashesDie_31 : decode cX5_hashesDie 31 = .ok (.i2l, 1) := by decide +kernel
theorem dX5_hashesDie_32 : decode cX5_hashesDie 32 = .ok (.invokevirtual 205, 3) := by decide +kernel
theorem dX5_hashesDie_35 : decode cX5_hashesDie 35 = .ok (.aload_n 0, 1) := by decide +kernel
theorem dX5_hashesDie_36 : decode cX5_hashesDie 36 = .ok (.aload_n 0, 1) := by decide +kernel
theorem dX5_hashesDie_37 : decode cX5_hashesDie 37 = .ok (.iload_n 1, 1) := by decide +kernel
theorem dX5_hashesDie_38 : decode cX5_hashesDie 38 = .ok (.iconst 3, 1) := by decide +kernel
theorem dX5_hashesDie_39 : decode cX5_hashesDie 39 = .ok (.iconst 4, 1) := by decide +kernel
theorem dX5_hashesDie_40 : decode cX5_hashesDie 40 = .ok (.iconst 0, 1) := by decide +kernel
theorem dX5_hashesDie_41 : decode cX5_hashesDie 41 = .ok (.invokevirtual 190, 3) := by decide +kernel
theorem dX5_hashesDie_44 : decode cX5_hashesDie 44 = .ok (.i2l, 1) := by decide +kernel
theorem dX5_hashesDie_45 : decode cX5_hashesDie 45 = .ok (.invokevirtual 205, 3) := by decide +kernel
theorem dX5_hashesDie_48 : decode cX5_hashesDie 48 = .ok (.return_, 1) := by decide +kernel
theorem dX5_digest_0 : decode cX5_digest 0 = .ok (.aload_n 0, 1) := by decide +kernel
theorem dX5_digest_1 : decode cX5_digest 1 = .ok (.iconst 0, 1) := by decide +kernel
theorem dX5_digest_2 : decode cX5_digest 2 = .ok (.putfield 35, 3) := by decide +kernel
theorem dX5_digest_5 : decode cX5_digest 5 = .ok (.aload_n 0, 1) := by decide +kernel
theorem dX5_digest_6 : decode cX5_digest 6 = .ok (.ldc2_w 209, 3) := by decide +kernel
theorem dX5_digest_9 : decode cX5_digest 9 = .ok (.putfield 201, 3) := by decide +kernel
theorem dX5_digest_12 : decode cX5_digest 12 = .ok (.iconst 0, 1) := by decide +kernel
theorem dX5_digest_13 : decode cX5_digest 13 = .ok (.istore_n 1, 1) := by decide +kernel
theorem dX5_digest_14 : decode cX5_digest 14 = .ok (.iload_n 1, 1) := by decide +kernel
theorem dX5_digest_15 : decode cX5_digest 15 = .ok (.bipush 14, 2) := by decide +kernel
theorem dX5_digest_17 : decode cX5_digest 17 = .ok (.if_icmp .ge 19, 3) := by decide +kernel
theorem dX5_digest_20 : decode cX5_digest 20 = .ok (.aload_n 0, 1) := by decide +kernel
theorem dX5_digest_21 : decode cX5_digest 21 = .ok (.aload_n 0, 1) := by decide +kernel
theorem dX5_digest_22 : decode cX5_digest 22 = .ok (.iload_n 1, 1) := by decide +kernel
theorem dX5_digest_23 : decode cX5_digest 23 = .ok (.invokevirtual 162, 3) := by decide +kernel
theorem dX5_digest_26 : decode cX5_digest 26 = .ok (.i2l, 1) := by decide +kernel
theorem dX5_digest_27 : decode cX5_digest 27 = .ok (.invokevirtual 205, 3) := by decide +kernel
theorem dX5_digest_30 : decode cX5_digest 30 = .ok (.iinc 1 1, 3) := by decide +kernel
theorem dX5_digest_33 : decode cX5_digest 33 = .ok (.goto (-19), 3) := by decide +kernel
theorem dX5_digest_36 : decode cX5_digest 36 = .ok (.iconst 0, 1) := by decide +kernel
theorem dX5_digest_37 : decode cX5_digest 37 = .ok (.istore_n 1, 1) := by decide +kernel
theorem dX5_digest_38 : decode cX5_digest 38 = .ok (.iload_n 1, 1) := by decide +kernel
theorem dX5_digest_39 : decode cX5_digest 39 = .ok (.iconst 4, 1) := by decide +kernel
theorem dX5_digest_40 : decode cX5_digest 40 = .ok (.if_icmp .ge 20, 3) := by decide +kernel
theorem dX5_digest_43 : decode cX5_digest 43 = .ok (.aload_n 0, 1) := by decide +kernel
theorem dX5_digest_44 : decode cX5_digest 44 = .ok (.aload_n 0, 1) := by decide +kernel
theorem dX5_digest_45 : decode cX5_digest 45 = .ok (.getfield 7, 3) := by decide +kernel
theorem dX5_digest_48 : decode cX5_digest 48 = .ok (.iload_n 1, 1) := by decide +kernel
theorem dX5_digest_49 : decode cX5_digest 49 = .ok (.iaload, 1) := by decide +kernel
theorem dX5_digest_50 : decode cX5_digest 50 = .ok (.i2l, 1) := by decide +kernel
theorem dX5_digest_51 : decode cX5_digest 51 = .ok (.invokevirtual 205, 3) := by decide +kernel
theorem dX5_digest_54 : decode cX5_digest 54 = .ok (.iinc 1 1, 3) := by decide +kernel
theorem dX5_digest_57 : decode cX5_digest 57 = .ok (.goto (-19), 3) := by decide +kernel
theorem dX5_digest_60 : decode cX5_digest 60 = .ok (.iconst 0, 1) := by decide +kernel
theorem dX5_digest_61 : decode cX5_digest 61 = .ok (.istore_n 1, 1) := by decide +kernel
theorem dX5_digest_62 : decode cX5_digest 62 = .ok (.iload_n 1, 1) := by decide +kernel
theorem dX5_digest_63 : decode cX5_digest 63 = .ok (.bipush 75, 2) := by decide +kernel
theorem dX5_digest_65 : decode cX5_digest 65 = .ok (.if_icmp .ge 23, 3) := by decide +kernel
theorem dX5_digest_68 : decode cX5_digest 68 = .ok (.aload_n 0, 1) := by decide +kernel
theorem dX5_digest_69 : decode cX5_digest 69 = .ok (.aload_n 0, 1) := by decide +kernel
theorem dX5_digest_70 : decode cX5_digest 70 = .ok (.getfield 7, 3) := by decide +kernel
theorem dX5_digest_73 : decode cX5_digest 73 = .ok (.bipush 16, 2) := by decide +kernel
theorem dX5_digest_75 : decode cX5_digest 75 = .ok (.iload_n 1, 1) := by decide +kernel
theorem dX5_digest_76 : decode cX5_digest 76 = .ok (.iadd, 1) := by decide +kernel
theorem dX5_digest_77 : decode cX5_digest 77 = .ok (.iaload, 1) := by decide +kernel
theorem dX5_digest_78 : decode cX5_digest 78 = .ok (.i2l, 1) := by decide +kernel
theorem dX5_digest_79 : decode cX5_digest 79 = .ok (.invokevirtual 205, 3) := by decide +kernel
theorem dX5_digest_82 : decode cX5_digest 82 = .ok (.iinc 1 1, 3) := by decide +kernel
theorem dX5_digest_85 : decode cX5_digest 85 = .ok (.goto (-23), 3) := by decide +kernel
theorem dX5_digest_88 : decode cX5_digest 88 = .ok (.iconst 0, 1) := by decide +kernel
theorem dX5_digest_89 : decode cX5_digest 89 = .ok (.istore_n 1, 1) := by decide +kernel
theorem dX5_digest_90 : decode cX5_digest 90 = .ok (.iload_n 1, 1) := by decide +kernel
theorem dX5_digest_91 : decode cX5_digest 91 = .ok (.sipush 1008, 3) := by decide +kernel
theorem dX5_digest_94 : decode cX5_digest 94 = .ok (.if_icmp .ge 36, 3) := by decide +kernel
theorem dX5_digest_97 : decode cX5_digest 97 = .ok (.aload_n 0, 1) := by decide +kernel
theorem dX5_digest_98 : decode cX5_digest 98 = .ok (.aload_n 0, 1) := by decide +kernel
theorem dX5_digest_99 : decode cX5_digest 99 = .ok (.iload_n 1, 1) := by decide +kernel
theorem dX5_digest_100 : decode cX5_digest 100 = .ok (.bipush 7, 2) := by decide +kernel
theorem dX5_digest_102 : decode cX5_digest 102 = .ok (.idiv, 1) := by decide +kernel
theorem dX5_digest_103 : decode cX5_digest 103 = .ok (.bipush 12, 2) := by decide +kernel
theorem dX5_digest_105 : decode cX5_digest 105 = .ok (.irem, 1) := by decide +kernel
theorem dX5_digest_106 : decode cX5_digest 106 = .ok (.iload_n 1, 1) := by decide +kernel
theorem dX5_digest_107 : decode cX5_digest 107 = .ok (.bipush 7, 2) := by decide +kernel
theorem dX5_digest_109 : decode cX5_digest 109 = .ok (.idiv, 1) := by decide +kernel
theorem dX5_digest_110 : decode cX5_digest 110 = .ok (.bipush 12, 2) := by decide +kernel
theorem dX5_digest_112 : decode cX5_digest 112 = .ok (.idiv, 1) := by decide +kernel
theorem dX5_digest_113 : decode cX5_digest 113 = .ok (.iload_n 1, 1) := by decide +kernel
theorem dX5_digest_114 : decode cX5_digest 114 = .ok (.bipush 7, 2) := by decide +kernel
theorem dX5_digest_116 : decode cX5_digest 116 = .ok (.irem, 1) := by decide +kernel
theorem dX5_digest_117 : decode cX5_digest 117 = .ok (.invokevirtual 146, 3) := by decide +kernel
theorem dX5_digest_120 : decode cX5_digest 120 = .ok (.i2l, 1) := by decide +kernel
theorem dX5_digest_121 : decode cX5_digest 121 = .ok (.invokevirtual 205, 3) := by decide +kernel
theorem dX5_digest_124 : decode cX5_digest 124 = .ok (.iinc 1 1, 3) := by decide +kernel
theorem dX5_digest_127 : decode cX5_digest 127 = .ok (.goto (-37), 3) := by decide +kernel
theorem dX5_digest_130 : decode cX5_digest 130 = .ok (.iconst 0, 1) := by decide +kernel
theorem dX5_digest_131 : decode cX5_digest 131 = .ok (.istore_n 1, 1) := by decide +kernel
theorem dX5_digest_132 : decode cX5_digest 132 = .ok (.iload_n 1, 1) := by decide +kernel
theorem dX5_digest_133 : decode cX5_digest 133 = .ok (.iconst 3, 1) := by decide +kernel
theorem dX5_digest_134 : decode cX5_digest 134 = .ok (.if_icmp .ge 14, 3) := by decide +kernel
theorem dX5_digest_137 : decode cX5_digest 137 = .ok (.aload_n 0, 1) := by decide +kernel
theorem dX5_digest_138 : decode cX5_digest 138 = .ok (.iload_n 1, 1) := by decide +kernel
theorem dX5_digest_139 : decode cX5_digest 139 = .ok (.invokevirtual 211, 3) := by decide +kernel
theorem dX5_digest_142 : decode cX5_digest 142 = .ok (.iinc 1 1, 3) := by decide +kernel
theorem dX5_digest_145 : decode cX5_digest 145 = .ok (.goto (-13), 3) := by decide +kernel
theorem dX5_digest_148 : decode cX5_digest 148 = .ok (.iconst 1, 1) := by decide +kernel
theorem dX5_digest_149 : decode cX5_digest 149 = .ok (.istore_n 1, 1) := by decide +kernel
theorem dX5_digest_150 : decode cX5_digest 150 = .ok (.iload_n 1, 1) := by decide +kernel
theorem dX5_digest_151 : decode cX5_digest 151 = .ok (.bipush 12, 2) := by decide +kernel
theorem dX5_digest_153 : decode cX5_digest 153 = .ok (.if_icmp .ge 19, 3) := by decide +kernel
theorem dX5_digest_156 : decode cX5_digest 156 = .ok (.aload_n 0, 1) := by decide +kernel
theorem dX5_digest_157 : decode cX5_digest 157 = .ok (.aload_n 0, 1) := by decide +kernel
theorem dX5_digest_158 : decode cX5_digest 158 = .ok (.iload_n 1, 1) := by decide +kernel
theorem dX5_digest_159 : decode cX5_digest 159 = .ok (.invokevirtual 178, 3) := by decide +kernel
theorem dX5_digest_162 : decode cX5_digest 162 = .ok (.i2l, 1) := by decide +kernel
theorem dX5_digest_163 : decode cX5_digest 163 = .ok (.invokevirtual 205, 3) := by decide +kernel
theorem dX5_digest_166 : decode cX5_digest 166 = .ok (.iinc 1 1, 3) := by decide +kernel
theorem dX5_digest_169 : decode cX5_digest 169 = .ok (.goto (-19), 3) := by decide +kernel
theorem dX5_digest_172 : decode cX5_digest 172 = .ok (.aload_n 0, 1) := by decide +kernel
theorem dX5_digest_173 : decode cX5_digest 173 = .ok (.aload_n 0, 1) := by decide +kernel
theorem dX5_digest_174 : decode cX5_digest 174 = .ok (.invokevirtual 181, 3) := by decide +kernel
theorem dX5_digest_177 : decode cX5_digest 177 = .ok (.i2l, 1) := by decide +kernel
theorem dX5_digest_178 : decode cX5_digest 178 = .ok (.invokevirtual 205, 3) := by decide +kernel
theorem dX5_digest_181 : decode cX5_digest 181 = .ok (.aload_n 0, 1) := by decide +kernel
theorem dX5_digest_182 : decode cX5_digest 182 = .ok (.aload_n 0, 1) := by decide +kernel
theorem dX5_digest_183 : decode cX5_digest 183 = .ok (.invokevirtual 195, 3) := by decide +kernel
theorem dX5_digest_186 : decode cX5_digest 186 = .ok (.invokestatic 214, 3) := by decide +kernel
theorem dX5_digest_189 : decode cX5_digest 189 = .ok (.invokevirtual 205, 3) := by decide +kernel
theorem dX5_digest_192 : decode cX5_digest 192 = .ok (.aload_n 0, 1) := by decide +kernel
theorem dX5_digest_193 : decode cX5_digest 193 = .ok (.aload_n 0, 1) := by decide +kernel
theorem dX5_digest_194 : decode cX5_digest 194 = .ok (.getfield 22, 3) := by decide +kernel
theorem dX5_digest_197 : decode cX5_digest 197 = .ok (.iconst 0, 1) := by decide +kernel
theorem dX5_digest_198 : decode cX5_digest 198 = .ok (.baload, 1) := by decide +kernel
theorem dX5_digest_199 : decode cX5_digest 199 = .ok (.ifCond .eq 7, 3) := by decide +kernel
theorem dX5_digest_202 : decode cX5_digest 202 = .ok (.lconst 1, 1) := by decide +kernel
theorem dX5_digest_203 : decode cX5_digest 203 = .ok (.goto 4, 3) := by decide +kernel
theorem dX5_digest_206 : decode cX5_digest 206 = .ok (.lconst 0, 1) := by decide +kernel
theorem dX5_digest_207 : decode cX5_digest 207 = .ok (.invokevirtual 205, 3) := by decide +kernel
theorem dX5_digest_210 : decode cX5_digest 210 = .ok (.aload_n 0, 1) := by decide +kernel
theorem dX5_digest_211 : decode cX5_digest 211 = .ok (.aload_n 0, 1) := by decide +kernel
theorem dX5_digest_212 : decode cX5_digest 212 = .ok (.getfield 22, 3) := by decide +kernel
theorem dX5_digest_215 : decode cX5_digest 215 = .ok (.iconst 1, 1) := by decide +kernel
theorem dX5_digest_216 : decode cX5_digest 216 = .ok (.baload, 1) := by decide +kernel
theorem dX5_digest_217 : decode cX5_digest 217 = .ok (.ifCond .eq 7, 3) := by decide +kernel
theorem dX5_digest_220 : decode cX5_digest 220 = .ok (.lconst 1, 1) := by decide +kernel
theorem dX5_digest_221 : decode cX5_digest 221 = .ok (.goto 4, 3) := by decide +kernel
theorem dX5_digest_224 : decode cX5_digest 224 = .ok (.lconst 0, 1) := by decide +kernel
theorem dX5_digest_225 : decode cX5_digest 225 = .ok (.invokevirtual 205, 3) := by decide +kernel
theorem dX5_digest_228 : decode cX5_digest 228 = .ok (.aload_n 0, 1) := by decide +kernel
theorem dX5_digest_229 : decode cX5_digest 229 = .ok (.aload_n 0, 1) := by decide +kernel
theorem dX5_digest_230 : decode cX5_digest 230 = .ok (.getfield 122, 3) := by decide +kernel
theorem dX5_digest_233 : decode cX5_digest 233 = .ok (.i2l, 1) := by decide +kernel
theorem dX5_digest_234 : decode cX5_digest 234 = .ok (.invokevirtual 205, 3) := by decide +kernel
theorem dX5_digest_237 : decode cX5_digest 237 = .ok (.iconst 0, 1) := by decide +kernel
theorem dX5_digest_238 : decode cX5_digest 238 = .ok (.istore_n 1, 1) := by decide +kernel
theorem dX5_digest_239 : decode cX5_digest 239 = .ok (.iload_n 1, 1) := by decide +kernel
theorem dX5_digest_240 : decode cX5_digest 240 = .ok (.aload_n 0, 1) := by decide +kernel
theorem dX5_digest_241 : decode cX5_digest 241 = .ok (.getfield 122, 3) := by decide +kernel
theorem dX5_digest_244 : decode cX5_digest 244 = .ok (.if_icmp .ge 20, 3) := by decide +kernel
theorem dX5_digest_247 : decode cX5_digest 247 = .ok (.aload_n 0, 1) := by decide +kernel
theorem dX5_digest_248 : decode cX5_digest 248 = .ok (.aload_n 0, 1) := by decide +kernel
theorem dX5_digest_249 : decode cX5_digest 249 = .ok (.getfield 26, 3) := by decide +kernel
theorem dX5_digest_252 : decode cX5_digest 252 = .ok (.iload_n 1, 1) := by decide +kernel
theorem dX5_digest_253 : decode cX5_digest 253 = .ok (.iaload, 1) := by decide +kernel
theorem dX5_digest_254 : decode cX5_digest 254 = .ok (.i2l, 1) := by decide +kernel
theorem dX5_digest_255 : decode cX5_digest 255 = .ok (.invokevirtual 205, 3) := by decide +kernel
theorem dX5_digest_258 : decode cX5_digest 258 = .ok (.iinc 1 1, 3) := by decide +kernel
theorem dX5_digest_261 : decode cX5_digest 261 = .ok (.goto (-22), 3) := by decide +kernel
theorem dX5_digest_264 : decode cX5_digest 264 = .ok (.aload_n 0, 1) := by decide +kernel
theorem dX5_digest_265 : decode cX5_digest 265 = .ok (.getfield 201, 3) := by decide +kernel
theorem dX5_digest_268 : decode cX5_digest 268 = .ok (.lreturn, 1) := by decide +kernel
