theorem dX1_init_0 : decode cX1_init 0 = .ok (.aload_n 0, 1) := by decide +kernel
theorem dX1_init_1 : decode cX1_init 1 = .ok (.invokespecial 1, 3) := by decide +kernel
theorem dX1_init_4 : decode cX1_init 4 = .ok (.aload_n 0, 1) := by decide +kernel
theorem dX1_init_5 : decode cX1_init 5 = .ok (.sipush 512, 3) := by decide +kernel
theorem dX1_init_8 : decode cX1_init 8 = .ok (.newarray .int, 2) := by decide +kernel
theorem dX1_init_10 : decode cX1_init 10 = .ok (.putfield 9, 3) := by decide +kernel
theorem dX1_init_13 : decode cX1_init 13 = .ok (.aload_n 0, 1) := by decide +kernel
theorem dX1_init_14 : decode cX1_init 14 = .ok (.sipush 512, 3) := by decide +kernel
theorem dX1_init_17 : decode cX1_init 17 = .ok (.newarray .int, 2) := by decide +kernel
theorem dX1_init_19 : decode cX1_init 19 = .ok (.putfield 13, 3) := by decide +kernel
theorem dX1_init_22 : decode cX1_init 22 = .ok (.aload_n 0, 1) := by decide +kernel
theorem dX1_init_23 : decode cX1_init 23 = .ok (.sipush 512, 3) := by decide +kernel
theorem dX1_init_26 : decode cX1_init 26 = .ok (.newarray .int, 2) := by decide +kernel
theorem dX1_init_28 : decode cX1_init 28 = .ok (.putfield 16, 3) := by decide +kernel
theorem dX1_init_31 : decode cX1_init 31 = .ok (.aload_n 0, 1) := by decide +kernel
theorem dX1_init_32 : decode cX1_init 32 = .ok (.sipush 512, 3) := by decide +kernel
theorem dX1_init_35 : decode cX1_init 35 = .ok (.newarray .int, 2) := by decide +kernel
theorem dX1_init_37 : decode cX1_init 37 = .ok (.putfield 19, 3) := by decide +kernel
theorem dX1_init_40 : decode cX1_init 40 = .ok (.aload_n 0, 1) := by decide +kernel
theorem dX1_init_41 : decode cX1_init 41 = .ok (.sipush 512, 3) := by decide +kernel
theorem dX1_init_44 : decode cX1_init 44 = .ok (.newarray .long, 2) := by decide +kernel
theorem dX1_init_46 : decode cX1_init 46 = .ok (.putfield 22, 3) := by decide +kernel
theorem dX1_init_49 : decode cX1_init 49 = .ok (.aload_n 0, 1) := by decide +kernel
theorem dX1_init_50 : decode cX1_init 50 = .ok (.sipush 512, 3) := by decide +kernel
theorem dX1_init_53 : decode cX1_init 53 = .ok (.newarray .int, 2) := by decide +kernel
theorem dX1_init_55 : decode cX1_init 55 = .ok (.putfield 26, 3) := by decide +kernel
theorem dX1_init_58 : decode cX1_init 58 = .ok (.aload_n 0, 1) := by decide +kernel
theorem dX1_init_59 : decode cX1_init 59 = .ok (.sipush 512, 3) := by decide +kernel
theorem dX1_init_62 : decode cX1_init 62 = .ok (.newarray .boolean, 2) := by decide +kernel
theorem dX1_init_64 : decode cX1_init 64 = .ok (.putfield 29, 3) := by decide +kernel
theorem dX1_init_67 : decode cX1_init 67 = .ok (.aload_n 0, 1) := by decide +kernel
theorem dX1_init_68 : decode cX1_init 68 = .ok (.bipush 7, 2) := by decide +kernel
theorem dX1_init_70 : decode cX1_init 70 = .ok (.newarray .int, 2) := by decide +kernel
theorem dX1_init_72 : decode cX1_init 72 = .ok (.putfield 33, 3) := by decide +kernel
theorem dX1_init_75 : decode cX1_init 75 = .ok (.aload_n 0, 1) := by decide +kernel
theorem dX1_init_76 : decode cX1_init 76 = .ok (.iconst 1, 1) := by decide +kernel
theorem dX1_init_77 : decode cX1_init 77 = .ok (.putfield 36, 3) := by decide +kernel
theorem dX1_init_80 : decode cX1_init 80 = .ok (.aload_n 0, 1) := by decide +kernel
theorem dX1_init_81 : decode cX1_init 81 = .ok (.getfield 9, 3) := by decide +kernel
theorem dX1_init_84 : decode cX1_init 84 = .ok (.iconst 0, 1) := by decide +kernel
theorem dX1_init_85 : decode cX1_init 85 = .ok (.bipush (-2), 2) := by decide +kernel
theorem dX1_init_87 : decode cX1_init 87 = .ok (.iastore, 1) := by decide +kernel
theorem dX1_init_88 : decode cX1_init 88 = .ok (.aload_n 0, 1) := by decide +kernel
theorem dX1_init_89 : decode cX1_init 89 = .ok (.getfield 19, 3) := by decide +kernel
theorem dX1_init_92 : decode cX1_init 92 = .ok (.iconst 0, 1) := by decide +kernel
theorem dX1_init_93 : decode cX1_init 93 = .ok (.ldc 40, 2) := by decide +kernel
theorem dX1_init_95 : decode cX1_init 95 = .ok (.iastore, 1) := by decide +kernel
theorem dX1_init_96 : decode cX1_init 96 = .ok (.return_, 1) := by decide +kernel
theorem dX1_is_0 : decode cX1_is 0 = .ok (.iload_n 1, 1) := by decide +kernel
theorem dX1_is_1 : decode cX1_is 1 = .ok (.ifCond .lt 15, 3) := by decide +kernel
theorem dX1_is_4 : decode cX1_is 4 = .ok (.iload_n 1, 1) := by decide +kernel
theorem dX1_is_5 : decode cX1_is 5 = .ok (.aload_n 0, 1) := by decide +kernel
theorem dX1_is_6 : decode cX1_is 6 = .ok (.getfield 36, 3) := by decide +kernel
theorem dX1_is_9 : decode cX1_is 9 = .ok (.if_icmp .ge 7, 3) := by decide +kernel
theorem dX1_is_12 : decode cX1_is 12 = .ok (.iconst 1, 1) := by decide +kernel
theorem dX1_is_13 : decode cX1_is 13 = .ok (.goto 4, 3) := by decide +kernel
theorem dX1_is_16 : decode cX1_is 16 = .ok (.iconst 0, 1) := by decide +kernel
theorem dX1_is_17 : decode cX1_is 17 = .ok (.ireturn, 1) := by decide +kernel
theorem dX1_add_0 : decode cX1_add 0 = .ok (.aload_n 0, 1) := by decide +kernel
theorem dX1_add_1 : decode cX1_add 1 = .ok (.iload_n 1, 1) := by decide +kernel
theorem dX1_add_2 : decode cX1_add 2 = .ok (.invokevirtual 41, 3) := by decide +kernel
theorem dX1_add_5 : decode cX1_add 5 = .ok (.ifCond .eq 16, 3) := by decide +kernel
theorem dX1_add_8 : decode cX1_add 8 = .ok (.iload_n 2, 1) := by decide +kernel
theorem dX1_add_9 : decode cX1_add 9 = .ok (.aload_n 0, 1) := by decide +kernel
theorem dX1_add_10 : decode cX1_add 10 = .ok (.iload_n 1, 1) := by decide +kernel
theorem dX1_add_11 : decode cX1_add 11 = .ok (.invokevirtual 45, 3) := by decide +kernel
theorem dX1_add_14 : decode cX1_add 14 = .ok (.if_icmp .le 7, 3) := by decide +kernel
theorem dX1_add_17 : decode cX1_add 17 = .ok (.iload_n 3, 1) := by decide +kernel
theorem dX1_add_18 : decode cX1_add 18 = .ok (.ifCond .ge 5, 3) := by decide +kernel
theorem dX1_add_21 : decode cX1_add 21 = .ok (.iconst (-1), 1) := by decide +kernel
theorem dX1_add_22 : decode cX1_add 22 = .ok (.ireturn, 1) := by decide +kernel
theorem dX1_add_23 : decode cX1_add 23 = .ok (.aload_n 0, 1) := by decide +kernel
theorem dX1_add_24 : decode cX1_add 24 = .ok (.getfield 36, 3) := by decide +kernel
theorem dX1_add_27 : decode cX1_add 27 = .ok (.sipush 512, 3) := by decide +kernel
theorem dX1_add_30 : decode cX1_add 30 = .ok (.if_icmp .ne 6, 3) := by decide +kernel
theorem dX1_add_33 : decode cX1_add 33 = .ok (.bipush (-3), 2) := by decide +kernel
theorem dX1_add_35 : decode cX1_add 35 = .ok (.ireturn, 1) := by decide +kernel
theorem dX1_add_36 : decode cX1_add 36 = .ok (.aload_n 0, 1) := by decide +kernel
theorem dX1_add_37 : decode cX1_add 37 = .ok (.getfield 36, 3) := by decide +kernel
theorem dX1_add_40 : decode cX1_add 40 = .ok (.istore 4, 2) := by decide +kernel
theorem dX1_add_42 : decode cX1_add 42 = .ok (.aload_n 0, 1) := by decide +kernel
theorem dX1_add_43 : decode cX1_add 43 = .ok (.getfield 9, 3) := by decide +kernel
theorem dX1_add_46 : decode cX1_add 46 = .ok (.iload 4, 2) := by decide +kernel
theorem dX1_add_48 : decode cX1_add 48 = .ok (.iload_n 1, 1) := by decide +kernel
theorem dX1_add_49 : decode cX1_add 49 = .ok (.iastore, 1) := by decide +kernel
theorem dX1_add_50 : decode cX1_add 50 = .ok (.aload_n 0, 1) := by decide +kernel
theorem dX1_add_51 : decode cX1_add 51 = .ok (.getfield 16, 3) := by decide +kernel
theorem dX1_add_54 : decode cX1_add 54 = .ok (.iload 4, 2) := by decide +kernel
theorem dX1_add_56 : decode cX1_add 56 = .ok (.iload_n 2, 1) := by decide +kernel
theorem dX1_add_57 : decode cX1_add 57 = .ok (.iastore, 1) := by decide +kernel
theorem dX1_add_58 : decode cX1_add 58 = .ok (.aload_n 0, 1) := by decide +kernel
theorem dX1_add_59 : decode cX1_add 59 = .ok (.getfield 26, 3) := by decide +kernel
theorem dX1_add_62 : decode cX1_add 62 = .ok (.iload 4, 2) := by decide +kernel
theorem dX1_add_64 : decode cX1_add 64 = .ok (.iload_n 3, 1) := by decide +kernel
theorem dX1_add_65 : decode cX1_add 65 = .ok (.iastore, 1) := by decide +kernel
theorem dX1_add_66 : decode cX1_add 66 = .ok (.aload_n 0, 1) := by decide +kernel
theorem dX1_add_67 : decode cX1_add 67 = .ok (.getfield 13, 3) := by decide +kernel
theorem dX1_add_70 : decode cX1_add 70 = .ok (.iload 4, 2) := by decide +kernel
theorem dX1_add_72 : decode cX1_add 72 = .ok (.aload_n 0, 1) := by decide +kernel
theorem dX1_add_73 : decode cX1_add 73 = .ok (.getfield 13, 3) := by decide +kernel
theorem dX1_add_76 : decode cX1_add 76 = .ok (.iload_n 1, 1) := by decide +kernel
theorem dX1_add_77 : decode cX1_add 77 = .ok (.iaload, 1) := by decide +kernel
theorem dX1_add_78 : decode cX1_add 78 = .ok (.iconst 1, 1) := by decide +kernel
theorem dX1_add_79 : decode cX1_add 79 = .ok (.iadd, 1) := by decide +kernel
theorem dX1_add_80 : decode cX1_add 80 = .ok (.iastore, 1) := by decide +kernel
theorem dX1_add_81 : decode cX1_add 81 = .ok (.aload_n 0, 1) := by decide +kernel
theorem dX1_add_82 : decode cX1_add 82 = .ok (.getfield 19, 3) := by decide +kernel
theorem dX1_add_85 : decode cX1_add 85 = .ok (.iload 4, 2) := by decide +kernel
theorem dX1_add_87 : decode cX1_add 87 = .ok (.aload_n 0, 1) := by decide +kernel
theorem dX1_add_88 : decode cX1_add 88 = .ok (.iload_n 1, 1) := by decide +kernel
theorem dX1_add_89 : decode cX1_add 89 = .ok (.invokevirtual 49, 3) := by decide +kernel
theorem dX1_add_92 : decode cX1_add 92 = .ok (.iastore, 1) := by decide +kernel
theorem dX1_add_93 : decode cX1_add 93 = .ok (.aload_n 0, 1) := by decide +kernel
theorem dX1_add_94 : decode cX1_add 94 = .ok (.getfield 22, 3) := by decide +kernel
theorem dX1_add_97 : decode cX1_add 97 = .ok (.iload 4, 2) := by decide +kernel
theorem dX1_add_99 : decode cX1_add 99 = .ok (.aload_n 0, 1) := by decide +kernel
theorem dX1_add_100 : decode cX1_add 100 = .ok (.getfield 22, 3) := by decide +kernel
theorem dX1_add_103 : decode cX1_add 103 = .ok (.iload_n 1, 1) := by decide +kernel
theorem dX1_add_104 : decode cX1_add 104 = .ok (.laload, 1) := by decide +kernel
theorem dX1_add_105 : decode cX1_add 105 = .ok (.ldc 52, 2) := by decide +kernel
theorem dX1_add_107 : decode cX1_add 107 = .ok (.aload_n 0, 1) := by decide +kernel
theorem dX1_add_108 : decode cX1_add 108 = .ok (.getfield 19, 3) := by decide +kernel
theorem dX1_add_111 : decode cX1_add 111 = .ok (.iload 4, 2) := by decide +kernel
theorem dX1_add_113 : decode cX1_add 113 = .ok (.iaload, 1) := by decide +kernel
theorem dX1_add_114 : decode cX1_add 114 = .ok (.idiv, 1) := by decide +kernel
theorem dX1_add_115 : decode cX1_add 115 = .ok (.i2l, 1) := by decide +kernel
theorem dX1_add_116 : decode cX1_add 116 = .ok (.ladd, 1) := by decide +kernel
theorem dX1_add_117 : decode cX1_add 117 = .ok (.lastore, 1) := by decide +kernel
theorem dX1_add_118 : decode cX1_add 118 = .ok (.aload_n 0, 1) := by decide +kernel
theorem dX1_add_119 : decode cX1_add 119 = .ok (.dup, 1) := by decide +kernel
theorem dX1_add_120 : decode cX1_add 120 = .ok (.getfield 36, 3) := by decide +kernel
theorem dX1_add_123 : decode cX1_add 123 = .ok (.iconst 1, 1) := by decide +kernel
theorem dX1_add_124 : decode cX1_add 124 = .ok (.iadd, 1) := by decide +kernel
theorem dX1_add_125 : decode cX1_add 125 = .ok (.putfield 36, 3) := by decide +kernel
theorem dX1_add_128 : decode cX1_add 128 = .ok (.iload 4, 2) := by decide +kernel
theorem dX1_add_130 : decode cX1_add 130 = .ok (.ireturn, 1) := by decide +kernel
theorem dX1_wrong_0 : decode cX1_wrong 0 = .ok (.iconst 0, 1) := by decide +kernel
theorem dX1_wrong_1 : decode cX1_wrong 1 = .ok (.istore_n 2, 1) := by decide +kernel
theorem dX1_wrong_2 : decode cX1_wrong 2 = .ok (.iload_n 1, 1) := by decide +kernel
theorem dX1_wrong_3 : decode cX1_wrong 3 = .ok (.istore_n 3, 1) := by decide +kernel
theorem dX1_wrong_4 : decode cX1_wrong 4 = .ok (.iload_n 3, 1) := by decide +kernel
theorem dX1_wrong_5 : decode cX1_wrong 5 = .ok (.ifCond .le 32, 3) := by decide +kernel
theorem dX1_wrong_8 : decode cX1_wrong 8 = .ok (.iload_n 2, 1) := by decide +kernel
theorem dX1_wrong_9 : decode cX1_wrong 9 = .ok (.ifCond .ne 12, 3) := by decide +kernel
theorem dX1_wrong_12 : decode cX1_wrong 12 = .ok (.aload_n 0, 1) := by decide +kernel
theorem dX1_wrong_13 : decode cX1_wrong 13 = .ok (.getfield 29, 3) := by decide +kernel
theorem dX1_wrong_16 : decode cX1_wrong 16 = .ok (.iload_n 3, 1) := by decide +kernel
theorem dX1_wrong_17 : decode cX1_wrong 17 = .ok (.baload, 1) := by decide +kernel
theorem dX1_wrong_18 : decode cX1_wrong 18 = .ok (.ifCond .eq 7, 3) := by decide +kernel
theorem dX1_wrong_21 : decode cX1_wrong 21 = .ok (.iconst 1, 1) := by decide +kernel
theorem dX1_wrong_22 : decode cX1_wrong 22 = .ok (.goto 4, 3) := by decide +kernel
theorem dX1_wrong_25 : decode cX1_wrong 25 = .ok (.iconst 0, 1) := by decide +kernel
theorem dX1_wrong_26 : decode cX1_wrong 26 = .ok (.istore_n 2, 1) := by decide +kernel
theorem dX1_wrong_27 : decode cX1_wrong 27 = .ok (.aload_n 0, 1) := by decide +kernel
theorem dX1_wrong_28 : decode cX1_wrong 28 = .ok (.getfield 9, 3) := by decide +kernel
theorem dX1_wrong_31 : decode cX1_wrong 31 = .ok (.iload_n 3, 1) := by decide +kernel
theorem dX1_wrong_32 : decode cX1_wrong 32 = .ok (.iaload, 1) := by decide +kernel
theorem dX1_wrong_33 : decode cX1_wrong 33 = .ok (.istore_n 3, 1) := by decide +kernel
theorem dX1_wrong_34 : decode cX1_wrong 34 = .ok (.goto (-30), 3) := by decide +kernel
theorem dX1_wrong_37 : decode cX1_wrong 37 = .ok (.iload_n 2, 1) := by decide +kernel
theorem dX1_wrong_38 : decode cX1_wrong 38 = .ok (.ireturn, 1) := by decide +kernel
theorem dX1_refuse_0 : decode cX1_refuse 0 = .ok (.aload_n 0, 1) := by decide +kernel
theorem dX1_refuse_1 : decode cX1_refuse 1 = .ok (.iload_n 1, 1) := by decide +kernel
theorem dX1_refuse_2 : decode cX1_refuse 2 = .ok (.invokevirtual 41, 3) := by decide +kernel
theorem dX1_refuse_5 : decode cX1_refuse 5 = .ok (.ifCond .eq 7, 3) := by decide +kernel
theorem dX1_refuse_8 : decode cX1_refuse 8 = .ok (.iload_n 1, 1) := by decide +kernel
theorem dX1_refuse_9 : decode cX1_refuse 9 = .ok (.ifCond .ne 5, 3) := by decide +kernel
theorem dX1_refuse_12 : decode cX1_refuse 12 = .ok (.iconst (-1), 1) := by decide +kernel
theorem dX1_refuse_13 : decode cX1_refuse 13 = .ok (.ireturn, 1) := by decide +kernel
theorem dX1_refuse_14 : decode cX1_refuse 14 = .ok (.aload_n 0, 1) := by decide +kernel
theorem dX1_refuse_15 : decode cX1_refuse 15 = .ok (.getfield 29, 3) := by decide +kernel
theorem dX1_refuse_18 : decode cX1_refuse 18 = .ok (.iload_n 1, 1) := by decide +kernel
theorem dX1_refuse_19 : decode cX1_refuse 19 = .ok (.iconst 1, 1) := by decide +kernel
theorem dX1_refuse_20 : decode cX1_refuse 20 = .ok (.bastore, 1) := by decide +kernel
theorem dX1_refuse_21 : decode cX1_refuse 21 = .ok (.aload_n 0, 1) := by decide +kernel
theorem dX1_refuse_22 : decode cX1_refuse 22 = .ok (.invokevirtual 53, 3) := by decide +kernel
theorem dX1_refuse_25 : decode cX1_refuse 25 = .ok (.ireturn, 1) := by decide +kernel
theorem dX1_best_0 : decode cX1_best 0 = .ok (.iconst 0, 1) := by decide +kernel
theorem dX1_best_1 : decode cX1_best 1 = .ok (.istore_n 1, 1) := by decide +kernel
theorem dX1_best_2 : decode cX1_best 2 = .ok (.iconst 1, 1) := by decide +kernel
theorem dX1_best_3 : decode cX1_best 3 = .ok (.istore_n 2, 1) := by decide +kernel
theorem dX1_best_4 : decode cX1_best 4 = .ok (.iload_n 2, 1) := by decide +kernel
theorem dX1_best_5 : decode cX1_best 5 = .ok (.aload_n 0, 1) := by decide +kernel
theorem dX1_best_6 : decode cX1_best 6 = .ok (.getfield 36, 3) := by decide +kernel
theorem dX1_best_9 : decode cX1_best 9 = .ok (.if_icmp .ge 66, 3) := by decide +kernel
theorem dX1_best_12 : decode cX1_best 12 = .ok (.aload_n 0, 1) := by decide +kernel
theorem dX1_best_13 : decode cX1_best 13 = .ok (.getfield 22, 3) := by decide +kernel
theorem dX1_best_16 : decode cX1_best 16 = .ok (.iload_n 2, 1) := by decide +kernel
theorem dX1_best_17 : decode cX1_best 17 = .ok (.laload, 1) := by decide +kernel
theorem dX1_best_18 : decode cX1_best 18 = .ok (.aload_n 0, 1) := by decide +kernel
theorem dX1_best_19 : decode cX1_best 19 = .ok (.getfield 22, 3) := by decide +kernel
theorem dX1_best_22 : decode cX1_best 22 = .ok (.iload_n 1, 1) := by decide +kernel
theorem dX1_best_23 : decode cX1_best 23 = .ok (.laload, 1) := by decide +kernel
theorem dX1_best_24 : decode cX1_best 24 = .ok (.lcmp, 1) := by decide +kernel
theorem dX1_best_25 : decode cX1_best 25 = .ok (.ifCond .gt 34, 3) := by decide +kernel
theorem dX1_best_28 : decode cX1_best 28 = .ok (.aload_n 0, 1) := by decide +kernel
theorem dX1_best_29 : decode cX1_best 29 = .ok (.getfield 22, 3) := by decide +kernel
theorem dX1_best_32 : decode cX1_best 32 = .ok (.iload_n 2, 1) := by decide +kernel
theorem dX1_best_33 : decode cX1_best 33 = .ok (.laload, 1) := by decide +kernel
theorem dX1_best_34 : decode cX1_best 34 = .ok (.aload_n 0, 1) := by decide +kernel
theorem dX1_best_35 : decode cX1_best 35 = .ok (.getfield 22, 3) := by decide +kernel
theorem dX1_best_38 : decode cX1_best 38 = .ok (.iload_n 1, 1) := by decide +kernel
theorem dX1_best_39 : decode cX1_best 39 = .ok (.laload, 1) := by decide +kernel
theorem dX1_best_40 : decode cX1_best 40 = .ok (.lcmp, 1) := by decide +kernel
theorem dX1_best_41 : decode cX1_best 41 = .ok (.ifCond .ne 28, 3) := by decide +kernel
theorem dX1_best_44 : decode cX1_best 44 = .ok (.aload_n 0, 1) := by decide +kernel
theorem dX1_best_45 : decode cX1_best 45 = .ok (.getfield 26, 3) := by decide +kernel
theorem dX1_best_48 : decode cX1_best 48 = .ok (.iload_n 2, 1) := by decide +kernel
theorem dX1_best_49 : decode cX1_best 49 = .ok (.iaload, 1) := by decide +kernel
theorem dX1_best_50 : decode cX1_best 50 = .ok (.aload_n 0, 1) := by decide +kernel
theorem dX1_best_51 : decode cX1_best 51 = .ok (.getfield 26, 3) := by decide +kernel
theorem dX1_best_54 : decode cX1_best 54 = .ok (.iload_n 1, 1) := by decide +kernel
theorem dX1_best_55 : decode cX1_best 55 = .ok (.iaload, 1) := by decide +kernel
theorem dX1_best_56 : decode cX1_best 56 = .ok (.if_icmp .ge 13, 3) := by decide +kernel
theorem dX1_best_59 : decode cX1_best 59 = .ok (.aload_n 0, 1) := by decide +kernel
theorem dX1_best_60 : decode cX1_best 60 = .ok (.iload_n 2, 1) := by decide +kernel
theorem dX1_best_61 : decode cX1_best 61 = .ok (.invokevirtual 57, 3) := by decide +kernel
theorem dX1_best_64 : decode cX1_best 64 = .ok (.ifCond .ne 5, 3) := by decide +kernel
theorem dX1_best_67 : decode cX1_best 67 = .ok (.iload_n 2, 1) := by decide +kernel
theorem dX1_best_68 : decode cX1_best 68 = .ok (.istore_n 1, 1) := by decide +kernel
theorem dX1_best_69 : decode cX1_best 69 = .ok (.iinc 2 1, 3) := by decide +kernel
theorem dX1_best_72 : decode cX1_best 72 = .ok (.goto (-68), 3) := by decide +kernel
theorem dX1_best_75 : decode cX1_best 75 = .ok (.iload_n 1, 1) := by decide +kernel
theorem dX1_best_76 : decode cX1_best 76 = .ok (.ireturn, 1) := by decide +kernel
theorem dX1_fork_0 : decode cX1_fork 0 = .ok (.aload_n 0, 1) := by decide +kernel
theorem dX1_fork_1 : decode cX1_fork 1 = .ok (.iload_n 1, 1) := by decide +kernel
theorem dX1_fork_2 : decode cX1_fork 2 = .ok (.invokevirtual 41, 3) := by decide +kernel
theorem dX1_fork_5 : decode cX1_fork 5 = .ok (.ifCond .eq 11, 3) := by decide +kernel
theorem dX1_fork_8 : decode cX1_fork 8 = .ok (.aload_n 0, 1) := by decide +kernel
theorem dX1_fork_9 : decode cX1_fork 9 = .ok (.iload_n 2, 1) := by decide +kernel
theorem dX1_fork_10 : decode cX1_fork 10 = .ok (.invokevirtual 41, 3) := by decide +kernel
theorem dX1_fork_13 : decode cX1_fork 13 = .ok (.ifCond .ne 6, 3) := by decide +kernel
theorem dX1_fork_16 : decode cX1_fork 16 = .ok (.bipush (-2), 2) := by decide +kernel
theorem dX1_fork_18 : decode cX1_fork 18 = .ok (.ireturn, 1) := by decide +kernel
theorem dX1_fork_19 : decode cX1_fork 19 = .ok (.iload_n 1, 1) := by decide +kernel
theorem dX1_fork_20 : decode cX1_fork 20 = .ok (.istore_n 3, 1) := by decide +kernel
theorem dX1_fork_21 : decode cX1_fork 21 = .ok (.iload_n 2, 1) := by decide +kernel
theorem dX1_fork_22 : decode cX1_fork 22 = .ok (.istore 4, 2) := by decide +kernel
theorem dX1_fork_24 : decode cX1_fork 24 = .ok (.iload_n 3, 1) := by decide +kernel
theorem dX1_fork_25 : decode cX1_fork 25 = .ok (.iload 4, 2) := by decide +kernel
theorem dX1_fork_27 : decode cX1_fork 27 = .ok (.if_icmp .eq 41, 3) := by decide +kernel
theorem dX1_fork_30 : decode cX1_fork 30 = .ok (.aload_n 0, 1) := by decide +kernel
theorem dX1_fork_31 : decode cX1_fork 31 = .ok (.getfield 13, 3) := by decide +kernel
theorem dX1_fork_34 : decode cX1_fork 34 = .ok (.iload_n 3, 1) := by decide +kernel
theorem dX1_fork_35 : decode cX1_fork 35 = .ok (.iaload, 1) := by decide +kernel
theorem dX1_fork_36 : decode cX1_fork 36 = .ok (.aload_n 0, 1) := by decide +kernel
theorem dX1_fork_37 : decode cX1_fork 37 = .ok (.getfield 13, 3) := by decide +kernel
theorem dX1_fork_40 : decode cX1_fork 40 = .ok (.iload 4, 2) := by decide +kernel
theorem dX1_fork_42 : decode cX1_fork 42 = .ok (.iaload, 1) := by decide +kernel
theorem dX1_fork_43 : decode cX1_fork 43 = .ok (.if_icmp .lt 13, 3) := by decide +kernel
theorem dX1_fork_46 : decode cX1_fork 46 = .ok (.aload_n 0, 1) := by decide +kernel
theorem dX1_fork_47 : decode cX1_fork 47 = .ok (.getfield 9, 3) := by decide +kernel
theorem dX1_fork_50 : decode cX1_fork 50 = .ok (.iload_n 3, 1) := by decide +kernel
theorem dX1_fork_51 : decode cX1_fork 51 = .ok (.iaload, 1) := by decide +kernel
theorem dX1_fork_52 : decode cX1_fork 52 = .ok (.istore_n 3, 1) := by decide +kernel
theorem dX1_fork_53 : decode cX1_fork 53 = .ok (.goto (-29), 3) := by decide +kernel
theorem dX1_fork_56 : decode cX1_fork 56 = .ok (.aload_n 0, 1) := by decide +kernel
theorem dX1_fork_57 : decode cX1_fork 57 = .ok (.getfield 9, 3) := by decide +kernel
theorem dX1_fork_60 : decode cX1_fork 60 = .ok (.iload 4, 2) := by decide +kernel
theorem dX1_fork_62 : decode cX1_fork 62 = .ok (.iaload, 1) := by decide +kernel
theorem dX1_fork_63 : decode cX1_fork 63 = .ok (.istore 4, 2) := by decide +kernel
theorem dX1_fork_65 : decode cX1_fork 65 = .ok (.goto (-41), 3) := by decide +kernel
theorem dX1_fork_68 : decode cX1_fork 68 = .ok (.iload_n 3, 1) := by decide +kernel
theorem dX1_fork_69 : decode cX1_fork 69 = .ok (.ireturn, 1) := by decide +kernel
theorem dX1_due_0 : decode cX1_due 0 = .ok (.aload_n 0, 1) := by decide +kernel
theorem dX1_due_1 : decode cX1_due 1 = .ok (.iload_n 1, 1) := by decide +kernel
theorem dX1_due_2 : decode cX1_due 2 = .ok (.invokevirtual 41, 3) := by decide +kernel
theorem dX1_due_5 : decode cX1_due 5 = .ok (.ifCond .ne 6, 3) := by decide +kernel
theorem dX1_due_8 : decode cX1_due 8 = .ok (.bipush (-2), 2) := by decide +kernel
theorem dX1_due_10 : decode cX1_due 10 = .ok (.ireturn, 1) := by decide +kernel
theorem dX1_due_11 : decode cX1_due 11 = .ok (.aload_n 0, 1) := by decide +kernel
theorem dX1_due_12 : decode cX1_due 12 = .ok (.getfield 19, 3) := by decide +kernel
theorem dX1_due_15 : decode cX1_due 15 = .ok (.iload_n 1, 1) := by decide +kernel
theorem dX1_due_16 : decode cX1_due 16 = .ok (.iaload, 1) := by decide +kernel
theorem dX1_due_17 : decode cX1_due 17 = .ok (.istore_n 2, 1) := by decide +kernel
theorem dX1_due_18 : decode cX1_due 18 = .ok (.aload_n 0, 1) := by decide +kernel
theorem dX1_due_19 : decode cX1_due 19 = .ok (.getfield 13, 3) := by decide +kernel
theorem dX1_due_22 : decode cX1_due 22 = .ok (.iload_n 1, 1) := by decide +kernel
theorem dX1_due_23 : decode cX1_due 23 = .ok (.iaload, 1) := by decide +kernel
theorem dX1_due_24 : decode cX1_due 24 = .ok (.iconst 1, 1) := by decide +kernel
theorem dX1_due_25 : decode cX1_due 25 = .ok (.iadd, 1) := by decide +kernel
theorem dX1_due_26 : decode cX1_due 26 = .ok (.istore_n 3, 1) := by decide +kernel
theorem dX1_due_27 : decode cX1_due 27 = .ok (.iload_n 3, 1) := by decide +kernel
theorem dX1_due_28 : decode cX1_due 28 = .ok (.bipush 8, 2) := by decide +kernel
theorem dX1_due_30 : decode cX1_due 30 = .ok (.irem, 1) := by decide +kernel
theorem dX1_due_31 : decode cX1_due 31 = .ok (.ifCond .eq 5, 3) := by decide +kernel
theorem dX1_due_34 : decode cX1_due 34 = .ok (.iload_n 2, 1) := by decide +kernel
theorem dX1_due_35 : decode cX1_due 35 = .ok (.ireturn, 1) := by decide +kernel
theorem dX1_due_36 : decode cX1_due 36 = .ok (.aload_n 0, 1) := by decide +kernel
theorem dX1_due_37 : decode cX1_due 37 = .ok (.getfield 16, 3) := by decide +kernel
theorem dX1_due_40 : decode cX1_due 40 = .ok (.iload_n 1, 1) := by decide +kernel
theorem dX1_due_41 : decode cX1_due 41 = .ok (.iaload, 1) := by decide +kernel
theorem dX1_due_42 : decode cX1_due 42 = .ok (.aload_n 0, 1) := by decide +kernel
theorem dX1_due_43 : decode cX1_due 43 = .ok (.getfield 16, 3) := by decide +kernel
theorem dX1_due_46 : decode cX1_due 46 = .ok (.aload_n 0, 1) := by decide +kernel
theorem dX1_due_47 : decode cX1_due 47 = .ok (.iload_n 1, 1) := by decide +kernel
theorem dX1_due_48 : decode cX1_due 48 = .ok (.iload_n 3, 1) := by decide +kernel
theorem dX1_due_49 : decode cX1_due 49 = .ok (.bipush 8, 2) := by decide +kernel
theorem dX1_due_51 : decode cX1_due 51 = .ok (.isub, 1) := by decide +kernel
theorem dX1_due_52 : decode cX1_due 52 = .ok (.invokevirtual 60, 3) := by decide +kernel
theorem dX1_due_55 : decode cX1_due 55 = .ok (.iaload, 1) := by decide +kernel
theorem dX1_due_56 : decode cX1_due 56 = .ok (.isub, 1) := by decide +kernel
theorem dX1_due_57 : decode cX1_due 57 = .ok (.istore 4, 2) := by decide +kernel
theorem dX1_due_59 : decode cX1_due 59 = .ok (.iload 4, 2) := by decide +kernel
theorem dX1_due_61 : decode cX1_due 61 = .ok (.bipush 20, 2) := by decide +kernel
theorem dX1_due_63 : decode cX1_due 63 = .ok (.if_icmp .ge 7, 3) := by decide +kernel
theorem dX1_due_66 : decode cX1_due 66 = .ok (.bipush 20, 2) := by decide +kernel
theorem dX1_due_68 : decode cX1_due 68 = .ok (.istore 4, 2) := by decide +kernel
theorem dX1_due_70 : decode cX1_due 70 = .ok (.iload 4, 2) := by decide +kernel
theorem dX1_due_72 : decode cX1_due 72 = .ok (.sipush 320, 3) := by decide +kernel
theorem dX1_due_75 : decode cX1_due 75 = .ok (.if_icmp .le 8, 3) := by decide +kernel
theorem dX1_due_78 : decode cX1_due 78 = .ok (.sipush 320, 3) := by decide +kernel
theorem dX1_due_81 : decode cX1_due 81 = .ok (.istore 4, 2) := by decide +kernel
theorem dX1_due_83 : decode cX1_due 83 = .ok (.iload_n 2, 1) := by decide +kernel
theorem dX1_due_84 : decode cX1_due 84 = .ok (.iload 4, 2) := by decide +kernel
theorem dX1_due_86 : decode cX1_due 86 = .ok (.imul, 1) := by decide +kernel
theorem dX1_due_87 : decode cX1_due 87 = .ok (.bipush 80, 2) := by decide +kernel
theorem dX1_due_89 : decode cX1_due 89 = .ok (.idiv, 1) := by decide +kernel
theorem dX1_due_90 : decode cX1_due 90 = .ok (.istore_n 2, 1) := by decide +kernel
theorem dX1_due_91 : decode cX1_due 91 = .ok (.iload_n 2, 1) := by decide +kernel
theorem dX1_due_92 : decode cX1_due 92 = .ok (.sipush 2048, 3) := by decide +kernel
theorem dX1_due_95 : decode cX1_due 95 = .ok (.if_icmp .ge 9, 3) := by decide +kernel
theorem dX1_due_98 : decode cX1_due 98 = .ok (.sipush 2048, 3) := by decide +kernel
theorem dX1_due_101 : decode cX1_due 101 = .ok (.goto 15, 3) := by decide +kernel
theorem dX1_due_104 : decode cX1_due 104 = .ok (.iload_n 2, 1) := by decide +kernel
theorem dX1_due_105 : decode cX1_due 105 = .ok (.ldc 64, 2) := by decide +kernel
theorem dX1_due_107 : decode cX1_due 107 = .ok (.if_icmp .le 8, 3) := by decide +kernel
theorem dX1_due_110 : decode cX1_due 110 = .ok (.ldc 64, 2) := by decide +kernel
theorem dX1_due_112 : decode cX1_due 112 = .ok (.goto 4, 3) := by decide +kernel
theorem dX1_due_115 : decode cX1_due 115 = .ok (.iload_n 2, 1) := by decide +kernel
theorem dX1_due_116 : decode cX1_due 116 = .ok (.ireturn, 1) := by decide +kernel
theorem dX1_median_0 : decode cX1_median 0 = .ok (.aload_n 0, 1) := by decide +kernel
theorem dX1_median_1 : decode cX1_median 1 = .ok (.iload_n 1, 1) := by decide +kernel
theorem dX1_median_2 : decode cX1_median 2 = .ok (.invokevirtual 41, 3) := by decide +kernel
theorem dX1_median_5 : decode cX1_median 5 = .ok (.ifCond .ne 6, 3) := by decide +kernel
theorem dX1_median_8 : decode cX1_median 8 = .ok (.bipush (-2), 2) := by decide +kernel
theorem dX1_median_10 : decode cX1_median 10 = .ok (.ireturn, 1) := by decide +kernel
theorem dX1_median_11 : decode cX1_median 11 = .ok (.iconst 0, 1) := by decide +kernel
theorem dX1_median_12 : decode cX1_median 12 = .ok (.istore_n 2, 1) := by decide +kernel
theorem dX1_median_13 : decode cX1_median 13 = .ok (.iload_n 1, 1) := by decide +kernel
theorem dX1_median_14 : decode cX1_median 14 = .ok (.istore_n 3, 1) := by decide +kernel
theorem dX1_median_15 : decode cX1_median 15 = .ok (.iload_n 3, 1) := by decide +kernel
theorem dX1_median_16 : decode cX1_median 16 = .ok (.ifCond .lt 83, 3) := by decide +kernel
theorem dX1_median_19 : decode cX1_median 19 = .ok (.iload_n 2, 1) := by decide +kernel
theorem dX1_median_20 : decode cX1_median 20 = .ok (.bipush 7, 2) := by decide +kernel
theorem dX1_median_22 : decode cX1_median 22 = .ok (.if_icmp .ge 77, 3) := by decide +kernel
theorem dX1_median_25 : decode cX1_median 25 = .ok (.iload_n 2, 1) := by decide +kernel
theorem dX1_median_26 : decode cX1_median 26 = .ok (.istore 4, 2) := by decide +kernel
theorem dX1_median_28 : decode cX1_median 28 = .ok (.iload 4, 2) := by decide +kernel
theorem dX1_median_30 : decode cX1_median 30 = .ok (.ifCond .le 43, 3) := by decide +kernel
theorem dX1_median_33 : decode cX1_median 33 = .ok (.aload_n 0, 1) := by decide +kernel
theorem dX1_median_34 : decode cX1_median 34 = .ok (.getfield 33, 3) := by decide +kernel
theorem dX1_median_37 : decode cX1_median 37 = .ok (.iload 4, 2) := by decide +kernel
theorem dX1_median_39 : decode cX1_median 39 = .ok (.iconst 1, 1) := by decide +kernel
theorem dX1_median_40 : decode cX1_median 40 = .ok (.isub, 1) := by decide +kernel
theorem dX1_median_41 : decode cX1_median 41 = .ok (.iaload, 1) := by decide +kernel
theorem dX1_median_42 : decode cX1_median 42 = .ok (.aload_n 0, 1) := by decide +kernel
theorem dX1_median_43 : decode cX1_median 43 = .ok (.getfield 16, 3) := by decide +kernel
theorem dX1_median_46 : decode cX1_median 46 = .ok (.iload_n 3, 1) := by decide +kernel
theorem dX1_median_47 : decode cX1_median 47 = .ok (.iaload, 1) := by decide +kernel
theorem dX1_median_48 : decode cX1_median 48 = .ok (.if_icmp .le 25, 3) := by decide +kernel
theorem dX1_median_51 : decode cX1_median 51 = .ok (.aload_n 0, 1) := by decide +kernel
theorem dX1_median_52 : decode cX1_median 52 = .ok (.getfield 33, 3) := by decide +kernel
theorem dX1_median_55 : decode cX1_median 55 = .ok (.iload 4, 2) := by decide +kernel
theorem dX1_median_57 : decode cX1_median 57 = .ok (.aload_n 0, 1) := by decide +kernel
theorem dX1_median_58 : decode cX1_median 58 = .ok (.getfield 33, 3) := by decide +kernel
theorem dX1_median_61 : decode cX1_median 61 = .ok (.iload 4, 2) := by decide +kernel
theorem dX1_median_63 : decode cX1_median 63 = .ok (.iconst 1, 1) := by decide +kernel
theorem dX1_median_64 : decode cX1_median 64 = .ok (.isub, 1) := by decide +kernel
theorem dX1_median_65 : decode cX1_median 65 = .ok (.iaload, 1) := by decide +kernel
theorem dX1_median_66 : decode cX1_median 66 = .ok (.iastore, 1) := by decide +kernel
theorem dX1_median_67 : decode cX1_median 67 = .ok (.iinc 4 (-1), 3) := by decide +kernel
theorem dX1_median_70 : decode cX1_median 70 = .ok (.goto (-42), 3) := by decide +kernel
theorem dX1_median_73 : decode cX1_median 73 = .ok (.aload_n 0, 1) := by decide +kernel
theorem dX1_median_74 : decode cX1_median 74 = .ok (.getfield 33, 3) := by decide +kernel
theorem dX1_median_77 : decode cX1_median 77 = .ok (.iload 4, 2) := by decide +kernel
theorem dX1_median_79 : decode cX1_median 79 = .ok (.aload_n 0, 1) := by decide +kernel
theorem dX1_median_80 : decode cX1_median 80 = .ok (.getfield 16, 3) := by decide +kernel
theorem dX1_median_83 : decode cX1_median 83 = .ok (.iload_n 3, 1) := by decide +kernel
theorem dX1_median_84 : decode cX1_median 84 = .ok (.iaload, 1) := by decide +kernel
theorem dX1_median_85 : decode cX1_median 85 = .ok (.iastore, 1) := by decide +kernel
theorem dX1_median_86 : decode cX1_median 86 = .ok (.iinc 2 1, 3) := by decide +kernel
theorem dX1_median_89 : decode cX1_median 89 = .ok (.aload_n 0, 1) := by decide +kernel
theorem dX1_median_90 : decode cX1_median 90 = .ok (.getfield 9, 3) := by decide +kernel
theorem dX1_median_93 : decode cX1_median 93 = .ok (.iload_n 3, 1) := by decide +kernel
theorem dX1_median_94 : decode cX1_median 94 = .ok (.iaload, 1) := by decide +kernel
theorem dX1_median_95 : decode cX1_median 95 = .ok (.istore_n 3, 1) := by decide +kernel
theorem dX1_median_96 : decode cX1_median 96 = .ok (.goto (-81), 3) := by decide +kernel
theorem dX1_median_99 : decode cX1_median 99 = .ok (.aload_n 0, 1) := by decide +kernel
theorem dX1_median_100 : decode cX1_median 100 = .ok (.getfield 33, 3) := by decide +kernel
theorem dX1_median_103 : decode cX1_median 103 = .ok (.iload_n 2, 1) := by decide +kernel
theorem dX1_median_104 : decode cX1_median 104 = .ok (.iconst 2, 1) := by decide +kernel
theorem dX1_median_105 : decode cX1_median 105 = .ok (.idiv, 1) := by decide +kernel
theorem dX1_median_106 : decode cX1_median 106 = .ok (.iaload, 1) := by decide +kernel
theorem dX1_median_107 : decode cX1_median 107 = .ok (.ireturn, 1) := by decide +kernel
theorem dX1_ancestor_0 : decode cX1_ancestor 0 = .ok (.aload_n 0, 1) := by decide +kernel
theorem dX1_ancestor_1 : decode cX1_ancestor 1 = .ok (.iload_n 1, 1) := by decide +kernel
theorem dX1_ancestor_2 : decode cX1_ancestor 2 = .ok (.invokevirtual 41, 3) := by decide +kernel
theorem dX1_ancestor_5 : decode cX1_ancestor 5 = .ok (.ifCond .eq 17, 3) := by decide +kernel
theorem dX1_ancestor_8 : decode cX1_ancestor 8 = .ok (.iload_n 2, 1) := by decide +kernel
theorem dX1_ancestor_9 : decode cX1_ancestor 9 = .ok (.ifCond .lt 13, 3) := by decide +kernel
theorem dX1_ancestor_12 : decode cX1_ancestor 12 = .ok (.iload_n 2, 1) := by decide +kernel
theorem dX1_ancestor_13 : decode cX1_ancestor 13 = .ok (.aload_n 0, 1) := by decide +kernel
theorem dX1_ancestor_14 : decode cX1_ancestor 14 = .ok (.getfield 13, 3) := by decide +kernel
theorem dX1_ancestor_17 : decode cX1_ancestor 17 = .ok (.iload_n 1, 1) := by decide +kernel
theorem dX1_ancestor_18 : decode cX1_ancestor 18 = .ok (.iaload, 1) := by decide +kernel
theorem dX1_ancestor_19 : decode cX1_ancestor 19 = .ok (.if_icmp .le 6, 3) := by decide +kernel
theorem dX1_ancestor_22 : decode cX1_ancestor 22 = .ok (.bipush (-2), 2) := by decide +kernel
theorem dX1_ancestor_24 : decode cX1_ancestor 24 = .ok (.ireturn, 1) := by decide +kernel
theorem dX1_ancestor_25 : decode cX1_ancestor 25 = .ok (.iload_n 1, 1) := by decide +kernel
theorem dX1_ancestor_26 : decode cX1_ancestor 26 = .ok (.istore_n 3, 1) := by decide +kernel
theorem dX1_ancestor_27 : decode cX1_ancestor 27 = .ok (.aload_n 0, 1) := by decide +kernel
theorem dX1_ancestor_28 : decode cX1_ancestor 28 = .ok (.getfield 13, 3) := by decide +kernel
theorem dX1_ancestor_31 : decode cX1_ancestor 31 = .ok (.iload_n 3, 1) := by decide +kernel
theorem dX1_ancestor_32 : decode cX1_ancestor 32 = .ok (.iaload, 1) := by decide +kernel
theorem dX1_ancestor_33 : decode cX1_ancestor 33 = .ok (.iload_n 2, 1) := by decide +kernel
theorem dX1_ancestor_34 : decode cX1_ancestor 34 = .ok (.if_icmp .le 13, 3) := by decide +kernel
theorem dX1_ancestor_37 : decode cX1_ancestor 37 = .ok (.aload_n 0, 1) := by decide +kernel
theorem dX1_ancestor_38 : decode cX1_ancestor 38 = .ok (.getfield 9, 3) := by decide +kernel
theorem dX1_ancestor_41 : decode cX1_ancestor 41 = .ok (.iload_n 3, 1) := by decide +kernel
theorem dX1_ancestor_42 : decode cX1_ancestor 42 = .ok (.iaload, 1) := by decide +kernel
theorem dX1_ancestor_43 : decode cX1_ancestor 43 = .ok (.istore_n 3, 1) := by decide +kernel
theorem dX1_ancestor_44 : decode cX1_ancestor 44 = .ok (.goto (-17), 3) := by decide +kernel
theorem dX1_ancestor_47 : decode cX1_ancestor 47 = .ok (.iload_n 3, 1) := by decide +kernel
theorem dX1_ancestor_48 : decode cX1_ancestor 48 = .ok (.ireturn, 1) := by decide +kernel
theorem dX1_look_0 : decode cX1_look 0 = .ok (.iload_n 2, 1) := by decide +kernel
theorem dX1_look_1 : decode cX1_look 1 = .ok (.ifCond .lt 8, 3) := by decide +kernel
theorem dX1_look_4 : decode cX1_look 4 = .ok (.iload_n 2, 1) := by decide +kernel
theorem dX1_look_5 : decode cX1_look 5 = .ok (.iconst 5, 1) := by decide +kernel
theorem dX1_look_6 : decode cX1_look 6 = .ok (.if_icmp .le 7, 3) := by decide +kernel
theorem dX1_look_9 : decode cX1_look 9 = .ok (.ldc2_w 65, 3) := by decide +kernel
theorem dX1_look_12 : decode cX1_look 12 = .ok (.lreturn, 1) := by decide +kernel
theorem dX1_look_13 : decode cX1_look 13 = .ok (.aload_n 0, 1) := by decide +kernel
theorem dX1_look_14 : decode cX1_look 14 = .ok (.iload_n 1, 1) := by decide +kernel
theorem dX1_look_15 : decode cX1_look 15 = .ok (.invokevirtual 41, 3) := by decide +kernel
theorem dX1_look_18 : decode cX1_look 18 = .ok (.ifCond .ne 7, 3) := by decide +kernel
theorem dX1_look_21 : decode cX1_look 21 = .ok (.ldc2_w 67, 3) := by decide +kernel
theorem dX1_look_24 : decode cX1_look 24 = .ok (.lreturn, 1) := by decide +kernel
theorem dX1_look_25 : decode cX1_look 25 = .ok (.iload_n 2, 1) := by decide +kernel
theorem dX1_look_26 : decode cX1_look 26 = .ok (.tableswitch 73 0 4 #[34, 42, 50, 58, 66], 34) := by decide +kernel
theorem dX1_look_60 : decode cX1_look 60 = .ok (.aload_n 0, 1) := by decide +kernel
theorem dX1_look_61 : decode cX1_look 61 = .ok (.getfield 13, 3) := by decide +kernel
theorem dX1_look_64 : decode cX1_look 64 = .ok (.iload_n 1, 1) := by decide +kernel
theorem dX1_look_65 : decode cX1_look 65 = .ok (.iaload, 1) := by decide +kernel
theorem dX1_look_66 : decode cX1_look 66 = .ok (.i2l, 1) := by decide +kernel
theorem dX1_look_67 : decode cX1_look 67 = .ok (.lreturn, 1) := by decide +kernel
theorem dX1_look_68 : decode cX1_look 68 = .ok (.aload_n 0, 1) := by decide +kernel
theorem dX1_look_69 : decode cX1_look 69 = .ok (.getfield 9, 3) := by decide +kernel
theorem dX1_look_72 : decode cX1_look 72 = .ok (.iload_n 1, 1) := by decide +kernel
theorem dX1_look_73 : decode cX1_look 73 = .ok (.iaload, 1) := by decide +kernel
theorem dX1_look_74 : decode cX1_look 74 = .ok (.i2l, 1) := by decide +kernel
theorem dX1_look_75 : decode cX1_look 75 = .ok (.lreturn, 1) := by decide +kernel
theorem dX1_look_76 : decode cX1_look 76 = .ok (.aload_n 0, 1) := by decide +kernel
theorem dX1_look_77 : decode cX1_look 77 = .ok (.getfield 16, 3) := by decide +kernel
theorem dX1_look_80 : decode cX1_look 80 = .ok (.iload_n 1, 1) := by decide +kernel
theorem dX1_look_81 : decode cX1_look 81 = .ok (.iaload, 1) := by decide +kernel
theorem dX1_look_82 : decode cX1_look 82 = .ok (.i2l, 1) := by decide +kernel
theorem dX1_look_83 : decode cX1_look 83 = .ok (.lreturn, 1) := by decide +kernel
theorem dX1_look_84 : decode cX1_look 84 = .ok (.aload_n 0, 1) := by decide +kernel
theorem dX1_look_85 : decode cX1_look 85 = .ok (.getfield 19, 3) := by decide +kernel
theorem dX1_look_88 : decode cX1_look 88 = .ok (.iload_n 1, 1) := by decide +kernel
theorem dX1_look_89 : decode cX1_look 89 = .ok (.iaload, 1) := by decide +kernel
theorem dX1_look_90 : decode cX1_look 90 = .ok (.i2l, 1) := by decide +kernel
theorem dX1_look_91 : decode cX1_look 91 = .ok (.lreturn, 1) := by decide +kernel
theorem dX1_look_92 : decode cX1_look 92 = .ok (.aload_n 0, 1) := by decide +kernel
theorem dX1_look_93 : decode cX1_look 93 = .ok (.getfield 22, 3) := by decide +kernel
theorem dX1_look_96 : decode cX1_look 96 = .ok (.iload_n 1, 1) := by decide +kernel
theorem dX1_look_97 : decode cX1_look 97 = .ok (.laload, 1) := by decide +kernel
theorem dX1_look_98 : decode cX1_look 98 = .ok (.lreturn, 1) := by decide +kernel
theorem dX1_look_99 : decode cX1_look 99 = .ok (.aload_n 0, 1) := by decide +kernel
theorem dX1_look_100 : decode cX1_look 100 = .ok (.iload_n 1, 1) := by decide +kernel
theorem dX1_look_101 : decode cX1_look 101 = .ok (.invokevirtual 57, 3) := by decide +kernel
theorem dX1_look_104 : decode cX1_look 104 = .ok (.ifCond .eq 7, 3) := by decide +kernel
theorem dX1_look_107 : decode cX1_look 107 = .ok (.lconst 1, 1) := by decide +kernel
theorem dX1_look_108 : decode cX1_look 108 = .ok (.goto 4, 3) := by decide +kernel
theorem dX1_look_111 : decode cX1_look 111 = .ok (.lconst 0, 1) := by decide +kernel
theorem dX1_look_112 : decode cX1_look 112 = .ok (.lreturn, 1) := by decide +kernel
theorem dX1_blocks_0 : decode cX1_blocks 0 = .ok (.aload_n 0, 1) := by decide +kernel
theorem dX1_blocks_1 : decode cX1_blocks 1 = .ok (.getfield 36, 3) := by decide +kernel
theorem dX1_blocks_4 : decode cX1_blocks 4 = .ok (.ireturn, 1) := by decide +kernel
theorem dL_law_0 : decode cL_law 0 = .ok (.new 7, 3) := by decide +kernel
theorem dL_law_3 : decode cL_law 3 = .ok (.dup, 1) := by decide +kernel
theorem dL_law_4 : decode cL_law 4 = .ok (.invokespecial 9, 3) := by decide +kernel
theorem dL_law_7 : decode cL_law 7 = .ok (.astore_n 1, 1) := by decide +kernel
theorem dL_law_8 : decode cL_law 8 = .ok (.new 10, 3) := by decide +kernel
theorem dL_law_11 : decode cL_law 11 = .ok (.dup, 1) := by decide +kernel
theorem dL_law_12 : decode cL_law 12 = .ok (.invokespecial 12, 3) := by decide +kernel
theorem dL_law_15 : decode cL_law 15 = .ok (.astore_n 2, 1) := by decide +kernel
theorem dL_law_16 : decode cL_law 16 = .ok (.iconst 0, 1) := by decide +kernel
theorem dL_law_17 : decode cL_law 17 = .ok (.istore_n 3, 1) := by decide +kernel
theorem dL_law_18 : decode cL_law 18 = .ok (.iload_n 3, 1) := by decide +kernel
theorem dL_law_19 : decode cL_law 19 = .ok (.aload_n 0, 1) := by decide +kernel
theorem dL_law_20 : decode cL_law 20 = .ok (.arraylength, 1) := by decide +kernel
theorem dL_law_21 : decode cL_law 21 = .ok (.iconst 4, 1) := by decide +kernel
theorem dL_law_22 : decode cL_law 22 = .ok (.isub, 1) := by decide +kernel
theorem dL_law_23 : decode cL_law 23 = .ok (.if_icmp .gt 305, 3) := by decide +kernel
theorem dL_law_26 : decode cL_law 26 = .ok (.aload_n 0, 1) := by decide +kernel
theorem dL_law_27 : decode cL_law 27 = .ok (.iload_n 3, 1) := by decide +kernel
theorem dL_law_28 : decode cL_law 28 = .ok (.iaload, 1) := by decide +kernel
theorem dL_law_29 : decode cL_law 29 = .ok (.bipush 15, 2) := by decide +kernel
theorem dL_law_31 : decode cL_law 31 = .ok (.iand, 1) := by decide +kernel
theorem dL_law_32 : decode cL_law 32 = .ok (.tableswitch 290 0 8 #[52, 95, 118, 131, 164, 187, 210, 243, 277], 52) := by decide +kernel
theorem dL_law_84 : decode cL_law 84 = .ok (.aload_n 1, 1) := by decide +kernel
theorem dL_law_85 : decode cL_law 85 = .ok (.aload_n 0, 1) := by decide +kernel
theorem dL_law_86 : decode cL_law 86 = .ok (.iload_n 3, 1) := by decide +kernel
theorem dL_law_87 : decode cL_law 87 = .ok (.iconst 1, 1) := by decide +kernel
theorem dL_law_88 : decode cL_law 88 = .ok (.iadd, 1) := by decide +kernel
theorem dL_law_89 : decode cL_law 89 = .ok (.iaload, 1) := by decide +kernel
theorem dL_law_90 : decode cL_law 90 = .ok (.aload_n 0, 1) := by decide +kernel
theorem dL_law_91 : decode cL_law 91 = .ok (.iload_n 3, 1) := by decide +kernel
theorem dL_law_92 : decode cL_law 92 = .ok (.iconst 2, 1) := by decide +kernel
theorem dL_law_93 : decode cL_law 93 = .ok (.iadd, 1) := by decide +kernel
theorem dL_law_94 : decode cL_law 94 = .ok (.iaload, 1) := by decide +kernel
theorem dL_law_95 : decode cL_law 95 = .ok (.aload_n 0, 1) := by decide +kernel
theorem dL_law_96 : decode cL_law 96 = .ok (.iload_n 3, 1) := by decide +kernel
theorem dL_law_97 : decode cL_law 97 = .ok (.iconst 3, 1) := by decide +kernel
theorem dL_law_98 : decode cL_law 98 = .ok (.iadd, 1) := by decide +kernel
theorem dL_law_99 : decode cL_law 99 = .ok (.iaload, 1) := by decide +kernel
theorem dL_law_100 : decode cL_law 100 = .ok (.invokevirtual 13, 3) := by decide +kernel
theorem dL_law_103 : decode cL_law 103 = .ok (.aload_n 2, 1) := by decide +kernel
theorem dL_law_104 : decode cL_law 104 = .ok (.aload_n 0, 1) := by decide +kernel
theorem dL_law_105 : decode cL_law 105 = .ok (.iload_n 3, 1) := by decide +kernel
theorem dL_law_106 : decode cL_law 106 = .ok (.iconst 1, 1) := by decide +kernel
theorem dL_law_107 : decode cL_law 107 = .ok (.iadd, 1) := by decide +kernel
theorem dL_law_108 : decode cL_law 108 = .ok (.iaload, 1) := by decide +kernel
theorem dL_law_109 : decode cL_law 109 = .ok (.aload_n 0, 1) := by decide +kernel
theorem dL_law_110 : decode cL_law 110 = .ok (.iload_n 3, 1) := by decide +kernel
theorem dL_law_111 : decode cL_law 111 = .ok (.iconst 2, 1) := by decide +kernel
theorem dL_law_112 : decode cL_law 112 = .ok (.iadd, 1) := by decide +kernel
theorem dL_law_113 : decode cL_law 113 = .ok (.iaload, 1) := by decide +kernel
theorem dL_law_114 : decode cL_law 114 = .ok (.aload_n 0, 1) := by decide +kernel
theorem dL_law_115 : decode cL_law 115 = .ok (.iload_n 3, 1) := by decide +kernel
theorem dL_law_116 : decode cL_law 116 = .ok (.iconst 3, 1) := by decide +kernel
theorem dL_law_117 : decode cL_law 117 = .ok (.iadd, 1) := by decide +kernel
theorem dL_law_118 : decode cL_law 118 = .ok (.iaload, 1) := by decide +kernel
theorem dL_law_119 : decode cL_law 119 = .ok (.invokevirtual 17, 3) := by decide +kernel
theorem dL_law_122 : decode cL_law 122 = .ok (.if_icmp .eq 200, 3) := by decide +kernel
theorem dL_law_125 : decode cL_law 125 = .ok (.iconst 0, 1) := by decide +kernel
theorem dL_law_126 : decode cL_law 126 = .ok (.ireturn, 1) := by decide +kernel
theorem dL_law_127 : decode cL_law 127 = .ok (.aload_n 1, 1) := by decide +kernel
theorem dL_law_128 : decode cL_law 128 = .ok (.aload_n 0, 1) := by decide +kernel
theorem dL_law_129 : decode cL_law 129 = .ok (.iload_n 3, 1) := by decide +kernel
theorem dL_law_130 : decode cL_law 130 = .ok (.iconst 1, 1) := by decide +kernel
theorem dL_law_131 : decode cL_law 131 = .ok (.iadd, 1) := by decide +kernel
theorem dL_law_132 : decode cL_law 132 = .ok (.iaload, 1) := by decide +kernel
theorem dL_law_133 : decode cL_law 133 = .ok (.invokevirtual 18, 3) := by decide +kernel
theorem dL_law_136 : decode cL_law 136 = .ok (.aload_n 2, 1) := by decide +kernel
theorem dL_law_137 : decode cL_law 137 = .ok (.aload_n 0, 1) := by decide +kernel
theorem dL_law_138 : decode cL_law 138 = .ok (.iload_n 3, 1) := by decide +kernel
theorem dL_law_139 : decode cL_law 139 = .ok (.iconst 1, 1) := by decide +kernel
theorem dL_law_140 : decode cL_law 140 = .ok (.iadd, 1) := by decide +kernel
theorem dL_law_141 : decode cL_law 141 = .ok (.iaload, 1) := by decide +kernel
theorem dL_law_142 : decode cL_law 142 = .ok (.invokevirtual 22, 3) := by decide +kernel
theorem dL_law_145 : decode cL_law 145 = .ok (.if_icmp .eq 177, 3) := by decide +kernel
theorem dL_law_148 : decode cL_law 148 = .ok (.iconst 0, 1) := by decide +kernel
theorem dL_law_149 : decode cL_law 149 = .ok (.ireturn, 1) := by decide +kernel
theorem dL_law_150 : decode cL_law 150 = .ok (.aload_n 1, 1) := by decide +kernel
theorem dL_law_151 : decode cL_law 151 = .ok (.invokevirtual 23, 3) := by decide +kernel
theorem dL_law_154 : decode cL_law 154 = .ok (.aload_n 2, 1) := by decide +kernel
theorem dL_law_155 : decode cL_law 155 = .ok (.invokevirtual 27, 3) := by decide +kernel
theorem dL_law_158 : decode cL_law 158 = .ok (.if_icmp .eq 164, 3) := by decide +kernel
theorem dL_law_161 : decode cL_law 161 = .ok (.iconst 0, 1) := by decide +kernel
theorem dL_law_162 : decode cL_law 162 = .ok (.ireturn, 1) := by decide +kernel
theorem dL_law_163 : decode cL_law 163 = .ok (.aload_n 1, 1) := by decide +kernel
theorem dL_law_164 : decode cL_law 164 = .ok (.aload_n 0, 1) := by decide +kernel
theorem dL_law_165 : decode cL_law 165 = .ok (.iload_n 3, 1) := by decide +kernel
theorem dL_law_166 : decode cL_law 166 = .ok (.iconst 1, 1) := by decide +kernel
theorem dL_law_167 : decode cL_law 167 = .ok (.iadd, 1) := by decide +kernel
theorem dL_law_168 : decode cL_law 168 = .ok (.iaload, 1) := by decide +kernel
theorem dL_law_169 : decode cL_law 169 = .ok (.aload_n 0, 1) := by decide +kernel
theorem dL_law_170 : decode cL_law 170 = .ok (.iload_n 3, 1) := by decide +kernel
theorem dL_law_171 : decode cL_law 171 = .ok (.iconst 2, 1) := by decide +kernel
theorem dL_law_172 : decode cL_law 172 = .ok (.iadd, 1) := by decide +kernel
theorem dL_law_173 : decode cL_law 173 = .ok (.iaload, 1) := by decide +kernel
theorem dL_law_174 : decode cL_law 174 = .ok (.invokevirtual 28, 3) := by decide +kernel
theorem dL_law_177 : decode cL_law 177 = .ok (.aload_n 2, 1) := by decide +kernel
theorem dL_law_178 : decode cL_law 178 = .ok (.aload_n 0, 1) := by decide +kernel
theorem dL_law_179 : decode cL_law 179 = .ok (.iload_n 3, 1) := by decide +kernel
theorem dL_law_180 : decode cL_law 180 = .ok (.iconst 1, 1) := by decide +kernel
theorem dL_law_181 : decode cL_law 181 = .ok (.iadd, 1) := by decide +kernel
theorem dL_law_182 : decode cL_law 182 = .ok (.iaload, 1) := by decide +kernel
theorem dL_law_183 : decode cL_law 183 = .ok (.aload_n 0, 1) := by decide +kernel
theorem dL_law_184 : decode cL_law 184 = .ok (.iload_n 3, 1) := by decide +kernel
theorem dL_law_185 : decode cL_law 185 = .ok (.iconst 2, 1) := by decide +kernel
theorem dL_law_186 : decode cL_law 186 = .ok (.iadd, 1) := by decide +kernel
theorem dL_law_187 : decode cL_law 187 = .ok (.iaload, 1) := by decide +kernel
theorem dL_law_188 : decode cL_law 188 = .ok (.invokevirtual 32, 3) := by decide +kernel
theorem dL_law_191 : decode cL_law 191 = .ok (.if_icmp .eq 131, 3) := by decide +kernel
theorem dL_law_194 : decode cL_law 194 = .ok (.iconst 0, 1) := by decide +kernel
theorem dL_law_195 : decode cL_law 195 = .ok (.ireturn, 1) := by decide +kernel
theorem dL_law_196 : decode cL_law 196 = .ok (.aload_n 1, 1) := by decide +kernel
theorem dL_law_197 : decode cL_law 197 = .ok (.aload_n 0, 1) := by decide +kernel
theorem dL_law_198 : decode cL_law 198 = .ok (.iload_n 3, 1) := by decide +kernel
theorem dL_law_199 : decode cL_law 199 = .ok (.iconst 1, 1) := by decide +kernel
theorem dL_law_200 : decode cL_law 200 = .ok (.iadd, 1) := by decide +kernel
theorem dL_law_201 : decode cL_law 201 = .ok (.iaload, 1) := by decide +kernel
theorem dL_law_202 : decode cL_law 202 = .ok (.invokevirtual 33, 3) := by decide +kernel
theorem dL_law_205 : decode cL_law 205 = .ok (.aload_n 2, 1) := by decide +kernel
theorem dL_law_206 : decode cL_law 206 = .ok (.aload_n 0, 1) := by decide +kernel
theorem dL_law_207 : decode cL_law 207 = .ok (.iload_n 3, 1) := by decide +kernel
theorem dL_law_208 : decode cL_law 208 = .ok (.iconst 1, 1) := by decide +kernel
theorem dL_law_209 : decode cL_law 209 = .ok (.iadd, 1) := by decide +kernel
theorem dL_law_210 : decode cL_law 210 = .ok (.iaload, 1) := by decide +kernel
theorem dL_law_211 : decode cL_law 211 = .ok (.invokevirtual 36, 3) := by decide +kernel
theorem dL_law_214 : decode cL_law 214 = .ok (.if_icmp .eq 108, 3) := by decide +kernel
theorem dL_law_217 : decode cL_law 217 = .ok (.iconst 0, 1) := by decide +kernel
theorem dL_law_218 : decode cL_law 218 = .ok (.ireturn, 1) := by decide +kernel
theorem dL_law_219 : decode cL_law 219 = .ok (.aload_n 1, 1) := by decide +kernel
theorem dL_law_220 : decode cL_law 220 = .ok (.aload_n 0, 1) := by decide +kernel
theorem dL_law_221 : decode cL_law 221 = .ok (.iload_n 3, 1) := by decide +kernel
theorem dL_law_222 : decode cL_law 222 = .ok (.iconst 1, 1) := by decide +kernel
theorem dL_law_223 : decode cL_law 223 = .ok (.iadd, 1) := by decide +kernel
theorem dL_law_224 : decode cL_law 224 = .ok (.iaload, 1) := by decide +kernel
theorem dL_law_225 : decode cL_law 225 = .ok (.invokevirtual 37, 3) := by decide +kernel
theorem dL_law_228 : decode cL_law 228 = .ok (.aload_n 2, 1) := by decide +kernel
theorem dL_law_229 : decode cL_law 229 = .ok (.aload_n 0, 1) := by decide +kernel
theorem dL_law_230 : decode cL_law 230 = .ok (.iload_n 3, 1) := by decide +kernel
theorem dL_law_231 : decode cL_law 231 = .ok (.iconst 1, 1) := by decide +kernel
theorem dL_law_232 : decode cL_law 232 = .ok (.iadd, 1) := by decide +kernel
theorem dL_law_233 : decode cL_law 233 = .ok (.iaload, 1) := by decide +kernel
theorem dL_law_234 : decode cL_law 234 = .ok (.invokevirtual 40, 3) := by decide +kernel
theorem dL_law_237 : decode cL_law 237 = .ok (.if_icmp .eq 85, 3) := by decide +kernel
theorem dL_law_240 : decode cL_law 240 = .ok (.iconst 0, 1) := by decide +kernel
theorem dL_law_241 : decode cL_law 241 = .ok (.ireturn, 1) := by decide +kernel
theorem dL_law_242 : decode cL_law 242 = .ok (.aload_n 1, 1) := by decide +kernel
theorem dL_law_243 : decode cL_law 243 = .ok (.aload_n 0, 1) := by decide +kernel
theorem dL_law_244 : decode cL_law 244 = .ok (.iload_n 3, 1) := by decide +kernel
theorem dL_law_245 : decode cL_law 245 = .ok (.iconst 1, 1) := by decide +kernel
theorem dL_law_246 : decode cL_law 246 = .ok (.iadd, 1) := by decide +kernel
theorem dL_law_247 : decode cL_law 247 = .ok (.iaload, 1) := by decide +kernel
theorem dL_law_248 : decode cL_law 248 = .ok (.aload_n 0, 1) := by decide +kernel
theorem dL_law_249 : decode cL_law 249 = .ok (.iload_n 3, 1) := by decide +kernel
theorem dL_law_250 : decode cL_law 250 = .ok (.iconst 2, 1) := by decide +kernel
theorem dL_law_251 : decode cL_law 251 = .ok (.iadd, 1) := by decide +kernel
theorem dL_law_252 : decode cL_law 252 = .ok (.iaload, 1) := by decide +kernel
theorem dL_law_253 : decode cL_law 253 = .ok (.invokevirtual 41, 3) := by decide +kernel
theorem dL_law_256 : decode cL_law 256 = .ok (.aload_n 2, 1) := by decide +kernel
theorem dL_law_257 : decode cL_law 257 = .ok (.aload_n 0, 1) := by decide +kernel
theorem dL_law_258 : decode cL_law 258 = .ok (.iload_n 3, 1) := by decide +kernel
theorem dL_law_259 : decode cL_law 259 = .ok (.iconst 1, 1) := by decide +kernel
theorem dL_law_260 : decode cL_law 260 = .ok (.iadd, 1) := by decide +kernel
theorem dL_law_261 : decode cL_law 261 = .ok (.iaload, 1) := by decide +kernel
theorem dL_law_262 : decode cL_law 262 = .ok (.aload_n 0, 1) := by decide +kernel
theorem dL_law_263 : decode cL_law 263 = .ok (.iload_n 3, 1) := by decide +kernel
theorem dL_law_264 : decode cL_law 264 = .ok (.iconst 2, 1) := by decide +kernel
theorem dL_law_265 : decode cL_law 265 = .ok (.iadd, 1) := by decide +kernel
theorem dL_law_266 : decode cL_law 266 = .ok (.iaload, 1) := by decide +kernel
theorem dL_law_267 : decode cL_law 267 = .ok (.invokevirtual 44, 3) := by decide +kernel
theorem dL_law_270 : decode cL_law 270 = .ok (.if_icmp .eq 52, 3) := by decide +kernel
theorem dL_law_273 : decode cL_law 273 = .ok (.iconst 0, 1) := by decide +kernel
theorem dL_law_274 : decode cL_law 274 = .ok (.ireturn, 1) := by decide +kernel
theorem dL_law_275 : decode cL_law 275 = .ok (.aload_n 1, 1) := by decide +kernel
theorem dL_law_276 : decode cL_law 276 = .ok (.aload_n 0, 1) := by decide +kernel
theorem dL_law_277 : decode cL_law 277 = .ok (.iload_n 3, 1) := by decide +kernel
theorem dL_law_278 : decode cL_law 278 = .ok (.iconst 1, 1) := by decide +kernel
theorem dL_law_279 : decode cL_law 279 = .ok (.iadd, 1) := by decide +kernel
theorem dL_law_280 : decode cL_law 280 = .ok (.iaload, 1) := by decide +kernel
theorem dL_law_281 : decode cL_law 281 = .ok (.aload_n 0, 1) := by decide +kernel
theorem dL_law_282 : decode cL_law 282 = .ok (.iload_n 3, 1) := by decide +kernel
theorem dL_law_283 : decode cL_law 283 = .ok (.iconst 2, 1) := by decide +kernel
theorem dL_law_284 : decode cL_law 284 = .ok (.iadd, 1) := by decide +kernel
theorem dL_law_285 : decode cL_law 285 = .ok (.iaload, 1) := by decide +kernel
theorem dL_law_286 : decode cL_law 286 = .ok (.invokevirtual 45, 3) := by decide +kernel
theorem dL_law_289 : decode cL_law 289 = .ok (.aload_n 2, 1) := by decide +kernel
theorem dL_law_290 : decode cL_law 290 = .ok (.aload_n 0, 1) := by decide +kernel
theorem dL_law_291 : decode cL_law 291 = .ok (.iload_n 3, 1) := by decide +kernel
theorem dL_law_292 : decode cL_law 292 = .ok (.iconst 1, 1) := by decide +kernel
theorem dL_law_293 : decode cL_law 293 = .ok (.iadd, 1) := by decide +kernel
theorem dL_law_294 : decode cL_law 294 = .ok (.iaload, 1) := by decide +kernel
theorem dL_law_295 : decode cL_law 295 = .ok (.aload_n 0, 1) := by decide +kernel
theorem dL_law_296 : decode cL_law 296 = .ok (.iload_n 3, 1) := by decide +kernel
theorem dL_law_297 : decode cL_law 297 = .ok (.iconst 2, 1) := by decide +kernel
theorem dL_law_298 : decode cL_law 298 = .ok (.iadd, 1) := by decide +kernel
theorem dL_law_299 : decode cL_law 299 = .ok (.iaload, 1) := by decide +kernel
theorem dL_law_300 : decode cL_law 300 = .ok (.invokevirtual 49, 3) := by decide +kernel
theorem dL_law_303 : decode cL_law 303 = .ok (.lcmp, 1) := by decide +kernel
theorem dL_law_304 : decode cL_law 304 = .ok (.ifCond .eq 18, 3) := by decide +kernel
theorem dL_law_307 : decode cL_law 307 = .ok (.iconst 0, 1) := by decide +kernel
theorem dL_law_308 : decode cL_law 308 = .ok (.ireturn, 1) := by decide +kernel
theorem dL_law_309 : decode cL_law 309 = .ok (.aload_n 1, 1) := by decide +kernel
theorem dL_law_310 : decode cL_law 310 = .ok (.invokevirtual 50, 3) := by decide +kernel
theorem dL_law_313 : decode cL_law 313 = .ok (.aload_n 2, 1) := by decide +kernel
theorem dL_law_314 : decode cL_law 314 = .ok (.invokevirtual 53, 3) := by decide +kernel
theorem dL_law_317 : decode cL_law 317 = .ok (.if_icmp .eq 5, 3) := by decide +kernel
theorem dL_law_320 : decode cL_law 320 = .ok (.iconst 0, 1) := by decide +kernel
theorem dL_law_321 : decode cL_law 321 = .ok (.ireturn, 1) := by decide +kernel
theorem dL_law_322 : decode cL_law 322 = .ok (.iinc 3 4, 3) := by decide +kernel
theorem dL_law_325 : decode cL_law 325 = .ok (.goto (-307), 3) := by decide +kernel
theorem dL_law_328 : decode cL_law 328 = .ok (.iconst 1, 1) := by decide +kernel
theorem dL_law_329 : decode cL_law 329 = .ok (.ireturn, 1) := by decide +kernel
