theorem dX0_init_0 : decode cX0_init 0 = .ok (.aload_n 0, 1) := by decide +kernel
theorem dX0_init_1 : decode cX0_init 1 = .ok (.invokespecial 1, 3) := by decide +kernel
theorem dX0_init_4 : decode cX0_init 4 = .ok (.aload_n 0, 1) := by decide +kernel
theorem dX0_init_5 : decode cX0_init 5 = .ok (.sipush 512, 3) := by decide +kernel
theorem dX0_init_8 : decode cX0_init 8 = .ok (.newarray .int, 2) := by decide +kernel
theorem dX0_init_10 : decode cX0_init 10 = .ok (.putfield 9, 3) := by decide +kernel
theorem dX0_init_13 : decode cX0_init 13 = .ok (.aload_n 0, 1) := by decide +kernel
theorem dX0_init_14 : decode cX0_init 14 = .ok (.sipush 512, 3) := by decide +kernel
theorem dX0_init_17 : decode cX0_init 17 = .ok (.newarray .int, 2) := by decide +kernel
theorem dX0_init_19 : decode cX0_init 19 = .ok (.putfield 13, 3) := by decide +kernel
theorem dX0_init_22 : decode cX0_init 22 = .ok (.aload_n 0, 1) := by decide +kernel
theorem dX0_init_23 : decode cX0_init 23 = .ok (.sipush 512, 3) := by decide +kernel
theorem dX0_init_26 : decode cX0_init 26 = .ok (.newarray .int, 2) := by decide +kernel
theorem dX0_init_28 : decode cX0_init 28 = .ok (.putfield 16, 3) := by decide +kernel
theorem dX0_init_31 : decode cX0_init 31 = .ok (.aload_n 0, 1) := by decide +kernel
theorem dX0_init_32 : decode cX0_init 32 = .ok (.sipush 512, 3) := by decide +kernel
theorem dX0_init_35 : decode cX0_init 35 = .ok (.newarray .int, 2) := by decide +kernel
theorem dX0_init_37 : decode cX0_init 37 = .ok (.putfield 19, 3) := by decide +kernel
theorem dX0_init_40 : decode cX0_init 40 = .ok (.aload_n 0, 1) := by decide +kernel
theorem dX0_init_41 : decode cX0_init 41 = .ok (.sipush 512, 3) := by decide +kernel
theorem dX0_init_44 : decode cX0_init 44 = .ok (.newarray .int, 2) := by decide +kernel
theorem dX0_init_46 : decode cX0_init 46 = .ok (.putfield 22, 3) := by decide +kernel
theorem dX0_init_49 : decode cX0_init 49 = .ok (.aload_n 0, 1) := by decide +kernel
theorem dX0_init_50 : decode cX0_init 50 = .ok (.sipush 512, 3) := by decide +kernel
theorem dX0_init_53 : decode cX0_init 53 = .ok (.newarray .int, 2) := by decide +kernel
theorem dX0_init_55 : decode cX0_init 55 = .ok (.putfield 25, 3) := by decide +kernel
theorem dX0_init_58 : decode cX0_init 58 = .ok (.aload_n 0, 1) := by decide +kernel
theorem dX0_init_59 : decode cX0_init 59 = .ok (.sipush 512, 3) := by decide +kernel
theorem dX0_init_62 : decode cX0_init 62 = .ok (.newarray .boolean, 2) := by decide +kernel
theorem dX0_init_64 : decode cX0_init 64 = .ok (.putfield 28, 3) := by decide +kernel
theorem dX0_init_67 : decode cX0_init 67 = .ok (.aload_n 0, 1) := by decide +kernel
theorem dX0_init_68 : decode cX0_init 68 = .ok (.bipush 7, 2) := by decide +kernel
theorem dX0_init_70 : decode cX0_init 70 = .ok (.newarray .int, 2) := by decide +kernel
theorem dX0_init_72 : decode cX0_init 72 = .ok (.putfield 32, 3) := by decide +kernel
theorem dX0_init_75 : decode cX0_init 75 = .ok (.aload_n 0, 1) := by decide +kernel
theorem dX0_init_76 : decode cX0_init 76 = .ok (.getfield 9, 3) := by decide +kernel
theorem dX0_init_79 : decode cX0_init 79 = .ok (.iconst 0, 1) := by decide +kernel
theorem dX0_init_80 : decode cX0_init 80 = .ok (.bipush (-2), 2) := by decide +kernel
theorem dX0_init_82 : decode cX0_init 82 = .ok (.iastore, 1) := by decide +kernel
theorem dX0_init_83 : decode cX0_init 83 = .ok (.aload_n 0, 1) := by decide +kernel
theorem dX0_init_84 : decode cX0_init 84 = .ok (.getfield 22, 3) := by decide +kernel
theorem dX0_init_87 : decode cX0_init 87 = .ok (.iconst 0, 1) := by decide +kernel
theorem dX0_init_88 : decode cX0_init 88 = .ok (.ldc 35, 2) := by decide +kernel
theorem dX0_init_90 : decode cX0_init 90 = .ok (.iastore, 1) := by decide +kernel
theorem dX0_init_91 : decode cX0_init 91 = .ok (.aload_n 0, 1) := by decide +kernel
theorem dX0_init_92 : decode cX0_init 92 = .ok (.iconst 1, 1) := by decide +kernel
theorem dX0_init_93 : decode cX0_init 93 = .ok (.putfield 36, 3) := by decide +kernel
theorem dX0_init_96 : decode cX0_init 96 = .ok (.return_, 1) := by decide +kernel
theorem dX0_add_0 : decode cX0_add 0 = .ok (.aload_n 0, 1) := by decide +kernel
theorem dX0_add_1 : decode cX0_add 1 = .ok (.iload_n 1, 1) := by decide +kernel
theorem dX0_add_2 : decode cX0_add 2 = .ok (.invokevirtual 40, 3) := by decide +kernel
theorem dX0_add_5 : decode cX0_add 5 = .ok (.ifCond .eq 16, 3) := by decide +kernel
theorem dX0_add_8 : decode cX0_add 8 = .ok (.iload_n 2, 1) := by decide +kernel
theorem dX0_add_9 : decode cX0_add 9 = .ok (.aload_n 0, 1) := by decide +kernel
theorem dX0_add_10 : decode cX0_add 10 = .ok (.iload_n 1, 1) := by decide +kernel
theorem dX0_add_11 : decode cX0_add 11 = .ok (.invokevirtual 44, 3) := by decide +kernel
theorem dX0_add_14 : decode cX0_add 14 = .ok (.if_icmp .le 7, 3) := by decide +kernel
theorem dX0_add_17 : decode cX0_add 17 = .ok (.iload_n 3, 1) := by decide +kernel
theorem dX0_add_18 : decode cX0_add 18 = .ok (.ifCond .ge 5, 3) := by decide +kernel
theorem dX0_add_21 : decode cX0_add 21 = .ok (.iconst (-1), 1) := by decide +kernel
theorem dX0_add_22 : decode cX0_add 22 = .ok (.ireturn, 1) := by decide +kernel
theorem dX0_add_23 : decode cX0_add 23 = .ok (.aload_n 0, 1) := by decide +kernel
theorem dX0_add_24 : decode cX0_add 24 = .ok (.getfield 36, 3) := by decide +kernel
theorem dX0_add_27 : decode cX0_add 27 = .ok (.sipush 512, 3) := by decide +kernel
theorem dX0_add_30 : decode cX0_add 30 = .ok (.if_icmp .lt 6, 3) := by decide +kernel
theorem dX0_add_33 : decode cX0_add 33 = .ok (.bipush (-3), 2) := by decide +kernel
theorem dX0_add_35 : decode cX0_add 35 = .ok (.ireturn, 1) := by decide +kernel
theorem dX0_add_36 : decode cX0_add 36 = .ok (.aload_n 0, 1) := by decide +kernel
theorem dX0_add_37 : decode cX0_add 37 = .ok (.getfield 36, 3) := by decide +kernel
theorem dX0_add_40 : decode cX0_add 40 = .ok (.istore 4, 2) := by decide +kernel
theorem dX0_add_42 : decode cX0_add 42 = .ok (.aload_n 0, 1) := by decide +kernel
theorem dX0_add_43 : decode cX0_add 43 = .ok (.iload_n 1, 1) := by decide +kernel
theorem dX0_add_44 : decode cX0_add 44 = .ok (.invokevirtual 48, 3) := by decide +kernel
theorem dX0_add_47 : decode cX0_add 47 = .ok (.istore 5, 2) := by decide +kernel
theorem dX0_add_49 : decode cX0_add 49 = .ok (.aload_n 0, 1) := by decide +kernel
theorem dX0_add_50 : decode cX0_add 50 = .ok (.getfield 9, 3) := by decide +kernel
theorem dX0_add_53 : decode cX0_add 53 = .ok (.iload 4, 2) := by decide +kernel
theorem dX0_add_55 : decode cX0_add 55 = .ok (.iload_n 1, 1) := by decide +kernel
theorem dX0_add_56 : decode cX0_add 56 = .ok (.iastore, 1) := by decide +kernel
theorem dX0_add_57 : decode cX0_add 57 = .ok (.aload_n 0, 1) := by decide +kernel
theorem dX0_add_58 : decode cX0_add 58 = .ok (.getfield 13, 3) := by decide +kernel
theorem dX0_add_61 : decode cX0_add 61 = .ok (.iload 4, 2) := by decide +kernel
theorem dX0_add_63 : decode cX0_add 63 = .ok (.aload_n 0, 1) := by decide +kernel
theorem dX0_add_64 : decode cX0_add 64 = .ok (.getfield 13, 3) := by decide +kernel
theorem dX0_add_67 : decode cX0_add 67 = .ok (.iload_n 1, 1) := by decide +kernel
theorem dX0_add_68 : decode cX0_add 68 = .ok (.iaload, 1) := by decide +kernel
theorem dX0_add_69 : decode cX0_add 69 = .ok (.iconst 1, 1) := by decide +kernel
theorem dX0_add_70 : decode cX0_add 70 = .ok (.iadd, 1) := by decide +kernel
theorem dX0_add_71 : decode cX0_add 71 = .ok (.iastore, 1) := by decide +kernel
theorem dX0_add_72 : decode cX0_add 72 = .ok (.aload_n 0, 1) := by decide +kernel
theorem dX0_add_73 : decode cX0_add 73 = .ok (.getfield 16, 3) := by decide +kernel
theorem dX0_add_76 : decode cX0_add 76 = .ok (.iload 4, 2) := by decide +kernel
theorem dX0_add_78 : decode cX0_add 78 = .ok (.iload_n 2, 1) := by decide +kernel
theorem dX0_add_79 : decode cX0_add 79 = .ok (.iastore, 1) := by decide +kernel
theorem dX0_add_80 : decode cX0_add 80 = .ok (.aload_n 0, 1) := by decide +kernel
theorem dX0_add_81 : decode cX0_add 81 = .ok (.getfield 19, 3) := by decide +kernel
theorem dX0_add_84 : decode cX0_add 84 = .ok (.iload 4, 2) := by decide +kernel
theorem dX0_add_86 : decode cX0_add 86 = .ok (.iload_n 3, 1) := by decide +kernel
theorem dX0_add_87 : decode cX0_add 87 = .ok (.iastore, 1) := by decide +kernel
theorem dX0_add_88 : decode cX0_add 88 = .ok (.aload_n 0, 1) := by decide +kernel
theorem dX0_add_89 : decode cX0_add 89 = .ok (.getfield 22, 3) := by decide +kernel
theorem dX0_add_92 : decode cX0_add 92 = .ok (.iload 4, 2) := by decide +kernel
theorem dX0_add_94 : decode cX0_add 94 = .ok (.iload 5, 2) := by decide +kernel
theorem dX0_add_96 : decode cX0_add 96 = .ok (.iastore, 1) := by decide +kernel
theorem dX0_add_97 : decode cX0_add 97 = .ok (.aload_n 0, 1) := by decide +kernel
theorem dX0_add_98 : decode cX0_add 98 = .ok (.getfield 25, 3) := by decide +kernel
theorem dX0_add_101 : decode cX0_add 101 = .ok (.iload 4, 2) := by decide +kernel
theorem dX0_add_103 : decode cX0_add 103 = .ok (.aload_n 0, 1) := by decide +kernel
theorem dX0_add_104 : decode cX0_add 104 = .ok (.getfield 25, 3) := by decide +kernel
theorem dX0_add_107 : decode cX0_add 107 = .ok (.iload_n 1, 1) := by decide +kernel
theorem dX0_add_108 : decode cX0_add 108 = .ok (.iaload, 1) := by decide +kernel
theorem dX0_add_109 : decode cX0_add 109 = .ok (.ldc 51, 2) := by decide +kernel
theorem dX0_add_111 : decode cX0_add 111 = .ok (.iload 5, 2) := by decide +kernel
theorem dX0_add_113 : decode cX0_add 113 = .ok (.idiv, 1) := by decide +kernel
theorem dX0_add_114 : decode cX0_add 114 = .ok (.iadd, 1) := by decide +kernel
theorem dX0_add_115 : decode cX0_add 115 = .ok (.iastore, 1) := by decide +kernel
theorem dX0_add_116 : decode cX0_add 116 = .ok (.aload_n 0, 1) := by decide +kernel
theorem dX0_add_117 : decode cX0_add 117 = .ok (.getfield 28, 3) := by decide +kernel
theorem dX0_add_120 : decode cX0_add 120 = .ok (.iload 4, 2) := by decide +kernel
theorem dX0_add_122 : decode cX0_add 122 = .ok (.aload_n 0, 1) := by decide +kernel
theorem dX0_add_123 : decode cX0_add 123 = .ok (.getfield 28, 3) := by decide +kernel
theorem dX0_add_126 : decode cX0_add 126 = .ok (.iload_n 1, 1) := by decide +kernel
theorem dX0_add_127 : decode cX0_add 127 = .ok (.baload, 1) := by decide +kernel
theorem dX0_add_128 : decode cX0_add 128 = .ok (.bastore, 1) := by decide +kernel
theorem dX0_add_129 : decode cX0_add 129 = .ok (.aload_n 0, 1) := by decide +kernel
theorem dX0_add_130 : decode cX0_add 130 = .ok (.dup, 1) := by decide +kernel
theorem dX0_add_131 : decode cX0_add 131 = .ok (.getfield 36, 3) := by decide +kernel
theorem dX0_add_134 : decode cX0_add 134 = .ok (.iconst 1, 1) := by decide +kernel
theorem dX0_add_135 : decode cX0_add 135 = .ok (.iadd, 1) := by decide +kernel
theorem dX0_add_136 : decode cX0_add 136 = .ok (.putfield 36, 3) := by decide +kernel
theorem dX0_add_139 : decode cX0_add 139 = .ok (.iload 4, 2) := by decide +kernel
theorem dX0_add_141 : decode cX0_add 141 = .ok (.ireturn, 1) := by decide +kernel
theorem dX0_refuse_0 : decode cX0_refuse 0 = .ok (.aload_n 0, 1) := by decide +kernel
theorem dX0_refuse_1 : decode cX0_refuse 1 = .ok (.iload_n 1, 1) := by decide +kernel
theorem dX0_refuse_2 : decode cX0_refuse 2 = .ok (.invokevirtual 40, 3) := by decide +kernel
theorem dX0_refuse_5 : decode cX0_refuse 5 = .ok (.ifCond .eq 7, 3) := by decide +kernel
theorem dX0_refuse_8 : decode cX0_refuse 8 = .ok (.iload_n 1, 1) := by decide +kernel
theorem dX0_refuse_9 : decode cX0_refuse 9 = .ok (.ifCond .ne 5, 3) := by decide +kernel
theorem dX0_refuse_12 : decode cX0_refuse 12 = .ok (.iconst (-1), 1) := by decide +kernel
theorem dX0_refuse_13 : decode cX0_refuse 13 = .ok (.ireturn, 1) := by decide +kernel
theorem dX0_refuse_14 : decode cX0_refuse 14 = .ok (.aload_n 0, 1) := by decide +kernel
theorem dX0_refuse_15 : decode cX0_refuse 15 = .ok (.getfield 28, 3) := by decide +kernel
theorem dX0_refuse_18 : decode cX0_refuse 18 = .ok (.iload_n 1, 1) := by decide +kernel
theorem dX0_refuse_19 : decode cX0_refuse 19 = .ok (.iconst 1, 1) := by decide +kernel
theorem dX0_refuse_20 : decode cX0_refuse 20 = .ok (.bastore, 1) := by decide +kernel
theorem dX0_refuse_21 : decode cX0_refuse 21 = .ok (.iload_n 1, 1) := by decide +kernel
theorem dX0_refuse_22 : decode cX0_refuse 22 = .ok (.iconst 1, 1) := by decide +kernel
theorem dX0_refuse_23 : decode cX0_refuse 23 = .ok (.iadd, 1) := by decide +kernel
theorem dX0_refuse_24 : decode cX0_refuse 24 = .ok (.istore_n 2, 1) := by decide +kernel
theorem dX0_refuse_25 : decode cX0_refuse 25 = .ok (.iload_n 2, 1) := by decide +kernel
theorem dX0_refuse_26 : decode cX0_refuse 26 = .ok (.aload_n 0, 1) := by decide +kernel
theorem dX0_refuse_27 : decode cX0_refuse 27 = .ok (.getfield 36, 3) := by decide +kernel
theorem dX0_refuse_30 : decode cX0_refuse 30 = .ok (.if_icmp .ge 30, 3) := by decide +kernel
theorem dX0_refuse_33 : decode cX0_refuse 33 = .ok (.aload_n 0, 1) := by decide +kernel
theorem dX0_refuse_34 : decode cX0_refuse 34 = .ok (.getfield 28, 3) := by decide +kernel
theorem dX0_refuse_37 : decode cX0_refuse 37 = .ok (.aload_n 0, 1) := by decide +kernel
theorem dX0_refuse_38 : decode cX0_refuse 38 = .ok (.getfield 9, 3) := by decide +kernel
theorem dX0_refuse_41 : decode cX0_refuse 41 = .ok (.iload_n 2, 1) := by decide +kernel
theorem dX0_refuse_42 : decode cX0_refuse 42 = .ok (.iaload, 1) := by decide +kernel
theorem dX0_refuse_43 : decode cX0_refuse 43 = .ok (.baload, 1) := by decide +kernel
theorem dX0_refuse_44 : decode cX0_refuse 44 = .ok (.ifCond .eq 10, 3) := by decide +kernel
theorem dX0_refuse_47 : decode cX0_refuse 47 = .ok (.aload_n 0, 1) := by decide +kernel
theorem dX0_refuse_48 : decode cX0_refuse 48 = .ok (.getfield 28, 3) := by decide +kernel
theorem dX0_refuse_51 : decode cX0_refuse 51 = .ok (.iload_n 2, 1) := by decide +kernel
theorem dX0_refuse_52 : decode cX0_refuse 52 = .ok (.iconst 1, 1) := by decide +kernel
theorem dX0_refuse_53 : decode cX0_refuse 53 = .ok (.bastore, 1) := by decide +kernel
theorem dX0_refuse_54 : decode cX0_refuse 54 = .ok (.iinc 2 1, 3) := by decide +kernel
theorem dX0_refuse_57 : decode cX0_refuse 57 = .ok (.goto (-32), 3) := by decide +kernel
theorem dX0_refuse_60 : decode cX0_refuse 60 = .ok (.aload_n 0, 1) := by decide +kernel
theorem dX0_refuse_61 : decode cX0_refuse 61 = .ok (.invokevirtual 52, 3) := by decide +kernel
theorem dX0_refuse_64 : decode cX0_refuse 64 = .ok (.ireturn, 1) := by decide +kernel
theorem dX0_best_0 : decode cX0_best 0 = .ok (.aload_n 0, 1) := by decide +kernel
theorem dX0_best_1 : decode cX0_best 1 = .ok (.invokevirtual 52, 3) := by decide +kernel
theorem dX0_best_4 : decode cX0_best 4 = .ok (.ireturn, 1) := by decide +kernel
theorem dX0_fork_0 : decode cX0_fork 0 = .ok (.aload_n 0, 1) := by decide +kernel
theorem dX0_fork_1 : decode cX0_fork 1 = .ok (.iload_n 1, 1) := by decide +kernel
theorem dX0_fork_2 : decode cX0_fork 2 = .ok (.invokevirtual 40, 3) := by decide +kernel
theorem dX0_fork_5 : decode cX0_fork 5 = .ok (.ifCond .eq 11, 3) := by decide +kernel
theorem dX0_fork_8 : decode cX0_fork 8 = .ok (.aload_n 0, 1) := by decide +kernel
theorem dX0_fork_9 : decode cX0_fork 9 = .ok (.iload_n 2, 1) := by decide +kernel
theorem dX0_fork_10 : decode cX0_fork 10 = .ok (.invokevirtual 40, 3) := by decide +kernel
theorem dX0_fork_13 : decode cX0_fork 13 = .ok (.ifCond .ne 6, 3) := by decide +kernel
theorem dX0_fork_16 : decode cX0_fork 16 = .ok (.bipush (-2), 2) := by decide +kernel
theorem dX0_fork_18 : decode cX0_fork 18 = .ok (.ireturn, 1) := by decide +kernel
theorem dX0_fork_19 : decode cX0_fork 19 = .ok (.aload_n 0, 1) := by decide +kernel
theorem dX0_fork_20 : decode cX0_fork 20 = .ok (.getfield 13, 3) := by decide +kernel
theorem dX0_fork_23 : decode cX0_fork 23 = .ok (.iload_n 1, 1) := by decide +kernel
theorem dX0_fork_24 : decode cX0_fork 24 = .ok (.iaload, 1) := by decide +kernel
theorem dX0_fork_25 : decode cX0_fork 25 = .ok (.aload_n 0, 1) := by decide +kernel
theorem dX0_fork_26 : decode cX0_fork 26 = .ok (.getfield 13, 3) := by decide +kernel
theorem dX0_fork_29 : decode cX0_fork 29 = .ok (.iload_n 2, 1) := by decide +kernel
theorem dX0_fork_30 : decode cX0_fork 30 = .ok (.iaload, 1) := by decide +kernel
theorem dX0_fork_31 : decode cX0_fork 31 = .ok (.invokestatic 56, 3) := by decide +kernel
theorem dX0_fork_34 : decode cX0_fork 34 = .ok (.istore_n 3, 1) := by decide +kernel
theorem dX0_fork_35 : decode cX0_fork 35 = .ok (.aload_n 0, 1) := by decide +kernel
theorem dX0_fork_36 : decode cX0_fork 36 = .ok (.iload_n 1, 1) := by decide +kernel
theorem dX0_fork_37 : decode cX0_fork 37 = .ok (.iload_n 3, 1) := by decide +kernel
theorem dX0_fork_38 : decode cX0_fork 38 = .ok (.invokevirtual 62, 3) := by decide +kernel
theorem dX0_fork_41 : decode cX0_fork 41 = .ok (.istore 4, 2) := by decide +kernel
theorem dX0_fork_43 : decode cX0_fork 43 = .ok (.aload_n 0, 1) := by decide +kernel
theorem dX0_fork_44 : decode cX0_fork 44 = .ok (.iload_n 2, 1) := by decide +kernel
theorem dX0_fork_45 : decode cX0_fork 45 = .ok (.iload_n 3, 1) := by decide +kernel
theorem dX0_fork_46 : decode cX0_fork 46 = .ok (.invokevirtual 62, 3) := by decide +kernel
theorem dX0_fork_49 : decode cX0_fork 49 = .ok (.istore 5, 2) := by decide +kernel
theorem dX0_fork_51 : decode cX0_fork 51 = .ok (.iload_n 3, 1) := by decide +kernel
theorem dX0_fork_52 : decode cX0_fork 52 = .ok (.istore 6, 2) := by decide +kernel
theorem dX0_fork_54 : decode cX0_fork 54 = .ok (.iload 6, 2) := by decide +kernel
theorem dX0_fork_56 : decode cX0_fork 56 = .ok (.ifCond .le 34, 3) := by decide +kernel
theorem dX0_fork_59 : decode cX0_fork 59 = .ok (.iload 4, 2) := by decide +kernel
theorem dX0_fork_61 : decode cX0_fork 61 = .ok (.iload 5, 2) := by decide +kernel
theorem dX0_fork_63 : decode cX0_fork 63 = .ok (.if_icmp .eq 27, 3) := by decide +kernel
theorem dX0_fork_66 : decode cX0_fork 66 = .ok (.aload_n 0, 1) := by decide +kernel
theorem dX0_fork_67 : decode cX0_fork 67 = .ok (.getfield 9, 3) := by decide +kernel
theorem dX0_fork_70 : decode cX0_fork 70 = .ok (.iload 4, 2) := by decide +kernel
theorem dX0_fork_72 : decode cX0_fork 72 = .ok (.iaload, 1) := by decide +kernel
theorem dX0_fork_73 : decode cX0_fork 73 = .ok (.istore 4, 2) := by decide +kernel
theorem dX0_fork_75 : decode cX0_fork 75 = .ok (.aload_n 0, 1) := by decide +kernel
theorem dX0_fork_76 : decode cX0_fork 76 = .ok (.getfield 9, 3) := by decide +kernel
theorem dX0_fork_79 : decode cX0_fork 79 = .ok (.iload 5, 2) := by decide +kernel
theorem dX0_fork_81 : decode cX0_fork 81 = .ok (.iaload, 1) := by decide +kernel
theorem dX0_fork_82 : decode cX0_fork 82 = .ok (.istore 5, 2) := by decide +kernel
theorem dX0_fork_84 : decode cX0_fork 84 = .ok (.iinc 6 (-1), 3) := by decide +kernel
theorem dX0_fork_87 : decode cX0_fork 87 = .ok (.goto (-33), 3) := by decide +kernel
theorem dX0_fork_90 : decode cX0_fork 90 = .ok (.iload 4, 2) := by decide +kernel
theorem dX0_fork_92 : decode cX0_fork 92 = .ok (.ireturn, 1) := by decide +kernel
theorem dX0_due_0 : decode cX0_due 0 = .ok (.aload_n 0, 1) := by decide +kernel
theorem dX0_due_1 : decode cX0_due 1 = .ok (.iload_n 1, 1) := by decide +kernel
theorem dX0_due_2 : decode cX0_due 2 = .ok (.invokevirtual 40, 3) := by decide +kernel
theorem dX0_due_5 : decode cX0_due 5 = .ok (.ifCond .eq 11, 3) := by decide +kernel
theorem dX0_due_8 : decode cX0_due 8 = .ok (.aload_n 0, 1) := by decide +kernel
theorem dX0_due_9 : decode cX0_due 9 = .ok (.iload_n 1, 1) := by decide +kernel
theorem dX0_due_10 : decode cX0_due 10 = .ok (.invokevirtual 48, 3) := by decide +kernel
theorem dX0_due_13 : decode cX0_due 13 = .ok (.goto 5, 3) := by decide +kernel
theorem dX0_due_16 : decode cX0_due 16 = .ok (.bipush (-2), 2) := by decide +kernel
theorem dX0_due_18 : decode cX0_due 18 = .ok (.ireturn, 1) := by decide +kernel
theorem dX0_median_0 : decode cX0_median 0 = .ok (.aload_n 0, 1) := by decide +kernel
theorem dX0_median_1 : decode cX0_median 1 = .ok (.iload_n 1, 1) := by decide +kernel
theorem dX0_median_2 : decode cX0_median 2 = .ok (.invokevirtual 40, 3) := by decide +kernel
theorem dX0_median_5 : decode cX0_median 5 = .ok (.ifCond .eq 11, 3) := by decide +kernel
theorem dX0_median_8 : decode cX0_median 8 = .ok (.aload_n 0, 1) := by decide +kernel
theorem dX0_median_9 : decode cX0_median 9 = .ok (.iload_n 1, 1) := by decide +kernel
theorem dX0_median_10 : decode cX0_median 10 = .ok (.invokevirtual 44, 3) := by decide +kernel
theorem dX0_median_13 : decode cX0_median 13 = .ok (.goto 5, 3) := by decide +kernel
theorem dX0_median_16 : decode cX0_median 16 = .ok (.bipush (-2), 2) := by decide +kernel
theorem dX0_median_18 : decode cX0_median 18 = .ok (.ireturn, 1) := by decide +kernel
theorem dX0_ancestor_0 : decode cX0_ancestor 0 = .ok (.aload_n 0, 1) := by decide +kernel
theorem dX0_ancestor_1 : decode cX0_ancestor 1 = .ok (.iload_n 1, 1) := by decide +kernel
theorem dX0_ancestor_2 : decode cX0_ancestor 2 = .ok (.invokevirtual 40, 3) := by decide +kernel
theorem dX0_ancestor_5 : decode cX0_ancestor 5 = .ok (.ifCond .eq 17, 3) := by decide +kernel
theorem dX0_ancestor_8 : decode cX0_ancestor 8 = .ok (.iload_n 2, 1) := by decide +kernel
theorem dX0_ancestor_9 : decode cX0_ancestor 9 = .ok (.ifCond .lt 13, 3) := by decide +kernel
theorem dX0_ancestor_12 : decode cX0_ancestor 12 = .ok (.iload_n 2, 1) := by decide +kernel
theorem dX0_ancestor_13 : decode cX0_ancestor 13 = .ok (.aload_n 0, 1) := by decide +kernel
theorem dX0_ancestor_14 : decode cX0_ancestor 14 = .ok (.getfield 13, 3) := by decide +kernel
theorem dX0_ancestor_17 : decode cX0_ancestor 17 = .ok (.iload_n 1, 1) := by decide +kernel
theorem dX0_ancestor_18 : decode cX0_ancestor 18 = .ok (.iaload, 1) := by decide +kernel
theorem dX0_ancestor_19 : decode cX0_ancestor 19 = .ok (.if_icmp .le 6, 3) := by decide +kernel
theorem dX0_ancestor_22 : decode cX0_ancestor 22 = .ok (.bipush (-2), 2) := by decide +kernel
theorem dX0_ancestor_24 : decode cX0_ancestor 24 = .ok (.ireturn, 1) := by decide +kernel
theorem dX0_ancestor_25 : decode cX0_ancestor 25 = .ok (.aload_n 0, 1) := by decide +kernel
theorem dX0_ancestor_26 : decode cX0_ancestor 26 = .ok (.iload_n 1, 1) := by decide +kernel
theorem dX0_ancestor_27 : decode cX0_ancestor 27 = .ok (.iload_n 2, 1) := by decide +kernel
theorem dX0_ancestor_28 : decode cX0_ancestor 28 = .ok (.invokevirtual 62, 3) := by decide +kernel
theorem dX0_ancestor_31 : decode cX0_ancestor 31 = .ok (.ireturn, 1) := by decide +kernel
theorem dX0_look_0 : decode cX0_look 0 = .ok (.iload_n 2, 1) := by decide +kernel
theorem dX0_look_1 : decode cX0_look 1 = .ok (.ifCond .lt 8, 3) := by decide +kernel
theorem dX0_look_4 : decode cX0_look 4 = .ok (.iload_n 2, 1) := by decide +kernel
theorem dX0_look_5 : decode cX0_look 5 = .ok (.iconst 5, 1) := by decide +kernel
theorem dX0_look_6 : decode cX0_look 6 = .ok (.if_icmp .le 7, 3) := by decide +kernel
theorem dX0_look_9 : decode cX0_look 9 = .ok (.ldc2_w 65, 3) := by decide +kernel
theorem dX0_look_12 : decode cX0_look 12 = .ok (.lreturn, 1) := by decide +kernel
theorem dX0_look_13 : decode cX0_look 13 = .ok (.aload_n 0, 1) := by decide +kernel
theorem dX0_look_14 : decode cX0_look 14 = .ok (.iload_n 1, 1) := by decide +kernel
theorem dX0_look_15 : decode cX0_look 15 = .ok (.invokevirtual 40, 3) := by decide +kernel
theorem dX0_look_18 : decode cX0_look 18 = .ok (.ifCond .ne 7, 3) := by decide +kernel
theorem dX0_look_21 : decode cX0_look 21 = .ok (.ldc2_w 67, 3) := by decide +kernel
theorem dX0_look_24 : decode cX0_look 24 = .ok (.lreturn, 1) := by decide +kernel
theorem dX0_look_25 : decode cX0_look 25 = .ok (.iload_n 2, 1) := by decide +kernel
theorem dX0_look_26 : decode cX0_look 26 = .ok (.tableswitch 74 0 4 #[34, 42, 50, 58, 66], 34) := by decide +kernel
theorem dX0_look_60 : decode cX0_look 60 = .ok (.aload_n 0, 1) := by decide +kernel
theorem dX0_look_61 : decode cX0_look 61 = .ok (.getfield 13, 3) := by decide +kernel
theorem dX0_look_64 : decode cX0_look 64 = .ok (.iload_n 1, 1) := by decide +kernel
theorem dX0_look_65 : decode cX0_look 65 = .ok (.iaload, 1) := by decide +kernel
theorem dX0_look_66 : decode cX0_look 66 = .ok (.i2l, 1) := by decide +kernel
theorem dX0_look_67 : decode cX0_look 67 = .ok (.lreturn, 1) := by decide +kernel
theorem dX0_look_68 : decode cX0_look 68 = .ok (.aload_n 0, 1) := by decide +kernel
theorem dX0_look_69 : decode cX0_look 69 = .ok (.getfield 9, 3) := by decide +kernel
theorem dX0_look_72 : decode cX0_look 72 = .ok (.iload_n 1, 1) := by decide +kernel
theorem dX0_look_73 : decode cX0_look 73 = .ok (.iaload, 1) := by decide +kernel
theorem dX0_look_74 : decode cX0_look 74 = .ok (.i2l, 1) := by decide +kernel
theorem dX0_look_75 : decode cX0_look 75 = .ok (.lreturn, 1) := by decide +kernel
theorem dX0_look_76 : decode cX0_look 76 = .ok (.aload_n 0, 1) := by decide +kernel
theorem dX0_look_77 : decode cX0_look 77 = .ok (.getfield 16, 3) := by decide +kernel
theorem dX0_look_80 : decode cX0_look 80 = .ok (.iload_n 1, 1) := by decide +kernel
theorem dX0_look_81 : decode cX0_look 81 = .ok (.iaload, 1) := by decide +kernel
theorem dX0_look_82 : decode cX0_look 82 = .ok (.i2l, 1) := by decide +kernel
theorem dX0_look_83 : decode cX0_look 83 = .ok (.lreturn, 1) := by decide +kernel
theorem dX0_look_84 : decode cX0_look 84 = .ok (.aload_n 0, 1) := by decide +kernel
theorem dX0_look_85 : decode cX0_look 85 = .ok (.getfield 22, 3) := by decide +kernel
theorem dX0_look_88 : decode cX0_look 88 = .ok (.iload_n 1, 1) := by decide +kernel
theorem dX0_look_89 : decode cX0_look 89 = .ok (.iaload, 1) := by decide +kernel
theorem dX0_look_90 : decode cX0_look 90 = .ok (.i2l, 1) := by decide +kernel
theorem dX0_look_91 : decode cX0_look 91 = .ok (.lreturn, 1) := by decide +kernel
theorem dX0_look_92 : decode cX0_look 92 = .ok (.aload_n 0, 1) := by decide +kernel
theorem dX0_look_93 : decode cX0_look 93 = .ok (.getfield 25, 3) := by decide +kernel
theorem dX0_look_96 : decode cX0_look 96 = .ok (.iload_n 1, 1) := by decide +kernel
theorem dX0_look_97 : decode cX0_look 97 = .ok (.iaload, 1) := by decide +kernel
theorem dX0_look_98 : decode cX0_look 98 = .ok (.i2l, 1) := by decide +kernel
theorem dX0_look_99 : decode cX0_look 99 = .ok (.lreturn, 1) := by decide +kernel
theorem dX0_look_100 : decode cX0_look 100 = .ok (.aload_n 0, 1) := by decide +kernel
theorem dX0_look_101 : decode cX0_look 101 = .ok (.getfield 28, 3) := by decide +kernel
theorem dX0_look_104 : decode cX0_look 104 = .ok (.iload_n 1, 1) := by decide +kernel
theorem dX0_look_105 : decode cX0_look 105 = .ok (.baload, 1) := by decide +kernel
theorem dX0_look_106 : decode cX0_look 106 = .ok (.ifCond .eq 7, 3) := by decide +kernel
theorem dX0_look_109 : decode cX0_look 109 = .ok (.lconst 1, 1) := by decide +kernel
theorem dX0_look_110 : decode cX0_look 110 = .ok (.goto 4, 3) := by decide +kernel
theorem dX0_look_113 : decode cX0_look 113 = .ok (.lconst 0, 1) := by decide +kernel
theorem dX0_look_114 : decode cX0_look 114 = .ok (.lreturn, 1) := by decide +kernel
theorem dX0_blocks_0 : decode cX0_blocks 0 = .ok (.aload_n 0, 1) := by decide +kernel
theorem dX0_blocks_1 : decode cX0_blocks 1 = .ok (.getfield 36, 3) := by decide +kernel
theorem dX0_blocks_4 : decode cX0_blocks 4 = .ok (.ireturn, 1) := by decide +kernel
theorem dX0_exists_0 : decode cX0_exists 0 = .ok (.iload_n 1, 1) := by decide +kernel
theorem dX0_exists_1 : decode cX0_exists 1 = .ok (.ifCond .lt 15, 3) := by decide +kernel
theorem dX0_exists_4 : decode cX0_exists 4 = .ok (.iload_n 1, 1) := by decide +kernel
theorem dX0_exists_5 : decode cX0_exists 5 = .ok (.aload_n 0, 1) := by decide +kernel
theorem dX0_exists_6 : decode cX0_exists 6 = .ok (.getfield 36, 3) := by decide +kernel
theorem dX0_exists_9 : decode cX0_exists 9 = .ok (.if_icmp .ge 7, 3) := by decide +kernel
theorem dX0_exists_12 : decode cX0_exists 12 = .ok (.iconst 1, 1) := by decide +kernel
theorem dX0_exists_13 : decode cX0_exists 13 = .ok (.goto 4, 3) := by decide +kernel
theorem dX0_exists_16 : decode cX0_exists 16 = .ok (.iconst 0, 1) := by decide +kernel
theorem dX0_exists_17 : decode cX0_exists 17 = .ok (.ireturn, 1) := by decide +kernel
theorem dX0_ancestorAt_0 : decode cX0_ancestorAt 0 = .ok (.iload_n 1, 1) := by decide +kernel
theorem dX0_ancestorAt_1 : decode cX0_ancestorAt 1 = .ok (.istore_n 3, 1) := by decide +kernel
theorem dX0_ancestorAt_2 : decode cX0_ancestorAt 2 = .ok (.aload_n 0, 1) := by decide +kernel
theorem dX0_ancestorAt_3 : decode cX0_ancestorAt 3 = .ok (.getfield 13, 3) := by decide +kernel
theorem dX0_ancestorAt_6 : decode cX0_ancestorAt 6 = .ok (.iload_n 1, 1) := by decide +kernel
theorem dX0_ancestorAt_7 : decode cX0_ancestorAt 7 = .ok (.iaload, 1) := by decide +kernel
theorem dX0_ancestorAt_8 : decode cX0_ancestorAt 8 = .ok (.istore 4, 2) := by decide +kernel
theorem dX0_ancestorAt_10 : decode cX0_ancestorAt 10 = .ok (.iload 4, 2) := by decide +kernel
theorem dX0_ancestorAt_12 : decode cX0_ancestorAt 12 = .ok (.iload_n 2, 1) := by decide +kernel
theorem dX0_ancestorAt_13 : decode cX0_ancestorAt 13 = .ok (.if_icmp .le 16, 3) := by decide +kernel
theorem dX0_ancestorAt_16 : decode cX0_ancestorAt 16 = .ok (.aload_n 0, 1) := by decide +kernel
theorem dX0_ancestorAt_17 : decode cX0_ancestorAt 17 = .ok (.getfield 9, 3) := by decide +kernel
theorem dX0_ancestorAt_20 : decode cX0_ancestorAt 20 = .ok (.iload_n 3, 1) := by decide +kernel
theorem dX0_ancestorAt_21 : decode cX0_ancestorAt 21 = .ok (.iaload, 1) := by decide +kernel
theorem dX0_ancestorAt_22 : decode cX0_ancestorAt 22 = .ok (.istore_n 3, 1) := by decide +kernel
theorem dX0_ancestorAt_23 : decode cX0_ancestorAt 23 = .ok (.iinc 4 (-1), 3) := by decide +kernel
theorem dX0_ancestorAt_26 : decode cX0_ancestorAt 26 = .ok (.goto (-16), 3) := by decide +kernel
theorem dX0_ancestorAt_29 : decode cX0_ancestorAt 29 = .ok (.iload_n 3, 1) := by decide +kernel
theorem dX0_ancestorAt_30 : decode cX0_ancestorAt 30 = .ok (.ireturn, 1) := by decide +kernel
theorem dX0_medianTime_0 : decode cX0_medianTime 0 = .ok (.aload_n 0, 1) := by decide +kernel
theorem dX0_medianTime_1 : decode cX0_medianTime 1 = .ok (.getfield 13, 3) := by decide +kernel
theorem dX0_medianTime_4 : decode cX0_medianTime 4 = .ok (.iload_n 1, 1) := by decide +kernel
theorem dX0_medianTime_5 : decode cX0_medianTime 5 = .ok (.iaload, 1) := by decide +kernel
theorem dX0_medianTime_6 : decode cX0_medianTime 6 = .ok (.iconst 1, 1) := by decide +kernel
theorem dX0_medianTime_7 : decode cX0_medianTime 7 = .ok (.iadd, 1) := by decide +kernel
theorem dX0_medianTime_8 : decode cX0_medianTime 8 = .ok (.bipush 7, 2) := by decide +kernel
theorem dX0_medianTime_10 : decode cX0_medianTime 10 = .ok (.invokestatic 56, 3) := by decide +kernel
theorem dX0_medianTime_13 : decode cX0_medianTime 13 = .ok (.istore_n 2, 1) := by decide +kernel
theorem dX0_medianTime_14 : decode cX0_medianTime 14 = .ok (.iload_n 1, 1) := by decide +kernel
theorem dX0_medianTime_15 : decode cX0_medianTime 15 = .ok (.istore_n 3, 1) := by decide +kernel
theorem dX0_medianTime_16 : decode cX0_medianTime 16 = .ok (.iconst 0, 1) := by decide +kernel
theorem dX0_medianTime_17 : decode cX0_medianTime 17 = .ok (.istore 4, 2) := by decide +kernel
theorem dX0_medianTime_19 : decode cX0_medianTime 19 = .ok (.iload 4, 2) := by decide +kernel
theorem dX0_medianTime_21 : decode cX0_medianTime 21 = .ok (.iload_n 2, 1) := by decide +kernel
theorem dX0_medianTime_22 : decode cX0_medianTime 22 = .ok (.if_icmp .ge 28, 3) := by decide +kernel
theorem dX0_medianTime_25 : decode cX0_medianTime 25 = .ok (.aload_n 0, 1) := by decide +kernel
theorem dX0_medianTime_26 : decode cX0_medianTime 26 = .ok (.aload_n 0, 1) := by decide +kernel
theorem dX0_medianTime_27 : decode cX0_medianTime 27 = .ok (.getfield 16, 3) := by decide +kernel
theorem dX0_medianTime_30 : decode cX0_medianTime 30 = .ok (.iload_n 3, 1) := by decide +kernel
theorem dX0_medianTime_31 : decode cX0_medianTime 31 = .ok (.iaload, 1) := by decide +kernel
theorem dX0_medianTime_32 : decode cX0_medianTime 32 = .ok (.iload 4, 2) := by decide +kernel
theorem dX0_medianTime_34 : decode cX0_medianTime 34 = .ok (.invokevirtual 69, 3) := by decide +kernel
theorem dX0_medianTime_37 : decode cX0_medianTime 37 = .ok (.aload_n 0, 1) := by decide +kernel
theorem dX0_medianTime_38 : decode cX0_medianTime 38 = .ok (.getfield 9, 3) := by decide +kernel
theorem dX0_medianTime_41 : decode cX0_medianTime 41 = .ok (.iload_n 3, 1) := by decide +kernel
theorem dX0_medianTime_42 : decode cX0_medianTime 42 = .ok (.iaload, 1) := by decide +kernel
theorem dX0_medianTime_43 : decode cX0_medianTime 43 = .ok (.istore_n 3, 1) := by decide +kernel
theorem dX0_medianTime_44 : decode cX0_medianTime 44 = .ok (.iinc 4 1, 3) := by decide +kernel
theorem dX0_medianTime_47 : decode cX0_medianTime 47 = .ok (.goto (-28), 3) := by decide +kernel
theorem dX0_medianTime_50 : decode cX0_medianTime 50 = .ok (.aload_n 0, 1) := by decide +kernel
theorem dX0_medianTime_51 : decode cX0_medianTime 51 = .ok (.getfield 32, 3) := by decide +kernel
theorem dX0_medianTime_54 : decode cX0_medianTime 54 = .ok (.iload_n 2, 1) := by decide +kernel
theorem dX0_medianTime_55 : decode cX0_medianTime 55 = .ok (.iconst 2, 1) := by decide +kernel
theorem dX0_medianTime_56 : decode cX0_medianTime 56 = .ok (.idiv, 1) := by decide +kernel
theorem dX0_medianTime_57 : decode cX0_medianTime 57 = .ok (.iaload, 1) := by decide +kernel
theorem dX0_medianTime_58 : decode cX0_medianTime 58 = .ok (.ireturn, 1) := by decide +kernel
theorem dX0_insertTime_0 : decode cX0_insertTime 0 = .ok (.iload_n 2, 1) := by decide +kernel
theorem dX0_insertTime_1 : decode cX0_insertTime 1 = .ok (.istore_n 3, 1) := by decide +kernel
theorem dX0_insertTime_2 : decode cX0_insertTime 2 = .ok (.iload_n 3, 1) := by decide +kernel
theorem dX0_insertTime_3 : decode cX0_insertTime 3 = .ok (.ifCond .le 35, 3) := by decide +kernel
theorem dX0_insertTime_6 : decode cX0_insertTime 6 = .ok (.aload_n 0, 1) := by decide +kernel
theorem dX0_insertTime_7 : decode cX0_insertTime 7 = .ok (.getfield 32, 3) := by decide +kernel
theorem dX0_insertTime_10 : decode cX0_insertTime 10 = .ok (.iload_n 3, 1) := by decide +kernel
theorem dX0_insertTime_11 : decode cX0_insertTime 11 = .ok (.iconst 1, 1) := by decide +kernel
theorem dX0_insertTime_12 : decode cX0_insertTime 12 = .ok (.isub, 1) := by decide +kernel
theorem dX0_insertTime_13 : decode cX0_insertTime 13 = .ok (.iaload, 1) := by decide +kernel
theorem dX0_insertTime_14 : decode cX0_insertTime 14 = .ok (.iload_n 1, 1) := by decide +kernel
theorem dX0_insertTime_15 : decode cX0_insertTime 15 = .ok (.if_icmp .le 23, 3) := by decide +kernel
theorem dX0_insertTime_18 : decode cX0_insertTime 18 = .ok (.aload_n 0, 1) := by decide +kernel
theorem dX0_insertTime_19 : decode cX0_insertTime 19 = .ok (.getfield 32, 3) := by decide +kernel
theorem dX0_insertTime_22 : decode cX0_insertTime 22 = .ok (.iload_n 3, 1) := by decide +kernel
theorem dX0_insertTime_23 : decode cX0_insertTime 23 = .ok (.aload_n 0, 1) := by decide +kernel
theorem dX0_insertTime_24 : decode cX0_insertTime 24 = .ok (.getfield 32, 3) := by decide +kernel
theorem dX0_insertTime_27 : decode cX0_insertTime 27 = .ok (.iload_n 3, 1) := by decide +kernel
theorem dX0_insertTime_28 : decode cX0_insertTime 28 = .ok (.iconst 1, 1) := by decide +kernel
theorem dX0_insertTime_29 : decode cX0_insertTime 29 = .ok (.isub, 1) := by decide +kernel
theorem dX0_insertTime_30 : decode cX0_insertTime 30 = .ok (.iaload, 1) := by decide +kernel
theorem dX0_insertTime_31 : decode cX0_insertTime 31 = .ok (.iastore, 1) := by decide +kernel
theorem dX0_insertTime_32 : decode cX0_insertTime 32 = .ok (.iinc 3 (-1), 3) := by decide +kernel
theorem dX0_insertTime_35 : decode cX0_insertTime 35 = .ok (.goto (-33), 3) := by decide +kernel
theorem dX0_insertTime_38 : decode cX0_insertTime 38 = .ok (.aload_n 0, 1) := by decide +kernel
theorem dX0_insertTime_39 : decode cX0_insertTime 39 = .ok (.getfield 32, 3) := by decide +kernel
theorem dX0_insertTime_42 : decode cX0_insertTime 42 = .ok (.iload_n 3, 1) := by decide +kernel
theorem dX0_insertTime_43 : decode cX0_insertTime 43 = .ok (.iload_n 1, 1) := by decide +kernel
theorem dX0_insertTime_44 : decode cX0_insertTime 44 = .ok (.iastore, 1) := by decide +kernel
theorem dX0_insertTime_45 : decode cX0_insertTime 45 = .ok (.return_, 1) := by decide +kernel
theorem dX0_targetBehind_0 : decode cX0_targetBehind 0 = .ok (.aload_n 0, 1) := by decide +kernel
theorem dX0_targetBehind_1 : decode cX0_targetBehind 1 = .ok (.getfield 13, 3) := by decide +kernel
theorem dX0_targetBehind_4 : decode cX0_targetBehind 4 = .ok (.iload_n 1, 1) := by decide +kernel
theorem dX0_targetBehind_5 : decode cX0_targetBehind 5 = .ok (.iaload, 1) := by decide +kernel
theorem dX0_targetBehind_6 : decode cX0_targetBehind 6 = .ok (.iconst 1, 1) := by decide +kernel
theorem dX0_targetBehind_7 : decode cX0_targetBehind 7 = .ok (.iadd, 1) := by decide +kernel
theorem dX0_targetBehind_8 : decode cX0_targetBehind 8 = .ok (.istore_n 2, 1) := by decide +kernel
theorem dX0_targetBehind_9 : decode cX0_targetBehind 9 = .ok (.iload_n 2, 1) := by decide +kernel
theorem dX0_targetBehind_10 : decode cX0_targetBehind 10 = .ok (.bipush 8, 2) := by decide +kernel
theorem dX0_targetBehind_12 : decode cX0_targetBehind 12 = .ok (.irem, 1) := by decide +kernel
theorem dX0_targetBehind_13 : decode cX0_targetBehind 13 = .ok (.ifCond .eq 10, 3) := by decide +kernel
theorem dX0_targetBehind_16 : decode cX0_targetBehind 16 = .ok (.aload_n 0, 1) := by decide +kernel
theorem dX0_targetBehind_17 : decode cX0_targetBehind 17 = .ok (.getfield 22, 3) := by decide +kernel
theorem dX0_targetBehind_20 : decode cX0_targetBehind 20 = .ok (.iload_n 1, 1) := by decide +kernel
theorem dX0_targetBehind_21 : decode cX0_targetBehind 21 = .ok (.iaload, 1) := by decide +kernel
theorem dX0_targetBehind_22 : decode cX0_targetBehind 22 = .ok (.ireturn, 1) := by decide +kernel
theorem dX0_targetBehind_23 : decode cX0_targetBehind 23 = .ok (.aload_n 0, 1) := by decide +kernel
theorem dX0_targetBehind_24 : decode cX0_targetBehind 24 = .ok (.iload_n 1, 1) := by decide +kernel
theorem dX0_targetBehind_25 : decode cX0_targetBehind 25 = .ok (.iload_n 2, 1) := by decide +kernel
theorem dX0_targetBehind_26 : decode cX0_targetBehind 26 = .ok (.bipush 8, 2) := by decide +kernel
theorem dX0_targetBehind_28 : decode cX0_targetBehind 28 = .ok (.isub, 1) := by decide +kernel
theorem dX0_targetBehind_29 : decode cX0_targetBehind 29 = .ok (.invokevirtual 62, 3) := by decide +kernel
theorem dX0_targetBehind_32 : decode cX0_targetBehind 32 = .ok (.istore_n 3, 1) := by decide +kernel
theorem dX0_targetBehind_33 : decode cX0_targetBehind 33 = .ok (.aload_n 0, 1) := by decide +kernel
theorem dX0_targetBehind_34 : decode cX0_targetBehind 34 = .ok (.getfield 16, 3) := by decide +kernel
theorem dX0_targetBehind_37 : decode cX0_targetBehind 37 = .ok (.iload_n 1, 1) := by decide +kernel
theorem dX0_targetBehind_38 : decode cX0_targetBehind 38 = .ok (.iaload, 1) := by decide +kernel
theorem dX0_targetBehind_39 : decode cX0_targetBehind 39 = .ok (.aload_n 0, 1) := by decide +kernel
theorem dX0_targetBehind_40 : decode cX0_targetBehind 40 = .ok (.getfield 16, 3) := by decide +kernel
theorem dX0_targetBehind_43 : decode cX0_targetBehind 43 = .ok (.iload_n 3, 1) := by decide +kernel
theorem dX0_targetBehind_44 : decode cX0_targetBehind 44 = .ok (.iaload, 1) := by decide +kernel
theorem dX0_targetBehind_45 : decode cX0_targetBehind 45 = .ok (.isub, 1) := by decide +kernel
theorem dX0_targetBehind_46 : decode cX0_targetBehind 46 = .ok (.bipush 20, 2) := by decide +kernel
theorem dX0_targetBehind_48 : decode cX0_targetBehind 48 = .ok (.sipush 320, 3) := by decide +kernel
theorem dX0_targetBehind_51 : decode cX0_targetBehind 51 = .ok (.invokestatic 73, 3) := by decide +kernel
theorem dX0_targetBehind_54 : decode cX0_targetBehind 54 = .ok (.istore 4, 2) := by decide +kernel
theorem dX0_targetBehind_56 : decode cX0_targetBehind 56 = .ok (.aload_n 0, 1) := by decide +kernel
theorem dX0_targetBehind_57 : decode cX0_targetBehind 57 = .ok (.getfield 22, 3) := by decide +kernel
theorem dX0_targetBehind_60 : decode cX0_targetBehind 60 = .ok (.iload_n 1, 1) := by decide +kernel
theorem dX0_targetBehind_61 : decode cX0_targetBehind 61 = .ok (.iaload, 1) := by decide +kernel
theorem dX0_targetBehind_62 : decode cX0_targetBehind 62 = .ok (.iload 4, 2) := by decide +kernel
theorem dX0_targetBehind_64 : decode cX0_targetBehind 64 = .ok (.imul, 1) := by decide +kernel
theorem dX0_targetBehind_65 : decode cX0_targetBehind 65 = .ok (.bipush 80, 2) := by decide +kernel
theorem dX0_targetBehind_67 : decode cX0_targetBehind 67 = .ok (.idiv, 1) := by decide +kernel
theorem dX0_targetBehind_68 : decode cX0_targetBehind 68 = .ok (.sipush 2048, 3) := by decide +kernel
theorem dX0_targetBehind_71 : decode cX0_targetBehind 71 = .ok (.ldc 77, 2) := by decide +kernel
theorem dX0_targetBehind_73 : decode cX0_targetBehind 73 = .ok (.invokestatic 73, 3) := by decide +kernel
theorem dX0_targetBehind_76 : decode cX0_targetBehind 76 = .ok (.ireturn, 1) := by decide +kernel
theorem dX0_within_0 : decode cX0_within 0 = .ok (.iload_n 1, 1) := by decide +kernel
theorem dX0_within_1 : decode cX0_within 1 = .ok (.iload_n 2, 1) := by decide +kernel
theorem dX0_within_2 : decode cX0_within 2 = .ok (.iload_n 0, 1) := by decide +kernel
theorem dX0_within_3 : decode cX0_within 3 = .ok (.invokestatic 56, 3) := by decide +kernel
theorem dX0_within_6 : decode cX0_within 6 = .ok (.invokestatic 78, 3) := by decide +kernel
theorem dX0_within_9 : decode cX0_within 9 = .ok (.ireturn, 1) := by decide +kernel
theorem dX0_bestBlock_0 : decode cX0_bestBlock 0 = .ok (.iconst 0, 1) := by decide +kernel
theorem dX0_bestBlock_1 : decode cX0_bestBlock 1 = .ok (.istore_n 1, 1) := by decide +kernel
theorem dX0_bestBlock_2 : decode cX0_bestBlock 2 = .ok (.iconst 1, 1) := by decide +kernel
theorem dX0_bestBlock_3 : decode cX0_bestBlock 3 = .ok (.istore_n 2, 1) := by decide +kernel
theorem dX0_bestBlock_4 : decode cX0_bestBlock 4 = .ok (.iload_n 2, 1) := by decide +kernel
theorem dX0_bestBlock_5 : decode cX0_bestBlock 5 = .ok (.aload_n 0, 1) := by decide +kernel
theorem dX0_bestBlock_6 : decode cX0_bestBlock 6 = .ok (.getfield 36, 3) := by decide +kernel
theorem dX0_bestBlock_9 : decode cX0_bestBlock 9 = .ok (.if_icmp .ge 29, 3) := by decide +kernel
theorem dX0_bestBlock_12 : decode cX0_bestBlock 12 = .ok (.aload_n 0, 1) := by decide +kernel
theorem dX0_bestBlock_13 : decode cX0_bestBlock 13 = .ok (.getfield 28, 3) := by decide +kernel
theorem dX0_bestBlock_16 : decode cX0_bestBlock 16 = .ok (.iload_n 2, 1) := by decide +kernel
theorem dX0_bestBlock_17 : decode cX0_bestBlock 17 = .ok (.baload, 1) := by decide +kernel
theorem dX0_bestBlock_18 : decode cX0_bestBlock 18 = .ok (.ifCond .ne 14, 3) := by decide +kernel
theorem dX0_bestBlock_21 : decode cX0_bestBlock 21 = .ok (.aload_n 0, 1) := by decide +kernel
theorem dX0_bestBlock_22 : decode cX0_bestBlock 22 = .ok (.iload_n 2, 1) := by decide +kernel
theorem dX0_bestBlock_23 : decode cX0_bestBlock 23 = .ok (.iload_n 1, 1) := by decide +kernel
theorem dX0_bestBlock_24 : decode cX0_bestBlock 24 = .ok (.invokevirtual 81, 3) := by decide +kernel
theorem dX0_bestBlock_27 : decode cX0_bestBlock 27 = .ok (.ifCond .eq 5, 3) := by decide +kernel
theorem dX0_bestBlock_30 : decode cX0_bestBlock 30 = .ok (.iload_n 2, 1) := by decide +kernel
theorem dX0_bestBlock_31 : decode cX0_bestBlock 31 = .ok (.istore_n 1, 1) := by decide +kernel
theorem dX0_bestBlock_32 : decode cX0_bestBlock 32 = .ok (.iinc 2 1, 3) := by decide +kernel
theorem dX0_bestBlock_35 : decode cX0_bestBlock 35 = .ok (.goto (-31), 3) := by decide +kernel
theorem dX0_bestBlock_38 : decode cX0_bestBlock 38 = .ok (.iload_n 1, 1) := by decide +kernel
theorem dX0_bestBlock_39 : decode cX0_bestBlock 39 = .ok (.ireturn, 1) := by decide +kernel
theorem dX0_isBetter_0 : decode cX0_isBetter 0 = .ok (.aload_n 0, 1) := by decide +kernel
theorem dX0_isBetter_1 : decode cX0_isBetter 1 = .ok (.getfield 25, 3) := by decide +kernel
theorem dX0_isBetter_4 : decode cX0_isBetter 4 = .ok (.iload_n 1, 1) := by decide +kernel
theorem dX0_isBetter_5 : decode cX0_isBetter 5 = .ok (.iaload, 1) := by decide +kernel
theorem dX0_isBetter_6 : decode cX0_isBetter 6 = .ok (.aload_n 0, 1) := by decide +kernel
theorem dX0_isBetter_7 : decode cX0_isBetter 7 = .ok (.getfield 25, 3) := by decide +kernel
theorem dX0_isBetter_10 : decode cX0_isBetter 10 = .ok (.iload_n 2, 1) := by decide +kernel
theorem dX0_isBetter_11 : decode cX0_isBetter 11 = .ok (.iaload, 1) := by decide +kernel
theorem dX0_isBetter_12 : decode cX0_isBetter 12 = .ok (.if_icmp .eq 24, 3) := by decide +kernel
theorem dX0_isBetter_15 : decode cX0_isBetter 15 = .ok (.aload_n 0, 1) := by decide +kernel
theorem dX0_isBetter_16 : decode cX0_isBetter 16 = .ok (.getfield 25, 3) := by decide +kernel
theorem dX0_isBetter_19 : decode cX0_isBetter 19 = .ok (.iload_n 1, 1) := by decide +kernel
theorem dX0_isBetter_20 : decode cX0_isBetter 20 = .ok (.iaload, 1) := by decide +kernel
theorem dX0_isBetter_21 : decode cX0_isBetter 21 = .ok (.aload_n 0, 1) := by decide +kernel
theorem dX0_isBetter_22 : decode cX0_isBetter 22 = .ok (.getfield 25, 3) := by decide +kernel
theorem dX0_isBetter_25 : decode cX0_isBetter 25 = .ok (.iload_n 2, 1) := by decide +kernel
theorem dX0_isBetter_26 : decode cX0_isBetter 26 = .ok (.iaload, 1) := by decide +kernel
theorem dX0_isBetter_27 : decode cX0_isBetter 27 = .ok (.if_icmp .le 7, 3) := by decide +kernel
theorem dX0_isBetter_30 : decode cX0_isBetter 30 = .ok (.iconst 1, 1) := by decide +kernel
theorem dX0_isBetter_31 : decode cX0_isBetter 31 = .ok (.goto 4, 3) := by decide +kernel
theorem dX0_isBetter_34 : decode cX0_isBetter 34 = .ok (.iconst 0, 1) := by decide +kernel
theorem dX0_isBetter_35 : decode cX0_isBetter 35 = .ok (.ireturn, 1) := by decide +kernel
theorem dX0_isBetter_36 : decode cX0_isBetter 36 = .ok (.aload_n 0, 1) := by decide +kernel
theorem dX0_isBetter_37 : decode cX0_isBetter 37 = .ok (.getfield 19, 3) := by decide +kernel
theorem dX0_isBetter_40 : decode cX0_isBetter 40 = .ok (.iload_n 1, 1) := by decide +kernel
theorem dX0_isBetter_41 : decode cX0_isBetter 41 = .ok (.iaload, 1) := by decide +kernel
theorem dX0_isBetter_42 : decode cX0_isBetter 42 = .ok (.aload_n 0, 1) := by decide +kernel
theorem dX0_isBetter_43 : decode cX0_isBetter 43 = .ok (.getfield 19, 3) := by decide +kernel
theorem dX0_isBetter_46 : decode cX0_isBetter 46 = .ok (.iload_n 2, 1) := by decide +kernel
theorem dX0_isBetter_47 : decode cX0_isBetter 47 = .ok (.iaload, 1) := by decide +kernel
theorem dX0_isBetter_48 : decode cX0_isBetter 48 = .ok (.if_icmp .ge 7, 3) := by decide +kernel
theorem dX0_isBetter_51 : decode cX0_isBetter 51 = .ok (.iconst 1, 1) := by decide +kernel
theorem dX0_isBetter_52 : decode cX0_isBetter 52 = .ok (.goto 4, 3) := by decide +kernel
theorem dX0_isBetter_55 : decode cX0_isBetter 55 = .ok (.iconst 0, 1) := by decide +kernel
theorem dX0_isBetter_56 : decode cX0_isBetter 56 = .ok (.ireturn, 1) := by decide +kernel
theorem dJ9_max_7cf53_0 : decode cJ9_max_7cf53 0 = .ok (.iload_n 0, 1) := by decide +kernel
theorem dJ9_max_7cf53_1 : decode cJ9_max_7cf53 1 = .ok (.iload_n 1, 1) := by decide +kernel
theorem dJ9_max_7cf53_2 : decode cJ9_max_7cf53 2 = .ok (.if_icmp .lt 7, 3) := by decide +kernel
theorem dJ9_max_7cf53_5 : decode cJ9_max_7cf53 5 = .ok (.iload_n 0, 1) := by decide +kernel
theorem dJ9_max_7cf53_6 : decode cJ9_max_7cf53 6 = .ok (.goto 4, 3) := by decide +kernel
theorem dJ9_max_7cf53_9 : decode cJ9_max_7cf53 9 = .ok (.iload_n 1, 1) := by decide +kernel
theorem dJ9_max_7cf53_10 : decode cJ9_max_7cf53 10 = .ok (.ireturn, 1) := by decide +kernel
theorem dJ9_min_7cf53_0 : decode cJ9_min_7cf53 0 = .ok (.iload_n 0, 1) := by decide +kernel
theorem dJ9_min_7cf53_1 : decode cJ9_min_7cf53 1 = .ok (.iload_n 1, 1) := by decide +kernel
theorem dJ9_min_7cf53_2 : decode cJ9_min_7cf53 2 = .ok (.if_icmp .gt 7, 3) := by decide +kernel
theorem dJ9_min_7cf53_5 : decode cJ9_min_7cf53 5 = .ok (.iload_n 0, 1) := by decide +kernel
theorem dJ9_min_7cf53_6 : decode cJ9_min_7cf53 6 = .ok (.goto 4, 3) := by decide +kernel
theorem dJ9_min_7cf53_9 : decode cJ9_min_7cf53 9 = .ok (.iload_n 1, 1) := by decide +kernel
theorem dJ9_min_7cf53_10 : decode cJ9_min_7cf53 10 = .ok (.ireturn, 1) := by decide +kernel
