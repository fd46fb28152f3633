theorem d_M_touch_45 : decode b_M_touch 45 = .ok (.iload_n 2, 1) := by decide +kernel
theorem d_M_touch_46 : decode b_M_touch 46 = .ok (.sipush 4096, 3) := by decide +kernel
theorem d_M_touch_49 : decode b_M_touch 49 = .ok (.idiv, 1) := by decide +kernel
theorem d_M_touch_50 : decode b_M_touch 50 = .ok (.invokevirtual 91, 3) := by decide +kernel
theorem d_M_touch_53 : decode b_M_touch 53 = .ok (.ifCond .ne 5, 3) := by decide +kernel
theorem d_M_touch_56 : decode b_M_touch 56 = .ok (.iconst 3, 1) := by decide +kernel
theorem d_M_touch_57 : decode b_M_touch 57 = .ok (.ireturn, 1) := by decide +kernel
theorem d_M_touch_58 : decode b_M_touch 58 = .ok (.aload_n 0, 1) := by decide +kernel
theorem d_M_touch_59 : decode b_M_touch 59 = .ok (.iload_n 1, 1) := by decide +kernel
theorem d_M_touch_60 : decode b_M_touch 60 = .ok (.iload_n 2, 1) := by decide +kernel
theorem d_M_touch_61 : decode b_M_touch 61 = .ok (.sipush 4096, 3) := by decide +kernel
theorem d_M_touch_64 : decode b_M_touch 64 = .ok (.idiv, 1) := by decide +kernel
theorem d_M_touch_65 : decode b_M_touch 65 = .ok (.bipush 11, 2) := by decide +kernel
theorem d_M_touch_67 : decode b_M_touch 67 = .ok (.invokevirtual 94, 3) := by decide +kernel
theorem d_M_touch_70 : decode b_M_touch 70 = .ok (.iconst 0, 1) := by decide +kernel
theorem d_M_touch_71 : decode b_M_touch 71 = .ok (.ireturn, 1) := by decide +kernel
theorem d_M_touch_72 : decode b_M_touch 72 = .ok (.aload_n 0, 1) := by decide +kernel
theorem d_M_touch_73 : decode b_M_touch 73 = .ok (.getfield 23, 3) := by decide +kernel
theorem d_M_touch_76 : decode b_M_touch 76 = .ok (.iload 4, 2) := by decide +kernel
theorem d_M_touch_78 : decode b_M_touch 78 = .ok (.iaload, 1) := by decide +kernel
theorem d_M_touch_79 : decode b_M_touch 79 = .ok (.bipush 8, 2) := by decide +kernel
theorem d_M_touch_81 : decode b_M_touch 81 = .ok (.iand, 1) := by decide +kernel
theorem d_M_touch_82 : decode b_M_touch 82 = .ok (.ifCond .eq 15, 3) := by decide +kernel
theorem d_M_touch_85 : decode b_M_touch 85 = .ok (.aload_n 0, 1) := by decide +kernel
theorem d_M_touch_86 : decode b_M_touch 86 = .ok (.getfield 23, 3) := by decide +kernel
theorem d_M_touch_89 : decode b_M_touch 89 = .ok (.iload 4, 2) := by decide +kernel
theorem d_M_touch_91 : decode b_M_touch 91 = .ok (.iaload, 1) := by decide +kernel
theorem d_M_touch_92 : decode b_M_touch 92 = .ok (.iload_n 3, 1) := by decide +kernel
theorem d_M_touch_93 : decode b_M_touch 93 = .ok (.iand, 1) := by decide +kernel
theorem d_M_touch_94 : decode b_M_touch 94 = .ok (.ifCond .ne 5, 3) := by decide +kernel
theorem d_M_touch_97 : decode b_M_touch 97 = .ok (.iconst 1, 1) := by decide +kernel
theorem d_M_touch_98 : decode b_M_touch 98 = .ok (.ireturn, 1) := by decide +kernel
theorem d_M_touch_99 : decode b_M_touch 99 = .ok (.iload_n 3, 1) := by decide +kernel
theorem d_M_touch_100 : decode b_M_touch 100 = .ok (.iconst 2, 1) := by decide +kernel
theorem d_M_touch_101 : decode b_M_touch 101 = .ok (.if_icmp .ne 48, 3) := by decide +kernel
theorem d_M_touch_104 : decode b_M_touch 104 = .ok (.aload_n 0, 1) := by decide +kernel
theorem d_M_touch_105 : decode b_M_touch 105 = .ok (.aload_n 0, 1) := by decide +kernel
theorem d_M_touch_106 : decode b_M_touch 106 = .ok (.getfield 26, 3) := by decide +kernel
theorem d_M_touch_109 : decode b_M_touch 109 = .ok (.iload 4, 2) := by decide +kernel
theorem d_M_touch_111 : decode b_M_touch 111 = .ok (.iaload, 1) := by decide +kernel
theorem d_M_touch_112 : decode b_M_touch 112 = .ok (.invokevirtual 98, 3) := by decide +kernel
theorem d_M_touch_115 : decode b_M_touch 115 = .ok (.iconst 1, 1) := by decide +kernel
theorem d_M_touch_116 : decode b_M_touch 116 = .ok (.if_icmp .le 33, 3) := by decide +kernel
theorem d_M_touch_119 : decode b_M_touch 119 = .ok (.aload_n 0, 1) := by decide +kernel
theorem d_M_touch_120 : decode b_M_touch 120 = .ok (.invokevirtual 67, 3) := by decide +kernel
theorem d_M_touch_123 : decode b_M_touch 123 = .ok (.ifCond .ne 5, 3) := by decide +kernel
theorem d_M_touch_126 : decode b_M_touch 126 = .ok (.iconst 3, 1) := by decide +kernel
theorem d_M_touch_127 : decode b_M_touch 127 = .ok (.ireturn, 1) := by decide +kernel
theorem d_M_touch_128 : decode b_M_touch 128 = .ok (.aload_n 0, 1) := by decide +kernel
theorem d_M_touch_129 : decode b_M_touch 129 = .ok (.getfield 26, 3) := by decide +kernel
theorem d_M_touch_132 : decode b_M_touch 132 = .ok (.iload 4, 2) := by decide +kernel
theorem d_M_touch_134 : decode b_M_touch 134 = .ok (.aload_n 0, 1) := by decide +kernel
theorem d_M_touch_135 : decode b_M_touch 135 = .ok (.getfield 75, 3) := by decide +kernel
theorem d_M_touch_138 : decode b_M_touch 138 = .ok (.iastore, 1) := by decide +kernel
theorem d_M_touch_139 : decode b_M_touch 139 = .ok (.aload_n 0, 1) := by decide +kernel
theorem d_M_touch_140 : decode b_M_touch 140 = .ok (.dup, 1) := by decide +kernel
theorem d_M_touch_141 : decode b_M_touch 141 = .ok (.getfield 75, 3) := by decide +kernel
theorem d_M_touch_144 : decode b_M_touch 144 = .ok (.iconst 1, 1) := by decide +kernel
theorem d_M_touch_145 : decode b_M_touch 145 = .ok (.iadd, 1) := by decide +kernel
theorem d_M_touch_146 : decode b_M_touch 146 = .ok (.putfield 75, 3) := by decide +kernel
theorem d_M_touch_149 : decode b_M_touch 149 = .ok (.iconst 0, 1) := by decide +kernel
theorem d_M_touch_150 : decode b_M_touch 150 = .ok (.ireturn, 1) := by decide +kernel
theorem d_M_aimed_0 : decode b_M_aimed 0 = .ok (.iload_n 3, 1) := by decide +kernel
theorem d_M_aimed_1 : decode b_M_aimed 1 = .ok (.iconst 1, 1) := by decide +kernel
theorem d_M_aimed_2 : decode b_M_aimed 2 = .ok (.if_icmp .eq 21, 3) := by decide +kernel
theorem d_M_aimed_5 : decode b_M_aimed 5 = .ok (.iload_n 3, 1) := by decide +kernel
theorem d_M_aimed_6 : decode b_M_aimed 6 = .ok (.iconst 2, 1) := by decide +kernel
theorem d_M_aimed_7 : decode b_M_aimed 7 = .ok (.if_icmp .eq 16, 3) := by decide +kernel
theorem d_M_aimed_10 : decode b_M_aimed 10 = .ok (.iload_n 3, 1) := by decide +kernel
theorem d_M_aimed_11 : decode b_M_aimed 11 = .ok (.iconst 4, 1) := by decide +kernel
theorem d_M_aimed_12 : decode b_M_aimed 12 = .ok (.if_icmp .eq 11, 3) := by decide +kernel
theorem d_M_aimed_15 : decode b_M_aimed 15 = .ok (.aload_n 0, 1) := by decide +kernel
theorem d_M_aimed_16 : decode b_M_aimed 16 = .ok (.iconst 2, 1) := by decide +kernel
theorem d_M_aimed_17 : decode b_M_aimed 17 = .ok (.putfield 102, 3) := by decide +kernel
theorem d_M_aimed_20 : decode b_M_aimed 20 = .ok (.goto 41, 3) := by decide +kernel
theorem d_M_aimed_23 : decode b_M_aimed 23 = .ok (.iload_n 2, 1) := by decide +kernel
theorem d_M_aimed_24 : decode b_M_aimed 24 = .ok (.iload_n 3, 1) := by decide +kernel
theorem d_M_aimed_25 : decode b_M_aimed 25 = .ok (.irem, 1) := by decide +kernel
theorem d_M_aimed_26 : decode b_M_aimed 26 = .ok (.ifCond .eq 11, 3) := by decide +kernel
theorem d_M_aimed_29 : decode b_M_aimed 29 = .ok (.aload_n 0, 1) := by decide +kernel
theorem d_M_aimed_30 : decode b_M_aimed 30 = .ok (.iconst 2, 1) := by decide +kernel
theorem d_M_aimed_31 : decode b_M_aimed 31 = .ok (.putfield 102, 3) := by decide +kernel
theorem d_M_aimed_34 : decode b_M_aimed 34 = .ok (.goto 27, 3) := by decide +kernel
theorem d_M_aimed_37 : decode b_M_aimed 37 = .ok (.aload_n 0, 1) := by decide +kernel
theorem d_M_aimed_38 : decode b_M_aimed 38 = .ok (.aload_n 0, 1) := by decide +kernel
theorem d_M_aimed_39 : decode b_M_aimed 39 = .ok (.iload_n 1, 1) := by decide +kernel
theorem d_M_aimed_40 : decode b_M_aimed 40 = .ok (.invokevirtual 105, 3) := by decide +kernel
theorem d_M_aimed_43 : decode b_M_aimed 43 = .ok (.ifCond .eq 14, 3) := by decide +kernel
theorem d_M_aimed_46 : decode b_M_aimed 46 = .ok (.aload_n 0, 1) := by decide +kernel
theorem d_M_aimed_47 : decode b_M_aimed 47 = .ok (.iload_n 1, 1) := by decide +kernel
theorem d_M_aimed_48 : decode b_M_aimed 48 = .ok (.iload_n 2, 1) := by decide +kernel
theorem d_M_aimed_49 : decode b_M_aimed 49 = .ok (.iload 4, 2) := by decide +kernel
theorem d_M_aimed_51 : decode b_M_aimed 51 = .ok (.invokevirtual 108, 3) := by decide +kernel
theorem d_M_aimed_54 : decode b_M_aimed 54 = .ok (.goto 4, 3) := by decide +kernel
theorem d_M_aimed_57 : decode b_M_aimed 57 = .ok (.iconst 1, 1) := by decide +kernel
theorem d_M_aimed_58 : decode b_M_aimed 58 = .ok (.putfield 102, 3) := by decide +kernel
theorem d_M_aimed_61 : decode b_M_aimed 61 = .ok (.aload_n 0, 1) := by decide +kernel
theorem d_M_aimed_62 : decode b_M_aimed 62 = .ok (.getfield 102, 3) := by decide +kernel
theorem d_M_aimed_65 : decode b_M_aimed 65 = .ok (.ifCond .ne 7, 3) := by decide +kernel
theorem d_M_aimed_68 : decode b_M_aimed 68 = .ok (.iconst 1, 1) := by decide +kernel
theorem d_M_aimed_69 : decode b_M_aimed 69 = .ok (.goto 4, 3) := by decide +kernel
theorem d_M_aimed_72 : decode b_M_aimed 72 = .ok (.iconst 0, 1) := by decide +kernel
theorem d_M_aimed_73 : decode b_M_aimed 73 = .ok (.ireturn, 1) := by decide +kernel
theorem d_M_walk_0 : decode b_M_walk 0 = .ok (.aload_n 0, 1) := by decide +kernel
theorem d_M_walk_1 : decode b_M_walk 1 = .ok (.iconst 0, 1) := by decide +kernel
theorem d_M_walk_2 : decode b_M_walk 2 = .ok (.putfield 102, 3) := by decide +kernel
theorem d_M_walk_5 : decode b_M_walk 5 = .ok (.iconst 0, 1) := by decide +kernel
theorem d_M_walk_6 : decode b_M_walk 6 = .ok (.istore 5, 2) := by decide +kernel
theorem d_M_walk_8 : decode b_M_walk 8 = .ok (.iload 5, 2) := by decide +kernel
theorem d_M_walk_10 : decode b_M_walk 10 = .ok (.iload_n 3, 1) := by decide +kernel
theorem d_M_walk_11 : decode b_M_walk 11 = .ok (.if_icmp .ge 46, 3) := by decide +kernel
theorem d_M_walk_14 : decode b_M_walk 14 = .ok (.aload_n 0, 1) := by decide +kernel
theorem d_M_walk_15 : decode b_M_walk 15 = .ok (.aload_n 0, 1) := by decide +kernel
theorem d_M_walk_16 : decode b_M_walk 16 = .ok (.iload_n 1, 1) := by decide +kernel
theorem d_M_walk_17 : decode b_M_walk 17 = .ok (.invokevirtual 105, 3) := by decide +kernel
theorem d_M_walk_20 : decode b_M_walk 20 = .ok (.ifCond .eq 17, 3) := by decide +kernel
theorem d_M_walk_23 : decode b_M_walk 23 = .ok (.aload_n 0, 1) := by decide +kernel
theorem d_M_walk_24 : decode b_M_walk 24 = .ok (.iload_n 1, 1) := by decide +kernel
theorem d_M_walk_25 : decode b_M_walk 25 = .ok (.iload_n 2, 1) := by decide +kernel
theorem d_M_walk_26 : decode b_M_walk 26 = .ok (.iload 5, 2) := by decide +kernel
theorem d_M_walk_28 : decode b_M_walk 28 = .ok (.iadd, 1) := by decide +kernel
theorem d_M_walk_29 : decode b_M_walk 29 = .ok (.iload 4, 2) := by decide +kernel
theorem d_M_walk_31 : decode b_M_walk 31 = .ok (.invokevirtual 108, 3) := by decide +kernel
theorem d_M_walk_34 : decode b_M_walk 34 = .ok (.goto 4, 3) := by decide +kernel
theorem d_M_walk_37 : decode b_M_walk 37 = .ok (.iconst 1, 1) := by decide +kernel
theorem d_M_walk_38 : decode b_M_walk 38 = .ok (.putfield 102, 3) := by decide +kernel
theorem d_M_walk_41 : decode b_M_walk 41 = .ok (.aload_n 0, 1) := by decide +kernel
theorem d_M_walk_42 : decode b_M_walk 42 = .ok (.getfield 102, 3) := by decide +kernel
theorem d_M_walk_45 : decode b_M_walk 45 = .ok (.ifCond .eq 6, 3) := by decide +kernel
theorem d_M_walk_48 : decode b_M_walk 48 = .ok (.iload 5, 2) := by decide +kernel
theorem d_M_walk_50 : decode b_M_walk 50 = .ok (.ireturn, 1) := by decide +kernel
theorem d_M_walk_51 : decode b_M_walk 51 = .ok (.iinc 5 1, 3) := by decide +kernel
theorem d_M_walk_54 : decode b_M_walk 54 = .ok (.goto (-46), 3) := by decide +kernel
theorem d_M_walk_57 : decode b_M_walk 57 = .ok (.iload_n 3, 1) := by decide +kernel
theorem d_M_walk_58 : decode b_M_walk 58 = .ok (.ireturn, 1) := by decide +kernel
theorem d_M_number_0 : decode b_M_number 0 = .ok (.iconst 0, 1) := by decide +kernel
theorem d_M_number_1 : decode b_M_number 1 = .ok (.istore 4, 2) := by decide +kernel
theorem d_M_number_3 : decode b_M_number 3 = .ok (.iconst 0, 1) := by decide +kernel
theorem d_M_number_4 : decode b_M_number 4 = .ok (.istore 5, 2) := by decide +kernel
theorem d_M_number_6 : decode b_M_number 6 = .ok (.iload 5, 2) := by decide +kernel
theorem d_M_number_8 : decode b_M_number 8 = .ok (.iload_n 3, 1) := by decide +kernel
theorem d_M_number_9 : decode b_M_number 9 = .ok (.if_icmp .ge 29, 3) := by decide +kernel
theorem d_M_number_12 : decode b_M_number 12 = .ok (.iload 4, 2) := by decide +kernel
theorem d_M_number_14 : decode b_M_number 14 = .ok (.aload_n 0, 1) := by decide +kernel
theorem d_M_number_15 : decode b_M_number 15 = .ok (.iload_n 1, 1) := by decide +kernel
theorem d_M_number_16 : decode b_M_number 16 = .ok (.iload_n 2, 1) := by decide +kernel
theorem d_M_number_17 : decode b_M_number 17 = .ok (.iload 5, 2) := by decide +kernel
theorem d_M_number_19 : decode b_M_number 19 = .ok (.iadd, 1) := by decide +kernel
theorem d_M_number_20 : decode b_M_number 20 = .ok (.invokevirtual 112, 3) := by decide +kernel
theorem d_M_number_23 : decode b_M_number 23 = .ok (.bipush 8, 2) := by decide +kernel
theorem d_M_number_25 : decode b_M_number 25 = .ok (.iload 5, 2) := by decide +kernel
theorem d_M_number_27 : decode b_M_number 27 = .ok (.imul, 1) := by decide +kernel
theorem d_M_number_28 : decode b_M_number 28 = .ok (.ishl, 1) := by decide +kernel
theorem d_M_number_29 : decode b_M_number 29 = .ok (.ior, 1) := by decide +kernel
theorem d_M_number_30 : decode b_M_number 30 = .ok (.istore 4, 2) := by decide +kernel
theorem d_M_number_32 : decode b_M_number 32 = .ok (.iinc 5 1, 3) := by decide +kernel
theorem d_M_number_35 : decode b_M_number 35 = .ok (.goto (-29), 3) := by decide +kernel
theorem d_M_number_38 : decode b_M_number 38 = .ok (.iload 4, 2) := by decide +kernel
theorem d_M_number_40 : decode b_M_number 40 = .ok (.ireturn, 1) := by decide +kernel
theorem d_M_came_0 : decode b_M_came 0 = .ok (.iload_n 3, 1) := by decide +kernel
theorem d_M_came_1 : decode b_M_came 1 = .ok (.ifCond .le 12, 3) := by decide +kernel
theorem d_M_came_4 : decode b_M_came 4 = .ok (.aload_n 0, 1) := by decide +kernel
theorem d_M_came_5 : decode b_M_came 5 = .ok (.iconst 5, 1) := by decide +kernel
theorem d_M_came_6 : decode b_M_came 6 = .ok (.iload_n 1, 1) := by decide +kernel
theorem d_M_came_7 : decode b_M_came 7 = .ok (.iload_n 2, 1) := by decide +kernel
theorem d_M_came_8 : decode b_M_came 8 = .ok (.iload_n 3, 1) := by decide +kernel
theorem d_M_came_9 : decode b_M_came 9 = .ok (.iconst 0, 1) := by decide +kernel
theorem d_M_came_10 : decode b_M_came 10 = .ok (.invokevirtual 82, 3) := by decide +kernel
theorem d_M_came_13 : decode b_M_came 13 = .ok (.return_, 1) := by decide +kernel
theorem d_M_make_0 : decode b_M_make 0 = .ok (.aload_n 0, 1) := by decide +kernel
theorem d_M_make_1 : decode b_M_make 1 = .ok (.invokevirtual 115, 3) := by decide +kernel
theorem d_M_make_4 : decode b_M_make 4 = .ok (.istore_n 1, 1) := by decide +kernel
theorem d_M_make_5 : decode b_M_make 5 = .ok (.iload_n 1, 1) := by decide +kernel
theorem d_M_make_6 : decode b_M_make 6 = .ok (.iconst (-1), 1) := by decide +kernel
theorem d_M_make_7 : decode b_M_make 7 = .ok (.if_icmp .eq 10, 3) := by decide +kernel
theorem d_M_make_10 : decode b_M_make 10 = .ok (.aload_n 0, 1) := by decide +kernel
theorem d_M_make_11 : decode b_M_make 11 = .ok (.invokevirtual 67, 3) := by decide +kernel
theorem d_M_make_14 : decode b_M_make 14 = .ok (.ifCond .ne 5, 3) := by decide +kernel
theorem d_M_make_17 : decode b_M_make 17 = .ok (.iconst (-1), 1) := by decide +kernel
theorem d_M_make_18 : decode b_M_make 18 = .ok (.ireturn, 1) := by decide +kernel
theorem d_M_make_19 : decode b_M_make 19 = .ok (.aload_n 0, 1) := by decide +kernel
theorem d_M_make_20 : decode b_M_make 20 = .ok (.getfield 7, 3) := by decide +kernel
theorem d_M_make_23 : decode b_M_make 23 = .ok (.iload_n 1, 1) := by decide +kernel
theorem d_M_make_24 : decode b_M_make 24 = .ok (.iconst 1, 1) := by decide +kernel
theorem d_M_make_25 : decode b_M_make 25 = .ok (.bastore, 1) := by decide +kernel
theorem d_M_make_26 : decode b_M_make 26 = .ok (.aload_n 0, 1) := by decide +kernel
theorem d_M_make_27 : decode b_M_make 27 = .ok (.getfield 13, 3) := by decide +kernel
theorem d_M_make_30 : decode b_M_make 30 = .ok (.iload_n 1, 1) := by decide +kernel
theorem d_M_make_31 : decode b_M_make 31 = .ok (.iconst 0, 1) := by decide +kernel
theorem d_M_make_32 : decode b_M_make 32 = .ok (.iastore, 1) := by decide +kernel
theorem d_M_make_33 : decode b_M_make 33 = .ok (.iload_n 1, 1) := by decide +kernel
theorem d_M_make_34 : decode b_M_make 34 = .ok (.ireturn, 1) := by decide +kernel
theorem d_M_drop_0 : decode b_M_drop 0 = .ok (.aload_n 0, 1) := by decide +kernel
theorem d_M_drop_1 : decode b_M_drop 1 = .ok (.iload_n 1, 1) := by decide +kernel
theorem d_M_drop_2 : decode b_M_drop 2 = .ok (.invokevirtual 105, 3) := by decide +kernel
theorem d_M_drop_5 : decode b_M_drop 5 = .ok (.ifCond .ne 5, 3) := by decide +kernel
theorem d_M_drop_8 : decode b_M_drop 8 = .ok (.iconst 0, 1) := by decide +kernel
theorem d_M_drop_9 : decode b_M_drop 9 = .ok (.ireturn, 1) := by decide +kernel
theorem d_M_drop_10 : decode b_M_drop 10 = .ok (.aload_n 0, 1) := by decide +kernel
theorem d_M_drop_11 : decode b_M_drop 11 = .ok (.iload_n 1, 1) := by decide +kernel
theorem d_M_drop_12 : decode b_M_drop 12 = .ok (.iconst 0, 1) := by decide +kernel
theorem d_M_drop_13 : decode b_M_drop 13 = .ok (.invokevirtual 118, 3) := by decide +kernel
theorem d_M_drop_16 : decode b_M_drop 16 = .ok (.aload_n 0, 1) := by decide +kernel
theorem d_M_drop_17 : decode b_M_drop 17 = .ok (.iload_n 1, 1) := by decide +kernel
theorem d_M_drop_18 : decode b_M_drop 18 = .ok (.invokevirtual 122, 3) := by decide +kernel
theorem d_M_drop_21 : decode b_M_drop 21 = .ok (.aload_n 0, 1) := by decide +kernel
theorem d_M_drop_22 : decode b_M_drop 22 = .ok (.getfield 7, 3) := by decide +kernel
theorem d_M_drop_25 : decode b_M_drop 25 = .ok (.iload_n 1, 1) := by decide +kernel
theorem d_M_drop_26 : decode b_M_drop 26 = .ok (.iconst 0, 1) := by decide +kernel
theorem d_M_drop_27 : decode b_M_drop 27 = .ok (.bastore, 1) := by decide +kernel
theorem d_M_drop_28 : decode b_M_drop 28 = .ok (.iconst 1, 1) := by decide +kernel
theorem d_M_drop_29 : decode b_M_drop 29 = .ok (.ireturn, 1) := by decide +kernel
theorem d_M_fork_0 : decode b_M_fork 0 = .ok (.aload_n 0, 1) := by decide +kernel
theorem d_M_fork_1 : decode b_M_fork 1 = .ok (.iload_n 1, 1) := by decide +kernel
theorem d_M_fork_2 : decode b_M_fork 2 = .ok (.invokevirtual 105, 3) := by decide +kernel
theorem d_M_fork_5 : decode b_M_fork 5 = .ok (.ifCond .ne 5, 3) := by decide +kernel
theorem d_M_fork_8 : decode b_M_fork 8 = .ok (.iconst (-1), 1) := by decide +kernel
theorem d_M_fork_9 : decode b_M_fork 9 = .ok (.ireturn, 1) := by decide +kernel
theorem d_M_fork_10 : decode b_M_fork 10 = .ok (.aload_n 0, 1) := by decide +kernel
theorem d_M_fork_11 : decode b_M_fork 11 = .ok (.invokevirtual 115, 3) := by decide +kernel
theorem d_M_fork_14 : decode b_M_fork 14 = .ok (.istore_n 2, 1) := by decide +kernel
theorem d_M_fork_15 : decode b_M_fork 15 = .ok (.iload_n 2, 1) := by decide +kernel
theorem d_M_fork_16 : decode b_M_fork 16 = .ok (.iconst (-1), 1) := by decide +kernel
theorem d_M_fork_17 : decode b_M_fork 17 = .ok (.if_icmp .eq 17, 3) := by decide +kernel
theorem d_M_fork_20 : decode b_M_fork 20 = .ok (.aload_n 0, 1) := by decide +kernel
theorem d_M_fork_21 : decode b_M_fork 21 = .ok (.invokevirtual 67, 3) := by decide +kernel
theorem d_M_fork_24 : decode b_M_fork 24 = .ok (.iconst 1, 1) := by decide +kernel
theorem d_M_fork_25 : decode b_M_fork 25 = .ok (.aload_n 0, 1) := by decide +kernel
theorem d_M_fork_26 : decode b_M_fork 26 = .ok (.iload_n 1, 1) := by decide +kernel
theorem d_M_fork_27 : decode b_M_fork 27 = .ok (.invokevirtual 126, 3) := by decide +kernel
theorem d_M_fork_30 : decode b_M_fork 30 = .ok (.iadd, 1) := by decide +kernel
theorem d_M_fork_31 : decode b_M_fork 31 = .ok (.if_icmp .ge 5, 3) := by decide +kernel
theorem d_M_fork_34 : decode b_M_fork 34 = .ok (.iconst (-1), 1) := by decide +kernel
theorem d_M_fork_35 : decode b_M_fork 35 = .ok (.ireturn, 1) := by decide +kernel
theorem d_M_fork_36 : decode b_M_fork 36 = .ok (.aload_n 0, 1) := by decide +kernel
theorem d_M_fork_37 : decode b_M_fork 37 = .ok (.getfield 7, 3) := by decide +kernel
theorem d_M_fork_40 : decode b_M_fork 40 = .ok (.iload_n 2, 1) := by decide +kernel
theorem d_M_fork_41 : decode b_M_fork 41 = .ok (.iconst 1, 1) := by decide +kernel
theorem d_M_fork_42 : decode b_M_fork 42 = .ok (.bastore, 1) := by decide +kernel
theorem d_M_fork_43 : decode b_M_fork 43 = .ok (.aload_n 0, 1) := by decide +kernel
theorem d_M_fork_44 : decode b_M_fork 44 = .ok (.getfield 13, 3) := by decide +kernel
theorem d_M_fork_47 : decode b_M_fork 47 = .ok (.iload_n 2, 1) := by decide +kernel
theorem d_M_fork_48 : decode b_M_fork 48 = .ok (.aload_n 0, 1) := by decide +kernel
theorem d_M_fork_49 : decode b_M_fork 49 = .ok (.getfield 13, 3) := by decide +kernel
theorem d_M_fork_52 : decode b_M_fork 52 = .ok (.iload_n 1, 1) := by decide +kernel
theorem d_M_fork_53 : decode b_M_fork 53 = .ok (.iaload, 1) := by decide +kernel
theorem d_M_fork_54 : decode b_M_fork 54 = .ok (.iastore, 1) := by decide +kernel
theorem d_M_fork_55 : decode b_M_fork 55 = .ok (.aload_n 0, 1) := by decide +kernel
theorem d_M_fork_56 : decode b_M_fork 56 = .ok (.getfield 57, 3) := by decide +kernel
theorem d_M_fork_59 : decode b_M_fork 59 = .ok (.istore_n 3, 1) := by decide +kernel
theorem d_M_fork_60 : decode b_M_fork 60 = .ok (.iconst 0, 1) := by decide +kernel
theorem d_M_fork_61 : decode b_M_fork 61 = .ok (.istore 4, 2) := by decide +kernel
theorem d_M_fork_63 : decode b_M_fork 63 = .ok (.iload 4, 2) := by decide +kernel
theorem d_M_fork_65 : decode b_M_fork 65 = .ok (.iload_n 3, 1) := by decide +kernel
theorem d_M_fork_66 : decode b_M_fork 66 = .ok (.if_icmp .ge 46, 3) := by decide +kernel
theorem d_M_fork_69 : decode b_M_fork 69 = .ok (.aload_n 0, 1) := by decide +kernel
theorem d_M_fork_70 : decode b_M_fork 70 = .ok (.getfield 17, 3) := by decide +kernel
theorem d_M_fork_73 : decode b_M_fork 73 = .ok (.iload 4, 2) := by decide +kernel
theorem d_M_fork_75 : decode b_M_fork 75 = .ok (.iaload, 1) := by decide +kernel
theorem d_M_fork_76 : decode b_M_fork 76 = .ok (.iload_n 1, 1) := by decide +kernel
theorem d_M_fork_77 : decode b_M_fork 77 = .ok (.if_icmp .ne 29, 3) := by decide +kernel
theorem d_M_fork_80 : decode b_M_fork 80 = .ok (.aload_n 0, 1) := by decide +kernel
theorem d_M_fork_81 : decode b_M_fork 81 = .ok (.iload_n 2, 1) := by decide +kernel
theorem d_M_fork_82 : decode b_M_fork 82 = .ok (.aload_n 0, 1) := by decide +kernel
theorem d_M_fork_83 : decode b_M_fork 83 = .ok (.getfield 20, 3) := by decide +kernel
theorem d_M_fork_86 : decode b_M_fork 86 = .ok (.iload 4, 2) := by decide +kernel
theorem d_M_fork_88 : decode b_M_fork 88 = .ok (.iaload, 1) := by decide +kernel
theorem d_M_fork_89 : decode b_M_fork 89 = .ok (.aload_n 0, 1) := by decide +kernel
theorem d_M_fork_90 : decode b_M_fork 90 = .ok (.getfield 23, 3) := by decide +kernel
theorem d_M_fork_93 : decode b_M_fork 93 = .ok (.iload 4, 2) := by decide +kernel
theorem d_M_fork_95 : decode b_M_fork 95 = .ok (.iaload, 1) := by decide +kernel
theorem d_M_fork_96 : decode b_M_fork 96 = .ok (.aload_n 0, 1) := by decide +kernel
theorem d_M_fork_97 : decode b_M_fork 97 = .ok (.getfield 26, 3) := by decide +kernel
theorem d_M_fork_100 : decode b_M_fork 100 = .ok (.iload 4, 2) := by decide +kernel
theorem d_M_fork_102 : decode b_M_fork 102 = .ok (.iaload, 1) := by decide +kernel
theorem d_M_fork_103 : decode b_M_fork 103 = .ok (.invokevirtual 78, 3) := by decide +kernel
theorem d_M_fork_106 : decode b_M_fork 106 = .ok (.iinc 4 1, 3) := by decide +kernel
theorem d_M_fork_109 : decode b_M_fork 109 = .ok (.goto (-46), 3) := by decide +kernel
theorem d_M_fork_112 : decode b_M_fork 112 = .ok (.aload_n 0, 1) := by decide +kernel
theorem d_M_fork_113 : decode b_M_fork 113 = .ok (.iconst 1, 1) := by decide +kernel
theorem d_M_fork_114 : decode b_M_fork 114 = .ok (.iload_n 2, 1) := by decide +kernel
theorem d_M_fork_115 : decode b_M_fork 115 = .ok (.iconst 0, 1) := by decide +kernel
theorem d_M_fork_116 : decode b_M_fork 116 = .ok (.iconst 0, 1) := by decide +kernel
theorem d_M_fork_117 : decode b_M_fork 117 = .ok (.iload_n 1, 1) := by decide +kernel
theorem d_M_fork_118 : decode b_M_fork 118 = .ok (.invokevirtual 82, 3) := by decide +kernel
theorem d_M_fork_121 : decode b_M_fork 121 = .ok (.iload_n 2, 1) := by decide +kernel
theorem d_M_fork_122 : decode b_M_fork 122 = .ok (.ireturn, 1) := by decide +kernel
theorem d_M_map_0 : decode b_M_map 0 = .ok (.aload_n 0, 1) := by decide +kernel
theorem d_M_map_1 : decode b_M_map 1 = .ok (.iload_n 1, 1) := by decide +kernel
theorem d_M_map_2 : decode b_M_map 2 = .ok (.invokevirtual 105, 3) := by decide +kernel
theorem d_M_map_5 : decode b_M_map 5 = .ok (.ifCond .eq 21, 3) := by decide +kernel
theorem d_M_map_8 : decode b_M_map 8 = .ok (.iload_n 2, 1) := by decide +kernel
theorem d_M_map_9 : decode b_M_map 9 = .ok (.ifCond .lt 17, 3) := by decide +kernel
theorem d_M_map_12 : decode b_M_map 12 = .ok (.iload_n 2, 1) := by decide +kernel
theorem d_M_map_13 : decode b_M_map 13 = .ok (.ldc 86, 2) := by decide +kernel
theorem d_M_map_15 : decode b_M_map 15 = .ok (.if_icmp .ge 11, 3) := by decide +kernel
theorem d_M_map_18 : decode b_M_map 18 = .ok (.iload_n 2, 1) := by decide +kernel
theorem d_M_map_19 : decode b_M_map 19 = .ok (.sipush 4096, 3) := by decide +kernel
theorem d_M_map_22 : decode b_M_map 22 = .ok (.irem, 1) := by decide +kernel
theorem d_M_map_23 : decode b_M_map 23 = .ok (.ifCond .eq 5, 3) := by decide +kernel
theorem d_M_map_26 : decode b_M_map 26 = .ok (.iconst (-1), 1) := by decide +kernel
theorem d_M_map_27 : decode b_M_map 27 = .ok (.ireturn, 1) := by decide +kernel
theorem d_M_map_28 : decode b_M_map 28 = .ok (.aload_n 0, 1) := by decide +kernel
theorem d_M_map_29 : decode b_M_map 29 = .ok (.iload_n 1, 1) := by decide +kernel
theorem d_M_map_30 : decode b_M_map 30 = .ok (.iload_n 2, 1) := by decide +kernel
theorem d_M_map_31 : decode b_M_map 31 = .ok (.invokevirtual 87, 3) := by decide +kernel
theorem d_M_map_34 : decode b_M_map 34 = .ok (.iconst (-1), 1) := by decide +kernel
theorem d_M_map_35 : decode b_M_map 35 = .ok (.if_icmp .ne 13, 3) := by decide +kernel
theorem d_M_map_38 : decode b_M_map 38 = .ok (.iload_n 3, 1) := by decide +kernel
theorem d_M_map_39 : decode b_M_map 39 = .ok (.ifCond .lt 9, 3) := by decide +kernel
theorem d_M_map_42 : decode b_M_map 42 = .ok (.iload_n 3, 1) := by decide +kernel
theorem d_M_map_43 : decode b_M_map 43 = .ok (.bipush 15, 2) := by decide +kernel
theorem d_M_map_45 : decode b_M_map 45 = .ok (.if_icmp .le 5, 3) := by decide +kernel
theorem d_M_map_48 : decode b_M_map 48 = .ok (.iconst (-1), 1) := by decide +kernel
theorem d_M_map_49 : decode b_M_map 49 = .ok (.ireturn, 1) := by decide +kernel
theorem d_M_map_50 : decode b_M_map 50 = .ok (.aload_n 0, 1) := by decide +kernel
theorem d_M_map_51 : decode b_M_map 51 = .ok (.iload_n 1, 1) := by decide +kernel
theorem d_M_map_52 : decode b_M_map 52 = .ok (.iload_n 2, 1) := by decide +kernel
theorem d_M_map_53 : decode b_M_map 53 = .ok (.sipush 4096, 3) := by decide +kernel
theorem d_M_map_56 : decode b_M_map 56 = .ok (.idiv, 1) := by decide +kernel
theorem d_M_map_57 : decode b_M_map 57 = .ok (.invokevirtual 91, 3) := by decide +kernel
theorem d_M_map_60 : decode b_M_map 60 = .ok (.ifCond .ne 6, 3) := by decide +kernel
theorem d_M_map_63 : decode b_M_map 63 = .ok (.bipush (-2), 2) := by decide +kernel
theorem d_M_map_65 : decode b_M_map 65 = .ok (.ireturn, 1) := by decide +kernel
theorem d_M_map_66 : decode b_M_map 66 = .ok (.aload_n 0, 1) := by decide +kernel
theorem d_M_map_67 : decode b_M_map 67 = .ok (.iload_n 1, 1) := by decide +kernel
theorem d_M_map_68 : decode b_M_map 68 = .ok (.iload_n 2, 1) := by decide +kernel
theorem d_M_map_69 : decode b_M_map 69 = .ok (.sipush 4096, 3) := by decide +kernel
theorem d_M_map_72 : decode b_M_map 72 = .ok (.idiv, 1) := by decide +kernel
theorem d_M_map_73 : decode b_M_map 73 = .ok (.iload_n 3, 1) := by decide +kernel
theorem d_M_map_74 : decode b_M_map 74 = .ok (.invokevirtual 94, 3) := by decide +kernel
theorem d_M_map_77 : decode b_M_map 77 = .ok (.aload_n 0, 1) := by decide +kernel
theorem d_M_map_78 : decode b_M_map 78 = .ok (.getfield 13, 3) := by decide +kernel
theorem d_M_map_81 : decode b_M_map 81 = .ok (.iload_n 1, 1) := by decide +kernel
theorem d_M_map_82 : decode b_M_map 82 = .ok (.iaload, 1) := by decide +kernel
theorem d_M_map_83 : decode b_M_map 83 = .ok (.iload_n 2, 1) := by decide +kernel
theorem d_M_map_84 : decode b_M_map 84 = .ok (.sipush 4096, 3) := by decide +kernel
theorem d_M_map_87 : decode b_M_map 87 = .ok (.iadd, 1) := by decide +kernel
theorem d_M_map_88 : decode b_M_map 88 = .ok (.if_icmp .ge 14, 3) := by decide +kernel
theorem d_M_map_91 : decode b_M_map 91 = .ok (.aload_n 0, 1) := by decide +kernel
theorem d_M_map_92 : decode b_M_map 92 = .ok (.getfield 13, 3) := by decide +kernel
theorem d_M_map_95 : decode b_M_map 95 = .ok (.iload_n 1, 1) := by decide +kernel
theorem d_M_map_96 : decode b_M_map 96 = .ok (.iload_n 2, 1) := by decide +kernel
theorem d_M_map_97 : decode b_M_map 97 = .ok (.sipush 4096, 3) := by decide +kernel
theorem d_M_map_100 : decode b_M_map 100 = .ok (.iadd, 1) := by decide +kernel
theorem d_M_map_101 : decode b_M_map 101 = .ok (.iastore, 1) := by decide +kernel
theorem d_M_map_102 : decode b_M_map 102 = .ok (.iconst 0, 1) := by decide +kernel
theorem d_M_map_103 : decode b_M_map 103 = .ok (.ireturn, 1) := by decide +kernel
theorem d_M_protect_0 : decode b_M_protect 0 = .ok (.aload_n 0, 1) := by decide +kernel
theorem d_M_protect_1 : decode b_M_protect 1 = .ok (.iload_n 1, 1) := by decide +kernel
theorem d_M_protect_2 : decode b_M_protect 2 = .ok (.iload_n 2, 1) := by decide +kernel
theorem d_M_protect_3 : decode b_M_protect 3 = .ok (.invokevirtual 87, 3) := by decide +kernel
theorem d_M_protect_6 : decode b_M_protect 6 = .ok (.istore 4, 2) := by decide +kernel
theorem d_M_protect_8 : decode b_M_protect 8 = .ok (.iload 4, 2) := by decide +kernel
theorem d_M_protect_10 : decode b_M_protect 10 = .ok (.iconst (-1), 1) := by decide +kernel
theorem d_M_protect_11 : decode b_M_protect 11 = .ok (.if_icmp .eq 21, 3) := by decide +kernel
theorem d_M_protect_14 : decode b_M_protect 14 = .ok (.iload_n 2, 1) := by decide +kernel
theorem d_M_protect_15 : decode b_M_protect 15 = .ok (.sipush 4096, 3) := by decide +kernel
theorem d_M_protect_18 : decode b_M_protect 18 = .ok (.irem, 1) := by decide +kernel
theorem d_M_protect_19 : decode b_M_protect 19 = .ok (.ifCond .ne 13, 3) := by decide +kernel
theorem d_M_protect_22 : decode b_M_protect 22 = .ok (.iload_n 3, 1) := by decide +kernel
theorem d_M_protect_23 : decode b_M_protect 23 = .ok (.ifCond .lt 9, 3) := by decide +kernel
theorem d_M_protect_26 : decode b_M_protect 26 = .ok (.iload_n 3, 1) := by decide +kernel
theorem d_M_protect_27 : decode b_M_protect 27 = .ok (.bipush 15, 2) := by decide +kernel
theorem d_M_protect_29 : decode b_M_protect 29 = .ok (.if_icmp .le 5, 3) := by decide +kernel
theorem d_M_protect_32 : decode b_M_protect 32 = .ok (.iconst 0, 1) := by decide +kernel
theorem d_M_protect_33 : decode b_M_protect 33 = .ok (.ireturn, 1) := by decide +kernel
theorem d_M_protect_34 : decode b_M_protect 34 = .ok (.aload_n 0, 1) := by decide +kernel
theorem d_M_protect_35 : decode b_M_protect 35 = .ok (.getfield 23, 3) := by decide +kernel
theorem d_M_protect_38 : decode b_M_protect 38 = .ok (.iload 4, 2) := by decide +kernel
theorem d_M_protect_40 : decode b_M_protect 40 = .ok (.iload_n 3, 1) := by decide +kernel
theorem d_M_protect_41 : decode b_M_protect 41 = .ok (.iastore, 1) := by decide +kernel
theorem d_M_protect_42 : decode b_M_protect 42 = .ok (.iconst 1, 1) := by decide +kernel
theorem d_M_protect_43 : decode b_M_protect 43 = .ok (.ireturn, 1) := by decide +kernel
theorem d_M_grow_0 : decode b_M_grow 0 = .ok (.aload_n 0, 1) := by decide +kernel
theorem d_M_grow_1 : decode b_M_grow 1 = .ok (.iload_n 1, 1) := by decide +kernel
theorem d_M_grow_2 : decode b_M_grow 2 = .ok (.invokevirtual 105, 3) := by decide +kernel
theorem d_M_grow_5 : decode b_M_grow 5 = .ok (.ifCond .ne 5, 3) := by decide +kernel
theorem d_M_grow_8 : decode b_M_grow 8 = .ok (.iconst (-1), 1) := by decide +kernel
theorem d_M_grow_9 : decode b_M_grow 9 = .ok (.ireturn, 1) := by decide +kernel
theorem d_M_grow_10 : decode b_M_grow 10 = .ok (.aload_n 0, 1) := by decide +kernel
theorem d_M_grow_11 : decode b_M_grow 11 = .ok (.getfield 13, 3) := by decide +kernel
theorem d_M_grow_14 : decode b_M_grow 14 = .ok (.iload_n 1, 1) := by decide +kernel
theorem d_M_grow_15 : decode b_M_grow 15 = .ok (.iaload, 1) := by decide +kernel
theorem d_M_grow_16 : decode b_M_grow 16 = .ok (.istore_n 3, 1) := by decide +kernel
theorem d_M_grow_17 : decode b_M_grow 17 = .ok (.iload_n 3, 1) := by decide +kernel
theorem d_M_grow_18 : decode b_M_grow 18 = .ok (.i2l, 1) := by decide +kernel
theorem d_M_grow_19 : decode b_M_grow 19 = .ok (.iload_n 2, 1) := by decide +kernel
theorem d_M_grow_20 : decode b_M_grow 20 = .ok (.i2l, 1) := by decide +kernel
theorem d_M_grow_21 : decode b_M_grow 21 = .ok (.ladd, 1) := by decide +kernel
theorem d_M_grow_22 : decode b_M_grow 22 = .ok (.lstore 4, 2) := by decide +kernel
theorem d_M_grow_24 : decode b_M_grow 24 = .ok (.lload 4, 2) := by decide +kernel
theorem d_M_grow_26 : decode b_M_grow 26 = .ok (.lconst 0, 1) := by decide +kernel
theorem d_M_grow_27 : decode b_M_grow 27 = .ok (.lcmp, 1) := by decide +kernel
theorem d_M_grow_28 : decode b_M_grow 28 = .ok (.ifCond .lt 12, 3) := by decide +kernel
theorem d_M_grow_31 : decode b_M_grow 31 = .ok (.lload 4, 2) := by decide +kernel
theorem d_M_grow_33 : decode b_M_grow 33 = .ok (.ldc2_w 129, 3) := by decide +kernel
theorem d_M_grow_36 : decode b_M_grow 36 = .ok (.lcmp, 1) := by decide +kernel
theorem d_M_grow_37 : decode b_M_grow 37 = .ok (.ifCond .le 5, 3) := by decide +kernel
theorem d_M_grow_40 : decode b_M_grow 40 = .ok (.iconst (-1), 1) := by decide +kernel
theorem d_M_grow_41 : decode b_M_grow 41 = .ok (.ireturn, 1) := by decide +kernel
theorem d_M_grow_42 : decode b_M_grow 42 = .ok (.aload_n 0, 1) := by decide +kernel
theorem d_M_grow_43 : decode b_M_grow 43 = .ok (.getfield 13, 3) := by decide +kernel
theorem d_M_grow_46 : decode b_M_grow 46 = .ok (.iload_n 1, 1) := by decide +kernel
theorem d_M_grow_47 : decode b_M_grow 47 = .ok (.lload 4, 2) := by decide +kernel
theorem d_M_grow_49 : decode b_M_grow 49 = .ok (.l2i, 1) := by decide +kernel
theorem d_M_grow_50 : decode b_M_grow 50 = .ok (.iastore, 1) := by decide +kernel
theorem d_M_grow_51 : decode b_M_grow 51 = .ok (.aload_n 0, 1) := by decide +kernel
theorem d_M_grow_52 : decode b_M_grow 52 = .ok (.iload_n 1, 1) := by decide +kernel
theorem d_M_grow_53 : decode b_M_grow 53 = .ok (.aload_n 0, 1) := by decide +kernel
theorem d_M_grow_54 : decode b_M_grow 54 = .ok (.getfield 13, 3) := by decide +kernel
theorem d_M_grow_57 : decode b_M_grow 57 = .ok (.iload_n 1, 1) := by decide +kernel
theorem d_M_grow_58 : decode b_M_grow 58 = .ok (.iaload, 1) := by decide +kernel
theorem d_M_grow_59 : decode b_M_grow 59 = .ok (.invokevirtual 118, 3) := by decide +kernel
theorem d_M_grow_62 : decode b_M_grow 62 = .ok (.iload_n 3, 1) := by decide +kernel
theorem d_M_grow_63 : decode b_M_grow 63 = .ok (.ireturn, 1) := by decide +kernel
theorem d_M_size_0 : decode b_M_size 0 = .ok (.aload_n 0, 1) := by decide +kernel
theorem d_M_size_1 : decode b_M_size 1 = .ok (.iload_n 1, 1) := by decide +kernel
theorem d_M_size_2 : decode b_M_size 2 = .ok (.invokevirtual 105, 3) := by decide +kernel
theorem d_M_size_5 : decode b_M_size 5 = .ok (.ifCond .eq 12, 3) := by decide +kernel
theorem d_M_size_8 : decode b_M_size 8 = .ok (.aload_n 0, 1) := by decide +kernel
theorem d_M_size_9 : decode b_M_size 9 = .ok (.getfield 13, 3) := by decide +kernel
theorem d_M_size_12 : decode b_M_size 12 = .ok (.iload_n 1, 1) := by decide +kernel
theorem d_M_size_13 : decode b_M_size 13 = .ok (.iaload, 1) := by decide +kernel
theorem d_M_size_14 : decode b_M_size 14 = .ok (.goto 4, 3) := by decide +kernel
theorem d_M_size_17 : decode b_M_size 17 = .ok (.iconst (-1), 1) := by decide +kernel
theorem d_M_size_18 : decode b_M_size 18 = .ok (.ireturn, 1) := by decide +kernel
theorem d_M_load_0 : decode b_M_load 0 = .ok (.aload_n 0, 1) := by decide +kernel
theorem d_M_load_1 : decode b_M_load 1 = .ok (.iload_n 1, 1) := by decide +kernel
theorem d_M_load_2 : decode b_M_load 2 = .ok (.iload_n 2, 1) := by decide +kernel
theorem d_M_load_3 : decode b_M_load 3 = .ok (.iload_n 3, 1) := by decide +kernel
theorem d_M_load_4 : decode b_M_load 4 = .ok (.iconst 1, 1) := by decide +kernel
theorem d_M_load_5 : decode b_M_load 5 = .ok (.invokevirtual 131, 3) := by decide +kernel
theorem d_M_load_8 : decode b_M_load 8 = .ok (.ifCond .eq 13, 3) := by decide +kernel
theorem d_M_load_11 : decode b_M_load 11 = .ok (.aload_n 0, 1) := by decide +kernel
theorem d_M_load_12 : decode b_M_load 12 = .ok (.iload_n 1, 1) := by decide +kernel
theorem d_M_load_13 : decode b_M_load 13 = .ok (.iload_n 2, 1) := by decide +kernel
theorem d_M_load_14 : decode b_M_load 14 = .ok (.iload_n 3, 1) := by decide +kernel
theorem d_M_load_15 : decode b_M_load 15 = .ok (.invokevirtual 135, 3) := by decide +kernel
theorem d_M_load_18 : decode b_M_load 18 = .ok (.goto 4, 3) := by decide +kernel
theorem d_M_load_21 : decode b_M_load 21 = .ok (.iconst 0, 1) := by decide +kernel
theorem d_M_load_22 : decode b_M_load 22 = .ok (.ireturn, 1) := by decide +kernel
theorem d_M_fetch_0 : decode b_M_fetch 0 = .ok (.aload_n 0, 1) := by decide +kernel
theorem d_M_fetch_1 : decode b_M_fetch 1 = .ok (.iload_n 1, 1) := by decide +kernel
theorem d_M_fetch_2 : decode b_M_fetch 2 = .ok (.iload_n 2, 1) := by decide +kernel
theorem d_M_fetch_3 : decode b_M_fetch 3 = .ok (.iconst 4, 1) := by decide +kernel
theorem d_M_fetch_4 : decode b_M_fetch 4 = .ok (.iconst 4, 1) := by decide +kernel
theorem d_M_fetch_5 : decode b_M_fetch 5 = .ok (.invokevirtual 131, 3) := by decide +kernel
theorem d_M_fetch_8 : decode b_M_fetch 8 = .ok (.ifCond .eq 13, 3) := by decide +kernel
theorem d_M_fetch_11 : decode b_M_fetch 11 = .ok (.aload_n 0, 1) := by decide +kernel
