theorem d_V_init_0 : decode b_V_init 0 = .ok (.aload_n 0, 1) := by decide +kernel
theorem d_V_init_1 : decode b_V_init 1 = .ok (.invokespecial 3, 3) := by decide +kernel
theorem d_V_init_4 : decode b_V_init 4 = .ok (.aload_n 0, 1) := by decide +kernel
theorem d_V_init_5 : decode b_V_init 5 = .ok (.new 9, 3) := by decide +kernel
theorem d_V_init_8 : decode b_V_init 8 = .ok (.dup, 1) := by decide +kernel
theorem d_V_init_9 : decode b_V_init 9 = .ok (.bipush 8, 2) := by decide +kernel
theorem d_V_init_11 : decode b_V_init 11 = .ok (.bipush 32, 2) := by decide +kernel
theorem d_V_init_13 : decode b_V_init 13 = .ok (.iload_n 1, 1) := by decide +kernel
theorem d_V_init_14 : decode b_V_init 14 = .ok (.invokestatic 11, 3) := by decide +kernel
theorem d_V_init_17 : decode b_V_init 17 = .ok (.invokestatic 17, 3) := by decide +kernel
theorem d_V_init_20 : decode b_V_init 20 = .ok (.invokespecial 20, 3) := by decide +kernel
theorem d_V_init_23 : decode b_V_init 23 = .ok (.putfield 23, 3) := by decide +kernel
theorem d_V_init_26 : decode b_V_init 26 = .ok (.aload_n 0, 1) := by decide +kernel
theorem d_V_init_27 : decode b_V_init 27 = .ok (.bipush 16, 2) := by decide +kernel
theorem d_V_init_29 : decode b_V_init 29 = .ok (.anewarray 27, 3) := by decide +kernel
theorem d_V_init_32 : decode b_V_init 32 = .ok (.putfield 29, 3) := by decide +kernel
theorem d_V_init_35 : decode b_V_init 35 = .ok (.iconst 0, 1) := by decide +kernel
theorem d_V_init_36 : decode b_V_init 36 = .ok (.istore_n 2, 1) := by decide +kernel
theorem d_V_init_37 : decode b_V_init 37 = .ok (.iload_n 2, 1) := by decide +kernel
theorem d_V_init_38 : decode b_V_init 38 = .ok (.bipush 16, 2) := by decide +kernel
theorem d_V_init_40 : decode b_V_init 40 = .ok (.if_icmp .ge 26, 3) := by decide +kernel
theorem d_V_init_43 : decode b_V_init 43 = .ok (.aload_n 0, 1) := by decide +kernel
theorem d_V_init_44 : decode b_V_init 44 = .ok (.getfield 29, 3) := by decide +kernel
theorem d_V_init_47 : decode b_V_init 47 = .ok (.iload_n 2, 1) := by decide +kernel
theorem d_V_init_48 : decode b_V_init 48 = .ok (.new 27, 3) := by decide +kernel
theorem d_V_init_51 : decode b_V_init 51 = .ok (.dup, 1) := by decide +kernel
theorem d_V_init_52 : decode b_V_init 52 = .ok (.aload_n 0, 1) := by decide +kernel
theorem d_V_init_53 : decode b_V_init 53 = .ok (.getfield 23, 3) := by decide +kernel
theorem d_V_init_56 : decode b_V_init 56 = .ok (.invokespecial 33, 3) := by decide +kernel
theorem d_V_init_59 : decode b_V_init 59 = .ok (.aastore, 1) := by decide +kernel
theorem d_V_init_60 : decode b_V_init 60 = .ok (.iinc 2 1, 3) := by decide +kernel
theorem d_V_init_63 : decode b_V_init 63 = .ok (.goto (-26), 3) := by decide +kernel
theorem d_V_init_66 : decode b_V_init 66 = .ok (.aload_n 0, 1) := by decide +kernel
theorem d_V_init_67 : decode b_V_init 67 = .ok (.sipush 512, 3) := by decide +kernel
theorem d_V_init_70 : decode b_V_init 70 = .ok (.newarray .int, 2) := by decide +kernel
theorem d_V_init_72 : decode b_V_init 72 = .ok (.putfield 36, 3) := by decide +kernel
theorem d_V_init_75 : decode b_V_init 75 = .ok (.return_, 1) := by decide +kernel
theorem d_V_make_0 : decode b_V_make 0 = .ok (.aload_n 0, 1) := by decide +kernel
theorem d_V_make_1 : decode b_V_make 1 = .ok (.invokevirtual 40, 3) := by decide +kernel
theorem d_V_make_4 : decode b_V_make 4 = .ok (.istore_n 1, 1) := by decide +kernel
theorem d_V_make_5 : decode b_V_make 5 = .ok (.iload_n 1, 1) := by decide +kernel
theorem d_V_make_6 : decode b_V_make 6 = .ok (.iconst (-1), 1) := by decide +kernel
theorem d_V_make_7 : decode b_V_make 7 = .ok (.if_icmp .eq 14, 3) := by decide +kernel
theorem d_V_make_10 : decode b_V_make 10 = .ok (.aload_n 0, 1) := by decide +kernel
theorem d_V_make_11 : decode b_V_make 11 = .ok (.getfield 23, 3) := by decide +kernel
theorem d_V_make_14 : decode b_V_make 14 = .ok (.invokevirtual 44, 3) := by decide +kernel
theorem d_V_make_17 : decode b_V_make 17 = .ok (.iconst 1, 1) := by decide +kernel
theorem d_V_make_18 : decode b_V_make 18 = .ok (.if_icmp .ge 5, 3) := by decide +kernel
theorem d_V_make_21 : decode b_V_make 21 = .ok (.iconst (-1), 1) := by decide +kernel
theorem d_V_make_22 : decode b_V_make 22 = .ok (.ireturn, 1) := by decide +kernel
theorem d_V_make_23 : decode b_V_make 23 = .ok (.aload_n 0, 1) := by decide +kernel
theorem d_V_make_24 : decode b_V_make 24 = .ok (.getfield 29, 3) := by decide +kernel
theorem d_V_make_27 : decode b_V_make 27 = .ok (.iload_n 1, 1) := by decide +kernel
theorem d_V_make_28 : decode b_V_make 28 = .ok (.aaload, 1) := by decide +kernel
theorem d_V_make_29 : decode b_V_make 29 = .ok (.iconst 0, 1) := by decide +kernel
theorem d_V_make_30 : decode b_V_make 30 = .ok (.invokevirtual 47, 3) := by decide +kernel
theorem d_V_make_33 : decode b_V_make 33 = .ok (.iload_n 1, 1) := by decide +kernel
theorem d_V_make_34 : decode b_V_make 34 = .ok (.ireturn, 1) := by decide +kernel
theorem d_V_drop_0 : decode b_V_drop 0 = .ok (.aload_n 0, 1) := by decide +kernel
theorem d_V_drop_1 : decode b_V_drop 1 = .ok (.iload_n 1, 1) := by decide +kernel
theorem d_V_drop_2 : decode b_V_drop 2 = .ok (.invokevirtual 50, 3) := by decide +kernel
theorem d_V_drop_5 : decode b_V_drop 5 = .ok (.astore_n 2, 1) := by decide +kernel
theorem d_V_drop_6 : decode b_V_drop 6 = .ok (.aload_n 2, 1) := by decide +kernel
theorem d_V_drop_7 : decode b_V_drop 7 = .ok (.ifnonnull 5, 3) := by decide +kernel
theorem d_V_drop_10 : decode b_V_drop 10 = .ok (.iconst 0, 1) := by decide +kernel
theorem d_V_drop_11 : decode b_V_drop 11 = .ok (.ireturn, 1) := by decide +kernel
theorem d_V_drop_12 : decode b_V_drop 12 = .ok (.aload_n 2, 1) := by decide +kernel
theorem d_V_drop_13 : decode b_V_drop 13 = .ok (.invokevirtual 54, 3) := by decide +kernel
theorem d_V_drop_16 : decode b_V_drop 16 = .ok (.iconst 1, 1) := by decide +kernel
theorem d_V_drop_17 : decode b_V_drop 17 = .ok (.ireturn, 1) := by decide +kernel
theorem d_V_fork_0 : decode b_V_fork 0 = .ok (.aload_n 0, 1) := by decide +kernel
theorem d_V_fork_1 : decode b_V_fork 1 = .ok (.iload_n 1, 1) := by decide +kernel
theorem d_V_fork_2 : decode b_V_fork 2 = .ok (.invokevirtual 50, 3) := by decide +kernel
theorem d_V_fork_5 : decode b_V_fork 5 = .ok (.astore_n 2, 1) := by decide +kernel
theorem d_V_fork_6 : decode b_V_fork 6 = .ok (.aload_n 0, 1) := by decide +kernel
theorem d_V_fork_7 : decode b_V_fork 7 = .ok (.invokevirtual 40, 3) := by decide +kernel
theorem d_V_fork_10 : decode b_V_fork 10 = .ok (.istore_n 3, 1) := by decide +kernel
theorem d_V_fork_11 : decode b_V_fork 11 = .ok (.aload_n 2, 1) := by decide +kernel
theorem d_V_fork_12 : decode b_V_fork 12 = .ok (.ifnull 22, 3) := by decide +kernel
theorem d_V_fork_15 : decode b_V_fork 15 = .ok (.iload_n 3, 1) := by decide +kernel
theorem d_V_fork_16 : decode b_V_fork 16 = .ok (.iconst (-1), 1) := by decide +kernel
theorem d_V_fork_17 : decode b_V_fork 17 = .ok (.if_icmp .eq 17, 3) := by decide +kernel
theorem d_V_fork_20 : decode b_V_fork 20 = .ok (.aload_n 0, 1) := by decide +kernel
theorem d_V_fork_21 : decode b_V_fork 21 = .ok (.getfield 23, 3) := by decide +kernel
theorem d_V_fork_24 : decode b_V_fork 24 = .ok (.invokevirtual 44, 3) := by decide +kernel
theorem d_V_fork_27 : decode b_V_fork 27 = .ok (.aload_n 2, 1) := by decide +kernel
theorem d_V_fork_28 : decode b_V_fork 28 = .ok (.invokevirtual 57, 3) := by decide +kernel
theorem d_V_fork_31 : decode b_V_fork 31 = .ok (.if_icmp .ge 5, 3) := by decide +kernel
theorem d_V_fork_34 : decode b_V_fork 34 = .ok (.iconst (-1), 1) := by decide +kernel
theorem d_V_fork_35 : decode b_V_fork 35 = .ok (.ireturn, 1) := by decide +kernel
theorem d_V_fork_36 : decode b_V_fork 36 = .ok (.aload_n 0, 1) := by decide +kernel
theorem d_V_fork_37 : decode b_V_fork 37 = .ok (.getfield 29, 3) := by decide +kernel
theorem d_V_fork_40 : decode b_V_fork 40 = .ok (.iload_n 3, 1) := by decide +kernel
theorem d_V_fork_41 : decode b_V_fork 41 = .ok (.aaload, 1) := by decide +kernel
theorem d_V_fork_42 : decode b_V_fork 42 = .ok (.aload_n 2, 1) := by decide +kernel
theorem d_V_fork_43 : decode b_V_fork 43 = .ok (.invokevirtual 60, 3) := by decide +kernel
theorem d_V_fork_46 : decode b_V_fork 46 = .ok (.iload_n 3, 1) := by decide +kernel
theorem d_V_fork_47 : decode b_V_fork 47 = .ok (.ireturn, 1) := by decide +kernel
theorem d_V_map_0 : decode b_V_map 0 = .ok (.aload_n 0, 1) := by decide +kernel
theorem d_V_map_1 : decode b_V_map 1 = .ok (.iload_n 1, 1) := by decide +kernel
theorem d_V_map_2 : decode b_V_map 2 = .ok (.invokevirtual 50, 3) := by decide +kernel
theorem d_V_map_5 : decode b_V_map 5 = .ok (.astore 4, 2) := by decide +kernel
theorem d_V_map_7 : decode b_V_map 7 = .ok (.aload 4, 2) := by decide +kernel
theorem d_V_map_9 : decode b_V_map 9 = .ok (.ifnull 26, 3) := by decide +kernel
theorem d_V_map_12 : decode b_V_map 12 = .ok (.iload_n 2, 1) := by decide +kernel
theorem d_V_map_13 : decode b_V_map 13 = .ok (.invokestatic 64, 3) := by decide +kernel
theorem d_V_map_16 : decode b_V_map 16 = .ok (.ifCond .eq 19, 3) := by decide +kernel
theorem d_V_map_19 : decode b_V_map 19 = .ok (.iload_n 3, 1) := by decide +kernel
theorem d_V_map_20 : decode b_V_map 20 = .ok (.invokestatic 68, 3) := by decide +kernel
theorem d_V_map_23 : decode b_V_map 23 = .ok (.ifCond .eq 12, 3) := by decide +kernel
theorem d_V_map_26 : decode b_V_map 26 = .ok (.aload 4, 2) := by decide +kernel
theorem d_V_map_28 : decode b_V_map 28 = .ok (.iload_n 2, 1) := by decide +kernel
theorem d_V_map_29 : decode b_V_map 29 = .ok (.invokevirtual 71, 3) := by decide +kernel
theorem d_V_map_32 : decode b_V_map 32 = .ok (.ifCond .eq 5, 3) := by decide +kernel
theorem d_V_map_35 : decode b_V_map 35 = .ok (.iconst (-1), 1) := by decide +kernel
theorem d_V_map_36 : decode b_V_map 36 = .ok (.ireturn, 1) := by decide +kernel
theorem d_V_map_37 : decode b_V_map 37 = .ok (.aload 4, 2) := by decide +kernel
theorem d_V_map_39 : decode b_V_map 39 = .ok (.iload_n 2, 1) := by decide +kernel
theorem d_V_map_40 : decode b_V_map 40 = .ok (.iload_n 3, 1) := by decide +kernel
theorem d_V_map_41 : decode b_V_map 41 = .ok (.invokevirtual 75, 3) := by decide +kernel
theorem d_V_map_44 : decode b_V_map 44 = .ok (.iconst (-1), 1) := by decide +kernel
theorem d_V_map_45 : decode b_V_map 45 = .ok (.if_icmp .ne 6, 3) := by decide +kernel
theorem d_V_map_48 : decode b_V_map 48 = .ok (.bipush (-2), 2) := by decide +kernel
theorem d_V_map_50 : decode b_V_map 50 = .ok (.ireturn, 1) := by decide +kernel
theorem d_V_map_51 : decode b_V_map 51 = .ok (.aload 4, 2) := by decide +kernel
theorem d_V_map_53 : decode b_V_map 53 = .ok (.iload_n 2, 1) := by decide +kernel
theorem d_V_map_54 : decode b_V_map 54 = .ok (.sipush 4096, 3) := by decide +kernel
theorem d_V_map_57 : decode b_V_map 57 = .ok (.iadd, 1) := by decide +kernel
theorem d_V_map_58 : decode b_V_map 58 = .ok (.invokevirtual 78, 3) := by decide +kernel
theorem d_V_map_61 : decode b_V_map 61 = .ok (.iconst 0, 1) := by decide +kernel
theorem d_V_map_62 : decode b_V_map 62 = .ok (.ireturn, 1) := by decide +kernel
theorem d_V_protect_0 : decode b_V_protect 0 = .ok (.aload_n 0, 1) := by decide +kernel
theorem d_V_protect_1 : decode b_V_protect 1 = .ok (.iload_n 1, 1) := by decide +kernel
theorem d_V_protect_2 : decode b_V_protect 2 = .ok (.invokevirtual 50, 3) := by decide +kernel
theorem d_V_protect_5 : decode b_V_protect 5 = .ok (.astore 4, 2) := by decide +kernel
theorem d_V_protect_7 : decode b_V_protect 7 = .ok (.aload 4, 2) := by decide +kernel
theorem d_V_protect_9 : decode b_V_protect 9 = .ok (.ifnull 17, 3) := by decide +kernel
theorem d_V_protect_12 : decode b_V_protect 12 = .ok (.iload_n 2, 1) := by decide +kernel
theorem d_V_protect_13 : decode b_V_protect 13 = .ok (.invokestatic 64, 3) := by decide +kernel
theorem d_V_protect_16 : decode b_V_protect 16 = .ok (.ifCond .eq 10, 3) := by decide +kernel
theorem d_V_protect_19 : decode b_V_protect 19 = .ok (.iload_n 3, 1) := by decide +kernel
theorem d_V_protect_20 : decode b_V_protect 20 = .ok (.invokestatic 68, 3) := by decide +kernel
theorem d_V_protect_23 : decode b_V_protect 23 = .ok (.ifCond .ne 5, 3) := by decide +kernel
theorem d_V_protect_26 : decode b_V_protect 26 = .ok (.iconst 0, 1) := by decide +kernel
theorem d_V_protect_27 : decode b_V_protect 27 = .ok (.ireturn, 1) := by decide +kernel
theorem d_V_protect_28 : decode b_V_protect 28 = .ok (.aload 4, 2) := by decide +kernel
theorem d_V_protect_30 : decode b_V_protect 30 = .ok (.iload_n 2, 1) := by decide +kernel
theorem d_V_protect_31 : decode b_V_protect 31 = .ok (.invokevirtual 71, 3) := by decide +kernel
theorem d_V_protect_34 : decode b_V_protect 34 = .ok (.istore 5, 2) := by decide +kernel
theorem d_V_protect_36 : decode b_V_protect 36 = .ok (.iload 5, 2) := by decide +kernel
theorem d_V_protect_38 : decode b_V_protect 38 = .ok (.ifCond .ne 5, 3) := by decide +kernel
theorem d_V_protect_41 : decode b_V_protect 41 = .ok (.iconst 0, 1) := by decide +kernel
theorem d_V_protect_42 : decode b_V_protect 42 = .ok (.ireturn, 1) := by decide +kernel
theorem d_V_protect_43 : decode b_V_protect 43 = .ok (.aload 4, 2) := by decide +kernel
theorem d_V_protect_45 : decode b_V_protect 45 = .ok (.iload_n 2, 1) := by decide +kernel
theorem d_V_protect_46 : decode b_V_protect 46 = .ok (.iload 5, 2) := by decide +kernel
theorem d_V_protect_48 : decode b_V_protect 48 = .ok (.invokestatic 81, 3) := by decide +kernel
theorem d_V_protect_51 : decode b_V_protect 51 = .ok (.iload_n 3, 1) := by decide +kernel
theorem d_V_protect_52 : decode b_V_protect 52 = .ok (.invokestatic 84, 3) := by decide +kernel
theorem d_V_protect_55 : decode b_V_protect 55 = .ok (.invokevirtual 87, 3) := by decide +kernel
theorem d_V_protect_58 : decode b_V_protect 58 = .ok (.iconst 1, 1) := by decide +kernel
theorem d_V_protect_59 : decode b_V_protect 59 = .ok (.ireturn, 1) := by decide +kernel
theorem d_V_grow_0 : decode b_V_grow 0 = .ok (.aload_n 0, 1) := by decide +kernel
theorem d_V_grow_1 : decode b_V_grow 1 = .ok (.iload_n 1, 1) := by decide +kernel
theorem d_V_grow_2 : decode b_V_grow 2 = .ok (.invokevirtual 50, 3) := by decide +kernel
theorem d_V_grow_5 : decode b_V_grow 5 = .ok (.astore_n 3, 1) := by decide +kernel
theorem d_V_grow_6 : decode b_V_grow 6 = .ok (.aload_n 3, 1) := by decide +kernel
theorem d_V_grow_7 : decode b_V_grow 7 = .ok (.ifnonnull 5, 3) := by decide +kernel
theorem d_V_grow_10 : decode b_V_grow 10 = .ok (.iconst (-1), 1) := by decide +kernel
theorem d_V_grow_11 : decode b_V_grow 11 = .ok (.ireturn, 1) := by decide +kernel
theorem d_V_grow_12 : decode b_V_grow 12 = .ok (.aload_n 3, 1) := by decide +kernel
theorem d_V_grow_13 : decode b_V_grow 13 = .ok (.invokevirtual 91, 3) := by decide +kernel
theorem d_V_grow_16 : decode b_V_grow 16 = .ok (.istore 4, 2) := by decide +kernel
theorem d_V_grow_18 : decode b_V_grow 18 = .ok (.iload 4, 2) := by decide +kernel
theorem d_V_grow_20 : decode b_V_grow 20 = .ok (.i2l, 1) := by decide +kernel
theorem d_V_grow_21 : decode b_V_grow 21 = .ok (.iload_n 2, 1) := by decide +kernel
theorem d_V_grow_22 : decode b_V_grow 22 = .ok (.i2l, 1) := by decide +kernel
theorem d_V_grow_23 : decode b_V_grow 23 = .ok (.ladd, 1) := by decide +kernel
theorem d_V_grow_24 : decode b_V_grow 24 = .ok (.lstore 5, 2) := by decide +kernel
theorem d_V_grow_26 : decode b_V_grow 26 = .ok (.lload 5, 2) := by decide +kernel
theorem d_V_grow_28 : decode b_V_grow 28 = .ok (.lconst 0, 1) := by decide +kernel
theorem d_V_grow_29 : decode b_V_grow 29 = .ok (.lcmp, 1) := by decide +kernel
theorem d_V_grow_30 : decode b_V_grow 30 = .ok (.ifCond .lt 12, 3) := by decide +kernel
theorem d_V_grow_33 : decode b_V_grow 33 = .ok (.lload 5, 2) := by decide +kernel
theorem d_V_grow_35 : decode b_V_grow 35 = .ok (.ldc2_w 94, 3) := by decide +kernel
theorem d_V_grow_38 : decode b_V_grow 38 = .ok (.lcmp, 1) := by decide +kernel
theorem d_V_grow_39 : decode b_V_grow 39 = .ok (.ifCond .le 5, 3) := by decide +kernel
theorem d_V_grow_42 : decode b_V_grow 42 = .ok (.iconst (-1), 1) := by decide +kernel
theorem d_V_grow_43 : decode b_V_grow 43 = .ok (.ireturn, 1) := by decide +kernel
theorem d_V_grow_44 : decode b_V_grow 44 = .ok (.aload_n 3, 1) := by decide +kernel
theorem d_V_grow_45 : decode b_V_grow 45 = .ok (.lload 5, 2) := by decide +kernel
theorem d_V_grow_47 : decode b_V_grow 47 = .ok (.l2i, 1) := by decide +kernel
theorem d_V_grow_48 : decode b_V_grow 48 = .ok (.invokevirtual 96, 3) := by decide +kernel
theorem d_V_grow_51 : decode b_V_grow 51 = .ok (.iload 4, 2) := by decide +kernel
theorem d_V_grow_53 : decode b_V_grow 53 = .ok (.ireturn, 1) := by decide +kernel
theorem d_V_size_0 : decode b_V_size 0 = .ok (.aload_n 0, 1) := by decide +kernel
theorem d_V_size_1 : decode b_V_size 1 = .ok (.iload_n 1, 1) := by decide +kernel
theorem d_V_size_2 : decode b_V_size 2 = .ok (.invokevirtual 50, 3) := by decide +kernel
theorem d_V_size_5 : decode b_V_size 5 = .ok (.astore_n 2, 1) := by decide +kernel
theorem d_V_size_6 : decode b_V_size 6 = .ok (.aload_n 2, 1) := by decide +kernel
theorem d_V_size_7 : decode b_V_size 7 = .ok (.ifnonnull 7, 3) := by decide +kernel
theorem d_V_size_10 : decode b_V_size 10 = .ok (.iconst (-1), 1) := by decide +kernel
theorem d_V_size_11 : decode b_V_size 11 = .ok (.goto 7, 3) := by decide +kernel
theorem d_V_size_14 : decode b_V_size 14 = .ok (.aload_n 2, 1) := by decide +kernel
theorem d_V_size_15 : decode b_V_size 15 = .ok (.invokevirtual 91, 3) := by decide +kernel
theorem d_V_size_18 : decode b_V_size 18 = .ok (.ireturn, 1) := by decide +kernel
theorem d_V_load_0 : decode b_V_load 0 = .ok (.aload_n 0, 1) := by decide +kernel
theorem d_V_load_1 : decode b_V_load 1 = .ok (.iload_n 1, 1) := by decide +kernel
theorem d_V_load_2 : decode b_V_load 2 = .ok (.iload_n 2, 1) := by decide +kernel
theorem d_V_load_3 : decode b_V_load 3 = .ok (.iload_n 3, 1) := by decide +kernel
theorem d_V_load_4 : decode b_V_load 4 = .ok (.iconst 1, 1) := by decide +kernel
theorem d_V_load_5 : decode b_V_load 5 = .ok (.invokevirtual 99, 3) := by decide +kernel
theorem d_V_load_8 : decode b_V_load 8 = .ok (.ireturn, 1) := by decide +kernel
theorem d_V_fetch_0 : decode b_V_fetch 0 = .ok (.aload_n 0, 1) := by decide +kernel
theorem d_V_fetch_1 : decode b_V_fetch 1 = .ok (.iload_n 1, 1) := by decide +kernel
theorem d_V_fetch_2 : decode b_V_fetch 2 = .ok (.iload_n 2, 1) := by decide +kernel
theorem d_V_fetch_3 : decode b_V_fetch 3 = .ok (.iconst 4, 1) := by decide +kernel
theorem d_V_fetch_4 : decode b_V_fetch 4 = .ok (.iconst 4, 1) := by decide +kernel
theorem d_V_fetch_5 : decode b_V_fetch 5 = .ok (.invokevirtual 99, 3) := by decide +kernel
theorem d_V_fetch_8 : decode b_V_fetch 8 = .ok (.ireturn, 1) := by decide +kernel
theorem d_V_store_0 : decode b_V_store 0 = .ok (.aload_n 0, 1) := by decide +kernel
theorem d_V_store_1 : decode b_V_store 1 = .ok (.iconst 0, 1) := by decide +kernel
theorem d_V_store_2 : decode b_V_store 2 = .ok (.putfield 103, 3) := by decide +kernel
theorem d_V_store_5 : decode b_V_store 5 = .ok (.iload_n 2, 1) := by decide +kernel
theorem d_V_store_6 : decode b_V_store 6 = .ok (.iload_n 3, 1) := by decide +kernel
theorem d_V_store_7 : decode b_V_store 7 = .ok (.invokestatic 107, 3) := by decide +kernel
theorem d_V_store_10 : decode b_V_store 10 = .ok (.ifCond .ne 11, 3) := by decide +kernel
theorem d_V_store_13 : decode b_V_store 13 = .ok (.aload_n 0, 1) := by decide +kernel
theorem d_V_store_14 : decode b_V_store 14 = .ok (.iconst 2, 1) := by decide +kernel
theorem d_V_store_15 : decode b_V_store 15 = .ok (.invokevirtual 111, 3) := by decide +kernel
theorem d_V_store_18 : decode b_V_store 18 = .ok (.pop, 1) := by decide +kernel
theorem d_V_store_19 : decode b_V_store 19 = .ok (.iconst 0, 1) := by decide +kernel
theorem d_V_store_20 : decode b_V_store 20 = .ok (.ireturn, 1) := by decide +kernel
theorem d_V_store_21 : decode b_V_store 21 = .ok (.aload_n 0, 1) := by decide +kernel
theorem d_V_store_22 : decode b_V_store 22 = .ok (.aload_n 0, 1) := by decide +kernel
theorem d_V_store_23 : decode b_V_store 23 = .ok (.iload_n 1, 1) := by decide +kernel
theorem d_V_store_24 : decode b_V_store 24 = .ok (.invokevirtual 50, 3) := by decide +kernel
theorem d_V_store_27 : decode b_V_store 27 = .ok (.iload_n 2, 1) := by decide +kernel
theorem d_V_store_28 : decode b_V_store 28 = .ok (.iload_n 3, 1) := by decide +kernel
theorem d_V_store_29 : decode b_V_store 29 = .ok (.iload 4, 2) := by decide +kernel
theorem d_V_store_31 : decode b_V_store 31 = .ok (.invokevirtual 114, 3) := by decide +kernel
theorem d_V_store_34 : decode b_V_store 34 = .ok (.ireturn, 1) := by decide +kernel
theorem d_V_trap_0 : decode b_V_trap 0 = .ok (.aload_n 0, 1) := by decide +kernel
theorem d_V_trap_1 : decode b_V_trap 1 = .ok (.getfield 103, 3) := by decide +kernel
theorem d_V_trap_4 : decode b_V_trap 4 = .ok (.ireturn, 1) := by decide +kernel
theorem d_V_out_0 : decode b_V_out 0 = .ok (.aload_n 0, 1) := by decide +kernel
theorem d_V_out_1 : decode b_V_out 1 = .ok (.iconst 0, 1) := by decide +kernel
theorem d_V_out_2 : decode b_V_out 2 = .ok (.putfield 103, 3) := by decide +kernel
theorem d_V_out_5 : decode b_V_out 5 = .ok (.iload_n 3, 1) := by decide +kernel
theorem d_V_out_6 : decode b_V_out 6 = .ok (.ifCond .lt 10, 3) := by decide +kernel
theorem d_V_out_9 : decode b_V_out 9 = .ok (.iload_n 3, 1) := by decide +kernel
theorem d_V_out_10 : decode b_V_out 10 = .ok (.sipush 512, 3) := by decide +kernel
theorem d_V_out_13 : decode b_V_out 13 = .ok (.if_icmp .le 5, 3) := by decide +kernel
theorem d_V_out_16 : decode b_V_out 16 = .ok (.iconst (-1), 1) := by decide +kernel
theorem d_V_out_17 : decode b_V_out 17 = .ok (.ireturn, 1) := by decide +kernel
theorem d_V_out_18 : decode b_V_out 18 = .ok (.aload_n 0, 1) := by decide +kernel
theorem d_V_out_19 : decode b_V_out 19 = .ok (.iload_n 1, 1) := by decide +kernel
theorem d_V_out_20 : decode b_V_out 20 = .ok (.invokevirtual 50, 3) := by decide +kernel
theorem d_V_out_23 : decode b_V_out 23 = .ok (.astore 4, 2) := by decide +kernel
theorem d_V_out_25 : decode b_V_out 25 = .ok (.iconst 0, 1) := by decide +kernel
theorem d_V_out_26 : decode b_V_out 26 = .ok (.istore 5, 2) := by decide +kernel
theorem d_V_out_28 : decode b_V_out 28 = .ok (.iload 5, 2) := by decide +kernel
theorem d_V_out_30 : decode b_V_out 30 = .ok (.iload_n 3, 1) := by decide +kernel
theorem d_V_out_31 : decode b_V_out 31 = .ok (.if_icmp .ge 33, 3) := by decide +kernel
theorem d_V_out_34 : decode b_V_out 34 = .ok (.aload_n 0, 1) := by decide +kernel
theorem d_V_out_35 : decode b_V_out 35 = .ok (.aload 4, 2) := by decide +kernel
theorem d_V_out_37 : decode b_V_out 37 = .ok (.iload_n 2, 1) := by decide +kernel
theorem d_V_out_38 : decode b_V_out 38 = .ok (.iload 5, 2) := by decide +kernel
theorem d_V_out_40 : decode b_V_out 40 = .ok (.iadd, 1) := by decide +kernel
theorem d_V_out_41 : decode b_V_out 41 = .ok (.iconst 1, 1) := by decide +kernel
theorem d_V_out_42 : decode b_V_out 42 = .ok (.aload_n 0, 1) := by decide +kernel
theorem d_V_out_43 : decode b_V_out 43 = .ok (.getfield 36, 3) := by decide +kernel
theorem d_V_out_46 : decode b_V_out 46 = .ok (.iload 5, 2) := by decide +kernel
theorem d_V_out_48 : decode b_V_out 48 = .ok (.iaload, 1) := by decide +kernel
theorem d_V_out_49 : decode b_V_out 49 = .ok (.invokevirtual 114, 3) := by decide +kernel
theorem d_V_out_52 : decode b_V_out 52 = .ok (.ifCond .ne 6, 3) := by decide +kernel
theorem d_V_out_55 : decode b_V_out 55 = .ok (.iload 5, 2) := by decide +kernel
theorem d_V_out_57 : decode b_V_out 57 = .ok (.ireturn, 1) := by decide +kernel
theorem d_V_out_58 : decode b_V_out 58 = .ok (.iinc 5 1, 3) := by decide +kernel
theorem d_V_out_61 : decode b_V_out 61 = .ok (.goto (-33), 3) := by decide +kernel
theorem d_V_out_64 : decode b_V_out 64 = .ok (.iload_n 3, 1) := by decide +kernel
theorem d_V_out_65 : decode b_V_out 65 = .ok (.ireturn, 1) := by decide +kernel
theorem d_V_in_0 : decode b_V_in 0 = .ok (.aload_n 0, 1) := by decide +kernel
theorem d_V_in_1 : decode b_V_in 1 = .ok (.iconst 0, 1) := by decide +kernel
theorem d_V_in_2 : decode b_V_in 2 = .ok (.putfield 103, 3) := by decide +kernel
theorem d_V_in_5 : decode b_V_in 5 = .ok (.iload_n 3, 1) := by decide +kernel
theorem d_V_in_6 : decode b_V_in 6 = .ok (.ifCond .lt 10, 3) := by decide +kernel
theorem d_V_in_9 : decode b_V_in 9 = .ok (.iload_n 3, 1) := by decide +kernel
theorem d_V_in_10 : decode b_V_in 10 = .ok (.sipush 512, 3) := by decide +kernel
theorem d_V_in_13 : decode b_V_in 13 = .ok (.if_icmp .le 5, 3) := by decide +kernel
theorem d_V_in_16 : decode b_V_in 16 = .ok (.iconst (-1), 1) := by decide +kernel
theorem d_V_in_17 : decode b_V_in 17 = .ok (.ireturn, 1) := by decide +kernel
theorem d_V_in_18 : decode b_V_in 18 = .ok (.aload_n 0, 1) := by decide +kernel
theorem d_V_in_19 : decode b_V_in 19 = .ok (.iload_n 1, 1) := by decide +kernel
theorem d_V_in_20 : decode b_V_in 20 = .ok (.invokevirtual 50, 3) := by decide +kernel
theorem d_V_in_23 : decode b_V_in 23 = .ok (.astore 4, 2) := by decide +kernel
theorem d_V_in_25 : decode b_V_in 25 = .ok (.iconst 0, 1) := by decide +kernel
theorem d_V_in_26 : decode b_V_in 26 = .ok (.istore 5, 2) := by decide +kernel
theorem d_V_in_28 : decode b_V_in 28 = .ok (.iload 5, 2) := by decide +kernel
theorem d_V_in_30 : decode b_V_in 30 = .ok (.iload_n 3, 1) := by decide +kernel
theorem d_V_in_31 : decode b_V_in 31 = .ok (.if_icmp .ge 39, 3) := by decide +kernel
theorem d_V_in_34 : decode b_V_in 34 = .ok (.aload_n 0, 1) := by decide +kernel
theorem d_V_in_35 : decode b_V_in 35 = .ok (.aload 4, 2) := by decide +kernel
theorem d_V_in_37 : decode b_V_in 37 = .ok (.iload_n 2, 1) := by decide +kernel
theorem d_V_in_38 : decode b_V_in 38 = .ok (.iload 5, 2) := by decide +kernel
theorem d_V_in_40 : decode b_V_in 40 = .ok (.iadd, 1) := by decide +kernel
theorem d_V_in_41 : decode b_V_in 41 = .ok (.invokevirtual 118, 3) := by decide +kernel
theorem d_V_in_44 : decode b_V_in 44 = .ok (.istore 6, 2) := by decide +kernel
theorem d_V_in_46 : decode b_V_in 46 = .ok (.iload 6, 2) := by decide +kernel
theorem d_V_in_48 : decode b_V_in 48 = .ok (.iconst (-1), 1) := by decide +kernel
theorem d_V_in_49 : decode b_V_in 49 = .ok (.if_icmp .ne 6, 3) := by decide +kernel
theorem d_V_in_52 : decode b_V_in 52 = .ok (.iload 5, 2) := by decide +kernel
theorem d_V_in_54 : decode b_V_in 54 = .ok (.ireturn, 1) := by decide +kernel
theorem d_V_in_55 : decode b_V_in 55 = .ok (.aload_n 0, 1) := by decide +kernel
theorem d_V_in_56 : decode b_V_in 56 = .ok (.getfield 36, 3) := by decide +kernel
theorem d_V_in_59 : decode b_V_in 59 = .ok (.iload 5, 2) := by decide +kernel
theorem d_V_in_61 : decode b_V_in 61 = .ok (.iload 6, 2) := by decide +kernel
theorem d_V_in_63 : decode b_V_in 63 = .ok (.iastore, 1) := by decide +kernel
theorem d_V_in_64 : decode b_V_in 64 = .ok (.iinc 5 1, 3) := by decide +kernel
theorem d_V_in_67 : decode b_V_in 67 = .ok (.goto (-39), 3) := by decide +kernel
theorem d_V_in_70 : decode b_V_in 70 = .ok (.iload_n 3, 1) := by decide +kernel
theorem d_V_in_71 : decode b_V_in 71 = .ok (.ireturn, 1) := by decide +kernel
theorem d_V_text_0 : decode b_V_text 0 = .ok (.aload_n 0, 1) := by decide +kernel
theorem d_V_text_1 : decode b_V_text 1 = .ok (.iconst 0, 1) := by decide +kernel
theorem d_V_text_2 : decode b_V_text 2 = .ok (.putfield 103, 3) := by decide +kernel
theorem d_V_text_5 : decode b_V_text 5 = .ok (.iload_n 3, 1) := by decide +kernel
theorem d_V_text_6 : decode b_V_text 6 = .ok (.iconst 1, 1) := by decide +kernel
theorem d_V_text_7 : decode b_V_text 7 = .ok (.if_icmp .lt 10, 3) := by decide +kernel
theorem d_V_text_10 : decode b_V_text 10 = .ok (.iload_n 3, 1) := by decide +kernel
theorem d_V_text_11 : decode b_V_text 11 = .ok (.sipush 512, 3) := by decide +kernel
theorem d_V_text_14 : decode b_V_text 14 = .ok (.if_icmp .le 5, 3) := by decide +kernel
theorem d_V_text_17 : decode b_V_text 17 = .ok (.iconst (-1), 1) := by decide +kernel
theorem d_V_text_18 : decode b_V_text 18 = .ok (.ireturn, 1) := by decide +kernel
theorem d_V_text_19 : decode b_V_text 19 = .ok (.aload_n 0, 1) := by decide +kernel
theorem d_V_text_20 : decode b_V_text 20 = .ok (.iload_n 1, 1) := by decide +kernel
theorem d_V_text_21 : decode b_V_text 21 = .ok (.invokevirtual 50, 3) := by decide +kernel
theorem d_V_text_24 : decode b_V_text 24 = .ok (.astore 4, 2) := by decide +kernel
theorem d_V_text_26 : decode b_V_text 26 = .ok (.iconst 0, 1) := by decide +kernel
theorem d_V_text_27 : decode b_V_text 27 = .ok (.istore 5, 2) := by decide +kernel
theorem d_V_text_29 : decode b_V_text 29 = .ok (.iload 5, 2) := by decide +kernel
theorem d_V_text_31 : decode b_V_text 31 = .ok (.iload_n 3, 1) := by decide +kernel
theorem d_V_text_32 : decode b_V_text 32 = .ok (.if_icmp .ge 46, 3) := by decide +kernel
theorem d_V_text_35 : decode b_V_text 35 = .ok (.aload_n 0, 1) := by decide +kernel
theorem d_V_text_36 : decode b_V_text 36 = .ok (.aload 4, 2) := by decide +kernel
theorem d_V_text_38 : decode b_V_text 38 = .ok (.iload_n 2, 1) := by decide +kernel
theorem d_V_text_39 : decode b_V_text 39 = .ok (.iload 5, 2) := by decide +kernel
theorem d_V_text_41 : decode b_V_text 41 = .ok (.iadd, 1) := by decide +kernel
theorem d_V_text_42 : decode b_V_text 42 = .ok (.invokevirtual 118, 3) := by decide +kernel
theorem d_V_text_45 : decode b_V_text 45 = .ok (.istore 6, 2) := by decide +kernel
theorem d_V_text_47 : decode b_V_text 47 = .ok (.iload 6, 2) := by decide +kernel
theorem d_V_text_49 : decode b_V_text 49 = .ok (.iconst (-1), 1) := by decide +kernel
theorem d_V_text_50 : decode b_V_text 50 = .ok (.if_icmp .ne 5, 3) := by decide +kernel
theorem d_V_text_53 : decode b_V_text 53 = .ok (.iconst (-1), 1) := by decide +kernel
theorem d_V_text_54 : decode b_V_text 54 = .ok (.ireturn, 1) := by decide +kernel
theorem d_V_text_55 : decode b_V_text 55 = .ok (.aload_n 0, 1) := by decide +kernel
theorem d_V_text_56 : decode b_V_text 56 = .ok (.getfield 36, 3) := by decide +kernel
theorem d_V_text_59 : decode b_V_text 59 = .ok (.iload 5, 2) := by decide +kernel
theorem d_V_text_61 : decode b_V_text 61 = .ok (.iload 6, 2) := by decide +kernel
theorem d_V_text_63 : decode b_V_text 63 = .ok (.iastore, 1) := by decide +kernel
theorem d_V_text_64 : decode b_V_text 64 = .ok (.iload 6, 2) := by decide +kernel
theorem d_V_text_66 : decode b_V_text 66 = .ok (.ifCond .ne 6, 3) := by decide +kernel
theorem d_V_text_69 : decode b_V_text 69 = .ok (.iload 5, 2) := by decide +kernel
theorem d_V_text_71 : decode b_V_text 71 = .ok (.ireturn, 1) := by decide +kernel
theorem d_V_text_72 : decode b_V_text 72 = .ok (.iinc 5 1, 3) := by decide +kernel
theorem d_V_text_75 : decode b_V_text 75 = .ok (.goto (-46), 3) := by decide +kernel
theorem d_V_text_78 : decode b_V_text 78 = .ok (.iconst (-1), 1) := by decide +kernel
theorem d_V_text_79 : decode b_V_text 79 = .ok (.ireturn, 1) := by decide +kernel
theorem d_V_put_0 : decode b_V_put 0 = .ok (.iload_n 1, 1) := by decide +kernel
theorem d_V_put_1 : decode b_V_put 1 = .ok (.ifCond .lt 21, 3) := by decide +kernel
theorem d_V_put_4 : decode b_V_put 4 = .ok (.iload_n 1, 1) := by decide +kernel
theorem d_V_put_5 : decode b_V_put 5 = .ok (.sipush 512, 3) := by decide +kernel
theorem d_V_put_8 : decode b_V_put 8 = .ok (.if_icmp .ge 14, 3) := by decide +kernel
theorem d_V_put_11 : decode b_V_put 11 = .ok (.iload_n 2, 1) := by decide +kernel
theorem d_V_put_12 : decode b_V_put 12 = .ok (.ifCond .lt 10, 3) := by decide +kernel
theorem d_V_put_15 : decode b_V_put 15 = .ok (.iload_n 2, 1) := by decide +kernel
theorem d_V_put_16 : decode b_V_put 16 = .ok (.sipush 255, 3) := by decide +kernel
theorem d_V_put_19 : decode b_V_put 19 = .ok (.if_icmp .le 5, 3) := by decide +kernel
theorem d_V_put_22 : decode b_V_put 22 = .ok (.iconst 0, 1) := by decide +kernel
theorem d_V_put_23 : decode b_V_put 23 = .ok (.ireturn, 1) := by decide +kernel
theorem d_V_put_24 : decode b_V_put 24 = .ok (.aload_n 0, 1) := by decide +kernel
theorem d_V_put_25 : decode b_V_put 25 = .ok (.getfield 36, 3) := by decide +kernel
theorem d_V_put_28 : decode b_V_put 28 = .ok (.iload_n 1, 1) := by decide +kernel
theorem d_V_put_29 : decode b_V_put 29 = .ok (.iload_n 2, 1) := by decide +kernel
theorem d_V_put_30 : decode b_V_put 30 = .ok (.iastore, 1) := by decide +kernel
theorem d_V_put_31 : decode b_V_put 31 = .ok (.iconst 1, 1) := by decide +kernel
theorem d_V_put_32 : decode b_V_put 32 = .ok (.ireturn, 1) := by decide +kernel
theorem d_V_at_0 : decode b_V_at 0 = .ok (.iload_n 1, 1) := by decide +kernel
theorem d_V_at_1 : decode b_V_at 1 = .ok (.ifCond .lt 10, 3) := by decide +kernel
theorem d_V_at_4 : decode b_V_at 4 = .ok (.iload_n 1, 1) := by decide +kernel
theorem d_V_at_5 : decode b_V_at 5 = .ok (.sipush 512, 3) := by decide +kernel
theorem d_V_at_8 : decode b_V_at 8 = .ok (.if_icmp .lt 7, 3) := by decide +kernel
theorem d_V_at_11 : decode b_V_at 11 = .ok (.iconst (-1), 1) := by decide +kernel
theorem d_V_at_12 : decode b_V_at 12 = .ok (.goto 9, 3) := by decide +kernel
theorem d_V_at_15 : decode b_V_at 15 = .ok (.aload_n 0, 1) := by decide +kernel
theorem d_V_at_16 : decode b_V_at 16 = .ok (.getfield 36, 3) := by decide +kernel
theorem d_V_at_19 : decode b_V_at 19 = .ok (.iload_n 1, 1) := by decide +kernel
theorem d_V_at_20 : decode b_V_at 20 = .ok (.iaload, 1) := by decide +kernel
theorem d_V_at_21 : decode b_V_at 21 = .ok (.ireturn, 1) := by decide +kernel
theorem d_V_free_0 : decode b_V_free 0 = .ok (.aload_n 0, 1) := by decide +kernel
theorem d_V_free_1 : decode b_V_free 1 = .ok (.getfield 23, 3) := by decide +kernel
theorem d_V_free_4 : decode b_V_free 4 = .ok (.invokevirtual 44, 3) := by decide +kernel
theorem d_V_free_7 : decode b_V_free 7 = .ok (.ireturn, 1) := by decide +kernel
theorem d_V_flags_0 : decode b_V_flags 0 = .ok (.aload_n 0, 1) := by decide +kernel
theorem d_V_flags_1 : decode b_V_flags 1 = .ok (.iload_n 1, 1) := by decide +kernel
theorem d_V_flags_2 : decode b_V_flags 2 = .ok (.iload_n 2, 1) := by decide +kernel
theorem d_V_flags_3 : decode b_V_flags 3 = .ok (.invokevirtual 122, 3) := by decide +kernel
theorem d_V_flags_6 : decode b_V_flags 6 = .ok (.istore_n 3, 1) := by decide +kernel
theorem d_V_flags_7 : decode b_V_flags 7 = .ok (.iload_n 3, 1) := by decide +kernel
theorem d_V_flags_8 : decode b_V_flags 8 = .ok (.ifCond .ne 7, 3) := by decide +kernel
theorem d_V_flags_11 : decode b_V_flags 11 = .ok (.iconst (-1), 1) := by decide +kernel
theorem d_V_flags_12 : decode b_V_flags 12 = .ok (.goto 7, 3) := by decide +kernel
theorem d_V_flags_15 : decode b_V_flags 15 = .ok (.iload_n 3, 1) := by decide +kernel
theorem d_V_flags_16 : decode b_V_flags 16 = .ok (.invokestatic 125, 3) := by decide +kernel
theorem d_V_flags_19 : decode b_V_flags 19 = .ok (.ireturn, 1) := by decide +kernel
theorem d_V_owners_0 : decode b_V_owners 0 = .ok (.aload_n 0, 1) := by decide +kernel
theorem d_V_owners_1 : decode b_V_owners 1 = .ok (.getfield 23, 3) := by decide +kernel
theorem d_V_owners_4 : decode b_V_owners 4 = .ok (.aload_n 0, 1) := by decide +kernel
theorem d_V_owners_5 : decode b_V_owners 5 = .ok (.iload_n 1, 1) := by decide +kernel
theorem d_V_owners_6 : decode b_V_owners 6 = .ok (.iload_n 2, 1) := by decide +kernel
theorem d_V_owners_7 : decode b_V_owners 7 = .ok (.invokevirtual 122, 3) := by decide +kernel
theorem d_V_owners_10 : decode b_V_owners 10 = .ok (.invokestatic 81, 3) := by decide +kernel
theorem d_V_owners_13 : decode b_V_owners 13 = .ok (.invokevirtual 128, 3) := by decide +kernel
theorem d_V_owners_16 : decode b_V_owners 16 = .ok (.ireturn, 1) := by decide +kernel
theorem d_V_find_0 : decode b_V_find 0 = .ok (.iload_n 1, 1) := by decide +kernel
theorem d_V_find_1 : decode b_V_find 1 = .ok (.ifCond .lt 21, 3) := by decide +kernel
theorem d_V_find_4 : decode b_V_find 4 = .ok (.iload_n 1, 1) := by decide +kernel
theorem d_V_find_5 : decode b_V_find 5 = .ok (.bipush 16, 2) := by decide +kernel
theorem d_V_find_7 : decode b_V_find 7 = .ok (.if_icmp .ge 15, 3) := by decide +kernel
theorem d_V_find_10 : decode b_V_find 10 = .ok (.aload_n 0, 1) := by decide +kernel
theorem d_V_find_11 : decode b_V_find 11 = .ok (.getfield 29, 3) := by decide +kernel
theorem d_V_find_14 : decode b_V_find 14 = .ok (.iload_n 1, 1) := by decide +kernel
theorem d_V_find_15 : decode b_V_find 15 = .ok (.aaload, 1) := by decide +kernel
theorem d_V_find_16 : decode b_V_find 16 = .ok (.invokevirtual 131, 3) := by decide +kernel
theorem d_V_find_19 : decode b_V_find 19 = .ok (.ifCond .ne 5, 3) := by decide +kernel
theorem d_V_find_22 : decode b_V_find 22 = .ok (.aconst_null, 1) := by decide +kernel
theorem d_V_find_23 : decode b_V_find 23 = .ok (.areturn, 1) := by decide +kernel
theorem d_V_find_24 : decode b_V_find 24 = .ok (.aload_n 0, 1) := by decide +kernel
theorem d_V_find_25 : decode b_V_find 25 = .ok (.getfield 29, 3) := by decide +kernel
theorem d_V_find_28 : decode b_V_find 28 = .ok (.iload_n 1, 1) := by decide +kernel
theorem d_V_find_29 : decode b_V_find 29 = .ok (.aaload, 1) := by decide +kernel
theorem d_V_find_30 : decode b_V_find 30 = .ok (.areturn, 1) := by decide +kernel
theorem d_V_leastUnused_0 : decode b_V_leastUnused 0 = .ok (.iconst 0, 1) := by decide +kernel
theorem d_V_leastUnused_1 : decode b_V_leastUnused 1 = .ok (.istore_n 1, 1) := by decide +kernel
theorem d_V_leastUnused_2 : decode b_V_leastUnused 2 = .ok (.iload_n 1, 1) := by decide +kernel
theorem d_V_leastUnused_3 : decode b_V_leastUnused 3 = .ok (.bipush 16, 2) := by decide +kernel
theorem d_V_leastUnused_5 : decode b_V_leastUnused 5 = .ok (.if_icmp .ge 23, 3) := by decide +kernel
theorem d_V_leastUnused_8 : decode b_V_leastUnused 8 = .ok (.aload_n 0, 1) := by decide +kernel
theorem d_V_leastUnused_9 : decode b_V_leastUnused 9 = .ok (.getfield 29, 3) := by decide +kernel
theorem d_V_leastUnused_12 : decode b_V_leastUnused 12 = .ok (.iload_n 1, 1) := by decide +kernel
theorem d_V_leastUnused_13 : decode b_V_leastUnused 13 = .ok (.aaload, 1) := by decide +kernel
