theorem d_F_mask_6 : decode b_F_mask 6 = .ok (.imul, 1) := by decide +kernel
theorem d_F_mask_7 : decode b_F_mask 7 = .ok (.isub, 1) := by decide +kernel
theorem d_F_mask_8 : decode b_F_mask 8 = .ok (.iushr, 1) := by decide +kernel
theorem d_F_mask_9 : decode b_F_mask 9 = .ok (.ireturn, 1) := by decide +kernel
theorem d_S_init_0 : decode b_S_init 0 = .ok (.aload_n 0, 1) := by decide +kernel
theorem d_S_init_1 : decode b_S_init 1 = .ok (.invokespecial 3, 3) := by decide +kernel
theorem d_S_init_4 : decode b_S_init 4 = .ok (.aload_n 0, 1) := by decide +kernel
theorem d_S_init_5 : decode b_S_init 5 = .ok (.aload_n 1, 1) := by decide +kernel
theorem d_S_init_6 : decode b_S_init 6 = .ok (.putfield 9, 3) := by decide +kernel
theorem d_S_init_9 : decode b_S_init 9 = .ok (.aload_n 0, 1) := by decide +kernel
theorem d_S_init_10 : decode b_S_init 10 = .ok (.iconst (-1), 1) := by decide +kernel
theorem d_S_init_11 : decode b_S_init 11 = .ok (.putfield 15, 3) := by decide +kernel
theorem d_S_init_14 : decode b_S_init 14 = .ok (.return_, 1) := by decide +kernel
theorem d_S_isOpen_0 : decode b_S_isOpen 0 = .ok (.aload_n 0, 1) := by decide +kernel
theorem d_S_isOpen_1 : decode b_S_isOpen 1 = .ok (.getfield 15, 3) := by decide +kernel
theorem d_S_isOpen_4 : decode b_S_isOpen 4 = .ok (.iconst (-1), 1) := by decide +kernel
theorem d_S_isOpen_5 : decode b_S_isOpen 5 = .ok (.if_icmp .eq 7, 3) := by decide +kernel
theorem d_S_isOpen_8 : decode b_S_isOpen 8 = .ok (.iconst 1, 1) := by decide +kernel
theorem d_S_isOpen_9 : decode b_S_isOpen 9 = .ok (.goto 4, 3) := by decide +kernel
theorem d_S_isOpen_12 : decode b_S_isOpen 12 = .ok (.iconst 0, 1) := by decide +kernel
theorem d_S_isOpen_13 : decode b_S_isOpen 13 = .ok (.ireturn, 1) := by decide +kernel
theorem d_S_length_0 : decode b_S_length 0 = .ok (.aload_n 0, 1) := by decide +kernel
theorem d_S_length_1 : decode b_S_length 1 = .ok (.getfield 19, 3) := by decide +kernel
theorem d_S_length_4 : decode b_S_length 4 = .ok (.ireturn, 1) := by decide +kernel
theorem d_S_open_0 : decode b_S_open 0 = .ok (.aload_n 0, 1) := by decide +kernel
theorem d_S_open_1 : decode b_S_open 1 = .ok (.aload_n 0, 1) := by decide +kernel
theorem d_S_open_2 : decode b_S_open 2 = .ok (.getfield 9, 3) := by decide +kernel
theorem d_S_open_5 : decode b_S_open 5 = .ok (.invokevirtual 22, 3) := by decide +kernel
theorem d_S_open_8 : decode b_S_open 8 = .ok (.putfield 15, 3) := by decide +kernel
theorem d_S_open_11 : decode b_S_open 11 = .ok (.aload_n 0, 1) := by decide +kernel
theorem d_S_open_12 : decode b_S_open 12 = .ok (.iload_n 1, 1) := by decide +kernel
theorem d_S_open_13 : decode b_S_open 13 = .ok (.putfield 19, 3) := by decide +kernel
theorem d_S_open_16 : decode b_S_open 16 = .ok (.return_, 1) := by decide +kernel
theorem d_S_close_0 : decode b_S_close 0 = .ok (.aload_n 0, 1) := by decide +kernel
theorem d_S_close_1 : decode b_S_close 1 = .ok (.iconst 0, 1) := by decide +kernel
theorem d_S_close_2 : decode b_S_close 2 = .ok (.invokevirtual 28, 3) := by decide +kernel
theorem d_S_close_5 : decode b_S_close 5 = .ok (.iconst 0, 1) := by decide +kernel
theorem d_S_close_6 : decode b_S_close 6 = .ok (.istore_n 1, 1) := by decide +kernel
theorem d_S_close_7 : decode b_S_close 7 = .ok (.iload_n 1, 1) := by decide +kernel
theorem d_S_close_8 : decode b_S_close 8 = .ok (.sipush 256, 3) := by decide +kernel
theorem d_S_close_11 : decode b_S_close 11 = .ok (.if_icmp .ge 21, 3) := by decide +kernel
theorem d_S_close_14 : decode b_S_close 14 = .ok (.aload_n 0, 1) := by decide +kernel
theorem d_S_close_15 : decode b_S_close 15 = .ok (.getfield 9, 3) := by decide +kernel
theorem d_S_close_18 : decode b_S_close 18 = .ok (.aload_n 0, 1) := by decide +kernel
theorem d_S_close_19 : decode b_S_close 19 = .ok (.iload_n 1, 1) := by decide +kernel
theorem d_S_close_20 : decode b_S_close 20 = .ok (.invokevirtual 32, 3) := by decide +kernel
theorem d_S_close_23 : decode b_S_close 23 = .ok (.invokevirtual 36, 3) := by decide +kernel
theorem d_S_close_26 : decode b_S_close 26 = .ok (.iinc 1 1, 3) := by decide +kernel
theorem d_S_close_29 : decode b_S_close 29 = .ok (.goto (-22), 3) := by decide +kernel
theorem d_S_close_32 : decode b_S_close 32 = .ok (.aload_n 0, 1) := by decide +kernel
theorem d_S_close_33 : decode b_S_close 33 = .ok (.getfield 9, 3) := by decide +kernel
theorem d_S_close_36 : decode b_S_close 36 = .ok (.aload_n 0, 1) := by decide +kernel
theorem d_S_close_37 : decode b_S_close 37 = .ok (.getfield 15, 3) := by decide +kernel
theorem d_S_close_40 : decode b_S_close 40 = .ok (.invokevirtual 36, 3) := by decide +kernel
theorem d_S_close_43 : decode b_S_close 43 = .ok (.aload_n 0, 1) := by decide +kernel
theorem d_S_close_44 : decode b_S_close 44 = .ok (.iconst (-1), 1) := by decide +kernel
theorem d_S_close_45 : decode b_S_close 45 = .ok (.putfield 15, 3) := by decide +kernel
theorem d_S_close_48 : decode b_S_close 48 = .ok (.return_, 1) := by decide +kernel
theorem d_S_openAsCopy_0 : decode b_S_openAsCopy 0 = .ok (.aload_n 0, 1) := by decide +kernel
theorem d_S_openAsCopy_1 : decode b_S_openAsCopy 1 = .ok (.aload_n 1, 1) := by decide +kernel
theorem d_S_openAsCopy_2 : decode b_S_openAsCopy 2 = .ok (.getfield 19, 3) := by decide +kernel
theorem d_S_openAsCopy_5 : decode b_S_openAsCopy 5 = .ok (.invokevirtual 39, 3) := by decide +kernel
theorem d_S_openAsCopy_8 : decode b_S_openAsCopy 8 = .ok (.iconst 0, 1) := by decide +kernel
theorem d_S_openAsCopy_9 : decode b_S_openAsCopy 9 = .ok (.istore_n 2, 1) := by decide +kernel
theorem d_S_openAsCopy_10 : decode b_S_openAsCopy 10 = .ok (.iload_n 2, 1) := by decide +kernel
theorem d_S_openAsCopy_11 : decode b_S_openAsCopy 11 = .ok (.sipush 256, 3) := by decide +kernel
theorem d_S_openAsCopy_14 : decode b_S_openAsCopy 14 = .ok (.if_icmp .ge 23, 3) := by decide +kernel
theorem d_S_openAsCopy_17 : decode b_S_openAsCopy 17 = .ok (.aload_n 1, 1) := by decide +kernel
theorem d_S_openAsCopy_18 : decode b_S_openAsCopy 18 = .ok (.iload_n 2, 1) := by decide +kernel
theorem d_S_openAsCopy_19 : decode b_S_openAsCopy 19 = .ok (.invokevirtual 42, 3) := by decide +kernel
theorem d_S_openAsCopy_22 : decode b_S_openAsCopy 22 = .ok (.ifCond .eq 9, 3) := by decide +kernel
theorem d_S_openAsCopy_25 : decode b_S_openAsCopy 25 = .ok (.aload_n 0, 1) := by decide +kernel
theorem d_S_openAsCopy_26 : decode b_S_openAsCopy 26 = .ok (.aload_n 1, 1) := by decide +kernel
theorem d_S_openAsCopy_27 : decode b_S_openAsCopy 27 = .ok (.iload_n 2, 1) := by decide +kernel
theorem d_S_openAsCopy_28 : decode b_S_openAsCopy 28 = .ok (.invokevirtual 46, 3) := by decide +kernel
theorem d_S_openAsCopy_31 : decode b_S_openAsCopy 31 = .ok (.iinc 2 1, 3) := by decide +kernel
theorem d_S_openAsCopy_34 : decode b_S_openAsCopy 34 = .ok (.goto (-24), 3) := by decide +kernel
theorem d_S_openAsCopy_37 : decode b_S_openAsCopy 37 = .ok (.return_, 1) := by decide +kernel
theorem d_S_framesOfCopy_0 : decode b_S_framesOfCopy 0 = .ok (.iconst 1, 1) := by decide +kernel
theorem d_S_framesOfCopy_1 : decode b_S_framesOfCopy 1 = .ok (.istore_n 1, 1) := by decide +kernel
theorem d_S_framesOfCopy_2 : decode b_S_framesOfCopy 2 = .ok (.iconst 0, 1) := by decide +kernel
theorem d_S_framesOfCopy_3 : decode b_S_framesOfCopy 3 = .ok (.istore_n 2, 1) := by decide +kernel
theorem d_S_framesOfCopy_4 : decode b_S_framesOfCopy 4 = .ok (.iload_n 2, 1) := by decide +kernel
theorem d_S_framesOfCopy_5 : decode b_S_framesOfCopy 5 = .ok (.sipush 256, 3) := by decide +kernel
theorem d_S_framesOfCopy_8 : decode b_S_framesOfCopy 8 = .ok (.if_icmp .ge 20, 3) := by decide +kernel
theorem d_S_framesOfCopy_11 : decode b_S_framesOfCopy 11 = .ok (.aload_n 0, 1) := by decide +kernel
theorem d_S_framesOfCopy_12 : decode b_S_framesOfCopy 12 = .ok (.iload_n 2, 1) := by decide +kernel
theorem d_S_framesOfCopy_13 : decode b_S_framesOfCopy 13 = .ok (.invokevirtual 42, 3) := by decide +kernel
theorem d_S_framesOfCopy_16 : decode b_S_framesOfCopy 16 = .ok (.ifCond .eq 6, 3) := by decide +kernel
theorem d_S_framesOfCopy_19 : decode b_S_framesOfCopy 19 = .ok (.iinc 1 1, 3) := by decide +kernel
theorem d_S_framesOfCopy_22 : decode b_S_framesOfCopy 22 = .ok (.iinc 2 1, 3) := by decide +kernel
theorem d_S_framesOfCopy_25 : decode b_S_framesOfCopy 25 = .ok (.goto (-21), 3) := by decide +kernel
theorem d_S_framesOfCopy_28 : decode b_S_framesOfCopy 28 = .ok (.iload_n 1, 1) := by decide +kernel
theorem d_S_framesOfCopy_29 : decode b_S_framesOfCopy 29 = .ok (.ireturn, 1) := by decide +kernel
theorem d_S_reach_0 : decode b_S_reach 0 = .ok (.aload_n 0, 1) := by decide +kernel
theorem d_S_reach_1 : decode b_S_reach 1 = .ok (.aload_n 0, 1) := by decide +kernel
theorem d_S_reach_2 : decode b_S_reach 2 = .ok (.getfield 19, 3) := by decide +kernel
theorem d_S_reach_5 : decode b_S_reach 5 = .ok (.iload_n 1, 1) := by decide +kernel
theorem d_S_reach_6 : decode b_S_reach 6 = .ok (.invokestatic 50, 3) := by decide +kernel
theorem d_S_reach_9 : decode b_S_reach 9 = .ok (.putfield 19, 3) := by decide +kernel
theorem d_S_reach_12 : decode b_S_reach 12 = .ok (.return_, 1) := by decide +kernel
theorem d_S_resize_0 : decode b_S_resize 0 = .ok (.iload_n 1, 1) := by decide +kernel
theorem d_S_resize_1 : decode b_S_resize 1 = .ok (.aload_n 0, 1) := by decide +kernel
theorem d_S_resize_2 : decode b_S_resize 2 = .ok (.getfield 19, 3) := by decide +kernel
theorem d_S_resize_5 : decode b_S_resize 5 = .ok (.if_icmp .ge 17, 3) := by decide +kernel
theorem d_S_resize_8 : decode b_S_resize 8 = .ok (.aload_n 0, 1) := by decide +kernel
theorem d_S_resize_9 : decode b_S_resize 9 = .ok (.iload_n 1, 1) := by decide +kernel
theorem d_S_resize_10 : decode b_S_resize 10 = .ok (.sipush 4096, 3) := by decide +kernel
theorem d_S_resize_13 : decode b_S_resize 13 = .ok (.iadd, 1) := by decide +kernel
theorem d_S_resize_14 : decode b_S_resize 14 = .ok (.iconst 1, 1) := by decide +kernel
theorem d_S_resize_15 : decode b_S_resize 15 = .ok (.isub, 1) := by decide +kernel
theorem d_S_resize_16 : decode b_S_resize 16 = .ok (.bipush 12, 2) := by decide +kernel
theorem d_S_resize_18 : decode b_S_resize 18 = .ok (.iushr, 1) := by decide +kernel
theorem d_S_resize_19 : decode b_S_resize 19 = .ok (.invokevirtual 28, 3) := by decide +kernel
theorem d_S_resize_22 : decode b_S_resize 22 = .ok (.aload_n 0, 1) := by decide +kernel
theorem d_S_resize_23 : decode b_S_resize 23 = .ok (.iload_n 1, 1) := by decide +kernel
theorem d_S_resize_24 : decode b_S_resize 24 = .ok (.putfield 19, 3) := by decide +kernel
theorem d_S_resize_27 : decode b_S_resize 27 = .ok (.return_, 1) := by decide +kernel
theorem d_S_entryAt_0 : decode b_S_entryAt 0 = .ok (.aload_n 0, 1) := by decide +kernel
theorem d_S_entryAt_1 : decode b_S_entryAt 1 = .ok (.getfield 9, 3) := by decide +kernel
theorem d_S_entryAt_4 : decode b_S_entryAt 4 = .ok (.aload_n 0, 1) := by decide +kernel
theorem d_S_entryAt_5 : decode b_S_entryAt 5 = .ok (.iload_n 1, 1) := by decide +kernel
theorem d_S_entryAt_6 : decode b_S_entryAt 6 = .ok (.bipush 22, 2) := by decide +kernel
theorem d_S_entryAt_8 : decode b_S_entryAt 8 = .ok (.iushr, 1) := by decide +kernel
theorem d_S_entryAt_9 : decode b_S_entryAt 9 = .ok (.invokevirtual 32, 3) := by decide +kernel
theorem d_S_entryAt_12 : decode b_S_entryAt 12 = .ok (.iload_n 1, 1) := by decide +kernel
theorem d_S_entryAt_13 : decode b_S_entryAt 13 = .ok (.invokestatic 56, 3) := by decide +kernel
theorem d_S_entryAt_16 : decode b_S_entryAt 16 = .ok (.invokevirtual 59, 3) := by decide +kernel
theorem d_S_entryAt_19 : decode b_S_entryAt 19 = .ok (.ireturn, 1) := by decide +kernel
theorem d_S_setEntry_0 : decode b_S_setEntry 0 = .ok (.aload_n 0, 1) := by decide +kernel
theorem d_S_setEntry_1 : decode b_S_setEntry 1 = .ok (.getfield 9, 3) := by decide +kernel
theorem d_S_setEntry_4 : decode b_S_setEntry 4 = .ok (.aload_n 0, 1) := by decide +kernel
theorem d_S_setEntry_5 : decode b_S_setEntry 5 = .ok (.iload_n 1, 1) := by decide +kernel
theorem d_S_setEntry_6 : decode b_S_setEntry 6 = .ok (.bipush 22, 2) := by decide +kernel
theorem d_S_setEntry_8 : decode b_S_setEntry 8 = .ok (.iushr, 1) := by decide +kernel
theorem d_S_setEntry_9 : decode b_S_setEntry 9 = .ok (.invokevirtual 32, 3) := by decide +kernel
theorem d_S_setEntry_12 : decode b_S_setEntry 12 = .ok (.iload_n 1, 1) := by decide +kernel
theorem d_S_setEntry_13 : decode b_S_setEntry 13 = .ok (.invokestatic 56, 3) := by decide +kernel
theorem d_S_setEntry_16 : decode b_S_setEntry 16 = .ok (.iload_n 2, 1) := by decide +kernel
theorem d_S_setEntry_17 : decode b_S_setEntry 17 = .ok (.invokevirtual 62, 3) := by decide +kernel
theorem d_S_setEntry_20 : decode b_S_setEntry 20 = .ok (.return_, 1) := by decide +kernel
theorem d_S_addPage_0 : decode b_S_addPage 0 = .ok (.iload_n 1, 1) := by decide +kernel
theorem d_S_addPage_1 : decode b_S_addPage 1 = .ok (.bipush 22, 2) := by decide +kernel
theorem d_S_addPage_3 : decode b_S_addPage 3 = .ok (.iushr, 1) := by decide +kernel
theorem d_S_addPage_4 : decode b_S_addPage 4 = .ok (.istore_n 3, 1) := by decide +kernel
theorem d_S_addPage_5 : decode b_S_addPage 5 = .ok (.aload_n 0, 1) := by decide +kernel
theorem d_S_addPage_6 : decode b_S_addPage 6 = .ok (.iload_n 3, 1) := by decide +kernel
theorem d_S_addPage_7 : decode b_S_addPage 7 = .ok (.invokevirtual 32, 3) := by decide +kernel
theorem d_S_addPage_10 : decode b_S_addPage 10 = .ok (.istore 4, 2) := by decide +kernel
theorem d_S_addPage_12 : decode b_S_addPage 12 = .ok (.aload_n 0, 1) := by decide +kernel
theorem d_S_addPage_13 : decode b_S_addPage 13 = .ok (.getfield 9, 3) := by decide +kernel
theorem d_S_addPage_16 : decode b_S_addPage 16 = .ok (.invokevirtual 66, 3) := by decide +kernel
theorem d_S_addPage_19 : decode b_S_addPage 19 = .ok (.iload 4, 2) := by decide +kernel
theorem d_S_addPage_21 : decode b_S_addPage 21 = .ok (.iconst (-1), 1) := by decide +kernel
theorem d_S_addPage_22 : decode b_S_addPage 22 = .ok (.if_icmp .ne 7, 3) := by decide +kernel
theorem d_S_addPage_25 : decode b_S_addPage 25 = .ok (.iconst 2, 1) := by decide +kernel
theorem d_S_addPage_26 : decode b_S_addPage 26 = .ok (.goto 4, 3) := by decide +kernel
theorem d_S_addPage_29 : decode b_S_addPage 29 = .ok (.iconst 1, 1) := by decide +kernel
theorem d_S_addPage_30 : decode b_S_addPage 30 = .ok (.if_icmp .ge 5, 3) := by decide +kernel
theorem d_S_addPage_33 : decode b_S_addPage 33 = .ok (.iconst (-1), 1) := by decide +kernel
theorem d_S_addPage_34 : decode b_S_addPage 34 = .ok (.ireturn, 1) := by decide +kernel
theorem d_S_addPage_35 : decode b_S_addPage 35 = .ok (.iload 4, 2) := by decide +kernel
theorem d_S_addPage_37 : decode b_S_addPage 37 = .ok (.iconst (-1), 1) := by decide +kernel
theorem d_S_addPage_38 : decode b_S_addPage 38 = .ok (.if_icmp .ne 10, 3) := by decide +kernel
theorem d_S_addPage_41 : decode b_S_addPage 41 = .ok (.aload_n 0, 1) := by decide +kernel
theorem d_S_addPage_42 : decode b_S_addPage 42 = .ok (.iload_n 3, 1) := by decide +kernel
theorem d_S_addPage_43 : decode b_S_addPage 43 = .ok (.invokevirtual 69, 3) := by decide +kernel
theorem d_S_addPage_46 : decode b_S_addPage 46 = .ok (.istore 4, 2) := by decide +kernel
theorem d_S_addPage_48 : decode b_S_addPage 48 = .ok (.aload_n 0, 1) := by decide +kernel
theorem d_S_addPage_49 : decode b_S_addPage 49 = .ok (.getfield 9, 3) := by decide +kernel
theorem d_S_addPage_52 : decode b_S_addPage 52 = .ok (.invokevirtual 22, 3) := by decide +kernel
theorem d_S_addPage_55 : decode b_S_addPage 55 = .ok (.istore 5, 2) := by decide +kernel
theorem d_S_addPage_57 : decode b_S_addPage 57 = .ok (.aload_n 0, 1) := by decide +kernel
theorem d_S_addPage_58 : decode b_S_addPage 58 = .ok (.getfield 9, 3) := by decide +kernel
theorem d_S_addPage_61 : decode b_S_addPage 61 = .ok (.iload 4, 2) := by decide +kernel
theorem d_S_addPage_63 : decode b_S_addPage 63 = .ok (.iload_n 1, 1) := by decide +kernel
theorem d_S_addPage_64 : decode b_S_addPage 64 = .ok (.invokestatic 56, 3) := by decide +kernel
theorem d_S_addPage_67 : decode b_S_addPage 67 = .ok (.iload 5, 2) := by decide +kernel
theorem d_S_addPage_69 : decode b_S_addPage 69 = .ok (.iload_n 2, 1) := by decide +kernel
theorem d_S_addPage_70 : decode b_S_addPage 70 = .ok (.invokestatic 72, 3) := by decide +kernel
theorem d_S_addPage_73 : decode b_S_addPage 73 = .ok (.invokevirtual 62, 3) := by decide +kernel
theorem d_S_addPage_76 : decode b_S_addPage 76 = .ok (.iload 5, 2) := by decide +kernel
theorem d_S_addPage_78 : decode b_S_addPage 78 = .ok (.ireturn, 1) := by decide +kernel
theorem d_S_partPage_0 : decode b_S_partPage 0 = .ok (.aload_n 0, 1) := by decide +kernel
theorem d_S_partPage_1 : decode b_S_partPage 1 = .ok (.getfield 9, 3) := by decide +kernel
theorem d_S_partPage_4 : decode b_S_partPage 4 = .ok (.invokevirtual 22, 3) := by decide +kernel
theorem d_S_partPage_7 : decode b_S_partPage 7 = .ok (.istore_n 2, 1) := by decide +kernel
theorem d_S_partPage_8 : decode b_S_partPage 8 = .ok (.iload_n 2, 1) := by decide +kernel
theorem d_S_partPage_9 : decode b_S_partPage 9 = .ok (.iconst (-1), 1) := by decide +kernel
theorem d_S_partPage_10 : decode b_S_partPage 10 = .ok (.if_icmp .ne 5, 3) := by decide +kernel
theorem d_S_partPage_13 : decode b_S_partPage 13 = .ok (.iconst (-1), 1) := by decide +kernel
theorem d_S_partPage_14 : decode b_S_partPage 14 = .ok (.ireturn, 1) := by decide +kernel
theorem d_S_partPage_15 : decode b_S_partPage 15 = .ok (.aload_n 0, 1) := by decide +kernel
theorem d_S_partPage_16 : decode b_S_partPage 16 = .ok (.iload_n 1, 1) := by decide +kernel
theorem d_S_partPage_17 : decode b_S_partPage 17 = .ok (.invokevirtual 75, 3) := by decide +kernel
theorem d_S_partPage_20 : decode b_S_partPage 20 = .ok (.istore_n 3, 1) := by decide +kernel
theorem d_S_partPage_21 : decode b_S_partPage 21 = .ok (.aload_n 0, 1) := by decide +kernel
theorem d_S_partPage_22 : decode b_S_partPage 22 = .ok (.getfield 9, 3) := by decide +kernel
theorem d_S_partPage_25 : decode b_S_partPage 25 = .ok (.iload_n 3, 1) := by decide +kernel
theorem d_S_partPage_26 : decode b_S_partPage 26 = .ok (.invokestatic 78, 3) := by decide +kernel
theorem d_S_partPage_29 : decode b_S_partPage 29 = .ok (.iload_n 2, 1) := by decide +kernel
theorem d_S_partPage_30 : decode b_S_partPage 30 = .ok (.invokevirtual 81, 3) := by decide +kernel
theorem d_S_partPage_33 : decode b_S_partPage 33 = .ok (.aload_n 0, 1) := by decide +kernel
theorem d_S_partPage_34 : decode b_S_partPage 34 = .ok (.getfield 9, 3) := by decide +kernel
theorem d_S_partPage_37 : decode b_S_partPage 37 = .ok (.iload_n 3, 1) := by decide +kernel
theorem d_S_partPage_38 : decode b_S_partPage 38 = .ok (.invokestatic 78, 3) := by decide +kernel
theorem d_S_partPage_41 : decode b_S_partPage 41 = .ok (.invokevirtual 36, 3) := by decide +kernel
theorem d_S_partPage_44 : decode b_S_partPage 44 = .ok (.aload_n 0, 1) := by decide +kernel
theorem d_S_partPage_45 : decode b_S_partPage 45 = .ok (.iload_n 1, 1) := by decide +kernel
theorem d_S_partPage_46 : decode b_S_partPage 46 = .ok (.iload_n 2, 1) := by decide +kernel
theorem d_S_partPage_47 : decode b_S_partPage 47 = .ok (.iload_n 3, 1) := by decide +kernel
theorem d_S_partPage_48 : decode b_S_partPage 48 = .ok (.invokestatic 85, 3) := by decide +kernel
theorem d_S_partPage_51 : decode b_S_partPage 51 = .ok (.invokestatic 72, 3) := by decide +kernel
theorem d_S_partPage_54 : decode b_S_partPage 54 = .ok (.invokevirtual 88, 3) := by decide +kernel
theorem d_S_partPage_57 : decode b_S_partPage 57 = .ok (.iload_n 2, 1) := by decide +kernel
theorem d_S_partPage_58 : decode b_S_partPage 58 = .ok (.ireturn, 1) := by decide +kernel
theorem d_S_removePagesFrom_0 : decode b_S_removePagesFrom 0 = .ok (.iload_n 1, 1) := by decide +kernel
theorem d_S_removePagesFrom_1 : decode b_S_removePagesFrom 1 = .ok (.sipush 1024, 3) := by decide +kernel
theorem d_S_removePagesFrom_4 : decode b_S_removePagesFrom 4 = .ok (.idiv, 1) := by decide +kernel
theorem d_S_removePagesFrom_5 : decode b_S_removePagesFrom 5 = .ok (.istore_n 2, 1) := by decide +kernel
theorem d_S_removePagesFrom_6 : decode b_S_removePagesFrom 6 = .ok (.iload_n 2, 1) := by decide +kernel
theorem d_S_removePagesFrom_7 : decode b_S_removePagesFrom 7 = .ok (.istore_n 3, 1) := by decide +kernel
theorem d_S_removePagesFrom_8 : decode b_S_removePagesFrom 8 = .ok (.iload_n 3, 1) := by decide +kernel
theorem d_S_removePagesFrom_9 : decode b_S_removePagesFrom 9 = .ok (.sipush 256, 3) := by decide +kernel
theorem d_S_removePagesFrom_12 : decode b_S_removePagesFrom 12 = .ok (.if_icmp .ge 89, 3) := by decide +kernel
theorem d_S_removePagesFrom_15 : decode b_S_removePagesFrom 15 = .ok (.aload_n 0, 1) := by decide +kernel
theorem d_S_removePagesFrom_16 : decode b_S_removePagesFrom 16 = .ok (.iload_n 3, 1) := by decide +kernel
theorem d_S_removePagesFrom_17 : decode b_S_removePagesFrom 17 = .ok (.invokevirtual 32, 3) := by decide +kernel
theorem d_S_removePagesFrom_20 : decode b_S_removePagesFrom 20 = .ok (.istore 4, 2) := by decide +kernel
theorem d_S_removePagesFrom_22 : decode b_S_removePagesFrom 22 = .ok (.iload_n 3, 1) := by decide +kernel
theorem d_S_removePagesFrom_23 : decode b_S_removePagesFrom 23 = .ok (.iload_n 2, 1) := by decide +kernel
theorem d_S_removePagesFrom_24 : decode b_S_removePagesFrom 24 = .ok (.if_icmp .ne 11, 3) := by decide +kernel
theorem d_S_removePagesFrom_27 : decode b_S_removePagesFrom 27 = .ok (.iload_n 1, 1) := by decide +kernel
theorem d_S_removePagesFrom_28 : decode b_S_removePagesFrom 28 = .ok (.sipush 1024, 3) := by decide +kernel
theorem d_S_removePagesFrom_31 : decode b_S_removePagesFrom 31 = .ok (.irem, 1) := by decide +kernel
theorem d_S_removePagesFrom_32 : decode b_S_removePagesFrom 32 = .ok (.goto 4, 3) := by decide +kernel
theorem d_S_removePagesFrom_35 : decode b_S_removePagesFrom 35 = .ok (.iconst 0, 1) := by decide +kernel
theorem d_S_removePagesFrom_36 : decode b_S_removePagesFrom 36 = .ok (.istore 5, 2) := by decide +kernel
theorem d_S_removePagesFrom_38 : decode b_S_removePagesFrom 38 = .ok (.iload 5, 2) := by decide +kernel
theorem d_S_removePagesFrom_40 : decode b_S_removePagesFrom 40 = .ok (.istore 6, 2) := by decide +kernel
theorem d_S_removePagesFrom_42 : decode b_S_removePagesFrom 42 = .ok (.iload 4, 2) := by decide +kernel
theorem d_S_removePagesFrom_44 : decode b_S_removePagesFrom 44 = .ok (.iconst (-1), 1) := by decide +kernel
theorem d_S_removePagesFrom_45 : decode b_S_removePagesFrom 45 = .ok (.if_icmp .eq 50, 3) := by decide +kernel
theorem d_S_removePagesFrom_48 : decode b_S_removePagesFrom 48 = .ok (.iload 6, 2) := by decide +kernel
theorem d_S_removePagesFrom_50 : decode b_S_removePagesFrom 50 = .ok (.sipush 1024, 3) := by decide +kernel
theorem d_S_removePagesFrom_53 : decode b_S_removePagesFrom 53 = .ok (.if_icmp .ge 42, 3) := by decide +kernel
theorem d_S_removePagesFrom_56 : decode b_S_removePagesFrom 56 = .ok (.aload_n 0, 1) := by decide +kernel
theorem d_S_removePagesFrom_57 : decode b_S_removePagesFrom 57 = .ok (.getfield 9, 3) := by decide +kernel
theorem d_S_removePagesFrom_60 : decode b_S_removePagesFrom 60 = .ok (.aload_n 0, 1) := by decide +kernel
theorem d_S_removePagesFrom_61 : decode b_S_removePagesFrom 61 = .ok (.getfield 9, 3) := by decide +kernel
theorem d_S_removePagesFrom_64 : decode b_S_removePagesFrom 64 = .ok (.iload 4, 2) := by decide +kernel
theorem d_S_removePagesFrom_66 : decode b_S_removePagesFrom 66 = .ok (.iload 6, 2) := by decide +kernel
theorem d_S_removePagesFrom_68 : decode b_S_removePagesFrom 68 = .ok (.invokevirtual 59, 3) := by decide +kernel
theorem d_S_removePagesFrom_71 : decode b_S_removePagesFrom 71 = .ok (.invokestatic 78, 3) := by decide +kernel
theorem d_S_removePagesFrom_74 : decode b_S_removePagesFrom 74 = .ok (.invokevirtual 36, 3) := by decide +kernel
theorem d_S_removePagesFrom_77 : decode b_S_removePagesFrom 77 = .ok (.aload_n 0, 1) := by decide +kernel
theorem d_S_removePagesFrom_78 : decode b_S_removePagesFrom 78 = .ok (.getfield 9, 3) := by decide +kernel
theorem d_S_removePagesFrom_81 : decode b_S_removePagesFrom 81 = .ok (.iload 4, 2) := by decide +kernel
theorem d_S_removePagesFrom_83 : decode b_S_removePagesFrom 83 = .ok (.iload 6, 2) := by decide +kernel
theorem d_S_removePagesFrom_85 : decode b_S_removePagesFrom 85 = .ok (.iconst 0, 1) := by decide +kernel
theorem d_S_removePagesFrom_86 : decode b_S_removePagesFrom 86 = .ok (.invokevirtual 62, 3) := by decide +kernel
theorem d_S_removePagesFrom_89 : decode b_S_removePagesFrom 89 = .ok (.iinc 6 1, 3) := by decide +kernel
theorem d_S_removePagesFrom_92 : decode b_S_removePagesFrom 92 = .ok (.goto (-50), 3) := by decide +kernel
theorem d_S_removePagesFrom_95 : decode b_S_removePagesFrom 95 = .ok (.iinc 3 1, 3) := by decide +kernel
theorem d_S_removePagesFrom_98 : decode b_S_removePagesFrom 98 = .ok (.goto (-90), 3) := by decide +kernel
theorem d_S_removePagesFrom_101 : decode b_S_removePagesFrom 101 = .ok (.return_, 1) := by decide +kernel
theorem d_S_shareRegion_0 : decode b_S_shareRegion 0 = .ok (.aload_n 0, 1) := by decide +kernel
theorem d_S_shareRegion_1 : decode b_S_shareRegion 1 = .ok (.iload_n 2, 1) := by decide +kernel
theorem d_S_shareRegion_2 : decode b_S_shareRegion 2 = .ok (.invokevirtual 69, 3) := by decide +kernel
theorem d_S_shareRegion_5 : decode b_S_shareRegion 5 = .ok (.istore_n 3, 1) := by decide +kernel
theorem d_S_shareRegion_6 : decode b_S_shareRegion 6 = .ok (.aload_n 0, 1) := by decide +kernel
theorem d_S_shareRegion_7 : decode b_S_shareRegion 7 = .ok (.getfield 9, 3) := by decide +kernel
theorem d_S_shareRegion_10 : decode b_S_shareRegion 10 = .ok (.aload_n 1, 1) := by decide +kernel
theorem d_S_shareRegion_11 : decode b_S_shareRegion 11 = .ok (.iload_n 2, 1) := by decide +kernel
theorem d_S_shareRegion_12 : decode b_S_shareRegion 12 = .ok (.invokevirtual 32, 3) := by decide +kernel
theorem d_S_shareRegion_15 : decode b_S_shareRegion 15 = .ok (.iload_n 3, 1) := by decide +kernel
theorem d_S_shareRegion_16 : decode b_S_shareRegion 16 = .ok (.invokevirtual 81, 3) := by decide +kernel
theorem d_S_shareRegion_19 : decode b_S_shareRegion 19 = .ok (.iconst 0, 1) := by decide +kernel
theorem d_S_shareRegion_20 : decode b_S_shareRegion 20 = .ok (.istore 4, 2) := by decide +kernel
theorem d_S_shareRegion_22 : decode b_S_shareRegion 22 = .ok (.iload 4, 2) := by decide +kernel
theorem d_S_shareRegion_24 : decode b_S_shareRegion 24 = .ok (.sipush 1024, 3) := by decide +kernel
theorem d_S_shareRegion_27 : decode b_S_shareRegion 27 = .ok (.if_icmp .ge 29, 3) := by decide +kernel
theorem d_S_shareRegion_30 : decode b_S_shareRegion 30 = .ok (.aload_n 0, 1) := by decide +kernel
theorem d_S_shareRegion_31 : decode b_S_shareRegion 31 = .ok (.getfield 9, 3) := by decide +kernel
theorem d_S_shareRegion_34 : decode b_S_shareRegion 34 = .ok (.aload_n 0, 1) := by decide +kernel
theorem d_S_shareRegion_35 : decode b_S_shareRegion 35 = .ok (.getfield 9, 3) := by decide +kernel
theorem d_S_shareRegion_38 : decode b_S_shareRegion 38 = .ok (.iload_n 3, 1) := by decide +kernel
theorem d_S_shareRegion_39 : decode b_S_shareRegion 39 = .ok (.iload 4, 2) := by decide +kernel
theorem d_S_shareRegion_41 : decode b_S_shareRegion 41 = .ok (.invokevirtual 59, 3) := by decide +kernel
theorem d_S_shareRegion_44 : decode b_S_shareRegion 44 = .ok (.invokestatic 78, 3) := by decide +kernel
theorem d_S_shareRegion_47 : decode b_S_shareRegion 47 = .ok (.invokevirtual 91, 3) := by decide +kernel
theorem d_S_shareRegion_50 : decode b_S_shareRegion 50 = .ok (.iinc 4 1, 3) := by decide +kernel
theorem d_S_shareRegion_53 : decode b_S_shareRegion 53 = .ok (.goto (-31), 3) := by decide +kernel
theorem d_S_shareRegion_56 : decode b_S_shareRegion 56 = .ok (.return_, 1) := by decide +kernel
theorem d_S_addTable_0 : decode b_S_addTable 0 = .ok (.aload_n 0, 1) := by decide +kernel
theorem d_S_addTable_1 : decode b_S_addTable 1 = .ok (.getfield 9, 3) := by decide +kernel
theorem d_S_addTable_4 : decode b_S_addTable 4 = .ok (.invokevirtual 22, 3) := by decide +kernel
theorem d_S_addTable_7 : decode b_S_addTable 7 = .ok (.istore_n 2, 1) := by decide +kernel
theorem d_S_addTable_8 : decode b_S_addTable 8 = .ok (.aload_n 0, 1) := by decide +kernel
theorem d_S_addTable_9 : decode b_S_addTable 9 = .ok (.getfield 9, 3) := by decide +kernel
theorem d_S_addTable_12 : decode b_S_addTable 12 = .ok (.aload_n 0, 1) := by decide +kernel
theorem d_S_addTable_13 : decode b_S_addTable 13 = .ok (.getfield 15, 3) := by decide +kernel
theorem d_S_addTable_16 : decode b_S_addTable 16 = .ok (.iload_n 1, 1) := by decide +kernel
theorem d_S_addTable_17 : decode b_S_addTable 17 = .ok (.iload_n 2, 1) := by decide +kernel
theorem d_S_addTable_18 : decode b_S_addTable 18 = .ok (.iconst 0, 1) := by decide +kernel
theorem d_S_addTable_19 : decode b_S_addTable 19 = .ok (.invokestatic 72, 3) := by decide +kernel
theorem d_S_addTable_22 : decode b_S_addTable 22 = .ok (.invokevirtual 62, 3) := by decide +kernel
theorem d_S_addTable_25 : decode b_S_addTable 25 = .ok (.iload_n 2, 1) := by decide +kernel
theorem d_S_addTable_26 : decode b_S_addTable 26 = .ok (.ireturn, 1) := by decide +kernel
theorem d_S_hasPageIn_0 : decode b_S_hasPageIn 0 = .ok (.aload_n 0, 1) := by decide +kernel
theorem d_S_hasPageIn_1 : decode b_S_hasPageIn 1 = .ok (.iload_n 1, 1) := by decide +kernel
theorem d_S_hasPageIn_2 : decode b_S_hasPageIn 2 = .ok (.invokevirtual 32, 3) := by decide +kernel
theorem d_S_hasPageIn_5 : decode b_S_hasPageIn 5 = .ok (.istore_n 2, 1) := by decide +kernel
theorem d_S_hasPageIn_6 : decode b_S_hasPageIn 6 = .ok (.iconst 0, 1) := by decide +kernel
theorem d_S_hasPageIn_7 : decode b_S_hasPageIn 7 = .ok (.istore_n 3, 1) := by decide +kernel
theorem d_S_hasPageIn_8 : decode b_S_hasPageIn 8 = .ok (.iload_n 2, 1) := by decide +kernel
theorem d_S_hasPageIn_9 : decode b_S_hasPageIn 9 = .ok (.iconst (-1), 1) := by decide +kernel
theorem d_S_hasPageIn_10 : decode b_S_hasPageIn 10 = .ok (.if_icmp .eq 30, 3) := by decide +kernel
theorem d_S_hasPageIn_13 : decode b_S_hasPageIn 13 = .ok (.iload_n 3, 1) := by decide +kernel
theorem d_S_hasPageIn_14 : decode b_S_hasPageIn 14 = .ok (.sipush 1024, 3) := by decide +kernel
theorem d_S_hasPageIn_17 : decode b_S_hasPageIn 17 = .ok (.if_icmp .ge 23, 3) := by decide +kernel
theorem d_S_hasPageIn_20 : decode b_S_hasPageIn 20 = .ok (.aload_n 0, 1) := by decide +kernel
theorem d_S_hasPageIn_21 : decode b_S_hasPageIn 21 = .ok (.getfield 9, 3) := by decide +kernel
theorem d_S_hasPageIn_24 : decode b_S_hasPageIn 24 = .ok (.iload_n 2, 1) := by decide +kernel
theorem d_S_hasPageIn_25 : decode b_S_hasPageIn 25 = .ok (.iload_n 3, 1) := by decide +kernel
theorem d_S_hasPageIn_26 : decode b_S_hasPageIn 26 = .ok (.invokevirtual 59, 3) := by decide +kernel
theorem d_S_hasPageIn_29 : decode b_S_hasPageIn 29 = .ok (.ifCond .eq 5, 3) := by decide +kernel
theorem d_S_hasPageIn_32 : decode b_S_hasPageIn 32 = .ok (.iconst 1, 1) := by decide +kernel
theorem d_S_hasPageIn_33 : decode b_S_hasPageIn 33 = .ok (.ireturn, 1) := by decide +kernel
theorem d_S_hasPageIn_34 : decode b_S_hasPageIn 34 = .ok (.iinc 3 1, 3) := by decide +kernel
theorem d_S_hasPageIn_37 : decode b_S_hasPageIn 37 = .ok (.goto (-29), 3) := by decide +kernel
theorem d_S_hasPageIn_40 : decode b_S_hasPageIn 40 = .ok (.iconst 0, 1) := by decide +kernel
theorem d_S_hasPageIn_41 : decode b_S_hasPageIn 41 = .ok (.ireturn, 1) := by decide +kernel
theorem d_S_tableOf_0 : decode b_S_tableOf 0 = .ok (.aload_n 0, 1) := by decide +kernel
theorem d_S_tableOf_1 : decode b_S_tableOf 1 = .ok (.getfield 9, 3) := by decide +kernel
theorem d_S_tableOf_4 : decode b_S_tableOf 4 = .ok (.aload_n 0, 1) := by decide +kernel
theorem d_S_tableOf_5 : decode b_S_tableOf 5 = .ok (.getfield 15, 3) := by decide +kernel
theorem d_S_tableOf_8 : decode b_S_tableOf 8 = .ok (.iload_n 1, 1) := by decide +kernel
theorem d_S_tableOf_9 : decode b_S_tableOf 9 = .ok (.invokevirtual 59, 3) := by decide +kernel
theorem d_S_tableOf_12 : decode b_S_tableOf 12 = .ok (.invokestatic 78, 3) := by decide +kernel
theorem d_S_tableOf_15 : decode b_S_tableOf 15 = .ok (.ireturn, 1) := by decide +kernel
theorem d_S_slotOf_0 : decode b_S_slotOf 0 = .ok (.iload_n 0, 1) := by decide +kernel
theorem d_S_slotOf_1 : decode b_S_slotOf 1 = .ok (.bipush 12, 2) := by decide +kernel
theorem d_S_slotOf_3 : decode b_S_slotOf 3 = .ok (.iushr, 1) := by decide +kernel
theorem d_S_slotOf_4 : decode b_S_slotOf 4 = .ok (.sipush 1023, 3) := by decide +kernel
theorem d_S_slotOf_7 : decode b_S_slotOf 7 = .ok (.iand, 1) := by decide +kernel
theorem d_S_slotOf_8 : decode b_S_slotOf 8 = .ok (.ireturn, 1) := by decide +kernel
theorem d_L_cell_0 : decode b_L_cell 0 = .ok (.iload_n 1, 1) := by decide +kernel
theorem d_L_cell_1 : decode b_L_cell 1 = .ok (.aload_n 0, 1) := by decide +kernel
theorem d_L_cell_2 : decode b_L_cell 2 = .ok (.arraylength, 1) := by decide +kernel
theorem d_L_cell_3 : decode b_L_cell 3 = .ok (.if_icmp .ge 9, 3) := by decide +kernel
theorem d_L_cell_6 : decode b_L_cell 6 = .ok (.aload_n 0, 1) := by decide +kernel
theorem d_L_cell_7 : decode b_L_cell 7 = .ok (.iload_n 1, 1) := by decide +kernel
theorem d_L_cell_8 : decode b_L_cell 8 = .ok (.iaload, 1) := by decide +kernel
theorem d_L_cell_9 : decode b_L_cell 9 = .ok (.goto 4, 3) := by decide +kernel
theorem d_L_cell_12 : decode b_L_cell 12 = .ok (.iconst 0, 1) := by decide +kernel
theorem d_L_cell_13 : decode b_L_cell 13 = .ok (.ireturn, 1) := by decide +kernel
theorem d_A_fill_0 : decode b_A_fill 0 = .ok (.iconst 0, 1) := by decide +kernel
theorem d_A_fill_1 : decode b_A_fill 1 = .ok (.istore_n 2, 1) := by decide +kernel
theorem d_A_fill_2 : decode b_A_fill 2 = .ok (.aload_n 0, 1) := by decide +kernel
theorem d_A_fill_3 : decode b_A_fill 3 = .ok (.arraylength, 1) := by decide +kernel
theorem d_A_fill_4 : decode b_A_fill 4 = .ok (.istore_n 3, 1) := by decide +kernel
theorem d_A_fill_5 : decode b_A_fill 5 = .ok (.iload_n 2, 1) := by decide +kernel
theorem d_A_fill_6 : decode b_A_fill 6 = .ok (.iload_n 3, 1) := by decide +kernel
theorem d_A_fill_7 : decode b_A_fill 7 = .ok (.if_icmp .ge 13, 3) := by decide +kernel
theorem d_A_fill_10 : decode b_A_fill 10 = .ok (.aload_n 0, 1) := by decide +kernel
theorem d_A_fill_11 : decode b_A_fill 11 = .ok (.iload_n 2, 1) := by decide +kernel
theorem d_A_fill_12 : decode b_A_fill 12 = .ok (.iload_n 1, 1) := by decide +kernel
theorem d_A_fill_13 : decode b_A_fill 13 = .ok (.iastore, 1) := by decide +kernel
theorem d_A_fill_14 : decode b_A_fill 14 = .ok (.iinc 2 1, 3) := by decide +kernel
theorem d_A_fill_17 : decode b_A_fill 17 = .ok (.goto (-12), 3) := by decide +kernel
theorem d_A_fill_20 : decode b_A_fill 20 = .ok (.return_, 1) := by decide +kernel
