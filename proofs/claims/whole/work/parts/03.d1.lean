theorem d_V_leastUnused_14 : decode b_V_leastUnused 14 = .ok (.invokevirtual 131, 3) := by decide +kernel
theorem d_V_leastUnused_17 : decode b_V_leastUnused 17 = .ok (.ifCond .ne 5, 3) := by decide +kernel
theorem d_V_leastUnused_20 : decode b_V_leastUnused 20 = .ok (.iload_n 1, 1) := by decide +kernel
theorem d_V_leastUnused_21 : decode b_V_leastUnused 21 = .ok (.ireturn, 1) := by decide +kernel
theorem d_V_leastUnused_22 : decode b_V_leastUnused 22 = .ok (.iinc 1 1, 3) := by decide +kernel
theorem d_V_leastUnused_25 : decode b_V_leastUnused 25 = .ok (.goto (-23), 3) := by decide +kernel
theorem d_V_leastUnused_28 : decode b_V_leastUnused 28 = .ok (.iconst (-1), 1) := by decide +kernel
theorem d_V_leastUnused_29 : decode b_V_leastUnused 29 = .ok (.ireturn, 1) := by decide +kernel
theorem d_V_entryIn_0 : decode b_V_entryIn 0 = .ok (.aload_n 0, 1) := by decide +kernel
theorem d_V_entryIn_1 : decode b_V_entryIn 1 = .ok (.iload_n 1, 1) := by decide +kernel
theorem d_V_entryIn_2 : decode b_V_entryIn 2 = .ok (.invokevirtual 50, 3) := by decide +kernel
theorem d_V_entryIn_5 : decode b_V_entryIn 5 = .ok (.astore_n 3, 1) := by decide +kernel
theorem d_V_entryIn_6 : decode b_V_entryIn 6 = .ok (.aload_n 3, 1) := by decide +kernel
theorem d_V_entryIn_7 : decode b_V_entryIn 7 = .ok (.ifnull 10, 3) := by decide +kernel
theorem d_V_entryIn_10 : decode b_V_entryIn 10 = .ok (.iload_n 2, 1) := by decide +kernel
theorem d_V_entryIn_11 : decode b_V_entryIn 11 = .ok (.invokestatic 135, 3) := by decide +kernel
theorem d_V_entryIn_14 : decode b_V_entryIn 14 = .ok (.ifCond .ne 7, 3) := by decide +kernel
theorem d_V_entryIn_17 : decode b_V_entryIn 17 = .ok (.iconst 0, 1) := by decide +kernel
theorem d_V_entryIn_18 : decode b_V_entryIn 18 = .ok (.goto 8, 3) := by decide +kernel
theorem d_V_entryIn_21 : decode b_V_entryIn 21 = .ok (.aload_n 3, 1) := by decide +kernel
theorem d_V_entryIn_22 : decode b_V_entryIn 22 = .ok (.iload_n 2, 1) := by decide +kernel
theorem d_V_entryIn_23 : decode b_V_entryIn 23 = .ok (.invokevirtual 71, 3) := by decide +kernel
theorem d_V_entryIn_26 : decode b_V_entryIn 26 = .ok (.ireturn, 1) := by decide +kernel
theorem d_V_number_0 : decode b_V_number 0 = .ok (.aload_n 0, 1) := by decide +kernel
theorem d_V_number_1 : decode b_V_number 1 = .ok (.iconst 0, 1) := by decide +kernel
theorem d_V_number_2 : decode b_V_number 2 = .ok (.putfield 103, 3) := by decide +kernel
theorem d_V_number_5 : decode b_V_number 5 = .ok (.iload_n 2, 1) := by decide +kernel
theorem d_V_number_6 : decode b_V_number 6 = .ok (.iload_n 3, 1) := by decide +kernel
theorem d_V_number_7 : decode b_V_number 7 = .ok (.invokestatic 107, 3) := by decide +kernel
theorem d_V_number_10 : decode b_V_number 10 = .ok (.ifCond .ne 11, 3) := by decide +kernel
theorem d_V_number_13 : decode b_V_number 13 = .ok (.aload_n 0, 1) := by decide +kernel
theorem d_V_number_14 : decode b_V_number 14 = .ok (.iconst 2, 1) := by decide +kernel
theorem d_V_number_15 : decode b_V_number 15 = .ok (.invokevirtual 111, 3) := by decide +kernel
theorem d_V_number_18 : decode b_V_number 18 = .ok (.pop, 1) := by decide +kernel
theorem d_V_number_19 : decode b_V_number 19 = .ok (.iconst 0, 1) := by decide +kernel
theorem d_V_number_20 : decode b_V_number 20 = .ok (.ireturn, 1) := by decide +kernel
theorem d_V_number_21 : decode b_V_number 21 = .ok (.aload_n 0, 1) := by decide +kernel
theorem d_V_number_22 : decode b_V_number 22 = .ok (.aload_n 0, 1) := by decide +kernel
theorem d_V_number_23 : decode b_V_number 23 = .ok (.iload_n 1, 1) := by decide +kernel
theorem d_V_number_24 : decode b_V_number 24 = .ok (.invokevirtual 50, 3) := by decide +kernel
theorem d_V_number_27 : decode b_V_number 27 = .ok (.iload_n 2, 1) := by decide +kernel
theorem d_V_number_28 : decode b_V_number 28 = .ok (.iload 4, 2) := by decide +kernel
theorem d_V_number_30 : decode b_V_number 30 = .ok (.invokevirtual 138, 3) := by decide +kernel
theorem d_V_number_33 : decode b_V_number 33 = .ok (.istore 5, 2) := by decide +kernel
theorem d_V_number_35 : decode b_V_number 35 = .ok (.iload 5, 2) := by decide +kernel
theorem d_V_number_37 : decode b_V_number 37 = .ok (.iconst (-1), 1) := by decide +kernel
theorem d_V_number_38 : decode b_V_number 38 = .ok (.if_icmp .ne 7, 3) := by decide +kernel
theorem d_V_number_41 : decode b_V_number 41 = .ok (.iconst 0, 1) := by decide +kernel
theorem d_V_number_42 : decode b_V_number 42 = .ok (.goto 14, 3) := by decide +kernel
theorem d_V_number_45 : decode b_V_number 45 = .ok (.aload_n 0, 1) := by decide +kernel
theorem d_V_number_46 : decode b_V_number 46 = .ok (.getfield 23, 3) := by decide +kernel
theorem d_V_number_49 : decode b_V_number 49 = .ok (.iload 5, 2) := by decide +kernel
theorem d_V_number_51 : decode b_V_number 51 = .ok (.iload_n 2, 1) := by decide +kernel
theorem d_V_number_52 : decode b_V_number 52 = .ok (.iload_n 3, 1) := by decide +kernel
theorem d_V_number_53 : decode b_V_number 53 = .ok (.invokevirtual 142, 3) := by decide +kernel
theorem d_V_number_56 : decode b_V_number 56 = .ok (.ireturn, 1) := by decide +kernel
theorem d_V_readByte_0 : decode b_V_readByte 0 = .ok (.aload_n 0, 1) := by decide +kernel
theorem d_V_readByte_1 : decode b_V_readByte 1 = .ok (.aload_n 1, 1) := by decide +kernel
theorem d_V_readByte_2 : decode b_V_readByte 2 = .ok (.iload_n 2, 1) := by decide +kernel
theorem d_V_readByte_3 : decode b_V_readByte 3 = .ok (.iconst 1, 1) := by decide +kernel
theorem d_V_readByte_4 : decode b_V_readByte 4 = .ok (.invokevirtual 138, 3) := by decide +kernel
theorem d_V_readByte_7 : decode b_V_readByte 7 = .ok (.istore_n 3, 1) := by decide +kernel
theorem d_V_readByte_8 : decode b_V_readByte 8 = .ok (.iload_n 3, 1) := by decide +kernel
theorem d_V_readByte_9 : decode b_V_readByte 9 = .ok (.iconst (-1), 1) := by decide +kernel
theorem d_V_readByte_10 : decode b_V_readByte 10 = .ok (.if_icmp .ne 7, 3) := by decide +kernel
theorem d_V_readByte_13 : decode b_V_readByte 13 = .ok (.iconst (-1), 1) := by decide +kernel
theorem d_V_readByte_14 : decode b_V_readByte 14 = .ok (.goto 13, 3) := by decide +kernel
theorem d_V_readByte_17 : decode b_V_readByte 17 = .ok (.aload_n 0, 1) := by decide +kernel
theorem d_V_readByte_18 : decode b_V_readByte 18 = .ok (.getfield 23, 3) := by decide +kernel
theorem d_V_readByte_21 : decode b_V_readByte 21 = .ok (.iload_n 3, 1) := by decide +kernel
theorem d_V_readByte_22 : decode b_V_readByte 22 = .ok (.iload_n 2, 1) := by decide +kernel
theorem d_V_readByte_23 : decode b_V_readByte 23 = .ok (.iconst 1, 1) := by decide +kernel
theorem d_V_readByte_24 : decode b_V_readByte 24 = .ok (.invokevirtual 142, 3) := by decide +kernel
theorem d_V_readByte_27 : decode b_V_readByte 27 = .ok (.ireturn, 1) := by decide +kernel
theorem d_V_write_0 : decode b_V_write 0 = .ok (.aload_n 0, 1) := by decide +kernel
theorem d_V_write_1 : decode b_V_write 1 = .ok (.aload_n 1, 1) := by decide +kernel
theorem d_V_write_2 : decode b_V_write 2 = .ok (.iload_n 2, 1) := by decide +kernel
theorem d_V_write_3 : decode b_V_write 3 = .ok (.iconst 2, 1) := by decide +kernel
theorem d_V_write_4 : decode b_V_write 4 = .ok (.invokevirtual 138, 3) := by decide +kernel
theorem d_V_write_7 : decode b_V_write 7 = .ok (.istore 5, 2) := by decide +kernel
theorem d_V_write_9 : decode b_V_write 9 = .ok (.iload 5, 2) := by decide +kernel
theorem d_V_write_11 : decode b_V_write 11 = .ok (.iconst (-1), 1) := by decide +kernel
theorem d_V_write_12 : decode b_V_write 12 = .ok (.if_icmp .ne 5, 3) := by decide +kernel
theorem d_V_write_15 : decode b_V_write 15 = .ok (.iconst 0, 1) := by decide +kernel
theorem d_V_write_16 : decode b_V_write 16 = .ok (.ireturn, 1) := by decide +kernel
theorem d_V_write_17 : decode b_V_write 17 = .ok (.aload_n 0, 1) := by decide +kernel
theorem d_V_write_18 : decode b_V_write 18 = .ok (.getfield 23, 3) := by decide +kernel
theorem d_V_write_21 : decode b_V_write 21 = .ok (.iload 5, 2) := by decide +kernel
theorem d_V_write_23 : decode b_V_write 23 = .ok (.iload_n 2, 1) := by decide +kernel
theorem d_V_write_24 : decode b_V_write 24 = .ok (.iload_n 3, 1) := by decide +kernel
theorem d_V_write_25 : decode b_V_write 25 = .ok (.iload 4, 2) := by decide +kernel
theorem d_V_write_27 : decode b_V_write 27 = .ok (.invokevirtual 146, 3) := by decide +kernel
theorem d_V_write_30 : decode b_V_write 30 = .ok (.iconst 1, 1) := by decide +kernel
theorem d_V_write_31 : decode b_V_write 31 = .ok (.ireturn, 1) := by decide +kernel
theorem d_V_touch_0 : decode b_V_touch 0 = .ok (.aload_n 1, 1) := by decide +kernel
theorem d_V_touch_1 : decode b_V_touch 1 = .ok (.ifnull 10, 3) := by decide +kernel
theorem d_V_touch_4 : decode b_V_touch 4 = .ok (.iload_n 2, 1) := by decide +kernel
theorem d_V_touch_5 : decode b_V_touch 5 = .ok (.invokestatic 135, 3) := by decide +kernel
theorem d_V_touch_8 : decode b_V_touch 8 = .ok (.ifCond .ne 9, 3) := by decide +kernel
theorem d_V_touch_11 : decode b_V_touch 11 = .ok (.aload_n 0, 1) := by decide +kernel
theorem d_V_touch_12 : decode b_V_touch 12 = .ok (.iconst 1, 1) := by decide +kernel
theorem d_V_touch_13 : decode b_V_touch 13 = .ok (.invokevirtual 111, 3) := by decide +kernel
theorem d_V_touch_16 : decode b_V_touch 16 = .ok (.ireturn, 1) := by decide +kernel
theorem d_V_touch_17 : decode b_V_touch 17 = .ok (.aload_n 1, 1) := by decide +kernel
theorem d_V_touch_18 : decode b_V_touch 18 = .ok (.iload_n 2, 1) := by decide +kernel
theorem d_V_touch_19 : decode b_V_touch 19 = .ok (.invokevirtual 71, 3) := by decide +kernel
theorem d_V_touch_22 : decode b_V_touch 22 = .ok (.istore 4, 2) := by decide +kernel
theorem d_V_touch_24 : decode b_V_touch 24 = .ok (.iload 4, 2) := by decide +kernel
theorem d_V_touch_26 : decode b_V_touch 26 = .ok (.ifCond .ne 11, 3) := by decide +kernel
theorem d_V_touch_29 : decode b_V_touch 29 = .ok (.aload_n 0, 1) := by decide +kernel
theorem d_V_touch_30 : decode b_V_touch 30 = .ok (.aload_n 1, 1) := by decide +kernel
theorem d_V_touch_31 : decode b_V_touch 31 = .ok (.iload_n 2, 1) := by decide +kernel
theorem d_V_touch_32 : decode b_V_touch 32 = .ok (.iload_n 3, 1) := by decide +kernel
theorem d_V_touch_33 : decode b_V_touch 33 = .ok (.invokevirtual 149, 3) := by decide +kernel
theorem d_V_touch_36 : decode b_V_touch 36 = .ok (.ireturn, 1) := by decide +kernel
theorem d_V_touch_37 : decode b_V_touch 37 = .ok (.iload 4, 2) := by decide +kernel
theorem d_V_touch_39 : decode b_V_touch 39 = .ok (.bipush 8, 2) := by decide +kernel
theorem d_V_touch_41 : decode b_V_touch 41 = .ok (.iand, 1) := by decide +kernel
theorem d_V_touch_42 : decode b_V_touch 42 = .ok (.ifCond .eq 10, 3) := by decide +kernel
theorem d_V_touch_45 : decode b_V_touch 45 = .ok (.iload 4, 2) := by decide +kernel
theorem d_V_touch_47 : decode b_V_touch 47 = .ok (.iload_n 3, 1) := by decide +kernel
theorem d_V_touch_48 : decode b_V_touch 48 = .ok (.iand, 1) := by decide +kernel
theorem d_V_touch_49 : decode b_V_touch 49 = .ok (.ifCond .ne 9, 3) := by decide +kernel
theorem d_V_touch_52 : decode b_V_touch 52 = .ok (.aload_n 0, 1) := by decide +kernel
theorem d_V_touch_53 : decode b_V_touch 53 = .ok (.iconst 1, 1) := by decide +kernel
theorem d_V_touch_54 : decode b_V_touch 54 = .ok (.invokevirtual 111, 3) := by decide +kernel
theorem d_V_touch_57 : decode b_V_touch 57 = .ok (.ireturn, 1) := by decide +kernel
theorem d_V_touch_58 : decode b_V_touch 58 = .ok (.iload 4, 2) := by decide +kernel
theorem d_V_touch_60 : decode b_V_touch 60 = .ok (.invokestatic 81, 3) := by decide +kernel
theorem d_V_touch_63 : decode b_V_touch 63 = .ok (.istore 5, 2) := by decide +kernel
theorem d_V_touch_65 : decode b_V_touch 65 = .ok (.iload_n 3, 1) := by decide +kernel
theorem d_V_touch_66 : decode b_V_touch 66 = .ok (.iconst 2, 1) := by decide +kernel
theorem d_V_touch_67 : decode b_V_touch 67 = .ok (.if_icmp .ne 26, 3) := by decide +kernel
theorem d_V_touch_70 : decode b_V_touch 70 = .ok (.aload_n 0, 1) := by decide +kernel
theorem d_V_touch_71 : decode b_V_touch 71 = .ok (.getfield 23, 3) := by decide +kernel
theorem d_V_touch_74 : decode b_V_touch 74 = .ok (.iload 5, 2) := by decide +kernel
theorem d_V_touch_76 : decode b_V_touch 76 = .ok (.invokevirtual 128, 3) := by decide +kernel
theorem d_V_touch_79 : decode b_V_touch 79 = .ok (.iconst 1, 1) := by decide +kernel
theorem d_V_touch_80 : decode b_V_touch 80 = .ok (.if_icmp .le 13, 3) := by decide +kernel
theorem d_V_touch_83 : decode b_V_touch 83 = .ok (.aload_n 0, 1) := by decide +kernel
theorem d_V_touch_84 : decode b_V_touch 84 = .ok (.aload_n 1, 1) := by decide +kernel
theorem d_V_touch_85 : decode b_V_touch 85 = .ok (.iload_n 2, 1) := by decide +kernel
theorem d_V_touch_86 : decode b_V_touch 86 = .ok (.invokevirtual 152, 3) := by decide +kernel
theorem d_V_touch_89 : decode b_V_touch 89 = .ok (.invokevirtual 155, 3) := by decide +kernel
theorem d_V_touch_92 : decode b_V_touch 92 = .ok (.ireturn, 1) := by decide +kernel
theorem d_V_touch_93 : decode b_V_touch 93 = .ok (.iload 5, 2) := by decide +kernel
theorem d_V_touch_95 : decode b_V_touch 95 = .ok (.ireturn, 1) := by decide +kernel
theorem d_V_touchAbsent_0 : decode b_V_touchAbsent 0 = .ok (.iload_n 2, 1) := by decide +kernel
theorem d_V_touchAbsent_1 : decode b_V_touchAbsent 1 = .ok (.aload_n 1, 1) := by decide +kernel
theorem d_V_touchAbsent_2 : decode b_V_touchAbsent 2 = .ok (.invokevirtual 91, 3) := by decide +kernel
theorem d_V_touchAbsent_5 : decode b_V_touchAbsent 5 = .ok (.if_icmp .ge 8, 3) := by decide +kernel
theorem d_V_touchAbsent_8 : decode b_V_touchAbsent 8 = .ok (.iload_n 3, 1) := by decide +kernel
theorem d_V_touchAbsent_9 : decode b_V_touchAbsent 9 = .ok (.iconst 4, 1) := by decide +kernel
theorem d_V_touchAbsent_10 : decode b_V_touchAbsent 10 = .ok (.if_icmp .ne 9, 3) := by decide +kernel
theorem d_V_touchAbsent_13 : decode b_V_touchAbsent 13 = .ok (.aload_n 0, 1) := by decide +kernel
theorem d_V_touchAbsent_14 : decode b_V_touchAbsent 14 = .ok (.iconst 1, 1) := by decide +kernel
theorem d_V_touchAbsent_15 : decode b_V_touchAbsent 15 = .ok (.invokevirtual 111, 3) := by decide +kernel
theorem d_V_touchAbsent_18 : decode b_V_touchAbsent 18 = .ok (.ireturn, 1) := by decide +kernel
theorem d_V_touchAbsent_19 : decode b_V_touchAbsent 19 = .ok (.aload_n 0, 1) := by decide +kernel
theorem d_V_touchAbsent_20 : decode b_V_touchAbsent 20 = .ok (.aload_n 1, 1) := by decide +kernel
theorem d_V_touchAbsent_21 : decode b_V_touchAbsent 21 = .ok (.iload_n 2, 1) := by decide +kernel
theorem d_V_touchAbsent_22 : decode b_V_touchAbsent 22 = .ok (.bipush 11, 2) := by decide +kernel
theorem d_V_touchAbsent_24 : decode b_V_touchAbsent 24 = .ok (.invokevirtual 75, 3) := by decide +kernel
theorem d_V_touchAbsent_27 : decode b_V_touchAbsent 27 = .ok (.invokevirtual 155, 3) := by decide +kernel
theorem d_V_touchAbsent_30 : decode b_V_touchAbsent 30 = .ok (.ireturn, 1) := by decide +kernel
theorem d_V_frameOrFull_0 : decode b_V_frameOrFull 0 = .ok (.iload_n 1, 1) := by decide +kernel
theorem d_V_frameOrFull_1 : decode b_V_frameOrFull 1 = .ok (.iconst (-1), 1) := by decide +kernel
theorem d_V_frameOrFull_2 : decode b_V_frameOrFull 2 = .ok (.if_icmp .ne 11, 3) := by decide +kernel
theorem d_V_frameOrFull_5 : decode b_V_frameOrFull 5 = .ok (.aload_n 0, 1) := by decide +kernel
theorem d_V_frameOrFull_6 : decode b_V_frameOrFull 6 = .ok (.iconst 3, 1) := by decide +kernel
theorem d_V_frameOrFull_7 : decode b_V_frameOrFull 7 = .ok (.invokevirtual 111, 3) := by decide +kernel
theorem d_V_frameOrFull_10 : decode b_V_frameOrFull 10 = .ok (.goto 4, 3) := by decide +kernel
theorem d_V_frameOrFull_13 : decode b_V_frameOrFull 13 = .ok (.iload_n 1, 1) := by decide +kernel
theorem d_V_frameOrFull_14 : decode b_V_frameOrFull 14 = .ok (.ireturn, 1) := by decide +kernel
theorem d_V_trapped_0 : decode b_V_trapped 0 = .ok (.aload_n 0, 1) := by decide +kernel
theorem d_V_trapped_1 : decode b_V_trapped 1 = .ok (.iload_n 1, 1) := by decide +kernel
theorem d_V_trapped_2 : decode b_V_trapped 2 = .ok (.putfield 103, 3) := by decide +kernel
theorem d_V_trapped_5 : decode b_V_trapped 5 = .ok (.iconst (-1), 1) := by decide +kernel
theorem d_V_trapped_6 : decode b_V_trapped 6 = .ok (.ireturn, 1) := by decide +kernel
theorem d_V_isUsers_0 : decode b_V_isUsers 0 = .ok (.iload_n 0, 1) := by decide +kernel
theorem d_V_isUsers_1 : decode b_V_isUsers 1 = .ok (.ifCond .lt 13, 3) := by decide +kernel
theorem d_V_isUsers_4 : decode b_V_isUsers 4 = .ok (.iload_n 0, 1) := by decide +kernel
theorem d_V_isUsers_5 : decode b_V_isUsers 5 = .ok (.ldc 158, 2) := by decide +kernel
theorem d_V_isUsers_7 : decode b_V_isUsers 7 = .ok (.if_icmp .ge 7, 3) := by decide +kernel
theorem d_V_isUsers_10 : decode b_V_isUsers 10 = .ok (.iconst 1, 1) := by decide +kernel
theorem d_V_isUsers_11 : decode b_V_isUsers 11 = .ok (.goto 4, 3) := by decide +kernel
theorem d_V_isUsers_14 : decode b_V_isUsers 14 = .ok (.iconst 0, 1) := by decide +kernel
theorem d_V_isUsers_15 : decode b_V_isUsers 15 = .ok (.ireturn, 1) := by decide +kernel
theorem d_V_beginsPage_0 : decode b_V_beginsPage 0 = .ok (.iload_n 0, 1) := by decide +kernel
theorem d_V_beginsPage_1 : decode b_V_beginsPage 1 = .ok (.invokestatic 135, 3) := by decide +kernel
theorem d_V_beginsPage_4 : decode b_V_beginsPage 4 = .ok (.ifCond .eq 15, 3) := by decide +kernel
theorem d_V_beginsPage_7 : decode b_V_beginsPage 7 = .ok (.iload_n 0, 1) := by decide +kernel
theorem d_V_beginsPage_8 : decode b_V_beginsPage 8 = .ok (.sipush 4096, 3) := by decide +kernel
theorem d_V_beginsPage_11 : decode b_V_beginsPage 11 = .ok (.irem, 1) := by decide +kernel
theorem d_V_beginsPage_12 : decode b_V_beginsPage 12 = .ok (.ifCond .ne 7, 3) := by decide +kernel
theorem d_V_beginsPage_15 : decode b_V_beginsPage 15 = .ok (.iconst 1, 1) := by decide +kernel
theorem d_V_beginsPage_16 : decode b_V_beginsPage 16 = .ok (.goto 4, 3) := by decide +kernel
theorem d_V_beginsPage_19 : decode b_V_beginsPage 19 = .ok (.iconst 0, 1) := by decide +kernel
theorem d_V_beginsPage_20 : decode b_V_beginsPage 20 = .ok (.ireturn, 1) := by decide +kernel
theorem d_V_areFlags_0 : decode b_V_areFlags 0 = .ok (.iload_n 0, 1) := by decide +kernel
theorem d_V_areFlags_1 : decode b_V_areFlags 1 = .ok (.ifCond .lt 13, 3) := by decide +kernel
theorem d_V_areFlags_4 : decode b_V_areFlags 4 = .ok (.iload_n 0, 1) := by decide +kernel
theorem d_V_areFlags_5 : decode b_V_areFlags 5 = .ok (.bipush 15, 2) := by decide +kernel
theorem d_V_areFlags_7 : decode b_V_areFlags 7 = .ok (.if_icmp .gt 7, 3) := by decide +kernel
theorem d_V_areFlags_10 : decode b_V_areFlags 10 = .ok (.iconst 1, 1) := by decide +kernel
theorem d_V_areFlags_11 : decode b_V_areFlags 11 = .ok (.goto 4, 3) := by decide +kernel
theorem d_V_areFlags_14 : decode b_V_areFlags 14 = .ok (.iconst 0, 1) := by decide +kernel
theorem d_V_areFlags_15 : decode b_V_areFlags 15 = .ok (.ireturn, 1) := by decide +kernel
theorem d_V_isStraight_0 : decode b_V_isStraight 0 = .ok (.iload_n 1, 1) := by decide +kernel
theorem d_V_isStraight_1 : decode b_V_isStraight 1 = .ok (.iconst 1, 1) := by decide +kernel
theorem d_V_isStraight_2 : decode b_V_isStraight 2 = .ok (.if_icmp .eq 13, 3) := by decide +kernel
theorem d_V_isStraight_5 : decode b_V_isStraight 5 = .ok (.iload_n 1, 1) := by decide +kernel
theorem d_V_isStraight_6 : decode b_V_isStraight 6 = .ok (.iconst 2, 1) := by decide +kernel
theorem d_V_isStraight_7 : decode b_V_isStraight 7 = .ok (.if_icmp .eq 8, 3) := by decide +kernel
theorem d_V_isStraight_10 : decode b_V_isStraight 10 = .ok (.iload_n 1, 1) := by decide +kernel
theorem d_V_isStraight_11 : decode b_V_isStraight 11 = .ok (.iconst 4, 1) := by decide +kernel
theorem d_V_isStraight_12 : decode b_V_isStraight 12 = .ok (.if_icmp .ne 13, 3) := by decide +kernel
theorem d_V_isStraight_15 : decode b_V_isStraight 15 = .ok (.iload_n 0, 1) := by decide +kernel
theorem d_V_isStraight_16 : decode b_V_isStraight 16 = .ok (.iload_n 1, 1) := by decide +kernel
theorem d_V_isStraight_17 : decode b_V_isStraight 17 = .ok (.irem, 1) := by decide +kernel
theorem d_V_isStraight_18 : decode b_V_isStraight 18 = .ok (.ifCond .ne 7, 3) := by decide +kernel
theorem d_V_isStraight_21 : decode b_V_isStraight 21 = .ok (.iconst 1, 1) := by decide +kernel
theorem d_V_isStraight_22 : decode b_V_isStraight 22 = .ok (.goto 4, 3) := by decide +kernel
theorem d_V_isStraight_25 : decode b_V_isStraight 25 = .ok (.iconst 0, 1) := by decide +kernel
theorem d_V_isStraight_26 : decode b_V_isStraight 26 = .ok (.ireturn, 1) := by decide +kernel
theorem d_V_entryOf_0 : decode b_V_entryOf 0 = .ok (.iload_n 0, 1) := by decide +kernel
theorem d_V_entryOf_1 : decode b_V_entryOf 1 = .ok (.iconst 1, 1) := by decide +kernel
theorem d_V_entryOf_2 : decode b_V_entryOf 2 = .ok (.iadd, 1) := by decide +kernel
theorem d_V_entryOf_3 : decode b_V_entryOf 3 = .ok (.iconst 4, 1) := by decide +kernel
theorem d_V_entryOf_4 : decode b_V_entryOf 4 = .ok (.ishl, 1) := by decide +kernel
theorem d_V_entryOf_5 : decode b_V_entryOf 5 = .ok (.iload_n 1, 1) := by decide +kernel
theorem d_V_entryOf_6 : decode b_V_entryOf 6 = .ok (.ior, 1) := by decide +kernel
theorem d_V_entryOf_7 : decode b_V_entryOf 7 = .ok (.ireturn, 1) := by decide +kernel
theorem d_V_frameOf_0 : decode b_V_frameOf 0 = .ok (.iload_n 0, 1) := by decide +kernel
theorem d_V_frameOf_1 : decode b_V_frameOf 1 = .ok (.iconst 4, 1) := by decide +kernel
theorem d_V_frameOf_2 : decode b_V_frameOf 2 = .ok (.iushr, 1) := by decide +kernel
theorem d_V_frameOf_3 : decode b_V_frameOf 3 = .ok (.iconst 1, 1) := by decide +kernel
theorem d_V_frameOf_4 : decode b_V_frameOf 4 = .ok (.isub, 1) := by decide +kernel
theorem d_V_frameOf_5 : decode b_V_frameOf 5 = .ok (.ireturn, 1) := by decide +kernel
theorem d_V_flagsOf_0 : decode b_V_flagsOf 0 = .ok (.iload_n 0, 1) := by decide +kernel
theorem d_V_flagsOf_1 : decode b_V_flagsOf 1 = .ok (.bipush 15, 2) := by decide +kernel
theorem d_V_flagsOf_3 : decode b_V_flagsOf 3 = .ok (.iand, 1) := by decide +kernel
theorem d_V_flagsOf_4 : decode b_V_flagsOf 4 = .ok (.ireturn, 1) := by decide +kernel
theorem d_M_init_0 : decode b_M_init 0 = .ok (.aload_n 0, 1) := by decide +kernel
theorem d_M_init_1 : decode b_M_init 1 = .ok (.invokespecial 1, 3) := by decide +kernel
theorem d_M_init_4 : decode b_M_init 4 = .ok (.aload_n 0, 1) := by decide +kernel
theorem d_M_init_5 : decode b_M_init 5 = .ok (.bipush 16, 2) := by decide +kernel
theorem d_M_init_7 : decode b_M_init 7 = .ok (.newarray .boolean, 2) := by decide +kernel
theorem d_M_init_9 : decode b_M_init 9 = .ok (.putfield 7, 3) := by decide +kernel
theorem d_M_init_12 : decode b_M_init 12 = .ok (.aload_n 0, 1) := by decide +kernel
theorem d_M_init_13 : decode b_M_init 13 = .ok (.bipush 16, 2) := by decide +kernel
theorem d_M_init_15 : decode b_M_init 15 = .ok (.newarray .int, 2) := by decide +kernel
theorem d_M_init_17 : decode b_M_init 17 = .ok (.putfield 13, 3) := by decide +kernel
theorem d_M_init_20 : decode b_M_init 20 = .ok (.aload_n 0, 1) := by decide +kernel
theorem d_M_init_21 : decode b_M_init 21 = .ok (.sipush 128, 3) := by decide +kernel
theorem d_M_init_24 : decode b_M_init 24 = .ok (.newarray .int, 2) := by decide +kernel
theorem d_M_init_26 : decode b_M_init 26 = .ok (.putfield 17, 3) := by decide +kernel
theorem d_M_init_29 : decode b_M_init 29 = .ok (.aload_n 0, 1) := by decide +kernel
theorem d_M_init_30 : decode b_M_init 30 = .ok (.sipush 128, 3) := by decide +kernel
theorem d_M_init_33 : decode b_M_init 33 = .ok (.newarray .int, 2) := by decide +kernel
theorem d_M_init_35 : decode b_M_init 35 = .ok (.putfield 20, 3) := by decide +kernel
theorem d_M_init_38 : decode b_M_init 38 = .ok (.aload_n 0, 1) := by decide +kernel
theorem d_M_init_39 : decode b_M_init 39 = .ok (.sipush 128, 3) := by decide +kernel
theorem d_M_init_42 : decode b_M_init 42 = .ok (.newarray .int, 2) := by decide +kernel
theorem d_M_init_44 : decode b_M_init 44 = .ok (.putfield 23, 3) := by decide +kernel
theorem d_M_init_47 : decode b_M_init 47 = .ok (.aload_n 0, 1) := by decide +kernel
theorem d_M_init_48 : decode b_M_init 48 = .ok (.sipush 128, 3) := by decide +kernel
theorem d_M_init_51 : decode b_M_init 51 = .ok (.newarray .int, 2) := by decide +kernel
theorem d_M_init_53 : decode b_M_init 53 = .ok (.putfield 26, 3) := by decide +kernel
theorem d_M_init_56 : decode b_M_init 56 = .ok (.aload_n 0, 1) := by decide +kernel
theorem d_M_init_57 : decode b_M_init 57 = .ok (.bipush 32, 2) := by decide +kernel
theorem d_M_init_59 : decode b_M_init 59 = .ok (.newarray .int, 2) := by decide +kernel
theorem d_M_init_61 : decode b_M_init 61 = .ok (.putfield 29, 3) := by decide +kernel
theorem d_M_init_64 : decode b_M_init 64 = .ok (.aload_n 0, 1) := by decide +kernel
theorem d_M_init_65 : decode b_M_init 65 = .ok (.bipush 32, 2) := by decide +kernel
theorem d_M_init_67 : decode b_M_init 67 = .ok (.newarray .int, 2) := by decide +kernel
theorem d_M_init_69 : decode b_M_init 69 = .ok (.putfield 32, 3) := by decide +kernel
theorem d_M_init_72 : decode b_M_init 72 = .ok (.aload_n 0, 1) := by decide +kernel
theorem d_M_init_73 : decode b_M_init 73 = .ok (.sipush 1536, 3) := by decide +kernel
theorem d_M_init_76 : decode b_M_init 76 = .ok (.newarray .int, 2) := by decide +kernel
theorem d_M_init_78 : decode b_M_init 78 = .ok (.putfield 35, 3) := by decide +kernel
theorem d_M_init_81 : decode b_M_init 81 = .ok (.aload_n 0, 1) := by decide +kernel
theorem d_M_init_82 : decode b_M_init 82 = .ok (.sipush 1536, 3) := by decide +kernel
theorem d_M_init_85 : decode b_M_init 85 = .ok (.newarray .int, 2) := by decide +kernel
theorem d_M_init_87 : decode b_M_init 87 = .ok (.putfield 38, 3) := by decide +kernel
theorem d_M_init_90 : decode b_M_init 90 = .ok (.aload_n 0, 1) := by decide +kernel
theorem d_M_init_91 : decode b_M_init 91 = .ok (.sipush 1536, 3) := by decide +kernel
theorem d_M_init_94 : decode b_M_init 94 = .ok (.newarray .int, 2) := by decide +kernel
theorem d_M_init_96 : decode b_M_init 96 = .ok (.putfield 41, 3) := by decide +kernel
theorem d_M_init_99 : decode b_M_init 99 = .ok (.aload_n 0, 1) := by decide +kernel
theorem d_M_init_100 : decode b_M_init 100 = .ok (.sipush 1536, 3) := by decide +kernel
theorem d_M_init_103 : decode b_M_init 103 = .ok (.newarray .int, 2) := by decide +kernel
theorem d_M_init_105 : decode b_M_init 105 = .ok (.putfield 44, 3) := by decide +kernel
theorem d_M_init_108 : decode b_M_init 108 = .ok (.aload_n 0, 1) := by decide +kernel
theorem d_M_init_109 : decode b_M_init 109 = .ok (.sipush 1536, 3) := by decide +kernel
theorem d_M_init_112 : decode b_M_init 112 = .ok (.newarray .int, 2) := by decide +kernel
theorem d_M_init_114 : decode b_M_init 114 = .ok (.putfield 47, 3) := by decide +kernel
theorem d_M_init_117 : decode b_M_init 117 = .ok (.aload_n 0, 1) := by decide +kernel
theorem d_M_init_118 : decode b_M_init 118 = .ok (.iload_n 1, 1) := by decide +kernel
theorem d_M_init_119 : decode b_M_init 119 = .ok (.bipush 8, 2) := by decide +kernel
theorem d_M_init_121 : decode b_M_init 121 = .ok (.if_icmp .ge 8, 3) := by decide +kernel
theorem d_M_init_124 : decode b_M_init 124 = .ok (.bipush 8, 2) := by decide +kernel
theorem d_M_init_126 : decode b_M_init 126 = .ok (.goto 15, 3) := by decide +kernel
theorem d_M_init_129 : decode b_M_init 129 = .ok (.iload_n 1, 1) := by decide +kernel
theorem d_M_init_130 : decode b_M_init 130 = .ok (.bipush 32, 2) := by decide +kernel
theorem d_M_init_132 : decode b_M_init 132 = .ok (.if_icmp .le 8, 3) := by decide +kernel
theorem d_M_init_135 : decode b_M_init 135 = .ok (.bipush 32, 2) := by decide +kernel
theorem d_M_init_137 : decode b_M_init 137 = .ok (.goto 4, 3) := by decide +kernel
theorem d_M_init_140 : decode b_M_init 140 = .ok (.iload_n 1, 1) := by decide +kernel
theorem d_M_init_141 : decode b_M_init 141 = .ok (.putfield 50, 3) := by decide +kernel
theorem d_M_init_144 : decode b_M_init 144 = .ok (.return_, 1) := by decide +kernel
theorem d_M_note_0 : decode b_M_note 0 = .ok (.aload_n 0, 1) := by decide +kernel
theorem d_M_note_1 : decode b_M_note 1 = .ok (.getfield 35, 3) := by decide +kernel
theorem d_M_note_4 : decode b_M_note 4 = .ok (.aload_n 0, 1) := by decide +kernel
theorem d_M_note_5 : decode b_M_note 5 = .ok (.getfield 54, 3) := by decide +kernel
theorem d_M_note_8 : decode b_M_note 8 = .ok (.iload_n 1, 1) := by decide +kernel
theorem d_M_note_9 : decode b_M_note 9 = .ok (.iastore, 1) := by decide +kernel
theorem d_M_note_10 : decode b_M_note 10 = .ok (.aload_n 0, 1) := by decide +kernel
theorem d_M_note_11 : decode b_M_note 11 = .ok (.getfield 38, 3) := by decide +kernel
theorem d_M_note_14 : decode b_M_note 14 = .ok (.aload_n 0, 1) := by decide +kernel
theorem d_M_note_15 : decode b_M_note 15 = .ok (.getfield 54, 3) := by decide +kernel
theorem d_M_note_18 : decode b_M_note 18 = .ok (.iload_n 2, 1) := by decide +kernel
theorem d_M_note_19 : decode b_M_note 19 = .ok (.iastore, 1) := by decide +kernel
theorem d_M_note_20 : decode b_M_note 20 = .ok (.aload_n 0, 1) := by decide +kernel
theorem d_M_note_21 : decode b_M_note 21 = .ok (.getfield 41, 3) := by decide +kernel
theorem d_M_note_24 : decode b_M_note 24 = .ok (.aload_n 0, 1) := by decide +kernel
theorem d_M_note_25 : decode b_M_note 25 = .ok (.getfield 54, 3) := by decide +kernel
theorem d_M_note_28 : decode b_M_note 28 = .ok (.iload_n 3, 1) := by decide +kernel
theorem d_M_note_29 : decode b_M_note 29 = .ok (.iastore, 1) := by decide +kernel
theorem d_M_note_30 : decode b_M_note 30 = .ok (.aload_n 0, 1) := by decide +kernel
theorem d_M_note_31 : decode b_M_note 31 = .ok (.getfield 44, 3) := by decide +kernel
theorem d_M_note_34 : decode b_M_note 34 = .ok (.aload_n 0, 1) := by decide +kernel
theorem d_M_note_35 : decode b_M_note 35 = .ok (.getfield 54, 3) := by decide +kernel
theorem d_M_note_38 : decode b_M_note 38 = .ok (.iload 4, 2) := by decide +kernel
theorem d_M_note_40 : decode b_M_note 40 = .ok (.iastore, 1) := by decide +kernel
theorem d_M_note_41 : decode b_M_note 41 = .ok (.aload_n 0, 1) := by decide +kernel
theorem d_M_note_42 : decode b_M_note 42 = .ok (.getfield 47, 3) := by decide +kernel
theorem d_M_note_45 : decode b_M_note 45 = .ok (.aload_n 0, 1) := by decide +kernel
theorem d_M_note_46 : decode b_M_note 46 = .ok (.getfield 54, 3) := by decide +kernel
theorem d_M_note_49 : decode b_M_note 49 = .ok (.iload 5, 2) := by decide +kernel
theorem d_M_note_51 : decode b_M_note 51 = .ok (.iastore, 1) := by decide +kernel
theorem d_M_note_52 : decode b_M_note 52 = .ok (.aload_n 0, 1) := by decide +kernel
theorem d_M_note_53 : decode b_M_note 53 = .ok (.dup, 1) := by decide +kernel
theorem d_M_note_54 : decode b_M_note 54 = .ok (.getfield 54, 3) := by decide +kernel
theorem d_M_note_57 : decode b_M_note 57 = .ok (.iconst 1, 1) := by decide +kernel
theorem d_M_note_58 : decode b_M_note 58 = .ok (.iadd, 1) := by decide +kernel
theorem d_M_note_59 : decode b_M_note 59 = .ok (.putfield 54, 3) := by decide +kernel
theorem d_M_note_62 : decode b_M_note 62 = .ok (.return_, 1) := by decide +kernel
theorem d_M_byteOf_0 : decode b_M_byteOf 0 = .ok (.iload_n 1, 1) := by decide +kernel
theorem d_M_byteOf_1 : decode b_M_byteOf 1 = .ok (.istore_n 3, 1) := by decide +kernel
theorem d_M_byteOf_2 : decode b_M_byteOf 2 = .ok (.iload_n 2, 1) := by decide +kernel
theorem d_M_byteOf_3 : decode b_M_byteOf 3 = .ok (.istore 4, 2) := by decide +kernel
theorem d_M_byteOf_5 : decode b_M_byteOf 5 = .ok (.aload_n 0, 1) := by decide +kernel
theorem d_M_byteOf_6 : decode b_M_byteOf 6 = .ok (.getfield 54, 3) := by decide +kernel
theorem d_M_byteOf_9 : decode b_M_byteOf 9 = .ok (.iconst 1, 1) := by decide +kernel
theorem d_M_byteOf_10 : decode b_M_byteOf 10 = .ok (.isub, 1) := by decide +kernel
theorem d_M_byteOf_11 : decode b_M_byteOf 11 = .ok (.istore 5, 2) := by decide +kernel
theorem d_M_byteOf_13 : decode b_M_byteOf 13 = .ok (.iload 5, 2) := by decide +kernel
theorem d_M_byteOf_15 : decode b_M_byteOf 15 = .ok (.ifCond .lt 204, 3) := by decide +kernel
theorem d_M_byteOf_18 : decode b_M_byteOf 18 = .ok (.aload_n 0, 1) := by decide +kernel
theorem d_M_byteOf_19 : decode b_M_byteOf 19 = .ok (.getfield 35, 3) := by decide +kernel
theorem d_M_byteOf_22 : decode b_M_byteOf 22 = .ok (.iload 5, 2) := by decide +kernel
theorem d_M_byteOf_24 : decode b_M_byteOf 24 = .ok (.iaload, 1) := by decide +kernel
theorem d_M_byteOf_25 : decode b_M_byteOf 25 = .ok (.istore 6, 2) := by decide +kernel
theorem d_M_byteOf_27 : decode b_M_byteOf 27 = .ok (.iload 4, 2) := by decide +kernel
theorem d_M_byteOf_29 : decode b_M_byteOf 29 = .ok (.aload_n 0, 1) := by decide +kernel
theorem d_M_byteOf_30 : decode b_M_byteOf 30 = .ok (.getfield 41, 3) := by decide +kernel
theorem d_M_byteOf_33 : decode b_M_byteOf 33 = .ok (.iload 5, 2) := by decide +kernel
theorem d_M_byteOf_35 : decode b_M_byteOf 35 = .ok (.iaload, 1) := by decide +kernel
theorem d_M_byteOf_36 : decode b_M_byteOf 36 = .ok (.isub, 1) := by decide +kernel
theorem d_M_byteOf_37 : decode b_M_byteOf 37 = .ok (.istore 7, 2) := by decide +kernel
theorem d_M_byteOf_39 : decode b_M_byteOf 39 = .ok (.iload 7, 2) := by decide +kernel
theorem d_M_byteOf_41 : decode b_M_byteOf 41 = .ok (.ifCond .lt 19, 3) := by decide +kernel
theorem d_M_byteOf_44 : decode b_M_byteOf 44 = .ok (.iload 7, 2) := by decide +kernel
theorem d_M_byteOf_46 : decode b_M_byteOf 46 = .ok (.aload_n 0, 1) := by decide +kernel
theorem d_M_byteOf_47 : decode b_M_byteOf 47 = .ok (.getfield 44, 3) := by decide +kernel
theorem d_M_byteOf_50 : decode b_M_byteOf 50 = .ok (.iload 5, 2) := by decide +kernel
theorem d_M_byteOf_52 : decode b_M_byteOf 52 = .ok (.iaload, 1) := by decide +kernel
theorem d_M_byteOf_53 : decode b_M_byteOf 53 = .ok (.if_icmp .ge 7, 3) := by decide +kernel
theorem d_M_byteOf_56 : decode b_M_byteOf 56 = .ok (.iconst 1, 1) := by decide +kernel
theorem d_M_byteOf_57 : decode b_M_byteOf 57 = .ok (.goto 4, 3) := by decide +kernel
theorem d_M_byteOf_60 : decode b_M_byteOf 60 = .ok (.iconst 0, 1) := by decide +kernel
theorem d_M_byteOf_61 : decode b_M_byteOf 61 = .ok (.istore 8, 2) := by decide +kernel
theorem d_M_byteOf_63 : decode b_M_byteOf 63 = .ok (.iload_n 3, 1) := by decide +kernel
theorem d_M_byteOf_64 : decode b_M_byteOf 64 = .ok (.iconst (-1), 1) := by decide +kernel
theorem d_M_byteOf_65 : decode b_M_byteOf 65 = .ok (.if_icmp .ne 64, 3) := by decide +kernel
theorem d_M_byteOf_68 : decode b_M_byteOf 68 = .ok (.iload 6, 2) := by decide +kernel
theorem d_M_byteOf_70 : decode b_M_byteOf 70 = .ok (.bipush 6, 2) := by decide +kernel
theorem d_M_byteOf_72 : decode b_M_byteOf 72 = .ok (.if_icmp .ne 16, 3) := by decide +kernel
theorem d_M_byteOf_75 : decode b_M_byteOf 75 = .ok (.iload 8, 2) := by decide +kernel
theorem d_M_byteOf_77 : decode b_M_byteOf 77 = .ok (.ifCond .eq 11, 3) := by decide +kernel
theorem d_M_byteOf_80 : decode b_M_byteOf 80 = .ok (.aload_n 0, 1) := by decide +kernel
theorem d_M_byteOf_81 : decode b_M_byteOf 81 = .ok (.getfield 47, 3) := by decide +kernel
theorem d_M_byteOf_84 : decode b_M_byteOf 84 = .ok (.iload 5, 2) := by decide +kernel
theorem d_M_byteOf_86 : decode b_M_byteOf 86 = .ok (.iaload, 1) := by decide +kernel
theorem d_M_byteOf_87 : decode b_M_byteOf 87 = .ok (.ireturn, 1) := by decide +kernel
theorem d_M_byteOf_88 : decode b_M_byteOf 88 = .ok (.iload 6, 2) := by decide +kernel
theorem d_M_byteOf_90 : decode b_M_byteOf 90 = .ok (.iconst 5, 1) := by decide +kernel
theorem d_M_byteOf_91 : decode b_M_byteOf 91 = .ok (.if_icmp .ne 122, 3) := by decide +kernel
theorem d_M_byteOf_94 : decode b_M_byteOf 94 = .ok (.iload 4, 2) := by decide +kernel
theorem d_M_byteOf_96 : decode b_M_byteOf 96 = .ok (.aload_n 0, 1) := by decide +kernel
theorem d_M_byteOf_97 : decode b_M_byteOf 97 = .ok (.getfield 44, 3) := by decide +kernel
theorem d_M_byteOf_100 : decode b_M_byteOf 100 = .ok (.iload 5, 2) := by decide +kernel
theorem d_M_byteOf_102 : decode b_M_byteOf 102 = .ok (.iaload, 1) := by decide +kernel
theorem d_M_byteOf_103 : decode b_M_byteOf 103 = .ok (.if_icmp .ge 110, 3) := by decide +kernel
theorem d_M_byteOf_106 : decode b_M_byteOf 106 = .ok (.aload_n 0, 1) := by decide +kernel
theorem d_M_byteOf_107 : decode b_M_byteOf 107 = .ok (.getfield 38, 3) := by decide +kernel
theorem d_M_byteOf_110 : decode b_M_byteOf 110 = .ok (.iload 5, 2) := by decide +kernel
theorem d_M_byteOf_112 : decode b_M_byteOf 112 = .ok (.iaload, 1) := by decide +kernel
theorem d_M_byteOf_113 : decode b_M_byteOf 113 = .ok (.istore_n 3, 1) := by decide +kernel
theorem d_M_byteOf_114 : decode b_M_byteOf 114 = .ok (.aload_n 0, 1) := by decide +kernel
theorem d_M_byteOf_115 : decode b_M_byteOf 115 = .ok (.getfield 41, 3) := by decide +kernel
theorem d_M_byteOf_118 : decode b_M_byteOf 118 = .ok (.iload 5, 2) := by decide +kernel
theorem d_M_byteOf_120 : decode b_M_byteOf 120 = .ok (.iaload, 1) := by decide +kernel
theorem d_M_byteOf_121 : decode b_M_byteOf 121 = .ok (.iload 4, 2) := by decide +kernel
theorem d_M_byteOf_123 : decode b_M_byteOf 123 = .ok (.iadd, 1) := by decide +kernel
theorem d_M_byteOf_124 : decode b_M_byteOf 124 = .ok (.istore 4, 2) := by decide +kernel
theorem d_M_byteOf_126 : decode b_M_byteOf 126 = .ok (.goto 87, 3) := by decide +kernel
theorem d_M_byteOf_129 : decode b_M_byteOf 129 = .ok (.aload_n 0, 1) := by decide +kernel
theorem d_M_byteOf_130 : decode b_M_byteOf 130 = .ok (.getfield 38, 3) := by decide +kernel
theorem d_M_byteOf_133 : decode b_M_byteOf 133 = .ok (.iload 5, 2) := by decide +kernel
theorem d_M_byteOf_135 : decode b_M_byteOf 135 = .ok (.iaload, 1) := by decide +kernel
theorem d_M_byteOf_136 : decode b_M_byteOf 136 = .ok (.iload_n 3, 1) := by decide +kernel
theorem d_M_byteOf_137 : decode b_M_byteOf 137 = .ok (.if_icmp .ne 76, 3) := by decide +kernel
theorem d_M_byteOf_140 : decode b_M_byteOf 140 = .ok (.iload 6, 2) := by decide +kernel
theorem d_M_byteOf_142 : decode b_M_byteOf 142 = .ok (.iconst 1, 1) := by decide +kernel
theorem d_M_byteOf_143 : decode b_M_byteOf 143 = .ok (.if_icmp .ne 11, 3) := by decide +kernel
theorem d_M_byteOf_146 : decode b_M_byteOf 146 = .ok (.aload_n 0, 1) := by decide +kernel
theorem d_M_byteOf_147 : decode b_M_byteOf 147 = .ok (.getfield 47, 3) := by decide +kernel
theorem d_M_byteOf_150 : decode b_M_byteOf 150 = .ok (.iload 5, 2) := by decide +kernel
theorem d_M_byteOf_152 : decode b_M_byteOf 152 = .ok (.iaload, 1) := by decide +kernel
theorem d_M_byteOf_153 : decode b_M_byteOf 153 = .ok (.istore_n 3, 1) := by decide +kernel
theorem d_M_byteOf_154 : decode b_M_byteOf 154 = .ok (.iload 6, 2) := by decide +kernel
theorem d_M_byteOf_156 : decode b_M_byteOf 156 = .ok (.iconst 2, 1) := by decide +kernel
theorem d_M_byteOf_157 : decode b_M_byteOf 157 = .ok (.if_icmp .ne 10, 3) := by decide +kernel
theorem d_M_byteOf_160 : decode b_M_byteOf 160 = .ok (.iload 8, 2) := by decide +kernel
theorem d_M_byteOf_162 : decode b_M_byteOf 162 = .ok (.ifCond .eq 5, 3) := by decide +kernel
theorem d_M_byteOf_165 : decode b_M_byteOf 165 = .ok (.iconst 0, 1) := by decide +kernel
theorem d_M_byteOf_166 : decode b_M_byteOf 166 = .ok (.ireturn, 1) := by decide +kernel
theorem d_M_byteOf_167 : decode b_M_byteOf 167 = .ok (.iload 6, 2) := by decide +kernel
theorem d_M_byteOf_169 : decode b_M_byteOf 169 = .ok (.iconst 3, 1) := by decide +kernel
theorem d_M_byteOf_170 : decode b_M_byteOf 170 = .ok (.if_icmp .ne 26, 3) := by decide +kernel
theorem d_M_byteOf_173 : decode b_M_byteOf 173 = .ok (.iload 8, 2) := by decide +kernel
theorem d_M_byteOf_175 : decode b_M_byteOf 175 = .ok (.ifCond .eq 21, 3) := by decide +kernel
theorem d_M_byteOf_178 : decode b_M_byteOf 178 = .ok (.aload_n 0, 1) := by decide +kernel
theorem d_M_byteOf_179 : decode b_M_byteOf 179 = .ok (.getfield 47, 3) := by decide +kernel
theorem d_M_byteOf_182 : decode b_M_byteOf 182 = .ok (.iload 5, 2) := by decide +kernel
theorem d_M_byteOf_184 : decode b_M_byteOf 184 = .ok (.iaload, 1) := by decide +kernel
theorem d_M_byteOf_185 : decode b_M_byteOf 185 = .ok (.bipush 8, 2) := by decide +kernel
theorem d_M_byteOf_187 : decode b_M_byteOf 187 = .ok (.iload 7, 2) := by decide +kernel
