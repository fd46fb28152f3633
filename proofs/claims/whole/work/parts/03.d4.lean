theorem d_M_fetch_12 : decode b_M_fetch 12 = .ok (.iload_n 1, 1) := by decide +kernel
theorem d_M_fetch_13 : decode b_M_fetch 13 = .ok (.iload_n 2, 1) := by decide +kernel
theorem d_M_fetch_14 : decode b_M_fetch 14 = .ok (.iconst 4, 1) := by decide +kernel
theorem d_M_fetch_15 : decode b_M_fetch 15 = .ok (.invokevirtual 135, 3) := by decide +kernel
theorem d_M_fetch_18 : decode b_M_fetch 18 = .ok (.goto 4, 3) := by decide +kernel
theorem d_M_fetch_21 : decode b_M_fetch 21 = .ok (.iconst 0, 1) := by decide +kernel
theorem d_M_fetch_22 : decode b_M_fetch 22 = .ok (.ireturn, 1) := by decide +kernel
theorem d_M_store_0 : decode b_M_store 0 = .ok (.aload_n 0, 1) := by decide +kernel
theorem d_M_store_1 : decode b_M_store 1 = .ok (.iload_n 1, 1) := by decide +kernel
theorem d_M_store_2 : decode b_M_store 2 = .ok (.iload_n 2, 1) := by decide +kernel
theorem d_M_store_3 : decode b_M_store 3 = .ok (.iload_n 3, 1) := by decide +kernel
theorem d_M_store_4 : decode b_M_store 4 = .ok (.iconst 2, 1) := by decide +kernel
theorem d_M_store_5 : decode b_M_store 5 = .ok (.invokevirtual 131, 3) := by decide +kernel
theorem d_M_store_8 : decode b_M_store 8 = .ok (.ifCond .ne 5, 3) := by decide +kernel
theorem d_M_store_11 : decode b_M_store 11 = .ok (.iconst 0, 1) := by decide +kernel
theorem d_M_store_12 : decode b_M_store 12 = .ok (.ireturn, 1) := by decide +kernel
theorem d_M_store_13 : decode b_M_store 13 = .ok (.aload_n 0, 1) := by decide +kernel
theorem d_M_store_14 : decode b_M_store 14 = .ok (.iconst 3, 1) := by decide +kernel
theorem d_M_store_15 : decode b_M_store 15 = .ok (.iload_n 1, 1) := by decide +kernel
theorem d_M_store_16 : decode b_M_store 16 = .ok (.iload_n 2, 1) := by decide +kernel
theorem d_M_store_17 : decode b_M_store 17 = .ok (.iload_n 3, 1) := by decide +kernel
theorem d_M_store_18 : decode b_M_store 18 = .ok (.iload 4, 2) := by decide +kernel
theorem d_M_store_20 : decode b_M_store 20 = .ok (.invokevirtual 82, 3) := by decide +kernel
theorem d_M_store_23 : decode b_M_store 23 = .ok (.iconst 1, 1) := by decide +kernel
theorem d_M_store_24 : decode b_M_store 24 = .ok (.ireturn, 1) := by decide +kernel
theorem d_M_trap_0 : decode b_M_trap 0 = .ok (.aload_n 0, 1) := by decide +kernel
theorem d_M_trap_1 : decode b_M_trap 1 = .ok (.getfield 102, 3) := by decide +kernel
theorem d_M_trap_4 : decode b_M_trap 4 = .ok (.ireturn, 1) := by decide +kernel
theorem d_M_out_0 : decode b_M_out 0 = .ok (.aload_n 0, 1) := by decide +kernel
theorem d_M_out_1 : decode b_M_out 1 = .ok (.iconst 0, 1) := by decide +kernel
theorem d_M_out_2 : decode b_M_out 2 = .ok (.putfield 102, 3) := by decide +kernel
theorem d_M_out_5 : decode b_M_out 5 = .ok (.iload_n 3, 1) := by decide +kernel
theorem d_M_out_6 : decode b_M_out 6 = .ok (.ifCond .lt 10, 3) := by decide +kernel
theorem d_M_out_9 : decode b_M_out 9 = .ok (.iload_n 3, 1) := by decide +kernel
theorem d_M_out_10 : decode b_M_out 10 = .ok (.sipush 512, 3) := by decide +kernel
theorem d_M_out_13 : decode b_M_out 13 = .ok (.if_icmp .le 5, 3) := by decide +kernel
theorem d_M_out_16 : decode b_M_out 16 = .ok (.iconst (-1), 1) := by decide +kernel
theorem d_M_out_17 : decode b_M_out 17 = .ok (.ireturn, 1) := by decide +kernel
theorem d_M_out_18 : decode b_M_out 18 = .ok (.aload_n 0, 1) := by decide +kernel
theorem d_M_out_19 : decode b_M_out 19 = .ok (.iload_n 1, 1) := by decide +kernel
theorem d_M_out_20 : decode b_M_out 20 = .ok (.iload_n 2, 1) := by decide +kernel
theorem d_M_out_21 : decode b_M_out 21 = .ok (.iload_n 3, 1) := by decide +kernel
theorem d_M_out_22 : decode b_M_out 22 = .ok (.iconst 2, 1) := by decide +kernel
theorem d_M_out_23 : decode b_M_out 23 = .ok (.invokevirtual 138, 3) := by decide +kernel
theorem d_M_out_26 : decode b_M_out 26 = .ok (.istore 4, 2) := by decide +kernel
theorem d_M_out_28 : decode b_M_out 28 = .ok (.iload 4, 2) := by decide +kernel
theorem d_M_out_30 : decode b_M_out 30 = .ok (.ifCond .le 13, 3) := by decide +kernel
theorem d_M_out_33 : decode b_M_out 33 = .ok (.aload_n 0, 1) := by decide +kernel
theorem d_M_out_34 : decode b_M_out 34 = .ok (.iconst 4, 1) := by decide +kernel
theorem d_M_out_35 : decode b_M_out 35 = .ok (.iload_n 1, 1) := by decide +kernel
theorem d_M_out_36 : decode b_M_out 36 = .ok (.iload_n 2, 1) := by decide +kernel
theorem d_M_out_37 : decode b_M_out 37 = .ok (.iload 4, 2) := by decide +kernel
theorem d_M_out_39 : decode b_M_out 39 = .ok (.iconst 0, 1) := by decide +kernel
theorem d_M_out_40 : decode b_M_out 40 = .ok (.invokevirtual 82, 3) := by decide +kernel
theorem d_M_out_43 : decode b_M_out 43 = .ok (.iload 4, 2) := by decide +kernel
theorem d_M_out_45 : decode b_M_out 45 = .ok (.ireturn, 1) := by decide +kernel
theorem d_M_in_0 : decode b_M_in 0 = .ok (.aload_n 0, 1) := by decide +kernel
theorem d_M_in_1 : decode b_M_in 1 = .ok (.iconst 0, 1) := by decide +kernel
theorem d_M_in_2 : decode b_M_in 2 = .ok (.putfield 102, 3) := by decide +kernel
theorem d_M_in_5 : decode b_M_in 5 = .ok (.iload_n 3, 1) := by decide +kernel
theorem d_M_in_6 : decode b_M_in 6 = .ok (.ifCond .lt 10, 3) := by decide +kernel
theorem d_M_in_9 : decode b_M_in 9 = .ok (.iload_n 3, 1) := by decide +kernel
theorem d_M_in_10 : decode b_M_in 10 = .ok (.sipush 512, 3) := by decide +kernel
theorem d_M_in_13 : decode b_M_in 13 = .ok (.if_icmp .le 5, 3) := by decide +kernel
theorem d_M_in_16 : decode b_M_in 16 = .ok (.iconst (-1), 1) := by decide +kernel
theorem d_M_in_17 : decode b_M_in 17 = .ok (.ireturn, 1) := by decide +kernel
theorem d_M_in_18 : decode b_M_in 18 = .ok (.aload_n 0, 1) := by decide +kernel
theorem d_M_in_19 : decode b_M_in 19 = .ok (.iload_n 1, 1) := by decide +kernel
theorem d_M_in_20 : decode b_M_in 20 = .ok (.iload_n 2, 1) := by decide +kernel
theorem d_M_in_21 : decode b_M_in 21 = .ok (.iload_n 3, 1) := by decide +kernel
theorem d_M_in_22 : decode b_M_in 22 = .ok (.iconst 1, 1) := by decide +kernel
theorem d_M_in_23 : decode b_M_in 23 = .ok (.invokevirtual 138, 3) := by decide +kernel
theorem d_M_in_26 : decode b_M_in 26 = .ok (.istore 4, 2) := by decide +kernel
theorem d_M_in_28 : decode b_M_in 28 = .ok (.aload_n 0, 1) := by decide +kernel
theorem d_M_in_29 : decode b_M_in 29 = .ok (.iload_n 1, 1) := by decide +kernel
theorem d_M_in_30 : decode b_M_in 30 = .ok (.iload_n 2, 1) := by decide +kernel
theorem d_M_in_31 : decode b_M_in 31 = .ok (.iload 4, 2) := by decide +kernel
theorem d_M_in_33 : decode b_M_in 33 = .ok (.invokevirtual 142, 3) := by decide +kernel
theorem d_M_in_36 : decode b_M_in 36 = .ok (.iload 4, 2) := by decide +kernel
theorem d_M_in_38 : decode b_M_in 38 = .ok (.ireturn, 1) := by decide +kernel
theorem d_M_text_0 : decode b_M_text 0 = .ok (.aload_n 0, 1) := by decide +kernel
theorem d_M_text_1 : decode b_M_text 1 = .ok (.iconst 0, 1) := by decide +kernel
theorem d_M_text_2 : decode b_M_text 2 = .ok (.putfield 102, 3) := by decide +kernel
theorem d_M_text_5 : decode b_M_text 5 = .ok (.iload_n 3, 1) := by decide +kernel
theorem d_M_text_6 : decode b_M_text 6 = .ok (.iconst 1, 1) := by decide +kernel
theorem d_M_text_7 : decode b_M_text 7 = .ok (.if_icmp .lt 10, 3) := by decide +kernel
theorem d_M_text_10 : decode b_M_text 10 = .ok (.iload_n 3, 1) := by decide +kernel
theorem d_M_text_11 : decode b_M_text 11 = .ok (.sipush 512, 3) := by decide +kernel
theorem d_M_text_14 : decode b_M_text 14 = .ok (.if_icmp .le 5, 3) := by decide +kernel
theorem d_M_text_17 : decode b_M_text 17 = .ok (.iconst (-1), 1) := by decide +kernel
theorem d_M_text_18 : decode b_M_text 18 = .ok (.ireturn, 1) := by decide +kernel
theorem d_M_text_19 : decode b_M_text 19 = .ok (.iconst 0, 1) := by decide +kernel
theorem d_M_text_20 : decode b_M_text 20 = .ok (.istore 4, 2) := by decide +kernel
theorem d_M_text_22 : decode b_M_text 22 = .ok (.iload 4, 2) := by decide +kernel
theorem d_M_text_24 : decode b_M_text 24 = .ok (.iload_n 3, 1) := by decide +kernel
theorem d_M_text_25 : decode b_M_text 25 = .ok (.if_icmp .ge 77, 3) := by decide +kernel
theorem d_M_text_28 : decode b_M_text 28 = .ok (.aload_n 0, 1) := by decide +kernel
theorem d_M_text_29 : decode b_M_text 29 = .ok (.aload_n 0, 1) := by decide +kernel
theorem d_M_text_30 : decode b_M_text 30 = .ok (.iload_n 1, 1) := by decide +kernel
theorem d_M_text_31 : decode b_M_text 31 = .ok (.invokevirtual 105, 3) := by decide +kernel
theorem d_M_text_34 : decode b_M_text 34 = .ok (.ifCond .eq 16, 3) := by decide +kernel
theorem d_M_text_37 : decode b_M_text 37 = .ok (.aload_n 0, 1) := by decide +kernel
theorem d_M_text_38 : decode b_M_text 38 = .ok (.iload_n 1, 1) := by decide +kernel
theorem d_M_text_39 : decode b_M_text 39 = .ok (.iload_n 2, 1) := by decide +kernel
theorem d_M_text_40 : decode b_M_text 40 = .ok (.iload 4, 2) := by decide +kernel
theorem d_M_text_42 : decode b_M_text 42 = .ok (.iadd, 1) := by decide +kernel
theorem d_M_text_43 : decode b_M_text 43 = .ok (.iconst 1, 1) := by decide +kernel
theorem d_M_text_44 : decode b_M_text 44 = .ok (.invokevirtual 108, 3) := by decide +kernel
theorem d_M_text_47 : decode b_M_text 47 = .ok (.goto 4, 3) := by decide +kernel
theorem d_M_text_50 : decode b_M_text 50 = .ok (.iconst 1, 1) := by decide +kernel
theorem d_M_text_51 : decode b_M_text 51 = .ok (.putfield 102, 3) := by decide +kernel
theorem d_M_text_54 : decode b_M_text 54 = .ok (.aload_n 0, 1) := by decide +kernel
theorem d_M_text_55 : decode b_M_text 55 = .ok (.getfield 102, 3) := by decide +kernel
theorem d_M_text_58 : decode b_M_text 58 = .ok (.ifCond .eq 13, 3) := by decide +kernel
theorem d_M_text_61 : decode b_M_text 61 = .ok (.aload_n 0, 1) := by decide +kernel
theorem d_M_text_62 : decode b_M_text 62 = .ok (.iload_n 1, 1) := by decide +kernel
theorem d_M_text_63 : decode b_M_text 63 = .ok (.iload_n 2, 1) := by decide +kernel
theorem d_M_text_64 : decode b_M_text 64 = .ok (.iload 4, 2) := by decide +kernel
theorem d_M_text_66 : decode b_M_text 66 = .ok (.invokevirtual 142, 3) := by decide +kernel
theorem d_M_text_69 : decode b_M_text 69 = .ok (.iconst (-1), 1) := by decide +kernel
theorem d_M_text_70 : decode b_M_text 70 = .ok (.ireturn, 1) := by decide +kernel
theorem d_M_text_71 : decode b_M_text 71 = .ok (.aload_n 0, 1) := by decide +kernel
theorem d_M_text_72 : decode b_M_text 72 = .ok (.iload_n 1, 1) := by decide +kernel
theorem d_M_text_73 : decode b_M_text 73 = .ok (.iload_n 2, 1) := by decide +kernel
theorem d_M_text_74 : decode b_M_text 74 = .ok (.iload 4, 2) := by decide +kernel
theorem d_M_text_76 : decode b_M_text 76 = .ok (.iadd, 1) := by decide +kernel
theorem d_M_text_77 : decode b_M_text 77 = .ok (.invokevirtual 112, 3) := by decide +kernel
theorem d_M_text_80 : decode b_M_text 80 = .ok (.ifCond .ne 16, 3) := by decide +kernel
theorem d_M_text_83 : decode b_M_text 83 = .ok (.aload_n 0, 1) := by decide +kernel
theorem d_M_text_84 : decode b_M_text 84 = .ok (.iload_n 1, 1) := by decide +kernel
theorem d_M_text_85 : decode b_M_text 85 = .ok (.iload_n 2, 1) := by decide +kernel
theorem d_M_text_86 : decode b_M_text 86 = .ok (.iload 4, 2) := by decide +kernel
theorem d_M_text_88 : decode b_M_text 88 = .ok (.iconst 1, 1) := by decide +kernel
theorem d_M_text_89 : decode b_M_text 89 = .ok (.iadd, 1) := by decide +kernel
theorem d_M_text_90 : decode b_M_text 90 = .ok (.invokevirtual 142, 3) := by decide +kernel
theorem d_M_text_93 : decode b_M_text 93 = .ok (.iload 4, 2) := by decide +kernel
theorem d_M_text_95 : decode b_M_text 95 = .ok (.ireturn, 1) := by decide +kernel
theorem d_M_text_96 : decode b_M_text 96 = .ok (.iinc 4 1, 3) := by decide +kernel
theorem d_M_text_99 : decode b_M_text 99 = .ok (.goto (-77), 3) := by decide +kernel
theorem d_M_text_102 : decode b_M_text 102 = .ok (.aload_n 0, 1) := by decide +kernel
theorem d_M_text_103 : decode b_M_text 103 = .ok (.iload_n 1, 1) := by decide +kernel
theorem d_M_text_104 : decode b_M_text 104 = .ok (.iload_n 2, 1) := by decide +kernel
theorem d_M_text_105 : decode b_M_text 105 = .ok (.iload_n 3, 1) := by decide +kernel
theorem d_M_text_106 : decode b_M_text 106 = .ok (.invokevirtual 142, 3) := by decide +kernel
theorem d_M_text_109 : decode b_M_text 109 = .ok (.iconst (-1), 1) := by decide +kernel
theorem d_M_text_110 : decode b_M_text 110 = .ok (.ireturn, 1) := by decide +kernel
theorem d_M_put_0 : decode b_M_put 0 = .ok (.iload_n 1, 1) := by decide +kernel
theorem d_M_put_1 : decode b_M_put 1 = .ok (.ifCond .lt 21, 3) := by decide +kernel
theorem d_M_put_4 : decode b_M_put 4 = .ok (.iload_n 1, 1) := by decide +kernel
theorem d_M_put_5 : decode b_M_put 5 = .ok (.sipush 511, 3) := by decide +kernel
theorem d_M_put_8 : decode b_M_put 8 = .ok (.if_icmp .gt 14, 3) := by decide +kernel
theorem d_M_put_11 : decode b_M_put 11 = .ok (.iload_n 2, 1) := by decide +kernel
theorem d_M_put_12 : decode b_M_put 12 = .ok (.ifCond .lt 10, 3) := by decide +kernel
theorem d_M_put_15 : decode b_M_put 15 = .ok (.iload_n 2, 1) := by decide +kernel
theorem d_M_put_16 : decode b_M_put 16 = .ok (.sipush 255, 3) := by decide +kernel
theorem d_M_put_19 : decode b_M_put 19 = .ok (.if_icmp .le 5, 3) := by decide +kernel
theorem d_M_put_22 : decode b_M_put 22 = .ok (.iconst 0, 1) := by decide +kernel
theorem d_M_put_23 : decode b_M_put 23 = .ok (.ireturn, 1) := by decide +kernel
theorem d_M_put_24 : decode b_M_put 24 = .ok (.aload_n 0, 1) := by decide +kernel
theorem d_M_put_25 : decode b_M_put 25 = .ok (.bipush 6, 2) := by decide +kernel
theorem d_M_put_27 : decode b_M_put 27 = .ok (.iconst (-1), 1) := by decide +kernel
theorem d_M_put_28 : decode b_M_put 28 = .ok (.iload_n 1, 1) := by decide +kernel
theorem d_M_put_29 : decode b_M_put 29 = .ok (.iconst 1, 1) := by decide +kernel
theorem d_M_put_30 : decode b_M_put 30 = .ok (.iload_n 2, 1) := by decide +kernel
theorem d_M_put_31 : decode b_M_put 31 = .ok (.invokevirtual 82, 3) := by decide +kernel
theorem d_M_put_34 : decode b_M_put 34 = .ok (.iconst 1, 1) := by decide +kernel
theorem d_M_put_35 : decode b_M_put 35 = .ok (.ireturn, 1) := by decide +kernel
theorem d_M_at_0 : decode b_M_at 0 = .ok (.iload_n 1, 1) := by decide +kernel
theorem d_M_at_1 : decode b_M_at 1 = .ok (.ifCond .lt 10, 3) := by decide +kernel
theorem d_M_at_4 : decode b_M_at 4 = .ok (.iload_n 1, 1) := by decide +kernel
theorem d_M_at_5 : decode b_M_at 5 = .ok (.sipush 511, 3) := by decide +kernel
theorem d_M_at_8 : decode b_M_at 8 = .ok (.if_icmp .le 7, 3) := by decide +kernel
theorem d_M_at_11 : decode b_M_at 11 = .ok (.iconst (-1), 1) := by decide +kernel
theorem d_M_at_12 : decode b_M_at 12 = .ok (.goto 9, 3) := by decide +kernel
theorem d_M_at_15 : decode b_M_at 15 = .ok (.aload_n 0, 1) := by decide +kernel
theorem d_M_at_16 : decode b_M_at 16 = .ok (.iconst (-1), 1) := by decide +kernel
theorem d_M_at_17 : decode b_M_at 17 = .ok (.iload_n 1, 1) := by decide +kernel
theorem d_M_at_18 : decode b_M_at 18 = .ok (.invokevirtual 112, 3) := by decide +kernel
theorem d_M_at_21 : decode b_M_at 21 = .ok (.ireturn, 1) := by decide +kernel
theorem d_M_free_0 : decode b_M_free 0 = .ok (.aload_n 0, 1) := by decide +kernel
theorem d_M_free_1 : decode b_M_free 1 = .ok (.invokevirtual 67, 3) := by decide +kernel
theorem d_M_free_4 : decode b_M_free 4 = .ok (.ireturn, 1) := by decide +kernel
theorem d_M_flags_0 : decode b_M_flags 0 = .ok (.aload_n 0, 1) := by decide +kernel
theorem d_M_flags_1 : decode b_M_flags 1 = .ok (.iload_n 1, 1) := by decide +kernel
theorem d_M_flags_2 : decode b_M_flags 2 = .ok (.iload_n 2, 1) := by decide +kernel
theorem d_M_flags_3 : decode b_M_flags 3 = .ok (.invokevirtual 87, 3) := by decide +kernel
theorem d_M_flags_6 : decode b_M_flags 6 = .ok (.istore_n 3, 1) := by decide +kernel
theorem d_M_flags_7 : decode b_M_flags 7 = .ok (.iload_n 3, 1) := by decide +kernel
theorem d_M_flags_8 : decode b_M_flags 8 = .ok (.iconst (-1), 1) := by decide +kernel
theorem d_M_flags_9 : decode b_M_flags 9 = .ok (.if_icmp .ne 7, 3) := by decide +kernel
theorem d_M_flags_12 : decode b_M_flags 12 = .ok (.iconst (-1), 1) := by decide +kernel
theorem d_M_flags_13 : decode b_M_flags 13 = .ok (.goto 9, 3) := by decide +kernel
theorem d_M_flags_16 : decode b_M_flags 16 = .ok (.aload_n 0, 1) := by decide +kernel
theorem d_M_flags_17 : decode b_M_flags 17 = .ok (.getfield 23, 3) := by decide +kernel
theorem d_M_flags_20 : decode b_M_flags 20 = .ok (.iload_n 3, 1) := by decide +kernel
theorem d_M_flags_21 : decode b_M_flags 21 = .ok (.iaload, 1) := by decide +kernel
theorem d_M_flags_22 : decode b_M_flags 22 = .ok (.ireturn, 1) := by decide +kernel
theorem d_M_owners_0 : decode b_M_owners 0 = .ok (.aload_n 0, 1) := by decide +kernel
theorem d_M_owners_1 : decode b_M_owners 1 = .ok (.iload_n 1, 1) := by decide +kernel
theorem d_M_owners_2 : decode b_M_owners 2 = .ok (.iload_n 2, 1) := by decide +kernel
theorem d_M_owners_3 : decode b_M_owners 3 = .ok (.invokevirtual 87, 3) := by decide +kernel
theorem d_M_owners_6 : decode b_M_owners 6 = .ok (.istore_n 3, 1) := by decide +kernel
theorem d_M_owners_7 : decode b_M_owners 7 = .ok (.iload_n 3, 1) := by decide +kernel
theorem d_M_owners_8 : decode b_M_owners 8 = .ok (.iconst (-1), 1) := by decide +kernel
theorem d_M_owners_9 : decode b_M_owners 9 = .ok (.if_icmp .ne 7, 3) := by decide +kernel
theorem d_M_owners_12 : decode b_M_owners 12 = .ok (.iconst 0, 1) := by decide +kernel
theorem d_M_owners_13 : decode b_M_owners 13 = .ok (.goto 13, 3) := by decide +kernel
theorem d_M_owners_16 : decode b_M_owners 16 = .ok (.aload_n 0, 1) := by decide +kernel
theorem d_M_owners_17 : decode b_M_owners 17 = .ok (.aload_n 0, 1) := by decide +kernel
theorem d_M_owners_18 : decode b_M_owners 18 = .ok (.getfield 26, 3) := by decide +kernel
theorem d_M_owners_21 : decode b_M_owners 21 = .ok (.iload_n 3, 1) := by decide +kernel
theorem d_M_owners_22 : decode b_M_owners 22 = .ok (.iaload, 1) := by decide +kernel
theorem d_M_owners_23 : decode b_M_owners 23 = .ok (.invokevirtual 98, 3) := by decide +kernel
theorem d_M_owners_26 : decode b_M_owners 26 = .ok (.ireturn, 1) := by decide +kernel
theorem d_F_init_0 : decode b_F_init 0 = .ok (.aload_n 0, 1) := by decide +kernel
theorem d_F_init_1 : decode b_F_init 1 = .ok (.invokespecial 3, 3) := by decide +kernel
theorem d_F_init_4 : decode b_F_init 4 = .ok (.aload_n 0, 1) := by decide +kernel
theorem d_F_init_5 : decode b_F_init 5 = .ok (.iload_n 1, 1) := by decide +kernel
theorem d_F_init_6 : decode b_F_init 6 = .ok (.sipush 1024, 3) := by decide +kernel
theorem d_F_init_9 : decode b_F_init 9 = .ok (.multianewarray 9 2, 4) := by decide +kernel
theorem d_F_init_13 : decode b_F_init 13 = .ok (.putfield 11, 3) := by decide +kernel
theorem d_F_init_16 : decode b_F_init 16 = .ok (.aload_n 0, 1) := by decide +kernel
theorem d_F_init_17 : decode b_F_init 17 = .ok (.iload_n 1, 1) := by decide +kernel
theorem d_F_init_18 : decode b_F_init 18 = .ok (.newarray .int, 2) := by decide +kernel
theorem d_F_init_20 : decode b_F_init 20 = .ok (.putfield 16, 3) := by decide +kernel
theorem d_F_init_23 : decode b_F_init 23 = .ok (.aload_n 0, 1) := by decide +kernel
theorem d_F_init_24 : decode b_F_init 24 = .ok (.iload_n 1, 1) := by decide +kernel
theorem d_F_init_25 : decode b_F_init 25 = .ok (.putfield 20, 3) := by decide +kernel
theorem d_F_init_28 : decode b_F_init 28 = .ok (.return_, 1) := by decide +kernel
theorem d_F_spare_0 : decode b_F_spare 0 = .ok (.aload_n 0, 1) := by decide +kernel
theorem d_F_spare_1 : decode b_F_spare 1 = .ok (.getfield 20, 3) := by decide +kernel
theorem d_F_spare_4 : decode b_F_spare 4 = .ok (.ireturn, 1) := by decide +kernel
theorem d_F_take_0 : decode b_F_take 0 = .ok (.iconst 0, 1) := by decide +kernel
theorem d_F_take_1 : decode b_F_take 1 = .ok (.istore_n 1, 1) := by decide +kernel
theorem d_F_take_2 : decode b_F_take 2 = .ok (.iload_n 1, 1) := by decide +kernel
theorem d_F_take_3 : decode b_F_take 3 = .ok (.aload_n 0, 1) := by decide +kernel
theorem d_F_take_4 : decode b_F_take 4 = .ok (.getfield 16, 3) := by decide +kernel
theorem d_F_take_7 : decode b_F_take 7 = .ok (.arraylength, 1) := by decide +kernel
theorem d_F_take_8 : decode b_F_take 8 = .ok (.if_icmp .ge 47, 3) := by decide +kernel
theorem d_F_take_11 : decode b_F_take 11 = .ok (.aload_n 0, 1) := by decide +kernel
theorem d_F_take_12 : decode b_F_take 12 = .ok (.getfield 16, 3) := by decide +kernel
theorem d_F_take_15 : decode b_F_take 15 = .ok (.iload_n 1, 1) := by decide +kernel
theorem d_F_take_16 : decode b_F_take 16 = .ok (.iaload, 1) := by decide +kernel
theorem d_F_take_17 : decode b_F_take 17 = .ok (.ifCond .ne 32, 3) := by decide +kernel
theorem d_F_take_20 : decode b_F_take 20 = .ok (.aload_n 0, 1) := by decide +kernel
theorem d_F_take_21 : decode b_F_take 21 = .ok (.getfield 16, 3) := by decide +kernel
theorem d_F_take_24 : decode b_F_take 24 = .ok (.iload_n 1, 1) := by decide +kernel
theorem d_F_take_25 : decode b_F_take 25 = .ok (.iconst 1, 1) := by decide +kernel
theorem d_F_take_26 : decode b_F_take 26 = .ok (.iastore, 1) := by decide +kernel
theorem d_F_take_27 : decode b_F_take 27 = .ok (.aload_n 0, 1) := by decide +kernel
theorem d_F_take_28 : decode b_F_take 28 = .ok (.dup, 1) := by decide +kernel
theorem d_F_take_29 : decode b_F_take 29 = .ok (.getfield 20, 3) := by decide +kernel
theorem d_F_take_32 : decode b_F_take 32 = .ok (.iconst 1, 1) := by decide +kernel
theorem d_F_take_33 : decode b_F_take 33 = .ok (.isub, 1) := by decide +kernel
theorem d_F_take_34 : decode b_F_take 34 = .ok (.putfield 20, 3) := by decide +kernel
theorem d_F_take_37 : decode b_F_take 37 = .ok (.aload_n 0, 1) := by decide +kernel
theorem d_F_take_38 : decode b_F_take 38 = .ok (.getfield 11, 3) := by decide +kernel
theorem d_F_take_41 : decode b_F_take 41 = .ok (.iload_n 1, 1) := by decide +kernel
theorem d_F_take_42 : decode b_F_take 42 = .ok (.aaload, 1) := by decide +kernel
theorem d_F_take_43 : decode b_F_take 43 = .ok (.iconst 0, 1) := by decide +kernel
theorem d_F_take_44 : decode b_F_take 44 = .ok (.invokestatic 24, 3) := by decide +kernel
theorem d_F_take_47 : decode b_F_take 47 = .ok (.iload_n 1, 1) := by decide +kernel
theorem d_F_take_48 : decode b_F_take 48 = .ok (.ireturn, 1) := by decide +kernel
theorem d_F_take_49 : decode b_F_take 49 = .ok (.iinc 1 1, 3) := by decide +kernel
theorem d_F_take_52 : decode b_F_take 52 = .ok (.goto (-50), 3) := by decide +kernel
theorem d_F_take_55 : decode b_F_take 55 = .ok (.iconst (-1), 1) := by decide +kernel
theorem d_F_take_56 : decode b_F_take 56 = .ok (.ireturn, 1) := by decide +kernel
theorem d_F_hold_0 : decode b_F_hold 0 = .ok (.aload_n 0, 1) := by decide +kernel
theorem d_F_hold_1 : decode b_F_hold 1 = .ok (.iload_n 1, 1) := by decide +kernel
theorem d_F_hold_2 : decode b_F_hold 2 = .ok (.invokevirtual 30, 3) := by decide +kernel
theorem d_F_hold_5 : decode b_F_hold 5 = .ok (.ifCond .eq 13, 3) := by decide +kernel
theorem d_F_hold_8 : decode b_F_hold 8 = .ok (.aload_n 0, 1) := by decide +kernel
theorem d_F_hold_9 : decode b_F_hold 9 = .ok (.getfield 16, 3) := by decide +kernel
theorem d_F_hold_12 : decode b_F_hold 12 = .ok (.iload_n 1, 1) := by decide +kernel
theorem d_F_hold_13 : decode b_F_hold 13 = .ok (.dup2, 1) := by decide +kernel
theorem d_F_hold_14 : decode b_F_hold 14 = .ok (.iaload, 1) := by decide +kernel
theorem d_F_hold_15 : decode b_F_hold 15 = .ok (.iconst 1, 1) := by decide +kernel
theorem d_F_hold_16 : decode b_F_hold 16 = .ok (.iadd, 1) := by decide +kernel
theorem d_F_hold_17 : decode b_F_hold 17 = .ok (.iastore, 1) := by decide +kernel
theorem d_F_hold_18 : decode b_F_hold 18 = .ok (.return_, 1) := by decide +kernel
theorem d_F_release_0 : decode b_F_release 0 = .ok (.aload_n 0, 1) := by decide +kernel
theorem d_F_release_1 : decode b_F_release 1 = .ok (.iload_n 1, 1) := by decide +kernel
theorem d_F_release_2 : decode b_F_release 2 = .ok (.invokevirtual 30, 3) := by decide +kernel
theorem d_F_release_5 : decode b_F_release 5 = .ok (.ifCond .eq 41, 3) := by decide +kernel
theorem d_F_release_8 : decode b_F_release 8 = .ok (.aload_n 0, 1) := by decide +kernel
theorem d_F_release_9 : decode b_F_release 9 = .ok (.getfield 16, 3) := by decide +kernel
theorem d_F_release_12 : decode b_F_release 12 = .ok (.iload_n 1, 1) := by decide +kernel
theorem d_F_release_13 : decode b_F_release 13 = .ok (.iaload, 1) := by decide +kernel
theorem d_F_release_14 : decode b_F_release 14 = .ok (.ifCond .le 32, 3) := by decide +kernel
theorem d_F_release_17 : decode b_F_release 17 = .ok (.aload_n 0, 1) := by decide +kernel
theorem d_F_release_18 : decode b_F_release 18 = .ok (.getfield 16, 3) := by decide +kernel
theorem d_F_release_21 : decode b_F_release 21 = .ok (.iload_n 1, 1) := by decide +kernel
theorem d_F_release_22 : decode b_F_release 22 = .ok (.dup2, 1) := by decide +kernel
theorem d_F_release_23 : decode b_F_release 23 = .ok (.iaload, 1) := by decide +kernel
theorem d_F_release_24 : decode b_F_release 24 = .ok (.iconst 1, 1) := by decide +kernel
theorem d_F_release_25 : decode b_F_release 25 = .ok (.isub, 1) := by decide +kernel
theorem d_F_release_26 : decode b_F_release 26 = .ok (.iastore, 1) := by decide +kernel
theorem d_F_release_27 : decode b_F_release 27 = .ok (.aload_n 0, 1) := by decide +kernel
theorem d_F_release_28 : decode b_F_release 28 = .ok (.getfield 16, 3) := by decide +kernel
theorem d_F_release_31 : decode b_F_release 31 = .ok (.iload_n 1, 1) := by decide +kernel
theorem d_F_release_32 : decode b_F_release 32 = .ok (.iaload, 1) := by decide +kernel
theorem d_F_release_33 : decode b_F_release 33 = .ok (.ifCond .ne 13, 3) := by decide +kernel
theorem d_F_release_36 : decode b_F_release 36 = .ok (.aload_n 0, 1) := by decide +kernel
theorem d_F_release_37 : decode b_F_release 37 = .ok (.dup, 1) := by decide +kernel
theorem d_F_release_38 : decode b_F_release 38 = .ok (.getfield 20, 3) := by decide +kernel
theorem d_F_release_41 : decode b_F_release 41 = .ok (.iconst 1, 1) := by decide +kernel
theorem d_F_release_42 : decode b_F_release 42 = .ok (.iadd, 1) := by decide +kernel
theorem d_F_release_43 : decode b_F_release 43 = .ok (.putfield 20, 3) := by decide +kernel
theorem d_F_release_46 : decode b_F_release 46 = .ok (.return_, 1) := by decide +kernel
theorem d_F_holders_0 : decode b_F_holders 0 = .ok (.aload_n 0, 1) := by decide +kernel
theorem d_F_holders_1 : decode b_F_holders 1 = .ok (.iload_n 1, 1) := by decide +kernel
theorem d_F_holders_2 : decode b_F_holders 2 = .ok (.invokevirtual 30, 3) := by decide +kernel
theorem d_F_holders_5 : decode b_F_holders 5 = .ok (.ifCond .eq 12, 3) := by decide +kernel
theorem d_F_holders_8 : decode b_F_holders 8 = .ok (.aload_n 0, 1) := by decide +kernel
theorem d_F_holders_9 : decode b_F_holders 9 = .ok (.getfield 16, 3) := by decide +kernel
theorem d_F_holders_12 : decode b_F_holders 12 = .ok (.iload_n 1, 1) := by decide +kernel
theorem d_F_holders_13 : decode b_F_holders 13 = .ok (.iaload, 1) := by decide +kernel
theorem d_F_holders_14 : decode b_F_holders 14 = .ok (.goto 4, 3) := by decide +kernel
theorem d_F_holders_17 : decode b_F_holders 17 = .ok (.iconst 0, 1) := by decide +kernel
theorem d_F_holders_18 : decode b_F_holders 18 = .ok (.ireturn, 1) := by decide +kernel
theorem d_F_word_0 : decode b_F_word 0 = .ok (.iload_n 1, 1) := by decide +kernel
theorem d_F_word_1 : decode b_F_word 1 = .ok (.ifCond .lt 34, 3) := by decide +kernel
theorem d_F_word_4 : decode b_F_word 4 = .ok (.iload_n 1, 1) := by decide +kernel
theorem d_F_word_5 : decode b_F_word 5 = .ok (.aload_n 0, 1) := by decide +kernel
theorem d_F_word_6 : decode b_F_word 6 = .ok (.getfield 11, 3) := by decide +kernel
theorem d_F_word_9 : decode b_F_word 9 = .ok (.arraylength, 1) := by decide +kernel
theorem d_F_word_10 : decode b_F_word 10 = .ok (.if_icmp .ge 25, 3) := by decide +kernel
theorem d_F_word_13 : decode b_F_word 13 = .ok (.iload_n 2, 1) := by decide +kernel
theorem d_F_word_14 : decode b_F_word 14 = .ok (.ifCond .lt 21, 3) := by decide +kernel
theorem d_F_word_17 : decode b_F_word 17 = .ok (.iload_n 2, 1) := by decide +kernel
theorem d_F_word_18 : decode b_F_word 18 = .ok (.sipush 1024, 3) := by decide +kernel
theorem d_F_word_21 : decode b_F_word 21 = .ok (.if_icmp .ge 14, 3) := by decide +kernel
theorem d_F_word_24 : decode b_F_word 24 = .ok (.aload_n 0, 1) := by decide +kernel
theorem d_F_word_25 : decode b_F_word 25 = .ok (.getfield 11, 3) := by decide +kernel
theorem d_F_word_28 : decode b_F_word 28 = .ok (.iload_n 1, 1) := by decide +kernel
theorem d_F_word_29 : decode b_F_word 29 = .ok (.aaload, 1) := by decide +kernel
theorem d_F_word_30 : decode b_F_word 30 = .ok (.iload_n 2, 1) := by decide +kernel
theorem d_F_word_31 : decode b_F_word 31 = .ok (.iaload, 1) := by decide +kernel
theorem d_F_word_32 : decode b_F_word 32 = .ok (.goto 4, 3) := by decide +kernel
theorem d_F_word_35 : decode b_F_word 35 = .ok (.iconst 0, 1) := by decide +kernel
theorem d_F_word_36 : decode b_F_word 36 = .ok (.ireturn, 1) := by decide +kernel
theorem d_F_setWord_0 : decode b_F_setWord 0 = .ok (.iload_n 1, 1) := by decide +kernel
theorem d_F_setWord_1 : decode b_F_setWord 1 = .ok (.ifCond .lt 32, 3) := by decide +kernel
theorem d_F_setWord_4 : decode b_F_setWord 4 = .ok (.iload_n 1, 1) := by decide +kernel
theorem d_F_setWord_5 : decode b_F_setWord 5 = .ok (.aload_n 0, 1) := by decide +kernel
theorem d_F_setWord_6 : decode b_F_setWord 6 = .ok (.getfield 11, 3) := by decide +kernel
theorem d_F_setWord_9 : decode b_F_setWord 9 = .ok (.arraylength, 1) := by decide +kernel
theorem d_F_setWord_10 : decode b_F_setWord 10 = .ok (.if_icmp .ge 23, 3) := by decide +kernel
theorem d_F_setWord_13 : decode b_F_setWord 13 = .ok (.iload_n 2, 1) := by decide +kernel
theorem d_F_setWord_14 : decode b_F_setWord 14 = .ok (.ifCond .lt 19, 3) := by decide +kernel
theorem d_F_setWord_17 : decode b_F_setWord 17 = .ok (.iload_n 2, 1) := by decide +kernel
theorem d_F_setWord_18 : decode b_F_setWord 18 = .ok (.sipush 1024, 3) := by decide +kernel
theorem d_F_setWord_21 : decode b_F_setWord 21 = .ok (.if_icmp .ge 12, 3) := by decide +kernel
theorem d_F_setWord_24 : decode b_F_setWord 24 = .ok (.aload_n 0, 1) := by decide +kernel
theorem d_F_setWord_25 : decode b_F_setWord 25 = .ok (.getfield 11, 3) := by decide +kernel
theorem d_F_setWord_28 : decode b_F_setWord 28 = .ok (.iload_n 1, 1) := by decide +kernel
theorem d_F_setWord_29 : decode b_F_setWord 29 = .ok (.aaload, 1) := by decide +kernel
theorem d_F_setWord_30 : decode b_F_setWord 30 = .ok (.iload_n 2, 1) := by decide +kernel
theorem d_F_setWord_31 : decode b_F_setWord 31 = .ok (.iload_n 3, 1) := by decide +kernel
theorem d_F_setWord_32 : decode b_F_setWord 32 = .ok (.iastore, 1) := by decide +kernel
theorem d_F_setWord_33 : decode b_F_setWord 33 = .ok (.return_, 1) := by decide +kernel
theorem d_F_copyWords_0 : decode b_F_copyWords 0 = .ok (.aload_n 0, 1) := by decide +kernel
theorem d_F_copyWords_1 : decode b_F_copyWords 1 = .ok (.iload_n 1, 1) := by decide +kernel
theorem d_F_copyWords_2 : decode b_F_copyWords 2 = .ok (.invokevirtual 30, 3) := by decide +kernel
theorem d_F_copyWords_5 : decode b_F_copyWords 5 = .ok (.ifCond .eq 31, 3) := by decide +kernel
theorem d_F_copyWords_8 : decode b_F_copyWords 8 = .ok (.aload_n 0, 1) := by decide +kernel
theorem d_F_copyWords_9 : decode b_F_copyWords 9 = .ok (.iload_n 2, 1) := by decide +kernel
theorem d_F_copyWords_10 : decode b_F_copyWords 10 = .ok (.invokevirtual 30, 3) := by decide +kernel
theorem d_F_copyWords_13 : decode b_F_copyWords 13 = .ok (.ifCond .eq 23, 3) := by decide +kernel
theorem d_F_copyWords_16 : decode b_F_copyWords 16 = .ok (.aload_n 0, 1) := by decide +kernel
theorem d_F_copyWords_17 : decode b_F_copyWords 17 = .ok (.getfield 11, 3) := by decide +kernel
theorem d_F_copyWords_20 : decode b_F_copyWords 20 = .ok (.iload_n 1, 1) := by decide +kernel
theorem d_F_copyWords_21 : decode b_F_copyWords 21 = .ok (.aaload, 1) := by decide +kernel
theorem d_F_copyWords_22 : decode b_F_copyWords 22 = .ok (.iconst 0, 1) := by decide +kernel
theorem d_F_copyWords_23 : decode b_F_copyWords 23 = .ok (.aload_n 0, 1) := by decide +kernel
theorem d_F_copyWords_24 : decode b_F_copyWords 24 = .ok (.getfield 11, 3) := by decide +kernel
theorem d_F_copyWords_27 : decode b_F_copyWords 27 = .ok (.iload_n 2, 1) := by decide +kernel
theorem d_F_copyWords_28 : decode b_F_copyWords 28 = .ok (.aaload, 1) := by decide +kernel
theorem d_F_copyWords_29 : decode b_F_copyWords 29 = .ok (.iconst 0, 1) := by decide +kernel
theorem d_F_copyWords_30 : decode b_F_copyWords 30 = .ok (.sipush 1024, 3) := by decide +kernel
theorem d_F_copyWords_33 : decode b_F_copyWords 33 = .ok (.invokestatic 34, 3) := by decide +kernel
theorem d_F_copyWords_36 : decode b_F_copyWords 36 = .ok (.return_, 1) := by decide +kernel
theorem d_F_read_0 : decode b_F_read 0 = .ok (.aload_n 0, 1) := by decide +kernel
theorem d_F_read_1 : decode b_F_read 1 = .ok (.iload_n 1, 1) := by decide +kernel
theorem d_F_read_2 : decode b_F_read 2 = .ok (.iload_n 2, 1) := by decide +kernel
theorem d_F_read_3 : decode b_F_read 3 = .ok (.invokestatic 40, 3) := by decide +kernel
theorem d_F_read_6 : decode b_F_read 6 = .ok (.invokevirtual 44, 3) := by decide +kernel
theorem d_F_read_9 : decode b_F_read 9 = .ok (.iload_n 2, 1) := by decide +kernel
theorem d_F_read_10 : decode b_F_read 10 = .ok (.invokestatic 48, 3) := by decide +kernel
theorem d_F_read_13 : decode b_F_read 13 = .ok (.iushr, 1) := by decide +kernel
theorem d_F_read_14 : decode b_F_read 14 = .ok (.iload_n 3, 1) := by decide +kernel
theorem d_F_read_15 : decode b_F_read 15 = .ok (.invokestatic 51, 3) := by decide +kernel
theorem d_F_read_18 : decode b_F_read 18 = .ok (.iand, 1) := by decide +kernel
theorem d_F_read_19 : decode b_F_read 19 = .ok (.ireturn, 1) := by decide +kernel
theorem d_F_write_0 : decode b_F_write 0 = .ok (.aload_n 0, 1) := by decide +kernel
theorem d_F_write_1 : decode b_F_write 1 = .ok (.iload_n 1, 1) := by decide +kernel
theorem d_F_write_2 : decode b_F_write 2 = .ok (.iload_n 2, 1) := by decide +kernel
theorem d_F_write_3 : decode b_F_write 3 = .ok (.invokestatic 40, 3) := by decide +kernel
theorem d_F_write_6 : decode b_F_write 6 = .ok (.invokevirtual 44, 3) := by decide +kernel
theorem d_F_write_9 : decode b_F_write 9 = .ok (.iload_n 3, 1) := by decide +kernel
theorem d_F_write_10 : decode b_F_write 10 = .ok (.invokestatic 51, 3) := by decide +kernel
theorem d_F_write_13 : decode b_F_write 13 = .ok (.iload_n 2, 1) := by decide +kernel
theorem d_F_write_14 : decode b_F_write 14 = .ok (.invokestatic 48, 3) := by decide +kernel
theorem d_F_write_17 : decode b_F_write 17 = .ok (.ishl, 1) := by decide +kernel
theorem d_F_write_18 : decode b_F_write 18 = .ok (.iconst (-1), 1) := by decide +kernel
theorem d_F_write_19 : decode b_F_write 19 = .ok (.ixor, 1) := by decide +kernel
theorem d_F_write_20 : decode b_F_write 20 = .ok (.iand, 1) := by decide +kernel
theorem d_F_write_21 : decode b_F_write 21 = .ok (.istore 5, 2) := by decide +kernel
theorem d_F_write_23 : decode b_F_write 23 = .ok (.aload_n 0, 1) := by decide +kernel
theorem d_F_write_24 : decode b_F_write 24 = .ok (.iload_n 1, 1) := by decide +kernel
theorem d_F_write_25 : decode b_F_write 25 = .ok (.iload_n 2, 1) := by decide +kernel
theorem d_F_write_26 : decode b_F_write 26 = .ok (.invokestatic 40, 3) := by decide +kernel
theorem d_F_write_29 : decode b_F_write 29 = .ok (.iload 5, 2) := by decide +kernel
theorem d_F_write_31 : decode b_F_write 31 = .ok (.iload 4, 2) := by decide +kernel
theorem d_F_write_33 : decode b_F_write 33 = .ok (.iload_n 3, 1) := by decide +kernel
theorem d_F_write_34 : decode b_F_write 34 = .ok (.invokestatic 51, 3) := by decide +kernel
theorem d_F_write_37 : decode b_F_write 37 = .ok (.iand, 1) := by decide +kernel
theorem d_F_write_38 : decode b_F_write 38 = .ok (.iload_n 2, 1) := by decide +kernel
theorem d_F_write_39 : decode b_F_write 39 = .ok (.invokestatic 48, 3) := by decide +kernel
theorem d_F_write_42 : decode b_F_write 42 = .ok (.ishl, 1) := by decide +kernel
theorem d_F_write_43 : decode b_F_write 43 = .ok (.ior, 1) := by decide +kernel
theorem d_F_write_44 : decode b_F_write 44 = .ok (.invokevirtual 54, 3) := by decide +kernel
theorem d_F_write_47 : decode b_F_write 47 = .ok (.return_, 1) := by decide +kernel
theorem d_F_isFrame_0 : decode b_F_isFrame 0 = .ok (.iload_n 1, 1) := by decide +kernel
theorem d_F_isFrame_1 : decode b_F_isFrame 1 = .ok (.ifCond .lt 16, 3) := by decide +kernel
theorem d_F_isFrame_4 : decode b_F_isFrame 4 = .ok (.iload_n 1, 1) := by decide +kernel
theorem d_F_isFrame_5 : decode b_F_isFrame 5 = .ok (.aload_n 0, 1) := by decide +kernel
theorem d_F_isFrame_6 : decode b_F_isFrame 6 = .ok (.getfield 16, 3) := by decide +kernel
theorem d_F_isFrame_9 : decode b_F_isFrame 9 = .ok (.arraylength, 1) := by decide +kernel
theorem d_F_isFrame_10 : decode b_F_isFrame 10 = .ok (.if_icmp .ge 7, 3) := by decide +kernel
theorem d_F_isFrame_13 : decode b_F_isFrame 13 = .ok (.iconst 1, 1) := by decide +kernel
theorem d_F_isFrame_14 : decode b_F_isFrame 14 = .ok (.goto 4, 3) := by decide +kernel
theorem d_F_isFrame_17 : decode b_F_isFrame 17 = .ok (.iconst 0, 1) := by decide +kernel
theorem d_F_isFrame_18 : decode b_F_isFrame 18 = .ok (.ireturn, 1) := by decide +kernel
theorem d_F_wordOf_0 : decode b_F_wordOf 0 = .ok (.iload_n 0, 1) := by decide +kernel
theorem d_F_wordOf_1 : decode b_F_wordOf 1 = .ok (.sipush 4095, 3) := by decide +kernel
theorem d_F_wordOf_4 : decode b_F_wordOf 4 = .ok (.iand, 1) := by decide +kernel
theorem d_F_wordOf_5 : decode b_F_wordOf 5 = .ok (.iconst 2, 1) := by decide +kernel
theorem d_F_wordOf_6 : decode b_F_wordOf 6 = .ok (.iushr, 1) := by decide +kernel
theorem d_F_wordOf_7 : decode b_F_wordOf 7 = .ok (.ireturn, 1) := by decide +kernel
theorem d_F_bitOf_0 : decode b_F_bitOf 0 = .ok (.iload_n 0, 1) := by decide +kernel
theorem d_F_bitOf_1 : decode b_F_bitOf 1 = .ok (.iconst 3, 1) := by decide +kernel
theorem d_F_bitOf_2 : decode b_F_bitOf 2 = .ok (.iand, 1) := by decide +kernel
theorem d_F_bitOf_3 : decode b_F_bitOf 3 = .ok (.bipush 8, 2) := by decide +kernel
theorem d_F_bitOf_5 : decode b_F_bitOf 5 = .ok (.imul, 1) := by decide +kernel
theorem d_F_bitOf_6 : decode b_F_bitOf 6 = .ok (.ireturn, 1) := by decide +kernel
theorem d_F_mask_0 : decode b_F_mask 0 = .ok (.iconst (-1), 1) := by decide +kernel
theorem d_F_mask_1 : decode b_F_mask 1 = .ok (.bipush 32, 2) := by decide +kernel
theorem d_F_mask_3 : decode b_F_mask 3 = .ok (.bipush 8, 2) := by decide +kernel
theorem d_F_mask_5 : decode b_F_mask 5 = .ok (.iload_n 0, 1) := by decide +kernel
