theorem d_M_byteOf_189 : decode b_M_byteOf 189 = .ok (.imul, 1) := by decide +kernel
theorem d_M_byteOf_190 : decode b_M_byteOf 190 = .ok (.iushr, 1) := by decide +kernel
theorem d_M_byteOf_191 : decode b_M_byteOf 191 = .ok (.sipush 255, 3) := by decide +kernel
theorem d_M_byteOf_194 : decode b_M_byteOf 194 = .ok (.iand, 1) := by decide +kernel
theorem d_M_byteOf_195 : decode b_M_byteOf 195 = .ok (.ireturn, 1) := by decide +kernel
theorem d_M_byteOf_196 : decode b_M_byteOf 196 = .ok (.iload 6, 2) := by decide +kernel
theorem d_M_byteOf_198 : decode b_M_byteOf 198 = .ok (.iconst 4, 1) := by decide +kernel
theorem d_M_byteOf_199 : decode b_M_byteOf 199 = .ok (.if_icmp .ne 14, 3) := by decide +kernel
theorem d_M_byteOf_202 : decode b_M_byteOf 202 = .ok (.iload 8, 2) := by decide +kernel
theorem d_M_byteOf_204 : decode b_M_byteOf 204 = .ok (.ifCond .eq 9, 3) := by decide +kernel
theorem d_M_byteOf_207 : decode b_M_byteOf 207 = .ok (.iconst (-1), 1) := by decide +kernel
theorem d_M_byteOf_208 : decode b_M_byteOf 208 = .ok (.istore_n 3, 1) := by decide +kernel
theorem d_M_byteOf_209 : decode b_M_byteOf 209 = .ok (.iload 7, 2) := by decide +kernel
theorem d_M_byteOf_211 : decode b_M_byteOf 211 = .ok (.istore 4, 2) := by decide +kernel
theorem d_M_byteOf_213 : decode b_M_byteOf 213 = .ok (.iinc 5 (-1), 3) := by decide +kernel
theorem d_M_byteOf_216 : decode b_M_byteOf 216 = .ok (.goto (-203), 3) := by decide +kernel
theorem d_M_byteOf_219 : decode b_M_byteOf 219 = .ok (.iconst 0, 1) := by decide +kernel
theorem d_M_byteOf_220 : decode b_M_byteOf 220 = .ok (.ireturn, 1) := by decide +kernel
theorem d_M_lives_0 : decode b_M_lives 0 = .ok (.iload_n 1, 1) := by decide +kernel
theorem d_M_lives_1 : decode b_M_lives 1 = .ok (.ifCond .lt 22, 3) := by decide +kernel
theorem d_M_lives_4 : decode b_M_lives 4 = .ok (.iload_n 1, 1) := by decide +kernel
theorem d_M_lives_5 : decode b_M_lives 5 = .ok (.bipush 16, 2) := by decide +kernel
theorem d_M_lives_7 : decode b_M_lives 7 = .ok (.if_icmp .ge 16, 3) := by decide +kernel
theorem d_M_lives_10 : decode b_M_lives 10 = .ok (.aload_n 0, 1) := by decide +kernel
theorem d_M_lives_11 : decode b_M_lives 11 = .ok (.getfield 7, 3) := by decide +kernel
theorem d_M_lives_14 : decode b_M_lives 14 = .ok (.iload_n 1, 1) := by decide +kernel
theorem d_M_lives_15 : decode b_M_lives 15 = .ok (.baload, 1) := by decide +kernel
theorem d_M_lives_16 : decode b_M_lives 16 = .ok (.ifCond .eq 7, 3) := by decide +kernel
theorem d_M_lives_19 : decode b_M_lives 19 = .ok (.iconst 1, 1) := by decide +kernel
theorem d_M_lives_20 : decode b_M_lives 20 = .ok (.goto 4, 3) := by decide +kernel
theorem d_M_lives_23 : decode b_M_lives 23 = .ok (.iconst 0, 1) := by decide +kernel
theorem d_M_lives_24 : decode b_M_lives 24 = .ok (.ireturn, 1) := by decide +kernel
theorem d_M_row_0 : decode b_M_row 0 = .ok (.iload_n 2, 1) := by decide +kernel
theorem d_M_row_1 : decode b_M_row 1 = .ok (.ifCond .ge 5, 3) := by decide +kernel
theorem d_M_row_4 : decode b_M_row 4 = .ok (.iconst (-1), 1) := by decide +kernel
theorem d_M_row_5 : decode b_M_row 5 = .ok (.ireturn, 1) := by decide +kernel
theorem d_M_row_6 : decode b_M_row 6 = .ok (.iconst 0, 1) := by decide +kernel
theorem d_M_row_7 : decode b_M_row 7 = .ok (.istore_n 3, 1) := by decide +kernel
theorem d_M_row_8 : decode b_M_row 8 = .ok (.iload_n 3, 1) := by decide +kernel
theorem d_M_row_9 : decode b_M_row 9 = .ok (.aload_n 0, 1) := by decide +kernel
theorem d_M_row_10 : decode b_M_row 10 = .ok (.getfield 57, 3) := by decide +kernel
theorem d_M_row_13 : decode b_M_row 13 = .ok (.if_icmp .ge 35, 3) := by decide +kernel
theorem d_M_row_16 : decode b_M_row 16 = .ok (.aload_n 0, 1) := by decide +kernel
theorem d_M_row_17 : decode b_M_row 17 = .ok (.getfield 17, 3) := by decide +kernel
theorem d_M_row_20 : decode b_M_row 20 = .ok (.iload_n 3, 1) := by decide +kernel
theorem d_M_row_21 : decode b_M_row 21 = .ok (.iaload, 1) := by decide +kernel
theorem d_M_row_22 : decode b_M_row 22 = .ok (.iload_n 1, 1) := by decide +kernel
theorem d_M_row_23 : decode b_M_row 23 = .ok (.if_icmp .ne 19, 3) := by decide +kernel
theorem d_M_row_26 : decode b_M_row 26 = .ok (.aload_n 0, 1) := by decide +kernel
theorem d_M_row_27 : decode b_M_row 27 = .ok (.getfield 20, 3) := by decide +kernel
theorem d_M_row_30 : decode b_M_row 30 = .ok (.iload_n 3, 1) := by decide +kernel
theorem d_M_row_31 : decode b_M_row 31 = .ok (.iaload, 1) := by decide +kernel
theorem d_M_row_32 : decode b_M_row 32 = .ok (.iload_n 2, 1) := by decide +kernel
theorem d_M_row_33 : decode b_M_row 33 = .ok (.sipush 4096, 3) := by decide +kernel
theorem d_M_row_36 : decode b_M_row 36 = .ok (.idiv, 1) := by decide +kernel
theorem d_M_row_37 : decode b_M_row 37 = .ok (.if_icmp .ne 5, 3) := by decide +kernel
theorem d_M_row_40 : decode b_M_row 40 = .ok (.iload_n 3, 1) := by decide +kernel
theorem d_M_row_41 : decode b_M_row 41 = .ok (.ireturn, 1) := by decide +kernel
theorem d_M_row_42 : decode b_M_row 42 = .ok (.iinc 3 1, 3) := by decide +kernel
theorem d_M_row_45 : decode b_M_row 45 = .ok (.goto (-37), 3) := by decide +kernel
theorem d_M_row_48 : decode b_M_row 48 = .ok (.iconst (-1), 1) := by decide +kernel
theorem d_M_row_49 : decode b_M_row 49 = .ok (.ireturn, 1) := by decide +kernel
theorem d_M_sharers_0 : decode b_M_sharers 0 = .ok (.iconst 0, 1) := by decide +kernel
theorem d_M_sharers_1 : decode b_M_sharers 1 = .ok (.istore_n 2, 1) := by decide +kernel
theorem d_M_sharers_2 : decode b_M_sharers 2 = .ok (.iconst 0, 1) := by decide +kernel
theorem d_M_sharers_3 : decode b_M_sharers 3 = .ok (.istore_n 3, 1) := by decide +kernel
theorem d_M_sharers_4 : decode b_M_sharers 4 = .ok (.iload_n 3, 1) := by decide +kernel
theorem d_M_sharers_5 : decode b_M_sharers 5 = .ok (.aload_n 0, 1) := by decide +kernel
theorem d_M_sharers_6 : decode b_M_sharers 6 = .ok (.getfield 57, 3) := by decide +kernel
theorem d_M_sharers_9 : decode b_M_sharers 9 = .ok (.if_icmp .ge 22, 3) := by decide +kernel
theorem d_M_sharers_12 : decode b_M_sharers 12 = .ok (.aload_n 0, 1) := by decide +kernel
theorem d_M_sharers_13 : decode b_M_sharers 13 = .ok (.getfield 26, 3) := by decide +kernel
theorem d_M_sharers_16 : decode b_M_sharers 16 = .ok (.iload_n 3, 1) := by decide +kernel
theorem d_M_sharers_17 : decode b_M_sharers 17 = .ok (.iaload, 1) := by decide +kernel
theorem d_M_sharers_18 : decode b_M_sharers 18 = .ok (.iload_n 1, 1) := by decide +kernel
theorem d_M_sharers_19 : decode b_M_sharers 19 = .ok (.if_icmp .ne 6, 3) := by decide +kernel
theorem d_M_sharers_22 : decode b_M_sharers 22 = .ok (.iinc 2 1, 3) := by decide +kernel
theorem d_M_sharers_25 : decode b_M_sharers 25 = .ok (.iinc 3 1, 3) := by decide +kernel
theorem d_M_sharers_28 : decode b_M_sharers 28 = .ok (.goto (-24), 3) := by decide +kernel
theorem d_M_sharers_31 : decode b_M_sharers 31 = .ok (.iload_n 2, 1) := by decide +kernel
theorem d_M_sharers_32 : decode b_M_sharers 32 = .ok (.ireturn, 1) := by decide +kernel
theorem d_M_firstOfKin_0 : decode b_M_firstOfKin 0 = .ok (.iconst 0, 1) := by decide +kernel
theorem d_M_firstOfKin_1 : decode b_M_firstOfKin 1 = .ok (.istore_n 2, 1) := by decide +kernel
theorem d_M_firstOfKin_2 : decode b_M_firstOfKin 2 = .ok (.iload_n 2, 1) := by decide +kernel
theorem d_M_firstOfKin_3 : decode b_M_firstOfKin 3 = .ok (.iload_n 1, 1) := by decide +kernel
theorem d_M_firstOfKin_4 : decode b_M_firstOfKin 4 = .ok (.if_icmp .ge 26, 3) := by decide +kernel
theorem d_M_firstOfKin_7 : decode b_M_firstOfKin 7 = .ok (.aload_n 0, 1) := by decide +kernel
theorem d_M_firstOfKin_8 : decode b_M_firstOfKin 8 = .ok (.getfield 26, 3) := by decide +kernel
theorem d_M_firstOfKin_11 : decode b_M_firstOfKin 11 = .ok (.iload_n 2, 1) := by decide +kernel
theorem d_M_firstOfKin_12 : decode b_M_firstOfKin 12 = .ok (.iaload, 1) := by decide +kernel
theorem d_M_firstOfKin_13 : decode b_M_firstOfKin 13 = .ok (.aload_n 0, 1) := by decide +kernel
theorem d_M_firstOfKin_14 : decode b_M_firstOfKin 14 = .ok (.getfield 26, 3) := by decide +kernel
theorem d_M_firstOfKin_17 : decode b_M_firstOfKin 17 = .ok (.iload_n 1, 1) := by decide +kernel
theorem d_M_firstOfKin_18 : decode b_M_firstOfKin 18 = .ok (.iaload, 1) := by decide +kernel
theorem d_M_firstOfKin_19 : decode b_M_firstOfKin 19 = .ok (.if_icmp .ne 5, 3) := by decide +kernel
theorem d_M_firstOfKin_22 : decode b_M_firstOfKin 22 = .ok (.iconst 0, 1) := by decide +kernel
theorem d_M_firstOfKin_23 : decode b_M_firstOfKin 23 = .ok (.ireturn, 1) := by decide +kernel
theorem d_M_firstOfKin_24 : decode b_M_firstOfKin 24 = .ok (.iinc 2 1, 3) := by decide +kernel
theorem d_M_firstOfKin_27 : decode b_M_firstOfKin 27 = .ok (.goto (-25), 3) := by decide +kernel
theorem d_M_firstOfKin_30 : decode b_M_firstOfKin 30 = .ok (.iconst 1, 1) := by decide +kernel
theorem d_M_firstOfKin_31 : decode b_M_firstOfKin 31 = .ok (.ireturn, 1) := by decide +kernel
theorem d_M_freeFrames_0 : decode b_M_freeFrames 0 = .ok (.aload_n 0, 1) := by decide +kernel
theorem d_M_freeFrames_1 : decode b_M_freeFrames 1 = .ok (.getfield 50, 3) := by decide +kernel
theorem d_M_freeFrames_4 : decode b_M_freeFrames 4 = .ok (.aload_n 0, 1) := by decide +kernel
theorem d_M_freeFrames_5 : decode b_M_freeFrames 5 = .ok (.getfield 60, 3) := by decide +kernel
theorem d_M_freeFrames_8 : decode b_M_freeFrames 8 = .ok (.isub, 1) := by decide +kernel
theorem d_M_freeFrames_9 : decode b_M_freeFrames 9 = .ok (.istore_n 1, 1) := by decide +kernel
theorem d_M_freeFrames_10 : decode b_M_freeFrames 10 = .ok (.iconst 0, 1) := by decide +kernel
theorem d_M_freeFrames_11 : decode b_M_freeFrames 11 = .ok (.istore_n 2, 1) := by decide +kernel
theorem d_M_freeFrames_12 : decode b_M_freeFrames 12 = .ok (.iload_n 2, 1) := by decide +kernel
theorem d_M_freeFrames_13 : decode b_M_freeFrames 13 = .ok (.bipush 16, 2) := by decide +kernel
theorem d_M_freeFrames_15 : decode b_M_freeFrames 15 = .ok (.if_icmp .ge 21, 3) := by decide +kernel
theorem d_M_freeFrames_18 : decode b_M_freeFrames 18 = .ok (.aload_n 0, 1) := by decide +kernel
theorem d_M_freeFrames_19 : decode b_M_freeFrames 19 = .ok (.getfield 7, 3) := by decide +kernel
theorem d_M_freeFrames_22 : decode b_M_freeFrames 22 = .ok (.iload_n 2, 1) := by decide +kernel
theorem d_M_freeFrames_23 : decode b_M_freeFrames 23 = .ok (.baload, 1) := by decide +kernel
theorem d_M_freeFrames_24 : decode b_M_freeFrames 24 = .ok (.ifCond .eq 6, 3) := by decide +kernel
theorem d_M_freeFrames_27 : decode b_M_freeFrames 27 = .ok (.iinc 1 (-1), 3) := by decide +kernel
theorem d_M_freeFrames_30 : decode b_M_freeFrames 30 = .ok (.iinc 2 1, 3) := by decide +kernel
theorem d_M_freeFrames_33 : decode b_M_freeFrames 33 = .ok (.goto (-21), 3) := by decide +kernel
theorem d_M_freeFrames_36 : decode b_M_freeFrames 36 = .ok (.iconst 0, 1) := by decide +kernel
theorem d_M_freeFrames_37 : decode b_M_freeFrames 37 = .ok (.istore_n 2, 1) := by decide +kernel
theorem d_M_freeFrames_38 : decode b_M_freeFrames 38 = .ok (.iload_n 2, 1) := by decide +kernel
theorem d_M_freeFrames_39 : decode b_M_freeFrames 39 = .ok (.aload_n 0, 1) := by decide +kernel
theorem d_M_freeFrames_40 : decode b_M_freeFrames 40 = .ok (.getfield 57, 3) := by decide +kernel
theorem d_M_freeFrames_43 : decode b_M_freeFrames 43 = .ok (.if_icmp .ge 20, 3) := by decide +kernel
theorem d_M_freeFrames_46 : decode b_M_freeFrames 46 = .ok (.aload_n 0, 1) := by decide +kernel
theorem d_M_freeFrames_47 : decode b_M_freeFrames 47 = .ok (.iload_n 2, 1) := by decide +kernel
theorem d_M_freeFrames_48 : decode b_M_freeFrames 48 = .ok (.invokevirtual 63, 3) := by decide +kernel
theorem d_M_freeFrames_51 : decode b_M_freeFrames 51 = .ok (.ifCond .eq 6, 3) := by decide +kernel
theorem d_M_freeFrames_54 : decode b_M_freeFrames 54 = .ok (.iinc 1 (-1), 3) := by decide +kernel
theorem d_M_freeFrames_57 : decode b_M_freeFrames 57 = .ok (.iinc 2 1, 3) := by decide +kernel
theorem d_M_freeFrames_60 : decode b_M_freeFrames 60 = .ok (.goto (-22), 3) := by decide +kernel
theorem d_M_freeFrames_63 : decode b_M_freeFrames 63 = .ok (.iload_n 1, 1) := by decide +kernel
theorem d_M_freeFrames_64 : decode b_M_freeFrames 64 = .ok (.ireturn, 1) := by decide +kernel
theorem d_M_hasRegion_0 : decode b_M_hasRegion 0 = .ok (.iconst 0, 1) := by decide +kernel
theorem d_M_hasRegion_1 : decode b_M_hasRegion 1 = .ok (.istore_n 3, 1) := by decide +kernel
theorem d_M_hasRegion_2 : decode b_M_hasRegion 2 = .ok (.iload_n 3, 1) := by decide +kernel
theorem d_M_hasRegion_3 : decode b_M_hasRegion 3 = .ok (.aload_n 0, 1) := by decide +kernel
theorem d_M_hasRegion_4 : decode b_M_hasRegion 4 = .ok (.getfield 60, 3) := by decide +kernel
theorem d_M_hasRegion_7 : decode b_M_hasRegion 7 = .ok (.if_icmp .ge 31, 3) := by decide +kernel
theorem d_M_hasRegion_10 : decode b_M_hasRegion 10 = .ok (.aload_n 0, 1) := by decide +kernel
theorem d_M_hasRegion_11 : decode b_M_hasRegion 11 = .ok (.getfield 29, 3) := by decide +kernel
theorem d_M_hasRegion_14 : decode b_M_hasRegion 14 = .ok (.iload_n 3, 1) := by decide +kernel
theorem d_M_hasRegion_15 : decode b_M_hasRegion 15 = .ok (.iaload, 1) := by decide +kernel
theorem d_M_hasRegion_16 : decode b_M_hasRegion 16 = .ok (.iload_n 1, 1) := by decide +kernel
theorem d_M_hasRegion_17 : decode b_M_hasRegion 17 = .ok (.if_icmp .ne 15, 3) := by decide +kernel
theorem d_M_hasRegion_20 : decode b_M_hasRegion 20 = .ok (.aload_n 0, 1) := by decide +kernel
theorem d_M_hasRegion_21 : decode b_M_hasRegion 21 = .ok (.getfield 32, 3) := by decide +kernel
theorem d_M_hasRegion_24 : decode b_M_hasRegion 24 = .ok (.iload_n 3, 1) := by decide +kernel
theorem d_M_hasRegion_25 : decode b_M_hasRegion 25 = .ok (.iaload, 1) := by decide +kernel
theorem d_M_hasRegion_26 : decode b_M_hasRegion 26 = .ok (.iload_n 2, 1) := by decide +kernel
theorem d_M_hasRegion_27 : decode b_M_hasRegion 27 = .ok (.if_icmp .ne 5, 3) := by decide +kernel
theorem d_M_hasRegion_30 : decode b_M_hasRegion 30 = .ok (.iconst 1, 1) := by decide +kernel
theorem d_M_hasRegion_31 : decode b_M_hasRegion 31 = .ok (.ireturn, 1) := by decide +kernel
theorem d_M_hasRegion_32 : decode b_M_hasRegion 32 = .ok (.iinc 3 1, 3) := by decide +kernel
theorem d_M_hasRegion_35 : decode b_M_hasRegion 35 = .ok (.goto (-33), 3) := by decide +kernel
theorem d_M_hasRegion_38 : decode b_M_hasRegion 38 = .ok (.iconst 0, 1) := by decide +kernel
theorem d_M_hasRegion_39 : decode b_M_hasRegion 39 = .ok (.ireturn, 1) := by decide +kernel
theorem d_M_room_0 : decode b_M_room 0 = .ok (.aload_n 0, 1) := by decide +kernel
theorem d_M_room_1 : decode b_M_room 1 = .ok (.invokevirtual 67, 3) := by decide +kernel
theorem d_M_room_4 : decode b_M_room 4 = .ok (.aload_n 0, 1) := by decide +kernel
theorem d_M_room_5 : decode b_M_room 5 = .ok (.iload_n 1, 1) := by decide +kernel
theorem d_M_room_6 : decode b_M_room 6 = .ok (.iload_n 2, 1) := by decide +kernel
theorem d_M_room_7 : decode b_M_room 7 = .ok (.sipush 1024, 3) := by decide +kernel
theorem d_M_room_10 : decode b_M_room 10 = .ok (.idiv, 1) := by decide +kernel
theorem d_M_room_11 : decode b_M_room 11 = .ok (.invokevirtual 71, 3) := by decide +kernel
theorem d_M_room_14 : decode b_M_room 14 = .ok (.ifCond .eq 7, 3) := by decide +kernel
theorem d_M_room_17 : decode b_M_room 17 = .ok (.iconst 1, 1) := by decide +kernel
theorem d_M_room_18 : decode b_M_room 18 = .ok (.goto 4, 3) := by decide +kernel
theorem d_M_room_21 : decode b_M_room 21 = .ok (.iconst 2, 1) := by decide +kernel
theorem d_M_room_22 : decode b_M_room 22 = .ok (.if_icmp .lt 7, 3) := by decide +kernel
theorem d_M_room_25 : decode b_M_room 25 = .ok (.iconst 1, 1) := by decide +kernel
theorem d_M_room_26 : decode b_M_room 26 = .ok (.goto 4, 3) := by decide +kernel
theorem d_M_room_29 : decode b_M_room 29 = .ok (.iconst 0, 1) := by decide +kernel
theorem d_M_room_30 : decode b_M_room 30 = .ok (.ireturn, 1) := by decide +kernel
theorem d_M_add_0 : decode b_M_add 0 = .ok (.aload_n 0, 1) := by decide +kernel
theorem d_M_add_1 : decode b_M_add 1 = .ok (.iload_n 1, 1) := by decide +kernel
theorem d_M_add_2 : decode b_M_add 2 = .ok (.iload_n 2, 1) := by decide +kernel
theorem d_M_add_3 : decode b_M_add 3 = .ok (.sipush 1024, 3) := by decide +kernel
theorem d_M_add_6 : decode b_M_add 6 = .ok (.idiv, 1) := by decide +kernel
theorem d_M_add_7 : decode b_M_add 7 = .ok (.invokevirtual 71, 3) := by decide +kernel
theorem d_M_add_10 : decode b_M_add 10 = .ok (.ifCond .ne 37, 3) := by decide +kernel
theorem d_M_add_13 : decode b_M_add 13 = .ok (.aload_n 0, 1) := by decide +kernel
theorem d_M_add_14 : decode b_M_add 14 = .ok (.getfield 29, 3) := by decide +kernel
theorem d_M_add_17 : decode b_M_add 17 = .ok (.aload_n 0, 1) := by decide +kernel
theorem d_M_add_18 : decode b_M_add 18 = .ok (.getfield 60, 3) := by decide +kernel
theorem d_M_add_21 : decode b_M_add 21 = .ok (.iload_n 1, 1) := by decide +kernel
theorem d_M_add_22 : decode b_M_add 22 = .ok (.iastore, 1) := by decide +kernel
theorem d_M_add_23 : decode b_M_add 23 = .ok (.aload_n 0, 1) := by decide +kernel
theorem d_M_add_24 : decode b_M_add 24 = .ok (.getfield 32, 3) := by decide +kernel
theorem d_M_add_27 : decode b_M_add 27 = .ok (.aload_n 0, 1) := by decide +kernel
theorem d_M_add_28 : decode b_M_add 28 = .ok (.getfield 60, 3) := by decide +kernel
theorem d_M_add_31 : decode b_M_add 31 = .ok (.iload_n 2, 1) := by decide +kernel
theorem d_M_add_32 : decode b_M_add 32 = .ok (.sipush 1024, 3) := by decide +kernel
theorem d_M_add_35 : decode b_M_add 35 = .ok (.idiv, 1) := by decide +kernel
theorem d_M_add_36 : decode b_M_add 36 = .ok (.iastore, 1) := by decide +kernel
theorem d_M_add_37 : decode b_M_add 37 = .ok (.aload_n 0, 1) := by decide +kernel
theorem d_M_add_38 : decode b_M_add 38 = .ok (.dup, 1) := by decide +kernel
theorem d_M_add_39 : decode b_M_add 39 = .ok (.getfield 60, 3) := by decide +kernel
theorem d_M_add_42 : decode b_M_add 42 = .ok (.iconst 1, 1) := by decide +kernel
theorem d_M_add_43 : decode b_M_add 43 = .ok (.iadd, 1) := by decide +kernel
theorem d_M_add_44 : decode b_M_add 44 = .ok (.putfield 60, 3) := by decide +kernel
theorem d_M_add_47 : decode b_M_add 47 = .ok (.aload_n 0, 1) := by decide +kernel
theorem d_M_add_48 : decode b_M_add 48 = .ok (.getfield 17, 3) := by decide +kernel
theorem d_M_add_51 : decode b_M_add 51 = .ok (.aload_n 0, 1) := by decide +kernel
theorem d_M_add_52 : decode b_M_add 52 = .ok (.getfield 57, 3) := by decide +kernel
theorem d_M_add_55 : decode b_M_add 55 = .ok (.iload_n 1, 1) := by decide +kernel
theorem d_M_add_56 : decode b_M_add 56 = .ok (.iastore, 1) := by decide +kernel
theorem d_M_add_57 : decode b_M_add 57 = .ok (.aload_n 0, 1) := by decide +kernel
theorem d_M_add_58 : decode b_M_add 58 = .ok (.getfield 20, 3) := by decide +kernel
theorem d_M_add_61 : decode b_M_add 61 = .ok (.aload_n 0, 1) := by decide +kernel
theorem d_M_add_62 : decode b_M_add 62 = .ok (.getfield 57, 3) := by decide +kernel
theorem d_M_add_65 : decode b_M_add 65 = .ok (.iload_n 2, 1) := by decide +kernel
theorem d_M_add_66 : decode b_M_add 66 = .ok (.iastore, 1) := by decide +kernel
theorem d_M_add_67 : decode b_M_add 67 = .ok (.aload_n 0, 1) := by decide +kernel
theorem d_M_add_68 : decode b_M_add 68 = .ok (.getfield 23, 3) := by decide +kernel
theorem d_M_add_71 : decode b_M_add 71 = .ok (.aload_n 0, 1) := by decide +kernel
theorem d_M_add_72 : decode b_M_add 72 = .ok (.getfield 57, 3) := by decide +kernel
theorem d_M_add_75 : decode b_M_add 75 = .ok (.iload_n 3, 1) := by decide +kernel
theorem d_M_add_76 : decode b_M_add 76 = .ok (.iastore, 1) := by decide +kernel
theorem d_M_add_77 : decode b_M_add 77 = .ok (.aload_n 0, 1) := by decide +kernel
theorem d_M_add_78 : decode b_M_add 78 = .ok (.getfield 26, 3) := by decide +kernel
theorem d_M_add_81 : decode b_M_add 81 = .ok (.aload_n 0, 1) := by decide +kernel
theorem d_M_add_82 : decode b_M_add 82 = .ok (.getfield 57, 3) := by decide +kernel
theorem d_M_add_85 : decode b_M_add 85 = .ok (.iload 4, 2) := by decide +kernel
theorem d_M_add_87 : decode b_M_add 87 = .ok (.iastore, 1) := by decide +kernel
theorem d_M_add_88 : decode b_M_add 88 = .ok (.aload_n 0, 1) := by decide +kernel
theorem d_M_add_89 : decode b_M_add 89 = .ok (.dup, 1) := by decide +kernel
theorem d_M_add_90 : decode b_M_add 90 = .ok (.getfield 57, 3) := by decide +kernel
theorem d_M_add_93 : decode b_M_add 93 = .ok (.iconst 1, 1) := by decide +kernel
theorem d_M_add_94 : decode b_M_add 94 = .ok (.iadd, 1) := by decide +kernel
theorem d_M_add_95 : decode b_M_add 95 = .ok (.putfield 57, 3) := by decide +kernel
theorem d_M_add_98 : decode b_M_add 98 = .ok (.return_, 1) := by decide +kernel
theorem d_M_addEmpty_0 : decode b_M_addEmpty 0 = .ok (.aload_n 0, 1) := by decide +kernel
theorem d_M_addEmpty_1 : decode b_M_addEmpty 1 = .ok (.iload_n 1, 1) := by decide +kernel
theorem d_M_addEmpty_2 : decode b_M_addEmpty 2 = .ok (.iload_n 2, 1) := by decide +kernel
theorem d_M_addEmpty_3 : decode b_M_addEmpty 3 = .ok (.iload_n 3, 1) := by decide +kernel
theorem d_M_addEmpty_4 : decode b_M_addEmpty 4 = .ok (.aload_n 0, 1) := by decide +kernel
theorem d_M_addEmpty_5 : decode b_M_addEmpty 5 = .ok (.getfield 75, 3) := by decide +kernel
theorem d_M_addEmpty_8 : decode b_M_addEmpty 8 = .ok (.invokevirtual 78, 3) := by decide +kernel
theorem d_M_addEmpty_11 : decode b_M_addEmpty 11 = .ok (.aload_n 0, 1) := by decide +kernel
theorem d_M_addEmpty_12 : decode b_M_addEmpty 12 = .ok (.dup, 1) := by decide +kernel
theorem d_M_addEmpty_13 : decode b_M_addEmpty 13 = .ok (.getfield 75, 3) := by decide +kernel
theorem d_M_addEmpty_16 : decode b_M_addEmpty 16 = .ok (.iconst 1, 1) := by decide +kernel
theorem d_M_addEmpty_17 : decode b_M_addEmpty 17 = .ok (.iadd, 1) := by decide +kernel
theorem d_M_addEmpty_18 : decode b_M_addEmpty 18 = .ok (.putfield 75, 3) := by decide +kernel
theorem d_M_addEmpty_21 : decode b_M_addEmpty 21 = .ok (.aload_n 0, 1) := by decide +kernel
theorem d_M_addEmpty_22 : decode b_M_addEmpty 22 = .ok (.iconst 2, 1) := by decide +kernel
theorem d_M_addEmpty_23 : decode b_M_addEmpty 23 = .ok (.iload_n 1, 1) := by decide +kernel
theorem d_M_addEmpty_24 : decode b_M_addEmpty 24 = .ok (.iload_n 2, 1) := by decide +kernel
theorem d_M_addEmpty_25 : decode b_M_addEmpty 25 = .ok (.sipush 4096, 3) := by decide +kernel
theorem d_M_addEmpty_28 : decode b_M_addEmpty 28 = .ok (.imul, 1) := by decide +kernel
theorem d_M_addEmpty_29 : decode b_M_addEmpty 29 = .ok (.sipush 4096, 3) := by decide +kernel
theorem d_M_addEmpty_32 : decode b_M_addEmpty 32 = .ok (.iconst 0, 1) := by decide +kernel
theorem d_M_addEmpty_33 : decode b_M_addEmpty 33 = .ok (.invokevirtual 82, 3) := by decide +kernel
theorem d_M_addEmpty_36 : decode b_M_addEmpty 36 = .ok (.return_, 1) := by decide +kernel
theorem d_M_removePages_0 : decode b_M_removePages 0 = .ok (.iconst 0, 1) := by decide +kernel
theorem d_M_removePages_1 : decode b_M_removePages 1 = .ok (.istore_n 3, 1) := by decide +kernel
theorem d_M_removePages_2 : decode b_M_removePages 2 = .ok (.iconst 0, 1) := by decide +kernel
theorem d_M_removePages_3 : decode b_M_removePages 3 = .ok (.istore 4, 2) := by decide +kernel
theorem d_M_removePages_5 : decode b_M_removePages 5 = .ok (.iload 4, 2) := by decide +kernel
theorem d_M_removePages_7 : decode b_M_removePages 7 = .ok (.aload_n 0, 1) := by decide +kernel
theorem d_M_removePages_8 : decode b_M_removePages 8 = .ok (.getfield 57, 3) := by decide +kernel
theorem d_M_removePages_11 : decode b_M_removePages 11 = .ok (.if_icmp .ge 90, 3) := by decide +kernel
theorem d_M_removePages_14 : decode b_M_removePages 14 = .ok (.aload_n 0, 1) := by decide +kernel
theorem d_M_removePages_15 : decode b_M_removePages 15 = .ok (.getfield 17, 3) := by decide +kernel
theorem d_M_removePages_18 : decode b_M_removePages 18 = .ok (.iload 4, 2) := by decide +kernel
theorem d_M_removePages_20 : decode b_M_removePages 20 = .ok (.iaload, 1) := by decide +kernel
theorem d_M_removePages_21 : decode b_M_removePages 21 = .ok (.iload_n 1, 1) := by decide +kernel
theorem d_M_removePages_22 : decode b_M_removePages 22 = .ok (.if_icmp .ne 18, 3) := by decide +kernel
theorem d_M_removePages_25 : decode b_M_removePages 25 = .ok (.aload_n 0, 1) := by decide +kernel
theorem d_M_removePages_26 : decode b_M_removePages 26 = .ok (.getfield 20, 3) := by decide +kernel
theorem d_M_removePages_29 : decode b_M_removePages 29 = .ok (.iload 4, 2) := by decide +kernel
theorem d_M_removePages_31 : decode b_M_removePages 31 = .ok (.iaload, 1) := by decide +kernel
theorem d_M_removePages_32 : decode b_M_removePages 32 = .ok (.sipush 4096, 3) := by decide +kernel
theorem d_M_removePages_35 : decode b_M_removePages 35 = .ok (.imul, 1) := by decide +kernel
theorem d_M_removePages_36 : decode b_M_removePages 36 = .ok (.iload_n 2, 1) := by decide +kernel
theorem d_M_removePages_37 : decode b_M_removePages 37 = .ok (.if_icmp .ge 58, 3) := by decide +kernel
theorem d_M_removePages_40 : decode b_M_removePages 40 = .ok (.aload_n 0, 1) := by decide +kernel
theorem d_M_removePages_41 : decode b_M_removePages 41 = .ok (.getfield 17, 3) := by decide +kernel
theorem d_M_removePages_44 : decode b_M_removePages 44 = .ok (.iload_n 3, 1) := by decide +kernel
theorem d_M_removePages_45 : decode b_M_removePages 45 = .ok (.aload_n 0, 1) := by decide +kernel
theorem d_M_removePages_46 : decode b_M_removePages 46 = .ok (.getfield 17, 3) := by decide +kernel
theorem d_M_removePages_49 : decode b_M_removePages 49 = .ok (.iload 4, 2) := by decide +kernel
theorem d_M_removePages_51 : decode b_M_removePages 51 = .ok (.iaload, 1) := by decide +kernel
theorem d_M_removePages_52 : decode b_M_removePages 52 = .ok (.iastore, 1) := by decide +kernel
theorem d_M_removePages_53 : decode b_M_removePages 53 = .ok (.aload_n 0, 1) := by decide +kernel
theorem d_M_removePages_54 : decode b_M_removePages 54 = .ok (.getfield 20, 3) := by decide +kernel
theorem d_M_removePages_57 : decode b_M_removePages 57 = .ok (.iload_n 3, 1) := by decide +kernel
theorem d_M_removePages_58 : decode b_M_removePages 58 = .ok (.aload_n 0, 1) := by decide +kernel
theorem d_M_removePages_59 : decode b_M_removePages 59 = .ok (.getfield 20, 3) := by decide +kernel
theorem d_M_removePages_62 : decode b_M_removePages 62 = .ok (.iload 4, 2) := by decide +kernel
theorem d_M_removePages_64 : decode b_M_removePages 64 = .ok (.iaload, 1) := by decide +kernel
theorem d_M_removePages_65 : decode b_M_removePages 65 = .ok (.iastore, 1) := by decide +kernel
theorem d_M_removePages_66 : decode b_M_removePages 66 = .ok (.aload_n 0, 1) := by decide +kernel
theorem d_M_removePages_67 : decode b_M_removePages 67 = .ok (.getfield 23, 3) := by decide +kernel
theorem d_M_removePages_70 : decode b_M_removePages 70 = .ok (.iload_n 3, 1) := by decide +kernel
theorem d_M_removePages_71 : decode b_M_removePages 71 = .ok (.aload_n 0, 1) := by decide +kernel
theorem d_M_removePages_72 : decode b_M_removePages 72 = .ok (.getfield 23, 3) := by decide +kernel
theorem d_M_removePages_75 : decode b_M_removePages 75 = .ok (.iload 4, 2) := by decide +kernel
theorem d_M_removePages_77 : decode b_M_removePages 77 = .ok (.iaload, 1) := by decide +kernel
theorem d_M_removePages_78 : decode b_M_removePages 78 = .ok (.iastore, 1) := by decide +kernel
theorem d_M_removePages_79 : decode b_M_removePages 79 = .ok (.aload_n 0, 1) := by decide +kernel
theorem d_M_removePages_80 : decode b_M_removePages 80 = .ok (.getfield 26, 3) := by decide +kernel
theorem d_M_removePages_83 : decode b_M_removePages 83 = .ok (.iload_n 3, 1) := by decide +kernel
theorem d_M_removePages_84 : decode b_M_removePages 84 = .ok (.aload_n 0, 1) := by decide +kernel
theorem d_M_removePages_85 : decode b_M_removePages 85 = .ok (.getfield 26, 3) := by decide +kernel
theorem d_M_removePages_88 : decode b_M_removePages 88 = .ok (.iload 4, 2) := by decide +kernel
theorem d_M_removePages_90 : decode b_M_removePages 90 = .ok (.iaload, 1) := by decide +kernel
theorem d_M_removePages_91 : decode b_M_removePages 91 = .ok (.iastore, 1) := by decide +kernel
theorem d_M_removePages_92 : decode b_M_removePages 92 = .ok (.iinc 3 1, 3) := by decide +kernel
theorem d_M_removePages_95 : decode b_M_removePages 95 = .ok (.iinc 4 1, 3) := by decide +kernel
theorem d_M_removePages_98 : decode b_M_removePages 98 = .ok (.goto (-93), 3) := by decide +kernel
theorem d_M_removePages_101 : decode b_M_removePages 101 = .ok (.aload_n 0, 1) := by decide +kernel
theorem d_M_removePages_102 : decode b_M_removePages 102 = .ok (.iload_n 3, 1) := by decide +kernel
theorem d_M_removePages_103 : decode b_M_removePages 103 = .ok (.putfield 57, 3) := by decide +kernel
theorem d_M_removePages_106 : decode b_M_removePages 106 = .ok (.return_, 1) := by decide +kernel
theorem d_M_removeRegions_0 : decode b_M_removeRegions 0 = .ok (.iconst 0, 1) := by decide +kernel
theorem d_M_removeRegions_1 : decode b_M_removeRegions 1 = .ok (.istore_n 2, 1) := by decide +kernel
theorem d_M_removeRegions_2 : decode b_M_removeRegions 2 = .ok (.iconst 0, 1) := by decide +kernel
theorem d_M_removeRegions_3 : decode b_M_removeRegions 3 = .ok (.istore_n 3, 1) := by decide +kernel
theorem d_M_removeRegions_4 : decode b_M_removeRegions 4 = .ok (.iload_n 3, 1) := by decide +kernel
theorem d_M_removeRegions_5 : decode b_M_removeRegions 5 = .ok (.aload_n 0, 1) := by decide +kernel
theorem d_M_removeRegions_6 : decode b_M_removeRegions 6 = .ok (.getfield 60, 3) := by decide +kernel
theorem d_M_removeRegions_9 : decode b_M_removeRegions 9 = .ok (.if_icmp .ge 46, 3) := by decide +kernel
theorem d_M_removeRegions_12 : decode b_M_removeRegions 12 = .ok (.aload_n 0, 1) := by decide +kernel
theorem d_M_removeRegions_13 : decode b_M_removeRegions 13 = .ok (.getfield 29, 3) := by decide +kernel
theorem d_M_removeRegions_16 : decode b_M_removeRegions 16 = .ok (.iload_n 3, 1) := by decide +kernel
theorem d_M_removeRegions_17 : decode b_M_removeRegions 17 = .ok (.iaload, 1) := by decide +kernel
theorem d_M_removeRegions_18 : decode b_M_removeRegions 18 = .ok (.iload_n 1, 1) := by decide +kernel
theorem d_M_removeRegions_19 : decode b_M_removeRegions 19 = .ok (.if_icmp .eq 30, 3) := by decide +kernel
theorem d_M_removeRegions_22 : decode b_M_removeRegions 22 = .ok (.aload_n 0, 1) := by decide +kernel
theorem d_M_removeRegions_23 : decode b_M_removeRegions 23 = .ok (.getfield 29, 3) := by decide +kernel
theorem d_M_removeRegions_26 : decode b_M_removeRegions 26 = .ok (.iload_n 2, 1) := by decide +kernel
theorem d_M_removeRegions_27 : decode b_M_removeRegions 27 = .ok (.aload_n 0, 1) := by decide +kernel
theorem d_M_removeRegions_28 : decode b_M_removeRegions 28 = .ok (.getfield 29, 3) := by decide +kernel
theorem d_M_removeRegions_31 : decode b_M_removeRegions 31 = .ok (.iload_n 3, 1) := by decide +kernel
theorem d_M_removeRegions_32 : decode b_M_removeRegions 32 = .ok (.iaload, 1) := by decide +kernel
theorem d_M_removeRegions_33 : decode b_M_removeRegions 33 = .ok (.iastore, 1) := by decide +kernel
theorem d_M_removeRegions_34 : decode b_M_removeRegions 34 = .ok (.aload_n 0, 1) := by decide +kernel
theorem d_M_removeRegions_35 : decode b_M_removeRegions 35 = .ok (.getfield 32, 3) := by decide +kernel
theorem d_M_removeRegions_38 : decode b_M_removeRegions 38 = .ok (.iload_n 2, 1) := by decide +kernel
theorem d_M_removeRegions_39 : decode b_M_removeRegions 39 = .ok (.aload_n 0, 1) := by decide +kernel
theorem d_M_removeRegions_40 : decode b_M_removeRegions 40 = .ok (.getfield 32, 3) := by decide +kernel
theorem d_M_removeRegions_43 : decode b_M_removeRegions 43 = .ok (.iload_n 3, 1) := by decide +kernel
theorem d_M_removeRegions_44 : decode b_M_removeRegions 44 = .ok (.iaload, 1) := by decide +kernel
theorem d_M_removeRegions_45 : decode b_M_removeRegions 45 = .ok (.iastore, 1) := by decide +kernel
theorem d_M_removeRegions_46 : decode b_M_removeRegions 46 = .ok (.iinc 2 1, 3) := by decide +kernel
theorem d_M_removeRegions_49 : decode b_M_removeRegions 49 = .ok (.iinc 3 1, 3) := by decide +kernel
theorem d_M_removeRegions_52 : decode b_M_removeRegions 52 = .ok (.goto (-48), 3) := by decide +kernel
theorem d_M_removeRegions_55 : decode b_M_removeRegions 55 = .ok (.aload_n 0, 1) := by decide +kernel
theorem d_M_removeRegions_56 : decode b_M_removeRegions 56 = .ok (.iload_n 2, 1) := by decide +kernel
theorem d_M_removeRegions_57 : decode b_M_removeRegions 57 = .ok (.putfield 60, 3) := by decide +kernel
theorem d_M_removeRegions_60 : decode b_M_removeRegions 60 = .ok (.return_, 1) := by decide +kernel
theorem d_M_unused_0 : decode b_M_unused 0 = .ok (.iconst 0, 1) := by decide +kernel
theorem d_M_unused_1 : decode b_M_unused 1 = .ok (.istore_n 1, 1) := by decide +kernel
theorem d_M_unused_2 : decode b_M_unused 2 = .ok (.iload_n 1, 1) := by decide +kernel
theorem d_M_unused_3 : decode b_M_unused 3 = .ok (.bipush 16, 2) := by decide +kernel
theorem d_M_unused_5 : decode b_M_unused 5 = .ok (.if_icmp .ge 20, 3) := by decide +kernel
theorem d_M_unused_8 : decode b_M_unused 8 = .ok (.aload_n 0, 1) := by decide +kernel
theorem d_M_unused_9 : decode b_M_unused 9 = .ok (.getfield 7, 3) := by decide +kernel
theorem d_M_unused_12 : decode b_M_unused 12 = .ok (.iload_n 1, 1) := by decide +kernel
theorem d_M_unused_13 : decode b_M_unused 13 = .ok (.baload, 1) := by decide +kernel
theorem d_M_unused_14 : decode b_M_unused 14 = .ok (.ifCond .ne 5, 3) := by decide +kernel
theorem d_M_unused_17 : decode b_M_unused 17 = .ok (.iload_n 1, 1) := by decide +kernel
theorem d_M_unused_18 : decode b_M_unused 18 = .ok (.ireturn, 1) := by decide +kernel
theorem d_M_unused_19 : decode b_M_unused 19 = .ok (.iinc 1 1, 3) := by decide +kernel
theorem d_M_unused_22 : decode b_M_unused 22 = .ok (.goto (-20), 3) := by decide +kernel
theorem d_M_unused_25 : decode b_M_unused 25 = .ok (.iconst (-1), 1) := by decide +kernel
theorem d_M_unused_26 : decode b_M_unused 26 = .ok (.ireturn, 1) := by decide +kernel
theorem d_M_peopled_0 : decode b_M_peopled 0 = .ok (.iconst 0, 1) := by decide +kernel
theorem d_M_peopled_1 : decode b_M_peopled 1 = .ok (.istore_n 2, 1) := by decide +kernel
theorem d_M_peopled_2 : decode b_M_peopled 2 = .ok (.iconst 0, 1) := by decide +kernel
theorem d_M_peopled_3 : decode b_M_peopled 3 = .ok (.istore_n 3, 1) := by decide +kernel
theorem d_M_peopled_4 : decode b_M_peopled 4 = .ok (.iload_n 3, 1) := by decide +kernel
theorem d_M_peopled_5 : decode b_M_peopled 5 = .ok (.aload_n 0, 1) := by decide +kernel
theorem d_M_peopled_6 : decode b_M_peopled 6 = .ok (.getfield 57, 3) := by decide +kernel
theorem d_M_peopled_9 : decode b_M_peopled 9 = .ok (.if_icmp .ge 83, 3) := by decide +kernel
theorem d_M_peopled_12 : decode b_M_peopled 12 = .ok (.aload_n 0, 1) := by decide +kernel
theorem d_M_peopled_13 : decode b_M_peopled 13 = .ok (.getfield 17, 3) := by decide +kernel
theorem d_M_peopled_16 : decode b_M_peopled 16 = .ok (.iload_n 3, 1) := by decide +kernel
theorem d_M_peopled_17 : decode b_M_peopled 17 = .ok (.iaload, 1) := by decide +kernel
theorem d_M_peopled_18 : decode b_M_peopled 18 = .ok (.iload_n 1, 1) := by decide +kernel
theorem d_M_peopled_19 : decode b_M_peopled 19 = .ok (.if_icmp .ne 67, 3) := by decide +kernel
theorem d_M_peopled_22 : decode b_M_peopled 22 = .ok (.iconst 1, 1) := by decide +kernel
theorem d_M_peopled_23 : decode b_M_peopled 23 = .ok (.istore 4, 2) := by decide +kernel
theorem d_M_peopled_25 : decode b_M_peopled 25 = .ok (.iconst 0, 1) := by decide +kernel
theorem d_M_peopled_26 : decode b_M_peopled 26 = .ok (.istore 5, 2) := by decide +kernel
theorem d_M_peopled_28 : decode b_M_peopled 28 = .ok (.iload 5, 2) := by decide +kernel
theorem d_M_peopled_30 : decode b_M_peopled 30 = .ok (.iload_n 3, 1) := by decide +kernel
theorem d_M_peopled_31 : decode b_M_peopled 31 = .ok (.if_icmp .ge 47, 3) := by decide +kernel
theorem d_M_peopled_34 : decode b_M_peopled 34 = .ok (.aload_n 0, 1) := by decide +kernel
theorem d_M_peopled_35 : decode b_M_peopled 35 = .ok (.getfield 17, 3) := by decide +kernel
theorem d_M_peopled_38 : decode b_M_peopled 38 = .ok (.iload 5, 2) := by decide +kernel
theorem d_M_peopled_40 : decode b_M_peopled 40 = .ok (.iaload, 1) := by decide +kernel
theorem d_M_peopled_41 : decode b_M_peopled 41 = .ok (.iload_n 1, 1) := by decide +kernel
theorem d_M_peopled_42 : decode b_M_peopled 42 = .ok (.if_icmp .ne 30, 3) := by decide +kernel
theorem d_M_peopled_45 : decode b_M_peopled 45 = .ok (.aload_n 0, 1) := by decide +kernel
theorem d_M_peopled_46 : decode b_M_peopled 46 = .ok (.getfield 20, 3) := by decide +kernel
theorem d_M_peopled_49 : decode b_M_peopled 49 = .ok (.iload 5, 2) := by decide +kernel
theorem d_M_peopled_51 : decode b_M_peopled 51 = .ok (.iaload, 1) := by decide +kernel
theorem d_M_peopled_52 : decode b_M_peopled 52 = .ok (.sipush 1024, 3) := by decide +kernel
theorem d_M_peopled_55 : decode b_M_peopled 55 = .ok (.idiv, 1) := by decide +kernel
theorem d_M_peopled_56 : decode b_M_peopled 56 = .ok (.aload_n 0, 1) := by decide +kernel
theorem d_M_peopled_57 : decode b_M_peopled 57 = .ok (.getfield 20, 3) := by decide +kernel
theorem d_M_peopled_60 : decode b_M_peopled 60 = .ok (.iload_n 3, 1) := by decide +kernel
theorem d_M_peopled_61 : decode b_M_peopled 61 = .ok (.iaload, 1) := by decide +kernel
theorem d_M_peopled_62 : decode b_M_peopled 62 = .ok (.sipush 1024, 3) := by decide +kernel
theorem d_M_peopled_65 : decode b_M_peopled 65 = .ok (.idiv, 1) := by decide +kernel
theorem d_M_peopled_66 : decode b_M_peopled 66 = .ok (.if_icmp .ne 6, 3) := by decide +kernel
theorem d_M_peopled_69 : decode b_M_peopled 69 = .ok (.iconst 0, 1) := by decide +kernel
theorem d_M_peopled_70 : decode b_M_peopled 70 = .ok (.istore 4, 2) := by decide +kernel
theorem d_M_peopled_72 : decode b_M_peopled 72 = .ok (.iinc 5 1, 3) := by decide +kernel
theorem d_M_peopled_75 : decode b_M_peopled 75 = .ok (.goto (-47), 3) := by decide +kernel
theorem d_M_peopled_78 : decode b_M_peopled 78 = .ok (.iload 4, 2) := by decide +kernel
theorem d_M_peopled_80 : decode b_M_peopled 80 = .ok (.ifCond .eq 6, 3) := by decide +kernel
theorem d_M_peopled_83 : decode b_M_peopled 83 = .ok (.iinc 2 1, 3) := by decide +kernel
theorem d_M_peopled_86 : decode b_M_peopled 86 = .ok (.iinc 3 1, 3) := by decide +kernel
theorem d_M_peopled_89 : decode b_M_peopled 89 = .ok (.goto (-85), 3) := by decide +kernel
theorem d_M_peopled_92 : decode b_M_peopled 92 = .ok (.iload_n 2, 1) := by decide +kernel
theorem d_M_peopled_93 : decode b_M_peopled 93 = .ok (.ireturn, 1) := by decide +kernel
theorem d_M_touch_0 : decode b_M_touch 0 = .ok (.iload_n 2, 1) := by decide +kernel
theorem d_M_touch_1 : decode b_M_touch 1 = .ok (.ifCond .lt 9, 3) := by decide +kernel
theorem d_M_touch_4 : decode b_M_touch 4 = .ok (.iload_n 2, 1) := by decide +kernel
theorem d_M_touch_5 : decode b_M_touch 5 = .ok (.ldc 86, 2) := by decide +kernel
theorem d_M_touch_7 : decode b_M_touch 7 = .ok (.if_icmp .lt 5, 3) := by decide +kernel
theorem d_M_touch_10 : decode b_M_touch 10 = .ok (.iconst 1, 1) := by decide +kernel
theorem d_M_touch_11 : decode b_M_touch 11 = .ok (.ireturn, 1) := by decide +kernel
theorem d_M_touch_12 : decode b_M_touch 12 = .ok (.aload_n 0, 1) := by decide +kernel
theorem d_M_touch_13 : decode b_M_touch 13 = .ok (.iload_n 1, 1) := by decide +kernel
theorem d_M_touch_14 : decode b_M_touch 14 = .ok (.iload_n 2, 1) := by decide +kernel
theorem d_M_touch_15 : decode b_M_touch 15 = .ok (.invokevirtual 87, 3) := by decide +kernel
theorem d_M_touch_18 : decode b_M_touch 18 = .ok (.istore 4, 2) := by decide +kernel
theorem d_M_touch_20 : decode b_M_touch 20 = .ok (.iload 4, 2) := by decide +kernel
theorem d_M_touch_22 : decode b_M_touch 22 = .ok (.iconst (-1), 1) := by decide +kernel
theorem d_M_touch_23 : decode b_M_touch 23 = .ok (.if_icmp .ne 49, 3) := by decide +kernel
theorem d_M_touch_26 : decode b_M_touch 26 = .ok (.iload_n 2, 1) := by decide +kernel
theorem d_M_touch_27 : decode b_M_touch 27 = .ok (.aload_n 0, 1) := by decide +kernel
theorem d_M_touch_28 : decode b_M_touch 28 = .ok (.getfield 13, 3) := by decide +kernel
theorem d_M_touch_31 : decode b_M_touch 31 = .ok (.iload_n 1, 1) := by decide +kernel
theorem d_M_touch_32 : decode b_M_touch 32 = .ok (.iaload, 1) := by decide +kernel
theorem d_M_touch_33 : decode b_M_touch 33 = .ok (.if_icmp .ge 8, 3) := by decide +kernel
theorem d_M_touch_36 : decode b_M_touch 36 = .ok (.iload_n 3, 1) := by decide +kernel
theorem d_M_touch_37 : decode b_M_touch 37 = .ok (.iconst 4, 1) := by decide +kernel
theorem d_M_touch_38 : decode b_M_touch 38 = .ok (.if_icmp .ne 5, 3) := by decide +kernel
theorem d_M_touch_41 : decode b_M_touch 41 = .ok (.iconst 1, 1) := by decide +kernel
theorem d_M_touch_42 : decode b_M_touch 42 = .ok (.ireturn, 1) := by decide +kernel
theorem d_M_touch_43 : decode b_M_touch 43 = .ok (.aload_n 0, 1) := by decide +kernel
theorem d_M_touch_44 : decode b_M_touch 44 = .ok (.iload_n 1, 1) := by decide +kernel
