theorem dX2_init_0 : decode cX2_init 0 = .ok (.aload_n 0, 1) := by decide +kernel
theorem dX2_init_1 : decode cX2_init 1 = .ok (.invokespecial 3, 3) := by decide +kernel
theorem dX2_init_4 : decode cX2_init 4 = .ok (.aload_n 0, 1) := by decide +kernel
theorem dX2_init_5 : decode cX2_init 5 = .ok (.bipush 10, 2) := by decide +kernel
theorem dX2_init_7 : decode cX2_init 7 = .ok (.newarray .int, 2) := by decide +kernel
theorem dX2_init_9 : decode cX2_init 9 = .ok (.putfield 9, 3) := by decide +kernel
theorem dX2_init_12 : decode cX2_init 12 = .ok (.aload_n 0, 1) := by decide +kernel
theorem dX2_init_13 : decode cX2_init 13 = .ok (.bipush 33, 2) := by decide +kernel
theorem dX2_init_15 : decode cX2_init 15 = .ok (.newarray .int, 2) := by decide +kernel
theorem dX2_init_17 : decode cX2_init 17 = .ok (.putfield 13, 3) := by decide +kernel
theorem dX2_init_20 : decode cX2_init 20 = .ok (.aload_n 0, 1) := by decide +kernel
theorem dX2_init_21 : decode cX2_init 21 = .ok (.bipush 33, 2) := by decide +kernel
theorem dX2_init_23 : decode cX2_init 23 = .ok (.newarray .int, 2) := by decide +kernel
theorem dX2_init_25 : decode cX2_init 25 = .ok (.putfield 16, 3) := by decide +kernel
theorem dX2_init_28 : decode cX2_init 28 = .ok (.return_, 1) := by decide +kernel
theorem dX2_thrown_0 : decode cX2_thrown 0 = .ok (.aload_n 0, 1) := by decide +kernel
theorem dX2_thrown_1 : decode cX2_thrown 1 = .ok (.getfield 19, 3) := by decide +kernel
theorem dX2_thrown_4 : decode cX2_thrown 4 = .ok (.ireturn, 1) := by decide +kernel
theorem dX2_no_0 : decode cX2_no 0 = .ok (.aload_n 0, 1) := by decide +kernel
theorem dX2_no_1 : decode cX2_no 1 = .ok (.iload_n 1, 1) := by decide +kernel
theorem dX2_no_2 : decode cX2_no 2 = .ok (.putfield 19, 3) := by decide +kernel
theorem dX2_no_5 : decode cX2_no 5 = .ok (.iconst 0, 1) := by decide +kernel
theorem dX2_no_6 : decode cX2_no 6 = .ok (.ireturn, 1) := by decide +kernel
theorem dX2_isNot_0 : decode cX2_isNot 0 = .ok (.aload_n 0, 1) := by decide +kernel
theorem dX2_isNot_1 : decode cX2_isNot 1 = .ok (.iload_n 1, 1) := by decide +kernel
theorem dX2_isNot_2 : decode cX2_isNot 2 = .ok (.putfield 19, 3) := by decide +kernel
theorem dX2_isNot_5 : decode cX2_isNot 5 = .ok (.iconst 0, 1) := by decide +kernel
theorem dX2_isNot_6 : decode cX2_isNot 6 = .ok (.ireturn, 1) := by decide +kernel
theorem dX2_ok_0 : decode cX2_ok 0 = .ok (.aload_n 0, 1) := by decide +kernel
theorem dX2_ok_1 : decode cX2_ok 1 = .ok (.iconst 0, 1) := by decide +kernel
theorem dX2_ok_2 : decode cX2_ok 2 = .ok (.putfield 19, 3) := by decide +kernel
theorem dX2_ok_5 : decode cX2_ok 5 = .ok (.iload_n 1, 1) := by decide +kernel
theorem dX2_ok_6 : decode cX2_ok 6 = .ok (.ireturn, 1) := by decide +kernel
theorem dX2_isIn_0 : decode cX2_isIn 0 = .ok (.iload_n 0, 1) := by decide +kernel
theorem dX2_isIn_1 : decode cX2_isIn 1 = .ok (.iload_n 1, 1) := by decide +kernel
theorem dX2_isIn_2 : decode cX2_isIn 2 = .ok (.if_icmp .lt 12, 3) := by decide +kernel
theorem dX2_isIn_5 : decode cX2_isIn 5 = .ok (.iload_n 0, 1) := by decide +kernel
theorem dX2_isIn_6 : decode cX2_isIn 6 = .ok (.iload_n 2, 1) := by decide +kernel
theorem dX2_isIn_7 : decode cX2_isIn 7 = .ok (.if_icmp .gt 7, 3) := by decide +kernel
theorem dX2_isIn_10 : decode cX2_isIn 10 = .ok (.iconst 1, 1) := by decide +kernel
theorem dX2_isIn_11 : decode cX2_isIn 11 = .ok (.goto 4, 3) := by decide +kernel
theorem dX2_isIn_14 : decode cX2_isIn 14 = .ok (.iconst 0, 1) := by decide +kernel
theorem dX2_isIn_15 : decode cX2_isIn 15 = .ok (.ireturn, 1) := by decide +kernel
theorem dX2_isPot_0 : decode cX2_isPot 0 = .ok (.iload_n 1, 1) := by decide +kernel
theorem dX2_isPot_1 : decode cX2_isPot 1 = .ok (.iconst 0, 1) := by decide +kernel
theorem dX2_isPot_2 : decode cX2_isPot 2 = .ok (.aload_n 0, 1) := by decide +kernel
theorem dX2_isPot_3 : decode cX2_isPot 3 = .ok (.getfield 23, 3) := by decide +kernel
theorem dX2_isPot_6 : decode cX2_isPot 6 = .ok (.iconst 1, 1) := by decide +kernel
theorem dX2_isPot_7 : decode cX2_isPot 7 = .ok (.isub, 1) := by decide +kernel
theorem dX2_isPot_8 : decode cX2_isPot 8 = .ok (.invokestatic 26, 3) := by decide +kernel
theorem dX2_isPot_11 : decode cX2_isPot 11 = .ok (.ireturn, 1) := by decide +kernel
theorem dX2_keep_0 : decode cX2_keep 0 = .ok (.aload_n 0, 1) := by decide +kernel
theorem dX2_keep_1 : decode cX2_keep 1 = .ok (.getfield 13, 3) := by decide +kernel
theorem dX2_keep_4 : decode cX2_keep 4 = .ok (.iconst 0, 1) := by decide +kernel
theorem dX2_keep_5 : decode cX2_keep 5 = .ok (.aload_n 0, 1) := by decide +kernel
theorem dX2_keep_6 : decode cX2_keep 6 = .ok (.getfield 16, 3) := by decide +kernel
theorem dX2_keep_9 : decode cX2_keep 9 = .ok (.iconst 0, 1) := by decide +kernel
theorem dX2_keep_10 : decode cX2_keep 10 = .ok (.bipush 33, 2) := by decide +kernel
theorem dX2_keep_12 : decode cX2_keep 12 = .ok (.invokestatic 30, 3) := by decide +kernel
theorem dX2_keep_15 : decode cX2_keep 15 = .ok (.return_, 1) := by decide +kernel
theorem dX2_bringBack_0 : decode cX2_bringBack 0 = .ok (.aload_n 0, 1) := by decide +kernel
theorem dX2_bringBack_1 : decode cX2_bringBack 1 = .ok (.getfield 16, 3) := by decide +kernel
theorem dX2_bringBack_4 : decode cX2_bringBack 4 = .ok (.iconst 0, 1) := by decide +kernel
theorem dX2_bringBack_5 : decode cX2_bringBack 5 = .ok (.aload_n 0, 1) := by decide +kernel
theorem dX2_bringBack_6 : decode cX2_bringBack 6 = .ok (.getfield 13, 3) := by decide +kernel
theorem dX2_bringBack_9 : decode cX2_bringBack 9 = .ok (.iconst 0, 1) := by decide +kernel
theorem dX2_bringBack_10 : decode cX2_bringBack 10 = .ok (.bipush 33, 2) := by decide +kernel
theorem dX2_bringBack_12 : decode cX2_bringBack 12 = .ok (.invokestatic 30, 3) := by decide +kernel
theorem dX2_bringBack_15 : decode cX2_bringBack 15 = .ok (.return_, 1) := by decide +kernel
theorem dX2_heard_0 : decode cX2_heard 0 = .ok (.aload_n 0, 1) := by decide +kernel
theorem dX2_heard_1 : decode cX2_heard 1 = .ok (.getfield 13, 3) := by decide +kernel
theorem dX2_heard_4 : decode cX2_heard 4 = .ok (.bipush 13, 2) := by decide +kernel
theorem dX2_heard_6 : decode cX2_heard 6 = .ok (.iload_n 1, 1) := by decide +kernel
theorem dX2_heard_7 : decode cX2_heard 7 = .ok (.iadd, 1) := by decide +kernel
theorem dX2_heard_8 : decode cX2_heard 8 = .ok (.iaload, 1) := by decide +kernel
theorem dX2_heard_9 : decode cX2_heard 9 = .ok (.ifCond .le 18, 3) := by decide +kernel
theorem dX2_heard_12 : decode cX2_heard 12 = .ok (.aload_n 0, 1) := by decide +kernel
theorem dX2_heard_13 : decode cX2_heard 13 = .ok (.getfield 36, 3) := by decide +kernel
theorem dX2_heard_16 : decode cX2_heard 16 = .ok (.iload_n 1, 1) := by decide +kernel
theorem dX2_heard_17 : decode cX2_heard 17 = .ok (.ishr, 1) := by decide +kernel
theorem dX2_heard_18 : decode cX2_heard 18 = .ok (.iconst 1, 1) := by decide +kernel
theorem dX2_heard_19 : decode cX2_heard 19 = .ok (.iand, 1) := by decide +kernel
theorem dX2_heard_20 : decode cX2_heard 20 = .ok (.ifCond .ne 7, 3) := by decide +kernel
theorem dX2_heard_23 : decode cX2_heard 23 = .ok (.iconst 1, 1) := by decide +kernel
theorem dX2_heard_24 : decode cX2_heard 24 = .ok (.goto 4, 3) := by decide +kernel
theorem dX2_heard_27 : decode cX2_heard 27 = .ok (.iconst 0, 1) := by decide +kernel
theorem dX2_heard_28 : decode cX2_heard 28 = .ok (.ireturn, 1) := by decide +kernel
theorem dX2_set_0 : decode cX2_set 0 = .ok (.iconst 0, 1) := by decide +kernel
theorem dX2_set_1 : decode cX2_set 1 = .ok (.istore_n 1, 1) := by decide +kernel
theorem dX2_set_2 : decode cX2_set 2 = .ok (.iconst 0, 1) := by decide +kernel
theorem dX2_set_3 : decode cX2_set 3 = .ok (.istore_n 2, 1) := by decide +kernel
theorem dX2_set_4 : decode cX2_set 4 = .ok (.iload_n 2, 1) := by decide +kernel
theorem dX2_set_5 : decode cX2_set 5 = .ok (.aload_n 0, 1) := by decide +kernel
theorem dX2_set_6 : decode cX2_set 6 = .ok (.getfield 23, 3) := by decide +kernel
theorem dX2_set_9 : decode cX2_set 9 = .ok (.if_icmp .ge 23, 3) := by decide +kernel
theorem dX2_set_12 : decode cX2_set 12 = .ok (.aload_n 0, 1) := by decide +kernel
theorem dX2_set_13 : decode cX2_set 13 = .ok (.iload_n 2, 1) := by decide +kernel
theorem dX2_set_14 : decode cX2_set 14 = .ok (.invokevirtual 39, 3) := by decide +kernel
theorem dX2_set_17 : decode cX2_set 17 = .ok (.ifCond .eq 9, 3) := by decide +kernel
theorem dX2_set_20 : decode cX2_set 20 = .ok (.iload_n 1, 1) := by decide +kernel
theorem dX2_set_21 : decode cX2_set 21 = .ok (.iconst 1, 1) := by decide +kernel
theorem dX2_set_22 : decode cX2_set 22 = .ok (.iload_n 2, 1) := by decide +kernel
theorem dX2_set_23 : decode cX2_set 23 = .ok (.ishl, 1) := by decide +kernel
theorem dX2_set_24 : decode cX2_set 24 = .ok (.ior, 1) := by decide +kernel
theorem dX2_set_25 : decode cX2_set 25 = .ok (.istore_n 1, 1) := by decide +kernel
theorem dX2_set_26 : decode cX2_set 26 = .ok (.iinc 2 1, 3) := by decide +kernel
theorem dX2_set_29 : decode cX2_set 29 = .ok (.goto (-25), 3) := by decide +kernel
theorem dX2_set_32 : decode cX2_set 32 = .ok (.iload_n 1, 1) := by decide +kernel
theorem dX2_set_33 : decode cX2_set 33 = .ok (.ireturn, 1) := by decide +kernel
theorem dX2_apart_0 : decode cX2_apart 0 = .ok (.aload_n 0, 1) := by decide +kernel
theorem dX2_apart_1 : decode cX2_apart 1 = .ok (.getfield 13, 3) := by decide +kernel
theorem dX2_apart_4 : decode cX2_apart 4 = .ok (.iconst 3, 1) := by decide +kernel
theorem dX2_apart_5 : decode cX2_apart 5 = .ok (.iload_n 1, 1) := by decide +kernel
theorem dX2_apart_6 : decode cX2_apart 6 = .ok (.iadd, 1) := by decide +kernel
theorem dX2_apart_7 : decode cX2_apart 7 = .ok (.iaload, 1) := by decide +kernel
theorem dX2_apart_8 : decode cX2_apart 8 = .ok (.aload_n 0, 1) := by decide +kernel
theorem dX2_apart_9 : decode cX2_apart 9 = .ok (.getfield 13, 3) := by decide +kernel
theorem dX2_apart_12 : decode cX2_apart 12 = .ok (.iconst 3, 1) := by decide +kernel
theorem dX2_apart_13 : decode cX2_apart 13 = .ok (.iload_n 2, 1) := by decide +kernel
theorem dX2_apart_14 : decode cX2_apart 14 = .ok (.iadd, 1) := by decide +kernel
theorem dX2_apart_15 : decode cX2_apart 15 = .ok (.iaload, 1) := by decide +kernel
theorem dX2_apart_16 : decode cX2_apart 16 = .ok (.isub, 1) := by decide +kernel
theorem dX2_apart_17 : decode cX2_apart 17 = .ok (.invokestatic 43, 3) := by decide +kernel
theorem dX2_apart_20 : decode cX2_apart 20 = .ok (.ireturn, 1) := by decide +kernel
theorem dX2_accord_0 : decode cX2_accord 0 = .ok (.sipush 953, 3) := by decide +kernel
theorem dX2_accord_3 : decode cX2_accord 3 = .ok (.aload_n 0, 1) := by decide +kernel
theorem dX2_accord_4 : decode cX2_accord 4 = .ok (.iload_n 1, 1) := by decide +kernel
theorem dX2_accord_5 : decode cX2_accord 5 = .ok (.iload_n 2, 1) := by decide +kernel
theorem dX2_accord_6 : decode cX2_accord 6 = .ok (.invokevirtual 49, 3) := by decide +kernel
theorem dX2_accord_9 : decode cX2_accord 9 = .ok (.bipush 12, 2) := by decide +kernel
theorem dX2_accord_11 : decode cX2_accord 11 = .ok (.irem, 1) := by decide +kernel
theorem dX2_accord_12 : decode cX2_accord 12 = .ok (.ishr, 1) := by decide +kernel
theorem dX2_accord_13 : decode cX2_accord 13 = .ok (.iconst 1, 1) := by decide +kernel
theorem dX2_accord_14 : decode cX2_accord 14 = .ok (.iand, 1) := by decide +kernel
theorem dX2_accord_15 : decode cX2_accord 15 = .ok (.iconst 1, 1) := by decide +kernel
theorem dX2_accord_16 : decode cX2_accord 16 = .ok (.if_icmp .ne 7, 3) := by decide +kernel
theorem dX2_accord_19 : decode cX2_accord 19 = .ok (.iconst 1, 1) := by decide +kernel
theorem dX2_accord_20 : decode cX2_accord 20 = .ok (.goto 4, 3) := by decide +kernel
theorem dX2_accord_23 : decode cX2_accord 23 = .ok (.iconst 0, 1) := by decide +kernel
theorem dX2_accord_24 : decode cX2_accord 24 = .ok (.ireturn, 1) := by decide +kernel
theorem dX2_against_0 : decode cX2_against 0 = .ok (.iconst 0, 1) := by decide +kernel
theorem dX2_against_1 : decode cX2_against 1 = .ok (.istore_n 3, 1) := by decide +kernel
theorem dX2_against_2 : decode cX2_against 2 = .ok (.iconst 0, 1) := by decide +kernel
theorem dX2_against_3 : decode cX2_against 3 = .ok (.istore 4, 2) := by decide +kernel
theorem dX2_against_5 : decode cX2_against 5 = .ok (.iload 4, 2) := by decide +kernel
theorem dX2_against_7 : decode cX2_against 7 = .ok (.aload_n 0, 1) := by decide +kernel
theorem dX2_against_8 : decode cX2_against 8 = .ok (.getfield 23, 3) := by decide +kernel
theorem dX2_against_11 : decode cX2_against 11 = .ok (.if_icmp .ge 37, 3) := by decide +kernel
theorem dX2_against_14 : decode cX2_against 14 = .ok (.iload_n 3, 1) := by decide +kernel
theorem dX2_against_15 : decode cX2_against 15 = .ok (.iload_n 2, 1) := by decide +kernel
theorem dX2_against_16 : decode cX2_against 16 = .ok (.iload 4, 2) := by decide +kernel
theorem dX2_against_18 : decode cX2_against 18 = .ok (.ishr, 1) := by decide +kernel
theorem dX2_against_19 : decode cX2_against 19 = .ok (.iconst 1, 1) := by decide +kernel
theorem dX2_against_20 : decode cX2_against 20 = .ok (.iand, 1) := by decide +kernel
theorem dX2_against_21 : decode cX2_against 21 = .ok (.iconst 1, 1) := by decide +kernel
theorem dX2_against_22 : decode cX2_against 22 = .ok (.if_icmp .ne 17, 3) := by decide +kernel
theorem dX2_against_25 : decode cX2_against 25 = .ok (.aload_n 0, 1) := by decide +kernel
theorem dX2_against_26 : decode cX2_against 26 = .ok (.iload_n 1, 1) := by decide +kernel
theorem dX2_against_27 : decode cX2_against 27 = .ok (.iload 4, 2) := by decide +kernel
theorem dX2_against_29 : decode cX2_against 29 = .ok (.invokevirtual 53, 3) := by decide +kernel
theorem dX2_against_32 : decode cX2_against 32 = .ok (.ifCond .ne 7, 3) := by decide +kernel
theorem dX2_against_35 : decode cX2_against 35 = .ok (.iconst 1, 1) := by decide +kernel
theorem dX2_against_36 : decode cX2_against 36 = .ok (.goto 4, 3) := by decide +kernel
theorem dX2_against_39 : decode cX2_against 39 = .ok (.iconst 0, 1) := by decide +kernel
theorem dX2_against_40 : decode cX2_against 40 = .ok (.iadd, 1) := by decide +kernel
theorem dX2_against_41 : decode cX2_against 41 = .ok (.istore_n 3, 1) := by decide +kernel
theorem dX2_against_42 : decode cX2_against 42 = .ok (.iinc 4 1, 3) := by decide +kernel
theorem dX2_against_45 : decode cX2_against 45 = .ok (.goto (-40), 3) := by decide +kernel
theorem dX2_against_48 : decode cX2_against 48 = .ok (.iload_n 3, 1) := by decide +kernel
theorem dX2_against_49 : decode cX2_against 49 = .ok (.ireturn, 1) := by decide +kernel
theorem dX2_allClashes_0 : decode cX2_allClashes 0 = .ok (.iconst 0, 1) := by decide +kernel
theorem dX2_allClashes_1 : decode cX2_allClashes 1 = .ok (.istore_n 2, 1) := by decide +kernel
theorem dX2_allClashes_2 : decode cX2_allClashes 2 = .ok (.iconst 0, 1) := by decide +kernel
theorem dX2_allClashes_3 : decode cX2_allClashes 3 = .ok (.istore_n 3, 1) := by decide +kernel
theorem dX2_allClashes_4 : decode cX2_allClashes 4 = .ok (.iload_n 3, 1) := by decide +kernel
theorem dX2_allClashes_5 : decode cX2_allClashes 5 = .ok (.aload_n 0, 1) := by decide +kernel
theorem dX2_allClashes_6 : decode cX2_allClashes 6 = .ok (.getfield 23, 3) := by decide +kernel
theorem dX2_allClashes_9 : decode cX2_allClashes 9 = .ok (.if_icmp .ge 31, 3) := by decide +kernel
theorem dX2_allClashes_12 : decode cX2_allClashes 12 = .ok (.iload_n 2, 1) := by decide +kernel
theorem dX2_allClashes_13 : decode cX2_allClashes 13 = .ok (.iload_n 1, 1) := by decide +kernel
theorem dX2_allClashes_14 : decode cX2_allClashes 14 = .ok (.iload_n 3, 1) := by decide +kernel
theorem dX2_allClashes_15 : decode cX2_allClashes 15 = .ok (.ishr, 1) := by decide +kernel
theorem dX2_allClashes_16 : decode cX2_allClashes 16 = .ok (.iconst 1, 1) := by decide +kernel
theorem dX2_allClashes_17 : decode cX2_allClashes 17 = .ok (.iand, 1) := by decide +kernel
theorem dX2_allClashes_18 : decode cX2_allClashes 18 = .ok (.iconst 1, 1) := by decide +kernel
theorem dX2_allClashes_19 : decode cX2_allClashes 19 = .ok (.if_icmp .ne 12, 3) := by decide +kernel
theorem dX2_allClashes_22 : decode cX2_allClashes 22 = .ok (.aload_n 0, 1) := by decide +kernel
theorem dX2_allClashes_23 : decode cX2_allClashes 23 = .ok (.iload_n 3, 1) := by decide +kernel
theorem dX2_allClashes_24 : decode cX2_allClashes 24 = .ok (.iload_n 1, 1) := by decide +kernel
theorem dX2_allClashes_25 : decode cX2_allClashes 25 = .ok (.invokevirtual 57, 3) := by decide +kernel
theorem dX2_allClashes_28 : decode cX2_allClashes 28 = .ok (.goto 4, 3) := by decide +kernel
theorem dX2_allClashes_31 : decode cX2_allClashes 31 = .ok (.iconst 0, 1) := by decide +kernel
theorem dX2_allClashes_32 : decode cX2_allClashes 32 = .ok (.iadd, 1) := by decide +kernel
theorem dX2_allClashes_33 : decode cX2_allClashes 33 = .ok (.istore_n 2, 1) := by decide +kernel
theorem dX2_allClashes_34 : decode cX2_allClashes 34 = .ok (.iinc 3 1, 3) := by decide +kernel
theorem dX2_allClashes_37 : decode cX2_allClashes 37 = .ok (.goto (-33), 3) := by decide +kernel
theorem dX2_allClashes_40 : decode cX2_allClashes 40 = .ok (.iload_n 2, 1) := by decide +kernel
theorem dX2_allClashes_41 : decode cX2_allClashes 41 = .ok (.iconst 2, 1) := by decide +kernel
theorem dX2_allClashes_42 : decode cX2_allClashes 42 = .ok (.idiv, 1) := by decide +kernel
theorem dX2_allClashes_43 : decode cX2_allClashes 43 = .ok (.ireturn, 1) := by decide +kernel
theorem dX2_harmonyOf_0 : decode cX2_harmonyOf 0 = .ok (.iload_n 1, 1) := by decide +kernel
theorem dX2_harmonyOf_1 : decode cX2_harmonyOf 1 = .ok (.invokestatic 60, 3) := by decide +kernel
theorem dX2_harmonyOf_4 : decode cX2_harmonyOf 4 = .ok (.istore_n 2, 1) := by decide +kernel
theorem dX2_harmonyOf_5 : decode cX2_harmonyOf 5 = .ok (.iload_n 2, 1) := by decide +kernel
theorem dX2_harmonyOf_6 : decode cX2_harmonyOf 6 = .ok (.iload_n 2, 1) := by decide +kernel
theorem dX2_harmonyOf_7 : decode cX2_harmonyOf 7 = .ok (.iconst 1, 1) := by decide +kernel
theorem dX2_harmonyOf_8 : decode cX2_harmonyOf 8 = .ok (.isub, 1) := by decide +kernel
theorem dX2_harmonyOf_9 : decode cX2_harmonyOf 9 = .ok (.imul, 1) := by decide +kernel
theorem dX2_harmonyOf_10 : decode cX2_harmonyOf 10 = .ok (.iconst 2, 1) := by decide +kernel
theorem dX2_harmonyOf_11 : decode cX2_harmonyOf 11 = .ok (.idiv, 1) := by decide +kernel
theorem dX2_harmonyOf_12 : decode cX2_harmonyOf 12 = .ok (.iconst 2, 1) := by decide +kernel
theorem dX2_harmonyOf_13 : decode cX2_harmonyOf 13 = .ok (.aload_n 0, 1) := by decide +kernel
theorem dX2_harmonyOf_14 : decode cX2_harmonyOf 14 = .ok (.iload_n 1, 1) := by decide +kernel
theorem dX2_harmonyOf_15 : decode cX2_harmonyOf 15 = .ok (.invokevirtual 65, 3) := by decide +kernel
theorem dX2_harmonyOf_18 : decode cX2_harmonyOf 18 = .ok (.imul, 1) := by decide +kernel
theorem dX2_harmonyOf_19 : decode cX2_harmonyOf 19 = .ok (.isub, 1) := by decide +kernel
theorem dX2_harmonyOf_20 : decode cX2_harmonyOf 20 = .ok (.ireturn, 1) := by decide +kernel
theorem dX2_clear_0 : decode cX2_clear 0 = .ok (.aload_n 0, 1) := by decide +kernel
theorem dX2_clear_1 : decode cX2_clear 1 = .ok (.invokevirtual 68, 3) := by decide +kernel
theorem dX2_clear_4 : decode cX2_clear 4 = .ok (.invokestatic 60, 3) := by decide +kernel
theorem dX2_clear_7 : decode cX2_clear 7 = .ok (.iconst 2, 1) := by decide +kernel
theorem dX2_clear_8 : decode cX2_clear 8 = .ok (.if_icmp .le 18, 3) := by decide +kernel
theorem dX2_clear_11 : decode cX2_clear 11 = .ok (.aload_n 0, 1) := by decide +kernel
theorem dX2_clear_12 : decode cX2_clear 12 = .ok (.aload_n 0, 1) := by decide +kernel
theorem dX2_clear_13 : decode cX2_clear 13 = .ok (.invokevirtual 68, 3) := by decide +kernel
theorem dX2_clear_16 : decode cX2_clear 16 = .ok (.invokevirtual 65, 3) := by decide +kernel
theorem dX2_clear_19 : decode cX2_clear 19 = .ok (.ifCond .ne 7, 3) := by decide +kernel
theorem dX2_clear_22 : decode cX2_clear 22 = .ok (.iconst 1, 1) := by decide +kernel
theorem dX2_clear_23 : decode cX2_clear 23 = .ok (.goto 4, 3) := by decide +kernel
theorem dX2_clear_26 : decode cX2_clear 26 = .ok (.iconst 0, 1) := by decide +kernel
theorem dX2_clear_27 : decode cX2_clear 27 = .ok (.ireturn, 1) := by decide +kernel
theorem dX2_beat_0 : decode cX2_beat 0 = .ok (.aload_n 0, 1) := by decide +kernel
theorem dX2_beat_1 : decode cX2_beat 1 = .ok (.invokevirtual 68, 3) := by decide +kernel
theorem dX2_beat_4 : decode cX2_beat 4 = .ok (.istore_n 1, 1) := by decide +kernel
theorem dX2_beat_5 : decode cX2_beat 5 = .ok (.aload_n 0, 1) := by decide +kernel
theorem dX2_beat_6 : decode cX2_beat 6 = .ok (.iload_n 1, 1) := by decide +kernel
theorem dX2_beat_7 : decode cX2_beat 7 = .ok (.invokevirtual 65, 3) := by decide +kernel
theorem dX2_beat_10 : decode cX2_beat 10 = .ok (.istore_n 2, 1) := by decide +kernel
theorem dX2_beat_11 : decode cX2_beat 11 = .ok (.aload_n 0, 1) := by decide +kernel
theorem dX2_beat_12 : decode cX2_beat 12 = .ok (.getfield 13, 3) := by decide +kernel
theorem dX2_beat_15 : decode cX2_beat 15 = .ok (.iconst 2, 1) := by decide +kernel
theorem dX2_beat_16 : decode cX2_beat 16 = .ok (.iaload, 1) := by decide +kernel
theorem dX2_beat_17 : decode cX2_beat 17 = .ok (.iconst 1, 1) := by decide +kernel
theorem dX2_beat_18 : decode cX2_beat 18 = .ok (.if_icmp .ne 14, 3) := by decide +kernel
theorem dX2_beat_21 : decode cX2_beat 21 = .ok (.aload_n 0, 1) := by decide +kernel
theorem dX2_beat_22 : decode cX2_beat 22 = .ok (.invokevirtual 72, 3) := by decide +kernel
theorem dX2_beat_25 : decode cX2_beat 25 = .ok (.ifCond .eq 7, 3) := by decide +kernel
theorem dX2_beat_28 : decode cX2_beat 28 = .ok (.iconst 1, 1) := by decide +kernel
theorem dX2_beat_29 : decode cX2_beat 29 = .ok (.goto 4, 3) := by decide +kernel
theorem dX2_beat_32 : decode cX2_beat 32 = .ok (.iconst 0, 1) := by decide +kernel
theorem dX2_beat_33 : decode cX2_beat 33 = .ok (.istore_n 3, 1) := by decide +kernel
theorem dX2_beat_34 : decode cX2_beat 34 = .ok (.aload_n 0, 1) := by decide +kernel
theorem dX2_beat_35 : decode cX2_beat 35 = .ok (.getfield 13, 3) := by decide +kernel
theorem dX2_beat_38 : decode cX2_beat 38 = .ok (.iconst 0, 1) := by decide +kernel
theorem dX2_beat_39 : decode cX2_beat 39 = .ok (.iaload, 1) := by decide +kernel
theorem dX2_beat_40 : decode cX2_beat 40 = .ok (.iconst 4, 1) := by decide +kernel
theorem dX2_beat_41 : decode cX2_beat 41 = .ok (.irem, 1) := by decide +kernel
theorem dX2_beat_42 : decode cX2_beat 42 = .ok (.ifCond .ne 7, 3) := by decide +kernel
theorem dX2_beat_45 : decode cX2_beat 45 = .ok (.iconst 1, 1) := by decide +kernel
theorem dX2_beat_46 : decode cX2_beat 46 = .ok (.goto 4, 3) := by decide +kernel
theorem dX2_beat_49 : decode cX2_beat 49 = .ok (.iconst 0, 1) := by decide +kernel
theorem dX2_beat_50 : decode cX2_beat 50 = .ok (.istore 4, 2) := by decide +kernel
theorem dX2_beat_52 : decode cX2_beat 52 = .ok (.aload_n 0, 1) := by decide +kernel
theorem dX2_beat_53 : decode cX2_beat 53 = .ok (.getfield 13, 3) := by decide +kernel
theorem dX2_beat_56 : decode cX2_beat 56 = .ok (.iconst 0, 1) := by decide +kernel
theorem dX2_beat_57 : decode cX2_beat 57 = .ok (.iaload, 1) := by decide +kernel
theorem dX2_beat_58 : decode cX2_beat 58 = .ok (.iconst 3, 1) := by decide +kernel
theorem dX2_beat_59 : decode cX2_beat 59 = .ok (.irem, 1) := by decide +kernel
theorem dX2_beat_60 : decode cX2_beat 60 = .ok (.ifCond .ne 7, 3) := by decide +kernel
theorem dX2_beat_63 : decode cX2_beat 63 = .ok (.iconst 1, 1) := by decide +kernel
theorem dX2_beat_64 : decode cX2_beat 64 = .ok (.goto 4, 3) := by decide +kernel
theorem dX2_beat_67 : decode cX2_beat 67 = .ok (.iconst 0, 1) := by decide +kernel
theorem dX2_beat_68 : decode cX2_beat 68 = .ok (.istore 5, 2) := by decide +kernel
theorem dX2_beat_70 : decode cX2_beat 70 = .ok (.iconst 0, 1) := by decide +kernel
theorem dX2_beat_71 : decode cX2_beat 71 = .ok (.istore 6, 2) := by decide +kernel
theorem dX2_beat_73 : decode cX2_beat 73 = .ok (.iload 6, 2) := by decide +kernel
theorem dX2_beat_75 : decode cX2_beat 75 = .ok (.aload_n 0, 1) := by decide +kernel
theorem dX2_beat_76 : decode cX2_beat 76 = .ok (.getfield 23, 3) := by decide +kernel
theorem dX2_beat_79 : decode cX2_beat 79 = .ok (.if_icmp .ge 177, 3) := by decide +kernel
theorem dX2_beat_82 : decode cX2_beat 82 = .ok (.aload_n 0, 1) := by decide +kernel
theorem dX2_beat_83 : decode cX2_beat 83 = .ok (.getfield 13, 3) := by decide +kernel
theorem dX2_beat_86 : decode cX2_beat 86 = .ok (.bipush 23, 2) := by decide +kernel
theorem dX2_beat_88 : decode cX2_beat 88 = .ok (.iload 6, 2) := by decide +kernel
theorem dX2_beat_90 : decode cX2_beat 90 = .ok (.iadd, 1) := by decide +kernel
theorem dX2_beat_91 : decode cX2_beat 91 = .ok (.iaload, 1) := by decide +kernel
theorem dX2_beat_92 : decode cX2_beat 92 = .ok (.istore 7, 2) := by decide +kernel
theorem dX2_beat_94 : decode cX2_beat 94 = .ok (.iload_n 1, 1) := by decide +kernel
theorem dX2_beat_95 : decode cX2_beat 95 = .ok (.iload 6, 2) := by decide +kernel
theorem dX2_beat_97 : decode cX2_beat 97 = .ok (.ishr, 1) := by decide +kernel
theorem dX2_beat_98 : decode cX2_beat 98 = .ok (.iconst 1, 1) := by decide +kernel
theorem dX2_beat_99 : decode cX2_beat 99 = .ok (.iand, 1) := by decide +kernel
theorem dX2_beat_100 : decode cX2_beat 100 = .ok (.iconst 1, 1) := by decide +kernel
theorem dX2_beat_101 : decode cX2_beat 101 = .ok (.if_icmp .ne 113, 3) := by decide +kernel
theorem dX2_beat_104 : decode cX2_beat 104 = .ok (.aload_n 0, 1) := by decide +kernel
theorem dX2_beat_105 : decode cX2_beat 105 = .ok (.getfield 13, 3) := by decide +kernel
theorem dX2_beat_108 : decode cX2_beat 108 = .ok (.bipush 13, 2) := by decide +kernel
theorem dX2_beat_110 : decode cX2_beat 110 = .ok (.iload 6, 2) := by decide +kernel
theorem dX2_beat_112 : decode cX2_beat 112 = .ok (.iadd, 1) := by decide +kernel
theorem dX2_beat_113 : decode cX2_beat 113 = .ok (.iconst 0, 1) := by decide +kernel
theorem dX2_beat_114 : decode cX2_beat 114 = .ok (.aload_n 0, 1) := by decide +kernel
theorem dX2_beat_115 : decode cX2_beat 115 = .ok (.getfield 13, 3) := by decide +kernel
theorem dX2_beat_118 : decode cX2_beat 118 = .ok (.bipush 13, 2) := by decide +kernel
theorem dX2_beat_120 : decode cX2_beat 120 = .ok (.iload 6, 2) := by decide +kernel
theorem dX2_beat_122 : decode cX2_beat 122 = .ok (.iadd, 1) := by decide +kernel
theorem dX2_beat_123 : decode cX2_beat 123 = .ok (.iaload, 1) := by decide +kernel
theorem dX2_beat_124 : decode cX2_beat 124 = .ok (.iconst 1, 1) := by decide +kernel
theorem dX2_beat_125 : decode cX2_beat 125 = .ok (.isub, 1) := by decide +kernel
theorem dX2_beat_126 : decode cX2_beat 126 = .ok (.iload 7, 2) := by decide +kernel
theorem dX2_beat_128 : decode cX2_beat 128 = .ok (.iconst 3, 1) := by decide +kernel
theorem dX2_beat_129 : decode cX2_beat 129 = .ok (.idiv, 1) := by decide +kernel
theorem dX2_beat_130 : decode cX2_beat 130 = .ok (.isub, 1) := by decide +kernel
theorem dX2_beat_131 : decode cX2_beat 131 = .ok (.invokestatic 76, 3) := by decide +kernel
theorem dX2_beat_134 : decode cX2_beat 134 = .ok (.iastore, 1) := by decide +kernel
theorem dX2_beat_135 : decode cX2_beat 135 = .ok (.iload 4, 2) := by decide +kernel
theorem dX2_beat_137 : decode cX2_beat 137 = .ok (.ifCond .eq 36, 3) := by decide +kernel
theorem dX2_beat_140 : decode cX2_beat 140 = .ok (.aload_n 0, 1) := by decide +kernel
theorem dX2_beat_141 : decode cX2_beat 141 = .ok (.getfield 13, 3) := by decide +kernel
theorem dX2_beat_144 : decode cX2_beat 144 = .ok (.iconst 3, 1) := by decide +kernel
theorem dX2_beat_145 : decode cX2_beat 145 = .ok (.iload 6, 2) := by decide +kernel
theorem dX2_beat_147 : decode cX2_beat 147 = .ok (.iadd, 1) := by decide +kernel
theorem dX2_beat_148 : decode cX2_beat 148 = .ok (.iaload, 1) := by decide +kernel
theorem dX2_beat_149 : decode cX2_beat 149 = .ok (.bipush 24, 2) := by decide +kernel
theorem dX2_beat_151 : decode cX2_beat 151 = .ok (.if_icmp .lt 22, 3) := by decide +kernel
theorem dX2_beat_154 : decode cX2_beat 154 = .ok (.aload_n 0, 1) := by decide +kernel
theorem dX2_beat_155 : decode cX2_beat 155 = .ok (.getfield 13, 3) := by decide +kernel
theorem dX2_beat_158 : decode cX2_beat 158 = .ok (.bipush 23, 2) := by decide +kernel
theorem dX2_beat_160 : decode cX2_beat 160 = .ok (.iload 6, 2) := by decide +kernel
theorem dX2_beat_162 : decode cX2_beat 162 = .ok (.iadd, 1) := by decide +kernel
theorem dX2_beat_163 : decode cX2_beat 163 = .ok (.bipush 9, 2) := by decide +kernel
theorem dX2_beat_165 : decode cX2_beat 165 = .ok (.iload 7, 2) := by decide +kernel
theorem dX2_beat_167 : decode cX2_beat 167 = .ok (.iconst 1, 1) := by decide +kernel
theorem dX2_beat_168 : decode cX2_beat 168 = .ok (.iadd, 1) := by decide +kernel
theorem dX2_beat_169 : decode cX2_beat 169 = .ok (.invokestatic 79, 3) := by decide +kernel
theorem dX2_beat_172 : decode cX2_beat 172 = .ok (.iastore, 1) := by decide +kernel
theorem dX2_beat_173 : decode cX2_beat 173 = .ok (.aload_n 0, 1) := by decide +kernel
theorem dX2_beat_174 : decode cX2_beat 174 = .ok (.getfield 13, 3) := by decide +kernel
theorem dX2_beat_177 : decode cX2_beat 177 = .ok (.bipush 23, 2) := by decide +kernel
theorem dX2_beat_179 : decode cX2_beat 179 = .ok (.iload 6, 2) := by decide +kernel
theorem dX2_beat_181 : decode cX2_beat 181 = .ok (.iadd, 1) := by decide +kernel
theorem dX2_beat_182 : decode cX2_beat 182 = .ok (.iaload, 1) := by decide +kernel
theorem dX2_beat_183 : decode cX2_beat 183 = .ok (.iconst 5, 1) := by decide +kernel
theorem dX2_beat_184 : decode cX2_beat 184 = .ok (.if_icmp .lt 66, 3) := by decide +kernel
theorem dX2_beat_187 : decode cX2_beat 187 = .ok (.aload_n 0, 1) := by decide +kernel
theorem dX2_beat_188 : decode cX2_beat 188 = .ok (.getfield 13, 3) := by decide +kernel
theorem dX2_beat_191 : decode cX2_beat 191 = .ok (.iconst 3, 1) := by decide +kernel
theorem dX2_beat_192 : decode cX2_beat 192 = .ok (.iload 6, 2) := by decide +kernel
theorem dX2_beat_194 : decode cX2_beat 194 = .ok (.iadd, 1) := by decide +kernel
theorem dX2_beat_195 : decode cX2_beat 195 = .ok (.iconst 0, 1) := by decide +kernel
theorem dX2_beat_196 : decode cX2_beat 196 = .ok (.aload_n 0, 1) := by decide +kernel
theorem dX2_beat_197 : decode cX2_beat 197 = .ok (.getfield 13, 3) := by decide +kernel
theorem dX2_beat_200 : decode cX2_beat 200 = .ok (.iconst 3, 1) := by decide +kernel
theorem dX2_beat_201 : decode cX2_beat 201 = .ok (.iload 6, 2) := by decide +kernel
theorem dX2_beat_203 : decode cX2_beat 203 = .ok (.iadd, 1) := by decide +kernel
theorem dX2_beat_204 : decode cX2_beat 204 = .ok (.iaload, 1) := by decide +kernel
theorem dX2_beat_205 : decode cX2_beat 205 = .ok (.iconst 1, 1) := by decide +kernel
theorem dX2_beat_206 : decode cX2_beat 206 = .ok (.isub, 1) := by decide +kernel
theorem dX2_beat_207 : decode cX2_beat 207 = .ok (.invokestatic 76, 3) := by decide +kernel
theorem dX2_beat_210 : decode cX2_beat 210 = .ok (.iastore, 1) := by decide +kernel
theorem dX2_beat_211 : decode cX2_beat 211 = .ok (.goto 39, 3) := by decide +kernel
theorem dX2_beat_214 : decode cX2_beat 214 = .ok (.iload 5, 2) := by decide +kernel
theorem dX2_beat_216 : decode cX2_beat 216 = .ok (.ifCond .eq 34, 3) := by decide +kernel
theorem dX2_beat_219 : decode cX2_beat 219 = .ok (.aload_n 0, 1) := by decide +kernel
theorem dX2_beat_220 : decode cX2_beat 220 = .ok (.getfield 36, 3) := by decide +kernel
theorem dX2_beat_223 : decode cX2_beat 223 = .ok (.iload 6, 2) := by decide +kernel
theorem dX2_beat_225 : decode cX2_beat 225 = .ok (.ishr, 1) := by decide +kernel
theorem dX2_beat_226 : decode cX2_beat 226 = .ok (.iconst 1, 1) := by decide +kernel
theorem dX2_beat_227 : decode cX2_beat 227 = .ok (.iand, 1) := by decide +kernel
theorem dX2_beat_228 : decode cX2_beat 228 = .ok (.iconst 1, 1) := by decide +kernel
theorem dX2_beat_229 : decode cX2_beat 229 = .ok (.if_icmp .ne 21, 3) := by decide +kernel
theorem dX2_beat_232 : decode cX2_beat 232 = .ok (.aload_n 0, 1) := by decide +kernel
theorem dX2_beat_233 : decode cX2_beat 233 = .ok (.getfield 13, 3) := by decide +kernel
theorem dX2_beat_236 : decode cX2_beat 236 = .ok (.bipush 23, 2) := by decide +kernel
theorem dX2_beat_238 : decode cX2_beat 238 = .ok (.iload 6, 2) := by decide +kernel
theorem dX2_beat_240 : decode cX2_beat 240 = .ok (.iadd, 1) := by decide +kernel
theorem dX2_beat_241 : decode cX2_beat 241 = .ok (.iconst 0, 1) := by decide +kernel
theorem dX2_beat_242 : decode cX2_beat 242 = .ok (.iload 7, 2) := by decide +kernel
theorem dX2_beat_244 : decode cX2_beat 244 = .ok (.iconst 1, 1) := by decide +kernel
theorem dX2_beat_245 : decode cX2_beat 245 = .ok (.isub, 1) := by decide +kernel
theorem dX2_beat_246 : decode cX2_beat 246 = .ok (.invokestatic 76, 3) := by decide +kernel
theorem dX2_beat_249 : decode cX2_beat 249 = .ok (.iastore, 1) := by decide +kernel
theorem dX2_beat_250 : decode cX2_beat 250 = .ok (.iinc 6 1, 3) := by decide +kernel
theorem dX2_beat_253 : decode cX2_beat 253 = .ok (.goto (-180), 3) := by decide +kernel
theorem dX2_beat_256 : decode cX2_beat 256 = .ok (.aload_n 0, 1) := by decide +kernel
theorem dX2_beat_257 : decode cX2_beat 257 = .ok (.getfield 13, 3) := by decide +kernel
theorem dX2_beat_260 : decode cX2_beat 260 = .ok (.iconst 1, 1) := by decide +kernel
theorem dX2_beat_261 : decode cX2_beat 261 = .ok (.dup2, 1) := by decide +kernel
theorem dX2_beat_262 : decode cX2_beat 262 = .ok (.iaload, 1) := by decide +kernel
theorem dX2_beat_263 : decode cX2_beat 263 = .ok (.iload_n 3, 1) := by decide +kernel
theorem dX2_beat_264 : decode cX2_beat 264 = .ok (.iadd, 1) := by decide +kernel
theorem dX2_beat_265 : decode cX2_beat 265 = .ok (.iastore, 1) := by decide +kernel
theorem dX2_beat_266 : decode cX2_beat 266 = .ok (.aload_n 0, 1) := by decide +kernel
theorem dX2_beat_267 : decode cX2_beat 267 = .ok (.getfield 13, 3) := by decide +kernel
theorem dX2_beat_270 : decode cX2_beat 270 = .ok (.iconst 2, 1) := by decide +kernel
theorem dX2_beat_271 : decode cX2_beat 271 = .ok (.iload_n 2, 1) := by decide +kernel
theorem dX2_beat_272 : decode cX2_beat 272 = .ok (.ifCond .le 7, 3) := by decide +kernel
theorem dX2_beat_275 : decode cX2_beat 275 = .ok (.iconst 1, 1) := by decide +kernel
theorem dX2_beat_276 : decode cX2_beat 276 = .ok (.goto 4, 3) := by decide +kernel
theorem dX2_beat_279 : decode cX2_beat 279 = .ok (.iconst 0, 1) := by decide +kernel
theorem dX2_beat_280 : decode cX2_beat 280 = .ok (.iastore, 1) := by decide +kernel
theorem dX2_beat_281 : decode cX2_beat 281 = .ok (.aload_n 0, 1) := by decide +kernel
theorem dX2_beat_282 : decode cX2_beat 282 = .ok (.getfield 13, 3) := by decide +kernel
theorem dX2_beat_285 : decode cX2_beat 285 = .ok (.iconst 0, 1) := by decide +kernel
theorem dX2_beat_286 : decode cX2_beat 286 = .ok (.dup2, 1) := by decide +kernel
theorem dX2_beat_287 : decode cX2_beat 287 = .ok (.iaload, 1) := by decide +kernel
theorem dX2_beat_288 : decode cX2_beat 288 = .ok (.iconst 1, 1) := by decide +kernel
theorem dX2_beat_289 : decode cX2_beat 289 = .ok (.iadd, 1) := by decide +kernel
theorem dX2_beat_290 : decode cX2_beat 290 = .ok (.iastore, 1) := by decide +kernel
theorem dX2_beat_291 : decode cX2_beat 291 = .ok (.iload_n 3, 1) := by decide +kernel
theorem dX2_beat_292 : decode cX2_beat 292 = .ok (.ireturn, 1) := by decide +kernel
theorem dX2_beats_0 : decode cX2_beats 0 = .ok (.iconst 0, 1) := by decide +kernel
theorem dX2_beats_1 : decode cX2_beats 1 = .ok (.istore_n 2, 1) := by decide +kernel
theorem dX2_beats_2 : decode cX2_beats 2 = .ok (.iconst 0, 1) := by decide +kernel
theorem dX2_beats_3 : decode cX2_beats 3 = .ok (.istore_n 3, 1) := by decide +kernel
theorem dX2_beats_4 : decode cX2_beats 4 = .ok (.iload_n 3, 1) := by decide +kernel
theorem dX2_beats_5 : decode cX2_beats 5 = .ok (.iload_n 1, 1) := by decide +kernel
theorem dX2_beats_6 : decode cX2_beats 6 = .ok (.if_icmp .ge 16, 3) := by decide +kernel
theorem dX2_beats_9 : decode cX2_beats 9 = .ok (.iload_n 2, 1) := by decide +kernel
theorem dX2_beats_10 : decode cX2_beats 10 = .ok (.aload_n 0, 1) := by decide +kernel
theorem dX2_beats_11 : decode cX2_beats 11 = .ok (.invokevirtual 82, 3) := by decide +kernel
theorem dX2_beats_14 : decode cX2_beats 14 = .ok (.iadd, 1) := by decide +kernel
theorem dX2_beats_15 : decode cX2_beats 15 = .ok (.istore_n 2, 1) := by decide +kernel
theorem dX2_beats_16 : decode cX2_beats 16 = .ok (.iinc 3 1, 3) := by decide +kernel
theorem dX2_beats_19 : decode cX2_beats 19 = .ok (.goto (-15), 3) := by decide +kernel
theorem dX2_beats_22 : decode cX2_beats 22 = .ok (.iload_n 2, 1) := by decide +kernel
theorem dX2_beats_23 : decode cX2_beats 23 = .ok (.ireturn, 1) := by decide +kernel
theorem dX2_addPot_0 : decode cX2_addPot 0 = .ok (.aload_n 0, 1) := by decide +kernel
theorem dX2_addPot_1 : decode cX2_addPot 1 = .ok (.iconst 0, 1) := by decide +kernel
theorem dX2_addPot_2 : decode cX2_addPot 2 = .ok (.putfield 19, 3) := by decide +kernel
theorem dX2_addPot_5 : decode cX2_addPot 5 = .ok (.iload_n 1, 1) := by decide +kernel
theorem dX2_addPot_6 : decode cX2_addPot 6 = .ok (.iconst 0, 1) := by decide +kernel
theorem dX2_addPot_7 : decode cX2_addPot 7 = .ok (.iconst 3, 1) := by decide +kernel
theorem dX2_addPot_8 : decode cX2_addPot 8 = .ok (.invokestatic 26, 3) := by decide +kernel
theorem dX2_addPot_11 : decode cX2_addPot 11 = .ok (.ifCond .eq 23, 3) := by decide +kernel
theorem dX2_addPot_14 : decode cX2_addPot 14 = .ok (.iload_n 2, 1) := by decide +kernel
theorem dX2_addPot_15 : decode cX2_addPot 15 = .ok (.iconst 0, 1) := by decide +kernel
theorem dX2_addPot_16 : decode cX2_addPot 16 = .ok (.bipush 35, 2) := by decide +kernel
theorem dX2_addPot_18 : decode cX2_addPot 18 = .ok (.invokestatic 26, 3) := by decide +kernel
theorem dX2_addPot_21 : decode cX2_addPot 21 = .ok (.ifCond .eq 13, 3) := by decide +kernel
theorem dX2_addPot_24 : decode cX2_addPot 24 = .ok (.iload_n 3, 1) := by decide +kernel
theorem dX2_addPot_25 : decode cX2_addPot 25 = .ok (.iconst 0, 1) := by decide +kernel
theorem dX2_addPot_26 : decode cX2_addPot 26 = .ok (.bipush 20, 2) := by decide +kernel
theorem dX2_addPot_28 : decode cX2_addPot 28 = .ok (.invokestatic 26, 3) := by decide +kernel
theorem dX2_addPot_31 : decode cX2_addPot 31 = .ok (.ifCond .ne 9, 3) := by decide +kernel
theorem dX2_addPot_34 : decode cX2_addPot 34 = .ok (.aload_n 0, 1) := by decide +kernel
theorem dX2_addPot_35 : decode cX2_addPot 35 = .ok (.iconst 1, 1) := by decide +kernel
theorem dX2_addPot_36 : decode cX2_addPot 36 = .ok (.invokevirtual 85, 3) := by decide +kernel
theorem dX2_addPot_39 : decode cX2_addPot 39 = .ok (.ireturn, 1) := by decide +kernel
theorem dX2_addPot_40 : decode cX2_addPot 40 = .ok (.aload_n 0, 1) := by decide +kernel
theorem dX2_addPot_41 : decode cX2_addPot 41 = .ok (.getfield 23, 3) := by decide +kernel
theorem dX2_addPot_44 : decode cX2_addPot 44 = .ok (.bipush 10, 2) := by decide +kernel
theorem dX2_addPot_46 : decode cX2_addPot 46 = .ok (.if_icmp .ne 9, 3) := by decide +kernel
theorem dX2_addPot_49 : decode cX2_addPot 49 = .ok (.aload_n 0, 1) := by decide +kernel
theorem dX2_addPot_50 : decode cX2_addPot 50 = .ok (.iconst 2, 1) := by decide +kernel
theorem dX2_addPot_51 : decode cX2_addPot 51 = .ok (.invokevirtual 85, 3) := by decide +kernel
theorem dX2_addPot_54 : decode cX2_addPot 54 = .ok (.ireturn, 1) := by decide +kernel
theorem dX2_addPot_55 : decode cX2_addPot 55 = .ok (.aload_n 0, 1) := by decide +kernel
theorem dX2_addPot_56 : decode cX2_addPot 56 = .ok (.getfield 9, 3) := by decide +kernel
theorem dX2_addPot_59 : decode cX2_addPot 59 = .ok (.aload_n 0, 1) := by decide +kernel
theorem dX2_addPot_60 : decode cX2_addPot 60 = .ok (.getfield 23, 3) := by decide +kernel
theorem dX2_addPot_63 : decode cX2_addPot 63 = .ok (.iload_n 1, 1) := by decide +kernel
theorem dX2_addPot_64 : decode cX2_addPot 64 = .ok (.iastore, 1) := by decide +kernel
theorem dX2_addPot_65 : decode cX2_addPot 65 = .ok (.aload_n 0, 1) := by decide +kernel
theorem dX2_addPot_66 : decode cX2_addPot 66 = .ok (.getfield 13, 3) := by decide +kernel
theorem dX2_addPot_69 : decode cX2_addPot 69 = .ok (.iconst 3, 1) := by decide +kernel
theorem dX2_addPot_70 : decode cX2_addPot 70 = .ok (.aload_n 0, 1) := by decide +kernel
theorem dX2_addPot_71 : decode cX2_addPot 71 = .ok (.getfield 23, 3) := by decide +kernel
theorem dX2_addPot_74 : decode cX2_addPot 74 = .ok (.iadd, 1) := by decide +kernel
theorem dX2_addPot_75 : decode cX2_addPot 75 = .ok (.iload_n 2, 1) := by decide +kernel
theorem dX2_addPot_76 : decode cX2_addPot 76 = .ok (.iastore, 1) := by decide +kernel
theorem dX2_addPot_77 : decode cX2_addPot 77 = .ok (.aload_n 0, 1) := by decide +kernel
theorem dX2_addPot_78 : decode cX2_addPot 78 = .ok (.getfield 13, 3) := by decide +kernel
theorem dX2_addPot_81 : decode cX2_addPot 81 = .ok (.bipush 13, 2) := by decide +kernel
theorem dX2_addPot_83 : decode cX2_addPot 83 = .ok (.aload_n 0, 1) := by decide +kernel
theorem dX2_addPot_84 : decode cX2_addPot 84 = .ok (.getfield 23, 3) := by decide +kernel
theorem dX2_addPot_87 : decode cX2_addPot 87 = .ok (.iadd, 1) := by decide +kernel
theorem dX2_addPot_88 : decode cX2_addPot 88 = .ok (.iload_n 3, 1) := by decide +kernel
theorem dX2_addPot_89 : decode cX2_addPot 89 = .ok (.iastore, 1) := by decide +kernel
theorem dX2_addPot_90 : decode cX2_addPot 90 = .ok (.aload_n 0, 1) := by decide +kernel
theorem dX2_addPot_91 : decode cX2_addPot 91 = .ok (.dup, 1) := by decide +kernel
theorem dX2_addPot_92 : decode cX2_addPot 92 = .ok (.getfield 23, 3) := by decide +kernel
theorem dX2_addPot_95 : decode cX2_addPot 95 = .ok (.iconst 1, 1) := by decide +kernel
theorem dX2_addPot_96 : decode cX2_addPot 96 = .ok (.iadd, 1) := by decide +kernel
theorem dX2_addPot_97 : decode cX2_addPot 97 = .ok (.putfield 23, 3) := by decide +kernel
theorem dX2_addPot_100 : decode cX2_addPot 100 = .ok (.aload_n 0, 1) := by decide +kernel
theorem dX2_addPot_101 : decode cX2_addPot 101 = .ok (.getfield 23, 3) := by decide +kernel
theorem dX2_addPot_104 : decode cX2_addPot 104 = .ok (.iconst 1, 1) := by decide +kernel
theorem dX2_addPot_105 : decode cX2_addPot 105 = .ok (.isub, 1) := by decide +kernel
theorem dX2_addPot_106 : decode cX2_addPot 106 = .ok (.ireturn, 1) := by decide +kernel
theorem dX2_tune_0 : decode cX2_tune 0 = .ok (.aload_n 0, 1) := by decide +kernel
theorem dX2_tune_1 : decode cX2_tune 1 = .ok (.iconst 0, 1) := by decide +kernel
theorem dX2_tune_2 : decode cX2_tune 2 = .ok (.putfield 19, 3) := by decide +kernel
theorem dX2_tune_5 : decode cX2_tune 5 = .ok (.aload_n 0, 1) := by decide +kernel
theorem dX2_tune_6 : decode cX2_tune 6 = .ok (.iload_n 1, 1) := by decide +kernel
theorem dX2_tune_7 : decode cX2_tune 7 = .ok (.invokevirtual 88, 3) := by decide +kernel
theorem dX2_tune_10 : decode cX2_tune 10 = .ok (.ifCond .ne 9, 3) := by decide +kernel
theorem dX2_tune_13 : decode cX2_tune 13 = .ok (.aload_n 0, 1) := by decide +kernel
theorem dX2_tune_14 : decode cX2_tune 14 = .ok (.iconst 1, 1) := by decide +kernel
theorem dX2_tune_15 : decode cX2_tune 15 = .ok (.invokevirtual 85, 3) := by decide +kernel
theorem dX2_tune_18 : decode cX2_tune 18 = .ok (.ireturn, 1) := by decide +kernel
theorem dX2_tune_19 : decode cX2_tune 19 = .ok (.iload_n 2, 1) := by decide +kernel
theorem dX2_tune_20 : decode cX2_tune 20 = .ok (.bipush (-12), 2) := by decide +kernel
theorem dX2_tune_22 : decode cX2_tune 22 = .ok (.bipush 12, 2) := by decide +kernel
theorem dX2_tune_24 : decode cX2_tune 24 = .ok (.invokestatic 26, 3) := by decide +kernel
theorem dX2_tune_27 : decode cX2_tune 27 = .ok (.ifCond .eq 22, 3) := by decide +kernel
theorem dX2_tune_30 : decode cX2_tune 30 = .ok (.aload_n 0, 1) := by decide +kernel
theorem dX2_tune_31 : decode cX2_tune 31 = .ok (.getfield 13, 3) := by decide +kernel
theorem dX2_tune_34 : decode cX2_tune 34 = .ok (.iconst 3, 1) := by decide +kernel
theorem dX2_tune_35 : decode cX2_tune 35 = .ok (.iload_n 1, 1) := by decide +kernel
theorem dX2_tune_36 : decode cX2_tune 36 = .ok (.iadd, 1) := by decide +kernel
theorem dX2_tune_37 : decode cX2_tune 37 = .ok (.iaload, 1) := by decide +kernel
theorem dX2_tune_38 : decode cX2_tune 38 = .ok (.iload_n 2, 1) := by decide +kernel
theorem dX2_tune_39 : decode cX2_tune 39 = .ok (.iadd, 1) := by decide +kernel
theorem dX2_tune_40 : decode cX2_tune 40 = .ok (.iconst 0, 1) := by decide +kernel
theorem dX2_tune_41 : decode cX2_tune 41 = .ok (.bipush 35, 2) := by decide +kernel
theorem dX2_tune_43 : decode cX2_tune 43 = .ok (.invokestatic 26, 3) := by decide +kernel
theorem dX2_tune_46 : decode cX2_tune 46 = .ok (.ifCond .ne 9, 3) := by decide +kernel
theorem dX2_tune_49 : decode cX2_tune 49 = .ok (.aload_n 0, 1) := by decide +kernel
theorem dX2_tune_50 : decode cX2_tune 50 = .ok (.iconst 2, 1) := by decide +kernel
theorem dX2_tune_51 : decode cX2_tune 51 = .ok (.invokevirtual 85, 3) := by decide +kernel
theorem dX2_tune_54 : decode cX2_tune 54 = .ok (.ireturn, 1) := by decide +kernel
theorem dX2_tune_55 : decode cX2_tune 55 = .ok (.aload_n 0, 1) := by decide +kernel
theorem dX2_tune_56 : decode cX2_tune 56 = .ok (.getfield 13, 3) := by decide +kernel
theorem dX2_tune_59 : decode cX2_tune 59 = .ok (.iconst 3, 1) := by decide +kernel
theorem dX2_tune_60 : decode cX2_tune 60 = .ok (.iload_n 1, 1) := by decide +kernel
theorem dX2_tune_61 : decode cX2_tune 61 = .ok (.iadd, 1) := by decide +kernel
theorem dX2_tune_62 : decode cX2_tune 62 = .ok (.dup2, 1) := by decide +kernel
theorem dX2_tune_63 : decode cX2_tune 63 = .ok (.iaload, 1) := by decide +kernel
theorem dX2_tune_64 : decode cX2_tune 64 = .ok (.iload_n 2, 1) := by decide +kernel
theorem dX2_tune_65 : decode cX2_tune 65 = .ok (.iadd, 1) := by decide +kernel
theorem dX2_tune_66 : decode cX2_tune 66 = .ok (.iastore, 1) := by decide +kernel
theorem dX2_tune_67 : decode cX2_tune 67 = .ok (.aload_n 0, 1) := by decide +kernel
theorem dX2_tune_68 : decode cX2_tune 68 = .ok (.getfield 13, 3) := by decide +kernel
theorem dX2_tune_71 : decode cX2_tune 71 = .ok (.iconst 3, 1) := by decide +kernel
theorem dX2_tune_72 : decode cX2_tune 72 = .ok (.iload_n 1, 1) := by decide +kernel
theorem dX2_tune_73 : decode cX2_tune 73 = .ok (.iadd, 1) := by decide +kernel
theorem dX2_tune_74 : decode cX2_tune 74 = .ok (.iaload, 1) := by decide +kernel
theorem dX2_tune_75 : decode cX2_tune 75 = .ok (.ireturn, 1) := by decide +kernel
theorem dX2_turnCosy_0 : decode cX2_turnCosy 0 = .ok (.aload_n 0, 1) := by decide +kernel
theorem dX2_turnCosy_1 : decode cX2_turnCosy 1 = .ok (.iconst 0, 1) := by decide +kernel
theorem dX2_turnCosy_2 : decode cX2_turnCosy 2 = .ok (.putfield 19, 3) := by decide +kernel
theorem dX2_turnCosy_5 : decode cX2_turnCosy 5 = .ok (.aload_n 0, 1) := by decide +kernel
theorem dX2_turnCosy_6 : decode cX2_turnCosy 6 = .ok (.iload_n 1, 1) := by decide +kernel
theorem dX2_turnCosy_7 : decode cX2_turnCosy 7 = .ok (.invokevirtual 88, 3) := by decide +kernel
theorem dX2_turnCosy_10 : decode cX2_turnCosy 10 = .ok (.ifCond .ne 9, 3) := by decide +kernel
theorem dX2_turnCosy_13 : decode cX2_turnCosy 13 = .ok (.aload_n 0, 1) := by decide +kernel
theorem dX2_turnCosy_14 : decode cX2_turnCosy 14 = .ok (.iconst 1, 1) := by decide +kernel
theorem dX2_turnCosy_15 : decode cX2_turnCosy 15 = .ok (.invokevirtual 91, 3) := by decide +kernel
theorem dX2_turnCosy_18 : decode cX2_turnCosy 18 = .ok (.ireturn, 1) := by decide +kernel
theorem dX2_turnCosy_19 : decode cX2_turnCosy 19 = .ok (.aload_n 0, 1) := by decide +kernel
theorem dX2_turnCosy_20 : decode cX2_turnCosy 20 = .ok (.dup, 1) := by decide +kernel
theorem dX2_turnCosy_21 : decode cX2_turnCosy 21 = .ok (.getfield 36, 3) := by decide +kernel
theorem dX2_turnCosy_24 : decode cX2_turnCosy 24 = .ok (.iconst 1, 1) := by decide +kernel
theorem dX2_turnCosy_25 : decode cX2_turnCosy 25 = .ok (.iload_n 1, 1) := by decide +kernel
theorem dX2_turnCosy_26 : decode cX2_turnCosy 26 = .ok (.ishl, 1) := by decide +kernel
theorem dX2_turnCosy_27 : decode cX2_turnCosy 27 = .ok (.ixor, 1) := by decide +kernel
theorem dX2_turnCosy_28 : decode cX2_turnCosy 28 = .ok (.putfield 36, 3) := by decide +kernel
theorem dX2_turnCosy_31 : decode cX2_turnCosy 31 = .ok (.aload_n 0, 1) := by decide +kernel
theorem dX2_turnCosy_32 : decode cX2_turnCosy 32 = .ok (.getfield 36, 3) := by decide +kernel
theorem dX2_turnCosy_35 : decode cX2_turnCosy 35 = .ok (.iload_n 1, 1) := by decide +kernel
theorem dX2_turnCosy_36 : decode cX2_turnCosy 36 = .ok (.ishr, 1) := by decide +kernel
theorem dX2_turnCosy_37 : decode cX2_turnCosy 37 = .ok (.iconst 1, 1) := by decide +kernel
theorem dX2_turnCosy_38 : decode cX2_turnCosy 38 = .ok (.iand, 1) := by decide +kernel
theorem dX2_turnCosy_39 : decode cX2_turnCosy 39 = .ok (.iconst 1, 1) := by decide +kernel
theorem dX2_turnCosy_40 : decode cX2_turnCosy 40 = .ok (.if_icmp .ne 7, 3) := by decide +kernel
theorem dX2_turnCosy_43 : decode cX2_turnCosy 43 = .ok (.iconst 1, 1) := by decide +kernel
theorem dX2_turnCosy_44 : decode cX2_turnCosy 44 = .ok (.goto 4, 3) := by decide +kernel
theorem dX2_turnCosy_47 : decode cX2_turnCosy 47 = .ok (.iconst 0, 1) := by decide +kernel
theorem dX2_turnCosy_48 : decode cX2_turnCosy 48 = .ok (.ireturn, 1) := by decide +kernel
theorem dX2_pour_0 : decode cX2_pour 0 = .ok (.aload_n 0, 1) := by decide +kernel
theorem dX2_pour_1 : decode cX2_pour 1 = .ok (.iconst 0, 1) := by decide +kernel
theorem dX2_pour_2 : decode cX2_pour 2 = .ok (.putfield 19, 3) := by decide +kernel
theorem dX2_pour_5 : decode cX2_pour 5 = .ok (.aload_n 0, 1) := by decide +kernel
theorem dX2_pour_6 : decode cX2_pour 6 = .ok (.iload_n 1, 1) := by decide +kernel
theorem dX2_pour_7 : decode cX2_pour 7 = .ok (.invokevirtual 88, 3) := by decide +kernel
theorem dX2_pour_10 : decode cX2_pour 10 = .ok (.ifCond .eq 11, 3) := by decide +kernel
theorem dX2_pour_13 : decode cX2_pour 13 = .ok (.aload_n 0, 1) := by decide +kernel
theorem dX2_pour_14 : decode cX2_pour 14 = .ok (.iload_n 2, 1) := by decide +kernel
theorem dX2_pour_15 : decode cX2_pour 15 = .ok (.invokevirtual 88, 3) := by decide +kernel
theorem dX2_pour_18 : decode cX2_pour 18 = .ok (.ifCond .ne 9, 3) := by decide +kernel
theorem dX2_pour_21 : decode cX2_pour 21 = .ok (.aload_n 0, 1) := by decide +kernel
theorem dX2_pour_22 : decode cX2_pour 22 = .ok (.iconst 1, 1) := by decide +kernel
theorem dX2_pour_23 : decode cX2_pour 23 = .ok (.invokevirtual 85, 3) := by decide +kernel
theorem dX2_pour_26 : decode cX2_pour 26 = .ok (.ireturn, 1) := by decide +kernel
theorem dX2_pour_27 : decode cX2_pour 27 = .ok (.iload_n 1, 1) := by decide +kernel
theorem dX2_pour_28 : decode cX2_pour 28 = .ok (.iload_n 2, 1) := by decide +kernel
theorem dX2_pour_29 : decode cX2_pour 29 = .ok (.if_icmp .eq 13, 3) := by decide +kernel
theorem dX2_pour_32 : decode cX2_pour 32 = .ok (.iload_n 3, 1) := by decide +kernel
theorem dX2_pour_33 : decode cX2_pour 33 = .ok (.iconst 1, 1) := by decide +kernel
theorem dX2_pour_34 : decode cX2_pour 34 = .ok (.bipush 20, 2) := by decide +kernel
theorem dX2_pour_36 : decode cX2_pour 36 = .ok (.invokestatic 26, 3) := by decide +kernel
theorem dX2_pour_39 : decode cX2_pour 39 = .ok (.ifCond .ne 9, 3) := by decide +kernel
theorem dX2_pour_42 : decode cX2_pour 42 = .ok (.aload_n 0, 1) := by decide +kernel
theorem dX2_pour_43 : decode cX2_pour 43 = .ok (.iconst 2, 1) := by decide +kernel
theorem dX2_pour_44 : decode cX2_pour 44 = .ok (.invokevirtual 85, 3) := by decide +kernel
theorem dX2_pour_47 : decode cX2_pour 47 = .ok (.ireturn, 1) := by decide +kernel
theorem dX2_pour_48 : decode cX2_pour 48 = .ok (.iload_n 3, 1) := by decide +kernel
theorem dX2_pour_49 : decode cX2_pour 49 = .ok (.aload_n 0, 1) := by decide +kernel
theorem dX2_pour_50 : decode cX2_pour 50 = .ok (.getfield 13, 3) := by decide +kernel
theorem dX2_pour_53 : decode cX2_pour 53 = .ok (.bipush 13, 2) := by decide +kernel
theorem dX2_pour_55 : decode cX2_pour 55 = .ok (.iload_n 1, 1) := by decide +kernel
theorem dX2_pour_56 : decode cX2_pour 56 = .ok (.iadd, 1) := by decide +kernel
theorem dX2_pour_57 : decode cX2_pour 57 = .ok (.iaload, 1) := by decide +kernel
theorem dX2_pour_58 : decode cX2_pour 58 = .ok (.bipush 20, 2) := by decide +kernel
theorem dX2_pour_60 : decode cX2_pour 60 = .ok (.aload_n 0, 1) := by decide +kernel
theorem dX2_pour_61 : decode cX2_pour 61 = .ok (.getfield 13, 3) := by decide +kernel
theorem dX2_pour_64 : decode cX2_pour 64 = .ok (.bipush 13, 2) := by decide +kernel
theorem dX2_pour_66 : decode cX2_pour 66 = .ok (.iload_n 2, 1) := by decide +kernel
theorem dX2_pour_67 : decode cX2_pour 67 = .ok (.iadd, 1) := by decide +kernel
theorem dX2_pour_68 : decode cX2_pour 68 = .ok (.iaload, 1) := by decide +kernel
theorem dX2_pour_69 : decode cX2_pour 69 = .ok (.isub, 1) := by decide +kernel
theorem dX2_pour_70 : decode cX2_pour 70 = .ok (.invokestatic 79, 3) := by decide +kernel
theorem dX2_pour_73 : decode cX2_pour 73 = .ok (.invokestatic 79, 3) := by decide +kernel
theorem dX2_pour_76 : decode cX2_pour 76 = .ok (.istore 4, 2) := by decide +kernel
theorem dX2_pour_78 : decode cX2_pour 78 = .ok (.aload_n 0, 1) := by decide +kernel
theorem dX2_pour_79 : decode cX2_pour 79 = .ok (.getfield 13, 3) := by decide +kernel
theorem dX2_pour_82 : decode cX2_pour 82 = .ok (.bipush 13, 2) := by decide +kernel
theorem dX2_pour_84 : decode cX2_pour 84 = .ok (.iload_n 1, 1) := by decide +kernel
theorem dX2_pour_85 : decode cX2_pour 85 = .ok (.iadd, 1) := by decide +kernel
theorem dX2_pour_86 : decode cX2_pour 86 = .ok (.dup2, 1) := by decide +kernel
theorem dX2_pour_87 : decode cX2_pour 87 = .ok (.iaload, 1) := by decide +kernel
theorem dX2_pour_88 : decode cX2_pour 88 = .ok (.iload 4, 2) := by decide +kernel
theorem dX2_pour_90 : decode cX2_pour 90 = .ok (.isub, 1) := by decide +kernel
theorem dX2_pour_91 : decode cX2_pour 91 = .ok (.iastore, 1) := by decide +kernel
theorem dX2_pour_92 : decode cX2_pour 92 = .ok (.aload_n 0, 1) := by decide +kernel
theorem dX2_pour_93 : decode cX2_pour 93 = .ok (.getfield 13, 3) := by decide +kernel
theorem dX2_pour_96 : decode cX2_pour 96 = .ok (.bipush 13, 2) := by decide +kernel
theorem dX2_pour_98 : decode cX2_pour 98 = .ok (.iload_n 2, 1) := by decide +kernel
theorem dX2_pour_99 : decode cX2_pour 99 = .ok (.iadd, 1) := by decide +kernel
theorem dX2_pour_100 : decode cX2_pour 100 = .ok (.dup2, 1) := by decide +kernel
theorem dX2_pour_101 : decode cX2_pour 101 = .ok (.iaload, 1) := by decide +kernel
theorem dX2_pour_102 : decode cX2_pour 102 = .ok (.iload 4, 2) := by decide +kernel
theorem dX2_pour_104 : decode cX2_pour 104 = .ok (.iadd, 1) := by decide +kernel
theorem dX2_pour_105 : decode cX2_pour 105 = .ok (.iastore, 1) := by decide +kernel
theorem dX2_pour_106 : decode cX2_pour 106 = .ok (.iload 4, 2) := by decide +kernel
theorem dX2_pour_108 : decode cX2_pour 108 = .ok (.ireturn, 1) := by decide +kernel
theorem dX2_fill_0 : decode cX2_fill 0 = .ok (.aload_n 0, 1) := by decide +kernel
theorem dX2_fill_1 : decode cX2_fill 1 = .ok (.iconst 0, 1) := by decide +kernel
theorem dX2_fill_2 : decode cX2_fill 2 = .ok (.putfield 19, 3) := by decide +kernel
theorem dX2_fill_5 : decode cX2_fill 5 = .ok (.aload_n 0, 1) := by decide +kernel
theorem dX2_fill_6 : decode cX2_fill 6 = .ok (.iload_n 1, 1) := by decide +kernel
theorem dX2_fill_7 : decode cX2_fill 7 = .ok (.invokevirtual 88, 3) := by decide +kernel
theorem dX2_fill_10 : decode cX2_fill 10 = .ok (.ifCond .ne 9, 3) := by decide +kernel
theorem dX2_fill_13 : decode cX2_fill 13 = .ok (.aload_n 0, 1) := by decide +kernel
theorem dX2_fill_14 : decode cX2_fill 14 = .ok (.iconst 1, 1) := by decide +kernel
theorem dX2_fill_15 : decode cX2_fill 15 = .ok (.invokevirtual 85, 3) := by decide +kernel
theorem dX2_fill_18 : decode cX2_fill 18 = .ok (.ireturn, 1) := by decide +kernel
theorem dX2_fill_19 : decode cX2_fill 19 = .ok (.bipush 20, 2) := by decide +kernel
theorem dX2_fill_21 : decode cX2_fill 21 = .ok (.aload_n 0, 1) := by decide +kernel
theorem dX2_fill_22 : decode cX2_fill 22 = .ok (.getfield 13, 3) := by decide +kernel
theorem dX2_fill_25 : decode cX2_fill 25 = .ok (.bipush 13, 2) := by decide +kernel
theorem dX2_fill_27 : decode cX2_fill 27 = .ok (.iload_n 1, 1) := by decide +kernel
theorem dX2_fill_28 : decode cX2_fill 28 = .ok (.iadd, 1) := by decide +kernel
theorem dX2_fill_29 : decode cX2_fill 29 = .ok (.iaload, 1) := by decide +kernel
theorem dX2_fill_30 : decode cX2_fill 30 = .ok (.isub, 1) := by decide +kernel
theorem dX2_fill_31 : decode cX2_fill 31 = .ok (.istore_n 2, 1) := by decide +kernel
theorem dX2_fill_32 : decode cX2_fill 32 = .ok (.aload_n 0, 1) := by decide +kernel
theorem dX2_fill_33 : decode cX2_fill 33 = .ok (.getfield 13, 3) := by decide +kernel
theorem dX2_fill_36 : decode cX2_fill 36 = .ok (.bipush 13, 2) := by decide +kernel
theorem dX2_fill_38 : decode cX2_fill 38 = .ok (.iload_n 1, 1) := by decide +kernel
theorem dX2_fill_39 : decode cX2_fill 39 = .ok (.iadd, 1) := by decide +kernel
theorem dX2_fill_40 : decode cX2_fill 40 = .ok (.bipush 20, 2) := by decide +kernel
theorem dX2_fill_42 : decode cX2_fill 42 = .ok (.iastore, 1) := by decide +kernel
theorem dX2_fill_43 : decode cX2_fill 43 = .ok (.iload_n 2, 1) := by decide +kernel
theorem dX2_fill_44 : decode cX2_fill 44 = .ok (.ireturn, 1) := by decide +kernel
theorem dX2_mend_0 : decode cX2_mend 0 = .ok (.aload_n 0, 1) := by decide +kernel
theorem dX2_mend_1 : decode cX2_mend 1 = .ok (.iconst 0, 1) := by decide +kernel
theorem dX2_mend_2 : decode cX2_mend 2 = .ok (.putfield 19, 3) := by decide +kernel
theorem dX2_mend_5 : decode cX2_mend 5 = .ok (.aload_n 0, 1) := by decide +kernel
theorem dX2_mend_6 : decode cX2_mend 6 = .ok (.iload_n 1, 1) := by decide +kernel
theorem dX2_mend_7 : decode cX2_mend 7 = .ok (.invokevirtual 88, 3) := by decide +kernel
theorem dX2_mend_10 : decode cX2_mend 10 = .ok (.ifCond .ne 9, 3) := by decide +kernel
theorem dX2_mend_13 : decode cX2_mend 13 = .ok (.aload_n 0, 1) := by decide +kernel
theorem dX2_mend_14 : decode cX2_mend 14 = .ok (.iconst 1, 1) := by decide +kernel
theorem dX2_mend_15 : decode cX2_mend 15 = .ok (.invokevirtual 85, 3) := by decide +kernel
theorem dX2_mend_18 : decode cX2_mend 18 = .ok (.ireturn, 1) := by decide +kernel
theorem dX2_mend_19 : decode cX2_mend 19 = .ok (.aload_n 0, 1) := by decide +kernel
theorem dX2_mend_20 : decode cX2_mend 20 = .ok (.getfield 13, 3) := by decide +kernel
theorem dX2_mend_23 : decode cX2_mend 23 = .ok (.bipush 23, 2) := by decide +kernel
theorem dX2_mend_25 : decode cX2_mend 25 = .ok (.iload_n 1, 1) := by decide +kernel
theorem dX2_mend_26 : decode cX2_mend 26 = .ok (.iadd, 1) := by decide +kernel
theorem dX2_mend_27 : decode cX2_mend 27 = .ok (.iaload, 1) := by decide +kernel
theorem dX2_mend_28 : decode cX2_mend 28 = .ok (.istore_n 2, 1) := by decide +kernel
theorem dX2_mend_29 : decode cX2_mend 29 = .ok (.aload_n 0, 1) := by decide +kernel
theorem dX2_mend_30 : decode cX2_mend 30 = .ok (.getfield 13, 3) := by decide +kernel
theorem dX2_mend_33 : decode cX2_mend 33 = .ok (.bipush 23, 2) := by decide +kernel
theorem dX2_mend_35 : decode cX2_mend 35 = .ok (.iload_n 1, 1) := by decide +kernel
theorem dX2_mend_36 : decode cX2_mend 36 = .ok (.iadd, 1) := by decide +kernel
theorem dX2_mend_37 : decode cX2_mend 37 = .ok (.iconst 0, 1) := by decide +kernel
theorem dX2_mend_38 : decode cX2_mend 38 = .ok (.iastore, 1) := by decide +kernel
theorem dX2_mend_39 : decode cX2_mend 39 = .ok (.aload_n 0, 1) := by decide +kernel
theorem dX2_mend_40 : decode cX2_mend 40 = .ok (.getfield 13, 3) := by decide +kernel
theorem dX2_mend_43 : decode cX2_mend 43 = .ok (.bipush 13, 2) := by decide +kernel
theorem dX2_mend_45 : decode cX2_mend 45 = .ok (.iload_n 1, 1) := by decide +kernel
theorem dX2_mend_46 : decode cX2_mend 46 = .ok (.iadd, 1) := by decide +kernel
theorem dX2_mend_47 : decode cX2_mend 47 = .ok (.iconst 0, 1) := by decide +kernel
theorem dX2_mend_48 : decode cX2_mend 48 = .ok (.iastore, 1) := by decide +kernel
theorem dX2_mend_49 : decode cX2_mend 49 = .ok (.iload_n 2, 1) := by decide +kernel
theorem dX2_mend_50 : decode cX2_mend 50 = .ok (.ireturn, 1) := by decide +kernel
theorem dX2_sing_0 : decode cX2_sing 0 = .ok (.aload_n 0, 1) := by decide +kernel
theorem dX2_sing_1 : decode cX2_sing 1 = .ok (.iconst 0, 1) := by decide +kernel
theorem dX2_sing_2 : decode cX2_sing 2 = .ok (.putfield 19, 3) := by decide +kernel
theorem dX2_sing_5 : decode cX2_sing 5 = .ok (.iload_n 1, 1) := by decide +kernel
theorem dX2_sing_6 : decode cX2_sing 6 = .ok (.iconst 1, 1) := by decide +kernel
theorem dX2_sing_7 : decode cX2_sing 7 = .ok (.bipush 60, 2) := by decide +kernel
theorem dX2_sing_9 : decode cX2_sing 9 = .ok (.invokestatic 26, 3) := by decide +kernel
theorem dX2_sing_12 : decode cX2_sing 12 = .ok (.ifCond .eq 11, 3) := by decide +kernel
theorem dX2_sing_15 : decode cX2_sing 15 = .ok (.aload_n 0, 1) := by decide +kernel
theorem dX2_sing_16 : decode cX2_sing 16 = .ok (.iload_n 1, 1) := by decide +kernel
theorem dX2_sing_17 : decode cX2_sing 17 = .ok (.invokevirtual 94, 3) := by decide +kernel
theorem dX2_sing_20 : decode cX2_sing 20 = .ok (.goto 8, 3) := by decide +kernel
theorem dX2_sing_23 : decode cX2_sing 23 = .ok (.aload_n 0, 1) := by decide +kernel
theorem dX2_sing_24 : decode cX2_sing 24 = .ok (.iconst 1, 1) := by decide +kernel
theorem dX2_sing_25 : decode cX2_sing 25 = .ok (.invokevirtual 85, 3) := by decide +kernel
theorem dX2_sing_28 : decode cX2_sing 28 = .ok (.ireturn, 1) := by decide +kernel
theorem dX2_pots_0 : decode cX2_pots 0 = .ok (.aload_n 0, 1) := by decide +kernel
theorem dX2_pots_1 : decode cX2_pots 1 = .ok (.aload_n 0, 1) := by decide +kernel
theorem dX2_pots_2 : decode cX2_pots 2 = .ok (.getfield 23, 3) := by decide +kernel
theorem dX2_pots_5 : decode cX2_pots 5 = .ok (.invokevirtual 97, 3) := by decide +kernel
theorem dX2_pots_8 : decode cX2_pots 8 = .ok (.ireturn, 1) := by decide +kernel
theorem dX2_partOf_0 : decode cX2_partOf 0 = .ok (.aload_n 0, 1) := by decide +kernel
theorem dX2_partOf_1 : decode cX2_partOf 1 = .ok (.iconst 0, 1) := by decide +kernel
theorem dX2_partOf_2 : decode cX2_partOf 2 = .ok (.putfield 19, 3) := by decide +kernel
theorem dX2_partOf_5 : decode cX2_partOf 5 = .ok (.aload_n 0, 1) := by decide +kernel
theorem dX2_partOf_6 : decode cX2_partOf 6 = .ok (.iload_n 1, 1) := by decide +kernel
theorem dX2_partOf_7 : decode cX2_partOf 7 = .ok (.invokevirtual 88, 3) := by decide +kernel
theorem dX2_partOf_10 : decode cX2_partOf 10 = .ok (.ifCond .eq 12, 3) := by decide +kernel
theorem dX2_partOf_13 : decode cX2_partOf 13 = .ok (.aload_n 0, 1) := by decide +kernel
theorem dX2_partOf_14 : decode cX2_partOf 14 = .ok (.getfield 9, 3) := by decide +kernel
theorem dX2_partOf_17 : decode cX2_partOf 17 = .ok (.iload_n 1, 1) := by decide +kernel
theorem dX2_partOf_18 : decode cX2_partOf 18 = .ok (.iaload, 1) := by decide +kernel
theorem dX2_partOf_19 : decode cX2_partOf 19 = .ok (.goto 8, 3) := by decide +kernel
theorem dX2_partOf_22 : decode cX2_partOf 22 = .ok (.aload_n 0, 1) := by decide +kernel
theorem dX2_partOf_23 : decode cX2_partOf 23 = .ok (.iconst 1, 1) := by decide +kernel
theorem dX2_partOf_24 : decode cX2_partOf 24 = .ok (.invokevirtual 85, 3) := by decide +kernel
theorem dX2_partOf_27 : decode cX2_partOf 27 = .ok (.ireturn, 1) := by decide +kernel
theorem dX2_of_0 : decode cX2_of 0 = .ok (.aload_n 0, 1) := by decide +kernel
theorem dX2_of_1 : decode cX2_of 1 = .ok (.iconst 0, 1) := by decide +kernel
theorem dX2_of_2 : decode cX2_of 2 = .ok (.putfield 19, 3) := by decide +kernel
theorem dX2_of_5 : decode cX2_of 5 = .ok (.aload_n 0, 1) := by decide +kernel
theorem dX2_of_6 : decode cX2_of 6 = .ok (.iload_n 1, 1) := by decide +kernel
theorem dX2_of_7 : decode cX2_of 7 = .ok (.invokevirtual 88, 3) := by decide +kernel
theorem dX2_of_10 : decode cX2_of 10 = .ok (.ifCond .eq 14, 3) := by decide +kernel
theorem dX2_of_13 : decode cX2_of 13 = .ok (.aload_n 0, 1) := by decide +kernel
theorem dX2_of_14 : decode cX2_of 14 = .ok (.getfield 13, 3) := by decide +kernel
theorem dX2_of_17 : decode cX2_of 17 = .ok (.iload_n 2, 1) := by decide +kernel
theorem dX2_of_18 : decode cX2_of 18 = .ok (.iload_n 1, 1) := by decide +kernel
theorem dX2_of_19 : decode cX2_of 19 = .ok (.iadd, 1) := by decide +kernel
theorem dX2_of_20 : decode cX2_of 20 = .ok (.iaload, 1) := by decide +kernel
theorem dX2_of_21 : decode cX2_of 21 = .ok (.goto 8, 3) := by decide +kernel
theorem dX2_of_24 : decode cX2_of 24 = .ok (.aload_n 0, 1) := by decide +kernel
theorem dX2_of_25 : decode cX2_of 25 = .ok (.iconst 1, 1) := by decide +kernel
theorem dX2_of_26 : decode cX2_of 26 = .ok (.invokevirtual 85, 3) := by decide +kernel
theorem dX2_of_29 : decode cX2_of 29 = .ok (.ireturn, 1) := by decide +kernel
theorem dX2_pitchOf_0 : decode cX2_pitchOf 0 = .ok (.aload_n 0, 1) := by decide +kernel
theorem dX2_pitchOf_1 : decode cX2_pitchOf 1 = .ok (.iload_n 1, 1) := by decide +kernel
theorem dX2_pitchOf_2 : decode cX2_pitchOf 2 = .ok (.iconst 3, 1) := by decide +kernel
theorem dX2_pitchOf_3 : decode cX2_pitchOf 3 = .ok (.invokevirtual 100, 3) := by decide +kernel
theorem dX2_pitchOf_6 : decode cX2_pitchOf 6 = .ok (.ireturn, 1) := by decide +kernel
theorem dX2_teaOf_0 : decode cX2_teaOf 0 = .ok (.aload_n 0, 1) := by decide +kernel
theorem dX2_teaOf_1 : decode cX2_teaOf 1 = .ok (.iload_n 1, 1) := by decide +kernel
theorem dX2_teaOf_2 : decode cX2_teaOf 2 = .ok (.bipush 13, 2) := by decide +kernel
theorem dX2_teaOf_4 : decode cX2_teaOf 4 = .ok (.invokevirtual 100, 3) := by decide +kernel
theorem dX2_teaOf_7 : decode cX2_teaOf 7 = .ok (.ireturn, 1) := by decide +kernel
theorem dX2_crackOf_0 : decode cX2_crackOf 0 = .ok (.aload_n 0, 1) := by decide +kernel
theorem dX2_crackOf_1 : decode cX2_crackOf 1 = .ok (.iload_n 1, 1) := by decide +kernel
theorem dX2_crackOf_2 : decode cX2_crackOf 2 = .ok (.bipush 23, 2) := by decide +kernel
theorem dX2_crackOf_4 : decode cX2_crackOf 4 = .ok (.invokevirtual 100, 3) := by decide +kernel
theorem dX2_crackOf_7 : decode cX2_crackOf 7 = .ok (.ireturn, 1) := by decide +kernel
theorem dX2_sounds_0 : decode cX2_sounds 0 = .ok (.aload_n 0, 1) := by decide +kernel
theorem dX2_sounds_1 : decode cX2_sounds 1 = .ok (.iconst 0, 1) := by decide +kernel
theorem dX2_sounds_2 : decode cX2_sounds 2 = .ok (.putfield 19, 3) := by decide +kernel
theorem dX2_sounds_5 : decode cX2_sounds 5 = .ok (.aload_n 0, 1) := by decide +kernel
theorem dX2_sounds_6 : decode cX2_sounds 6 = .ok (.iload_n 1, 1) := by decide +kernel
theorem dX2_sounds_7 : decode cX2_sounds 7 = .ok (.invokevirtual 88, 3) := by decide +kernel
theorem dX2_sounds_10 : decode cX2_sounds 10 = .ok (.ifCond .eq 11, 3) := by decide +kernel
theorem dX2_sounds_13 : decode cX2_sounds 13 = .ok (.aload_n 0, 1) := by decide +kernel
theorem dX2_sounds_14 : decode cX2_sounds 14 = .ok (.iload_n 1, 1) := by decide +kernel
theorem dX2_sounds_15 : decode cX2_sounds 15 = .ok (.invokevirtual 39, 3) := by decide +kernel
theorem dX2_sounds_18 : decode cX2_sounds 18 = .ok (.goto 8, 3) := by decide +kernel
theorem dX2_sounds_21 : decode cX2_sounds 21 = .ok (.aload_n 0, 1) := by decide +kernel
theorem dX2_sounds_22 : decode cX2_sounds 22 = .ok (.iconst 1, 1) := by decide +kernel
theorem dX2_sounds_23 : decode cX2_sounds 23 = .ok (.invokevirtual 91, 3) := by decide +kernel
theorem dX2_sounds_26 : decode cX2_sounds 26 = .ok (.ireturn, 1) := by decide +kernel
theorem dX2_soundingOf_0 : decode cX2_soundingOf 0 = .ok (.aload_n 0, 1) := by decide +kernel
theorem dX2_soundingOf_1 : decode cX2_soundingOf 1 = .ok (.iconst 0, 1) := by decide +kernel
theorem dX2_soundingOf_2 : decode cX2_soundingOf 2 = .ok (.putfield 19, 3) := by decide +kernel
theorem dX2_soundingOf_5 : decode cX2_soundingOf 5 = .ok (.iload_n 1, 1) := by decide +kernel
theorem dX2_soundingOf_6 : decode cX2_soundingOf 6 = .ok (.iconst 0, 1) := by decide +kernel
theorem dX2_soundingOf_7 : decode cX2_soundingOf 7 = .ok (.iconst 3, 1) := by decide +kernel
theorem dX2_soundingOf_8 : decode cX2_soundingOf 8 = .ok (.invokestatic 26, 3) := by decide +kernel
theorem dX2_soundingOf_11 : decode cX2_soundingOf 11 = .ok (.ifCond .ne 9, 3) := by decide +kernel
theorem dX2_soundingOf_14 : decode cX2_soundingOf 14 = .ok (.aload_n 0, 1) := by decide +kernel
theorem dX2_soundingOf_15 : decode cX2_soundingOf 15 = .ok (.iconst 1, 1) := by decide +kernel
theorem dX2_soundingOf_16 : decode cX2_soundingOf 16 = .ok (.invokevirtual 85, 3) := by decide +kernel
theorem dX2_soundingOf_19 : decode cX2_soundingOf 19 = .ok (.ireturn, 1) := by decide +kernel
theorem dX2_soundingOf_20 : decode cX2_soundingOf 20 = .ok (.iconst 0, 1) := by decide +kernel
theorem dX2_soundingOf_21 : decode cX2_soundingOf 21 = .ok (.istore_n 2, 1) := by decide +kernel
theorem dX2_soundingOf_22 : decode cX2_soundingOf 22 = .ok (.iconst 0, 1) := by decide +kernel
theorem dX2_soundingOf_23 : decode cX2_soundingOf 23 = .ok (.istore_n 3, 1) := by decide +kernel
theorem dX2_soundingOf_24 : decode cX2_soundingOf 24 = .ok (.iload_n 3, 1) := by decide +kernel
theorem dX2_soundingOf_25 : decode cX2_soundingOf 25 = .ok (.aload_n 0, 1) := by decide +kernel
theorem dX2_soundingOf_26 : decode cX2_soundingOf 26 = .ok (.getfield 23, 3) := by decide +kernel
theorem dX2_soundingOf_29 : decode cX2_soundingOf 29 = .ok (.if_icmp .ge 35, 3) := by decide +kernel
theorem dX2_soundingOf_32 : decode cX2_soundingOf 32 = .ok (.iload_n 2, 1) := by decide +kernel
theorem dX2_soundingOf_33 : decode cX2_soundingOf 33 = .ok (.aload_n 0, 1) := by decide +kernel
theorem dX2_soundingOf_34 : decode cX2_soundingOf 34 = .ok (.iload_n 3, 1) := by decide +kernel
theorem dX2_soundingOf_35 : decode cX2_soundingOf 35 = .ok (.invokevirtual 39, 3) := by decide +kernel
theorem dX2_soundingOf_38 : decode cX2_soundingOf 38 = .ok (.ifCond .eq 17, 3) := by decide +kernel
theorem dX2_soundingOf_41 : decode cX2_soundingOf 41 = .ok (.aload_n 0, 1) := by decide +kernel
theorem dX2_soundingOf_42 : decode cX2_soundingOf 42 = .ok (.getfield 9, 3) := by decide +kernel
theorem dX2_soundingOf_45 : decode cX2_soundingOf 45 = .ok (.iload_n 3, 1) := by decide +kernel
theorem dX2_soundingOf_46 : decode cX2_soundingOf 46 = .ok (.iaload, 1) := by decide +kernel
theorem dX2_soundingOf_47 : decode cX2_soundingOf 47 = .ok (.iload_n 1, 1) := by decide +kernel
theorem dX2_soundingOf_48 : decode cX2_soundingOf 48 = .ok (.if_icmp .ne 7, 3) := by decide +kernel
theorem dX2_soundingOf_51 : decode cX2_soundingOf 51 = .ok (.iconst 1, 1) := by decide +kernel
theorem dX2_soundingOf_52 : decode cX2_soundingOf 52 = .ok (.goto 4, 3) := by decide +kernel
theorem dX2_soundingOf_55 : decode cX2_soundingOf 55 = .ok (.iconst 0, 1) := by decide +kernel
theorem dX2_soundingOf_56 : decode cX2_soundingOf 56 = .ok (.iadd, 1) := by decide +kernel
theorem dX2_soundingOf_57 : decode cX2_soundingOf 57 = .ok (.istore_n 2, 1) := by decide +kernel
theorem dX2_soundingOf_58 : decode cX2_soundingOf 58 = .ok (.iinc 3 1, 3) := by decide +kernel
theorem dX2_soundingOf_61 : decode cX2_soundingOf 61 = .ok (.goto (-37), 3) := by decide +kernel
theorem dX2_soundingOf_64 : decode cX2_soundingOf 64 = .ok (.iload_n 2, 1) := by decide +kernel
theorem dX2_soundingOf_65 : decode cX2_soundingOf 65 = .ok (.ireturn, 1) := by decide +kernel
theorem dX2_beats__0 : decode cX2_beats_ 0 = .ok (.aload_n 0, 1) := by decide +kernel
theorem dX2_beats__1 : decode cX2_beats_ 1 = .ok (.aload_n 0, 1) := by decide +kernel
theorem dX2_beats__2 : decode cX2_beats_ 2 = .ok (.getfield 13, 3) := by decide +kernel
theorem dX2_beats__5 : decode cX2_beats_ 5 = .ok (.iconst 0, 1) := by decide +kernel
theorem dX2_beats__6 : decode cX2_beats_ 6 = .ok (.iaload, 1) := by decide +kernel
theorem dX2_beats__7 : decode cX2_beats_ 7 = .ok (.invokevirtual 97, 3) := by decide +kernel
theorem dX2_beats__10 : decode cX2_beats_ 10 = .ok (.ireturn, 1) := by decide +kernel
theorem dX2_sounding_0 : decode cX2_sounding 0 = .ok (.aload_n 0, 1) := by decide +kernel
theorem dX2_sounding_1 : decode cX2_sounding 1 = .ok (.aload_n 0, 1) := by decide +kernel
theorem dX2_sounding_2 : decode cX2_sounding 2 = .ok (.invokevirtual 68, 3) := by decide +kernel
theorem dX2_sounding_5 : decode cX2_sounding 5 = .ok (.invokestatic 60, 3) := by decide +kernel
theorem dX2_sounding_8 : decode cX2_sounding 8 = .ok (.invokevirtual 97, 3) := by decide +kernel
theorem dX2_sounding_11 : decode cX2_sounding 11 = .ok (.ireturn, 1) := by decide +kernel
theorem dX2_interval_0 : decode cX2_interval 0 = .ok (.aload_n 0, 1) := by decide +kernel
theorem dX2_interval_1 : decode cX2_interval 1 = .ok (.iconst 0, 1) := by decide +kernel
theorem dX2_interval_2 : decode cX2_interval 2 = .ok (.putfield 19, 3) := by decide +kernel
theorem dX2_interval_5 : decode cX2_interval 5 = .ok (.aload_n 0, 1) := by decide +kernel
theorem dX2_interval_6 : decode cX2_interval 6 = .ok (.iload_n 1, 1) := by decide +kernel
theorem dX2_interval_7 : decode cX2_interval 7 = .ok (.invokevirtual 88, 3) := by decide +kernel
theorem dX2_interval_10 : decode cX2_interval 10 = .ok (.ifCond .eq 20, 3) := by decide +kernel
theorem dX2_interval_13 : decode cX2_interval 13 = .ok (.aload_n 0, 1) := by decide +kernel
theorem dX2_interval_14 : decode cX2_interval 14 = .ok (.iload_n 2, 1) := by decide +kernel
theorem dX2_interval_15 : decode cX2_interval 15 = .ok (.invokevirtual 88, 3) := by decide +kernel
theorem dX2_interval_18 : decode cX2_interval 18 = .ok (.ifCond .eq 12, 3) := by decide +kernel
theorem dX2_interval_21 : decode cX2_interval 21 = .ok (.aload_n 0, 1) := by decide +kernel
theorem dX2_interval_22 : decode cX2_interval 22 = .ok (.iload_n 1, 1) := by decide +kernel
theorem dX2_interval_23 : decode cX2_interval 23 = .ok (.iload_n 2, 1) := by decide +kernel
theorem dX2_interval_24 : decode cX2_interval 24 = .ok (.invokevirtual 49, 3) := by decide +kernel
theorem dX2_interval_27 : decode cX2_interval 27 = .ok (.goto 8, 3) := by decide +kernel
theorem dX2_interval_30 : decode cX2_interval 30 = .ok (.aload_n 0, 1) := by decide +kernel
theorem dX2_interval_31 : decode cX2_interval 31 = .ok (.iconst 1, 1) := by decide +kernel
theorem dX2_interval_32 : decode cX2_interval 32 = .ok (.invokevirtual 85, 3) := by decide +kernel
theorem dX2_interval_35 : decode cX2_interval 35 = .ok (.ireturn, 1) := by decide +kernel
theorem dX2_areInAccord_0 : decode cX2_areInAccord 0 = .ok (.aload_n 0, 1) := by decide +kernel
theorem dX2_areInAccord_1 : decode cX2_areInAccord 1 = .ok (.iconst 0, 1) := by decide +kernel
theorem dX2_areInAccord_2 : decode cX2_areInAccord 2 = .ok (.putfield 19, 3) := by decide +kernel
theorem dX2_areInAccord_5 : decode cX2_areInAccord 5 = .ok (.aload_n 0, 1) := by decide +kernel
theorem dX2_areInAccord_6 : decode cX2_areInAccord 6 = .ok (.iload_n 1, 1) := by decide +kernel
theorem dX2_areInAccord_7 : decode cX2_areInAccord 7 = .ok (.invokevirtual 88, 3) := by decide +kernel
theorem dX2_areInAccord_10 : decode cX2_areInAccord 10 = .ok (.ifCond .eq 20, 3) := by decide +kernel
theorem dX2_areInAccord_13 : decode cX2_areInAccord 13 = .ok (.aload_n 0, 1) := by decide +kernel
theorem dX2_areInAccord_14 : decode cX2_areInAccord 14 = .ok (.iload_n 2, 1) := by decide +kernel
theorem dX2_areInAccord_15 : decode cX2_areInAccord 15 = .ok (.invokevirtual 88, 3) := by decide +kernel
theorem dX2_areInAccord_18 : decode cX2_areInAccord 18 = .ok (.ifCond .eq 12, 3) := by decide +kernel
theorem dX2_areInAccord_21 : decode cX2_areInAccord 21 = .ok (.aload_n 0, 1) := by decide +kernel
theorem dX2_areInAccord_22 : decode cX2_areInAccord 22 = .ok (.iload_n 1, 1) := by decide +kernel
theorem dX2_areInAccord_23 : decode cX2_areInAccord 23 = .ok (.iload_n 2, 1) := by decide +kernel
theorem dX2_areInAccord_24 : decode cX2_areInAccord 24 = .ok (.invokevirtual 53, 3) := by decide +kernel
theorem dX2_areInAccord_27 : decode cX2_areInAccord 27 = .ok (.goto 8, 3) := by decide +kernel
theorem dX2_areInAccord_30 : decode cX2_areInAccord 30 = .ok (.aload_n 0, 1) := by decide +kernel
theorem dX2_areInAccord_31 : decode cX2_areInAccord 31 = .ok (.iconst 1, 1) := by decide +kernel
theorem dX2_areInAccord_32 : decode cX2_areInAccord 32 = .ok (.invokevirtual 91, 3) := by decide +kernel
theorem dX2_areInAccord_35 : decode cX2_areInAccord 35 = .ok (.ireturn, 1) := by decide +kernel
theorem dX2_harmony_0 : decode cX2_harmony 0 = .ok (.aload_n 0, 1) := by decide +kernel
theorem dX2_harmony_1 : decode cX2_harmony 1 = .ok (.aload_n 0, 1) := by decide +kernel
theorem dX2_harmony_2 : decode cX2_harmony 2 = .ok (.aload_n 0, 1) := by decide +kernel
theorem dX2_harmony_3 : decode cX2_harmony 3 = .ok (.invokevirtual 68, 3) := by decide +kernel
theorem dX2_harmony_6 : decode cX2_harmony 6 = .ok (.invokevirtual 103, 3) := by decide +kernel
theorem dX2_harmony_9 : decode cX2_harmony 9 = .ok (.invokevirtual 97, 3) := by decide +kernel
theorem dX2_harmony_12 : decode cX2_harmony 12 = .ok (.ireturn, 1) := by decide +kernel
theorem dX2_clashes_0 : decode cX2_clashes 0 = .ok (.aload_n 0, 1) := by decide +kernel
theorem dX2_clashes_1 : decode cX2_clashes 1 = .ok (.aload_n 0, 1) := by decide +kernel
theorem dX2_clashes_2 : decode cX2_clashes 2 = .ok (.aload_n 0, 1) := by decide +kernel
theorem dX2_clashes_3 : decode cX2_clashes 3 = .ok (.invokevirtual 68, 3) := by decide +kernel
theorem dX2_clashes_6 : decode cX2_clashes 6 = .ok (.invokevirtual 65, 3) := by decide +kernel
theorem dX2_clashes_9 : decode cX2_clashes 9 = .ok (.invokevirtual 97, 3) := by decide +kernel
theorem dX2_clashes_12 : decode cX2_clashes 12 = .ok (.ireturn, 1) := by decide +kernel
theorem dX2_clashing_0 : decode cX2_clashing 0 = .ok (.aload_n 0, 1) := by decide +kernel
theorem dX2_clashing_1 : decode cX2_clashing 1 = .ok (.iload_n 1, 1) := by decide +kernel
theorem dX2_clashing_2 : decode cX2_clashing 2 = .ok (.invokevirtual 39, 3) := by decide +kernel
theorem dX2_clashing_5 : decode cX2_clashing 5 = .ok (.ifCond .eq 15, 3) := by decide +kernel
theorem dX2_clashing_8 : decode cX2_clashing 8 = .ok (.aload_n 0, 1) := by decide +kernel
theorem dX2_clashing_9 : decode cX2_clashing 9 = .ok (.iload_n 1, 1) := by decide +kernel
theorem dX2_clashing_10 : decode cX2_clashing 10 = .ok (.aload_n 0, 1) := by decide +kernel
theorem dX2_clashing_11 : decode cX2_clashing 11 = .ok (.invokevirtual 68, 3) := by decide +kernel
theorem dX2_clashing_14 : decode cX2_clashing 14 = .ok (.invokevirtual 57, 3) := by decide +kernel
theorem dX2_clashing_17 : decode cX2_clashing 17 = .ok (.goto 4, 3) := by decide +kernel
theorem dX2_clashing_20 : decode cX2_clashing 20 = .ok (.iconst 0, 1) := by decide +kernel
theorem dX2_clashing_21 : decode cX2_clashing 21 = .ok (.ireturn, 1) := by decide +kernel
theorem dX2_clashesOf_0 : decode cX2_clashesOf 0 = .ok (.aload_n 0, 1) := by decide +kernel
theorem dX2_clashesOf_1 : decode cX2_clashesOf 1 = .ok (.iconst 0, 1) := by decide +kernel
theorem dX2_clashesOf_2 : decode cX2_clashesOf 2 = .ok (.putfield 19, 3) := by decide +kernel
theorem dX2_clashesOf_5 : decode cX2_clashesOf 5 = .ok (.aload_n 0, 1) := by decide +kernel
theorem dX2_clashesOf_6 : decode cX2_clashesOf 6 = .ok (.iload_n 1, 1) := by decide +kernel
theorem dX2_clashesOf_7 : decode cX2_clashesOf 7 = .ok (.invokevirtual 88, 3) := by decide +kernel
theorem dX2_clashesOf_10 : decode cX2_clashesOf 10 = .ok (.ifCond .eq 11, 3) := by decide +kernel
theorem dX2_clashesOf_13 : decode cX2_clashesOf 13 = .ok (.aload_n 0, 1) := by decide +kernel
theorem dX2_clashesOf_14 : decode cX2_clashesOf 14 = .ok (.iload_n 1, 1) := by decide +kernel
theorem dX2_clashesOf_15 : decode cX2_clashesOf 15 = .ok (.invokevirtual 106, 3) := by decide +kernel
theorem dX2_clashesOf_18 : decode cX2_clashesOf 18 = .ok (.goto 8, 3) := by decide +kernel
theorem dX2_clashesOf_21 : decode cX2_clashesOf 21 = .ok (.aload_n 0, 1) := by decide +kernel
theorem dX2_clashesOf_22 : decode cX2_clashesOf 22 = .ok (.iconst 1, 1) := by decide +kernel
theorem dX2_clashesOf_23 : decode cX2_clashesOf 23 = .ok (.invokevirtual 85, 3) := by decide +kernel
theorem dX2_clashesOf_26 : decode cX2_clashesOf 26 = .ok (.ireturn, 1) := by decide +kernel
theorem dX2_harsh_0 : decode cX2_harsh 0 = .ok (.iconst (-1), 1) := by decide +kernel
theorem dX2_harsh_1 : decode cX2_harsh 1 = .ok (.istore_n 1, 1) := by decide +kernel
theorem dX2_harsh_2 : decode cX2_harsh 2 = .ok (.iconst 0, 1) := by decide +kernel
theorem dX2_harsh_3 : decode cX2_harsh 3 = .ok (.istore_n 2, 1) := by decide +kernel
theorem dX2_harsh_4 : decode cX2_harsh 4 = .ok (.iload_n 2, 1) := by decide +kernel
theorem dX2_harsh_5 : decode cX2_harsh 5 = .ok (.aload_n 0, 1) := by decide +kernel
theorem dX2_harsh_6 : decode cX2_harsh 6 = .ok (.getfield 23, 3) := by decide +kernel
theorem dX2_harsh_9 : decode cX2_harsh 9 = .ok (.if_icmp .ge 37, 3) := by decide +kernel
theorem dX2_harsh_12 : decode cX2_harsh 12 = .ok (.aload_n 0, 1) := by decide +kernel
theorem dX2_harsh_13 : decode cX2_harsh 13 = .ok (.iload_n 2, 1) := by decide +kernel
theorem dX2_harsh_14 : decode cX2_harsh 14 = .ok (.invokevirtual 106, 3) := by decide +kernel
theorem dX2_harsh_17 : decode cX2_harsh 17 = .ok (.ifCond .le 23, 3) := by decide +kernel
theorem dX2_harsh_20 : decode cX2_harsh 20 = .ok (.iload_n 1, 1) := by decide +kernel
theorem dX2_harsh_21 : decode cX2_harsh 21 = .ok (.iconst (-1), 1) := by decide +kernel
theorem dX2_harsh_22 : decode cX2_harsh 22 = .ok (.if_icmp .eq 16, 3) := by decide +kernel
theorem dX2_harsh_25 : decode cX2_harsh 25 = .ok (.aload_n 0, 1) := by decide +kernel
theorem dX2_harsh_26 : decode cX2_harsh 26 = .ok (.iload_n 2, 1) := by decide +kernel
theorem dX2_harsh_27 : decode cX2_harsh 27 = .ok (.invokevirtual 106, 3) := by decide +kernel
theorem dX2_harsh_30 : decode cX2_harsh 30 = .ok (.aload_n 0, 1) := by decide +kernel
theorem dX2_harsh_31 : decode cX2_harsh 31 = .ok (.iload_n 1, 1) := by decide +kernel
theorem dX2_harsh_32 : decode cX2_harsh 32 = .ok (.invokevirtual 106, 3) := by decide +kernel
theorem dX2_harsh_35 : decode cX2_harsh 35 = .ok (.if_icmp .le 5, 3) := by decide +kernel
theorem dX2_harsh_38 : decode cX2_harsh 38 = .ok (.iload_n 2, 1) := by decide +kernel
theorem dX2_harsh_39 : decode cX2_harsh 39 = .ok (.istore_n 1, 1) := by decide +kernel
theorem dX2_harsh_40 : decode cX2_harsh 40 = .ok (.iinc 2 1, 3) := by decide +kernel
theorem dX2_harsh_43 : decode cX2_harsh 43 = .ok (.goto (-39), 3) := by decide +kernel
theorem dX2_harsh_46 : decode cX2_harsh 46 = .ok (.iload_n 1, 1) := by decide +kernel
theorem dX2_harsh_47 : decode cX2_harsh 47 = .ok (.ireturn, 1) := by decide +kernel
theorem dX2_harshest_0 : decode cX2_harshest 0 = .ok (.aload_n 0, 1) := by decide +kernel
theorem dX2_harshest_1 : decode cX2_harshest 1 = .ok (.aload_n 0, 1) := by decide +kernel
theorem dX2_harshest_2 : decode cX2_harshest 2 = .ok (.invokevirtual 109, 3) := by decide +kernel
theorem dX2_harshest_5 : decode cX2_harshest 5 = .ok (.invokevirtual 97, 3) := by decide +kernel
theorem dX2_harshest_8 : decode cX2_harshest 8 = .ok (.ireturn, 1) := by decide +kernel
theorem dX2_low_0 : decode cX2_low 0 = .ok (.iconst (-1), 1) := by decide +kernel
theorem dX2_low_1 : decode cX2_low 1 = .ok (.istore_n 1, 1) := by decide +kernel
theorem dX2_low_2 : decode cX2_low 2 = .ok (.iconst 0, 1) := by decide +kernel
theorem dX2_low_3 : decode cX2_low 3 = .ok (.istore_n 2, 1) := by decide +kernel
theorem dX2_low_4 : decode cX2_low 4 = .ok (.iload_n 2, 1) := by decide +kernel
theorem dX2_low_5 : decode cX2_low 5 = .ok (.aload_n 0, 1) := by decide +kernel
theorem dX2_low_6 : decode cX2_low 6 = .ok (.getfield 23, 3) := by decide +kernel
theorem dX2_low_9 : decode cX2_low 9 = .ok (.if_icmp .ge 43, 3) := by decide +kernel
theorem dX2_low_12 : decode cX2_low 12 = .ok (.aload_n 0, 1) := by decide +kernel
theorem dX2_low_13 : decode cX2_low 13 = .ok (.iload_n 2, 1) := by decide +kernel
theorem dX2_low_14 : decode cX2_low 14 = .ok (.invokevirtual 39, 3) := by decide +kernel
theorem dX2_low_17 : decode cX2_low 17 = .ok (.ifCond .eq 29, 3) := by decide +kernel
theorem dX2_low_20 : decode cX2_low 20 = .ok (.iload_n 1, 1) := by decide +kernel
theorem dX2_low_21 : decode cX2_low 21 = .ok (.iconst (-1), 1) := by decide +kernel
theorem dX2_low_22 : decode cX2_low 22 = .ok (.if_icmp .eq 22, 3) := by decide +kernel
theorem dX2_low_25 : decode cX2_low 25 = .ok (.aload_n 0, 1) := by decide +kernel
theorem dX2_low_26 : decode cX2_low 26 = .ok (.getfield 13, 3) := by decide +kernel
theorem dX2_low_29 : decode cX2_low 29 = .ok (.iconst 3, 1) := by decide +kernel
theorem dX2_low_30 : decode cX2_low 30 = .ok (.iload_n 2, 1) := by decide +kernel
theorem dX2_low_31 : decode cX2_low 31 = .ok (.iadd, 1) := by decide +kernel
theorem dX2_low_32 : decode cX2_low 32 = .ok (.iaload, 1) := by decide +kernel
theorem dX2_low_33 : decode cX2_low 33 = .ok (.aload_n 0, 1) := by decide +kernel
theorem dX2_low_34 : decode cX2_low 34 = .ok (.getfield 13, 3) := by decide +kernel
theorem dX2_low_37 : decode cX2_low 37 = .ok (.iconst 3, 1) := by decide +kernel
theorem dX2_low_38 : decode cX2_low 38 = .ok (.iload_n 1, 1) := by decide +kernel
theorem dX2_low_39 : decode cX2_low 39 = .ok (.iadd, 1) := by decide +kernel
theorem dX2_low_40 : decode cX2_low 40 = .ok (.iaload, 1) := by decide +kernel
theorem dX2_low_41 : decode cX2_low 41 = .ok (.if_icmp .ge 5, 3) := by decide +kernel
theorem dX2_low_44 : decode cX2_low 44 = .ok (.iload_n 2, 1) := by decide +kernel
theorem dX2_low_45 : decode cX2_low 45 = .ok (.istore_n 1, 1) := by decide +kernel
theorem dX2_low_46 : decode cX2_low 46 = .ok (.iinc 2 1, 3) := by decide +kernel
theorem dX2_low_49 : decode cX2_low 49 = .ok (.goto (-45), 3) := by decide +kernel
theorem dX2_low_52 : decode cX2_low 52 = .ok (.iload_n 1, 1) := by decide +kernel
theorem dX2_low_53 : decode cX2_low 53 = .ok (.ireturn, 1) := by decide +kernel
theorem dX2_lowest_0 : decode cX2_lowest 0 = .ok (.aload_n 0, 1) := by decide +kernel
theorem dX2_lowest_1 : decode cX2_lowest 1 = .ok (.aload_n 0, 1) := by decide +kernel
theorem dX2_lowest_2 : decode cX2_lowest 2 = .ok (.invokevirtual 112, 3) := by decide +kernel
theorem dX2_lowest_5 : decode cX2_lowest 5 = .ok (.invokevirtual 97, 3) := by decide +kernel
theorem dX2_lowest_8 : decode cX2_lowest 8 = .ok (.ireturn, 1) := by decide +kernel
theorem dX2_isClear_0 : decode cX2_isClear 0 = .ok (.aload_n 0, 1) := by decide +kernel
theorem dX2_isClear_1 : decode cX2_isClear 1 = .ok (.iconst 0, 1) := by decide +kernel
theorem dX2_isClear_2 : decode cX2_isClear 2 = .ok (.putfield 19, 3) := by decide +kernel
theorem dX2_isClear_5 : decode cX2_isClear 5 = .ok (.aload_n 0, 1) := by decide +kernel
theorem dX2_isClear_6 : decode cX2_isClear 6 = .ok (.invokevirtual 72, 3) := by decide +kernel
theorem dX2_isClear_9 : decode cX2_isClear 9 = .ok (.ireturn, 1) := by decide +kernel
theorem dX2_cadences_0 : decode cX2_cadences 0 = .ok (.aload_n 0, 1) := by decide +kernel
theorem dX2_cadences_1 : decode cX2_cadences 1 = .ok (.aload_n 0, 1) := by decide +kernel
theorem dX2_cadences_2 : decode cX2_cadences 2 = .ok (.getfield 13, 3) := by decide +kernel
theorem dX2_cadences_5 : decode cX2_cadences 5 = .ok (.iconst 1, 1) := by decide +kernel
theorem dX2_cadences_6 : decode cX2_cadences 6 = .ok (.iaload, 1) := by decide +kernel
theorem dX2_cadences_7 : decode cX2_cadences 7 = .ok (.invokevirtual 97, 3) := by decide +kernel
theorem dX2_cadences_10 : decode cX2_cadences 10 = .ok (.ireturn, 1) := by decide +kernel
theorem dX2_tuning_0 : decode cX2_tuning 0 = .ok (.aload_n 0, 1) := by decide +kernel
theorem dX2_tuning_1 : decode cX2_tuning 1 = .ok (.getfield 13, 3) := by decide +kernel
theorem dX2_tuning_4 : decode cX2_tuning 4 = .ok (.iconst 3, 1) := by decide +kernel
theorem dX2_tuning_5 : decode cX2_tuning 5 = .ok (.iload_n 1, 1) := by decide +kernel
theorem dX2_tuning_6 : decode cX2_tuning 6 = .ok (.iadd, 1) := by decide +kernel
theorem dX2_tuning_7 : decode cX2_tuning 7 = .ok (.iaload, 1) := by decide +kernel
theorem dX2_tuning_8 : decode cX2_tuning 8 = .ok (.istore_n 2, 1) := by decide +kernel
theorem dX2_tuning_9 : decode cX2_tuning 9 = .ok (.iconst 0, 1) := by decide +kernel
theorem dX2_tuning_10 : decode cX2_tuning 10 = .ok (.istore_n 3, 1) := by decide +kernel
theorem dX2_tuning_11 : decode cX2_tuning 11 = .ok (.aload_n 0, 1) := by decide +kernel
theorem dX2_tuning_12 : decode cX2_tuning 12 = .ok (.aload_n 0, 1) := by decide +kernel
theorem dX2_tuning_13 : decode cX2_tuning 13 = .ok (.invokevirtual 68, 3) := by decide +kernel
theorem dX2_tuning_16 : decode cX2_tuning 16 = .ok (.invokevirtual 103, 3) := by decide +kernel
theorem dX2_tuning_19 : decode cX2_tuning 19 = .ok (.istore 4, 2) := by decide +kernel
theorem dX2_tuning_21 : decode cX2_tuning 21 = .ok (.iconst 2, 1) := by decide +kernel
theorem dX2_tuning_22 : decode cX2_tuning 22 = .ok (.istore 5, 2) := by decide +kernel
theorem dX2_tuning_24 : decode cX2_tuning 24 = .ok (.iload 5, 2) := by decide +kernel
theorem dX2_tuning_26 : decode cX2_tuning 26 = .ok (.bipush 26, 2) := by decide +kernel
theorem dX2_tuning_28 : decode cX2_tuning 28 = .ok (.if_icmp .ge 85, 3) := by decide +kernel
theorem dX2_tuning_31 : decode cX2_tuning 31 = .ok (.iload 5, 2) := by decide +kernel
theorem dX2_tuning_33 : decode cX2_tuning 33 = .ok (.iconst 2, 1) := by decide +kernel
theorem dX2_tuning_34 : decode cX2_tuning 34 = .ok (.irem, 1) := by decide +kernel
theorem dX2_tuning_35 : decode cX2_tuning 35 = .ok (.ifCond .ne 10, 3) := by decide +kernel
theorem dX2_tuning_38 : decode cX2_tuning 38 = .ok (.iload 5, 2) := by decide +kernel
theorem dX2_tuning_40 : decode cX2_tuning 40 = .ok (.iconst 2, 1) := by decide +kernel
theorem dX2_tuning_41 : decode cX2_tuning 41 = .ok (.idiv, 1) := by decide +kernel
theorem dX2_tuning_42 : decode cX2_tuning 42 = .ok (.goto 8, 3) := by decide +kernel
theorem dX2_tuning_45 : decode cX2_tuning 45 = .ok (.iload 5, 2) := by decide +kernel
theorem dX2_tuning_47 : decode cX2_tuning 47 = .ok (.iconst 2, 1) := by decide +kernel
theorem dX2_tuning_48 : decode cX2_tuning 48 = .ok (.idiv, 1) := by decide +kernel
theorem dX2_tuning_49 : decode cX2_tuning 49 = .ok (.ineg, 1) := by decide +kernel
theorem dX2_tuning_50 : decode cX2_tuning 50 = .ok (.istore 6, 2) := by decide +kernel
theorem dX2_tuning_52 : decode cX2_tuning 52 = .ok (.iload_n 2, 1) := by decide +kernel
theorem dX2_tuning_53 : decode cX2_tuning 53 = .ok (.iload 6, 2) := by decide +kernel
theorem dX2_tuning_55 : decode cX2_tuning 55 = .ok (.iadd, 1) := by decide +kernel
theorem dX2_tuning_56 : decode cX2_tuning 56 = .ok (.iconst 0, 1) := by decide +kernel
theorem dX2_tuning_57 : decode cX2_tuning 57 = .ok (.bipush 35, 2) := by decide +kernel
theorem dX2_tuning_59 : decode cX2_tuning 59 = .ok (.invokestatic 26, 3) := by decide +kernel
theorem dX2_tuning_62 : decode cX2_tuning 62 = .ok (.ifCond .ne 6, 3) := by decide +kernel
theorem dX2_tuning_65 : decode cX2_tuning 65 = .ok (.goto 42, 3) := by decide +kernel
theorem dX2_tuning_68 : decode cX2_tuning 68 = .ok (.aload_n 0, 1) := by decide +kernel
theorem dX2_tuning_69 : decode cX2_tuning 69 = .ok (.getfield 13, 3) := by decide +kernel
theorem dX2_tuning_72 : decode cX2_tuning 72 = .ok (.iconst 3, 1) := by decide +kernel
theorem dX2_tuning_73 : decode cX2_tuning 73 = .ok (.iload_n 1, 1) := by decide +kernel
theorem dX2_tuning_74 : decode cX2_tuning 74 = .ok (.iadd, 1) := by decide +kernel
theorem dX2_tuning_75 : decode cX2_tuning 75 = .ok (.iload_n 2, 1) := by decide +kernel
theorem dX2_tuning_76 : decode cX2_tuning 76 = .ok (.iload 6, 2) := by decide +kernel
theorem dX2_tuning_78 : decode cX2_tuning 78 = .ok (.iadd, 1) := by decide +kernel
theorem dX2_tuning_79 : decode cX2_tuning 79 = .ok (.iastore, 1) := by decide +kernel
theorem dX2_tuning_80 : decode cX2_tuning 80 = .ok (.aload_n 0, 1) := by decide +kernel
theorem dX2_tuning_81 : decode cX2_tuning 81 = .ok (.aload_n 0, 1) := by decide +kernel
theorem dX2_tuning_82 : decode cX2_tuning 82 = .ok (.invokevirtual 68, 3) := by decide +kernel
theorem dX2_tuning_85 : decode cX2_tuning 85 = .ok (.invokevirtual 103, 3) := by decide +kernel
theorem dX2_tuning_88 : decode cX2_tuning 88 = .ok (.istore 7, 2) := by decide +kernel
theorem dX2_tuning_90 : decode cX2_tuning 90 = .ok (.iload 7, 2) := by decide +kernel
theorem dX2_tuning_92 : decode cX2_tuning 92 = .ok (.iload 4, 2) := by decide +kernel
theorem dX2_tuning_94 : decode cX2_tuning 94 = .ok (.if_icmp .gt 6, 3) := by decide +kernel
theorem dX2_tuning_97 : decode cX2_tuning 97 = .ok (.goto 10, 3) := by decide +kernel
theorem dX2_tuning_100 : decode cX2_tuning 100 = .ok (.iload 6, 2) := by decide +kernel
theorem dX2_tuning_102 : decode cX2_tuning 102 = .ok (.istore_n 3, 1) := by decide +kernel
theorem dX2_tuning_103 : decode cX2_tuning 103 = .ok (.iload 7, 2) := by decide +kernel
theorem dX2_tuning_105 : decode cX2_tuning 105 = .ok (.istore 4, 2) := by decide +kernel
theorem dX2_tuning_107 : decode cX2_tuning 107 = .ok (.iinc 5 1, 3) := by decide +kernel
theorem dX2_tuning_110 : decode cX2_tuning 110 = .ok (.goto (-86), 3) := by decide +kernel
theorem dX2_tuning_113 : decode cX2_tuning 113 = .ok (.aload_n 0, 1) := by decide +kernel
theorem dX2_tuning_114 : decode cX2_tuning 114 = .ok (.getfield 13, 3) := by decide +kernel
theorem dX2_tuning_117 : decode cX2_tuning 117 = .ok (.iconst 3, 1) := by decide +kernel
theorem dX2_tuning_118 : decode cX2_tuning 118 = .ok (.iload_n 1, 1) := by decide +kernel
theorem dX2_tuning_119 : decode cX2_tuning 119 = .ok (.iadd, 1) := by decide +kernel
theorem dX2_tuning_120 : decode cX2_tuning 120 = .ok (.iload_n 2, 1) := by decide +kernel
theorem dX2_tuning_121 : decode cX2_tuning 121 = .ok (.iastore, 1) := by decide +kernel
theorem dX2_tuning_122 : decode cX2_tuning 122 = .ok (.iload_n 3, 1) := by decide +kernel
theorem dX2_tuning_123 : decode cX2_tuning 123 = .ok (.ireturn, 1) := by decide +kernel
theorem dX2_bestTuning_0 : decode cX2_bestTuning 0 = .ok (.aload_n 0, 1) := by decide +kernel
theorem dX2_bestTuning_1 : decode cX2_bestTuning 1 = .ok (.iconst 0, 1) := by decide +kernel
theorem dX2_bestTuning_2 : decode cX2_bestTuning 2 = .ok (.putfield 19, 3) := by decide +kernel
theorem dX2_bestTuning_5 : decode cX2_bestTuning 5 = .ok (.aload_n 0, 1) := by decide +kernel
theorem dX2_bestTuning_6 : decode cX2_bestTuning 6 = .ok (.iload_n 1, 1) := by decide +kernel
theorem dX2_bestTuning_7 : decode cX2_bestTuning 7 = .ok (.invokevirtual 88, 3) := by decide +kernel
theorem dX2_bestTuning_10 : decode cX2_bestTuning 10 = .ok (.ifCond .eq 11, 3) := by decide +kernel
theorem dX2_bestTuning_13 : decode cX2_bestTuning 13 = .ok (.aload_n 0, 1) := by decide +kernel
theorem dX2_bestTuning_14 : decode cX2_bestTuning 14 = .ok (.iload_n 1, 1) := by decide +kernel
theorem dX2_bestTuning_15 : decode cX2_bestTuning 15 = .ok (.invokevirtual 115, 3) := by decide +kernel
theorem dX2_bestTuning_18 : decode cX2_bestTuning 18 = .ok (.goto 8, 3) := by decide +kernel
theorem dX2_bestTuning_21 : decode cX2_bestTuning 21 = .ok (.aload_n 0, 1) := by decide +kernel
theorem dX2_bestTuning_22 : decode cX2_bestTuning 22 = .ok (.iconst 1, 1) := by decide +kernel
theorem dX2_bestTuning_23 : decode cX2_bestTuning 23 = .ok (.invokevirtual 85, 3) := by decide +kernel
theorem dX2_bestTuning_26 : decode cX2_bestTuning 26 = .ok (.ireturn, 1) := by decide +kernel
theorem dX2_mute_0 : decode cX2_mute 0 = .ok (.aload_n 0, 1) := by decide +kernel
theorem dX2_mute_1 : decode cX2_mute 1 = .ok (.invokevirtual 68, 3) := by decide +kernel
theorem dX2_mute_4 : decode cX2_mute 4 = .ok (.istore_n 1, 1) := by decide +kernel
theorem dX2_mute_5 : decode cX2_mute 5 = .ok (.iconst (-1), 1) := by decide +kernel
theorem dX2_mute_6 : decode cX2_mute 6 = .ok (.istore_n 2, 1) := by decide +kernel
theorem dX2_mute_7 : decode cX2_mute 7 = .ok (.iconst 0, 1) := by decide +kernel
theorem dX2_mute_8 : decode cX2_mute 8 = .ok (.istore_n 3, 1) := by decide +kernel
theorem dX2_mute_9 : decode cX2_mute 9 = .ok (.iconst 0, 1) := by decide +kernel
theorem dX2_mute_10 : decode cX2_mute 10 = .ok (.istore 4, 2) := by decide +kernel
theorem dX2_mute_12 : decode cX2_mute 12 = .ok (.iload 4, 2) := by decide +kernel
theorem dX2_mute_14 : decode cX2_mute 14 = .ok (.aload_n 0, 1) := by decide +kernel
theorem dX2_mute_15 : decode cX2_mute 15 = .ok (.getfield 23, 3) := by decide +kernel
theorem dX2_mute_18 : decode cX2_mute 18 = .ok (.if_icmp .ge 55, 3) := by decide +kernel
theorem dX2_mute_21 : decode cX2_mute 21 = .ok (.iload_n 1, 1) := by decide +kernel
theorem dX2_mute_22 : decode cX2_mute 22 = .ok (.iload 4, 2) := by decide +kernel
theorem dX2_mute_24 : decode cX2_mute 24 = .ok (.ishr, 1) := by decide +kernel
theorem dX2_mute_25 : decode cX2_mute 25 = .ok (.iconst 1, 1) := by decide +kernel
theorem dX2_mute_26 : decode cX2_mute 26 = .ok (.iand, 1) := by decide +kernel
theorem dX2_mute_27 : decode cX2_mute 27 = .ok (.ifCond .ne 6, 3) := by decide +kernel
theorem dX2_mute_30 : decode cX2_mute 30 = .ok (.goto 37, 3) := by decide +kernel
theorem dX2_mute_33 : decode cX2_mute 33 = .ok (.aload_n 0, 1) := by decide +kernel
theorem dX2_mute_34 : decode cX2_mute 34 = .ok (.iload_n 1, 1) := by decide +kernel
theorem dX2_mute_35 : decode cX2_mute 35 = .ok (.iconst 1, 1) := by decide +kernel
theorem dX2_mute_36 : decode cX2_mute 36 = .ok (.iload 4, 2) := by decide +kernel
theorem dX2_mute_38 : decode cX2_mute 38 = .ok (.ishl, 1) := by decide +kernel
theorem dX2_mute_39 : decode cX2_mute 39 = .ok (.iconst (-1), 1) := by decide +kernel
theorem dX2_mute_40 : decode cX2_mute 40 = .ok (.ixor, 1) := by decide +kernel
theorem dX2_mute_41 : decode cX2_mute 41 = .ok (.iand, 1) := by decide +kernel
theorem dX2_mute_42 : decode cX2_mute 42 = .ok (.invokevirtual 103, 3) := by decide +kernel
theorem dX2_mute_45 : decode cX2_mute 45 = .ok (.istore 5, 2) := by decide +kernel
theorem dX2_mute_47 : decode cX2_mute 47 = .ok (.iload_n 2, 1) := by decide +kernel
theorem dX2_mute_48 : decode cX2_mute 48 = .ok (.iconst (-1), 1) := by decide +kernel
theorem dX2_mute_49 : decode cX2_mute 49 = .ok (.if_icmp .eq 12, 3) := by decide +kernel
theorem dX2_mute_52 : decode cX2_mute 52 = .ok (.iload 5, 2) := by decide +kernel
theorem dX2_mute_54 : decode cX2_mute 54 = .ok (.iload_n 3, 1) := by decide +kernel
theorem dX2_mute_55 : decode cX2_mute 55 = .ok (.if_icmp .gt 6, 3) := by decide +kernel
theorem dX2_mute_58 : decode cX2_mute 58 = .ok (.goto 9, 3) := by decide +kernel
theorem dX2_mute_61 : decode cX2_mute 61 = .ok (.iload 4, 2) := by decide +kernel
theorem dX2_mute_63 : decode cX2_mute 63 = .ok (.istore_n 2, 1) := by decide +kernel
theorem dX2_mute_64 : decode cX2_mute 64 = .ok (.iload 5, 2) := by decide +kernel
theorem dX2_mute_66 : decode cX2_mute 66 = .ok (.istore_n 3, 1) := by decide +kernel
theorem dX2_mute_67 : decode cX2_mute 67 = .ok (.iinc 4 1, 3) := by decide +kernel
theorem dX2_mute_70 : decode cX2_mute 70 = .ok (.goto (-58), 3) := by decide +kernel
theorem dX2_mute_73 : decode cX2_mute 73 = .ok (.iload_n 2, 1) := by decide +kernel
theorem dX2_mute_74 : decode cX2_mute 74 = .ok (.ireturn, 1) := by decide +kernel
theorem dX2_bestToMute_0 : decode cX2_bestToMute 0 = .ok (.aload_n 0, 1) := by decide +kernel
theorem dX2_bestToMute_1 : decode cX2_bestToMute 1 = .ok (.aload_n 0, 1) := by decide +kernel
theorem dX2_bestToMute_2 : decode cX2_bestToMute 2 = .ok (.invokevirtual 118, 3) := by decide +kernel
theorem dX2_bestToMute_5 : decode cX2_bestToMute 5 = .ok (.invokevirtual 97, 3) := by decide +kernel
theorem dX2_bestToMute_8 : decode cX2_bestToMute 8 = .ok (.ireturn, 1) := by decide +kernel
theorem dX2_harmonyIn_0 : decode cX2_harmonyIn 0 = .ok (.aload_n 0, 1) := by decide +kernel
theorem dX2_harmonyIn_1 : decode cX2_harmonyIn 1 = .ok (.iconst 0, 1) := by decide +kernel
theorem dX2_harmonyIn_2 : decode cX2_harmonyIn 2 = .ok (.putfield 19, 3) := by decide +kernel
theorem dX2_harmonyIn_5 : decode cX2_harmonyIn 5 = .ok (.iload_n 1, 1) := by decide +kernel
theorem dX2_harmonyIn_6 : decode cX2_harmonyIn 6 = .ok (.iconst 1, 1) := by decide +kernel
theorem dX2_harmonyIn_7 : decode cX2_harmonyIn 7 = .ok (.bipush 60, 2) := by decide +kernel
theorem dX2_harmonyIn_9 : decode cX2_harmonyIn 9 = .ok (.invokestatic 26, 3) := by decide +kernel
theorem dX2_harmonyIn_12 : decode cX2_harmonyIn 12 = .ok (.ifCond .ne 9, 3) := by decide +kernel
theorem dX2_harmonyIn_15 : decode cX2_harmonyIn 15 = .ok (.aload_n 0, 1) := by decide +kernel
theorem dX2_harmonyIn_16 : decode cX2_harmonyIn 16 = .ok (.iconst 1, 1) := by decide +kernel
theorem dX2_harmonyIn_17 : decode cX2_harmonyIn 17 = .ok (.invokevirtual 85, 3) := by decide +kernel
theorem dX2_harmonyIn_20 : decode cX2_harmonyIn 20 = .ok (.ireturn, 1) := by decide +kernel
theorem dX2_harmonyIn_21 : decode cX2_harmonyIn 21 = .ok (.aload_n 0, 1) := by decide +kernel
theorem dX2_harmonyIn_22 : decode cX2_harmonyIn 22 = .ok (.invokevirtual 121, 3) := by decide +kernel
theorem dX2_harmonyIn_25 : decode cX2_harmonyIn 25 = .ok (.aload_n 0, 1) := by decide +kernel
theorem dX2_harmonyIn_26 : decode cX2_harmonyIn 26 = .ok (.iload_n 1, 1) := by decide +kernel
theorem dX2_harmonyIn_27 : decode cX2_harmonyIn 27 = .ok (.invokevirtual 94, 3) := by decide +kernel
theorem dX2_harmonyIn_30 : decode cX2_harmonyIn 30 = .ok (.pop, 1) := by decide +kernel
theorem dX2_harmonyIn_31 : decode cX2_harmonyIn 31 = .ok (.aload_n 0, 1) := by decide +kernel
theorem dX2_harmonyIn_32 : decode cX2_harmonyIn 32 = .ok (.aload_n 0, 1) := by decide +kernel
theorem dX2_harmonyIn_33 : decode cX2_harmonyIn 33 = .ok (.invokevirtual 68, 3) := by decide +kernel
theorem dX2_harmonyIn_36 : decode cX2_harmonyIn 36 = .ok (.invokevirtual 103, 3) := by decide +kernel
theorem dX2_harmonyIn_39 : decode cX2_harmonyIn 39 = .ok (.istore_n 2, 1) := by decide +kernel
theorem dX2_harmonyIn_40 : decode cX2_harmonyIn 40 = .ok (.aload_n 0, 1) := by decide +kernel
theorem dX2_harmonyIn_41 : decode cX2_harmonyIn 41 = .ok (.invokevirtual 124, 3) := by decide +kernel
theorem dX2_harmonyIn_44 : decode cX2_harmonyIn 44 = .ok (.iload_n 2, 1) := by decide +kernel
theorem dX2_harmonyIn_45 : decode cX2_harmonyIn 45 = .ok (.ireturn, 1) := by decide +kernel
theorem dX2_silence_0 : decode cX2_silence 0 = .ok (.aload_n 0, 1) := by decide +kernel
theorem dX2_silence_1 : decode cX2_silence 1 = .ok (.invokevirtual 121, 3) := by decide +kernel
theorem dX2_silence_4 : decode cX2_silence 4 = .ok (.iconst 0, 1) := by decide +kernel
theorem dX2_silence_5 : decode cX2_silence 5 = .ok (.istore_n 1, 1) := by decide +kernel
theorem dX2_silence_6 : decode cX2_silence 6 = .ok (.aload_n 0, 1) := by decide +kernel
theorem dX2_silence_7 : decode cX2_silence 7 = .ok (.invokevirtual 68, 3) := by decide +kernel
theorem dX2_silence_10 : decode cX2_silence 10 = .ok (.ifCond .eq 14, 3) := by decide +kernel
theorem dX2_silence_13 : decode cX2_silence 13 = .ok (.aload_n 0, 1) := by decide +kernel
theorem dX2_silence_14 : decode cX2_silence 14 = .ok (.invokevirtual 82, 3) := by decide +kernel
theorem dX2_silence_17 : decode cX2_silence 17 = .ok (.pop, 1) := by decide +kernel
theorem dX2_silence_18 : decode cX2_silence 18 = .ok (.iinc 1 1, 3) := by decide +kernel
theorem dX2_silence_21 : decode cX2_silence 21 = .ok (.goto (-15), 3) := by decide +kernel
theorem dX2_silence_24 : decode cX2_silence 24 = .ok (.aload_n 0, 1) := by decide +kernel
theorem dX2_silence_25 : decode cX2_silence 25 = .ok (.invokevirtual 124, 3) := by decide +kernel
theorem dX2_silence_28 : decode cX2_silence 28 = .ok (.iload_n 1, 1) := by decide +kernel
theorem dX2_silence_29 : decode cX2_silence 29 = .ok (.ireturn, 1) := by decide +kernel
theorem dX2_beatsUntilSilence_0 : decode cX2_beatsUntilSilence 0 = .ok (.aload_n 0, 1) := by decide +kernel
theorem dX2_beatsUntilSilence_1 : decode cX2_beatsUntilSilence 1 = .ok (.aload_n 0, 1) := by decide +kernel
theorem dX2_beatsUntilSilence_2 : decode cX2_beatsUntilSilence 2 = .ok (.invokevirtual 127, 3) := by decide +kernel
theorem dX2_beatsUntilSilence_5 : decode cX2_beatsUntilSilence 5 = .ok (.invokevirtual 97, 3) := by decide +kernel
theorem dX2_beatsUntilSilence_8 : decode cX2_beatsUntilSilence 8 = .ok (.ireturn, 1) := by decide +kernel
theorem dX2_untilCadence_0 : decode cX2_untilCadence 0 = .ok (.aload_n 0, 1) := by decide +kernel
theorem dX2_untilCadence_1 : decode cX2_untilCadence 1 = .ok (.invokevirtual 121, 3) := by decide +kernel
theorem dX2_untilCadence_4 : decode cX2_untilCadence 4 = .ok (.iconst 1, 1) := by decide +kernel
theorem dX2_untilCadence_5 : decode cX2_untilCadence 5 = .ok (.istore_n 1, 1) := by decide +kernel
theorem dX2_untilCadence_6 : decode cX2_untilCadence 6 = .ok (.iload_n 1, 1) := by decide +kernel
theorem dX2_untilCadence_7 : decode cX2_untilCadence 7 = .ok (.bipush 61, 2) := by decide +kernel
theorem dX2_untilCadence_9 : decode cX2_untilCadence 9 = .ok (.if_icmp .ge 16, 3) := by decide +kernel
theorem dX2_untilCadence_12 : decode cX2_untilCadence 12 = .ok (.aload_n 0, 1) := by decide +kernel
theorem dX2_untilCadence_13 : decode cX2_untilCadence 13 = .ok (.invokevirtual 82, 3) := by decide +kernel
theorem dX2_untilCadence_16 : decode cX2_untilCadence 16 = .ok (.ifCond .ne 9, 3) := by decide +kernel
theorem dX2_untilCadence_19 : decode cX2_untilCadence 19 = .ok (.iinc 1 1, 3) := by decide +kernel
theorem dX2_untilCadence_22 : decode cX2_untilCadence 22 = .ok (.goto (-16), 3) := by decide +kernel
theorem dX2_untilCadence_25 : decode cX2_untilCadence 25 = .ok (.aload_n 0, 1) := by decide +kernel
theorem dX2_untilCadence_26 : decode cX2_untilCadence 26 = .ok (.invokevirtual 124, 3) := by decide +kernel
theorem dX2_untilCadence_29 : decode cX2_untilCadence 29 = .ok (.iload_n 1, 1) := by decide +kernel
theorem dX2_untilCadence_30 : decode cX2_untilCadence 30 = .ok (.bipush 60, 2) := by decide +kernel
theorem dX2_untilCadence_32 : decode cX2_untilCadence 32 = .ok (.if_icmp .le 7, 3) := by decide +kernel
theorem dX2_untilCadence_35 : decode cX2_untilCadence 35 = .ok (.iconst (-1), 1) := by decide +kernel
theorem dX2_untilCadence_36 : decode cX2_untilCadence 36 = .ok (.goto 4, 3) := by decide +kernel
theorem dX2_untilCadence_39 : decode cX2_untilCadence 39 = .ok (.iload_n 1, 1) := by decide +kernel
theorem dX2_untilCadence_40 : decode cX2_untilCadence 40 = .ok (.ireturn, 1) := by decide +kernel
theorem dX2_beatsUntilCadence_0 : decode cX2_beatsUntilCadence 0 = .ok (.aload_n 0, 1) := by decide +kernel
theorem dX2_beatsUntilCadence_1 : decode cX2_beatsUntilCadence 1 = .ok (.aload_n 0, 1) := by decide +kernel
theorem dX2_beatsUntilCadence_2 : decode cX2_beatsUntilCadence 2 = .ok (.invokevirtual 130, 3) := by decide +kernel
theorem dX2_beatsUntilCadence_5 : decode cX2_beatsUntilCadence 5 = .ok (.invokevirtual 97, 3) := by decide +kernel
theorem dX2_beatsUntilCadence_8 : decode cX2_beatsUntilCadence 8 = .ok (.ireturn, 1) := by decide +kernel
theorem dX2_greatest_0 : decode cX2_greatest 0 = .ok (.aload_n 0, 1) := by decide +kernel
theorem dX2_greatest_1 : decode cX2_greatest 1 = .ok (.invokevirtual 68, 3) := by decide +kernel
theorem dX2_greatest_4 : decode cX2_greatest 4 = .ok (.istore_n 1, 1) := by decide +kernel
theorem dX2_greatest_5 : decode cX2_greatest 5 = .ok (.iconst 0, 1) := by decide +kernel
theorem dX2_greatest_6 : decode cX2_greatest 6 = .ok (.istore_n 2, 1) := by decide +kernel
theorem dX2_greatest_7 : decode cX2_greatest 7 = .ok (.iload_n 1, 1) := by decide +kernel
theorem dX2_greatest_8 : decode cX2_greatest 8 = .ok (.istore_n 3, 1) := by decide +kernel
theorem dX2_greatest_9 : decode cX2_greatest 9 = .ok (.iload_n 3, 1) := by decide +kernel
theorem dX2_greatest_10 : decode cX2_greatest 10 = .ok (.ifCond .le 33, 3) := by decide +kernel
theorem dX2_greatest_13 : decode cX2_greatest 13 = .ok (.iload_n 3, 1) := by decide +kernel
theorem dX2_greatest_14 : decode cX2_greatest 14 = .ok (.invokestatic 60, 3) := by decide +kernel
theorem dX2_greatest_17 : decode cX2_greatest 17 = .ok (.iload_n 2, 1) := by decide +kernel
theorem dX2_greatest_18 : decode cX2_greatest 18 = .ok (.if_icmp .le 16, 3) := by decide +kernel
theorem dX2_greatest_21 : decode cX2_greatest 21 = .ok (.aload_n 0, 1) := by decide +kernel
theorem dX2_greatest_22 : decode cX2_greatest 22 = .ok (.iload_n 3, 1) := by decide +kernel
theorem dX2_greatest_23 : decode cX2_greatest 23 = .ok (.invokevirtual 65, 3) := by decide +kernel
theorem dX2_greatest_26 : decode cX2_greatest 26 = .ok (.ifCond .ne 8, 3) := by decide +kernel
theorem dX2_greatest_29 : decode cX2_greatest 29 = .ok (.iload_n 3, 1) := by decide +kernel
theorem dX2_greatest_30 : decode cX2_greatest 30 = .ok (.invokestatic 60, 3) := by decide +kernel
theorem dX2_greatest_33 : decode cX2_greatest 33 = .ok (.istore_n 2, 1) := by decide +kernel
theorem dX2_greatest_34 : decode cX2_greatest 34 = .ok (.iload_n 3, 1) := by decide +kernel
theorem dX2_greatest_35 : decode cX2_greatest 35 = .ok (.iconst 1, 1) := by decide +kernel
theorem dX2_greatest_36 : decode cX2_greatest 36 = .ok (.isub, 1) := by decide +kernel
theorem dX2_greatest_37 : decode cX2_greatest 37 = .ok (.iload_n 1, 1) := by decide +kernel
theorem dX2_greatest_38 : decode cX2_greatest 38 = .ok (.iand, 1) := by decide +kernel
theorem dX2_greatest_39 : decode cX2_greatest 39 = .ok (.istore_n 3, 1) := by decide +kernel
theorem dX2_greatest_40 : decode cX2_greatest 40 = .ok (.goto (-31), 3) := by decide +kernel
theorem dX2_greatest_43 : decode cX2_greatest 43 = .ok (.iload_n 2, 1) := by decide +kernel
theorem dX2_greatest_44 : decode cX2_greatest 44 = .ok (.ireturn, 1) := by decide +kernel
theorem dX2_greatestAccord_0 : decode cX2_greatestAccord 0 = .ok (.aload_n 0, 1) := by decide +kernel
theorem dX2_greatestAccord_1 : decode cX2_greatestAccord 1 = .ok (.aload_n 0, 1) := by decide +kernel
theorem dX2_greatestAccord_2 : decode cX2_greatestAccord 2 = .ok (.invokevirtual 133, 3) := by decide +kernel
theorem dX2_greatestAccord_5 : decode cX2_greatestAccord 5 = .ok (.invokevirtual 97, 3) := by decide +kernel
theorem dX2_greatestAccord_8 : decode cX2_greatestAccord 8 = .ok (.ireturn, 1) := by decide +kernel
theorem dX2_meanPitch_0 : decode cX2_meanPitch 0 = .ok (.aload_n 0, 1) := by decide +kernel
theorem dX2_meanPitch_1 : decode cX2_meanPitch 1 = .ok (.iconst 0, 1) := by decide +kernel
theorem dX2_meanPitch_2 : decode cX2_meanPitch 2 = .ok (.putfield 19, 3) := by decide +kernel
theorem dX2_meanPitch_5 : decode cX2_meanPitch 5 = .ok (.iconst 0, 1) := by decide +kernel
theorem dX2_meanPitch_6 : decode cX2_meanPitch 6 = .ok (.istore_n 1, 1) := by decide +kernel
theorem dX2_meanPitch_7 : decode cX2_meanPitch 7 = .ok (.iconst 0, 1) := by decide +kernel
theorem dX2_meanPitch_8 : decode cX2_meanPitch 8 = .ok (.istore_n 2, 1) := by decide +kernel
theorem dX2_meanPitch_9 : decode cX2_meanPitch 9 = .ok (.iload_n 2, 1) := by decide +kernel
theorem dX2_meanPitch_10 : decode cX2_meanPitch 10 = .ok (.aload_n 0, 1) := by decide +kernel
theorem dX2_meanPitch_11 : decode cX2_meanPitch 11 = .ok (.getfield 23, 3) := by decide +kernel
theorem dX2_meanPitch_14 : decode cX2_meanPitch 14 = .ok (.if_icmp .ge 32, 3) := by decide +kernel
theorem dX2_meanPitch_17 : decode cX2_meanPitch 17 = .ok (.iload_n 1, 1) := by decide +kernel
theorem dX2_meanPitch_18 : decode cX2_meanPitch 18 = .ok (.aload_n 0, 1) := by decide +kernel
theorem dX2_meanPitch_19 : decode cX2_meanPitch 19 = .ok (.iload_n 2, 1) := by decide +kernel
theorem dX2_meanPitch_20 : decode cX2_meanPitch 20 = .ok (.invokevirtual 39, 3) := by decide +kernel
theorem dX2_meanPitch_23 : decode cX2_meanPitch 23 = .ok (.ifCond .eq 14, 3) := by decide +kernel
theorem dX2_meanPitch_26 : decode cX2_meanPitch 26 = .ok (.aload_n 0, 1) := by decide +kernel
theorem dX2_meanPitch_27 : decode cX2_meanPitch 27 = .ok (.getfield 13, 3) := by decide +kernel
theorem dX2_meanPitch_30 : decode cX2_meanPitch 30 = .ok (.iconst 3, 1) := by decide +kernel
theorem dX2_meanPitch_31 : decode cX2_meanPitch 31 = .ok (.iload_n 2, 1) := by decide +kernel
theorem dX2_meanPitch_32 : decode cX2_meanPitch 32 = .ok (.iadd, 1) := by decide +kernel
theorem dX2_meanPitch_33 : decode cX2_meanPitch 33 = .ok (.iaload, 1) := by decide +kernel
theorem dX2_meanPitch_34 : decode cX2_meanPitch 34 = .ok (.goto 4, 3) := by decide +kernel
theorem dX2_meanPitch_37 : decode cX2_meanPitch 37 = .ok (.iconst 0, 1) := by decide +kernel
theorem dX2_meanPitch_38 : decode cX2_meanPitch 38 = .ok (.iadd, 1) := by decide +kernel
theorem dX2_meanPitch_39 : decode cX2_meanPitch 39 = .ok (.istore_n 1, 1) := by decide +kernel
theorem dX2_meanPitch_40 : decode cX2_meanPitch 40 = .ok (.iinc 2 1, 3) := by decide +kernel
theorem dX2_meanPitch_43 : decode cX2_meanPitch 43 = .ok (.goto (-34), 3) := by decide +kernel
theorem dX2_meanPitch_46 : decode cX2_meanPitch 46 = .ok (.aload_n 0, 1) := by decide +kernel
theorem dX2_meanPitch_47 : decode cX2_meanPitch 47 = .ok (.invokevirtual 68, 3) := by decide +kernel
theorem dX2_meanPitch_50 : decode cX2_meanPitch 50 = .ok (.ifCond .ne 7, 3) := by decide +kernel
theorem dX2_meanPitch_53 : decode cX2_meanPitch 53 = .ok (.dconst 0, 1) := by decide +kernel
theorem dX2_meanPitch_54 : decode cX2_meanPitch 54 = .ok (.goto 14, 3) := by decide +kernel
theorem dX2_meanPitch_57 : decode cX2_meanPitch 57 = .ok (.iload_n 1, 1) := by decide +kernel
theorem dX2_meanPitch_58 : decode cX2_meanPitch 58 = .ok (.i2d, 1) := by decide +kernel
theorem dX2_meanPitch_59 : decode cX2_meanPitch 59 = .ok (.aload_n 0, 1) := by decide +kernel
theorem dX2_meanPitch_60 : decode cX2_meanPitch 60 = .ok (.invokevirtual 68, 3) := by decide +kernel
theorem dX2_meanPitch_63 : decode cX2_meanPitch 63 = .ok (.invokestatic 60, 3) := by decide +kernel
theorem dX2_meanPitch_66 : decode cX2_meanPitch 66 = .ok (.i2d, 1) := by decide +kernel
theorem dX2_meanPitch_67 : decode cX2_meanPitch 67 = .ok (.ddiv, 1) := by decide +kernel
theorem dX2_meanPitch_68 : decode cX2_meanPitch 68 = .ok (.dreturn, 1) := by decide +kernel
theorem dX2_digest_0 : decode cX2_digest 0 = .ok (.aload_n 0, 1) := by decide +kernel
theorem dX2_digest_1 : decode cX2_digest 1 = .ok (.iconst 0, 1) := by decide +kernel
theorem dX2_digest_2 : decode cX2_digest 2 = .ok (.putfield 19, 3) := by decide +kernel
theorem dX2_digest_5 : decode cX2_digest 5 = .ok (.aload_n 0, 1) := by decide +kernel
theorem dX2_digest_6 : decode cX2_digest 6 = .ok (.invokevirtual 68, 3) := by decide +kernel
theorem dX2_digest_9 : decode cX2_digest 9 = .ok (.istore_n 1, 1) := by decide +kernel
theorem dX2_digest_10 : decode cX2_digest 10 = .ok (.bipush 13, 2) := by decide +kernel
theorem dX2_digest_12 : decode cX2_digest 12 = .ok (.newarray .int, 2) := by decide +kernel
theorem dX2_digest_14 : decode cX2_digest 14 = .ok (.dup, 1) := by decide +kernel
theorem dX2_digest_15 : decode cX2_digest 15 = .ok (.iconst 0, 1) := by decide +kernel
theorem dX2_digest_16 : decode cX2_digest 16 = .ok (.aload_n 0, 1) := by decide +kernel
theorem dX2_digest_17 : decode cX2_digest 17 = .ok (.getfield 23, 3) := by decide +kernel
theorem dX2_digest_20 : decode cX2_digest 20 = .ok (.iastore, 1) := by decide +kernel
theorem dX2_digest_21 : decode cX2_digest 21 = .ok (.dup, 1) := by decide +kernel
theorem dX2_digest_22 : decode cX2_digest 22 = .ok (.iconst 1, 1) := by decide +kernel
theorem dX2_digest_23 : decode cX2_digest 23 = .ok (.aload_n 0, 1) := by decide +kernel
theorem dX2_digest_24 : decode cX2_digest 24 = .ok (.getfield 13, 3) := by decide +kernel
theorem dX2_digest_27 : decode cX2_digest 27 = .ok (.iconst 0, 1) := by decide +kernel
theorem dX2_digest_28 : decode cX2_digest 28 = .ok (.iaload, 1) := by decide +kernel
theorem dX2_digest_29 : decode cX2_digest 29 = .ok (.iastore, 1) := by decide +kernel
theorem dX2_digest_30 : decode cX2_digest 30 = .ok (.dup, 1) := by decide +kernel
theorem dX2_digest_31 : decode cX2_digest 31 = .ok (.iconst 2, 1) := by decide +kernel
theorem dX2_digest_32 : decode cX2_digest 32 = .ok (.iload_n 1, 1) := by decide +kernel
theorem dX2_digest_33 : decode cX2_digest 33 = .ok (.invokestatic 60, 3) := by decide +kernel
theorem dX2_digest_36 : decode cX2_digest 36 = .ok (.iastore, 1) := by decide +kernel
theorem dX2_digest_37 : decode cX2_digest 37 = .ok (.dup, 1) := by decide +kernel
theorem dX2_digest_38 : decode cX2_digest 38 = .ok (.iconst 3, 1) := by decide +kernel
theorem dX2_digest_39 : decode cX2_digest 39 = .ok (.aload_n 0, 1) := by decide +kernel
theorem dX2_digest_40 : decode cX2_digest 40 = .ok (.iload_n 1, 1) := by decide +kernel
theorem dX2_digest_41 : decode cX2_digest 41 = .ok (.invokevirtual 103, 3) := by decide +kernel
theorem dX2_digest_44 : decode cX2_digest 44 = .ok (.iastore, 1) := by decide +kernel
theorem dX2_digest_45 : decode cX2_digest 45 = .ok (.dup, 1) := by decide +kernel
theorem dX2_digest_46 : decode cX2_digest 46 = .ok (.iconst 4, 1) := by decide +kernel
theorem dX2_digest_47 : decode cX2_digest 47 = .ok (.aload_n 0, 1) := by decide +kernel
theorem dX2_digest_48 : decode cX2_digest 48 = .ok (.iload_n 1, 1) := by decide +kernel
theorem dX2_digest_49 : decode cX2_digest 49 = .ok (.invokevirtual 65, 3) := by decide +kernel
theorem dX2_digest_52 : decode cX2_digest 52 = .ok (.iastore, 1) := by decide +kernel
theorem dX2_digest_53 : decode cX2_digest 53 = .ok (.dup, 1) := by decide +kernel
theorem dX2_digest_54 : decode cX2_digest 54 = .ok (.iconst 5, 1) := by decide +kernel
theorem dX2_digest_55 : decode cX2_digest 55 = .ok (.aload_n 0, 1) := by decide +kernel
theorem dX2_digest_56 : decode cX2_digest 56 = .ok (.invokevirtual 109, 3) := by decide +kernel
theorem dX2_digest_59 : decode cX2_digest 59 = .ok (.iastore, 1) := by decide +kernel
theorem dX2_digest_60 : decode cX2_digest 60 = .ok (.dup, 1) := by decide +kernel
theorem dX2_digest_61 : decode cX2_digest 61 = .ok (.bipush 6, 2) := by decide +kernel
theorem dX2_digest_63 : decode cX2_digest 63 = .ok (.aload_n 0, 1) := by decide +kernel
theorem dX2_digest_64 : decode cX2_digest 64 = .ok (.invokevirtual 112, 3) := by decide +kernel
theorem dX2_digest_67 : decode cX2_digest 67 = .ok (.iastore, 1) := by decide +kernel
theorem dX2_digest_68 : decode cX2_digest 68 = .ok (.dup, 1) := by decide +kernel
theorem dX2_digest_69 : decode cX2_digest 69 = .ok (.bipush 7, 2) := by decide +kernel
theorem dX2_digest_71 : decode cX2_digest 71 = .ok (.aload_n 0, 1) := by decide +kernel
theorem dX2_digest_72 : decode cX2_digest 72 = .ok (.invokevirtual 72, 3) := by decide +kernel
theorem dX2_digest_75 : decode cX2_digest 75 = .ok (.ifCond .eq 7, 3) := by decide +kernel
theorem dX2_digest_78 : decode cX2_digest 78 = .ok (.iconst 1, 1) := by decide +kernel
theorem dX2_digest_79 : decode cX2_digest 79 = .ok (.goto 4, 3) := by decide +kernel
theorem dX2_digest_82 : decode cX2_digest 82 = .ok (.iconst 0, 1) := by decide +kernel
theorem dX2_digest_83 : decode cX2_digest 83 = .ok (.iastore, 1) := by decide +kernel
theorem dX2_digest_84 : decode cX2_digest 84 = .ok (.dup, 1) := by decide +kernel
theorem dX2_digest_85 : decode cX2_digest 85 = .ok (.bipush 8, 2) := by decide +kernel
theorem dX2_digest_87 : decode cX2_digest 87 = .ok (.aload_n 0, 1) := by decide +kernel
theorem dX2_digest_88 : decode cX2_digest 88 = .ok (.getfield 13, 3) := by decide +kernel
theorem dX2_digest_91 : decode cX2_digest 91 = .ok (.iconst 1, 1) := by decide +kernel
theorem dX2_digest_92 : decode cX2_digest 92 = .ok (.iaload, 1) := by decide +kernel
theorem dX2_digest_93 : decode cX2_digest 93 = .ok (.iastore, 1) := by decide +kernel
theorem dX2_digest_94 : decode cX2_digest 94 = .ok (.dup, 1) := by decide +kernel
theorem dX2_digest_95 : decode cX2_digest 95 = .ok (.bipush 9, 2) := by decide +kernel
theorem dX2_digest_97 : decode cX2_digest 97 = .ok (.aload_n 0, 1) := by decide +kernel
theorem dX2_digest_98 : decode cX2_digest 98 = .ok (.invokevirtual 118, 3) := by decide +kernel
theorem dX2_digest_101 : decode cX2_digest 101 = .ok (.iastore, 1) := by decide +kernel
theorem dX2_digest_102 : decode cX2_digest 102 = .ok (.dup, 1) := by decide +kernel
theorem dX2_digest_103 : decode cX2_digest 103 = .ok (.bipush 10, 2) := by decide +kernel
theorem dX2_digest_105 : decode cX2_digest 105 = .ok (.aload_n 0, 1) := by decide +kernel
theorem dX2_digest_106 : decode cX2_digest 106 = .ok (.invokevirtual 127, 3) := by decide +kernel
theorem dX2_digest_109 : decode cX2_digest 109 = .ok (.iastore, 1) := by decide +kernel
theorem dX2_digest_110 : decode cX2_digest 110 = .ok (.dup, 1) := by decide +kernel
theorem dX2_digest_111 : decode cX2_digest 111 = .ok (.bipush 11, 2) := by decide +kernel
theorem dX2_digest_113 : decode cX2_digest 113 = .ok (.aload_n 0, 1) := by decide +kernel
theorem dX2_digest_114 : decode cX2_digest 114 = .ok (.invokevirtual 130, 3) := by decide +kernel
theorem dX2_digest_117 : decode cX2_digest 117 = .ok (.iastore, 1) := by decide +kernel
theorem dX2_digest_118 : decode cX2_digest 118 = .ok (.dup, 1) := by decide +kernel
theorem dX2_digest_119 : decode cX2_digest 119 = .ok (.bipush 12, 2) := by decide +kernel
theorem dX2_digest_121 : decode cX2_digest 121 = .ok (.aload_n 0, 1) := by decide +kernel
theorem dX2_digest_122 : decode cX2_digest 122 = .ok (.invokevirtual 133, 3) := by decide +kernel
theorem dX2_digest_125 : decode cX2_digest 125 = .ok (.iastore, 1) := by decide +kernel
theorem dX2_digest_126 : decode cX2_digest 126 = .ok (.astore_n 2, 1) := by decide +kernel
theorem dX2_digest_127 : decode cX2_digest 127 = .ok (.ldc2_w 136, 3) := by decide +kernel
theorem dX2_digest_130 : decode cX2_digest 130 = .ok (.lstore_n 3, 1) := by decide +kernel
theorem dX2_digest_131 : decode cX2_digest 131 = .ok (.aload_n 2, 1) := by decide +kernel
theorem dX2_digest_132 : decode cX2_digest 132 = .ok (.astore 5, 2) := by decide +kernel
theorem dX2_digest_134 : decode cX2_digest 134 = .ok (.aload 5, 2) := by decide +kernel
theorem dX2_digest_136 : decode cX2_digest 136 = .ok (.arraylength, 1) := by decide +kernel
theorem dX2_digest_137 : decode cX2_digest 137 = .ok (.istore 6, 2) := by decide +kernel
theorem dX2_digest_139 : decode cX2_digest 139 = .ok (.iconst 0, 1) := by decide +kernel
theorem dX2_digest_140 : decode cX2_digest 140 = .ok (.istore 7, 2) := by decide +kernel
theorem dX2_digest_142 : decode cX2_digest 142 = .ok (.iload 7, 2) := by decide +kernel
theorem dX2_digest_144 : decode cX2_digest 144 = .ok (.iload 6, 2) := by decide +kernel
theorem dX2_digest_146 : decode cX2_digest 146 = .ok (.if_icmp .ge 26, 3) := by decide +kernel
theorem dX2_digest_149 : decode cX2_digest 149 = .ok (.aload 5, 2) := by decide +kernel
theorem dX2_digest_151 : decode cX2_digest 151 = .ok (.iload 7, 2) := by decide +kernel
theorem dX2_digest_153 : decode cX2_digest 153 = .ok (.iaload, 1) := by decide +kernel
theorem dX2_digest_154 : decode cX2_digest 154 = .ok (.istore 8, 2) := by decide +kernel
theorem dX2_digest_156 : decode cX2_digest 156 = .ok (.lload_n 3, 1) := by decide +kernel
theorem dX2_digest_157 : decode cX2_digest 157 = .ok (.ldc2_w 138, 3) := by decide +kernel
theorem dX2_digest_160 : decode cX2_digest 160 = .ok (.lmul, 1) := by decide +kernel
theorem dX2_digest_161 : decode cX2_digest 161 = .ok (.iload 8, 2) := by decide +kernel
theorem dX2_digest_163 : decode cX2_digest 163 = .ok (.i2l, 1) := by decide +kernel
theorem dX2_digest_164 : decode cX2_digest 164 = .ok (.ladd, 1) := by decide +kernel
theorem dX2_digest_165 : decode cX2_digest 165 = .ok (.lstore_n 3, 1) := by decide +kernel
theorem dX2_digest_166 : decode cX2_digest 166 = .ok (.iinc 7 1, 3) := by decide +kernel
theorem dX2_digest_169 : decode cX2_digest 169 = .ok (.goto (-27), 3) := by decide +kernel
theorem dX2_digest_172 : decode cX2_digest 172 = .ok (.iconst 0, 1) := by decide +kernel
theorem dX2_digest_173 : decode cX2_digest 173 = .ok (.istore 5, 2) := by decide +kernel
theorem dX2_digest_175 : decode cX2_digest 175 = .ok (.iload 5, 2) := by decide +kernel
theorem dX2_digest_177 : decode cX2_digest 177 = .ok (.aload_n 0, 1) := by decide +kernel
theorem dX2_digest_178 : decode cX2_digest 178 = .ok (.getfield 23, 3) := by decide +kernel
theorem dX2_digest_181 : decode cX2_digest 181 = .ok (.if_icmp .ge 141, 3) := by decide +kernel
theorem dX2_digest_184 : decode cX2_digest 184 = .ok (.bipush 7, 2) := by decide +kernel
theorem dX2_digest_186 : decode cX2_digest 186 = .ok (.newarray .int, 2) := by decide +kernel
theorem dX2_digest_188 : decode cX2_digest 188 = .ok (.dup, 1) := by decide +kernel
theorem dX2_digest_189 : decode cX2_digest 189 = .ok (.iconst 0, 1) := by decide +kernel
theorem dX2_digest_190 : decode cX2_digest 190 = .ok (.aload_n 0, 1) := by decide +kernel
theorem dX2_digest_191 : decode cX2_digest 191 = .ok (.getfield 9, 3) := by decide +kernel
theorem dX2_digest_194 : decode cX2_digest 194 = .ok (.iload 5, 2) := by decide +kernel
theorem dX2_digest_196 : decode cX2_digest 196 = .ok (.iaload, 1) := by decide +kernel
theorem dX2_digest_197 : decode cX2_digest 197 = .ok (.iastore, 1) := by decide +kernel
theorem dX2_digest_198 : decode cX2_digest 198 = .ok (.dup, 1) := by decide +kernel
theorem dX2_digest_199 : decode cX2_digest 199 = .ok (.iconst 1, 1) := by decide +kernel
theorem dX2_digest_200 : decode cX2_digest 200 = .ok (.aload_n 0, 1) := by decide +kernel
theorem dX2_digest_201 : decode cX2_digest 201 = .ok (.getfield 13, 3) := by decide +kernel
theorem dX2_digest_204 : decode cX2_digest 204 = .ok (.iconst 3, 1) := by decide +kernel
theorem dX2_digest_205 : decode cX2_digest 205 = .ok (.iload 5, 2) := by decide +kernel
theorem dX2_digest_207 : decode cX2_digest 207 = .ok (.iadd, 1) := by decide +kernel
theorem dX2_digest_208 : decode cX2_digest 208 = .ok (.iaload, 1) := by decide +kernel
theorem dX2_digest_209 : decode cX2_digest 209 = .ok (.iastore, 1) := by decide +kernel
theorem dX2_digest_210 : decode cX2_digest 210 = .ok (.dup, 1) := by decide +kernel
theorem dX2_digest_211 : decode cX2_digest 211 = .ok (.iconst 2, 1) := by decide +kernel
theorem dX2_digest_212 : decode cX2_digest 212 = .ok (.aload_n 0, 1) := by decide +kernel
theorem dX2_digest_213 : decode cX2_digest 213 = .ok (.getfield 13, 3) := by decide +kernel
theorem dX2_digest_216 : decode cX2_digest 216 = .ok (.bipush 13, 2) := by decide +kernel
theorem dX2_digest_218 : decode cX2_digest 218 = .ok (.iload 5, 2) := by decide +kernel
theorem dX2_digest_220 : decode cX2_digest 220 = .ok (.iadd, 1) := by decide +kernel
theorem dX2_digest_221 : decode cX2_digest 221 = .ok (.iaload, 1) := by decide +kernel
theorem dX2_digest_222 : decode cX2_digest 222 = .ok (.iastore, 1) := by decide +kernel
theorem dX2_digest_223 : decode cX2_digest 223 = .ok (.dup, 1) := by decide +kernel
theorem dX2_digest_224 : decode cX2_digest 224 = .ok (.iconst 3, 1) := by decide +kernel
theorem dX2_digest_225 : decode cX2_digest 225 = .ok (.aload_n 0, 1) := by decide +kernel
theorem dX2_digest_226 : decode cX2_digest 226 = .ok (.getfield 13, 3) := by decide +kernel
theorem dX2_digest_229 : decode cX2_digest 229 = .ok (.bipush 23, 2) := by decide +kernel
theorem dX2_digest_231 : decode cX2_digest 231 = .ok (.iload 5, 2) := by decide +kernel
theorem dX2_digest_233 : decode cX2_digest 233 = .ok (.iadd, 1) := by decide +kernel
theorem dX2_digest_234 : decode cX2_digest 234 = .ok (.iaload, 1) := by decide +kernel
theorem dX2_digest_235 : decode cX2_digest 235 = .ok (.iastore, 1) := by decide +kernel
theorem dX2_digest_236 : decode cX2_digest 236 = .ok (.dup, 1) := by decide +kernel
theorem dX2_digest_237 : decode cX2_digest 237 = .ok (.iconst 4, 1) := by decide +kernel
theorem dX2_digest_238 : decode cX2_digest 238 = .ok (.aload_n 0, 1) := by decide +kernel
theorem dX2_digest_239 : decode cX2_digest 239 = .ok (.iload 5, 2) := by decide +kernel
theorem dX2_digest_241 : decode cX2_digest 241 = .ok (.invokevirtual 39, 3) := by decide +kernel
theorem dX2_digest_244 : decode cX2_digest 244 = .ok (.ifCond .eq 7, 3) := by decide +kernel
theorem dX2_digest_247 : decode cX2_digest 247 = .ok (.iconst 1, 1) := by decide +kernel
theorem dX2_digest_248 : decode cX2_digest 248 = .ok (.goto 4, 3) := by decide +kernel
theorem dX2_digest_251 : decode cX2_digest 251 = .ok (.iconst 0, 1) := by decide +kernel
theorem dX2_digest_252 : decode cX2_digest 252 = .ok (.iastore, 1) := by decide +kernel
theorem dX2_digest_253 : decode cX2_digest 253 = .ok (.dup, 1) := by decide +kernel
theorem dX2_digest_254 : decode cX2_digest 254 = .ok (.iconst 5, 1) := by decide +kernel
theorem dX2_digest_255 : decode cX2_digest 255 = .ok (.aload_n 0, 1) := by decide +kernel
theorem dX2_digest_256 : decode cX2_digest 256 = .ok (.iload 5, 2) := by decide +kernel
theorem dX2_digest_258 : decode cX2_digest 258 = .ok (.invokevirtual 106, 3) := by decide +kernel
theorem dX2_digest_261 : decode cX2_digest 261 = .ok (.iastore, 1) := by decide +kernel
theorem dX2_digest_262 : decode cX2_digest 262 = .ok (.dup, 1) := by decide +kernel
theorem dX2_digest_263 : decode cX2_digest 263 = .ok (.bipush 6, 2) := by decide +kernel
theorem dX2_digest_265 : decode cX2_digest 265 = .ok (.aload_n 0, 1) := by decide +kernel
theorem dX2_digest_266 : decode cX2_digest 266 = .ok (.iload 5, 2) := by decide +kernel
theorem dX2_digest_268 : decode cX2_digest 268 = .ok (.invokevirtual 115, 3) := by decide +kernel
theorem dX2_digest_271 : decode cX2_digest 271 = .ok (.iastore, 1) := by decide +kernel
theorem dX2_digest_272 : decode cX2_digest 272 = .ok (.astore 6, 2) := by decide +kernel
theorem dX2_digest_274 : decode cX2_digest 274 = .ok (.aload 6, 2) := by decide +kernel
theorem dX2_digest_276 : decode cX2_digest 276 = .ok (.astore 7, 2) := by decide +kernel
theorem dX2_digest_278 : decode cX2_digest 278 = .ok (.aload 7, 2) := by decide +kernel
theorem dX2_digest_280 : decode cX2_digest 280 = .ok (.arraylength, 1) := by decide +kernel
theorem dX2_digest_281 : decode cX2_digest 281 = .ok (.istore 8, 2) := by decide +kernel
theorem dX2_digest_283 : decode cX2_digest 283 = .ok (.iconst 0, 1) := by decide +kernel
theorem dX2_digest_284 : decode cX2_digest 284 = .ok (.istore 9, 2) := by decide +kernel
theorem dX2_digest_286 : decode cX2_digest 286 = .ok (.iload 9, 2) := by decide +kernel
theorem dX2_digest_288 : decode cX2_digest 288 = .ok (.iload 8, 2) := by decide +kernel
theorem dX2_digest_290 : decode cX2_digest 290 = .ok (.if_icmp .ge 26, 3) := by decide +kernel
theorem dX2_digest_293 : decode cX2_digest 293 = .ok (.aload 7, 2) := by decide +kernel
theorem dX2_digest_295 : decode cX2_digest 295 = .ok (.iload 9, 2) := by decide +kernel
theorem dX2_digest_297 : decode cX2_digest 297 = .ok (.iaload, 1) := by decide +kernel
theorem dX2_digest_298 : decode cX2_digest 298 = .ok (.istore 10, 2) := by decide +kernel
theorem dX2_digest_300 : decode cX2_digest 300 = .ok (.lload_n 3, 1) := by decide +kernel
theorem dX2_digest_301 : decode cX2_digest 301 = .ok (.ldc2_w 138, 3) := by decide +kernel
theorem dX2_digest_304 : decode cX2_digest 304 = .ok (.lmul, 1) := by decide +kernel
theorem dX2_digest_305 : decode cX2_digest 305 = .ok (.iload 10, 2) := by decide +kernel
theorem dX2_digest_307 : decode cX2_digest 307 = .ok (.i2l, 1) := by decide +kernel
theorem dX2_digest_308 : decode cX2_digest 308 = .ok (.ladd, 1) := by decide +kernel
theorem dX2_digest_309 : decode cX2_digest 309 = .ok (.lstore_n 3, 1) := by decide +kernel
theorem dX2_digest_310 : decode cX2_digest 310 = .ok (.iinc 9 1, 3) := by decide +kernel
theorem dX2_digest_313 : decode cX2_digest 313 = .ok (.goto (-27), 3) := by decide +kernel
theorem dX2_digest_316 : decode cX2_digest 316 = .ok (.iinc 5 1, 3) := by decide +kernel
theorem dX2_digest_319 : decode cX2_digest 319 = .ok (.goto (-144), 3) := by decide +kernel
theorem dX2_digest_322 : decode cX2_digest 322 = .ok (.lload_n 3, 1) := by decide +kernel
theorem dX2_digest_323 : decode cX2_digest 323 = .ok (.lreturn, 1) := by decide +kernel
theorem dJ6_bitCount_0f7a4_0 : decode cJ6_bitCount_0f7a4 0 = .ok (.iload_n 0, 1) := by decide +kernel
theorem dJ6_bitCount_0f7a4_1 : decode cJ6_bitCount_0f7a4 1 = .ok (.iload_n 0, 1) := by decide +kernel
theorem dJ6_bitCount_0f7a4_2 : decode cJ6_bitCount_0f7a4 2 = .ok (.iconst 1, 1) := by decide +kernel
theorem dJ6_bitCount_0f7a4_3 : decode cJ6_bitCount_0f7a4 3 = .ok (.iushr, 1) := by decide +kernel
theorem dJ6_bitCount_0f7a4_4 : decode cJ6_bitCount_0f7a4 4 = .ok (.ldc_w 265, 3) := by decide +kernel
theorem dJ6_bitCount_0f7a4_7 : decode cJ6_bitCount_0f7a4 7 = .ok (.iand, 1) := by decide +kernel
theorem dJ6_bitCount_0f7a4_8 : decode cJ6_bitCount_0f7a4 8 = .ok (.isub, 1) := by decide +kernel
theorem dJ6_bitCount_0f7a4_9 : decode cJ6_bitCount_0f7a4 9 = .ok (.istore_n 0, 1) := by decide +kernel
theorem dJ6_bitCount_0f7a4_10 : decode cJ6_bitCount_0f7a4 10 = .ok (.iload_n 0, 1) := by decide +kernel
theorem dJ6_bitCount_0f7a4_11 : decode cJ6_bitCount_0f7a4 11 = .ok (.ldc_w 266, 3) := by decide +kernel
theorem dJ6_bitCount_0f7a4_14 : decode cJ6_bitCount_0f7a4 14 = .ok (.iand, 1) := by decide +kernel
theorem dJ6_bitCount_0f7a4_15 : decode cJ6_bitCount_0f7a4 15 = .ok (.iload_n 0, 1) := by decide +kernel
theorem dJ6_bitCount_0f7a4_16 : decode cJ6_bitCount_0f7a4 16 = .ok (.iconst 2, 1) := by decide +kernel
theorem dJ6_bitCount_0f7a4_17 : decode cJ6_bitCount_0f7a4 17 = .ok (.iushr, 1) := by decide +kernel
theorem dJ6_bitCount_0f7a4_18 : decode cJ6_bitCount_0f7a4 18 = .ok (.ldc_w 266, 3) := by decide +kernel
theorem dJ6_bitCount_0f7a4_21 : decode cJ6_bitCount_0f7a4 21 = .ok (.iand, 1) := by decide +kernel
theorem dJ6_bitCount_0f7a4_22 : decode cJ6_bitCount_0f7a4 22 = .ok (.iadd, 1) := by decide +kernel
theorem dJ6_bitCount_0f7a4_23 : decode cJ6_bitCount_0f7a4 23 = .ok (.istore_n 0, 1) := by decide +kernel
theorem dJ6_bitCount_0f7a4_24 : decode cJ6_bitCount_0f7a4 24 = .ok (.iload_n 0, 1) := by decide +kernel
theorem dJ6_bitCount_0f7a4_25 : decode cJ6_bitCount_0f7a4 25 = .ok (.iload_n 0, 1) := by decide +kernel
theorem dJ6_bitCount_0f7a4_26 : decode cJ6_bitCount_0f7a4 26 = .ok (.iconst 4, 1) := by decide +kernel
theorem dJ6_bitCount_0f7a4_27 : decode cJ6_bitCount_0f7a4 27 = .ok (.iushr, 1) := by decide +kernel
theorem dJ6_bitCount_0f7a4_28 : decode cJ6_bitCount_0f7a4 28 = .ok (.iadd, 1) := by decide +kernel
theorem dJ6_bitCount_0f7a4_29 : decode cJ6_bitCount_0f7a4 29 = .ok (.ldc_w 267, 3) := by decide +kernel
theorem dJ6_bitCount_0f7a4_32 : decode cJ6_bitCount_0f7a4 32 = .ok (.iand, 1) := by decide +kernel
theorem dJ6_bitCount_0f7a4_33 : decode cJ6_bitCount_0f7a4 33 = .ok (.istore_n 0, 1) := by decide +kernel
theorem dJ6_bitCount_0f7a4_34 : decode cJ6_bitCount_0f7a4 34 = .ok (.iload_n 0, 1) := by decide +kernel
theorem dJ6_bitCount_0f7a4_35 : decode cJ6_bitCount_0f7a4 35 = .ok (.iload_n 0, 1) := by decide +kernel
theorem dJ6_bitCount_0f7a4_36 : decode cJ6_bitCount_0f7a4 36 = .ok (.bipush 8, 2) := by decide +kernel
theorem dJ6_bitCount_0f7a4_38 : decode cJ6_bitCount_0f7a4 38 = .ok (.iushr, 1) := by decide +kernel
theorem dJ6_bitCount_0f7a4_39 : decode cJ6_bitCount_0f7a4 39 = .ok (.iadd, 1) := by decide +kernel
theorem dJ6_bitCount_0f7a4_40 : decode cJ6_bitCount_0f7a4 40 = .ok (.istore_n 0, 1) := by decide +kernel
theorem dJ6_bitCount_0f7a4_41 : decode cJ6_bitCount_0f7a4 41 = .ok (.iload_n 0, 1) := by decide +kernel
theorem dJ6_bitCount_0f7a4_42 : decode cJ6_bitCount_0f7a4 42 = .ok (.iload_n 0, 1) := by decide +kernel
theorem dJ6_bitCount_0f7a4_43 : decode cJ6_bitCount_0f7a4 43 = .ok (.bipush 16, 2) := by decide +kernel
theorem dJ6_bitCount_0f7a4_45 : decode cJ6_bitCount_0f7a4 45 = .ok (.iushr, 1) := by decide +kernel
theorem dJ6_bitCount_0f7a4_46 : decode cJ6_bitCount_0f7a4 46 = .ok (.iadd, 1) := by decide +kernel
theorem dJ6_bitCount_0f7a4_47 : decode cJ6_bitCount_0f7a4 47 = .ok (.istore_n 0, 1) := by decide +kernel
theorem dJ6_bitCount_0f7a4_48 : decode cJ6_bitCount_0f7a4 48 = .ok (.iload_n 0, 1) := by decide +kernel
theorem dJ6_bitCount_0f7a4_49 : decode cJ6_bitCount_0f7a4 49 = .ok (.bipush 63, 2) := by decide +kernel
theorem dJ6_bitCount_0f7a4_51 : decode cJ6_bitCount_0f7a4 51 = .ok (.iand, 1) := by decide +kernel
theorem dJ6_bitCount_0f7a4_52 : decode cJ6_bitCount_0f7a4 52 = .ok (.ireturn, 1) := by decide +kernel
theorem dJ9_abs_0f7a4_0 : decode cJ9_abs_0f7a4 0 = .ok (.iload_n 0, 1) := by decide +kernel
theorem dJ9_abs_0f7a4_1 : decode cJ9_abs_0f7a4 1 = .ok (.ifCond .ge 8, 3) := by decide +kernel
theorem dJ9_abs_0f7a4_4 : decode cJ9_abs_0f7a4 4 = .ok (.iload_n 0, 1) := by decide +kernel
theorem dJ9_abs_0f7a4_5 : decode cJ9_abs_0f7a4 5 = .ok (.ineg, 1) := by decide +kernel
theorem dJ9_abs_0f7a4_6 : decode cJ9_abs_0f7a4 6 = .ok (.goto 4, 3) := by decide +kernel
theorem dJ9_abs_0f7a4_9 : decode cJ9_abs_0f7a4 9 = .ok (.iload_n 0, 1) := by decide +kernel
theorem dJ9_abs_0f7a4_10 : decode cJ9_abs_0f7a4 10 = .ok (.ireturn, 1) := by decide +kernel
theorem dJ9_max_7cf53_0 : decode cJ9_max_7cf53 0 = .ok (.iload_n 0, 1) := by decide +kernel
theorem dJ9_max_7cf53_1 : decode cJ9_max_7cf53 1 = .ok (.iload_n 1, 1) := by decide +kernel
theorem dJ9_max_7cf53_2 : decode cJ9_max_7cf53 2 = .ok (.if_icmp .lt 7, 3) := by decide +kernel
theorem dJ9_max_7cf53_5 : decode cJ9_max_7cf53 5 = .ok (.iload_n 0, 1) := by decide +kernel
theorem dJ9_max_7cf53_6 : decode cJ9_max_7cf53 6 = .ok (.goto 4, 3) := by decide +kernel
theorem dJ9_max_7cf53_9 : decode cJ9_max_7cf53 9 = .ok (.iload_n 1, 1) := by decide +kernel
theorem dJ9_max_7cf53_10 : decode cJ9_max_7cf53 10 = .ok (.ireturn, 1) := by decide +kernel
theorem dJ9_min_7cf53_0 : decode cJ9_min_7cf53 0 = .ok (.iload_n 0, 1) := by decide +kernel
theorem dJ9_min_7cf53_1 : decode cJ9_min_7cf53 1 = .ok (.iload_n 1, 1) := by decide +kernel
theorem dJ9_min_7cf53_2 : decode cJ9_min_7cf53 2 = .ok (.if_icmp .gt 7, 3) := by decide +kernel
theorem dJ9_min_7cf53_5 : decode cJ9_min_7cf53 5 = .ok (.iload_n 0, 1) := by decide +kernel
theorem dJ9_min_7cf53_6 : decode cJ9_min_7cf53 6 = .ok (.goto 4, 3) := by decide +kernel
theorem dJ9_min_7cf53_9 : decode cJ9_min_7cf53 9 = .ok (.iload_n 1, 1) := by decide +kernel
theorem dJ9_min_7cf53_10 : decode cJ9_min_7cf53 10 = .ok (.ireturn, 1) := by decide +kernel
