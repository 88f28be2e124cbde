theorem dX2_init_0 : decode cX2_init 0 = .ok (.aload_n 0, 1) := by decide +kernel
theorem dX2_init_1 : decode cX2_init 1 = .ok (.invokespecial 1, 3) := by decide +kernel
theorem dX2_init_4 : decode cX2_init 4 = .ok (.aload_n 0, 1) := by decide +kernel
theorem dX2_init_5 : decode cX2_init 5 = .ok (.iconst 0, 1) := by decide +kernel
theorem dX2_init_6 : decode cX2_init 6 = .ok (.anewarray 7, 3) := by decide +kernel
theorem dX2_init_9 : decode cX2_init 9 = .ok (.putfield 9, 3) := by decide +kernel
theorem dX2_init_12 : decode cX2_init 12 = .ok (.return_, 1) := by decide +kernel
theorem dX2_with_0 : decode cX2_with 0 = .ok (.aload_n 0, 1) := by decide +kernel
theorem dX2_with_1 : decode cX2_with 1 = .ok (.arraylength, 1) := by decide +kernel
theorem dX2_with_2 : decode cX2_with 2 = .ok (.iconst 1, 1) := by decide +kernel
theorem dX2_with_3 : decode cX2_with 3 = .ok (.iadd, 1) := by decide +kernel
theorem dX2_with_4 : decode cX2_with 4 = .ok (.anewarray 7, 3) := by decide +kernel
theorem dX2_with_7 : decode cX2_with 7 = .ok (.astore_n 2, 1) := by decide +kernel
theorem dX2_with_8 : decode cX2_with 8 = .ok (.iconst 0, 1) := by decide +kernel
theorem dX2_with_9 : decode cX2_with 9 = .ok (.istore_n 3, 1) := by decide +kernel
theorem dX2_with_10 : decode cX2_with 10 = .ok (.iload_n 3, 1) := by decide +kernel
theorem dX2_with_11 : decode cX2_with 11 = .ok (.aload_n 0, 1) := by decide +kernel
theorem dX2_with_12 : decode cX2_with 12 = .ok (.arraylength, 1) := by decide +kernel
theorem dX2_with_13 : decode cX2_with 13 = .ok (.if_icmp .ge 15, 3) := by decide +kernel
theorem dX2_with_16 : decode cX2_with 16 = .ok (.aload_n 2, 1) := by decide +kernel
theorem dX2_with_17 : decode cX2_with 17 = .ok (.iload_n 3, 1) := by decide +kernel
theorem dX2_with_18 : decode cX2_with 18 = .ok (.aload_n 0, 1) := by decide +kernel
theorem dX2_with_19 : decode cX2_with 19 = .ok (.iload_n 3, 1) := by decide +kernel
theorem dX2_with_20 : decode cX2_with 20 = .ok (.aaload, 1) := by decide +kernel
theorem dX2_with_21 : decode cX2_with 21 = .ok (.aastore, 1) := by decide +kernel
theorem dX2_with_22 : decode cX2_with 22 = .ok (.iinc 3 1, 3) := by decide +kernel
theorem dX2_with_25 : decode cX2_with 25 = .ok (.goto (-15), 3) := by decide +kernel
theorem dX2_with_28 : decode cX2_with 28 = .ok (.aload_n 2, 1) := by decide +kernel
theorem dX2_with_29 : decode cX2_with 29 = .ok (.aload_n 0, 1) := by decide +kernel
theorem dX2_with_30 : decode cX2_with 30 = .ok (.arraylength, 1) := by decide +kernel
theorem dX2_with_31 : decode cX2_with 31 = .ok (.aload_n 1, 1) := by decide +kernel
theorem dX2_with_32 : decode cX2_with 32 = .ok (.aastore, 1) := by decide +kernel
theorem dX2_with_33 : decode cX2_with 33 = .ok (.aload_n 2, 1) := by decide +kernel
theorem dX2_with_34 : decode cX2_with 34 = .ok (.areturn, 1) := by decide +kernel
theorem dX2_sounds_0 : decode cX2_sounds 0 = .ok (.aload_n 0, 1) := by decide +kernel
theorem dX2_sounds_1 : decode cX2_sounds 1 = .ok (.getfield 9, 3) := by decide +kernel
theorem dX2_sounds_4 : decode cX2_sounds 4 = .ok (.iload_n 1, 1) := by decide +kernel
theorem dX2_sounds_5 : decode cX2_sounds 5 = .ok (.aaload, 1) := by decide +kernel
theorem dX2_sounds_6 : decode cX2_sounds 6 = .ok (.iconst 2, 1) := by decide +kernel
theorem dX2_sounds_7 : decode cX2_sounds 7 = .ok (.iaload, 1) := by decide +kernel
theorem dX2_sounds_8 : decode cX2_sounds 8 = .ok (.ifCond .le 18, 3) := by decide +kernel
theorem dX2_sounds_11 : decode cX2_sounds 11 = .ok (.aload_n 0, 1) := by decide +kernel
theorem dX2_sounds_12 : decode cX2_sounds 12 = .ok (.getfield 9, 3) := by decide +kernel
theorem dX2_sounds_15 : decode cX2_sounds 15 = .ok (.iload_n 1, 1) := by decide +kernel
theorem dX2_sounds_16 : decode cX2_sounds 16 = .ok (.aaload, 1) := by decide +kernel
theorem dX2_sounds_17 : decode cX2_sounds 17 = .ok (.iconst 4, 1) := by decide +kernel
theorem dX2_sounds_18 : decode cX2_sounds 18 = .ok (.iaload, 1) := by decide +kernel
theorem dX2_sounds_19 : decode cX2_sounds 19 = .ok (.ifCond .ne 7, 3) := by decide +kernel
theorem dX2_sounds_22 : decode cX2_sounds 22 = .ok (.iconst 1, 1) := by decide +kernel
theorem dX2_sounds_23 : decode cX2_sounds 23 = .ok (.goto 4, 3) := by decide +kernel
theorem dX2_sounds_26 : decode cX2_sounds 26 = .ok (.iconst 0, 1) := by decide +kernel
theorem dX2_sounds_27 : decode cX2_sounds 27 = .ok (.ireturn, 1) := by decide +kernel
theorem dX2_isAccord_0 : decode cX2_isAccord 0 = .ok (.iload_n 0, 1) := by decide +kernel
theorem dX2_isAccord_1 : decode cX2_isAccord 1 = .ok (.iload_n 1, 1) := by decide +kernel
theorem dX2_isAccord_2 : decode cX2_isAccord 2 = .ok (.if_icmp .ge 9, 3) := by decide +kernel
theorem dX2_isAccord_5 : decode cX2_isAccord 5 = .ok (.iload_n 1, 1) := by decide +kernel
theorem dX2_isAccord_6 : decode cX2_isAccord 6 = .ok (.iload_n 0, 1) := by decide +kernel
theorem dX2_isAccord_7 : decode cX2_isAccord 7 = .ok (.isub, 1) := by decide +kernel
theorem dX2_isAccord_8 : decode cX2_isAccord 8 = .ok (.goto 6, 3) := by decide +kernel
theorem dX2_isAccord_11 : decode cX2_isAccord 11 = .ok (.iload_n 0, 1) := by decide +kernel
theorem dX2_isAccord_12 : decode cX2_isAccord 12 = .ok (.iload_n 1, 1) := by decide +kernel
theorem dX2_isAccord_13 : decode cX2_isAccord 13 = .ok (.isub, 1) := by decide +kernel
theorem dX2_isAccord_14 : decode cX2_isAccord 14 = .ok (.bipush 12, 2) := by decide +kernel
theorem dX2_isAccord_16 : decode cX2_isAccord 16 = .ok (.irem, 1) := by decide +kernel
theorem dX2_isAccord_17 : decode cX2_isAccord 17 = .ok (.istore_n 2, 1) := by decide +kernel
theorem dX2_isAccord_18 : decode cX2_isAccord 18 = .ok (.iload_n 2, 1) := by decide +kernel
theorem dX2_isAccord_19 : decode cX2_isAccord 19 = .ok (.ifCond .eq 26, 3) := by decide +kernel
theorem dX2_isAccord_22 : decode cX2_isAccord 22 = .ok (.iload_n 2, 1) := by decide +kernel
theorem dX2_isAccord_23 : decode cX2_isAccord 23 = .ok (.iconst 2, 1) := by decide +kernel
theorem dX2_isAccord_24 : decode cX2_isAccord 24 = .ok (.if_icmp .le 9, 3) := by decide +kernel
theorem dX2_isAccord_27 : decode cX2_isAccord 27 = .ok (.iload_n 2, 1) := by decide +kernel
theorem dX2_isAccord_28 : decode cX2_isAccord 28 = .ok (.bipush 6, 2) := by decide +kernel
theorem dX2_isAccord_30 : decode cX2_isAccord 30 = .ok (.if_icmp .lt 15, 3) := by decide +kernel
theorem dX2_isAccord_33 : decode cX2_isAccord 33 = .ok (.iload_n 2, 1) := by decide +kernel
theorem dX2_isAccord_34 : decode cX2_isAccord 34 = .ok (.bipush 6, 2) := by decide +kernel
theorem dX2_isAccord_36 : decode cX2_isAccord 36 = .ok (.if_icmp .le 13, 3) := by decide +kernel
theorem dX2_isAccord_39 : decode cX2_isAccord 39 = .ok (.iload_n 2, 1) := by decide +kernel
theorem dX2_isAccord_40 : decode cX2_isAccord 40 = .ok (.bipush 10, 2) := by decide +kernel
theorem dX2_isAccord_42 : decode cX2_isAccord 42 = .ok (.if_icmp .ge 7, 3) := by decide +kernel
theorem dX2_isAccord_45 : decode cX2_isAccord 45 = .ok (.iconst 1, 1) := by decide +kernel
theorem dX2_isAccord_46 : decode cX2_isAccord 46 = .ok (.goto 4, 3) := by decide +kernel
theorem dX2_isAccord_49 : decode cX2_isAccord 49 = .ok (.iconst 0, 1) := by decide +kernel
theorem dX2_isAccord_50 : decode cX2_isAccord 50 = .ok (.ireturn, 1) := by decide +kernel
theorem dX2_isAccordOf_0 : decode cX2_isAccordOf 0 = .ok (.aload_n 0, 1) := by decide +kernel
theorem dX2_isAccordOf_1 : decode cX2_isAccordOf 1 = .ok (.getfield 9, 3) := by decide +kernel
theorem dX2_isAccordOf_4 : decode cX2_isAccordOf 4 = .ok (.iload_n 1, 1) := by decide +kernel
theorem dX2_isAccordOf_5 : decode cX2_isAccordOf 5 = .ok (.aaload, 1) := by decide +kernel
theorem dX2_isAccordOf_6 : decode cX2_isAccordOf 6 = .ok (.iconst 1, 1) := by decide +kernel
theorem dX2_isAccordOf_7 : decode cX2_isAccordOf 7 = .ok (.iaload, 1) := by decide +kernel
theorem dX2_isAccordOf_8 : decode cX2_isAccordOf 8 = .ok (.aload_n 0, 1) := by decide +kernel
theorem dX2_isAccordOf_9 : decode cX2_isAccordOf 9 = .ok (.getfield 9, 3) := by decide +kernel
theorem dX2_isAccordOf_12 : decode cX2_isAccordOf 12 = .ok (.iload_n 2, 1) := by decide +kernel
theorem dX2_isAccordOf_13 : decode cX2_isAccordOf 13 = .ok (.aaload, 1) := by decide +kernel
theorem dX2_isAccordOf_14 : decode cX2_isAccordOf 14 = .ok (.iconst 1, 1) := by decide +kernel
theorem dX2_isAccordOf_15 : decode cX2_isAccordOf 15 = .ok (.iaload, 1) := by decide +kernel
theorem dX2_isAccordOf_16 : decode cX2_isAccordOf 16 = .ok (.invokestatic 35, 3) := by decide +kernel
theorem dX2_isAccordOf_19 : decode cX2_isAccordOf 19 = .ok (.ireturn, 1) := by decide +kernel
theorem dX2_clashesOf_0 : decode cX2_clashesOf 0 = .ok (.iconst 0, 1) := by decide +kernel
theorem dX2_clashesOf_1 : decode cX2_clashesOf 1 = .ok (.istore_n 2, 1) := by decide +kernel
theorem dX2_clashesOf_2 : decode cX2_clashesOf 2 = .ok (.iconst 0, 1) := by decide +kernel
theorem dX2_clashesOf_3 : decode cX2_clashesOf 3 = .ok (.istore_n 3, 1) := by decide +kernel
theorem dX2_clashesOf_4 : decode cX2_clashesOf 4 = .ok (.iload_n 3, 1) := by decide +kernel
theorem dX2_clashesOf_5 : decode cX2_clashesOf 5 = .ok (.aload_n 0, 1) := by decide +kernel
theorem dX2_clashesOf_6 : decode cX2_clashesOf 6 = .ok (.getfield 9, 3) := by decide +kernel
theorem dX2_clashesOf_9 : decode cX2_clashesOf 9 = .ok (.arraylength, 1) := by decide +kernel
theorem dX2_clashesOf_10 : decode cX2_clashesOf 10 = .ok (.if_icmp .ge 42, 3) := by decide +kernel
theorem dX2_clashesOf_13 : decode cX2_clashesOf 13 = .ok (.iload_n 2, 1) := by decide +kernel
theorem dX2_clashesOf_14 : decode cX2_clashesOf 14 = .ok (.aload_n 0, 1) := by decide +kernel
theorem dX2_clashesOf_15 : decode cX2_clashesOf 15 = .ok (.iload_n 1, 1) := by decide +kernel
theorem dX2_clashesOf_16 : decode cX2_clashesOf 16 = .ok (.invokevirtual 39, 3) := by decide +kernel
theorem dX2_clashesOf_19 : decode cX2_clashesOf 19 = .ok (.ifCond .eq 24, 3) := by decide +kernel
theorem dX2_clashesOf_22 : decode cX2_clashesOf 22 = .ok (.aload_n 0, 1) := by decide +kernel
theorem dX2_clashesOf_23 : decode cX2_clashesOf 23 = .ok (.iload_n 3, 1) := by decide +kernel
theorem dX2_clashesOf_24 : decode cX2_clashesOf 24 = .ok (.invokevirtual 39, 3) := by decide +kernel
theorem dX2_clashesOf_27 : decode cX2_clashesOf 27 = .ok (.ifCond .eq 16, 3) := by decide +kernel
theorem dX2_clashesOf_30 : decode cX2_clashesOf 30 = .ok (.aload_n 0, 1) := by decide +kernel
theorem dX2_clashesOf_31 : decode cX2_clashesOf 31 = .ok (.iload_n 1, 1) := by decide +kernel
theorem dX2_clashesOf_32 : decode cX2_clashesOf 32 = .ok (.iload_n 3, 1) := by decide +kernel
theorem dX2_clashesOf_33 : decode cX2_clashesOf 33 = .ok (.invokevirtual 43, 3) := by decide +kernel
theorem dX2_clashesOf_36 : decode cX2_clashesOf 36 = .ok (.ifCond .ne 7, 3) := by decide +kernel
theorem dX2_clashesOf_39 : decode cX2_clashesOf 39 = .ok (.iconst 1, 1) := by decide +kernel
theorem dX2_clashesOf_40 : decode cX2_clashesOf 40 = .ok (.goto 4, 3) := by decide +kernel
theorem dX2_clashesOf_43 : decode cX2_clashesOf 43 = .ok (.iconst 0, 1) := by decide +kernel
theorem dX2_clashesOf_44 : decode cX2_clashesOf 44 = .ok (.iadd, 1) := by decide +kernel
theorem dX2_clashesOf_45 : decode cX2_clashesOf 45 = .ok (.istore_n 2, 1) := by decide +kernel
theorem dX2_clashesOf_46 : decode cX2_clashesOf 46 = .ok (.iinc 3 1, 3) := by decide +kernel
theorem dX2_clashesOf_49 : decode cX2_clashesOf 49 = .ok (.goto (-45), 3) := by decide +kernel
theorem dX2_clashesOf_52 : decode cX2_clashesOf 52 = .ok (.iload_n 2, 1) := by decide +kernel
theorem dX2_clashesOf_53 : decode cX2_clashesOf 53 = .ok (.ireturn, 1) := by decide +kernel
theorem dX2_clashes_0 : decode cX2_clashes 0 = .ok (.iconst 0, 1) := by decide +kernel
theorem dX2_clashes_1 : decode cX2_clashes 1 = .ok (.istore_n 1, 1) := by decide +kernel
theorem dX2_clashes_2 : decode cX2_clashes 2 = .ok (.iconst 0, 1) := by decide +kernel
theorem dX2_clashes_3 : decode cX2_clashes 3 = .ok (.istore_n 2, 1) := by decide +kernel
theorem dX2_clashes_4 : decode cX2_clashes 4 = .ok (.iload_n 2, 1) := by decide +kernel
theorem dX2_clashes_5 : decode cX2_clashes 5 = .ok (.aload_n 0, 1) := by decide +kernel
theorem dX2_clashes_6 : decode cX2_clashes 6 = .ok (.getfield 9, 3) := by decide +kernel
theorem dX2_clashes_9 : decode cX2_clashes 9 = .ok (.arraylength, 1) := by decide +kernel
theorem dX2_clashes_10 : decode cX2_clashes 10 = .ok (.if_icmp .ge 55, 3) := by decide +kernel
theorem dX2_clashes_13 : decode cX2_clashes 13 = .ok (.iconst 0, 1) := by decide +kernel
theorem dX2_clashes_14 : decode cX2_clashes 14 = .ok (.istore_n 3, 1) := by decide +kernel
theorem dX2_clashes_15 : decode cX2_clashes 15 = .ok (.iload_n 3, 1) := by decide +kernel
theorem dX2_clashes_16 : decode cX2_clashes 16 = .ok (.iload_n 2, 1) := by decide +kernel
theorem dX2_clashes_17 : decode cX2_clashes 17 = .ok (.if_icmp .ge 42, 3) := by decide +kernel
theorem dX2_clashes_20 : decode cX2_clashes 20 = .ok (.iload_n 1, 1) := by decide +kernel
theorem dX2_clashes_21 : decode cX2_clashes 21 = .ok (.aload_n 0, 1) := by decide +kernel
theorem dX2_clashes_22 : decode cX2_clashes 22 = .ok (.iload_n 2, 1) := by decide +kernel
theorem dX2_clashes_23 : decode cX2_clashes 23 = .ok (.invokevirtual 39, 3) := by decide +kernel
theorem dX2_clashes_26 : decode cX2_clashes 26 = .ok (.ifCond .eq 24, 3) := by decide +kernel
theorem dX2_clashes_29 : decode cX2_clashes 29 = .ok (.aload_n 0, 1) := by decide +kernel
theorem dX2_clashes_30 : decode cX2_clashes 30 = .ok (.iload_n 3, 1) := by decide +kernel
theorem dX2_clashes_31 : decode cX2_clashes 31 = .ok (.invokevirtual 39, 3) := by decide +kernel
theorem dX2_clashes_34 : decode cX2_clashes 34 = .ok (.ifCond .eq 16, 3) := by decide +kernel
theorem dX2_clashes_37 : decode cX2_clashes 37 = .ok (.aload_n 0, 1) := by decide +kernel
theorem dX2_clashes_38 : decode cX2_clashes 38 = .ok (.iload_n 2, 1) := by decide +kernel
theorem dX2_clashes_39 : decode cX2_clashes 39 = .ok (.iload_n 3, 1) := by decide +kernel
theorem dX2_clashes_40 : decode cX2_clashes 40 = .ok (.invokevirtual 43, 3) := by decide +kernel
theorem dX2_clashes_43 : decode cX2_clashes 43 = .ok (.ifCond .ne 7, 3) := by decide +kernel
theorem dX2_clashes_46 : decode cX2_clashes 46 = .ok (.iconst 1, 1) := by decide +kernel
theorem dX2_clashes_47 : decode cX2_clashes 47 = .ok (.goto 4, 3) := by decide +kernel
theorem dX2_clashes_50 : decode cX2_clashes 50 = .ok (.iconst 0, 1) := by decide +kernel
theorem dX2_clashes_51 : decode cX2_clashes 51 = .ok (.iadd, 1) := by decide +kernel
theorem dX2_clashes_52 : decode cX2_clashes 52 = .ok (.istore_n 1, 1) := by decide +kernel
theorem dX2_clashes_53 : decode cX2_clashes 53 = .ok (.iinc 3 1, 3) := by decide +kernel
theorem dX2_clashes_56 : decode cX2_clashes 56 = .ok (.goto (-41), 3) := by decide +kernel
theorem dX2_clashes_59 : decode cX2_clashes 59 = .ok (.iinc 2 1, 3) := by decide +kernel
theorem dX2_clashes_62 : decode cX2_clashes 62 = .ok (.goto (-58), 3) := by decide +kernel
theorem dX2_clashes_65 : decode cX2_clashes 65 = .ok (.iload_n 1, 1) := by decide +kernel
theorem dX2_clashes_66 : decode cX2_clashes 66 = .ok (.ireturn, 1) := by decide +kernel
theorem dX2_harmony_0 : decode cX2_harmony 0 = .ok (.iconst 0, 1) := by decide +kernel
theorem dX2_harmony_1 : decode cX2_harmony 1 = .ok (.istore_n 1, 1) := by decide +kernel
theorem dX2_harmony_2 : decode cX2_harmony 2 = .ok (.iconst 0, 1) := by decide +kernel
theorem dX2_harmony_3 : decode cX2_harmony 3 = .ok (.istore_n 2, 1) := by decide +kernel
theorem dX2_harmony_4 : decode cX2_harmony 4 = .ok (.iload_n 2, 1) := by decide +kernel
theorem dX2_harmony_5 : decode cX2_harmony 5 = .ok (.aload_n 0, 1) := by decide +kernel
theorem dX2_harmony_6 : decode cX2_harmony 6 = .ok (.getfield 9, 3) := by decide +kernel
theorem dX2_harmony_9 : decode cX2_harmony 9 = .ok (.arraylength, 1) := by decide +kernel
theorem dX2_harmony_10 : decode cX2_harmony 10 = .ok (.if_icmp .ge 55, 3) := by decide +kernel
theorem dX2_harmony_13 : decode cX2_harmony 13 = .ok (.iconst 0, 1) := by decide +kernel
theorem dX2_harmony_14 : decode cX2_harmony 14 = .ok (.istore_n 3, 1) := by decide +kernel
theorem dX2_harmony_15 : decode cX2_harmony 15 = .ok (.iload_n 3, 1) := by decide +kernel
theorem dX2_harmony_16 : decode cX2_harmony 16 = .ok (.iload_n 2, 1) := by decide +kernel
theorem dX2_harmony_17 : decode cX2_harmony 17 = .ok (.if_icmp .ge 42, 3) := by decide +kernel
theorem dX2_harmony_20 : decode cX2_harmony 20 = .ok (.aload_n 0, 1) := by decide +kernel
theorem dX2_harmony_21 : decode cX2_harmony 21 = .ok (.iload_n 2, 1) := by decide +kernel
theorem dX2_harmony_22 : decode cX2_harmony 22 = .ok (.invokevirtual 39, 3) := by decide +kernel
theorem dX2_harmony_25 : decode cX2_harmony 25 = .ok (.ifCond .eq 28, 3) := by decide +kernel
theorem dX2_harmony_28 : decode cX2_harmony 28 = .ok (.aload_n 0, 1) := by decide +kernel
theorem dX2_harmony_29 : decode cX2_harmony 29 = .ok (.iload_n 3, 1) := by decide +kernel
theorem dX2_harmony_30 : decode cX2_harmony 30 = .ok (.invokevirtual 39, 3) := by decide +kernel
theorem dX2_harmony_33 : decode cX2_harmony 33 = .ok (.ifCond .eq 20, 3) := by decide +kernel
theorem dX2_harmony_36 : decode cX2_harmony 36 = .ok (.iload_n 1, 1) := by decide +kernel
theorem dX2_harmony_37 : decode cX2_harmony 37 = .ok (.aload_n 0, 1) := by decide +kernel
theorem dX2_harmony_38 : decode cX2_harmony 38 = .ok (.iload_n 2, 1) := by decide +kernel
theorem dX2_harmony_39 : decode cX2_harmony 39 = .ok (.iload_n 3, 1) := by decide +kernel
theorem dX2_harmony_40 : decode cX2_harmony 40 = .ok (.invokevirtual 43, 3) := by decide +kernel
theorem dX2_harmony_43 : decode cX2_harmony 43 = .ok (.ifCond .eq 7, 3) := by decide +kernel
theorem dX2_harmony_46 : decode cX2_harmony 46 = .ok (.iconst 1, 1) := by decide +kernel
theorem dX2_harmony_47 : decode cX2_harmony 47 = .ok (.goto 4, 3) := by decide +kernel
theorem dX2_harmony_50 : decode cX2_harmony 50 = .ok (.iconst (-1), 1) := by decide +kernel
theorem dX2_harmony_51 : decode cX2_harmony 51 = .ok (.iadd, 1) := by decide +kernel
theorem dX2_harmony_52 : decode cX2_harmony 52 = .ok (.istore_n 1, 1) := by decide +kernel
theorem dX2_harmony_53 : decode cX2_harmony 53 = .ok (.iinc 3 1, 3) := by decide +kernel
theorem dX2_harmony_56 : decode cX2_harmony 56 = .ok (.goto (-41), 3) := by decide +kernel
theorem dX2_harmony_59 : decode cX2_harmony 59 = .ok (.iinc 2 1, 3) := by decide +kernel
theorem dX2_harmony_62 : decode cX2_harmony 62 = .ok (.goto (-58), 3) := by decide +kernel
theorem dX2_harmony_65 : decode cX2_harmony 65 = .ok (.iload_n 1, 1) := by decide +kernel
theorem dX2_harmony_66 : decode cX2_harmony 66 = .ok (.ireturn, 1) := by decide +kernel
theorem dX2_sounding_0 : decode cX2_sounding 0 = .ok (.iconst 0, 1) := by decide +kernel
theorem dX2_sounding_1 : decode cX2_sounding 1 = .ok (.istore_n 1, 1) := by decide +kernel
theorem dX2_sounding_2 : decode cX2_sounding 2 = .ok (.iconst 0, 1) := by decide +kernel
theorem dX2_sounding_3 : decode cX2_sounding 3 = .ok (.istore_n 2, 1) := by decide +kernel
theorem dX2_sounding_4 : decode cX2_sounding 4 = .ok (.iload_n 2, 1) := by decide +kernel
theorem dX2_sounding_5 : decode cX2_sounding 5 = .ok (.aload_n 0, 1) := by decide +kernel
theorem dX2_sounding_6 : decode cX2_sounding 6 = .ok (.getfield 9, 3) := by decide +kernel
theorem dX2_sounding_9 : decode cX2_sounding 9 = .ok (.arraylength, 1) := by decide +kernel
theorem dX2_sounding_10 : decode cX2_sounding 10 = .ok (.if_icmp .ge 25, 3) := by decide +kernel
theorem dX2_sounding_13 : decode cX2_sounding 13 = .ok (.iload_n 1, 1) := by decide +kernel
theorem dX2_sounding_14 : decode cX2_sounding 14 = .ok (.aload_n 0, 1) := by decide +kernel
theorem dX2_sounding_15 : decode cX2_sounding 15 = .ok (.iload_n 2, 1) := by decide +kernel
theorem dX2_sounding_16 : decode cX2_sounding 16 = .ok (.invokevirtual 39, 3) := by decide +kernel
theorem dX2_sounding_19 : decode cX2_sounding 19 = .ok (.ifCond .eq 7, 3) := by decide +kernel
theorem dX2_sounding_22 : decode cX2_sounding 22 = .ok (.iconst 1, 1) := by decide +kernel
theorem dX2_sounding_23 : decode cX2_sounding 23 = .ok (.goto 4, 3) := by decide +kernel
theorem dX2_sounding_26 : decode cX2_sounding 26 = .ok (.iconst 0, 1) := by decide +kernel
theorem dX2_sounding_27 : decode cX2_sounding 27 = .ok (.iadd, 1) := by decide +kernel
theorem dX2_sounding_28 : decode cX2_sounding 28 = .ok (.istore_n 1, 1) := by decide +kernel
theorem dX2_sounding_29 : decode cX2_sounding 29 = .ok (.iinc 2 1, 3) := by decide +kernel
theorem dX2_sounding_32 : decode cX2_sounding 32 = .ok (.goto (-28), 3) := by decide +kernel
theorem dX2_sounding_35 : decode cX2_sounding 35 = .ok (.iload_n 1, 1) := by decide +kernel
theorem dX2_sounding_36 : decode cX2_sounding 36 = .ok (.ireturn, 1) := by decide +kernel
theorem dX2_isClear_0 : decode cX2_isClear 0 = .ok (.aload_n 0, 1) := by decide +kernel
theorem dX2_isClear_1 : decode cX2_isClear 1 = .ok (.invokevirtual 46, 3) := by decide +kernel
theorem dX2_isClear_4 : decode cX2_isClear 4 = .ok (.iconst 3, 1) := by decide +kernel
theorem dX2_isClear_5 : decode cX2_isClear 5 = .ok (.if_icmp .lt 14, 3) := by decide +kernel
theorem dX2_isClear_8 : decode cX2_isClear 8 = .ok (.aload_n 0, 1) := by decide +kernel
theorem dX2_isClear_9 : decode cX2_isClear 9 = .ok (.invokevirtual 50, 3) := by decide +kernel
theorem dX2_isClear_12 : decode cX2_isClear 12 = .ok (.ifCond .ne 7, 3) := by decide +kernel
theorem dX2_isClear_15 : decode cX2_isClear 15 = .ok (.iconst 1, 1) := by decide +kernel
theorem dX2_isClear_16 : decode cX2_isClear 16 = .ok (.goto 4, 3) := by decide +kernel
theorem dX2_isClear_19 : decode cX2_isClear 19 = .ok (.iconst 0, 1) := by decide +kernel
theorem dX2_isClear_20 : decode cX2_isClear 20 = .ok (.ireturn, 1) := by decide +kernel
theorem dX2_sing_0 : decode cX2_sing 0 = .ok (.aload_n 0, 1) := by decide +kernel
theorem dX2_sing_1 : decode cX2_sing 1 = .ok (.invokevirtual 50, 3) := by decide +kernel
theorem dX2_sing_4 : decode cX2_sing 4 = .ok (.ifCond .le 7, 3) := by decide +kernel
theorem dX2_sing_7 : decode cX2_sing 7 = .ok (.iconst 1, 1) := by decide +kernel
theorem dX2_sing_8 : decode cX2_sing 8 = .ok (.goto 4, 3) := by decide +kernel
theorem dX2_sing_11 : decode cX2_sing 11 = .ok (.iconst 0, 1) := by decide +kernel
theorem dX2_sing_12 : decode cX2_sing 12 = .ok (.istore_n 1, 1) := by decide +kernel
theorem dX2_sing_13 : decode cX2_sing 13 = .ok (.aload_n 0, 1) := by decide +kernel
theorem dX2_sing_14 : decode cX2_sing 14 = .ok (.invokevirtual 53, 3) := by decide +kernel
theorem dX2_sing_17 : decode cX2_sing 17 = .ok (.ifCond .eq 14, 3) := by decide +kernel
theorem dX2_sing_20 : decode cX2_sing 20 = .ok (.aload_n 0, 1) := by decide +kernel
theorem dX2_sing_21 : decode cX2_sing 21 = .ok (.getfield 23, 3) := by decide +kernel
theorem dX2_sing_24 : decode cX2_sing 24 = .ok (.ifCond .eq 7, 3) := by decide +kernel
theorem dX2_sing_27 : decode cX2_sing 27 = .ok (.iconst 1, 1) := by decide +kernel
theorem dX2_sing_28 : decode cX2_sing 28 = .ok (.goto 4, 3) := by decide +kernel
theorem dX2_sing_31 : decode cX2_sing 31 = .ok (.iconst 0, 1) := by decide +kernel
theorem dX2_sing_32 : decode cX2_sing 32 = .ok (.istore_n 2, 1) := by decide +kernel
theorem dX2_sing_33 : decode cX2_sing 33 = .ok (.iconst 0, 1) := by decide +kernel
theorem dX2_sing_34 : decode cX2_sing 34 = .ok (.istore_n 3, 1) := by decide +kernel
theorem dX2_sing_35 : decode cX2_sing 35 = .ok (.iload_n 3, 1) := by decide +kernel
theorem dX2_sing_36 : decode cX2_sing 36 = .ok (.aload_n 0, 1) := by decide +kernel
theorem dX2_sing_37 : decode cX2_sing 37 = .ok (.getfield 9, 3) := by decide +kernel
theorem dX2_sing_40 : decode cX2_sing 40 = .ok (.arraylength, 1) := by decide +kernel
theorem dX2_sing_41 : decode cX2_sing 41 = .ok (.if_icmp .ge 152, 3) := by decide +kernel
theorem dX2_sing_44 : decode cX2_sing 44 = .ok (.aload_n 0, 1) := by decide +kernel
theorem dX2_sing_45 : decode cX2_sing 45 = .ok (.getfield 9, 3) := by decide +kernel
theorem dX2_sing_48 : decode cX2_sing 48 = .ok (.iload_n 3, 1) := by decide +kernel
theorem dX2_sing_49 : decode cX2_sing 49 = .ok (.aaload, 1) := by decide +kernel
theorem dX2_sing_50 : decode cX2_sing 50 = .ok (.astore 4, 2) := by decide +kernel
theorem dX2_sing_52 : decode cX2_sing 52 = .ok (.aload_n 0, 1) := by decide +kernel
theorem dX2_sing_53 : decode cX2_sing 53 = .ok (.iload_n 3, 1) := by decide +kernel
theorem dX2_sing_54 : decode cX2_sing 54 = .ok (.invokevirtual 39, 3) := by decide +kernel
theorem dX2_sing_57 : decode cX2_sing 57 = .ok (.ifCond .eq 98, 3) := by decide +kernel
theorem dX2_sing_60 : decode cX2_sing 60 = .ok (.iconst 1, 1) := by decide +kernel
theorem dX2_sing_61 : decode cX2_sing 61 = .ok (.aload 4, 2) := by decide +kernel
theorem dX2_sing_63 : decode cX2_sing 63 = .ok (.iconst 3, 1) := by decide +kernel
theorem dX2_sing_64 : decode cX2_sing 64 = .ok (.iaload, 1) := by decide +kernel
theorem dX2_sing_65 : decode cX2_sing 65 = .ok (.iconst 3, 1) := by decide +kernel
theorem dX2_sing_66 : decode cX2_sing 66 = .ok (.idiv, 1) := by decide +kernel
theorem dX2_sing_67 : decode cX2_sing 67 = .ok (.iadd, 1) := by decide +kernel
theorem dX2_sing_68 : decode cX2_sing 68 = .ok (.istore 5, 2) := by decide +kernel
theorem dX2_sing_70 : decode cX2_sing 70 = .ok (.aload 4, 2) := by decide +kernel
theorem dX2_sing_72 : decode cX2_sing 72 = .ok (.iconst 2, 1) := by decide +kernel
theorem dX2_sing_73 : decode cX2_sing 73 = .ok (.iload 5, 2) := by decide +kernel
theorem dX2_sing_75 : decode cX2_sing 75 = .ok (.aload 4, 2) := by decide +kernel
theorem dX2_sing_77 : decode cX2_sing 77 = .ok (.iconst 2, 1) := by decide +kernel
theorem dX2_sing_78 : decode cX2_sing 78 = .ok (.iaload, 1) := by decide +kernel
theorem dX2_sing_79 : decode cX2_sing 79 = .ok (.if_icmp .le 7, 3) := by decide +kernel
theorem dX2_sing_82 : decode cX2_sing 82 = .ok (.iconst 0, 1) := by decide +kernel
theorem dX2_sing_83 : decode cX2_sing 83 = .ok (.goto 10, 3) := by decide +kernel
theorem dX2_sing_86 : decode cX2_sing 86 = .ok (.aload 4, 2) := by decide +kernel
theorem dX2_sing_88 : decode cX2_sing 88 = .ok (.iconst 2, 1) := by decide +kernel
theorem dX2_sing_89 : decode cX2_sing 89 = .ok (.iaload, 1) := by decide +kernel
theorem dX2_sing_90 : decode cX2_sing 90 = .ok (.iload 5, 2) := by decide +kernel
theorem dX2_sing_92 : decode cX2_sing 92 = .ok (.isub, 1) := by decide +kernel
theorem dX2_sing_93 : decode cX2_sing 93 = .ok (.iastore, 1) := by decide +kernel
theorem dX2_sing_94 : decode cX2_sing 94 = .ok (.aload 4, 2) := by decide +kernel
theorem dX2_sing_96 : decode cX2_sing 96 = .ok (.iconst 1, 1) := by decide +kernel
theorem dX2_sing_97 : decode cX2_sing 97 = .ok (.iaload, 1) := by decide +kernel
theorem dX2_sing_98 : decode cX2_sing 98 = .ok (.bipush 23, 2) := by decide +kernel
theorem dX2_sing_100 : decode cX2_sing 100 = .ok (.if_icmp .le 29, 3) := by decide +kernel
theorem dX2_sing_103 : decode cX2_sing 103 = .ok (.aload_n 0, 1) := by decide +kernel
theorem dX2_sing_104 : decode cX2_sing 104 = .ok (.getfield 16, 3) := by decide +kernel
theorem dX2_sing_107 : decode cX2_sing 107 = .ok (.iconst 4, 1) := by decide +kernel
theorem dX2_sing_108 : decode cX2_sing 108 = .ok (.irem, 1) := by decide +kernel
theorem dX2_sing_109 : decode cX2_sing 109 = .ok (.ifCond .ne 20, 3) := by decide +kernel
theorem dX2_sing_112 : decode cX2_sing 112 = .ok (.aload 4, 2) := by decide +kernel
theorem dX2_sing_114 : decode cX2_sing 114 = .ok (.iconst 3, 1) := by decide +kernel
theorem dX2_sing_115 : decode cX2_sing 115 = .ok (.iaload, 1) := by decide +kernel
theorem dX2_sing_116 : decode cX2_sing 116 = .ok (.bipush 9, 2) := by decide +kernel
theorem dX2_sing_118 : decode cX2_sing 118 = .ok (.if_icmp .ge 11, 3) := by decide +kernel
theorem dX2_sing_121 : decode cX2_sing 121 = .ok (.aload 4, 2) := by decide +kernel
theorem dX2_sing_123 : decode cX2_sing 123 = .ok (.iconst 3, 1) := by decide +kernel
theorem dX2_sing_124 : decode cX2_sing 124 = .ok (.dup2, 1) := by decide +kernel
theorem dX2_sing_125 : decode cX2_sing 125 = .ok (.iaload, 1) := by decide +kernel
theorem dX2_sing_126 : decode cX2_sing 126 = .ok (.iconst 1, 1) := by decide +kernel
theorem dX2_sing_127 : decode cX2_sing 127 = .ok (.iadd, 1) := by decide +kernel
theorem dX2_sing_128 : decode cX2_sing 128 = .ok (.iastore, 1) := by decide +kernel
theorem dX2_sing_129 : decode cX2_sing 129 = .ok (.aload 4, 2) := by decide +kernel
theorem dX2_sing_131 : decode cX2_sing 131 = .ok (.iconst 3, 1) := by decide +kernel
theorem dX2_sing_132 : decode cX2_sing 132 = .ok (.iaload, 1) := by decide +kernel
theorem dX2_sing_133 : decode cX2_sing 133 = .ok (.iconst 4, 1) := by decide +kernel
theorem dX2_sing_134 : decode cX2_sing 134 = .ok (.if_icmp .le 18, 3) := by decide +kernel
theorem dX2_sing_137 : decode cX2_sing 137 = .ok (.aload 4, 2) := by decide +kernel
theorem dX2_sing_139 : decode cX2_sing 139 = .ok (.iconst 1, 1) := by decide +kernel
theorem dX2_sing_140 : decode cX2_sing 140 = .ok (.iaload, 1) := by decide +kernel
theorem dX2_sing_141 : decode cX2_sing 141 = .ok (.ifCond .le 11, 3) := by decide +kernel
theorem dX2_sing_144 : decode cX2_sing 144 = .ok (.aload 4, 2) := by decide +kernel
theorem dX2_sing_146 : decode cX2_sing 146 = .ok (.iconst 1, 1) := by decide +kernel
theorem dX2_sing_147 : decode cX2_sing 147 = .ok (.dup2, 1) := by decide +kernel
theorem dX2_sing_148 : decode cX2_sing 148 = .ok (.iaload, 1) := by decide +kernel
theorem dX2_sing_149 : decode cX2_sing 149 = .ok (.iconst 1, 1) := by decide +kernel
theorem dX2_sing_150 : decode cX2_sing 150 = .ok (.isub, 1) := by decide +kernel
theorem dX2_sing_151 : decode cX2_sing 151 = .ok (.iastore, 1) := by decide +kernel
theorem dX2_sing_152 : decode cX2_sing 152 = .ok (.goto 35, 3) := by decide +kernel
theorem dX2_sing_155 : decode cX2_sing 155 = .ok (.aload 4, 2) := by decide +kernel
theorem dX2_sing_157 : decode cX2_sing 157 = .ok (.iconst 4, 1) := by decide +kernel
theorem dX2_sing_158 : decode cX2_sing 158 = .ok (.iaload, 1) := by decide +kernel
theorem dX2_sing_159 : decode cX2_sing 159 = .ok (.iconst 1, 1) := by decide +kernel
theorem dX2_sing_160 : decode cX2_sing 160 = .ok (.if_icmp .ne 27, 3) := by decide +kernel
theorem dX2_sing_163 : decode cX2_sing 163 = .ok (.aload_n 0, 1) := by decide +kernel
theorem dX2_sing_164 : decode cX2_sing 164 = .ok (.getfield 16, 3) := by decide +kernel
theorem dX2_sing_167 : decode cX2_sing 167 = .ok (.iconst 3, 1) := by decide +kernel
theorem dX2_sing_168 : decode cX2_sing 168 = .ok (.irem, 1) := by decide +kernel
theorem dX2_sing_169 : decode cX2_sing 169 = .ok (.ifCond .ne 18, 3) := by decide +kernel
theorem dX2_sing_172 : decode cX2_sing 172 = .ok (.aload 4, 2) := by decide +kernel
theorem dX2_sing_174 : decode cX2_sing 174 = .ok (.iconst 3, 1) := by decide +kernel
theorem dX2_sing_175 : decode cX2_sing 175 = .ok (.iaload, 1) := by decide +kernel
theorem dX2_sing_176 : decode cX2_sing 176 = .ok (.ifCond .le 11, 3) := by decide +kernel
theorem dX2_sing_179 : decode cX2_sing 179 = .ok (.aload 4, 2) := by decide +kernel
theorem dX2_sing_181 : decode cX2_sing 181 = .ok (.iconst 3, 1) := by decide +kernel
theorem dX2_sing_182 : decode cX2_sing 182 = .ok (.dup2, 1) := by decide +kernel
theorem dX2_sing_183 : decode cX2_sing 183 = .ok (.iaload, 1) := by decide +kernel
theorem dX2_sing_184 : decode cX2_sing 184 = .ok (.iconst 1, 1) := by decide +kernel
theorem dX2_sing_185 : decode cX2_sing 185 = .ok (.isub, 1) := by decide +kernel
theorem dX2_sing_186 : decode cX2_sing 186 = .ok (.iastore, 1) := by decide +kernel
theorem dX2_sing_187 : decode cX2_sing 187 = .ok (.iinc 3 1, 3) := by decide +kernel
theorem dX2_sing_190 : decode cX2_sing 190 = .ok (.goto (-155), 3) := by decide +kernel
theorem dX2_sing_193 : decode cX2_sing 193 = .ok (.aload_n 0, 1) := by decide +kernel
theorem dX2_sing_194 : decode cX2_sing 194 = .ok (.dup, 1) := by decide +kernel
theorem dX2_sing_195 : decode cX2_sing 195 = .ok (.getfield 20, 3) := by decide +kernel
theorem dX2_sing_198 : decode cX2_sing 198 = .ok (.iload_n 2, 1) := by decide +kernel
theorem dX2_sing_199 : decode cX2_sing 199 = .ok (.iadd, 1) := by decide +kernel
theorem dX2_sing_200 : decode cX2_sing 200 = .ok (.putfield 20, 3) := by decide +kernel
theorem dX2_sing_203 : decode cX2_sing 203 = .ok (.aload_n 0, 1) := by decide +kernel
theorem dX2_sing_204 : decode cX2_sing 204 = .ok (.iload_n 1, 1) := by decide +kernel
theorem dX2_sing_205 : decode cX2_sing 205 = .ok (.putfield 23, 3) := by decide +kernel
theorem dX2_sing_208 : decode cX2_sing 208 = .ok (.aload_n 0, 1) := by decide +kernel
theorem dX2_sing_209 : decode cX2_sing 209 = .ok (.dup, 1) := by decide +kernel
theorem dX2_sing_210 : decode cX2_sing 210 = .ok (.getfield 16, 3) := by decide +kernel
theorem dX2_sing_213 : decode cX2_sing 213 = .ok (.iconst 1, 1) := by decide +kernel
theorem dX2_sing_214 : decode cX2_sing 214 = .ok (.iadd, 1) := by decide +kernel
theorem dX2_sing_215 : decode cX2_sing 215 = .ok (.putfield 16, 3) := by decide +kernel
theorem dX2_sing_218 : decode cX2_sing 218 = .ok (.iload_n 2, 1) := by decide +kernel
theorem dX2_sing_219 : decode cX2_sing 219 = .ok (.ireturn, 1) := by decide +kernel
theorem dX2_sing__0 : decode cX2_sing_ 0 = .ok (.iconst 0, 1) := by decide +kernel
theorem dX2_sing__1 : decode cX2_sing_ 1 = .ok (.istore_n 2, 1) := by decide +kernel
theorem dX2_sing__2 : decode cX2_sing_ 2 = .ok (.iconst 0, 1) := by decide +kernel
theorem dX2_sing__3 : decode cX2_sing_ 3 = .ok (.istore_n 3, 1) := by decide +kernel
theorem dX2_sing__4 : decode cX2_sing_ 4 = .ok (.iload_n 3, 1) := by decide +kernel
theorem dX2_sing__5 : decode cX2_sing_ 5 = .ok (.iload_n 1, 1) := by decide +kernel
theorem dX2_sing__6 : decode cX2_sing_ 6 = .ok (.if_icmp .ge 16, 3) := by decide +kernel
theorem dX2_sing__9 : decode cX2_sing_ 9 = .ok (.iload_n 2, 1) := by decide +kernel
theorem dX2_sing__10 : decode cX2_sing_ 10 = .ok (.aload_n 0, 1) := by decide +kernel
theorem dX2_sing__11 : decode cX2_sing_ 11 = .ok (.invokevirtual 57, 3) := by decide +kernel
theorem dX2_sing__14 : decode cX2_sing_ 14 = .ok (.iadd, 1) := by decide +kernel
theorem dX2_sing__15 : decode cX2_sing_ 15 = .ok (.istore_n 2, 1) := by decide +kernel
theorem dX2_sing__16 : decode cX2_sing_ 16 = .ok (.iinc 3 1, 3) := by decide +kernel
theorem dX2_sing__19 : decode cX2_sing_ 19 = .ok (.goto (-15), 3) := by decide +kernel
theorem dX2_sing__22 : decode cX2_sing_ 22 = .ok (.iload_n 2, 1) := by decide +kernel
theorem dX2_sing__23 : decode cX2_sing_ 23 = .ok (.ireturn, 1) := by decide +kernel
theorem dX2_isSame_0 : decode cX2_isSame 0 = .ok (.aload_n 0, 1) := by decide +kernel
theorem dX2_isSame_1 : decode cX2_isSame 1 = .ok (.getfield 9, 3) := by decide +kernel
theorem dX2_isSame_4 : decode cX2_isSame 4 = .ok (.arraylength, 1) := by decide +kernel
theorem dX2_isSame_5 : decode cX2_isSame 5 = .ok (.istore_n 2, 1) := by decide +kernel
theorem dX2_isSame_6 : decode cX2_isSame 6 = .ok (.iconst 4, 1) := by decide +kernel
theorem dX2_isSame_7 : decode cX2_isSame 7 = .ok (.newarray .int, 2) := by decide +kernel
theorem dX2_isSame_9 : decode cX2_isSame 9 = .ok (.astore_n 3, 1) := by decide +kernel
theorem dX2_isSame_10 : decode cX2_isSame 10 = .ok (.iconst (-1), 1) := by decide +kernel
theorem dX2_isSame_11 : decode cX2_isSame 11 = .ok (.istore 4, 2) := by decide +kernel
theorem dX2_isSame_13 : decode cX2_isSame 13 = .ok (.iconst (-1), 1) := by decide +kernel
theorem dX2_isSame_14 : decode cX2_isSame 14 = .ok (.istore 5, 2) := by decide +kernel
theorem dX2_isSame_16 : decode cX2_isSame 16 = .ok (.iconst 0, 1) := by decide +kernel
theorem dX2_isSame_17 : decode cX2_isSame 17 = .ok (.istore 6, 2) := by decide +kernel
theorem dX2_isSame_19 : decode cX2_isSame 19 = .ok (.iload_n 2, 1) := by decide +kernel
theorem dX2_isSame_20 : decode cX2_isSame 20 = .ok (.iconst 1, 1) := by decide +kernel
theorem dX2_isSame_21 : decode cX2_isSame 21 = .ok (.isub, 1) := by decide +kernel
theorem dX2_isSame_22 : decode cX2_isSame 22 = .ok (.istore 7, 2) := by decide +kernel
theorem dX2_isSame_24 : decode cX2_isSame 24 = .ok (.iload 7, 2) := by decide +kernel
theorem dX2_isSame_26 : decode cX2_isSame 26 = .ok (.ifCond .lt 187, 3) := by decide +kernel
theorem dX2_isSame_29 : decode cX2_isSame 29 = .ok (.aload_n 0, 1) := by decide +kernel
theorem dX2_isSame_30 : decode cX2_isSame 30 = .ok (.getfield 9, 3) := by decide +kernel
theorem dX2_isSame_33 : decode cX2_isSame 33 = .ok (.iload 7, 2) := by decide +kernel
theorem dX2_isSame_35 : decode cX2_isSame 35 = .ok (.aaload, 1) := by decide +kernel
theorem dX2_isSame_36 : decode cX2_isSame 36 = .ok (.astore 8, 2) := by decide +kernel
theorem dX2_isSame_38 : decode cX2_isSame 38 = .ok (.aload_n 0, 1) := by decide +kernel
theorem dX2_isSame_39 : decode cX2_isSame 39 = .ok (.iload 7, 2) := by decide +kernel
theorem dX2_isSame_41 : decode cX2_isSame 41 = .ok (.invokevirtual 60, 3) := by decide +kernel
theorem dX2_isSame_44 : decode cX2_isSame 44 = .ok (.istore 9, 2) := by decide +kernel
theorem dX2_isSame_46 : decode cX2_isSame 46 = .ok (.aload_n 1, 1) := by decide +kernel
theorem dX2_isSame_47 : decode cX2_isSame 47 = .ok (.iload 7, 2) := by decide +kernel
theorem dX2_isSame_49 : decode cX2_isSame 49 = .ok (.invokevirtual 64, 3) := by decide +kernel
theorem dX2_isSame_52 : decode cX2_isSame 52 = .ok (.aload 8, 2) := by decide +kernel
theorem dX2_isSame_54 : decode cX2_isSame 54 = .ok (.iconst 0, 1) := by decide +kernel
theorem dX2_isSame_55 : decode cX2_isSame 55 = .ok (.iaload, 1) := by decide +kernel
theorem dX2_isSame_56 : decode cX2_isSame 56 = .ok (.if_icmp .ne 68, 3) := by decide +kernel
theorem dX2_isSame_59 : decode cX2_isSame 59 = .ok (.aload_n 1, 1) := by decide +kernel
theorem dX2_isSame_60 : decode cX2_isSame 60 = .ok (.iload 7, 2) := by decide +kernel
theorem dX2_isSame_62 : decode cX2_isSame 62 = .ok (.invokevirtual 69, 3) := by decide +kernel
theorem dX2_isSame_65 : decode cX2_isSame 65 = .ok (.aload 8, 2) := by decide +kernel
theorem dX2_isSame_67 : decode cX2_isSame 67 = .ok (.iconst 1, 1) := by decide +kernel
theorem dX2_isSame_68 : decode cX2_isSame 68 = .ok (.iaload, 1) := by decide +kernel
theorem dX2_isSame_69 : decode cX2_isSame 69 = .ok (.if_icmp .ne 55, 3) := by decide +kernel
theorem dX2_isSame_72 : decode cX2_isSame 72 = .ok (.aload_n 1, 1) := by decide +kernel
theorem dX2_isSame_73 : decode cX2_isSame 73 = .ok (.iload 7, 2) := by decide +kernel
theorem dX2_isSame_75 : decode cX2_isSame 75 = .ok (.invokevirtual 72, 3) := by decide +kernel
theorem dX2_isSame_78 : decode cX2_isSame 78 = .ok (.aload 8, 2) := by decide +kernel
theorem dX2_isSame_80 : decode cX2_isSame 80 = .ok (.iconst 2, 1) := by decide +kernel
theorem dX2_isSame_81 : decode cX2_isSame 81 = .ok (.iaload, 1) := by decide +kernel
theorem dX2_isSame_82 : decode cX2_isSame 82 = .ok (.if_icmp .ne 42, 3) := by decide +kernel
theorem dX2_isSame_85 : decode cX2_isSame 85 = .ok (.aload_n 1, 1) := by decide +kernel
theorem dX2_isSame_86 : decode cX2_isSame 86 = .ok (.iload 7, 2) := by decide +kernel
theorem dX2_isSame_88 : decode cX2_isSame 88 = .ok (.invokevirtual 75, 3) := by decide +kernel
theorem dX2_isSame_91 : decode cX2_isSame 91 = .ok (.aload 8, 2) := by decide +kernel
theorem dX2_isSame_93 : decode cX2_isSame 93 = .ok (.iconst 3, 1) := by decide +kernel
theorem dX2_isSame_94 : decode cX2_isSame 94 = .ok (.iaload, 1) := by decide +kernel
theorem dX2_isSame_95 : decode cX2_isSame 95 = .ok (.if_icmp .ne 29, 3) := by decide +kernel
theorem dX2_isSame_98 : decode cX2_isSame 98 = .ok (.aload_n 1, 1) := by decide +kernel
theorem dX2_isSame_99 : decode cX2_isSame 99 = .ok (.iload 7, 2) := by decide +kernel
theorem dX2_isSame_101 : decode cX2_isSame 101 = .ok (.invokevirtual 78, 3) := by decide +kernel
theorem dX2_isSame_104 : decode cX2_isSame 104 = .ok (.aload_n 0, 1) := by decide +kernel
theorem dX2_isSame_105 : decode cX2_isSame 105 = .ok (.iload 7, 2) := by decide +kernel
theorem dX2_isSame_107 : decode cX2_isSame 107 = .ok (.invokevirtual 39, 3) := by decide +kernel
theorem dX2_isSame_110 : decode cX2_isSame 110 = .ok (.if_icmp .ne 14, 3) := by decide +kernel
theorem dX2_isSame_113 : decode cX2_isSame 113 = .ok (.aload_n 1, 1) := by decide +kernel
theorem dX2_isSame_114 : decode cX2_isSame 114 = .ok (.iload 7, 2) := by decide +kernel
theorem dX2_isSame_116 : decode cX2_isSame 116 = .ok (.invokevirtual 79, 3) := by decide +kernel
theorem dX2_isSame_119 : decode cX2_isSame 119 = .ok (.iload 9, 2) := by decide +kernel
theorem dX2_isSame_121 : decode cX2_isSame 121 = .ok (.if_icmp .eq 5, 3) := by decide +kernel
theorem dX2_isSame_124 : decode cX2_isSame 124 = .ok (.iconst 0, 1) := by decide +kernel
theorem dX2_isSame_125 : decode cX2_isSame 125 = .ok (.ireturn, 1) := by decide +kernel
theorem dX2_isSame_126 : decode cX2_isSame 126 = .ok (.iload 9, 2) := by decide +kernel
theorem dX2_isSame_128 : decode cX2_isSame 128 = .ok (.ifCond .le 23, 3) := by decide +kernel
theorem dX2_isSame_131 : decode cX2_isSame 131 = .ok (.iload 4, 2) := by decide +kernel
theorem dX2_isSame_133 : decode cX2_isSame 133 = .ok (.ifCond .lt 14, 3) := by decide +kernel
theorem dX2_isSame_136 : decode cX2_isSame 136 = .ok (.iload 9, 2) := by decide +kernel
theorem dX2_isSame_138 : decode cX2_isSame 138 = .ok (.aload_n 0, 1) := by decide +kernel
theorem dX2_isSame_139 : decode cX2_isSame 139 = .ok (.iload 4, 2) := by decide +kernel
theorem dX2_isSame_141 : decode cX2_isSame 141 = .ok (.invokevirtual 60, 3) := by decide +kernel
theorem dX2_isSame_144 : decode cX2_isSame 144 = .ok (.if_icmp .lt 7, 3) := by decide +kernel
theorem dX2_isSame_147 : decode cX2_isSame 147 = .ok (.iload 7, 2) := by decide +kernel
theorem dX2_isSame_149 : decode cX2_isSame 149 = .ok (.istore 4, 2) := by decide +kernel
theorem dX2_isSame_151 : decode cX2_isSame 151 = .ok (.aload_n 0, 1) := by decide +kernel
theorem dX2_isSame_152 : decode cX2_isSame 152 = .ok (.iload 7, 2) := by decide +kernel
theorem dX2_isSame_154 : decode cX2_isSame 154 = .ok (.invokevirtual 39, 3) := by decide +kernel
theorem dX2_isSame_157 : decode cX2_isSame 157 = .ok (.ifCond .ne 6, 3) := by decide +kernel
theorem dX2_isSame_160 : decode cX2_isSame 160 = .ok (.goto 47, 3) := by decide +kernel
theorem dX2_isSame_163 : decode cX2_isSame 163 = .ok (.aload_n 3, 1) := by decide +kernel
theorem dX2_isSame_164 : decode cX2_isSame 164 = .ok (.aload 8, 2) := by decide +kernel
theorem dX2_isSame_166 : decode cX2_isSame 166 = .ok (.iconst 0, 1) := by decide +kernel
theorem dX2_isSame_167 : decode cX2_isSame 167 = .ok (.iaload, 1) := by decide +kernel
theorem dX2_isSame_168 : decode cX2_isSame 168 = .ok (.dup2, 1) := by decide +kernel
theorem dX2_isSame_169 : decode cX2_isSame 169 = .ok (.iaload, 1) := by decide +kernel
theorem dX2_isSame_170 : decode cX2_isSame 170 = .ok (.iconst 1, 1) := by decide +kernel
theorem dX2_isSame_171 : decode cX2_isSame 171 = .ok (.iadd, 1) := by decide +kernel
theorem dX2_isSame_172 : decode cX2_isSame 172 = .ok (.iastore, 1) := by decide +kernel
theorem dX2_isSame_173 : decode cX2_isSame 173 = .ok (.iload 6, 2) := by decide +kernel
theorem dX2_isSame_175 : decode cX2_isSame 175 = .ok (.aload 8, 2) := by decide +kernel
theorem dX2_isSame_177 : decode cX2_isSame 177 = .ok (.iconst 1, 1) := by decide +kernel
theorem dX2_isSame_178 : decode cX2_isSame 178 = .ok (.iaload, 1) := by decide +kernel
theorem dX2_isSame_179 : decode cX2_isSame 179 = .ok (.iadd, 1) := by decide +kernel
theorem dX2_isSame_180 : decode cX2_isSame 180 = .ok (.istore 6, 2) := by decide +kernel
theorem dX2_isSame_182 : decode cX2_isSame 182 = .ok (.iload 5, 2) := by decide +kernel
theorem dX2_isSame_184 : decode cX2_isSame 184 = .ok (.ifCond .lt 19, 3) := by decide +kernel
theorem dX2_isSame_187 : decode cX2_isSame 187 = .ok (.aload 8, 2) := by decide +kernel
theorem dX2_isSame_189 : decode cX2_isSame 189 = .ok (.iconst 1, 1) := by decide +kernel
theorem dX2_isSame_190 : decode cX2_isSame 190 = .ok (.iaload, 1) := by decide +kernel
theorem dX2_isSame_191 : decode cX2_isSame 191 = .ok (.aload_n 0, 1) := by decide +kernel
theorem dX2_isSame_192 : decode cX2_isSame 192 = .ok (.getfield 9, 3) := by decide +kernel
theorem dX2_isSame_195 : decode cX2_isSame 195 = .ok (.iload 5, 2) := by decide +kernel
theorem dX2_isSame_197 : decode cX2_isSame 197 = .ok (.aaload, 1) := by decide +kernel
theorem dX2_isSame_198 : decode cX2_isSame 198 = .ok (.iconst 1, 1) := by decide +kernel
theorem dX2_isSame_199 : decode cX2_isSame 199 = .ok (.iaload, 1) := by decide +kernel
theorem dX2_isSame_200 : decode cX2_isSame 200 = .ok (.if_icmp .gt 7, 3) := by decide +kernel
theorem dX2_isSame_203 : decode cX2_isSame 203 = .ok (.iload 7, 2) := by decide +kernel
theorem dX2_isSame_205 : decode cX2_isSame 205 = .ok (.istore 5, 2) := by decide +kernel
theorem dX2_isSame_207 : decode cX2_isSame 207 = .ok (.iinc 7 (-1), 3) := by decide +kernel
theorem dX2_isSame_210 : decode cX2_isSame 210 = .ok (.goto (-186), 3) := by decide +kernel
theorem dX2_isSame_213 : decode cX2_isSame 213 = .ok (.iconst 0, 1) := by decide +kernel
theorem dX2_isSame_214 : decode cX2_isSame 214 = .ok (.istore 7, 2) := by decide +kernel
theorem dX2_isSame_216 : decode cX2_isSame 216 = .ok (.iload 7, 2) := by decide +kernel
theorem dX2_isSame_218 : decode cX2_isSame 218 = .ok (.iconst 4, 1) := by decide +kernel
theorem dX2_isSame_219 : decode cX2_isSame 219 = .ok (.if_icmp .ge 24, 3) := by decide +kernel
theorem dX2_isSame_222 : decode cX2_isSame 222 = .ok (.aload_n 1, 1) := by decide +kernel
theorem dX2_isSame_223 : decode cX2_isSame 223 = .ok (.iload 7, 2) := by decide +kernel
theorem dX2_isSame_225 : decode cX2_isSame 225 = .ok (.invokevirtual 80, 3) := by decide +kernel
theorem dX2_isSame_228 : decode cX2_isSame 228 = .ok (.aload_n 3, 1) := by decide +kernel
theorem dX2_isSame_229 : decode cX2_isSame 229 = .ok (.iload 7, 2) := by decide +kernel
theorem dX2_isSame_231 : decode cX2_isSame 231 = .ok (.iaload, 1) := by decide +kernel
theorem dX2_isSame_232 : decode cX2_isSame 232 = .ok (.if_icmp .eq 5, 3) := by decide +kernel
theorem dX2_isSame_235 : decode cX2_isSame 235 = .ok (.iconst 0, 1) := by decide +kernel
theorem dX2_isSame_236 : decode cX2_isSame 236 = .ok (.ireturn, 1) := by decide +kernel
theorem dX2_isSame_237 : decode cX2_isSame 237 = .ok (.iinc 7 1, 3) := by decide +kernel
theorem dX2_isSame_240 : decode cX2_isSame 240 = .ok (.goto (-24), 3) := by decide +kernel
theorem dX2_isSame_243 : decode cX2_isSame 243 = .ok (.aload_n 1, 1) := by decide +kernel
theorem dX2_isSame_244 : decode cX2_isSame 244 = .ok (.invokevirtual 83, 3) := by decide +kernel
theorem dX2_isSame_247 : decode cX2_isSame 247 = .ok (.iload_n 2, 1) := by decide +kernel
theorem dX2_isSame_248 : decode cX2_isSame 248 = .ok (.if_icmp .ne 119, 3) := by decide +kernel
theorem dX2_isSame_251 : decode cX2_isSame 251 = .ok (.aload_n 1, 1) := by decide +kernel
theorem dX2_isSame_252 : decode cX2_isSame 252 = .ok (.invokevirtual 85, 3) := by decide +kernel
theorem dX2_isSame_255 : decode cX2_isSame 255 = .ok (.aload_n 0, 1) := by decide +kernel
theorem dX2_isSame_256 : decode cX2_isSame 256 = .ok (.getfield 16, 3) := by decide +kernel
theorem dX2_isSame_259 : decode cX2_isSame 259 = .ok (.if_icmp .ne 108, 3) := by decide +kernel
theorem dX2_isSame_262 : decode cX2_isSame 262 = .ok (.aload_n 1, 1) := by decide +kernel
theorem dX2_isSame_263 : decode cX2_isSame 263 = .ok (.invokevirtual 88, 3) := by decide +kernel
theorem dX2_isSame_266 : decode cX2_isSame 266 = .ok (.aload_n 0, 1) := by decide +kernel
theorem dX2_isSame_267 : decode cX2_isSame 267 = .ok (.invokevirtual 46, 3) := by decide +kernel
theorem dX2_isSame_270 : decode cX2_isSame 270 = .ok (.if_icmp .ne 97, 3) := by decide +kernel
theorem dX2_isSame_273 : decode cX2_isSame 273 = .ok (.aload_n 1, 1) := by decide +kernel
theorem dX2_isSame_274 : decode cX2_isSame 274 = .ok (.invokevirtual 89, 3) := by decide +kernel
theorem dX2_isSame_277 : decode cX2_isSame 277 = .ok (.aload_n 0, 1) := by decide +kernel
theorem dX2_isSame_278 : decode cX2_isSame 278 = .ok (.invokevirtual 92, 3) := by decide +kernel
theorem dX2_isSame_281 : decode cX2_isSame 281 = .ok (.if_icmp .ne 86, 3) := by decide +kernel
theorem dX2_isSame_284 : decode cX2_isSame 284 = .ok (.aload_n 1, 1) := by decide +kernel
theorem dX2_isSame_285 : decode cX2_isSame 285 = .ok (.invokevirtual 93, 3) := by decide +kernel
theorem dX2_isSame_288 : decode cX2_isSame 288 = .ok (.aload_n 0, 1) := by decide +kernel
theorem dX2_isSame_289 : decode cX2_isSame 289 = .ok (.invokevirtual 50, 3) := by decide +kernel
theorem dX2_isSame_292 : decode cX2_isSame 292 = .ok (.if_icmp .ne 75, 3) := by decide +kernel
theorem dX2_isSame_295 : decode cX2_isSame 295 = .ok (.aload_n 1, 1) := by decide +kernel
theorem dX2_isSame_296 : decode cX2_isSame 296 = .ok (.invokevirtual 94, 3) := by decide +kernel
theorem dX2_isSame_299 : decode cX2_isSame 299 = .ok (.iload 4, 2) := by decide +kernel
theorem dX2_isSame_301 : decode cX2_isSame 301 = .ok (.if_icmp .ne 66, 3) := by decide +kernel
theorem dX2_isSame_304 : decode cX2_isSame 304 = .ok (.aload_n 1, 1) := by decide +kernel
theorem dX2_isSame_305 : decode cX2_isSame 305 = .ok (.invokevirtual 97, 3) := by decide +kernel
theorem dX2_isSame_308 : decode cX2_isSame 308 = .ok (.iload 5, 2) := by decide +kernel
theorem dX2_isSame_310 : decode cX2_isSame 310 = .ok (.if_icmp .ne 57, 3) := by decide +kernel
theorem dX2_isSame_313 : decode cX2_isSame 313 = .ok (.aload_n 1, 1) := by decide +kernel
theorem dX2_isSame_314 : decode cX2_isSame 314 = .ok (.invokevirtual 100, 3) := by decide +kernel
theorem dX2_isSame_317 : decode cX2_isSame 317 = .ok (.aload_n 0, 1) := by decide +kernel
theorem dX2_isSame_318 : decode cX2_isSame 318 = .ok (.invokevirtual 53, 3) := by decide +kernel
theorem dX2_isSame_321 : decode cX2_isSame 321 = .ok (.if_icmp .ne 46, 3) := by decide +kernel
theorem dX2_isSame_324 : decode cX2_isSame 324 = .ok (.aload_n 1, 1) := by decide +kernel
theorem dX2_isSame_325 : decode cX2_isSame 325 = .ok (.invokevirtual 101, 3) := by decide +kernel
theorem dX2_isSame_328 : decode cX2_isSame 328 = .ok (.aload_n 0, 1) := by decide +kernel
theorem dX2_isSame_329 : decode cX2_isSame 329 = .ok (.getfield 20, 3) := by decide +kernel
theorem dX2_isSame_332 : decode cX2_isSame 332 = .ok (.if_icmp .ne 35, 3) := by decide +kernel
theorem dX2_isSame_335 : decode cX2_isSame 335 = .ok (.aload_n 1, 1) := by decide +kernel
theorem dX2_isSame_336 : decode cX2_isSame 336 = .ok (.invokevirtual 103, 3) := by decide +kernel
theorem dX2_isSame_339 : decode cX2_isSame 339 = .ok (.aload_n 0, 1) := by decide +kernel
theorem dX2_isSame_340 : decode cX2_isSame 340 = .ok (.invokevirtual 46, 3) := by decide +kernel
theorem dX2_isSame_343 : decode cX2_isSame 343 = .ok (.ifCond .ne 7, 3) := by decide +kernel
theorem dX2_isSame_346 : decode cX2_isSame 346 = .ok (.dconst 0, 1) := by decide +kernel
theorem dX2_isSame_347 : decode cX2_isSame 347 = .ok (.goto 12, 3) := by decide +kernel
theorem dX2_isSame_350 : decode cX2_isSame 350 = .ok (.iload 6, 2) := by decide +kernel
theorem dX2_isSame_352 : decode cX2_isSame 352 = .ok (.i2d, 1) := by decide +kernel
theorem dX2_isSame_353 : decode cX2_isSame 353 = .ok (.aload_n 0, 1) := by decide +kernel
theorem dX2_isSame_354 : decode cX2_isSame 354 = .ok (.invokevirtual 46, 3) := by decide +kernel
theorem dX2_isSame_357 : decode cX2_isSame 357 = .ok (.i2d, 1) := by decide +kernel
theorem dX2_isSame_358 : decode cX2_isSame 358 = .ok (.ddiv, 1) := by decide +kernel
theorem dX2_isSame_359 : decode cX2_isSame 359 = .ok (.dcmp .l, 1) := by decide +kernel
theorem dX2_isSame_360 : decode cX2_isSame 360 = .ok (.ifCond .ne 7, 3) := by decide +kernel
theorem dX2_isSame_363 : decode cX2_isSame 363 = .ok (.iconst 1, 1) := by decide +kernel
theorem dX2_isSame_364 : decode cX2_isSame 364 = .ok (.goto 4, 3) := by decide +kernel
theorem dX2_isSame_367 : decode cX2_isSame 367 = .ok (.iconst 0, 1) := by decide +kernel
theorem dX2_isSame_368 : decode cX2_isSame 368 = .ok (.ireturn, 1) := by decide +kernel
theorem dJ6_bitCount_0f7a4_0 : decode cJ6_bitCount_0f7a4 0 = .ok (.iload_n 0, 1) := by decide +kernel
theorem dJ6_bitCount_0f7a4_1 : decode cJ6_bitCount_0f7a4 1 = .ok (.iload_n 0, 1) := by decide +kernel
theorem dJ6_bitCount_0f7a4_2 : decode cJ6_bitCount_0f7a4 2 = .ok (.iconst 1, 1) := by decide +kernel
theorem dJ6_bitCount_0f7a4_3 : decode cJ6_bitCount_0f7a4 3 = .ok (.iushr, 1) := by decide +kernel
theorem dJ6_bitCount_0f7a4_4 : decode cJ6_bitCount_0f7a4 4 = .ok (.ldc_w 265, 3) := by decide +kernel
theorem dJ6_bitCount_0f7a4_7 : decode cJ6_bitCount_0f7a4 7 = .ok (.iand, 1) := by decide +kernel
theorem dJ6_bitCount_0f7a4_8 : decode cJ6_bitCount_0f7a4 8 = .ok (.isub, 1) := by decide +kernel
theorem dJ6_bitCount_0f7a4_9 : decode cJ6_bitCount_0f7a4 9 = .ok (.istore_n 0, 1) := by decide +kernel
theorem dJ6_bitCount_0f7a4_10 : decode cJ6_bitCount_0f7a4 10 = .ok (.iload_n 0, 1) := by decide +kernel
theorem dJ6_bitCount_0f7a4_11 : decode cJ6_bitCount_0f7a4 11 = .ok (.ldc_w 266, 3) := by decide +kernel
theorem dJ6_bitCount_0f7a4_14 : decode cJ6_bitCount_0f7a4 14 = .ok (.iand, 1) := by decide +kernel
theorem dJ6_bitCount_0f7a4_15 : decode cJ6_bitCount_0f7a4 15 = .ok (.iload_n 0, 1) := by decide +kernel
theorem dJ6_bitCount_0f7a4_16 : decode cJ6_bitCount_0f7a4 16 = .ok (.iconst 2, 1) := by decide +kernel
theorem dJ6_bitCount_0f7a4_17 : decode cJ6_bitCount_0f7a4 17 = .ok (.iushr, 1) := by decide +kernel
theorem dJ6_bitCount_0f7a4_18 : decode cJ6_bitCount_0f7a4 18 = .ok (.ldc_w 266, 3) := by decide +kernel
theorem dJ6_bitCount_0f7a4_21 : decode cJ6_bitCount_0f7a4 21 = .ok (.iand, 1) := by decide +kernel
theorem dJ6_bitCount_0f7a4_22 : decode cJ6_bitCount_0f7a4 22 = .ok (.iadd, 1) := by decide +kernel
theorem dJ6_bitCount_0f7a4_23 : decode cJ6_bitCount_0f7a4 23 = .ok (.istore_n 0, 1) := by decide +kernel
theorem dJ6_bitCount_0f7a4_24 : decode cJ6_bitCount_0f7a4 24 = .ok (.iload_n 0, 1) := by decide +kernel
theorem dJ6_bitCount_0f7a4_25 : decode cJ6_bitCount_0f7a4 25 = .ok (.iload_n 0, 1) := by decide +kernel
theorem dJ6_bitCount_0f7a4_26 : decode cJ6_bitCount_0f7a4 26 = .ok (.iconst 4, 1) := by decide +kernel
theorem dJ6_bitCount_0f7a4_27 : decode cJ6_bitCount_0f7a4 27 = .ok (.iushr, 1) := by decide +kernel
theorem dJ6_bitCount_0f7a4_28 : decode cJ6_bitCount_0f7a4 28 = .ok (.iadd, 1) := by decide +kernel
theorem dJ6_bitCount_0f7a4_29 : decode cJ6_bitCount_0f7a4 29 = .ok (.ldc_w 267, 3) := by decide +kernel
theorem dJ6_bitCount_0f7a4_32 : decode cJ6_bitCount_0f7a4 32 = .ok (.iand, 1) := by decide +kernel
theorem dJ6_bitCount_0f7a4_33 : decode cJ6_bitCount_0f7a4 33 = .ok (.istore_n 0, 1) := by decide +kernel
theorem dJ6_bitCount_0f7a4_34 : decode cJ6_bitCount_0f7a4 34 = .ok (.iload_n 0, 1) := by decide +kernel
theorem dJ6_bitCount_0f7a4_35 : decode cJ6_bitCount_0f7a4 35 = .ok (.iload_n 0, 1) := by decide +kernel
theorem dJ6_bitCount_0f7a4_36 : decode cJ6_bitCount_0f7a4 36 = .ok (.bipush 8, 2) := by decide +kernel
theorem dJ6_bitCount_0f7a4_38 : decode cJ6_bitCount_0f7a4 38 = .ok (.iushr, 1) := by decide +kernel
theorem dJ6_bitCount_0f7a4_39 : decode cJ6_bitCount_0f7a4 39 = .ok (.iadd, 1) := by decide +kernel
theorem dJ6_bitCount_0f7a4_40 : decode cJ6_bitCount_0f7a4 40 = .ok (.istore_n 0, 1) := by decide +kernel
theorem dJ6_bitCount_0f7a4_41 : decode cJ6_bitCount_0f7a4 41 = .ok (.iload_n 0, 1) := by decide +kernel
theorem dJ6_bitCount_0f7a4_42 : decode cJ6_bitCount_0f7a4 42 = .ok (.iload_n 0, 1) := by decide +kernel
theorem dJ6_bitCount_0f7a4_43 : decode cJ6_bitCount_0f7a4 43 = .ok (.bipush 16, 2) := by decide +kernel
theorem dJ6_bitCount_0f7a4_45 : decode cJ6_bitCount_0f7a4 45 = .ok (.iushr, 1) := by decide +kernel
theorem dJ6_bitCount_0f7a4_46 : decode cJ6_bitCount_0f7a4 46 = .ok (.iadd, 1) := by decide +kernel
theorem dJ6_bitCount_0f7a4_47 : decode cJ6_bitCount_0f7a4 47 = .ok (.istore_n 0, 1) := by decide +kernel
theorem dJ6_bitCount_0f7a4_48 : decode cJ6_bitCount_0f7a4 48 = .ok (.iload_n 0, 1) := by decide +kernel
theorem dJ6_bitCount_0f7a4_49 : decode cJ6_bitCount_0f7a4 49 = .ok (.bipush 63, 2) := by decide +kernel
theorem dJ6_bitCount_0f7a4_51 : decode cJ6_bitCount_0f7a4 51 = .ok (.iand, 1) := by decide +kernel
theorem dJ6_bitCount_0f7a4_52 : decode cJ6_bitCount_0f7a4 52 = .ok (.ireturn, 1) := by decide +kernel
theorem dJ9_abs_0f7a4_0 : decode cJ9_abs_0f7a4 0 = .ok (.iload_n 0, 1) := by decide +kernel
theorem dJ9_abs_0f7a4_1 : decode cJ9_abs_0f7a4 1 = .ok (.ifCond .ge 8, 3) := by decide +kernel
theorem dJ9_abs_0f7a4_4 : decode cJ9_abs_0f7a4 4 = .ok (.iload_n 0, 1) := by decide +kernel
theorem dJ9_abs_0f7a4_5 : decode cJ9_abs_0f7a4 5 = .ok (.ineg, 1) := by decide +kernel
theorem dJ9_abs_0f7a4_6 : decode cJ9_abs_0f7a4 6 = .ok (.goto 4, 3) := by decide +kernel
theorem dJ9_abs_0f7a4_9 : decode cJ9_abs_0f7a4 9 = .ok (.iload_n 0, 1) := by decide +kernel
theorem dJ9_abs_0f7a4_10 : decode cJ9_abs_0f7a4 10 = .ok (.ireturn, 1) := by decide +kernel
theorem dJ9_max_7cf53_0 : decode cJ9_max_7cf53 0 = .ok (.iload_n 0, 1) := by decide +kernel
theorem dJ9_max_7cf53_1 : decode cJ9_max_7cf53 1 = .ok (.iload_n 1, 1) := by decide +kernel
theorem dJ9_max_7cf53_2 : decode cJ9_max_7cf53 2 = .ok (.if_icmp .lt 7, 3) := by decide +kernel
theorem dJ9_max_7cf53_5 : decode cJ9_max_7cf53 5 = .ok (.iload_n 0, 1) := by decide +kernel
theorem dJ9_max_7cf53_6 : decode cJ9_max_7cf53 6 = .ok (.goto 4, 3) := by decide +kernel
theorem dJ9_max_7cf53_9 : decode cJ9_max_7cf53 9 = .ok (.iload_n 1, 1) := by decide +kernel
theorem dJ9_max_7cf53_10 : decode cJ9_max_7cf53 10 = .ok (.ireturn, 1) := by decide +kernel
theorem dJ9_min_7cf53_0 : decode cJ9_min_7cf53 0 = .ok (.iload_n 0, 1) := by decide +kernel
theorem dJ9_min_7cf53_1 : decode cJ9_min_7cf53 1 = .ok (.iload_n 1, 1) := by decide +kernel
theorem dJ9_min_7cf53_2 : decode cJ9_min_7cf53 2 = .ok (.if_icmp .gt 7, 3) := by decide +kernel
theorem dJ9_min_7cf53_5 : decode cJ9_min_7cf53 5 = .ok (.iload_n 0, 1) := by decide +kernel
theorem dJ9_min_7cf53_6 : decode cJ9_min_7cf53 6 = .ok (.goto 4, 3) := by decide +kernel
theorem dJ9_min_7cf53_9 : decode cJ9_min_7cf53 9 = .ok (.iload_n 1, 1) := by decide +kernel
theorem dJ9_min_7cf53_10 : decode cJ9_min_7cf53 10 = .ok (.ireturn, 1) := by decide +kernel
