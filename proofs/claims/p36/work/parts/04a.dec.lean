theorem dX0_init_0 : decode cX0_init 0 = .ok (.aload_n 0, 1) := by decide +kernel
theorem dX0_init_1 : decode cX0_init 1 = .ok (.invokespecial 3, 3) := by decide +kernel
theorem dX0_init_4 : decode cX0_init 4 = .ok (.aload_n 0, 1) := by decide +kernel
theorem dX0_init_5 : decode cX0_init 5 = .ok (.bipush 10, 2) := by decide +kernel
theorem dX0_init_7 : decode cX0_init 7 = .ok (.newarray .int, 2) := by decide +kernel
theorem dX0_init_9 : decode cX0_init 9 = .ok (.putfield 9, 3) := by decide +kernel
theorem dX0_init_12 : decode cX0_init 12 = .ok (.aload_n 0, 1) := by decide +kernel
theorem dX0_init_13 : decode cX0_init 13 = .ok (.bipush 10, 2) := by decide +kernel
theorem dX0_init_15 : decode cX0_init 15 = .ok (.newarray .int, 2) := by decide +kernel
theorem dX0_init_17 : decode cX0_init 17 = .ok (.putfield 15, 3) := by decide +kernel
theorem dX0_init_20 : decode cX0_init 20 = .ok (.aload_n 0, 1) := by decide +kernel
theorem dX0_init_21 : decode cX0_init 21 = .ok (.bipush 10, 2) := by decide +kernel
theorem dX0_init_23 : decode cX0_init 23 = .ok (.newarray .int, 2) := by decide +kernel
theorem dX0_init_25 : decode cX0_init 25 = .ok (.putfield 18, 3) := by decide +kernel
theorem dX0_init_28 : decode cX0_init 28 = .ok (.aload_n 0, 1) := by decide +kernel
theorem dX0_init_29 : decode cX0_init 29 = .ok (.bipush 10, 2) := by decide +kernel
theorem dX0_init_31 : decode cX0_init 31 = .ok (.newarray .int, 2) := by decide +kernel
theorem dX0_init_33 : decode cX0_init 33 = .ok (.putfield 21, 3) := by decide +kernel
theorem dX0_init_36 : decode cX0_init 36 = .ok (.aload_n 0, 1) := by decide +kernel
theorem dX0_init_37 : decode cX0_init 37 = .ok (.bipush 10, 2) := by decide +kernel
theorem dX0_init_39 : decode cX0_init 39 = .ok (.newarray .boolean, 2) := by decide +kernel
theorem dX0_init_41 : decode cX0_init 41 = .ok (.putfield 24, 3) := by decide +kernel
theorem dX0_init_44 : decode cX0_init 44 = .ok (.aload_n 0, 1) := by decide +kernel
theorem dX0_init_45 : decode cX0_init 45 = .ok (.bipush 10, 2) := by decide +kernel
theorem dX0_init_47 : decode cX0_init 47 = .ok (.newarray .int, 2) := by decide +kernel
theorem dX0_init_49 : decode cX0_init 49 = .ok (.putfield 28, 3) := by decide +kernel
theorem dX0_init_52 : decode cX0_init 52 = .ok (.return_, 1) := by decide +kernel
theorem dX0_admit_0 : decode cX0_admit 0 = .ok (.aload_n 0, 1) := by decide +kernel
theorem dX0_admit_1 : decode cX0_admit 1 = .ok (.getfield 31, 3) := by decide +kernel
theorem dX0_admit_4 : decode cX0_admit 4 = .ok (.istore 4, 2) := by decide +kernel
theorem dX0_admit_6 : decode cX0_admit 6 = .ok (.aload_n 0, 1) := by decide +kernel
theorem dX0_admit_7 : decode cX0_admit 7 = .ok (.getfield 9, 3) := by decide +kernel
theorem dX0_admit_10 : decode cX0_admit 10 = .ok (.iload 4, 2) := by decide +kernel
theorem dX0_admit_12 : decode cX0_admit 12 = .ok (.iload_n 1, 1) := by decide +kernel
theorem dX0_admit_13 : decode cX0_admit 13 = .ok (.iastore, 1) := by decide +kernel
theorem dX0_admit_14 : decode cX0_admit 14 = .ok (.aload_n 0, 1) := by decide +kernel
theorem dX0_admit_15 : decode cX0_admit 15 = .ok (.getfield 15, 3) := by decide +kernel
theorem dX0_admit_18 : decode cX0_admit 18 = .ok (.iload 4, 2) := by decide +kernel
theorem dX0_admit_20 : decode cX0_admit 20 = .ok (.iload_n 2, 1) := by decide +kernel
theorem dX0_admit_21 : decode cX0_admit 21 = .ok (.iastore, 1) := by decide +kernel
theorem dX0_admit_22 : decode cX0_admit 22 = .ok (.aload_n 0, 1) := by decide +kernel
theorem dX0_admit_23 : decode cX0_admit 23 = .ok (.getfield 18, 3) := by decide +kernel
theorem dX0_admit_26 : decode cX0_admit 26 = .ok (.iload 4, 2) := by decide +kernel
theorem dX0_admit_28 : decode cX0_admit 28 = .ok (.iload_n 3, 1) := by decide +kernel
theorem dX0_admit_29 : decode cX0_admit 29 = .ok (.iastore, 1) := by decide +kernel
theorem dX0_admit_30 : decode cX0_admit 30 = .ok (.aload_n 0, 1) := by decide +kernel
theorem dX0_admit_31 : decode cX0_admit 31 = .ok (.dup, 1) := by decide +kernel
theorem dX0_admit_32 : decode cX0_admit 32 = .ok (.getfield 31, 3) := by decide +kernel
theorem dX0_admit_35 : decode cX0_admit 35 = .ok (.iconst 1, 1) := by decide +kernel
theorem dX0_admit_36 : decode cX0_admit 36 = .ok (.iadd, 1) := by decide +kernel
theorem dX0_admit_37 : decode cX0_admit 37 = .ok (.putfield 31, 3) := by decide +kernel
theorem dX0_admit_40 : decode cX0_admit 40 = .ok (.iload 4, 2) := by decide +kernel
theorem dX0_admit_42 : decode cX0_admit 42 = .ok (.ireturn, 1) := by decide +kernel
theorem dX0_becomeLike_0 : decode cX0_becomeLike 0 = .ok (.iconst 0, 1) := by decide +kernel
theorem dX0_becomeLike_1 : decode cX0_becomeLike 1 = .ok (.istore_n 2, 1) := by decide +kernel
theorem dX0_becomeLike_2 : decode cX0_becomeLike 2 = .ok (.iload_n 2, 1) := by decide +kernel
theorem dX0_becomeLike_3 : decode cX0_becomeLike 3 = .ok (.bipush 10, 2) := by decide +kernel
theorem dX0_becomeLike_5 : decode cX0_becomeLike 5 = .ok (.if_icmp .ge 69, 3) := by decide +kernel
theorem dX0_becomeLike_8 : decode cX0_becomeLike 8 = .ok (.aload_n 0, 1) := by decide +kernel
theorem dX0_becomeLike_9 : decode cX0_becomeLike 9 = .ok (.getfield 9, 3) := by decide +kernel
theorem dX0_becomeLike_12 : decode cX0_becomeLike 12 = .ok (.iload_n 2, 1) := by decide +kernel
theorem dX0_becomeLike_13 : decode cX0_becomeLike 13 = .ok (.aload_n 1, 1) := by decide +kernel
theorem dX0_becomeLike_14 : decode cX0_becomeLike 14 = .ok (.getfield 9, 3) := by decide +kernel
theorem dX0_becomeLike_17 : decode cX0_becomeLike 17 = .ok (.iload_n 2, 1) := by decide +kernel
theorem dX0_becomeLike_18 : decode cX0_becomeLike 18 = .ok (.iaload, 1) := by decide +kernel
theorem dX0_becomeLike_19 : decode cX0_becomeLike 19 = .ok (.iastore, 1) := by decide +kernel
theorem dX0_becomeLike_20 : decode cX0_becomeLike 20 = .ok (.aload_n 0, 1) := by decide +kernel
theorem dX0_becomeLike_21 : decode cX0_becomeLike 21 = .ok (.getfield 15, 3) := by decide +kernel
theorem dX0_becomeLike_24 : decode cX0_becomeLike 24 = .ok (.iload_n 2, 1) := by decide +kernel
theorem dX0_becomeLike_25 : decode cX0_becomeLike 25 = .ok (.aload_n 1, 1) := by decide +kernel
theorem dX0_becomeLike_26 : decode cX0_becomeLike 26 = .ok (.getfield 15, 3) := by decide +kernel
theorem dX0_becomeLike_29 : decode cX0_becomeLike 29 = .ok (.iload_n 2, 1) := by decide +kernel
theorem dX0_becomeLike_30 : decode cX0_becomeLike 30 = .ok (.iaload, 1) := by decide +kernel
theorem dX0_becomeLike_31 : decode cX0_becomeLike 31 = .ok (.iastore, 1) := by decide +kernel
theorem dX0_becomeLike_32 : decode cX0_becomeLike 32 = .ok (.aload_n 0, 1) := by decide +kernel
theorem dX0_becomeLike_33 : decode cX0_becomeLike 33 = .ok (.getfield 18, 3) := by decide +kernel
theorem dX0_becomeLike_36 : decode cX0_becomeLike 36 = .ok (.iload_n 2, 1) := by decide +kernel
theorem dX0_becomeLike_37 : decode cX0_becomeLike 37 = .ok (.aload_n 1, 1) := by decide +kernel
theorem dX0_becomeLike_38 : decode cX0_becomeLike 38 = .ok (.getfield 18, 3) := by decide +kernel
theorem dX0_becomeLike_41 : decode cX0_becomeLike 41 = .ok (.iload_n 2, 1) := by decide +kernel
theorem dX0_becomeLike_42 : decode cX0_becomeLike 42 = .ok (.iaload, 1) := by decide +kernel
theorem dX0_becomeLike_43 : decode cX0_becomeLike 43 = .ok (.iastore, 1) := by decide +kernel
theorem dX0_becomeLike_44 : decode cX0_becomeLike 44 = .ok (.aload_n 0, 1) := by decide +kernel
theorem dX0_becomeLike_45 : decode cX0_becomeLike 45 = .ok (.getfield 21, 3) := by decide +kernel
theorem dX0_becomeLike_48 : decode cX0_becomeLike 48 = .ok (.iload_n 2, 1) := by decide +kernel
theorem dX0_becomeLike_49 : decode cX0_becomeLike 49 = .ok (.aload_n 1, 1) := by decide +kernel
theorem dX0_becomeLike_50 : decode cX0_becomeLike 50 = .ok (.getfield 21, 3) := by decide +kernel
theorem dX0_becomeLike_53 : decode cX0_becomeLike 53 = .ok (.iload_n 2, 1) := by decide +kernel
theorem dX0_becomeLike_54 : decode cX0_becomeLike 54 = .ok (.iaload, 1) := by decide +kernel
theorem dX0_becomeLike_55 : decode cX0_becomeLike 55 = .ok (.iastore, 1) := by decide +kernel
theorem dX0_becomeLike_56 : decode cX0_becomeLike 56 = .ok (.aload_n 0, 1) := by decide +kernel
theorem dX0_becomeLike_57 : decode cX0_becomeLike 57 = .ok (.getfield 24, 3) := by decide +kernel
theorem dX0_becomeLike_60 : decode cX0_becomeLike 60 = .ok (.iload_n 2, 1) := by decide +kernel
theorem dX0_becomeLike_61 : decode cX0_becomeLike 61 = .ok (.aload_n 1, 1) := by decide +kernel
theorem dX0_becomeLike_62 : decode cX0_becomeLike 62 = .ok (.getfield 24, 3) := by decide +kernel
theorem dX0_becomeLike_65 : decode cX0_becomeLike 65 = .ok (.iload_n 2, 1) := by decide +kernel
theorem dX0_becomeLike_66 : decode cX0_becomeLike 66 = .ok (.baload, 1) := by decide +kernel
theorem dX0_becomeLike_67 : decode cX0_becomeLike 67 = .ok (.bastore, 1) := by decide +kernel
theorem dX0_becomeLike_68 : decode cX0_becomeLike 68 = .ok (.iinc 2 1, 3) := by decide +kernel
theorem dX0_becomeLike_71 : decode cX0_becomeLike 71 = .ok (.goto (-69), 3) := by decide +kernel
theorem dX0_becomeLike_74 : decode cX0_becomeLike 74 = .ok (.aload_n 0, 1) := by decide +kernel
theorem dX0_becomeLike_75 : decode cX0_becomeLike 75 = .ok (.aload_n 1, 1) := by decide +kernel
theorem dX0_becomeLike_76 : decode cX0_becomeLike 76 = .ok (.getfield 31, 3) := by decide +kernel
theorem dX0_becomeLike_79 : decode cX0_becomeLike 79 = .ok (.putfield 31, 3) := by decide +kernel
theorem dX0_becomeLike_82 : decode cX0_becomeLike 82 = .ok (.aload_n 0, 1) := by decide +kernel
theorem dX0_becomeLike_83 : decode cX0_becomeLike 83 = .ok (.aload_n 1, 1) := by decide +kernel
theorem dX0_becomeLike_84 : decode cX0_becomeLike 84 = .ok (.getfield 35, 3) := by decide +kernel
theorem dX0_becomeLike_87 : decode cX0_becomeLike 87 = .ok (.putfield 35, 3) := by decide +kernel
theorem dX0_becomeLike_90 : decode cX0_becomeLike 90 = .ok (.aload_n 0, 1) := by decide +kernel
theorem dX0_becomeLike_91 : decode cX0_becomeLike 91 = .ok (.aload_n 1, 1) := by decide +kernel
theorem dX0_becomeLike_92 : decode cX0_becomeLike 92 = .ok (.getfield 38, 3) := by decide +kernel
theorem dX0_becomeLike_95 : decode cX0_becomeLike 95 = .ok (.putfield 38, 3) := by decide +kernel
theorem dX0_becomeLike_98 : decode cX0_becomeLike 98 = .ok (.aload_n 0, 1) := by decide +kernel
theorem dX0_becomeLike_99 : decode cX0_becomeLike 99 = .ok (.aload_n 1, 1) := by decide +kernel
theorem dX0_becomeLike_100 : decode cX0_becomeLike 100 = .ok (.getfield 41, 3) := by decide +kernel
theorem dX0_becomeLike_103 : decode cX0_becomeLike 103 = .ok (.putfield 41, 3) := by decide +kernel
theorem dX0_becomeLike_106 : decode cX0_becomeLike 106 = .ok (.return_, 1) := by decide +kernel
theorem dX0_passBeats_0 : decode cX0_passBeats 0 = .ok (.iconst 0, 1) := by decide +kernel
theorem dX0_passBeats_1 : decode cX0_passBeats 1 = .ok (.istore_n 2, 1) := by decide +kernel
theorem dX0_passBeats_2 : decode cX0_passBeats 2 = .ok (.iload_n 2, 1) := by decide +kernel
theorem dX0_passBeats_3 : decode cX0_passBeats 3 = .ok (.iload_n 1, 1) := by decide +kernel
theorem dX0_passBeats_4 : decode cX0_passBeats 4 = .ok (.if_icmp .ge 13, 3) := by decide +kernel
theorem dX0_passBeats_7 : decode cX0_passBeats 7 = .ok (.aload_n 0, 1) := by decide +kernel
theorem dX0_passBeats_8 : decode cX0_passBeats 8 = .ok (.invokevirtual 45, 3) := by decide +kernel
theorem dX0_passBeats_11 : decode cX0_passBeats 11 = .ok (.iinc 2 1, 3) := by decide +kernel
theorem dX0_passBeats_14 : decode cX0_passBeats 14 = .ok (.goto (-12), 3) := by decide +kernel
theorem dX0_passBeats_17 : decode cX0_passBeats 17 = .ok (.return_, 1) := by decide +kernel
theorem dX0_passBeat_0 : decode cX0_passBeat 0 = .ok (.aload_n 0, 1) := by decide +kernel
theorem dX0_passBeat_1 : decode cX0_passBeat 1 = .ok (.getfield 41, 3) := by decide +kernel
theorem dX0_passBeat_4 : decode cX0_passBeat 4 = .ok (.ifCond .eq 20, 3) := by decide +kernel
theorem dX0_passBeat_7 : decode cX0_passBeat 7 = .ok (.aload_n 0, 1) := by decide +kernel
theorem dX0_passBeat_8 : decode cX0_passBeat 8 = .ok (.invokevirtual 48, 3) := by decide +kernel
theorem dX0_passBeat_11 : decode cX0_passBeat 11 = .ok (.ifCond .eq 13, 3) := by decide +kernel
theorem dX0_passBeat_14 : decode cX0_passBeat 14 = .ok (.aload_n 0, 1) := by decide +kernel
theorem dX0_passBeat_15 : decode cX0_passBeat 15 = .ok (.dup, 1) := by decide +kernel
theorem dX0_passBeat_16 : decode cX0_passBeat 16 = .ok (.getfield 38, 3) := by decide +kernel
theorem dX0_passBeat_19 : decode cX0_passBeat 19 = .ok (.iconst 1, 1) := by decide +kernel
theorem dX0_passBeat_20 : decode cX0_passBeat 20 = .ok (.iadd, 1) := by decide +kernel
theorem dX0_passBeat_21 : decode cX0_passBeat 21 = .ok (.putfield 38, 3) := by decide +kernel
theorem dX0_passBeat_24 : decode cX0_passBeat 24 = .ok (.aload_n 0, 1) := by decide +kernel
theorem dX0_passBeat_25 : decode cX0_passBeat 25 = .ok (.aload_n 0, 1) := by decide +kernel
theorem dX0_passBeat_26 : decode cX0_passBeat 26 = .ok (.invokevirtual 52, 3) := by decide +kernel
theorem dX0_passBeat_29 : decode cX0_passBeat 29 = .ok (.ifCond .le 7, 3) := by decide +kernel
theorem dX0_passBeat_32 : decode cX0_passBeat 32 = .ok (.iconst 1, 1) := by decide +kernel
theorem dX0_passBeat_33 : decode cX0_passBeat 33 = .ok (.goto 4, 3) := by decide +kernel
theorem dX0_passBeat_36 : decode cX0_passBeat 36 = .ok (.iconst 0, 1) := by decide +kernel
theorem dX0_passBeat_37 : decode cX0_passBeat 37 = .ok (.putfield 41, 3) := by decide +kernel
theorem dX0_passBeat_40 : decode cX0_passBeat 40 = .ok (.iconst 0, 1) := by decide +kernel
theorem dX0_passBeat_41 : decode cX0_passBeat 41 = .ok (.istore_n 1, 1) := by decide +kernel
theorem dX0_passBeat_42 : decode cX0_passBeat 42 = .ok (.iload_n 1, 1) := by decide +kernel
theorem dX0_passBeat_43 : decode cX0_passBeat 43 = .ok (.aload_n 0, 1) := by decide +kernel
theorem dX0_passBeat_44 : decode cX0_passBeat 44 = .ok (.getfield 31, 3) := by decide +kernel
theorem dX0_passBeat_47 : decode cX0_passBeat 47 = .ok (.if_icmp .ge 61, 3) := by decide +kernel
theorem dX0_passBeat_50 : decode cX0_passBeat 50 = .ok (.aload_n 0, 1) := by decide +kernel
theorem dX0_passBeat_51 : decode cX0_passBeat 51 = .ok (.iload_n 1, 1) := by decide +kernel
theorem dX0_passBeat_52 : decode cX0_passBeat 52 = .ok (.invokevirtual 56, 3) := by decide +kernel
theorem dX0_passBeat_55 : decode cX0_passBeat 55 = .ok (.ifCond .eq 11, 3) := by decide +kernel
theorem dX0_passBeat_58 : decode cX0_passBeat 58 = .ok (.aload_n 0, 1) := by decide +kernel
theorem dX0_passBeat_59 : decode cX0_passBeat 59 = .ok (.iload_n 1, 1) := by decide +kernel
theorem dX0_passBeat_60 : decode cX0_passBeat 60 = .ok (.invokevirtual 60, 3) := by decide +kernel
theorem dX0_passBeat_63 : decode cX0_passBeat 63 = .ok (.goto 39, 3) := by decide +kernel
theorem dX0_passBeat_66 : decode cX0_passBeat 66 = .ok (.aload_n 0, 1) := by decide +kernel
theorem dX0_passBeat_67 : decode cX0_passBeat 67 = .ok (.getfield 24, 3) := by decide +kernel
theorem dX0_passBeat_70 : decode cX0_passBeat 70 = .ok (.iload_n 1, 1) := by decide +kernel
theorem dX0_passBeat_71 : decode cX0_passBeat 71 = .ok (.baload, 1) := by decide +kernel
theorem dX0_passBeat_72 : decode cX0_passBeat 72 = .ok (.ifCond .eq 30, 3) := by decide +kernel
theorem dX0_passBeat_75 : decode cX0_passBeat 75 = .ok (.aload_n 0, 1) := by decide +kernel
theorem dX0_passBeat_76 : decode cX0_passBeat 76 = .ok (.getfield 35, 3) := by decide +kernel
theorem dX0_passBeat_79 : decode cX0_passBeat 79 = .ok (.iconst 3, 1) := by decide +kernel
theorem dX0_passBeat_80 : decode cX0_passBeat 80 = .ok (.irem, 1) := by decide +kernel
theorem dX0_passBeat_81 : decode cX0_passBeat 81 = .ok (.ifCond .ne 21, 3) := by decide +kernel
theorem dX0_passBeat_84 : decode cX0_passBeat 84 = .ok (.aload_n 0, 1) := by decide +kernel
theorem dX0_passBeat_85 : decode cX0_passBeat 85 = .ok (.getfield 21, 3) := by decide +kernel
theorem dX0_passBeat_88 : decode cX0_passBeat 88 = .ok (.iload_n 1, 1) := by decide +kernel
theorem dX0_passBeat_89 : decode cX0_passBeat 89 = .ok (.iconst 0, 1) := by decide +kernel
theorem dX0_passBeat_90 : decode cX0_passBeat 90 = .ok (.aload_n 0, 1) := by decide +kernel
theorem dX0_passBeat_91 : decode cX0_passBeat 91 = .ok (.getfield 21, 3) := by decide +kernel
theorem dX0_passBeat_94 : decode cX0_passBeat 94 = .ok (.iload_n 1, 1) := by decide +kernel
theorem dX0_passBeat_95 : decode cX0_passBeat 95 = .ok (.iaload, 1) := by decide +kernel
theorem dX0_passBeat_96 : decode cX0_passBeat 96 = .ok (.iconst 1, 1) := by decide +kernel
theorem dX0_passBeat_97 : decode cX0_passBeat 97 = .ok (.isub, 1) := by decide +kernel
theorem dX0_passBeat_98 : decode cX0_passBeat 98 = .ok (.invokestatic 64, 3) := by decide +kernel
theorem dX0_passBeat_101 : decode cX0_passBeat 101 = .ok (.iastore, 1) := by decide +kernel
theorem dX0_passBeat_102 : decode cX0_passBeat 102 = .ok (.iinc 1 1, 3) := by decide +kernel
theorem dX0_passBeat_105 : decode cX0_passBeat 105 = .ok (.goto (-63), 3) := by decide +kernel
theorem dX0_passBeat_108 : decode cX0_passBeat 108 = .ok (.aload_n 0, 1) := by decide +kernel
theorem dX0_passBeat_109 : decode cX0_passBeat 109 = .ok (.dup, 1) := by decide +kernel
theorem dX0_passBeat_110 : decode cX0_passBeat 110 = .ok (.getfield 35, 3) := by decide +kernel
theorem dX0_passBeat_113 : decode cX0_passBeat 113 = .ok (.iconst 1, 1) := by decide +kernel
theorem dX0_passBeat_114 : decode cX0_passBeat 114 = .ok (.iadd, 1) := by decide +kernel
theorem dX0_passBeat_115 : decode cX0_passBeat 115 = .ok (.putfield 35, 3) := by decide +kernel
theorem dX0_passBeat_118 : decode cX0_passBeat 118 = .ok (.return_, 1) := by decide +kernel
theorem dX0_wear_0 : decode cX0_wear 0 = .ok (.aload_n 0, 1) := by decide +kernel
theorem dX0_wear_1 : decode cX0_wear 1 = .ok (.getfield 18, 3) := by decide +kernel
theorem dX0_wear_4 : decode cX0_wear 4 = .ok (.iload_n 1, 1) := by decide +kernel
theorem dX0_wear_5 : decode cX0_wear 5 = .ok (.iconst 0, 1) := by decide +kernel
theorem dX0_wear_6 : decode cX0_wear 6 = .ok (.aload_n 0, 1) := by decide +kernel
theorem dX0_wear_7 : decode cX0_wear 7 = .ok (.getfield 18, 3) := by decide +kernel
theorem dX0_wear_10 : decode cX0_wear 10 = .ok (.iload_n 1, 1) := by decide +kernel
theorem dX0_wear_11 : decode cX0_wear 11 = .ok (.iaload, 1) := by decide +kernel
theorem dX0_wear_12 : decode cX0_wear 12 = .ok (.iconst 1, 1) := by decide +kernel
theorem dX0_wear_13 : decode cX0_wear 13 = .ok (.isub, 1) := by decide +kernel
theorem dX0_wear_14 : decode cX0_wear 14 = .ok (.aload_n 0, 1) := by decide +kernel
theorem dX0_wear_15 : decode cX0_wear 15 = .ok (.getfield 21, 3) := by decide +kernel
theorem dX0_wear_18 : decode cX0_wear 18 = .ok (.iload_n 1, 1) := by decide +kernel
theorem dX0_wear_19 : decode cX0_wear 19 = .ok (.iaload, 1) := by decide +kernel
theorem dX0_wear_20 : decode cX0_wear 20 = .ok (.iconst 3, 1) := by decide +kernel
theorem dX0_wear_21 : decode cX0_wear 21 = .ok (.idiv, 1) := by decide +kernel
theorem dX0_wear_22 : decode cX0_wear 22 = .ok (.isub, 1) := by decide +kernel
theorem dX0_wear_23 : decode cX0_wear 23 = .ok (.invokestatic 64, 3) := by decide +kernel
theorem dX0_wear_26 : decode cX0_wear 26 = .ok (.iastore, 1) := by decide +kernel
theorem dX0_wear_27 : decode cX0_wear 27 = .ok (.aload_n 0, 1) := by decide +kernel
theorem dX0_wear_28 : decode cX0_wear 28 = .ok (.getfield 15, 3) := by decide +kernel
theorem dX0_wear_31 : decode cX0_wear 31 = .ok (.iload_n 1, 1) := by decide +kernel
theorem dX0_wear_32 : decode cX0_wear 32 = .ok (.iaload, 1) := by decide +kernel
theorem dX0_wear_33 : decode cX0_wear 33 = .ok (.bipush 24, 2) := by decide +kernel
theorem dX0_wear_35 : decode cX0_wear 35 = .ok (.if_icmp .lt 31, 3) := by decide +kernel
theorem dX0_wear_38 : decode cX0_wear 38 = .ok (.aload_n 0, 1) := by decide +kernel
theorem dX0_wear_39 : decode cX0_wear 39 = .ok (.getfield 35, 3) := by decide +kernel
theorem dX0_wear_42 : decode cX0_wear 42 = .ok (.iconst 4, 1) := by decide +kernel
theorem dX0_wear_43 : decode cX0_wear 43 = .ok (.irem, 1) := by decide +kernel
theorem dX0_wear_44 : decode cX0_wear 44 = .ok (.ifCond .ne 22, 3) := by decide +kernel
theorem dX0_wear_47 : decode cX0_wear 47 = .ok (.aload_n 0, 1) := by decide +kernel
theorem dX0_wear_48 : decode cX0_wear 48 = .ok (.getfield 21, 3) := by decide +kernel
theorem dX0_wear_51 : decode cX0_wear 51 = .ok (.iload_n 1, 1) := by decide +kernel
theorem dX0_wear_52 : decode cX0_wear 52 = .ok (.bipush 9, 2) := by decide +kernel
theorem dX0_wear_54 : decode cX0_wear 54 = .ok (.aload_n 0, 1) := by decide +kernel
theorem dX0_wear_55 : decode cX0_wear 55 = .ok (.getfield 21, 3) := by decide +kernel
theorem dX0_wear_58 : decode cX0_wear 58 = .ok (.iload_n 1, 1) := by decide +kernel
theorem dX0_wear_59 : decode cX0_wear 59 = .ok (.iaload, 1) := by decide +kernel
theorem dX0_wear_60 : decode cX0_wear 60 = .ok (.iconst 1, 1) := by decide +kernel
theorem dX0_wear_61 : decode cX0_wear 61 = .ok (.iadd, 1) := by decide +kernel
theorem dX0_wear_62 : decode cX0_wear 62 = .ok (.invokestatic 70, 3) := by decide +kernel
theorem dX0_wear_65 : decode cX0_wear 65 = .ok (.iastore, 1) := by decide +kernel
theorem dX0_wear_66 : decode cX0_wear 66 = .ok (.aload_n 0, 1) := by decide +kernel
theorem dX0_wear_67 : decode cX0_wear 67 = .ok (.getfield 21, 3) := by decide +kernel
theorem dX0_wear_70 : decode cX0_wear 70 = .ok (.iload_n 1, 1) := by decide +kernel
theorem dX0_wear_71 : decode cX0_wear 71 = .ok (.iaload, 1) := by decide +kernel
theorem dX0_wear_72 : decode cX0_wear 72 = .ok (.iconst 5, 1) := by decide +kernel
theorem dX0_wear_73 : decode cX0_wear 73 = .ok (.if_icmp .lt 21, 3) := by decide +kernel
theorem dX0_wear_76 : decode cX0_wear 76 = .ok (.aload_n 0, 1) := by decide +kernel
theorem dX0_wear_77 : decode cX0_wear 77 = .ok (.getfield 15, 3) := by decide +kernel
theorem dX0_wear_80 : decode cX0_wear 80 = .ok (.iload_n 1, 1) := by decide +kernel
theorem dX0_wear_81 : decode cX0_wear 81 = .ok (.iconst 0, 1) := by decide +kernel
theorem dX0_wear_82 : decode cX0_wear 82 = .ok (.aload_n 0, 1) := by decide +kernel
theorem dX0_wear_83 : decode cX0_wear 83 = .ok (.getfield 15, 3) := by decide +kernel
theorem dX0_wear_86 : decode cX0_wear 86 = .ok (.iload_n 1, 1) := by decide +kernel
theorem dX0_wear_87 : decode cX0_wear 87 = .ok (.iaload, 1) := by decide +kernel
theorem dX0_wear_88 : decode cX0_wear 88 = .ok (.iconst 1, 1) := by decide +kernel
theorem dX0_wear_89 : decode cX0_wear 89 = .ok (.isub, 1) := by decide +kernel
theorem dX0_wear_90 : decode cX0_wear 90 = .ok (.invokestatic 64, 3) := by decide +kernel
theorem dX0_wear_93 : decode cX0_wear 93 = .ok (.iastore, 1) := by decide +kernel
theorem dX0_wear_94 : decode cX0_wear 94 = .ok (.return_, 1) := by decide +kernel
theorem dX0_isSounding_0 : decode cX0_isSounding 0 = .ok (.aload_n 0, 1) := by decide +kernel
theorem dX0_isSounding_1 : decode cX0_isSounding 1 = .ok (.getfield 18, 3) := by decide +kernel
theorem dX0_isSounding_4 : decode cX0_isSounding 4 = .ok (.iload_n 1, 1) := by decide +kernel
theorem dX0_isSounding_5 : decode cX0_isSounding 5 = .ok (.iaload, 1) := by decide +kernel
theorem dX0_isSounding_6 : decode cX0_isSounding 6 = .ok (.ifCond .le 16, 3) := by decide +kernel
theorem dX0_isSounding_9 : decode cX0_isSounding 9 = .ok (.aload_n 0, 1) := by decide +kernel
theorem dX0_isSounding_10 : decode cX0_isSounding 10 = .ok (.getfield 24, 3) := by decide +kernel
theorem dX0_isSounding_13 : decode cX0_isSounding 13 = .ok (.iload_n 1, 1) := by decide +kernel
theorem dX0_isSounding_14 : decode cX0_isSounding 14 = .ok (.baload, 1) := by decide +kernel
theorem dX0_isSounding_15 : decode cX0_isSounding 15 = .ok (.ifCond .ne 7, 3) := by decide +kernel
theorem dX0_isSounding_18 : decode cX0_isSounding 18 = .ok (.iconst 1, 1) := by decide +kernel
theorem dX0_isSounding_19 : decode cX0_isSounding 19 = .ok (.goto 4, 3) := by decide +kernel
theorem dX0_isSounding_22 : decode cX0_isSounding 22 = .ok (.iconst 0, 1) := by decide +kernel
theorem dX0_isSounding_23 : decode cX0_isSounding 23 = .ok (.ireturn, 1) := by decide +kernel
theorem dX0_countSounding_0 : decode cX0_countSounding 0 = .ok (.iconst 0, 1) := by decide +kernel
theorem dX0_countSounding_1 : decode cX0_countSounding 1 = .ok (.istore_n 1, 1) := by decide +kernel
theorem dX0_countSounding_2 : decode cX0_countSounding 2 = .ok (.iconst 0, 1) := by decide +kernel
theorem dX0_countSounding_3 : decode cX0_countSounding 3 = .ok (.istore_n 2, 1) := by decide +kernel
theorem dX0_countSounding_4 : decode cX0_countSounding 4 = .ok (.iload_n 2, 1) := by decide +kernel
theorem dX0_countSounding_5 : decode cX0_countSounding 5 = .ok (.aload_n 0, 1) := by decide +kernel
theorem dX0_countSounding_6 : decode cX0_countSounding 6 = .ok (.getfield 31, 3) := by decide +kernel
theorem dX0_countSounding_9 : decode cX0_countSounding 9 = .ok (.if_icmp .ge 20, 3) := by decide +kernel
theorem dX0_countSounding_12 : decode cX0_countSounding 12 = .ok (.aload_n 0, 1) := by decide +kernel
theorem dX0_countSounding_13 : decode cX0_countSounding 13 = .ok (.iload_n 2, 1) := by decide +kernel
theorem dX0_countSounding_14 : decode cX0_countSounding 14 = .ok (.invokevirtual 56, 3) := by decide +kernel
theorem dX0_countSounding_17 : decode cX0_countSounding 17 = .ok (.ifCond .eq 6, 3) := by decide +kernel
theorem dX0_countSounding_20 : decode cX0_countSounding 20 = .ok (.iinc 1 1, 3) := by decide +kernel
theorem dX0_countSounding_23 : decode cX0_countSounding 23 = .ok (.iinc 2 1, 3) := by decide +kernel
theorem dX0_countSounding_26 : decode cX0_countSounding 26 = .ok (.goto (-22), 3) := by decide +kernel
theorem dX0_countSounding_29 : decode cX0_countSounding 29 = .ok (.iload_n 1, 1) := by decide +kernel
theorem dX0_countSounding_30 : decode cX0_countSounding 30 = .ok (.ireturn, 1) := by decide +kernel
theorem dX0_countSoundingIn_0 : decode cX0_countSoundingIn 0 = .ok (.iconst 0, 1) := by decide +kernel
theorem dX0_countSoundingIn_1 : decode cX0_countSoundingIn 1 = .ok (.istore_n 2, 1) := by decide +kernel
theorem dX0_countSoundingIn_2 : decode cX0_countSoundingIn 2 = .ok (.iconst 0, 1) := by decide +kernel
theorem dX0_countSoundingIn_3 : decode cX0_countSoundingIn 3 = .ok (.istore_n 3, 1) := by decide +kernel
theorem dX0_countSoundingIn_4 : decode cX0_countSoundingIn 4 = .ok (.iload_n 3, 1) := by decide +kernel
theorem dX0_countSoundingIn_5 : decode cX0_countSoundingIn 5 = .ok (.aload_n 0, 1) := by decide +kernel
theorem dX0_countSoundingIn_6 : decode cX0_countSoundingIn 6 = .ok (.getfield 31, 3) := by decide +kernel
theorem dX0_countSoundingIn_9 : decode cX0_countSoundingIn 9 = .ok (.if_icmp .ge 30, 3) := by decide +kernel
theorem dX0_countSoundingIn_12 : decode cX0_countSoundingIn 12 = .ok (.aload_n 0, 1) := by decide +kernel
theorem dX0_countSoundingIn_13 : decode cX0_countSoundingIn 13 = .ok (.getfield 9, 3) := by decide +kernel
theorem dX0_countSoundingIn_16 : decode cX0_countSoundingIn 16 = .ok (.iload_n 3, 1) := by decide +kernel
theorem dX0_countSoundingIn_17 : decode cX0_countSoundingIn 17 = .ok (.iaload, 1) := by decide +kernel
theorem dX0_countSoundingIn_18 : decode cX0_countSoundingIn 18 = .ok (.iload_n 1, 1) := by decide +kernel
theorem dX0_countSoundingIn_19 : decode cX0_countSoundingIn 19 = .ok (.if_icmp .ne 14, 3) := by decide +kernel
theorem dX0_countSoundingIn_22 : decode cX0_countSoundingIn 22 = .ok (.aload_n 0, 1) := by decide +kernel
theorem dX0_countSoundingIn_23 : decode cX0_countSoundingIn 23 = .ok (.iload_n 3, 1) := by decide +kernel
theorem dX0_countSoundingIn_24 : decode cX0_countSoundingIn 24 = .ok (.invokevirtual 56, 3) := by decide +kernel
theorem dX0_countSoundingIn_27 : decode cX0_countSoundingIn 27 = .ok (.ifCond .eq 6, 3) := by decide +kernel
theorem dX0_countSoundingIn_30 : decode cX0_countSoundingIn 30 = .ok (.iinc 2 1, 3) := by decide +kernel
theorem dX0_countSoundingIn_33 : decode cX0_countSoundingIn 33 = .ok (.iinc 3 1, 3) := by decide +kernel
theorem dX0_countSoundingIn_36 : decode cX0_countSoundingIn 36 = .ok (.goto (-32), 3) := by decide +kernel
theorem dX0_countSoundingIn_39 : decode cX0_countSoundingIn 39 = .ok (.iload_n 2, 1) := by decide +kernel
theorem dX0_countSoundingIn_40 : decode cX0_countSoundingIn 40 = .ok (.ireturn, 1) := by decide +kernel
theorem dX0_countClashesAt_0 : decode cX0_countClashesAt 0 = .ok (.iconst 0, 1) := by decide +kernel
theorem dX0_countClashesAt_1 : decode cX0_countClashesAt 1 = .ok (.istore_n 3, 1) := by decide +kernel
theorem dX0_countClashesAt_2 : decode cX0_countClashesAt 2 = .ok (.iconst 0, 1) := by decide +kernel
theorem dX0_countClashesAt_3 : decode cX0_countClashesAt 3 = .ok (.istore 4, 2) := by decide +kernel
theorem dX0_countClashesAt_5 : decode cX0_countClashesAt 5 = .ok (.iload 4, 2) := by decide +kernel
theorem dX0_countClashesAt_7 : decode cX0_countClashesAt 7 = .ok (.aload_n 0, 1) := by decide +kernel
theorem dX0_countClashesAt_8 : decode cX0_countClashesAt 8 = .ok (.getfield 31, 3) := by decide +kernel
theorem dX0_countClashesAt_11 : decode cX0_countClashesAt 11 = .ok (.if_icmp .ge 41, 3) := by decide +kernel
theorem dX0_countClashesAt_14 : decode cX0_countClashesAt 14 = .ok (.iload 4, 2) := by decide +kernel
theorem dX0_countClashesAt_16 : decode cX0_countClashesAt 16 = .ok (.iload_n 1, 1) := by decide +kernel
theorem dX0_countClashesAt_17 : decode cX0_countClashesAt 17 = .ok (.if_icmp .eq 29, 3) := by decide +kernel
theorem dX0_countClashesAt_20 : decode cX0_countClashesAt 20 = .ok (.aload_n 0, 1) := by decide +kernel
theorem dX0_countClashesAt_21 : decode cX0_countClashesAt 21 = .ok (.iload 4, 2) := by decide +kernel
theorem dX0_countClashesAt_23 : decode cX0_countClashesAt 23 = .ok (.invokevirtual 56, 3) := by decide +kernel
theorem dX0_countClashesAt_26 : decode cX0_countClashesAt 26 = .ok (.ifCond .eq 20, 3) := by decide +kernel
theorem dX0_countClashesAt_29 : decode cX0_countClashesAt 29 = .ok (.iload_n 2, 1) := by decide +kernel
theorem dX0_countClashesAt_30 : decode cX0_countClashesAt 30 = .ok (.aload_n 0, 1) := by decide +kernel
theorem dX0_countClashesAt_31 : decode cX0_countClashesAt 31 = .ok (.getfield 15, 3) := by decide +kernel
theorem dX0_countClashesAt_34 : decode cX0_countClashesAt 34 = .ok (.iload 4, 2) := by decide +kernel
theorem dX0_countClashesAt_36 : decode cX0_countClashesAt 36 = .ok (.iaload, 1) := by decide +kernel
theorem dX0_countClashesAt_37 : decode cX0_countClashesAt 37 = .ok (.invokestatic 73, 3) := by decide +kernel
theorem dX0_countClashesAt_40 : decode cX0_countClashesAt 40 = .ok (.ifCond .ne 6, 3) := by decide +kernel
theorem dX0_countClashesAt_43 : decode cX0_countClashesAt 43 = .ok (.iinc 3 1, 3) := by decide +kernel
theorem dX0_countClashesAt_46 : decode cX0_countClashesAt 46 = .ok (.iinc 4 1, 3) := by decide +kernel
theorem dX0_countClashesAt_49 : decode cX0_countClashesAt 49 = .ok (.goto (-44), 3) := by decide +kernel
theorem dX0_countClashesAt_52 : decode cX0_countClashesAt 52 = .ok (.iload_n 3, 1) := by decide +kernel
theorem dX0_countClashesAt_53 : decode cX0_countClashesAt 53 = .ok (.ireturn, 1) := by decide +kernel
theorem dX0_countClashes_0 : decode cX0_countClashes 0 = .ok (.iconst 0, 1) := by decide +kernel
theorem dX0_countClashes_1 : decode cX0_countClashes 1 = .ok (.istore_n 1, 1) := by decide +kernel
theorem dX0_countClashes_2 : decode cX0_countClashes 2 = .ok (.iconst 0, 1) := by decide +kernel
theorem dX0_countClashes_3 : decode cX0_countClashes 3 = .ok (.istore_n 2, 1) := by decide +kernel
theorem dX0_countClashes_4 : decode cX0_countClashes 4 = .ok (.iload_n 2, 1) := by decide +kernel
theorem dX0_countClashes_5 : decode cX0_countClashes 5 = .ok (.aload_n 0, 1) := by decide +kernel
theorem dX0_countClashes_6 : decode cX0_countClashes 6 = .ok (.getfield 31, 3) := by decide +kernel
theorem dX0_countClashes_9 : decode cX0_countClashes 9 = .ok (.if_icmp .ge 31, 3) := by decide +kernel
theorem dX0_countClashes_12 : decode cX0_countClashes 12 = .ok (.aload_n 0, 1) := by decide +kernel
theorem dX0_countClashes_13 : decode cX0_countClashes 13 = .ok (.iload_n 2, 1) := by decide +kernel
theorem dX0_countClashes_14 : decode cX0_countClashes 14 = .ok (.invokevirtual 56, 3) := by decide +kernel
theorem dX0_countClashes_17 : decode cX0_countClashes 17 = .ok (.ifCond .eq 17, 3) := by decide +kernel
theorem dX0_countClashes_20 : decode cX0_countClashes 20 = .ok (.iload_n 1, 1) := by decide +kernel
theorem dX0_countClashes_21 : decode cX0_countClashes 21 = .ok (.aload_n 0, 1) := by decide +kernel
theorem dX0_countClashes_22 : decode cX0_countClashes 22 = .ok (.iload_n 2, 1) := by decide +kernel
theorem dX0_countClashes_23 : decode cX0_countClashes 23 = .ok (.aload_n 0, 1) := by decide +kernel
theorem dX0_countClashes_24 : decode cX0_countClashes 24 = .ok (.getfield 15, 3) := by decide +kernel
theorem dX0_countClashes_27 : decode cX0_countClashes 27 = .ok (.iload_n 2, 1) := by decide +kernel
theorem dX0_countClashes_28 : decode cX0_countClashes 28 = .ok (.iaload, 1) := by decide +kernel
theorem dX0_countClashes_29 : decode cX0_countClashes 29 = .ok (.invokevirtual 77, 3) := by decide +kernel
theorem dX0_countClashes_32 : decode cX0_countClashes 32 = .ok (.iadd, 1) := by decide +kernel
theorem dX0_countClashes_33 : decode cX0_countClashes 33 = .ok (.istore_n 1, 1) := by decide +kernel
theorem dX0_countClashes_34 : decode cX0_countClashes 34 = .ok (.iinc 2 1, 3) := by decide +kernel
theorem dX0_countClashes_37 : decode cX0_countClashes 37 = .ok (.goto (-33), 3) := by decide +kernel
theorem dX0_countClashes_40 : decode cX0_countClashes 40 = .ok (.iload_n 1, 1) := by decide +kernel
theorem dX0_countClashes_41 : decode cX0_countClashes 41 = .ok (.iconst 2, 1) := by decide +kernel
theorem dX0_countClashes_42 : decode cX0_countClashes 42 = .ok (.idiv, 1) := by decide +kernel
theorem dX0_countClashes_43 : decode cX0_countClashes 43 = .ok (.ireturn, 1) := by decide +kernel
theorem dX0_harmonyNow_0 : decode cX0_harmonyNow 0 = .ok (.aload_n 0, 1) := by decide +kernel
theorem dX0_harmonyNow_1 : decode cX0_harmonyNow 1 = .ok (.invokevirtual 80, 3) := by decide +kernel
theorem dX0_harmonyNow_4 : decode cX0_harmonyNow 4 = .ok (.istore_n 1, 1) := by decide +kernel
theorem dX0_harmonyNow_5 : decode cX0_harmonyNow 5 = .ok (.iload_n 1, 1) := by decide +kernel
theorem dX0_harmonyNow_6 : decode cX0_harmonyNow 6 = .ok (.iload_n 1, 1) := by decide +kernel
theorem dX0_harmonyNow_7 : decode cX0_harmonyNow 7 = .ok (.iconst 1, 1) := by decide +kernel
theorem dX0_harmonyNow_8 : decode cX0_harmonyNow 8 = .ok (.isub, 1) := by decide +kernel
theorem dX0_harmonyNow_9 : decode cX0_harmonyNow 9 = .ok (.imul, 1) := by decide +kernel
theorem dX0_harmonyNow_10 : decode cX0_harmonyNow 10 = .ok (.iconst 2, 1) := by decide +kernel
theorem dX0_harmonyNow_11 : decode cX0_harmonyNow 11 = .ok (.idiv, 1) := by decide +kernel
theorem dX0_harmonyNow_12 : decode cX0_harmonyNow 12 = .ok (.istore_n 2, 1) := by decide +kernel
theorem dX0_harmonyNow_13 : decode cX0_harmonyNow 13 = .ok (.iload_n 2, 1) := by decide +kernel
theorem dX0_harmonyNow_14 : decode cX0_harmonyNow 14 = .ok (.iconst 2, 1) := by decide +kernel
theorem dX0_harmonyNow_15 : decode cX0_harmonyNow 15 = .ok (.aload_n 0, 1) := by decide +kernel
theorem dX0_harmonyNow_16 : decode cX0_harmonyNow 16 = .ok (.invokevirtual 52, 3) := by decide +kernel
theorem dX0_harmonyNow_19 : decode cX0_harmonyNow 19 = .ok (.imul, 1) := by decide +kernel
theorem dX0_harmonyNow_20 : decode cX0_harmonyNow 20 = .ok (.isub, 1) := by decide +kernel
theorem dX0_harmonyNow_21 : decode cX0_harmonyNow 21 = .ok (.ireturn, 1) := by decide +kernel
theorem dX0_isChordClear_0 : decode cX0_isChordClear 0 = .ok (.aload_n 0, 1) := by decide +kernel
theorem dX0_isChordClear_1 : decode cX0_isChordClear 1 = .ok (.invokevirtual 80, 3) := by decide +kernel
theorem dX0_isChordClear_4 : decode cX0_isChordClear 4 = .ok (.iconst 3, 1) := by decide +kernel
theorem dX0_isChordClear_5 : decode cX0_isChordClear 5 = .ok (.if_icmp .lt 14, 3) := by decide +kernel
theorem dX0_isChordClear_8 : decode cX0_isChordClear 8 = .ok (.aload_n 0, 1) := by decide +kernel
theorem dX0_isChordClear_9 : decode cX0_isChordClear 9 = .ok (.invokevirtual 52, 3) := by decide +kernel
theorem dX0_isChordClear_12 : decode cX0_isChordClear 12 = .ok (.ifCond .ne 7, 3) := by decide +kernel
theorem dX0_isChordClear_15 : decode cX0_isChordClear 15 = .ok (.iconst 1, 1) := by decide +kernel
theorem dX0_isChordClear_16 : decode cX0_isChordClear 16 = .ok (.goto 4, 3) := by decide +kernel
theorem dX0_isChordClear_19 : decode cX0_isChordClear 19 = .ok (.iconst 0, 1) := by decide +kernel
theorem dX0_isChordClear_20 : decode cX0_isChordClear 20 = .ok (.ireturn, 1) := by decide +kernel
theorem dX0_findMostClashing_0 : decode cX0_findMostClashing 0 = .ok (.iconst (-1), 1) := by decide +kernel
theorem dX0_findMostClashing_1 : decode cX0_findMostClashing 1 = .ok (.istore_n 1, 1) := by decide +kernel
theorem dX0_findMostClashing_2 : decode cX0_findMostClashing 2 = .ok (.iconst (-1), 1) := by decide +kernel
theorem dX0_findMostClashing_3 : decode cX0_findMostClashing 3 = .ok (.istore_n 2, 1) := by decide +kernel
theorem dX0_findMostClashing_4 : decode cX0_findMostClashing 4 = .ok (.iconst 0, 1) := by decide +kernel
theorem dX0_findMostClashing_5 : decode cX0_findMostClashing 5 = .ok (.istore_n 3, 1) := by decide +kernel
theorem dX0_findMostClashing_6 : decode cX0_findMostClashing 6 = .ok (.iload_n 3, 1) := by decide +kernel
theorem dX0_findMostClashing_7 : decode cX0_findMostClashing 7 = .ok (.aload_n 0, 1) := by decide +kernel
theorem dX0_findMostClashing_8 : decode cX0_findMostClashing 8 = .ok (.getfield 31, 3) := by decide +kernel
theorem dX0_findMostClashing_11 : decode cX0_findMostClashing 11 = .ok (.if_icmp .ge 45, 3) := by decide +kernel
theorem dX0_findMostClashing_14 : decode cX0_findMostClashing 14 = .ok (.aload_n 0, 1) := by decide +kernel
theorem dX0_findMostClashing_15 : decode cX0_findMostClashing 15 = .ok (.iload_n 3, 1) := by decide +kernel
theorem dX0_findMostClashing_16 : decode cX0_findMostClashing 16 = .ok (.invokevirtual 56, 3) := by decide +kernel
theorem dX0_findMostClashing_19 : decode cX0_findMostClashing 19 = .ok (.ifCond .eq 17, 3) := by decide +kernel
theorem dX0_findMostClashing_22 : decode cX0_findMostClashing 22 = .ok (.aload_n 0, 1) := by decide +kernel
theorem dX0_findMostClashing_23 : decode cX0_findMostClashing 23 = .ok (.iload_n 3, 1) := by decide +kernel
theorem dX0_findMostClashing_24 : decode cX0_findMostClashing 24 = .ok (.aload_n 0, 1) := by decide +kernel
theorem dX0_findMostClashing_25 : decode cX0_findMostClashing 25 = .ok (.getfield 15, 3) := by decide +kernel
theorem dX0_findMostClashing_28 : decode cX0_findMostClashing 28 = .ok (.iload_n 3, 1) := by decide +kernel
theorem dX0_findMostClashing_29 : decode cX0_findMostClashing 29 = .ok (.iaload, 1) := by decide +kernel
theorem dX0_findMostClashing_30 : decode cX0_findMostClashing 30 = .ok (.invokevirtual 77, 3) := by decide +kernel
theorem dX0_findMostClashing_33 : decode cX0_findMostClashing 33 = .ok (.goto 4, 3) := by decide +kernel
theorem dX0_findMostClashing_36 : decode cX0_findMostClashing 36 = .ok (.iconst (-1), 1) := by decide +kernel
theorem dX0_findMostClashing_37 : decode cX0_findMostClashing 37 = .ok (.istore 4, 2) := by decide +kernel
theorem dX0_findMostClashing_39 : decode cX0_findMostClashing 39 = .ok (.iload 4, 2) := by decide +kernel
theorem dX0_findMostClashing_41 : decode cX0_findMostClashing 41 = .ok (.iload_n 2, 1) := by decide +kernel
theorem dX0_findMostClashing_42 : decode cX0_findMostClashing 42 = .ok (.if_icmp .le 8, 3) := by decide +kernel
theorem dX0_findMostClashing_45 : decode cX0_findMostClashing 45 = .ok (.iload 4, 2) := by decide +kernel
theorem dX0_findMostClashing_47 : decode cX0_findMostClashing 47 = .ok (.istore_n 2, 1) := by decide +kernel
theorem dX0_findMostClashing_48 : decode cX0_findMostClashing 48 = .ok (.iload_n 3, 1) := by decide +kernel
theorem dX0_findMostClashing_49 : decode cX0_findMostClashing 49 = .ok (.istore_n 1, 1) := by decide +kernel
theorem dX0_findMostClashing_50 : decode cX0_findMostClashing 50 = .ok (.iinc 3 1, 3) := by decide +kernel
theorem dX0_findMostClashing_53 : decode cX0_findMostClashing 53 = .ok (.goto (-47), 3) := by decide +kernel
theorem dX0_findMostClashing_56 : decode cX0_findMostClashing 56 = .ok (.iload_n 1, 1) := by decide +kernel
theorem dX0_findMostClashing_57 : decode cX0_findMostClashing 57 = .ok (.ireturn, 1) := by decide +kernel
theorem dX0_findLowest_0 : decode cX0_findLowest 0 = .ok (.iconst (-1), 1) := by decide +kernel
theorem dX0_findLowest_1 : decode cX0_findLowest 1 = .ok (.istore_n 1, 1) := by decide +kernel
theorem dX0_findLowest_2 : decode cX0_findLowest 2 = .ok (.bipush 36, 2) := by decide +kernel
theorem dX0_findLowest_4 : decode cX0_findLowest 4 = .ok (.istore_n 2, 1) := by decide +kernel
theorem dX0_findLowest_5 : decode cX0_findLowest 5 = .ok (.iconst 0, 1) := by decide +kernel
theorem dX0_findLowest_6 : decode cX0_findLowest 6 = .ok (.istore_n 3, 1) := by decide +kernel
theorem dX0_findLowest_7 : decode cX0_findLowest 7 = .ok (.iload_n 3, 1) := by decide +kernel
theorem dX0_findLowest_8 : decode cX0_findLowest 8 = .ok (.aload_n 0, 1) := by decide +kernel
theorem dX0_findLowest_9 : decode cX0_findLowest 9 = .ok (.getfield 31, 3) := by decide +kernel
theorem dX0_findLowest_12 : decode cX0_findLowest 12 = .ok (.if_icmp .ge 36, 3) := by decide +kernel
theorem dX0_findLowest_15 : decode cX0_findLowest 15 = .ok (.aload_n 0, 1) := by decide +kernel
theorem dX0_findLowest_16 : decode cX0_findLowest 16 = .ok (.iload_n 3, 1) := by decide +kernel
theorem dX0_findLowest_17 : decode cX0_findLowest 17 = .ok (.invokevirtual 56, 3) := by decide +kernel
theorem dX0_findLowest_20 : decode cX0_findLowest 20 = .ok (.ifCond .eq 22, 3) := by decide +kernel
theorem dX0_findLowest_23 : decode cX0_findLowest 23 = .ok (.aload_n 0, 1) := by decide +kernel
theorem dX0_findLowest_24 : decode cX0_findLowest 24 = .ok (.getfield 15, 3) := by decide +kernel
theorem dX0_findLowest_27 : decode cX0_findLowest 27 = .ok (.iload_n 3, 1) := by decide +kernel
theorem dX0_findLowest_28 : decode cX0_findLowest 28 = .ok (.iaload, 1) := by decide +kernel
theorem dX0_findLowest_29 : decode cX0_findLowest 29 = .ok (.iload_n 2, 1) := by decide +kernel
theorem dX0_findLowest_30 : decode cX0_findLowest 30 = .ok (.if_icmp .ge 12, 3) := by decide +kernel
theorem dX0_findLowest_33 : decode cX0_findLowest 33 = .ok (.aload_n 0, 1) := by decide +kernel
theorem dX0_findLowest_34 : decode cX0_findLowest 34 = .ok (.getfield 15, 3) := by decide +kernel
theorem dX0_findLowest_37 : decode cX0_findLowest 37 = .ok (.iload_n 3, 1) := by decide +kernel
theorem dX0_findLowest_38 : decode cX0_findLowest 38 = .ok (.iaload, 1) := by decide +kernel
theorem dX0_findLowest_39 : decode cX0_findLowest 39 = .ok (.istore_n 2, 1) := by decide +kernel
theorem dX0_findLowest_40 : decode cX0_findLowest 40 = .ok (.iload_n 3, 1) := by decide +kernel
theorem dX0_findLowest_41 : decode cX0_findLowest 41 = .ok (.istore_n 1, 1) := by decide +kernel
theorem dX0_findLowest_42 : decode cX0_findLowest 42 = .ok (.iinc 3 1, 3) := by decide +kernel
theorem dX0_findLowest_45 : decode cX0_findLowest 45 = .ok (.goto (-38), 3) := by decide +kernel
theorem dX0_findLowest_48 : decode cX0_findLowest 48 = .ok (.iload_n 1, 1) := by decide +kernel
theorem dX0_findLowest_49 : decode cX0_findLowest 49 = .ok (.ireturn, 1) := by decide +kernel
theorem dX0_findBestTuning_0 : decode cX0_findBestTuning 0 = .ok (.iconst 0, 1) := by decide +kernel
theorem dX0_findBestTuning_1 : decode cX0_findBestTuning 1 = .ok (.istore_n 2, 1) := by decide +kernel
theorem dX0_findBestTuning_2 : decode cX0_findBestTuning 2 = .ok (.aload_n 0, 1) := by decide +kernel
theorem dX0_findBestTuning_3 : decode cX0_findBestTuning 3 = .ok (.iload_n 1, 1) := by decide +kernel
theorem dX0_findBestTuning_4 : decode cX0_findBestTuning 4 = .ok (.aload_n 0, 1) := by decide +kernel
theorem dX0_findBestTuning_5 : decode cX0_findBestTuning 5 = .ok (.getfield 15, 3) := by decide +kernel
theorem dX0_findBestTuning_8 : decode cX0_findBestTuning 8 = .ok (.iload_n 1, 1) := by decide +kernel
theorem dX0_findBestTuning_9 : decode cX0_findBestTuning 9 = .ok (.iaload, 1) := by decide +kernel
theorem dX0_findBestTuning_10 : decode cX0_findBestTuning 10 = .ok (.invokevirtual 77, 3) := by decide +kernel
theorem dX0_findBestTuning_13 : decode cX0_findBestTuning 13 = .ok (.istore_n 3, 1) := by decide +kernel
theorem dX0_findBestTuning_14 : decode cX0_findBestTuning 14 = .ok (.bipush (-12), 2) := by decide +kernel
theorem dX0_findBestTuning_16 : decode cX0_findBestTuning 16 = .ok (.istore 4, 2) := by decide +kernel
theorem dX0_findBestTuning_18 : decode cX0_findBestTuning 18 = .ok (.iload 4, 2) := by decide +kernel
theorem dX0_findBestTuning_20 : decode cX0_findBestTuning 20 = .ok (.bipush 12, 2) := by decide +kernel
theorem dX0_findBestTuning_22 : decode cX0_findBestTuning 22 = .ok (.if_icmp .gt 86, 3) := by decide +kernel
theorem dX0_findBestTuning_25 : decode cX0_findBestTuning 25 = .ok (.aload_n 0, 1) := by decide +kernel
theorem dX0_findBestTuning_26 : decode cX0_findBestTuning 26 = .ok (.getfield 15, 3) := by decide +kernel
theorem dX0_findBestTuning_29 : decode cX0_findBestTuning 29 = .ok (.iload_n 1, 1) := by decide +kernel
theorem dX0_findBestTuning_30 : decode cX0_findBestTuning 30 = .ok (.iaload, 1) := by decide +kernel
theorem dX0_findBestTuning_31 : decode cX0_findBestTuning 31 = .ok (.iload 4, 2) := by decide +kernel
theorem dX0_findBestTuning_33 : decode cX0_findBestTuning 33 = .ok (.iadd, 1) := by decide +kernel
theorem dX0_findBestTuning_34 : decode cX0_findBestTuning 34 = .ok (.istore 5, 2) := by decide +kernel
theorem dX0_findBestTuning_36 : decode cX0_findBestTuning 36 = .ok (.iload 5, 2) := by decide +kernel
theorem dX0_findBestTuning_38 : decode cX0_findBestTuning 38 = .ok (.ifCond .lt 64, 3) := by decide +kernel
theorem dX0_findBestTuning_41 : decode cX0_findBestTuning 41 = .ok (.iload 5, 2) := by decide +kernel
theorem dX0_findBestTuning_43 : decode cX0_findBestTuning 43 = .ok (.bipush 35, 2) := by decide +kernel
theorem dX0_findBestTuning_45 : decode cX0_findBestTuning 45 = .ok (.if_icmp .le 6, 3) := by decide +kernel
theorem dX0_findBestTuning_48 : decode cX0_findBestTuning 48 = .ok (.goto 54, 3) := by decide +kernel
theorem dX0_findBestTuning_51 : decode cX0_findBestTuning 51 = .ok (.aload_n 0, 1) := by decide +kernel
theorem dX0_findBestTuning_52 : decode cX0_findBestTuning 52 = .ok (.iload_n 1, 1) := by decide +kernel
theorem dX0_findBestTuning_53 : decode cX0_findBestTuning 53 = .ok (.iload 5, 2) := by decide +kernel
theorem dX0_findBestTuning_55 : decode cX0_findBestTuning 55 = .ok (.invokevirtual 77, 3) := by decide +kernel
theorem dX0_findBestTuning_58 : decode cX0_findBestTuning 58 = .ok (.istore 6, 2) := by decide +kernel
theorem dX0_findBestTuning_60 : decode cX0_findBestTuning 60 = .ok (.iload 4, 2) := by decide +kernel
theorem dX0_findBestTuning_62 : decode cX0_findBestTuning 62 = .ok (.invokestatic 83, 3) := by decide +kernel
theorem dX0_findBestTuning_65 : decode cX0_findBestTuning 65 = .ok (.iload_n 2, 1) := by decide +kernel
theorem dX0_findBestTuning_66 : decode cX0_findBestTuning 66 = .ok (.invokestatic 83, 3) := by decide +kernel
theorem dX0_findBestTuning_69 : decode cX0_findBestTuning 69 = .ok (.if_icmp .gt 7, 3) := by decide +kernel
theorem dX0_findBestTuning_72 : decode cX0_findBestTuning 72 = .ok (.iconst 1, 1) := by decide +kernel
theorem dX0_findBestTuning_73 : decode cX0_findBestTuning 73 = .ok (.goto 4, 3) := by decide +kernel
theorem dX0_findBestTuning_76 : decode cX0_findBestTuning 76 = .ok (.iconst 0, 1) := by decide +kernel
theorem dX0_findBestTuning_77 : decode cX0_findBestTuning 77 = .ok (.istore 7, 2) := by decide +kernel
theorem dX0_findBestTuning_79 : decode cX0_findBestTuning 79 = .ok (.iload 6, 2) := by decide +kernel
theorem dX0_findBestTuning_81 : decode cX0_findBestTuning 81 = .ok (.iload_n 3, 1) := by decide +kernel
theorem dX0_findBestTuning_82 : decode cX0_findBestTuning 82 = .ok (.if_icmp .lt 14, 3) := by decide +kernel
theorem dX0_findBestTuning_85 : decode cX0_findBestTuning 85 = .ok (.iload 6, 2) := by decide +kernel
theorem dX0_findBestTuning_87 : decode cX0_findBestTuning 87 = .ok (.iload_n 3, 1) := by decide +kernel
theorem dX0_findBestTuning_88 : decode cX0_findBestTuning 88 = .ok (.if_icmp .ne 14, 3) := by decide +kernel
theorem dX0_findBestTuning_91 : decode cX0_findBestTuning 91 = .ok (.iload 7, 2) := by decide +kernel
theorem dX0_findBestTuning_93 : decode cX0_findBestTuning 93 = .ok (.ifCond .eq 9, 3) := by decide +kernel
theorem dX0_findBestTuning_96 : decode cX0_findBestTuning 96 = .ok (.iload 6, 2) := by decide +kernel
theorem dX0_findBestTuning_98 : decode cX0_findBestTuning 98 = .ok (.istore_n 3, 1) := by decide +kernel
theorem dX0_findBestTuning_99 : decode cX0_findBestTuning 99 = .ok (.iload 4, 2) := by decide +kernel
theorem dX0_findBestTuning_101 : decode cX0_findBestTuning 101 = .ok (.istore_n 2, 1) := by decide +kernel
theorem dX0_findBestTuning_102 : decode cX0_findBestTuning 102 = .ok (.iinc 4 1, 3) := by decide +kernel
theorem dX0_findBestTuning_105 : decode cX0_findBestTuning 105 = .ok (.goto (-87), 3) := by decide +kernel
theorem dX0_findBestTuning_108 : decode cX0_findBestTuning 108 = .ok (.iload_n 2, 1) := by decide +kernel
theorem dX0_findBestTuning_109 : decode cX0_findBestTuning 109 = .ok (.ireturn, 1) := by decide +kernel
theorem dX0_sizeOfGreatestAccord_0 : decode cX0_sizeOfGreatestAccord 0 = .ok (.iconst 0, 1) := by decide +kernel
theorem dX0_sizeOfGreatestAccord_1 : decode cX0_sizeOfGreatestAccord 1 = .ok (.istore_n 1, 1) := by decide +kernel
theorem dX0_sizeOfGreatestAccord_2 : decode cX0_sizeOfGreatestAccord 2 = .ok (.iload_n 1, 1) := by decide +kernel
theorem dX0_sizeOfGreatestAccord_3 : decode cX0_sizeOfGreatestAccord 3 = .ok (.aload_n 0, 1) := by decide +kernel
theorem dX0_sizeOfGreatestAccord_4 : decode cX0_sizeOfGreatestAccord 4 = .ok (.getfield 31, 3) := by decide +kernel
theorem dX0_sizeOfGreatestAccord_7 : decode cX0_sizeOfGreatestAccord 7 = .ok (.if_icmp .ge 20, 3) := by decide +kernel
theorem dX0_sizeOfGreatestAccord_10 : decode cX0_sizeOfGreatestAccord 10 = .ok (.aload_n 0, 1) := by decide +kernel
theorem dX0_sizeOfGreatestAccord_11 : decode cX0_sizeOfGreatestAccord 11 = .ok (.getfield 28, 3) := by decide +kernel
theorem dX0_sizeOfGreatestAccord_14 : decode cX0_sizeOfGreatestAccord 14 = .ok (.iload_n 1, 1) := by decide +kernel
theorem dX0_sizeOfGreatestAccord_15 : decode cX0_sizeOfGreatestAccord 15 = .ok (.aload_n 0, 1) := by decide +kernel
theorem dX0_sizeOfGreatestAccord_16 : decode cX0_sizeOfGreatestAccord 16 = .ok (.iload_n 1, 1) := by decide +kernel
theorem dX0_sizeOfGreatestAccord_17 : decode cX0_sizeOfGreatestAccord 17 = .ok (.invokevirtual 87, 3) := by decide +kernel
theorem dX0_sizeOfGreatestAccord_20 : decode cX0_sizeOfGreatestAccord 20 = .ok (.iastore, 1) := by decide +kernel
theorem dX0_sizeOfGreatestAccord_21 : decode cX0_sizeOfGreatestAccord 21 = .ok (.iinc 1 1, 3) := by decide +kernel
theorem dX0_sizeOfGreatestAccord_24 : decode cX0_sizeOfGreatestAccord 24 = .ok (.goto (-22), 3) := by decide +kernel
theorem dX0_sizeOfGreatestAccord_27 : decode cX0_sizeOfGreatestAccord 27 = .ok (.iconst 0, 1) := by decide +kernel
theorem dX0_sizeOfGreatestAccord_28 : decode cX0_sizeOfGreatestAccord 28 = .ok (.istore_n 1, 1) := by decide +kernel
theorem dX0_sizeOfGreatestAccord_29 : decode cX0_sizeOfGreatestAccord 29 = .ok (.iconst 1, 1) := by decide +kernel
theorem dX0_sizeOfGreatestAccord_30 : decode cX0_sizeOfGreatestAccord 30 = .ok (.istore_n 2, 1) := by decide +kernel
theorem dX0_sizeOfGreatestAccord_31 : decode cX0_sizeOfGreatestAccord 31 = .ok (.iload_n 2, 1) := by decide +kernel
theorem dX0_sizeOfGreatestAccord_32 : decode cX0_sizeOfGreatestAccord 32 = .ok (.iconst 1, 1) := by decide +kernel
theorem dX0_sizeOfGreatestAccord_33 : decode cX0_sizeOfGreatestAccord 33 = .ok (.aload_n 0, 1) := by decide +kernel
theorem dX0_sizeOfGreatestAccord_34 : decode cX0_sizeOfGreatestAccord 34 = .ok (.getfield 31, 3) := by decide +kernel
theorem dX0_sizeOfGreatestAccord_37 : decode cX0_sizeOfGreatestAccord 37 = .ok (.ishl, 1) := by decide +kernel
theorem dX0_sizeOfGreatestAccord_38 : decode cX0_sizeOfGreatestAccord 38 = .ok (.if_icmp .ge 29, 3) := by decide +kernel
theorem dX0_sizeOfGreatestAccord_41 : decode cX0_sizeOfGreatestAccord 41 = .ok (.iload_n 2, 1) := by decide +kernel
theorem dX0_sizeOfGreatestAccord_42 : decode cX0_sizeOfGreatestAccord 42 = .ok (.invokestatic 90, 3) := by decide +kernel
theorem dX0_sizeOfGreatestAccord_45 : decode cX0_sizeOfGreatestAccord 45 = .ok (.istore_n 3, 1) := by decide +kernel
theorem dX0_sizeOfGreatestAccord_46 : decode cX0_sizeOfGreatestAccord 46 = .ok (.iload_n 3, 1) := by decide +kernel
theorem dX0_sizeOfGreatestAccord_47 : decode cX0_sizeOfGreatestAccord 47 = .ok (.iload_n 1, 1) := by decide +kernel
theorem dX0_sizeOfGreatestAccord_48 : decode cX0_sizeOfGreatestAccord 48 = .ok (.if_icmp .le 13, 3) := by decide +kernel
theorem dX0_sizeOfGreatestAccord_51 : decode cX0_sizeOfGreatestAccord 51 = .ok (.aload_n 0, 1) := by decide +kernel
theorem dX0_sizeOfGreatestAccord_52 : decode cX0_sizeOfGreatestAccord 52 = .ok (.iload_n 2, 1) := by decide +kernel
theorem dX0_sizeOfGreatestAccord_53 : decode cX0_sizeOfGreatestAccord 53 = .ok (.invokevirtual 95, 3) := by decide +kernel
theorem dX0_sizeOfGreatestAccord_56 : decode cX0_sizeOfGreatestAccord 56 = .ok (.ifCond .eq 5, 3) := by decide +kernel
theorem dX0_sizeOfGreatestAccord_59 : decode cX0_sizeOfGreatestAccord 59 = .ok (.iload_n 3, 1) := by decide +kernel
theorem dX0_sizeOfGreatestAccord_60 : decode cX0_sizeOfGreatestAccord 60 = .ok (.istore_n 1, 1) := by decide +kernel
theorem dX0_sizeOfGreatestAccord_61 : decode cX0_sizeOfGreatestAccord 61 = .ok (.iinc 2 1, 3) := by decide +kernel
theorem dX0_sizeOfGreatestAccord_64 : decode cX0_sizeOfGreatestAccord 64 = .ok (.goto (-33), 3) := by decide +kernel
theorem dX0_sizeOfGreatestAccord_67 : decode cX0_sizeOfGreatestAccord 67 = .ok (.iload_n 1, 1) := by decide +kernel
theorem dX0_sizeOfGreatestAccord_68 : decode cX0_sizeOfGreatestAccord 68 = .ok (.ireturn, 1) := by decide +kernel
theorem dX0_findBarred_0 : decode cX0_findBarred 0 = .ok (.aload_n 0, 1) := by decide +kernel
theorem dX0_findBarred_1 : decode cX0_findBarred 1 = .ok (.iload_n 1, 1) := by decide +kernel
theorem dX0_findBarred_2 : decode cX0_findBarred 2 = .ok (.invokevirtual 56, 3) := by decide +kernel
theorem dX0_findBarred_5 : decode cX0_findBarred 5 = .ok (.ifCond .ne 7, 3) := by decide +kernel
theorem dX0_findBarred_8 : decode cX0_findBarred 8 = .ok (.iconst 1, 1) := by decide +kernel
theorem dX0_findBarred_9 : decode cX0_findBarred 9 = .ok (.iload_n 1, 1) := by decide +kernel
theorem dX0_findBarred_10 : decode cX0_findBarred 10 = .ok (.ishl, 1) := by decide +kernel
theorem dX0_findBarred_11 : decode cX0_findBarred 11 = .ok (.ireturn, 1) := by decide +kernel
theorem dX0_findBarred_12 : decode cX0_findBarred 12 = .ok (.iconst 0, 1) := by decide +kernel
theorem dX0_findBarred_13 : decode cX0_findBarred 13 = .ok (.istore_n 2, 1) := by decide +kernel
theorem dX0_findBarred_14 : decode cX0_findBarred 14 = .ok (.iconst 0, 1) := by decide +kernel
theorem dX0_findBarred_15 : decode cX0_findBarred 15 = .ok (.istore_n 3, 1) := by decide +kernel
theorem dX0_findBarred_16 : decode cX0_findBarred 16 = .ok (.iload_n 3, 1) := by decide +kernel
theorem dX0_findBarred_17 : decode cX0_findBarred 17 = .ok (.aload_n 0, 1) := by decide +kernel
theorem dX0_findBarred_18 : decode cX0_findBarred 18 = .ok (.getfield 31, 3) := by decide +kernel
theorem dX0_findBarred_21 : decode cX0_findBarred 21 = .ok (.if_icmp .ge 33, 3) := by decide +kernel
theorem dX0_findBarred_24 : decode cX0_findBarred 24 = .ok (.aload_n 0, 1) := by decide +kernel
theorem dX0_findBarred_25 : decode cX0_findBarred 25 = .ok (.getfield 15, 3) := by decide +kernel
theorem dX0_findBarred_28 : decode cX0_findBarred 28 = .ok (.iload_n 1, 1) := by decide +kernel
theorem dX0_findBarred_29 : decode cX0_findBarred 29 = .ok (.iaload, 1) := by decide +kernel
theorem dX0_findBarred_30 : decode cX0_findBarred 30 = .ok (.aload_n 0, 1) := by decide +kernel
theorem dX0_findBarred_31 : decode cX0_findBarred 31 = .ok (.getfield 15, 3) := by decide +kernel
theorem dX0_findBarred_34 : decode cX0_findBarred 34 = .ok (.iload_n 3, 1) := by decide +kernel
theorem dX0_findBarred_35 : decode cX0_findBarred 35 = .ok (.iaload, 1) := by decide +kernel
theorem dX0_findBarred_36 : decode cX0_findBarred 36 = .ok (.invokestatic 73, 3) := by decide +kernel
theorem dX0_findBarred_39 : decode cX0_findBarred 39 = .ok (.ifCond .ne 9, 3) := by decide +kernel
theorem dX0_findBarred_42 : decode cX0_findBarred 42 = .ok (.iload_n 2, 1) := by decide +kernel
theorem dX0_findBarred_43 : decode cX0_findBarred 43 = .ok (.iconst 1, 1) := by decide +kernel
theorem dX0_findBarred_44 : decode cX0_findBarred 44 = .ok (.iload_n 3, 1) := by decide +kernel
theorem dX0_findBarred_45 : decode cX0_findBarred 45 = .ok (.ishl, 1) := by decide +kernel
theorem dX0_findBarred_46 : decode cX0_findBarred 46 = .ok (.ior, 1) := by decide +kernel
theorem dX0_findBarred_47 : decode cX0_findBarred 47 = .ok (.istore_n 2, 1) := by decide +kernel
theorem dX0_findBarred_48 : decode cX0_findBarred 48 = .ok (.iinc 3 1, 3) := by decide +kernel
theorem dX0_findBarred_51 : decode cX0_findBarred 51 = .ok (.goto (-35), 3) := by decide +kernel
theorem dX0_findBarred_54 : decode cX0_findBarred 54 = .ok (.iload_n 2, 1) := by decide +kernel
theorem dX0_findBarred_55 : decode cX0_findBarred 55 = .ok (.ireturn, 1) := by decide +kernel
theorem dX0_isGroupInAccord_0 : decode cX0_isGroupInAccord 0 = .ok (.iconst 0, 1) := by decide +kernel
theorem dX0_isGroupInAccord_1 : decode cX0_isGroupInAccord 1 = .ok (.istore_n 2, 1) := by decide +kernel
theorem dX0_isGroupInAccord_2 : decode cX0_isGroupInAccord 2 = .ok (.iload_n 2, 1) := by decide +kernel
theorem dX0_isGroupInAccord_3 : decode cX0_isGroupInAccord 3 = .ok (.aload_n 0, 1) := by decide +kernel
theorem dX0_isGroupInAccord_4 : decode cX0_isGroupInAccord 4 = .ok (.getfield 31, 3) := by decide +kernel
theorem dX0_isGroupInAccord_7 : decode cX0_isGroupInAccord 7 = .ok (.if_icmp .ge 31, 3) := by decide +kernel
theorem dX0_isGroupInAccord_10 : decode cX0_isGroupInAccord 10 = .ok (.iload_n 1, 1) := by decide +kernel
theorem dX0_isGroupInAccord_11 : decode cX0_isGroupInAccord 11 = .ok (.iload_n 2, 1) := by decide +kernel
theorem dX0_isGroupInAccord_12 : decode cX0_isGroupInAccord 12 = .ok (.ishr, 1) := by decide +kernel
theorem dX0_isGroupInAccord_13 : decode cX0_isGroupInAccord 13 = .ok (.iconst 1, 1) := by decide +kernel
theorem dX0_isGroupInAccord_14 : decode cX0_isGroupInAccord 14 = .ok (.iand, 1) := by decide +kernel
theorem dX0_isGroupInAccord_15 : decode cX0_isGroupInAccord 15 = .ok (.iconst 1, 1) := by decide +kernel
theorem dX0_isGroupInAccord_16 : decode cX0_isGroupInAccord 16 = .ok (.if_icmp .ne 16, 3) := by decide +kernel
theorem dX0_isGroupInAccord_19 : decode cX0_isGroupInAccord 19 = .ok (.iload_n 1, 1) := by decide +kernel
theorem dX0_isGroupInAccord_20 : decode cX0_isGroupInAccord 20 = .ok (.aload_n 0, 1) := by decide +kernel
theorem dX0_isGroupInAccord_21 : decode cX0_isGroupInAccord 21 = .ok (.getfield 28, 3) := by decide +kernel
theorem dX0_isGroupInAccord_24 : decode cX0_isGroupInAccord 24 = .ok (.iload_n 2, 1) := by decide +kernel
theorem dX0_isGroupInAccord_25 : decode cX0_isGroupInAccord 25 = .ok (.iaload, 1) := by decide +kernel
theorem dX0_isGroupInAccord_26 : decode cX0_isGroupInAccord 26 = .ok (.iand, 1) := by decide +kernel
theorem dX0_isGroupInAccord_27 : decode cX0_isGroupInAccord 27 = .ok (.ifCond .eq 5, 3) := by decide +kernel
theorem dX0_isGroupInAccord_30 : decode cX0_isGroupInAccord 30 = .ok (.iconst 0, 1) := by decide +kernel
theorem dX0_isGroupInAccord_31 : decode cX0_isGroupInAccord 31 = .ok (.ireturn, 1) := by decide +kernel
theorem dX0_isGroupInAccord_32 : decode cX0_isGroupInAccord 32 = .ok (.iinc 2 1, 3) := by decide +kernel
theorem dX0_isGroupInAccord_35 : decode cX0_isGroupInAccord 35 = .ok (.goto (-33), 3) := by decide +kernel
theorem dX0_isGroupInAccord_38 : decode cX0_isGroupInAccord 38 = .ok (.iconst 1, 1) := by decide +kernel
theorem dX0_isGroupInAccord_39 : decode cX0_isGroupInAccord 39 = .ok (.ireturn, 1) := by decide +kernel
theorem dX0_meanOfPitches_0 : decode cX0_meanOfPitches 0 = .ok (.aload_n 0, 1) := by decide +kernel
theorem dX0_meanOfPitches_1 : decode cX0_meanOfPitches 1 = .ok (.invokevirtual 80, 3) := by decide +kernel
theorem dX0_meanOfPitches_4 : decode cX0_meanOfPitches 4 = .ok (.istore_n 1, 1) := by decide +kernel
theorem dX0_meanOfPitches_5 : decode cX0_meanOfPitches 5 = .ok (.iload_n 1, 1) := by decide +kernel
theorem dX0_meanOfPitches_6 : decode cX0_meanOfPitches 6 = .ok (.ifCond .ne 5, 3) := by decide +kernel
theorem dX0_meanOfPitches_9 : decode cX0_meanOfPitches 9 = .ok (.dconst 0, 1) := by decide +kernel
theorem dX0_meanOfPitches_10 : decode cX0_meanOfPitches 10 = .ok (.dreturn, 1) := by decide +kernel
theorem dX0_meanOfPitches_11 : decode cX0_meanOfPitches 11 = .ok (.iconst 0, 1) := by decide +kernel
theorem dX0_meanOfPitches_12 : decode cX0_meanOfPitches 12 = .ok (.istore_n 2, 1) := by decide +kernel
theorem dX0_meanOfPitches_13 : decode cX0_meanOfPitches 13 = .ok (.iconst 0, 1) := by decide +kernel
theorem dX0_meanOfPitches_14 : decode cX0_meanOfPitches 14 = .ok (.istore_n 3, 1) := by decide +kernel
theorem dX0_meanOfPitches_15 : decode cX0_meanOfPitches 15 = .ok (.iload_n 3, 1) := by decide +kernel
theorem dX0_meanOfPitches_16 : decode cX0_meanOfPitches 16 = .ok (.aload_n 0, 1) := by decide +kernel
theorem dX0_meanOfPitches_17 : decode cX0_meanOfPitches 17 = .ok (.getfield 31, 3) := by decide +kernel
theorem dX0_meanOfPitches_20 : decode cX0_meanOfPitches 20 = .ok (.if_icmp .ge 26, 3) := by decide +kernel
theorem dX0_meanOfPitches_23 : decode cX0_meanOfPitches 23 = .ok (.aload_n 0, 1) := by decide +kernel
theorem dX0_meanOfPitches_24 : decode cX0_meanOfPitches 24 = .ok (.iload_n 3, 1) := by decide +kernel
theorem dX0_meanOfPitches_25 : decode cX0_meanOfPitches 25 = .ok (.invokevirtual 56, 3) := by decide +kernel
theorem dX0_meanOfPitches_28 : decode cX0_meanOfPitches 28 = .ok (.ifCond .eq 12, 3) := by decide +kernel
theorem dX0_meanOfPitches_31 : decode cX0_meanOfPitches 31 = .ok (.iload_n 2, 1) := by decide +kernel
theorem dX0_meanOfPitches_32 : decode cX0_meanOfPitches 32 = .ok (.aload_n 0, 1) := by decide +kernel
theorem dX0_meanOfPitches_33 : decode cX0_meanOfPitches 33 = .ok (.getfield 15, 3) := by decide +kernel
theorem dX0_meanOfPitches_36 : decode cX0_meanOfPitches 36 = .ok (.iload_n 3, 1) := by decide +kernel
theorem dX0_meanOfPitches_37 : decode cX0_meanOfPitches 37 = .ok (.iaload, 1) := by decide +kernel
theorem dX0_meanOfPitches_38 : decode cX0_meanOfPitches 38 = .ok (.iadd, 1) := by decide +kernel
theorem dX0_meanOfPitches_39 : decode cX0_meanOfPitches 39 = .ok (.istore_n 2, 1) := by decide +kernel
theorem dX0_meanOfPitches_40 : decode cX0_meanOfPitches 40 = .ok (.iinc 3 1, 3) := by decide +kernel
theorem dX0_meanOfPitches_43 : decode cX0_meanOfPitches 43 = .ok (.goto (-28), 3) := by decide +kernel
theorem dX0_meanOfPitches_46 : decode cX0_meanOfPitches 46 = .ok (.iload_n 2, 1) := by decide +kernel
theorem dX0_meanOfPitches_47 : decode cX0_meanOfPitches 47 = .ok (.i2d, 1) := by decide +kernel
theorem dX0_meanOfPitches_48 : decode cX0_meanOfPitches 48 = .ok (.iload_n 1, 1) := by decide +kernel
theorem dX0_meanOfPitches_49 : decode cX0_meanOfPitches 49 = .ok (.i2d, 1) := by decide +kernel
theorem dX0_meanOfPitches_50 : decode cX0_meanOfPitches 50 = .ok (.ddiv, 1) := by decide +kernel
theorem dX0_meanOfPitches_51 : decode cX0_meanOfPitches 51 = .ok (.dreturn, 1) := by decide +kernel
theorem dX1_init_0 : decode cX1_init 0 = .ok (.aload_n 0, 1) := by decide +kernel
theorem dX1_init_1 : decode cX1_init 1 = .ok (.invokespecial 1, 3) := by decide +kernel
theorem dX1_init_4 : decode cX1_init 4 = .ok (.aload_n 0, 1) := by decide +kernel
theorem dX1_init_5 : decode cX1_init 5 = .ok (.new 7, 3) := by decide +kernel
theorem dX1_init_8 : decode cX1_init 8 = .ok (.dup, 1) := by decide +kernel
theorem dX1_init_9 : decode cX1_init 9 = .ok (.invokespecial 9, 3) := by decide +kernel
theorem dX1_init_12 : decode cX1_init 12 = .ok (.putfield 10, 3) := by decide +kernel
theorem dX1_init_15 : decode cX1_init 15 = .ok (.aload_n 0, 1) := by decide +kernel
theorem dX1_init_16 : decode cX1_init 16 = .ok (.new 7, 3) := by decide +kernel
theorem dX1_init_19 : decode cX1_init 19 = .ok (.dup, 1) := by decide +kernel
theorem dX1_init_20 : decode cX1_init 20 = .ok (.invokespecial 9, 3) := by decide +kernel
theorem dX1_init_23 : decode cX1_init 23 = .ok (.putfield 16, 3) := by decide +kernel
theorem dX1_init_26 : decode cX1_init 26 = .ok (.return_, 1) := by decide +kernel
theorem dX1_addPot_0 : decode cX1_addPot 0 = .ok (.iload_n 1, 1) := by decide +kernel
theorem dX1_addPot_1 : decode cX1_addPot 1 = .ok (.iconst 0, 1) := by decide +kernel
theorem dX1_addPot_2 : decode cX1_addPot 2 = .ok (.iconst 3, 1) := by decide +kernel
theorem dX1_addPot_3 : decode cX1_addPot 3 = .ok (.invokestatic 19, 3) := by decide +kernel
theorem dX1_addPot_6 : decode cX1_addPot 6 = .ok (.iload_n 2, 1) := by decide +kernel
theorem dX1_addPot_7 : decode cX1_addPot 7 = .ok (.iconst 0, 1) := by decide +kernel
theorem dX1_addPot_8 : decode cX1_addPot 8 = .ok (.bipush 35, 2) := by decide +kernel
theorem dX1_addPot_10 : decode cX1_addPot 10 = .ok (.invokestatic 19, 3) := by decide +kernel
theorem dX1_addPot_13 : decode cX1_addPot 13 = .ok (.iload_n 3, 1) := by decide +kernel
theorem dX1_addPot_14 : decode cX1_addPot 14 = .ok (.iconst 0, 1) := by decide +kernel
theorem dX1_addPot_15 : decode cX1_addPot 15 = .ok (.bipush 20, 2) := by decide +kernel
theorem dX1_addPot_17 : decode cX1_addPot 17 = .ok (.invokestatic 19, 3) := by decide +kernel
theorem dX1_addPot_20 : decode cX1_addPot 20 = .ok (.aload_n 0, 1) := by decide +kernel
theorem dX1_addPot_21 : decode cX1_addPot 21 = .ok (.getfield 10, 3) := by decide +kernel
theorem dX1_addPot_24 : decode cX1_addPot 24 = .ok (.getfield 23, 3) := by decide +kernel
theorem dX1_addPot_27 : decode cX1_addPot 27 = .ok (.bipush 10, 2) := by decide +kernel
theorem dX1_addPot_29 : decode cX1_addPot 29 = .ok (.if_icmp .lt 13, 3) := by decide +kernel
theorem dX1_addPot_32 : decode cX1_addPot 32 = .ok (.new 27, 3) := by decide +kernel
theorem dX1_addPot_35 : decode cX1_addPot 35 = .ok (.dup, 1) := by decide +kernel
theorem dX1_addPot_36 : decode cX1_addPot 36 = .ok (.ldc 29, 2) := by decide +kernel
theorem dX1_addPot_38 : decode cX1_addPot 38 = .ok (.invokespecial 31, 3) := by decide +kernel
theorem dX1_addPot_41 : decode cX1_addPot 41 = .ok (.athrow, 1) := by decide +kernel
theorem dX1_addPot_42 : decode cX1_addPot 42 = .ok (.aload_n 0, 1) := by decide +kernel
theorem dX1_addPot_43 : decode cX1_addPot 43 = .ok (.getfield 10, 3) := by decide +kernel
theorem dX1_addPot_46 : decode cX1_addPot 46 = .ok (.iload_n 1, 1) := by decide +kernel
theorem dX1_addPot_47 : decode cX1_addPot 47 = .ok (.iload_n 2, 1) := by decide +kernel
theorem dX1_addPot_48 : decode cX1_addPot 48 = .ok (.iload_n 3, 1) := by decide +kernel
theorem dX1_addPot_49 : decode cX1_addPot 49 = .ok (.invokevirtual 34, 3) := by decide +kernel
theorem dX1_addPot_52 : decode cX1_addPot 52 = .ok (.ireturn, 1) := by decide +kernel
theorem dX1_tune_0 : decode cX1_tune 0 = .ok (.aload_n 0, 1) := by decide +kernel
theorem dX1_tune_1 : decode cX1_tune 1 = .ok (.iload_n 1, 1) := by decide +kernel
theorem dX1_tune_2 : decode cX1_tune 2 = .ok (.invokevirtual 38, 3) := by decide +kernel
theorem dX1_tune_5 : decode cX1_tune 5 = .ok (.iload_n 2, 1) := by decide +kernel
theorem dX1_tune_6 : decode cX1_tune 6 = .ok (.bipush (-12), 2) := by decide +kernel
theorem dX1_tune_8 : decode cX1_tune 8 = .ok (.bipush 12, 2) := by decide +kernel
theorem dX1_tune_10 : decode cX1_tune 10 = .ok (.invokestatic 19, 3) := by decide +kernel
theorem dX1_tune_13 : decode cX1_tune 13 = .ok (.aload_n 0, 1) := by decide +kernel
theorem dX1_tune_14 : decode cX1_tune 14 = .ok (.getfield 10, 3) := by decide +kernel
theorem dX1_tune_17 : decode cX1_tune 17 = .ok (.getfield 42, 3) := by decide +kernel
theorem dX1_tune_20 : decode cX1_tune 20 = .ok (.iload_n 1, 1) := by decide +kernel
theorem dX1_tune_21 : decode cX1_tune 21 = .ok (.iaload, 1) := by decide +kernel
theorem dX1_tune_22 : decode cX1_tune 22 = .ok (.iload_n 2, 1) := by decide +kernel
theorem dX1_tune_23 : decode cX1_tune 23 = .ok (.iadd, 1) := by decide +kernel
theorem dX1_tune_24 : decode cX1_tune 24 = .ok (.istore_n 3, 1) := by decide +kernel
theorem dX1_tune_25 : decode cX1_tune 25 = .ok (.iload_n 3, 1) := by decide +kernel
theorem dX1_tune_26 : decode cX1_tune 26 = .ok (.iconst 0, 1) := by decide +kernel
theorem dX1_tune_27 : decode cX1_tune 27 = .ok (.bipush 35, 2) := by decide +kernel
theorem dX1_tune_29 : decode cX1_tune 29 = .ok (.invokestatic 19, 3) := by decide +kernel
theorem dX1_tune_32 : decode cX1_tune 32 = .ok (.aload_n 0, 1) := by decide +kernel
theorem dX1_tune_33 : decode cX1_tune 33 = .ok (.getfield 10, 3) := by decide +kernel
theorem dX1_tune_36 : decode cX1_tune 36 = .ok (.getfield 42, 3) := by decide +kernel
theorem dX1_tune_39 : decode cX1_tune 39 = .ok (.iload_n 1, 1) := by decide +kernel
theorem dX1_tune_40 : decode cX1_tune 40 = .ok (.iload_n 3, 1) := by decide +kernel
theorem dX1_tune_41 : decode cX1_tune 41 = .ok (.iastore, 1) := by decide +kernel
theorem dX1_tune_42 : decode cX1_tune 42 = .ok (.iload_n 3, 1) := by decide +kernel
theorem dX1_tune_43 : decode cX1_tune 43 = .ok (.ireturn, 1) := by decide +kernel
theorem dX1_turnCosy_0 : decode cX1_turnCosy 0 = .ok (.aload_n 0, 1) := by decide +kernel
theorem dX1_turnCosy_1 : decode cX1_turnCosy 1 = .ok (.iload_n 1, 1) := by decide +kernel
theorem dX1_turnCosy_2 : decode cX1_turnCosy 2 = .ok (.invokevirtual 38, 3) := by decide +kernel
theorem dX1_turnCosy_5 : decode cX1_turnCosy 5 = .ok (.aload_n 0, 1) := by decide +kernel
theorem dX1_turnCosy_6 : decode cX1_turnCosy 6 = .ok (.getfield 10, 3) := by decide +kernel
theorem dX1_turnCosy_9 : decode cX1_turnCosy 9 = .ok (.getfield 46, 3) := by decide +kernel
theorem dX1_turnCosy_12 : decode cX1_turnCosy 12 = .ok (.iload_n 1, 1) := by decide +kernel
theorem dX1_turnCosy_13 : decode cX1_turnCosy 13 = .ok (.aload_n 0, 1) := by decide +kernel
theorem dX1_turnCosy_14 : decode cX1_turnCosy 14 = .ok (.getfield 10, 3) := by decide +kernel
theorem dX1_turnCosy_17 : decode cX1_turnCosy 17 = .ok (.getfield 46, 3) := by decide +kernel
theorem dX1_turnCosy_20 : decode cX1_turnCosy 20 = .ok (.iload_n 1, 1) := by decide +kernel
theorem dX1_turnCosy_21 : decode cX1_turnCosy 21 = .ok (.baload, 1) := by decide +kernel
theorem dX1_turnCosy_22 : decode cX1_turnCosy 22 = .ok (.ifCond .ne 7, 3) := by decide +kernel
theorem dX1_turnCosy_25 : decode cX1_turnCosy 25 = .ok (.iconst 1, 1) := by decide +kernel
theorem dX1_turnCosy_26 : decode cX1_turnCosy 26 = .ok (.goto 4, 3) := by decide +kernel
theorem dX1_turnCosy_29 : decode cX1_turnCosy 29 = .ok (.iconst 0, 1) := by decide +kernel
theorem dX1_turnCosy_30 : decode cX1_turnCosy 30 = .ok (.bastore, 1) := by decide +kernel
theorem dX1_turnCosy_31 : decode cX1_turnCosy 31 = .ok (.aload_n 0, 1) := by decide +kernel
theorem dX1_turnCosy_32 : decode cX1_turnCosy 32 = .ok (.getfield 10, 3) := by decide +kernel
theorem dX1_turnCosy_35 : decode cX1_turnCosy 35 = .ok (.getfield 46, 3) := by decide +kernel
theorem dX1_turnCosy_38 : decode cX1_turnCosy 38 = .ok (.iload_n 1, 1) := by decide +kernel
theorem dX1_turnCosy_39 : decode cX1_turnCosy 39 = .ok (.baload, 1) := by decide +kernel
theorem dX1_turnCosy_40 : decode cX1_turnCosy 40 = .ok (.ireturn, 1) := by decide +kernel
theorem dX1_pour_0 : decode cX1_pour 0 = .ok (.aload_n 0, 1) := by decide +kernel
theorem dX1_pour_1 : decode cX1_pour 1 = .ok (.iload_n 1, 1) := by decide +kernel
theorem dX1_pour_2 : decode cX1_pour 2 = .ok (.invokevirtual 38, 3) := by decide +kernel
theorem dX1_pour_5 : decode cX1_pour 5 = .ok (.aload_n 0, 1) := by decide +kernel
theorem dX1_pour_6 : decode cX1_pour 6 = .ok (.iload_n 2, 1) := by decide +kernel
theorem dX1_pour_7 : decode cX1_pour 7 = .ok (.invokevirtual 38, 3) := by decide +kernel
theorem dX1_pour_10 : decode cX1_pour 10 = .ok (.iload_n 1, 1) := by decide +kernel
theorem dX1_pour_11 : decode cX1_pour 11 = .ok (.iload_n 2, 1) := by decide +kernel
theorem dX1_pour_12 : decode cX1_pour 12 = .ok (.if_icmp .ne 13, 3) := by decide +kernel
theorem dX1_pour_15 : decode cX1_pour 15 = .ok (.new 50, 3) := by decide +kernel
theorem dX1_pour_18 : decode cX1_pour 18 = .ok (.dup, 1) := by decide +kernel
theorem dX1_pour_19 : decode cX1_pour 19 = .ok (.ldc 52, 2) := by decide +kernel
theorem dX1_pour_21 : decode cX1_pour 21 = .ok (.invokespecial 54, 3) := by decide +kernel
theorem dX1_pour_24 : decode cX1_pour 24 = .ok (.athrow, 1) := by decide +kernel
theorem dX1_pour_25 : decode cX1_pour 25 = .ok (.iload_n 3, 1) := by decide +kernel
theorem dX1_pour_26 : decode cX1_pour 26 = .ok (.iconst 1, 1) := by decide +kernel
theorem dX1_pour_27 : decode cX1_pour 27 = .ok (.bipush 20, 2) := by decide +kernel
theorem dX1_pour_29 : decode cX1_pour 29 = .ok (.invokestatic 19, 3) := by decide +kernel
theorem dX1_pour_32 : decode cX1_pour 32 = .ok (.iload_n 3, 1) := by decide +kernel
theorem dX1_pour_33 : decode cX1_pour 33 = .ok (.aload_n 0, 1) := by decide +kernel
theorem dX1_pour_34 : decode cX1_pour 34 = .ok (.getfield 10, 3) := by decide +kernel
theorem dX1_pour_37 : decode cX1_pour 37 = .ok (.getfield 55, 3) := by decide +kernel
theorem dX1_pour_40 : decode cX1_pour 40 = .ok (.iload_n 1, 1) := by decide +kernel
theorem dX1_pour_41 : decode cX1_pour 41 = .ok (.iaload, 1) := by decide +kernel
theorem dX1_pour_42 : decode cX1_pour 42 = .ok (.bipush 20, 2) := by decide +kernel
theorem dX1_pour_44 : decode cX1_pour 44 = .ok (.aload_n 0, 1) := by decide +kernel
theorem dX1_pour_45 : decode cX1_pour 45 = .ok (.getfield 10, 3) := by decide +kernel
theorem dX1_pour_48 : decode cX1_pour 48 = .ok (.getfield 55, 3) := by decide +kernel
theorem dX1_pour_51 : decode cX1_pour 51 = .ok (.iload_n 2, 1) := by decide +kernel
theorem dX1_pour_52 : decode cX1_pour 52 = .ok (.iaload, 1) := by decide +kernel
theorem dX1_pour_53 : decode cX1_pour 53 = .ok (.isub, 1) := by decide +kernel
theorem dX1_pour_54 : decode cX1_pour 54 = .ok (.invokestatic 58, 3) := by decide +kernel
theorem dX1_pour_57 : decode cX1_pour 57 = .ok (.invokestatic 58, 3) := by decide +kernel
theorem dX1_pour_60 : decode cX1_pour 60 = .ok (.istore 4, 2) := by decide +kernel
theorem dX1_pour_62 : decode cX1_pour 62 = .ok (.aload_n 0, 1) := by decide +kernel
theorem dX1_pour_63 : decode cX1_pour 63 = .ok (.getfield 10, 3) := by decide +kernel
theorem dX1_pour_66 : decode cX1_pour 66 = .ok (.getfield 55, 3) := by decide +kernel
theorem dX1_pour_69 : decode cX1_pour 69 = .ok (.iload_n 1, 1) := by decide +kernel
theorem dX1_pour_70 : decode cX1_pour 70 = .ok (.dup2, 1) := by decide +kernel
theorem dX1_pour_71 : decode cX1_pour 71 = .ok (.iaload, 1) := by decide +kernel
theorem dX1_pour_72 : decode cX1_pour 72 = .ok (.iload 4, 2) := by decide +kernel
theorem dX1_pour_74 : decode cX1_pour 74 = .ok (.isub, 1) := by decide +kernel
theorem dX1_pour_75 : decode cX1_pour 75 = .ok (.iastore, 1) := by decide +kernel
theorem dX1_pour_76 : decode cX1_pour 76 = .ok (.aload_n 0, 1) := by decide +kernel
theorem dX1_pour_77 : decode cX1_pour 77 = .ok (.getfield 10, 3) := by decide +kernel
theorem dX1_pour_80 : decode cX1_pour 80 = .ok (.getfield 55, 3) := by decide +kernel
theorem dX1_pour_83 : decode cX1_pour 83 = .ok (.iload_n 2, 1) := by decide +kernel
theorem dX1_pour_84 : decode cX1_pour 84 = .ok (.dup2, 1) := by decide +kernel
theorem dX1_pour_85 : decode cX1_pour 85 = .ok (.iaload, 1) := by decide +kernel
theorem dX1_pour_86 : decode cX1_pour 86 = .ok (.iload 4, 2) := by decide +kernel
theorem dX1_pour_88 : decode cX1_pour 88 = .ok (.iadd, 1) := by decide +kernel
theorem dX1_pour_89 : decode cX1_pour 89 = .ok (.iastore, 1) := by decide +kernel
theorem dX1_pour_90 : decode cX1_pour 90 = .ok (.iload 4, 2) := by decide +kernel
theorem dX1_pour_92 : decode cX1_pour 92 = .ok (.ireturn, 1) := by decide +kernel
theorem dX1_fill_0 : decode cX1_fill 0 = .ok (.aload_n 0, 1) := by decide +kernel
theorem dX1_fill_1 : decode cX1_fill 1 = .ok (.iload_n 1, 1) := by decide +kernel
theorem dX1_fill_2 : decode cX1_fill 2 = .ok (.invokevirtual 38, 3) := by decide +kernel
theorem dX1_fill_5 : decode cX1_fill 5 = .ok (.bipush 20, 2) := by decide +kernel
theorem dX1_fill_7 : decode cX1_fill 7 = .ok (.aload_n 0, 1) := by decide +kernel
theorem dX1_fill_8 : decode cX1_fill 8 = .ok (.getfield 10, 3) := by decide +kernel
theorem dX1_fill_11 : decode cX1_fill 11 = .ok (.getfield 55, 3) := by decide +kernel
theorem dX1_fill_14 : decode cX1_fill 14 = .ok (.iload_n 1, 1) := by decide +kernel
theorem dX1_fill_15 : decode cX1_fill 15 = .ok (.iaload, 1) := by decide +kernel
theorem dX1_fill_16 : decode cX1_fill 16 = .ok (.isub, 1) := by decide +kernel
theorem dX1_fill_17 : decode cX1_fill 17 = .ok (.istore_n 2, 1) := by decide +kernel
theorem dX1_fill_18 : decode cX1_fill 18 = .ok (.aload_n 0, 1) := by decide +kernel
theorem dX1_fill_19 : decode cX1_fill 19 = .ok (.getfield 10, 3) := by decide +kernel
theorem dX1_fill_22 : decode cX1_fill 22 = .ok (.getfield 55, 3) := by decide +kernel
theorem dX1_fill_25 : decode cX1_fill 25 = .ok (.iload_n 1, 1) := by decide +kernel
theorem dX1_fill_26 : decode cX1_fill 26 = .ok (.bipush 20, 2) := by decide +kernel
theorem dX1_fill_28 : decode cX1_fill 28 = .ok (.iastore, 1) := by decide +kernel
theorem dX1_fill_29 : decode cX1_fill 29 = .ok (.iload_n 2, 1) := by decide +kernel
theorem dX1_fill_30 : decode cX1_fill 30 = .ok (.ireturn, 1) := by decide +kernel
theorem dX1_mend_0 : decode cX1_mend 0 = .ok (.aload_n 0, 1) := by decide +kernel
theorem dX1_mend_1 : decode cX1_mend 1 = .ok (.iload_n 1, 1) := by decide +kernel
theorem dX1_mend_2 : decode cX1_mend 2 = .ok (.invokevirtual 38, 3) := by decide +kernel
theorem dX1_mend_5 : decode cX1_mend 5 = .ok (.aload_n 0, 1) := by decide +kernel
theorem dX1_mend_6 : decode cX1_mend 6 = .ok (.getfield 10, 3) := by decide +kernel
theorem dX1_mend_9 : decode cX1_mend 9 = .ok (.getfield 64, 3) := by decide +kernel
theorem dX1_mend_12 : decode cX1_mend 12 = .ok (.iload_n 1, 1) := by decide +kernel
theorem dX1_mend_13 : decode cX1_mend 13 = .ok (.iaload, 1) := by decide +kernel
theorem dX1_mend_14 : decode cX1_mend 14 = .ok (.istore_n 2, 1) := by decide +kernel
theorem dX1_mend_15 : decode cX1_mend 15 = .ok (.aload_n 0, 1) := by decide +kernel
theorem dX1_mend_16 : decode cX1_mend 16 = .ok (.getfield 10, 3) := by decide +kernel
theorem dX1_mend_19 : decode cX1_mend 19 = .ok (.getfield 64, 3) := by decide +kernel
theorem dX1_mend_22 : decode cX1_mend 22 = .ok (.iload_n 1, 1) := by decide +kernel
theorem dX1_mend_23 : decode cX1_mend 23 = .ok (.iconst 0, 1) := by decide +kernel
theorem dX1_mend_24 : decode cX1_mend 24 = .ok (.iastore, 1) := by decide +kernel
theorem dX1_mend_25 : decode cX1_mend 25 = .ok (.aload_n 0, 1) := by decide +kernel
theorem dX1_mend_26 : decode cX1_mend 26 = .ok (.getfield 10, 3) := by decide +kernel
theorem dX1_mend_29 : decode cX1_mend 29 = .ok (.getfield 55, 3) := by decide +kernel
theorem dX1_mend_32 : decode cX1_mend 32 = .ok (.iload_n 1, 1) := by decide +kernel
theorem dX1_mend_33 : decode cX1_mend 33 = .ok (.iconst 0, 1) := by decide +kernel
theorem dX1_mend_34 : decode cX1_mend 34 = .ok (.iastore, 1) := by decide +kernel
theorem dX1_mend_35 : decode cX1_mend 35 = .ok (.iload_n 2, 1) := by decide +kernel
theorem dX1_mend_36 : decode cX1_mend 36 = .ok (.ireturn, 1) := by decide +kernel
theorem dX1_sing_0 : decode cX1_sing 0 = .ok (.iload_n 1, 1) := by decide +kernel
theorem dX1_sing_1 : decode cX1_sing 1 = .ok (.iconst 1, 1) := by decide +kernel
theorem dX1_sing_2 : decode cX1_sing 2 = .ok (.bipush 60, 2) := by decide +kernel
theorem dX1_sing_4 : decode cX1_sing 4 = .ok (.invokestatic 19, 3) := by decide +kernel
theorem dX1_sing_7 : decode cX1_sing 7 = .ok (.aload_n 0, 1) := by decide +kernel
theorem dX1_sing_8 : decode cX1_sing 8 = .ok (.getfield 10, 3) := by decide +kernel
theorem dX1_sing_11 : decode cX1_sing 11 = .ok (.getfield 67, 3) := by decide +kernel
theorem dX1_sing_14 : decode cX1_sing 14 = .ok (.istore_n 2, 1) := by decide +kernel
theorem dX1_sing_15 : decode cX1_sing 15 = .ok (.aload_n 0, 1) := by decide +kernel
theorem dX1_sing_16 : decode cX1_sing 16 = .ok (.getfield 10, 3) := by decide +kernel
theorem dX1_sing_19 : decode cX1_sing 19 = .ok (.iload_n 1, 1) := by decide +kernel
theorem dX1_sing_20 : decode cX1_sing 20 = .ok (.invokevirtual 70, 3) := by decide +kernel
theorem dX1_sing_23 : decode cX1_sing 23 = .ok (.aload_n 0, 1) := by decide +kernel
theorem dX1_sing_24 : decode cX1_sing 24 = .ok (.getfield 10, 3) := by decide +kernel
theorem dX1_sing_27 : decode cX1_sing 27 = .ok (.getfield 67, 3) := by decide +kernel
theorem dX1_sing_30 : decode cX1_sing 30 = .ok (.iload_n 2, 1) := by decide +kernel
theorem dX1_sing_31 : decode cX1_sing 31 = .ok (.isub, 1) := by decide +kernel
theorem dX1_sing_32 : decode cX1_sing 32 = .ok (.ireturn, 1) := by decide +kernel
theorem dX1_pots_0 : decode cX1_pots 0 = .ok (.aload_n 0, 1) := by decide +kernel
theorem dX1_pots_1 : decode cX1_pots 1 = .ok (.getfield 10, 3) := by decide +kernel
theorem dX1_pots_4 : decode cX1_pots 4 = .ok (.getfield 23, 3) := by decide +kernel
theorem dX1_pots_7 : decode cX1_pots 7 = .ok (.ireturn, 1) := by decide +kernel
theorem dX1_partOf_0 : decode cX1_partOf 0 = .ok (.aload_n 0, 1) := by decide +kernel
theorem dX1_partOf_1 : decode cX1_partOf 1 = .ok (.iload_n 1, 1) := by decide +kernel
theorem dX1_partOf_2 : decode cX1_partOf 2 = .ok (.invokevirtual 38, 3) := by decide +kernel
theorem dX1_partOf_5 : decode cX1_partOf 5 = .ok (.aload_n 0, 1) := by decide +kernel
theorem dX1_partOf_6 : decode cX1_partOf 6 = .ok (.getfield 10, 3) := by decide +kernel
theorem dX1_partOf_9 : decode cX1_partOf 9 = .ok (.getfield 73, 3) := by decide +kernel
theorem dX1_partOf_12 : decode cX1_partOf 12 = .ok (.iload_n 1, 1) := by decide +kernel
theorem dX1_partOf_13 : decode cX1_partOf 13 = .ok (.iaload, 1) := by decide +kernel
theorem dX1_partOf_14 : decode cX1_partOf 14 = .ok (.ireturn, 1) := by decide +kernel
theorem dX1_pitchOf_0 : decode cX1_pitchOf 0 = .ok (.aload_n 0, 1) := by decide +kernel
theorem dX1_pitchOf_1 : decode cX1_pitchOf 1 = .ok (.iload_n 1, 1) := by decide +kernel
theorem dX1_pitchOf_2 : decode cX1_pitchOf 2 = .ok (.invokevirtual 38, 3) := by decide +kernel
theorem dX1_pitchOf_5 : decode cX1_pitchOf 5 = .ok (.aload_n 0, 1) := by decide +kernel
theorem dX1_pitchOf_6 : decode cX1_pitchOf 6 = .ok (.getfield 10, 3) := by decide +kernel
theorem dX1_pitchOf_9 : decode cX1_pitchOf 9 = .ok (.getfield 42, 3) := by decide +kernel
theorem dX1_pitchOf_12 : decode cX1_pitchOf 12 = .ok (.iload_n 1, 1) := by decide +kernel
theorem dX1_pitchOf_13 : decode cX1_pitchOf 13 = .ok (.iaload, 1) := by decide +kernel
theorem dX1_pitchOf_14 : decode cX1_pitchOf 14 = .ok (.ireturn, 1) := by decide +kernel
theorem dX1_teaOf_0 : decode cX1_teaOf 0 = .ok (.aload_n 0, 1) := by decide +kernel
theorem dX1_teaOf_1 : decode cX1_teaOf 1 = .ok (.iload_n 1, 1) := by decide +kernel
theorem dX1_teaOf_2 : decode cX1_teaOf 2 = .ok (.invokevirtual 38, 3) := by decide +kernel
theorem dX1_teaOf_5 : decode cX1_teaOf 5 = .ok (.aload_n 0, 1) := by decide +kernel
theorem dX1_teaOf_6 : decode cX1_teaOf 6 = .ok (.getfield 10, 3) := by decide +kernel
theorem dX1_teaOf_9 : decode cX1_teaOf 9 = .ok (.getfield 55, 3) := by decide +kernel
theorem dX1_teaOf_12 : decode cX1_teaOf 12 = .ok (.iload_n 1, 1) := by decide +kernel
theorem dX1_teaOf_13 : decode cX1_teaOf 13 = .ok (.iaload, 1) := by decide +kernel
theorem dX1_teaOf_14 : decode cX1_teaOf 14 = .ok (.ireturn, 1) := by decide +kernel
theorem dX1_crackOf_0 : decode cX1_crackOf 0 = .ok (.aload_n 0, 1) := by decide +kernel
theorem dX1_crackOf_1 : decode cX1_crackOf 1 = .ok (.iload_n 1, 1) := by decide +kernel
theorem dX1_crackOf_2 : decode cX1_crackOf 2 = .ok (.invokevirtual 38, 3) := by decide +kernel
theorem dX1_crackOf_5 : decode cX1_crackOf 5 = .ok (.aload_n 0, 1) := by decide +kernel
theorem dX1_crackOf_6 : decode cX1_crackOf 6 = .ok (.getfield 10, 3) := by decide +kernel
theorem dX1_crackOf_9 : decode cX1_crackOf 9 = .ok (.getfield 64, 3) := by decide +kernel
theorem dX1_crackOf_12 : decode cX1_crackOf 12 = .ok (.iload_n 1, 1) := by decide +kernel
theorem dX1_crackOf_13 : decode cX1_crackOf 13 = .ok (.iaload, 1) := by decide +kernel
theorem dX1_crackOf_14 : decode cX1_crackOf 14 = .ok (.ireturn, 1) := by decide +kernel
theorem dX1_sounds_0 : decode cX1_sounds 0 = .ok (.aload_n 0, 1) := by decide +kernel
theorem dX1_sounds_1 : decode cX1_sounds 1 = .ok (.iload_n 1, 1) := by decide +kernel
theorem dX1_sounds_2 : decode cX1_sounds 2 = .ok (.invokevirtual 38, 3) := by decide +kernel
theorem dX1_sounds_5 : decode cX1_sounds 5 = .ok (.aload_n 0, 1) := by decide +kernel
theorem dX1_sounds_6 : decode cX1_sounds 6 = .ok (.getfield 10, 3) := by decide +kernel
theorem dX1_sounds_9 : decode cX1_sounds 9 = .ok (.iload_n 1, 1) := by decide +kernel
theorem dX1_sounds_10 : decode cX1_sounds 10 = .ok (.invokevirtual 76, 3) := by decide +kernel
theorem dX1_sounds_13 : decode cX1_sounds 13 = .ok (.ireturn, 1) := by decide +kernel
theorem dX1_soundingOf_0 : decode cX1_soundingOf 0 = .ok (.iload_n 1, 1) := by decide +kernel
theorem dX1_soundingOf_1 : decode cX1_soundingOf 1 = .ok (.ifCond .lt 8, 3) := by decide +kernel
theorem dX1_soundingOf_4 : decode cX1_soundingOf 4 = .ok (.iload_n 1, 1) := by decide +kernel
theorem dX1_soundingOf_5 : decode cX1_soundingOf 5 = .ok (.iconst 4, 1) := by decide +kernel
theorem dX1_soundingOf_6 : decode cX1_soundingOf 6 = .ok (.if_icmp .lt 13, 3) := by decide +kernel
theorem dX1_soundingOf_9 : decode cX1_soundingOf 9 = .ok (.new 80, 3) := by decide +kernel
theorem dX1_soundingOf_12 : decode cX1_soundingOf 12 = .ok (.dup, 1) := by decide +kernel
theorem dX1_soundingOf_13 : decode cX1_soundingOf 13 = .ok (.ldc 82, 2) := by decide +kernel
theorem dX1_soundingOf_15 : decode cX1_soundingOf 15 = .ok (.invokespecial 84, 3) := by decide +kernel
theorem dX1_soundingOf_18 : decode cX1_soundingOf 18 = .ok (.athrow, 1) := by decide +kernel
theorem dX1_soundingOf_19 : decode cX1_soundingOf 19 = .ok (.aload_n 0, 1) := by decide +kernel
theorem dX1_soundingOf_20 : decode cX1_soundingOf 20 = .ok (.getfield 10, 3) := by decide +kernel
theorem dX1_soundingOf_23 : decode cX1_soundingOf 23 = .ok (.iload_n 1, 1) := by decide +kernel
theorem dX1_soundingOf_24 : decode cX1_soundingOf 24 = .ok (.invokevirtual 85, 3) := by decide +kernel
theorem dX1_soundingOf_27 : decode cX1_soundingOf 27 = .ok (.ireturn, 1) := by decide +kernel
theorem dX1_beats_0 : decode cX1_beats 0 = .ok (.aload_n 0, 1) := by decide +kernel
theorem dX1_beats_1 : decode cX1_beats 1 = .ok (.getfield 10, 3) := by decide +kernel
theorem dX1_beats_4 : decode cX1_beats 4 = .ok (.getfield 89, 3) := by decide +kernel
theorem dX1_beats_7 : decode cX1_beats 7 = .ok (.ireturn, 1) := by decide +kernel
theorem dX1_sounding_0 : decode cX1_sounding 0 = .ok (.aload_n 0, 1) := by decide +kernel
theorem dX1_sounding_1 : decode cX1_sounding 1 = .ok (.getfield 10, 3) := by decide +kernel
theorem dX1_sounding_4 : decode cX1_sounding 4 = .ok (.invokevirtual 92, 3) := by decide +kernel
theorem dX1_sounding_7 : decode cX1_sounding 7 = .ok (.ireturn, 1) := by decide +kernel
theorem dX1_interval_0 : decode cX1_interval 0 = .ok (.aload_n 0, 1) := by decide +kernel
theorem dX1_interval_1 : decode cX1_interval 1 = .ok (.iload_n 1, 1) := by decide +kernel
theorem dX1_interval_2 : decode cX1_interval 2 = .ok (.invokevirtual 38, 3) := by decide +kernel
theorem dX1_interval_5 : decode cX1_interval 5 = .ok (.aload_n 0, 1) := by decide +kernel
theorem dX1_interval_6 : decode cX1_interval 6 = .ok (.iload_n 2, 1) := by decide +kernel
theorem dX1_interval_7 : decode cX1_interval 7 = .ok (.invokevirtual 38, 3) := by decide +kernel
theorem dX1_interval_10 : decode cX1_interval 10 = .ok (.aload_n 0, 1) := by decide +kernel
theorem dX1_interval_11 : decode cX1_interval 11 = .ok (.getfield 10, 3) := by decide +kernel
theorem dX1_interval_14 : decode cX1_interval 14 = .ok (.getfield 42, 3) := by decide +kernel
theorem dX1_interval_17 : decode cX1_interval 17 = .ok (.iload_n 1, 1) := by decide +kernel
theorem dX1_interval_18 : decode cX1_interval 18 = .ok (.iaload, 1) := by decide +kernel
theorem dX1_interval_19 : decode cX1_interval 19 = .ok (.aload_n 0, 1) := by decide +kernel
theorem dX1_interval_20 : decode cX1_interval 20 = .ok (.getfield 10, 3) := by decide +kernel
theorem dX1_interval_23 : decode cX1_interval 23 = .ok (.getfield 42, 3) := by decide +kernel
theorem dX1_interval_26 : decode cX1_interval 26 = .ok (.iload_n 2, 1) := by decide +kernel
theorem dX1_interval_27 : decode cX1_interval 27 = .ok (.iaload, 1) := by decide +kernel
theorem dX1_interval_28 : decode cX1_interval 28 = .ok (.isub, 1) := by decide +kernel
theorem dX1_interval_29 : decode cX1_interval 29 = .ok (.invokestatic 96, 3) := by decide +kernel
theorem dX1_interval_32 : decode cX1_interval 32 = .ok (.ireturn, 1) := by decide +kernel
theorem dX1_areInAccord_0 : decode cX1_areInAccord 0 = .ok (.aload_n 0, 1) := by decide +kernel
theorem dX1_areInAccord_1 : decode cX1_areInAccord 1 = .ok (.iload_n 1, 1) := by decide +kernel
theorem dX1_areInAccord_2 : decode cX1_areInAccord 2 = .ok (.invokevirtual 38, 3) := by decide +kernel
theorem dX1_areInAccord_5 : decode cX1_areInAccord 5 = .ok (.aload_n 0, 1) := by decide +kernel
theorem dX1_areInAccord_6 : decode cX1_areInAccord 6 = .ok (.iload_n 2, 1) := by decide +kernel
theorem dX1_areInAccord_7 : decode cX1_areInAccord 7 = .ok (.invokevirtual 38, 3) := by decide +kernel
theorem dX1_areInAccord_10 : decode cX1_areInAccord 10 = .ok (.aload_n 0, 1) := by decide +kernel
theorem dX1_areInAccord_11 : decode cX1_areInAccord 11 = .ok (.getfield 10, 3) := by decide +kernel
theorem dX1_areInAccord_14 : decode cX1_areInAccord 14 = .ok (.getfield 42, 3) := by decide +kernel
theorem dX1_areInAccord_17 : decode cX1_areInAccord 17 = .ok (.iload_n 1, 1) := by decide +kernel
theorem dX1_areInAccord_18 : decode cX1_areInAccord 18 = .ok (.iaload, 1) := by decide +kernel
theorem dX1_areInAccord_19 : decode cX1_areInAccord 19 = .ok (.aload_n 0, 1) := by decide +kernel
theorem dX1_areInAccord_20 : decode cX1_areInAccord 20 = .ok (.getfield 10, 3) := by decide +kernel
theorem dX1_areInAccord_23 : decode cX1_areInAccord 23 = .ok (.getfield 42, 3) := by decide +kernel
theorem dX1_areInAccord_26 : decode cX1_areInAccord 26 = .ok (.iload_n 2, 1) := by decide +kernel
theorem dX1_areInAccord_27 : decode cX1_areInAccord 27 = .ok (.iaload, 1) := by decide +kernel
theorem dX1_areInAccord_28 : decode cX1_areInAccord 28 = .ok (.invokestatic 99, 3) := by decide +kernel
theorem dX1_areInAccord_31 : decode cX1_areInAccord 31 = .ok (.ireturn, 1) := by decide +kernel
theorem dX1_harmony_0 : decode cX1_harmony 0 = .ok (.aload_n 0, 1) := by decide +kernel
theorem dX1_harmony_1 : decode cX1_harmony 1 = .ok (.getfield 10, 3) := by decide +kernel
theorem dX1_harmony_4 : decode cX1_harmony 4 = .ok (.invokevirtual 103, 3) := by decide +kernel
theorem dX1_harmony_7 : decode cX1_harmony 7 = .ok (.ireturn, 1) := by decide +kernel
theorem dX1_clashes_0 : decode cX1_clashes 0 = .ok (.aload_n 0, 1) := by decide +kernel
theorem dX1_clashes_1 : decode cX1_clashes 1 = .ok (.getfield 10, 3) := by decide +kernel
theorem dX1_clashes_4 : decode cX1_clashes 4 = .ok (.invokevirtual 106, 3) := by decide +kernel
theorem dX1_clashes_7 : decode cX1_clashes 7 = .ok (.ireturn, 1) := by decide +kernel
theorem dX1_clashesOf_0 : decode cX1_clashesOf 0 = .ok (.aload_n 0, 1) := by decide +kernel
theorem dX1_clashesOf_1 : decode cX1_clashesOf 1 = .ok (.iload_n 1, 1) := by decide +kernel
theorem dX1_clashesOf_2 : decode cX1_clashesOf 2 = .ok (.invokevirtual 38, 3) := by decide +kernel
theorem dX1_clashesOf_5 : decode cX1_clashesOf 5 = .ok (.aload_n 0, 1) := by decide +kernel
theorem dX1_clashesOf_6 : decode cX1_clashesOf 6 = .ok (.getfield 10, 3) := by decide +kernel
theorem dX1_clashesOf_9 : decode cX1_clashesOf 9 = .ok (.iload_n 1, 1) := by decide +kernel
theorem dX1_clashesOf_10 : decode cX1_clashesOf 10 = .ok (.invokevirtual 76, 3) := by decide +kernel
theorem dX1_clashesOf_13 : decode cX1_clashesOf 13 = .ok (.ifCond .eq 23, 3) := by decide +kernel
theorem dX1_clashesOf_16 : decode cX1_clashesOf 16 = .ok (.aload_n 0, 1) := by decide +kernel
theorem dX1_clashesOf_17 : decode cX1_clashesOf 17 = .ok (.getfield 10, 3) := by decide +kernel
theorem dX1_clashesOf_20 : decode cX1_clashesOf 20 = .ok (.iload_n 1, 1) := by decide +kernel
theorem dX1_clashesOf_21 : decode cX1_clashesOf 21 = .ok (.aload_n 0, 1) := by decide +kernel
theorem dX1_clashesOf_22 : decode cX1_clashesOf 22 = .ok (.getfield 10, 3) := by decide +kernel
theorem dX1_clashesOf_25 : decode cX1_clashesOf 25 = .ok (.getfield 42, 3) := by decide +kernel
theorem dX1_clashesOf_28 : decode cX1_clashesOf 28 = .ok (.iload_n 1, 1) := by decide +kernel
theorem dX1_clashesOf_29 : decode cX1_clashesOf 29 = .ok (.iaload, 1) := by decide +kernel
theorem dX1_clashesOf_30 : decode cX1_clashesOf 30 = .ok (.invokevirtual 109, 3) := by decide +kernel
theorem dX1_clashesOf_33 : decode cX1_clashesOf 33 = .ok (.goto 4, 3) := by decide +kernel
theorem dX1_clashesOf_36 : decode cX1_clashesOf 36 = .ok (.iconst 0, 1) := by decide +kernel
theorem dX1_clashesOf_37 : decode cX1_clashesOf 37 = .ok (.ireturn, 1) := by decide +kernel
theorem dX1_harshest_0 : decode cX1_harshest 0 = .ok (.aload_n 0, 1) := by decide +kernel
theorem dX1_harshest_1 : decode cX1_harshest 1 = .ok (.getfield 10, 3) := by decide +kernel
theorem dX1_harshest_4 : decode cX1_harshest 4 = .ok (.invokevirtual 106, 3) := by decide +kernel
theorem dX1_harshest_7 : decode cX1_harshest 7 = .ok (.ifCond .le 13, 3) := by decide +kernel
theorem dX1_harshest_10 : decode cX1_harshest 10 = .ok (.aload_n 0, 1) := by decide +kernel
theorem dX1_harshest_11 : decode cX1_harshest 11 = .ok (.getfield 10, 3) := by decide +kernel
theorem dX1_harshest_14 : decode cX1_harshest 14 = .ok (.invokevirtual 112, 3) := by decide +kernel
theorem dX1_harshest_17 : decode cX1_harshest 17 = .ok (.goto 4, 3) := by decide +kernel
theorem dX1_harshest_20 : decode cX1_harshest 20 = .ok (.iconst (-1), 1) := by decide +kernel
theorem dX1_harshest_21 : decode cX1_harshest 21 = .ok (.ireturn, 1) := by decide +kernel
theorem dX1_lowest_0 : decode cX1_lowest 0 = .ok (.aload_n 0, 1) := by decide +kernel
theorem dX1_lowest_1 : decode cX1_lowest 1 = .ok (.getfield 10, 3) := by decide +kernel
theorem dX1_lowest_4 : decode cX1_lowest 4 = .ok (.invokevirtual 115, 3) := by decide +kernel
theorem dX1_lowest_7 : decode cX1_lowest 7 = .ok (.ireturn, 1) := by decide +kernel
theorem dX1_isClear_0 : decode cX1_isClear 0 = .ok (.aload_n 0, 1) := by decide +kernel
theorem dX1_isClear_1 : decode cX1_isClear 1 = .ok (.getfield 10, 3) := by decide +kernel
theorem dX1_isClear_4 : decode cX1_isClear 4 = .ok (.invokevirtual 118, 3) := by decide +kernel
theorem dX1_isClear_7 : decode cX1_isClear 7 = .ok (.ireturn, 1) := by decide +kernel
theorem dX1_cadences_0 : decode cX1_cadences 0 = .ok (.aload_n 0, 1) := by decide +kernel
theorem dX1_cadences_1 : decode cX1_cadences 1 = .ok (.getfield 10, 3) := by decide +kernel
theorem dX1_cadences_4 : decode cX1_cadences 4 = .ok (.getfield 67, 3) := by decide +kernel
theorem dX1_cadences_7 : decode cX1_cadences 7 = .ok (.ireturn, 1) := by decide +kernel
theorem dX1_bestTuning_0 : decode cX1_bestTuning 0 = .ok (.aload_n 0, 1) := by decide +kernel
theorem dX1_bestTuning_1 : decode cX1_bestTuning 1 = .ok (.iload_n 1, 1) := by decide +kernel
theorem dX1_bestTuning_2 : decode cX1_bestTuning 2 = .ok (.invokevirtual 38, 3) := by decide +kernel
theorem dX1_bestTuning_5 : decode cX1_bestTuning 5 = .ok (.aload_n 0, 1) := by decide +kernel
theorem dX1_bestTuning_6 : decode cX1_bestTuning 6 = .ok (.getfield 10, 3) := by decide +kernel
theorem dX1_bestTuning_9 : decode cX1_bestTuning 9 = .ok (.iload_n 1, 1) := by decide +kernel
theorem dX1_bestTuning_10 : decode cX1_bestTuning 10 = .ok (.invokevirtual 76, 3) := by decide +kernel
theorem dX1_bestTuning_13 : decode cX1_bestTuning 13 = .ok (.ifCond .eq 14, 3) := by decide +kernel
theorem dX1_bestTuning_16 : decode cX1_bestTuning 16 = .ok (.aload_n 0, 1) := by decide +kernel
theorem dX1_bestTuning_17 : decode cX1_bestTuning 17 = .ok (.getfield 10, 3) := by decide +kernel
theorem dX1_bestTuning_20 : decode cX1_bestTuning 20 = .ok (.iload_n 1, 1) := by decide +kernel
theorem dX1_bestTuning_21 : decode cX1_bestTuning 21 = .ok (.invokevirtual 122, 3) := by decide +kernel
theorem dX1_bestTuning_24 : decode cX1_bestTuning 24 = .ok (.goto 4, 3) := by decide +kernel
theorem dX1_bestTuning_27 : decode cX1_bestTuning 27 = .ok (.iconst 0, 1) := by decide +kernel
theorem dX1_bestTuning_28 : decode cX1_bestTuning 28 = .ok (.ireturn, 1) := by decide +kernel
theorem dX1_bestToMute_0 : decode cX1_bestToMute 0 = .ok (.aload_n 0, 1) := by decide +kernel
theorem dX1_bestToMute_1 : decode cX1_bestToMute 1 = .ok (.getfield 10, 3) := by decide +kernel
theorem dX1_bestToMute_4 : decode cX1_bestToMute 4 = .ok (.invokevirtual 112, 3) := by decide +kernel
theorem dX1_bestToMute_7 : decode cX1_bestToMute 7 = .ok (.ireturn, 1) := by decide +kernel
theorem dX1_harmonyIn_0 : decode cX1_harmonyIn 0 = .ok (.iload_n 1, 1) := by decide +kernel
theorem dX1_harmonyIn_1 : decode cX1_harmonyIn 1 = .ok (.iconst 1, 1) := by decide +kernel
theorem dX1_harmonyIn_2 : decode cX1_harmonyIn 2 = .ok (.bipush 60, 2) := by decide +kernel
theorem dX1_harmonyIn_4 : decode cX1_harmonyIn 4 = .ok (.invokestatic 19, 3) := by decide +kernel
theorem dX1_harmonyIn_7 : decode cX1_harmonyIn 7 = .ok (.aload_n 0, 1) := by decide +kernel
theorem dX1_harmonyIn_8 : decode cX1_harmonyIn 8 = .ok (.getfield 16, 3) := by decide +kernel
theorem dX1_harmonyIn_11 : decode cX1_harmonyIn 11 = .ok (.aload_n 0, 1) := by decide +kernel
theorem dX1_harmonyIn_12 : decode cX1_harmonyIn 12 = .ok (.getfield 10, 3) := by decide +kernel
theorem dX1_harmonyIn_15 : decode cX1_harmonyIn 15 = .ok (.invokevirtual 125, 3) := by decide +kernel
theorem dX1_harmonyIn_18 : decode cX1_harmonyIn 18 = .ok (.aload_n 0, 1) := by decide +kernel
theorem dX1_harmonyIn_19 : decode cX1_harmonyIn 19 = .ok (.getfield 16, 3) := by decide +kernel
theorem dX1_harmonyIn_22 : decode cX1_harmonyIn 22 = .ok (.iload_n 1, 1) := by decide +kernel
theorem dX1_harmonyIn_23 : decode cX1_harmonyIn 23 = .ok (.invokevirtual 70, 3) := by decide +kernel
theorem dX1_harmonyIn_26 : decode cX1_harmonyIn 26 = .ok (.aload_n 0, 1) := by decide +kernel
theorem dX1_harmonyIn_27 : decode cX1_harmonyIn 27 = .ok (.getfield 16, 3) := by decide +kernel
theorem dX1_harmonyIn_30 : decode cX1_harmonyIn 30 = .ok (.invokevirtual 103, 3) := by decide +kernel
theorem dX1_harmonyIn_33 : decode cX1_harmonyIn 33 = .ok (.ireturn, 1) := by decide +kernel
theorem dX1_beatsUntilSilence_0 : decode cX1_beatsUntilSilence 0 = .ok (.aload_n 0, 1) := by decide +kernel
theorem dX1_beatsUntilSilence_1 : decode cX1_beatsUntilSilence 1 = .ok (.getfield 16, 3) := by decide +kernel
theorem dX1_beatsUntilSilence_4 : decode cX1_beatsUntilSilence 4 = .ok (.aload_n 0, 1) := by decide +kernel
theorem dX1_beatsUntilSilence_5 : decode cX1_beatsUntilSilence 5 = .ok (.getfield 10, 3) := by decide +kernel
theorem dX1_beatsUntilSilence_8 : decode cX1_beatsUntilSilence 8 = .ok (.invokevirtual 125, 3) := by decide +kernel
theorem dX1_beatsUntilSilence_11 : decode cX1_beatsUntilSilence 11 = .ok (.iconst 0, 1) := by decide +kernel
theorem dX1_beatsUntilSilence_12 : decode cX1_beatsUntilSilence 12 = .ok (.istore_n 1, 1) := by decide +kernel
theorem dX1_beatsUntilSilence_13 : decode cX1_beatsUntilSilence 13 = .ok (.iload_n 1, 1) := by decide +kernel
theorem dX1_beatsUntilSilence_14 : decode cX1_beatsUntilSilence 14 = .ok (.bipush 20, 2) := by decide +kernel
theorem dX1_beatsUntilSilence_16 : decode cX1_beatsUntilSilence 16 = .ok (.if_icmp .ge 26, 3) := by decide +kernel
theorem dX1_beatsUntilSilence_19 : decode cX1_beatsUntilSilence 19 = .ok (.aload_n 0, 1) := by decide +kernel
theorem dX1_beatsUntilSilence_20 : decode cX1_beatsUntilSilence 20 = .ok (.getfield 16, 3) := by decide +kernel
theorem dX1_beatsUntilSilence_23 : decode cX1_beatsUntilSilence 23 = .ok (.invokevirtual 92, 3) := by decide +kernel
theorem dX1_beatsUntilSilence_26 : decode cX1_beatsUntilSilence 26 = .ok (.ifCond .le 16, 3) := by decide +kernel
theorem dX1_beatsUntilSilence_29 : decode cX1_beatsUntilSilence 29 = .ok (.aload_n 0, 1) := by decide +kernel
theorem dX1_beatsUntilSilence_30 : decode cX1_beatsUntilSilence 30 = .ok (.getfield 16, 3) := by decide +kernel
theorem dX1_beatsUntilSilence_33 : decode cX1_beatsUntilSilence 33 = .ok (.invokevirtual 129, 3) := by decide +kernel
theorem dX1_beatsUntilSilence_36 : decode cX1_beatsUntilSilence 36 = .ok (.iinc 1 1, 3) := by decide +kernel
theorem dX1_beatsUntilSilence_39 : decode cX1_beatsUntilSilence 39 = .ok (.goto (-26), 3) := by decide +kernel
theorem dX1_beatsUntilSilence_42 : decode cX1_beatsUntilSilence 42 = .ok (.iload_n 1, 1) := by decide +kernel
theorem dX1_beatsUntilSilence_43 : decode cX1_beatsUntilSilence 43 = .ok (.ireturn, 1) := by decide +kernel
theorem dX1_beatsUntilCadence_0 : decode cX1_beatsUntilCadence 0 = .ok (.aload_n 0, 1) := by decide +kernel
theorem dX1_beatsUntilCadence_1 : decode cX1_beatsUntilCadence 1 = .ok (.getfield 16, 3) := by decide +kernel
theorem dX1_beatsUntilCadence_4 : decode cX1_beatsUntilCadence 4 = .ok (.aload_n 0, 1) := by decide +kernel
theorem dX1_beatsUntilCadence_5 : decode cX1_beatsUntilCadence 5 = .ok (.getfield 10, 3) := by decide +kernel
theorem dX1_beatsUntilCadence_8 : decode cX1_beatsUntilCadence 8 = .ok (.invokevirtual 125, 3) := by decide +kernel
theorem dX1_beatsUntilCadence_11 : decode cX1_beatsUntilCadence 11 = .ok (.iconst 1, 1) := by decide +kernel
theorem dX1_beatsUntilCadence_12 : decode cX1_beatsUntilCadence 12 = .ok (.istore_n 1, 1) := by decide +kernel
theorem dX1_beatsUntilCadence_13 : decode cX1_beatsUntilCadence 13 = .ok (.iload_n 1, 1) := by decide +kernel
theorem dX1_beatsUntilCadence_14 : decode cX1_beatsUntilCadence 14 = .ok (.bipush 60, 2) := by decide +kernel
theorem dX1_beatsUntilCadence_16 : decode cX1_beatsUntilCadence 16 = .ok (.if_icmp .gt 35, 3) := by decide +kernel
theorem dX1_beatsUntilCadence_19 : decode cX1_beatsUntilCadence 19 = .ok (.aload_n 0, 1) := by decide +kernel
theorem dX1_beatsUntilCadence_20 : decode cX1_beatsUntilCadence 20 = .ok (.getfield 16, 3) := by decide +kernel
theorem dX1_beatsUntilCadence_23 : decode cX1_beatsUntilCadence 23 = .ok (.invokevirtual 129, 3) := by decide +kernel
theorem dX1_beatsUntilCadence_26 : decode cX1_beatsUntilCadence 26 = .ok (.aload_n 0, 1) := by decide +kernel
theorem dX1_beatsUntilCadence_27 : decode cX1_beatsUntilCadence 27 = .ok (.getfield 16, 3) := by decide +kernel
theorem dX1_beatsUntilCadence_30 : decode cX1_beatsUntilCadence 30 = .ok (.getfield 67, 3) := by decide +kernel
theorem dX1_beatsUntilCadence_33 : decode cX1_beatsUntilCadence 33 = .ok (.aload_n 0, 1) := by decide +kernel
theorem dX1_beatsUntilCadence_34 : decode cX1_beatsUntilCadence 34 = .ok (.getfield 10, 3) := by decide +kernel
theorem dX1_beatsUntilCadence_37 : decode cX1_beatsUntilCadence 37 = .ok (.getfield 67, 3) := by decide +kernel
theorem dX1_beatsUntilCadence_40 : decode cX1_beatsUntilCadence 40 = .ok (.if_icmp .le 5, 3) := by decide +kernel
theorem dX1_beatsUntilCadence_43 : decode cX1_beatsUntilCadence 43 = .ok (.iload_n 1, 1) := by decide +kernel
theorem dX1_beatsUntilCadence_44 : decode cX1_beatsUntilCadence 44 = .ok (.ireturn, 1) := by decide +kernel
theorem dX1_beatsUntilCadence_45 : decode cX1_beatsUntilCadence 45 = .ok (.iinc 1 1, 3) := by decide +kernel
theorem dX1_beatsUntilCadence_48 : decode cX1_beatsUntilCadence 48 = .ok (.goto (-35), 3) := by decide +kernel
theorem dX1_beatsUntilCadence_51 : decode cX1_beatsUntilCadence 51 = .ok (.iconst (-1), 1) := by decide +kernel
theorem dX1_beatsUntilCadence_52 : decode cX1_beatsUntilCadence 52 = .ok (.ireturn, 1) := by decide +kernel
theorem dX1_greatestAccord_0 : decode cX1_greatestAccord 0 = .ok (.aload_n 0, 1) := by decide +kernel
theorem dX1_greatestAccord_1 : decode cX1_greatestAccord 1 = .ok (.getfield 10, 3) := by decide +kernel
theorem dX1_greatestAccord_4 : decode cX1_greatestAccord 4 = .ok (.invokevirtual 132, 3) := by decide +kernel
theorem dX1_greatestAccord_7 : decode cX1_greatestAccord 7 = .ok (.ireturn, 1) := by decide +kernel
theorem dX1_meanPitch_0 : decode cX1_meanPitch 0 = .ok (.aload_n 0, 1) := by decide +kernel
theorem dX1_meanPitch_1 : decode cX1_meanPitch 1 = .ok (.getfield 10, 3) := by decide +kernel
theorem dX1_meanPitch_4 : decode cX1_meanPitch 4 = .ok (.invokevirtual 135, 3) := by decide +kernel
theorem dX1_meanPitch_7 : decode cX1_meanPitch 7 = .ok (.dreturn, 1) := by decide +kernel
theorem dX1_digest_0 : decode cX1_digest 0 = .ok (.ldc2_w 139, 3) := by decide +kernel
theorem dX1_digest_3 : decode cX1_digest 3 = .ok (.lstore_n 1, 1) := by decide +kernel
theorem dX1_digest_4 : decode cX1_digest 4 = .ok (.lload_n 1, 1) := by decide +kernel
theorem dX1_digest_5 : decode cX1_digest 5 = .ok (.ldc2_w 141, 3) := by decide +kernel
theorem dX1_digest_8 : decode cX1_digest 8 = .ok (.lmul, 1) := by decide +kernel
theorem dX1_digest_9 : decode cX1_digest 9 = .ok (.aload_n 0, 1) := by decide +kernel
theorem dX1_digest_10 : decode cX1_digest 10 = .ok (.invokevirtual 143, 3) := by decide +kernel
theorem dX1_digest_13 : decode cX1_digest 13 = .ok (.i2l, 1) := by decide +kernel
theorem dX1_digest_14 : decode cX1_digest 14 = .ok (.ladd, 1) := by decide +kernel
theorem dX1_digest_15 : decode cX1_digest 15 = .ok (.lstore_n 1, 1) := by decide +kernel
theorem dX1_digest_16 : decode cX1_digest 16 = .ok (.lload_n 1, 1) := by decide +kernel
theorem dX1_digest_17 : decode cX1_digest 17 = .ok (.ldc2_w 141, 3) := by decide +kernel
theorem dX1_digest_20 : decode cX1_digest 20 = .ok (.lmul, 1) := by decide +kernel
theorem dX1_digest_21 : decode cX1_digest 21 = .ok (.aload_n 0, 1) := by decide +kernel
theorem dX1_digest_22 : decode cX1_digest 22 = .ok (.invokevirtual 146, 3) := by decide +kernel
theorem dX1_digest_25 : decode cX1_digest 25 = .ok (.i2l, 1) := by decide +kernel
theorem dX1_digest_26 : decode cX1_digest 26 = .ok (.ladd, 1) := by decide +kernel
theorem dX1_digest_27 : decode cX1_digest 27 = .ok (.lstore_n 1, 1) := by decide +kernel
theorem dX1_digest_28 : decode cX1_digest 28 = .ok (.lload_n 1, 1) := by decide +kernel
theorem dX1_digest_29 : decode cX1_digest 29 = .ok (.ldc2_w 141, 3) := by decide +kernel
theorem dX1_digest_32 : decode cX1_digest 32 = .ok (.lmul, 1) := by decide +kernel
theorem dX1_digest_33 : decode cX1_digest 33 = .ok (.aload_n 0, 1) := by decide +kernel
theorem dX1_digest_34 : decode cX1_digest 34 = .ok (.invokevirtual 149, 3) := by decide +kernel
theorem dX1_digest_37 : decode cX1_digest 37 = .ok (.i2l, 1) := by decide +kernel
theorem dX1_digest_38 : decode cX1_digest 38 = .ok (.ladd, 1) := by decide +kernel
theorem dX1_digest_39 : decode cX1_digest 39 = .ok (.lstore_n 1, 1) := by decide +kernel
theorem dX1_digest_40 : decode cX1_digest 40 = .ok (.lload_n 1, 1) := by decide +kernel
theorem dX1_digest_41 : decode cX1_digest 41 = .ok (.ldc2_w 141, 3) := by decide +kernel
theorem dX1_digest_44 : decode cX1_digest 44 = .ok (.lmul, 1) := by decide +kernel
theorem dX1_digest_45 : decode cX1_digest 45 = .ok (.aload_n 0, 1) := by decide +kernel
theorem dX1_digest_46 : decode cX1_digest 46 = .ok (.invokevirtual 152, 3) := by decide +kernel
theorem dX1_digest_49 : decode cX1_digest 49 = .ok (.i2l, 1) := by decide +kernel
theorem dX1_digest_50 : decode cX1_digest 50 = .ok (.ladd, 1) := by decide +kernel
theorem dX1_digest_51 : decode cX1_digest 51 = .ok (.lstore_n 1, 1) := by decide +kernel
theorem dX1_digest_52 : decode cX1_digest 52 = .ok (.lload_n 1, 1) := by decide +kernel
theorem dX1_digest_53 : decode cX1_digest 53 = .ok (.ldc2_w 141, 3) := by decide +kernel
theorem dX1_digest_56 : decode cX1_digest 56 = .ok (.lmul, 1) := by decide +kernel
theorem dX1_digest_57 : decode cX1_digest 57 = .ok (.aload_n 0, 1) := by decide +kernel
theorem dX1_digest_58 : decode cX1_digest 58 = .ok (.invokevirtual 155, 3) := by decide +kernel
theorem dX1_digest_61 : decode cX1_digest 61 = .ok (.i2l, 1) := by decide +kernel
theorem dX1_digest_62 : decode cX1_digest 62 = .ok (.ladd, 1) := by decide +kernel
theorem dX1_digest_63 : decode cX1_digest 63 = .ok (.lstore_n 1, 1) := by decide +kernel
theorem dX1_digest_64 : decode cX1_digest 64 = .ok (.lload_n 1, 1) := by decide +kernel
theorem dX1_digest_65 : decode cX1_digest 65 = .ok (.ldc2_w 141, 3) := by decide +kernel
theorem dX1_digest_68 : decode cX1_digest 68 = .ok (.lmul, 1) := by decide +kernel
theorem dX1_digest_69 : decode cX1_digest 69 = .ok (.aload_n 0, 1) := by decide +kernel
theorem dX1_digest_70 : decode cX1_digest 70 = .ok (.invokevirtual 158, 3) := by decide +kernel
theorem dX1_digest_73 : decode cX1_digest 73 = .ok (.i2l, 1) := by decide +kernel
theorem dX1_digest_74 : decode cX1_digest 74 = .ok (.ladd, 1) := by decide +kernel
theorem dX1_digest_75 : decode cX1_digest 75 = .ok (.lstore_n 1, 1) := by decide +kernel
theorem dX1_digest_76 : decode cX1_digest 76 = .ok (.lload_n 1, 1) := by decide +kernel
theorem dX1_digest_77 : decode cX1_digest 77 = .ok (.ldc2_w 141, 3) := by decide +kernel
theorem dX1_digest_80 : decode cX1_digest 80 = .ok (.lmul, 1) := by decide +kernel
theorem dX1_digest_81 : decode cX1_digest 81 = .ok (.aload_n 0, 1) := by decide +kernel
theorem dX1_digest_82 : decode cX1_digest 82 = .ok (.invokevirtual 161, 3) := by decide +kernel
theorem dX1_digest_85 : decode cX1_digest 85 = .ok (.i2l, 1) := by decide +kernel
theorem dX1_digest_86 : decode cX1_digest 86 = .ok (.ladd, 1) := by decide +kernel
theorem dX1_digest_87 : decode cX1_digest 87 = .ok (.lstore_n 1, 1) := by decide +kernel
theorem dX1_digest_88 : decode cX1_digest 88 = .ok (.lload_n 1, 1) := by decide +kernel
theorem dX1_digest_89 : decode cX1_digest 89 = .ok (.ldc2_w 141, 3) := by decide +kernel
theorem dX1_digest_92 : decode cX1_digest 92 = .ok (.lmul, 1) := by decide +kernel
theorem dX1_digest_93 : decode cX1_digest 93 = .ok (.aload_n 0, 1) := by decide +kernel
theorem dX1_digest_94 : decode cX1_digest 94 = .ok (.invokevirtual 164, 3) := by decide +kernel
theorem dX1_digest_97 : decode cX1_digest 97 = .ok (.ifCond .eq 7, 3) := by decide +kernel
theorem dX1_digest_100 : decode cX1_digest 100 = .ok (.iconst 1, 1) := by decide +kernel
theorem dX1_digest_101 : decode cX1_digest 101 = .ok (.goto 4, 3) := by decide +kernel
theorem dX1_digest_104 : decode cX1_digest 104 = .ok (.iconst 0, 1) := by decide +kernel
theorem dX1_digest_105 : decode cX1_digest 105 = .ok (.i2l, 1) := by decide +kernel
theorem dX1_digest_106 : decode cX1_digest 106 = .ok (.ladd, 1) := by decide +kernel
theorem dX1_digest_107 : decode cX1_digest 107 = .ok (.lstore_n 1, 1) := by decide +kernel
theorem dX1_digest_108 : decode cX1_digest 108 = .ok (.lload_n 1, 1) := by decide +kernel
theorem dX1_digest_109 : decode cX1_digest 109 = .ok (.ldc2_w 141, 3) := by decide +kernel
theorem dX1_digest_112 : decode cX1_digest 112 = .ok (.lmul, 1) := by decide +kernel
theorem dX1_digest_113 : decode cX1_digest 113 = .ok (.aload_n 0, 1) := by decide +kernel
theorem dX1_digest_114 : decode cX1_digest 114 = .ok (.invokevirtual 167, 3) := by decide +kernel
theorem dX1_digest_117 : decode cX1_digest 117 = .ok (.i2l, 1) := by decide +kernel
theorem dX1_digest_118 : decode cX1_digest 118 = .ok (.ladd, 1) := by decide +kernel
theorem dX1_digest_119 : decode cX1_digest 119 = .ok (.lstore_n 1, 1) := by decide +kernel
theorem dX1_digest_120 : decode cX1_digest 120 = .ok (.lload_n 1, 1) := by decide +kernel
theorem dX1_digest_121 : decode cX1_digest 121 = .ok (.ldc2_w 141, 3) := by decide +kernel
theorem dX1_digest_124 : decode cX1_digest 124 = .ok (.lmul, 1) := by decide +kernel
theorem dX1_digest_125 : decode cX1_digest 125 = .ok (.aload_n 0, 1) := by decide +kernel
theorem dX1_digest_126 : decode cX1_digest 126 = .ok (.invokevirtual 170, 3) := by decide +kernel
theorem dX1_digest_129 : decode cX1_digest 129 = .ok (.i2l, 1) := by decide +kernel
theorem dX1_digest_130 : decode cX1_digest 130 = .ok (.ladd, 1) := by decide +kernel
theorem dX1_digest_131 : decode cX1_digest 131 = .ok (.lstore_n 1, 1) := by decide +kernel
theorem dX1_digest_132 : decode cX1_digest 132 = .ok (.lload_n 1, 1) := by decide +kernel
theorem dX1_digest_133 : decode cX1_digest 133 = .ok (.ldc2_w 141, 3) := by decide +kernel
theorem dX1_digest_136 : decode cX1_digest 136 = .ok (.lmul, 1) := by decide +kernel
theorem dX1_digest_137 : decode cX1_digest 137 = .ok (.aload_n 0, 1) := by decide +kernel
theorem dX1_digest_138 : decode cX1_digest 138 = .ok (.invokevirtual 173, 3) := by decide +kernel
theorem dX1_digest_141 : decode cX1_digest 141 = .ok (.i2l, 1) := by decide +kernel
theorem dX1_digest_142 : decode cX1_digest 142 = .ok (.ladd, 1) := by decide +kernel
theorem dX1_digest_143 : decode cX1_digest 143 = .ok (.lstore_n 1, 1) := by decide +kernel
theorem dX1_digest_144 : decode cX1_digest 144 = .ok (.lload_n 1, 1) := by decide +kernel
theorem dX1_digest_145 : decode cX1_digest 145 = .ok (.ldc2_w 141, 3) := by decide +kernel
theorem dX1_digest_148 : decode cX1_digest 148 = .ok (.lmul, 1) := by decide +kernel
theorem dX1_digest_149 : decode cX1_digest 149 = .ok (.aload_n 0, 1) := by decide +kernel
theorem dX1_digest_150 : decode cX1_digest 150 = .ok (.invokevirtual 176, 3) := by decide +kernel
theorem dX1_digest_153 : decode cX1_digest 153 = .ok (.i2l, 1) := by decide +kernel
theorem dX1_digest_154 : decode cX1_digest 154 = .ok (.ladd, 1) := by decide +kernel
theorem dX1_digest_155 : decode cX1_digest 155 = .ok (.lstore_n 1, 1) := by decide +kernel
theorem dX1_digest_156 : decode cX1_digest 156 = .ok (.lload_n 1, 1) := by decide +kernel
theorem dX1_digest_157 : decode cX1_digest 157 = .ok (.ldc2_w 141, 3) := by decide +kernel
theorem dX1_digest_160 : decode cX1_digest 160 = .ok (.lmul, 1) := by decide +kernel
theorem dX1_digest_161 : decode cX1_digest 161 = .ok (.aload_n 0, 1) := by decide +kernel
theorem dX1_digest_162 : decode cX1_digest 162 = .ok (.invokevirtual 179, 3) := by decide +kernel
theorem dX1_digest_165 : decode cX1_digest 165 = .ok (.i2l, 1) := by decide +kernel
theorem dX1_digest_166 : decode cX1_digest 166 = .ok (.ladd, 1) := by decide +kernel
theorem dX1_digest_167 : decode cX1_digest 167 = .ok (.lstore_n 1, 1) := by decide +kernel
theorem dX1_digest_168 : decode cX1_digest 168 = .ok (.iconst 0, 1) := by decide +kernel
theorem dX1_digest_169 : decode cX1_digest 169 = .ok (.istore_n 3, 1) := by decide +kernel
theorem dX1_digest_170 : decode cX1_digest 170 = .ok (.iload_n 3, 1) := by decide +kernel
theorem dX1_digest_171 : decode cX1_digest 171 = .ok (.aload_n 0, 1) := by decide +kernel
theorem dX1_digest_172 : decode cX1_digest 172 = .ok (.getfield 10, 3) := by decide +kernel
theorem dX1_digest_175 : decode cX1_digest 175 = .ok (.getfield 23, 3) := by decide +kernel
theorem dX1_digest_178 : decode cX1_digest 178 = .ok (.if_icmp .ge 16, 3) := by decide +kernel
theorem dX1_digest_181 : decode cX1_digest 181 = .ok (.aload_n 0, 1) := by decide +kernel
theorem dX1_digest_182 : decode cX1_digest 182 = .ok (.lload_n 1, 1) := by decide +kernel
theorem dX1_digest_183 : decode cX1_digest 183 = .ok (.iload_n 3, 1) := by decide +kernel
theorem dX1_digest_184 : decode cX1_digest 184 = .ok (.invokevirtual 182, 3) := by decide +kernel
theorem dX1_digest_187 : decode cX1_digest 187 = .ok (.lstore_n 1, 1) := by decide +kernel
theorem dX1_digest_188 : decode cX1_digest 188 = .ok (.iinc 3 1, 3) := by decide +kernel
theorem dX1_digest_191 : decode cX1_digest 191 = .ok (.goto (-21), 3) := by decide +kernel
theorem dX1_digest_194 : decode cX1_digest 194 = .ok (.lload_n 1, 1) := by decide +kernel
theorem dX1_digest_195 : decode cX1_digest 195 = .ok (.lreturn, 1) := by decide +kernel
theorem dX1_digestPot_0 : decode cX1_digestPot 0 = .ok (.lload_n 1, 1) := by decide +kernel
theorem dX1_digestPot_1 : decode cX1_digestPot 1 = .ok (.lstore 4, 2) := by decide +kernel
theorem dX1_digestPot_3 : decode cX1_digestPot 3 = .ok (.lload 4, 2) := by decide +kernel
theorem dX1_digestPot_5 : decode cX1_digestPot 5 = .ok (.ldc2_w 141, 3) := by decide +kernel
theorem dX1_digestPot_8 : decode cX1_digestPot 8 = .ok (.lmul, 1) := by decide +kernel
theorem dX1_digestPot_9 : decode cX1_digestPot 9 = .ok (.aload_n 0, 1) := by decide +kernel
theorem dX1_digestPot_10 : decode cX1_digestPot 10 = .ok (.iload_n 3, 1) := by decide +kernel
theorem dX1_digestPot_11 : decode cX1_digestPot 11 = .ok (.invokevirtual 186, 3) := by decide +kernel
theorem dX1_digestPot_14 : decode cX1_digestPot 14 = .ok (.i2l, 1) := by decide +kernel
theorem dX1_digestPot_15 : decode cX1_digestPot 15 = .ok (.ladd, 1) := by decide +kernel
theorem dX1_digestPot_16 : decode cX1_digestPot 16 = .ok (.lstore 4, 2) := by decide +kernel
theorem dX1_digestPot_18 : decode cX1_digestPot 18 = .ok (.lload 4, 2) := by decide +kernel
theorem dX1_digestPot_20 : decode cX1_digestPot 20 = .ok (.ldc2_w 141, 3) := by decide +kernel
theorem dX1_digestPot_23 : decode cX1_digestPot 23 = .ok (.lmul, 1) := by decide +kernel
theorem dX1_digestPot_24 : decode cX1_digestPot 24 = .ok (.aload_n 0, 1) := by decide +kernel
theorem dX1_digestPot_25 : decode cX1_digestPot 25 = .ok (.iload_n 3, 1) := by decide +kernel
theorem dX1_digestPot_26 : decode cX1_digestPot 26 = .ok (.invokevirtual 189, 3) := by decide +kernel
theorem dX1_digestPot_29 : decode cX1_digestPot 29 = .ok (.i2l, 1) := by decide +kernel
theorem dX1_digestPot_30 : decode cX1_digestPot 30 = .ok (.ladd, 1) := by decide +kernel
theorem dX1_digestPot_31 : decode cX1_digestPot 31 = .ok (.lstore 4, 2) := by decide +kernel
theorem dX1_digestPot_33 : decode cX1_digestPot 33 = .ok (.lload 4, 2) := by decide +kernel
theorem dX1_digestPot_35 : decode cX1_digestPot 35 = .ok (.ldc2_w 141, 3) := by decide +kernel
theorem dX1_digestPot_38 : decode cX1_digestPot 38 = .ok (.lmul, 1) := by decide +kernel
theorem dX1_digestPot_39 : decode cX1_digestPot 39 = .ok (.aload_n 0, 1) := by decide +kernel
theorem dX1_digestPot_40 : decode cX1_digestPot 40 = .ok (.iload_n 3, 1) := by decide +kernel
theorem dX1_digestPot_41 : decode cX1_digestPot 41 = .ok (.invokevirtual 192, 3) := by decide +kernel
theorem dX1_digestPot_44 : decode cX1_digestPot 44 = .ok (.i2l, 1) := by decide +kernel
theorem dX1_digestPot_45 : decode cX1_digestPot 45 = .ok (.ladd, 1) := by decide +kernel
theorem dX1_digestPot_46 : decode cX1_digestPot 46 = .ok (.lstore 4, 2) := by decide +kernel
theorem dX1_digestPot_48 : decode cX1_digestPot 48 = .ok (.lload 4, 2) := by decide +kernel
theorem dX1_digestPot_50 : decode cX1_digestPot 50 = .ok (.ldc2_w 141, 3) := by decide +kernel
theorem dX1_digestPot_53 : decode cX1_digestPot 53 = .ok (.lmul, 1) := by decide +kernel
theorem dX1_digestPot_54 : decode cX1_digestPot 54 = .ok (.aload_n 0, 1) := by decide +kernel
theorem dX1_digestPot_55 : decode cX1_digestPot 55 = .ok (.iload_n 3, 1) := by decide +kernel
theorem dX1_digestPot_56 : decode cX1_digestPot 56 = .ok (.invokevirtual 195, 3) := by decide +kernel
theorem dX1_digestPot_59 : decode cX1_digestPot 59 = .ok (.i2l, 1) := by decide +kernel
theorem dX1_digestPot_60 : decode cX1_digestPot 60 = .ok (.ladd, 1) := by decide +kernel
theorem dX1_digestPot_61 : decode cX1_digestPot 61 = .ok (.lstore 4, 2) := by decide +kernel
theorem dX1_digestPot_63 : decode cX1_digestPot 63 = .ok (.lload 4, 2) := by decide +kernel
theorem dX1_digestPot_65 : decode cX1_digestPot 65 = .ok (.ldc2_w 141, 3) := by decide +kernel
theorem dX1_digestPot_68 : decode cX1_digestPot 68 = .ok (.lmul, 1) := by decide +kernel
theorem dX1_digestPot_69 : decode cX1_digestPot 69 = .ok (.aload_n 0, 1) := by decide +kernel
theorem dX1_digestPot_70 : decode cX1_digestPot 70 = .ok (.iload_n 3, 1) := by decide +kernel
theorem dX1_digestPot_71 : decode cX1_digestPot 71 = .ok (.invokevirtual 198, 3) := by decide +kernel
theorem dX1_digestPot_74 : decode cX1_digestPot 74 = .ok (.ifCond .eq 7, 3) := by decide +kernel
theorem dX1_digestPot_77 : decode cX1_digestPot 77 = .ok (.iconst 1, 1) := by decide +kernel
theorem dX1_digestPot_78 : decode cX1_digestPot 78 = .ok (.goto 4, 3) := by decide +kernel
theorem dX1_digestPot_81 : decode cX1_digestPot 81 = .ok (.iconst 0, 1) := by decide +kernel
theorem dX1_digestPot_82 : decode cX1_digestPot 82 = .ok (.i2l, 1) := by decide +kernel
theorem dX1_digestPot_83 : decode cX1_digestPot 83 = .ok (.ladd, 1) := by decide +kernel
theorem dX1_digestPot_84 : decode cX1_digestPot 84 = .ok (.lstore 4, 2) := by decide +kernel
theorem dX1_digestPot_86 : decode cX1_digestPot 86 = .ok (.lload 4, 2) := by decide +kernel
theorem dX1_digestPot_88 : decode cX1_digestPot 88 = .ok (.ldc2_w 141, 3) := by decide +kernel
theorem dX1_digestPot_91 : decode cX1_digestPot 91 = .ok (.lmul, 1) := by decide +kernel
theorem dX1_digestPot_92 : decode cX1_digestPot 92 = .ok (.aload_n 0, 1) := by decide +kernel
theorem dX1_digestPot_93 : decode cX1_digestPot 93 = .ok (.iload_n 3, 1) := by decide +kernel
theorem dX1_digestPot_94 : decode cX1_digestPot 94 = .ok (.invokevirtual 201, 3) := by decide +kernel
theorem dX1_digestPot_97 : decode cX1_digestPot 97 = .ok (.i2l, 1) := by decide +kernel
theorem dX1_digestPot_98 : decode cX1_digestPot 98 = .ok (.ladd, 1) := by decide +kernel
theorem dX1_digestPot_99 : decode cX1_digestPot 99 = .ok (.lstore 4, 2) := by decide +kernel
theorem dX1_digestPot_101 : decode cX1_digestPot 101 = .ok (.lload 4, 2) := by decide +kernel
theorem dX1_digestPot_103 : decode cX1_digestPot 103 = .ok (.ldc2_w 141, 3) := by decide +kernel
theorem dX1_digestPot_106 : decode cX1_digestPot 106 = .ok (.lmul, 1) := by decide +kernel
theorem dX1_digestPot_107 : decode cX1_digestPot 107 = .ok (.aload_n 0, 1) := by decide +kernel
theorem dX1_digestPot_108 : decode cX1_digestPot 108 = .ok (.iload_n 3, 1) := by decide +kernel
theorem dX1_digestPot_109 : decode cX1_digestPot 109 = .ok (.invokevirtual 204, 3) := by decide +kernel
theorem dX1_digestPot_112 : decode cX1_digestPot 112 = .ok (.i2l, 1) := by decide +kernel
theorem dX1_digestPot_113 : decode cX1_digestPot 113 = .ok (.ladd, 1) := by decide +kernel
theorem dX1_digestPot_114 : decode cX1_digestPot 114 = .ok (.lstore 4, 2) := by decide +kernel
theorem dX1_digestPot_116 : decode cX1_digestPot 116 = .ok (.lload 4, 2) := by decide +kernel
theorem dX1_digestPot_118 : decode cX1_digestPot 118 = .ok (.lreturn, 1) := by decide +kernel
theorem dX1_requirePot_0 : decode cX1_requirePot 0 = .ok (.iload_n 1, 1) := by decide +kernel
theorem dX1_requirePot_1 : decode cX1_requirePot 1 = .ok (.ifCond .lt 14, 3) := by decide +kernel
theorem dX1_requirePot_4 : decode cX1_requirePot 4 = .ok (.iload_n 1, 1) := by decide +kernel
theorem dX1_requirePot_5 : decode cX1_requirePot 5 = .ok (.aload_n 0, 1) := by decide +kernel
theorem dX1_requirePot_6 : decode cX1_requirePot 6 = .ok (.getfield 10, 3) := by decide +kernel
theorem dX1_requirePot_9 : decode cX1_requirePot 9 = .ok (.getfield 23, 3) := by decide +kernel
theorem dX1_requirePot_12 : decode cX1_requirePot 12 = .ok (.if_icmp .lt 13, 3) := by decide +kernel
theorem dX1_requirePot_15 : decode cX1_requirePot 15 = .ok (.new 80, 3) := by decide +kernel
theorem dX1_requirePot_18 : decode cX1_requirePot 18 = .ok (.dup, 1) := by decide +kernel
theorem dX1_requirePot_19 : decode cX1_requirePot 19 = .ok (.ldc 207, 2) := by decide +kernel
theorem dX1_requirePot_21 : decode cX1_requirePot 21 = .ok (.invokespecial 84, 3) := by decide +kernel
theorem dX1_requirePot_24 : decode cX1_requirePot 24 = .ok (.athrow, 1) := by decide +kernel
theorem dX1_requirePot_25 : decode cX1_requirePot 25 = .ok (.return_, 1) := by decide +kernel
theorem dX1_requireWithin_0 : decode cX1_requireWithin 0 = .ok (.iload_n 0, 1) := by decide +kernel
theorem dX1_requireWithin_1 : decode cX1_requireWithin 1 = .ok (.iload_n 1, 1) := by decide +kernel
theorem dX1_requireWithin_2 : decode cX1_requireWithin 2 = .ok (.if_icmp .lt 8, 3) := by decide +kernel
theorem dX1_requireWithin_5 : decode cX1_requireWithin 5 = .ok (.iload_n 0, 1) := by decide +kernel
theorem dX1_requireWithin_6 : decode cX1_requireWithin 6 = .ok (.iload_n 2, 1) := by decide +kernel
theorem dX1_requireWithin_7 : decode cX1_requireWithin 7 = .ok (.if_icmp .le 13, 3) := by decide +kernel
theorem dX1_requireWithin_10 : decode cX1_requireWithin 10 = .ok (.new 50, 3) := by decide +kernel
theorem dX1_requireWithin_13 : decode cX1_requireWithin 13 = .ok (.dup, 1) := by decide +kernel
theorem dX1_requireWithin_14 : decode cX1_requireWithin 14 = .ok (.ldc 209, 2) := by decide +kernel
theorem dX1_requireWithin_16 : decode cX1_requireWithin 16 = .ok (.invokespecial 54, 3) := by decide +kernel
theorem dX1_requireWithin_19 : decode cX1_requireWithin 19 = .ok (.athrow, 1) := by decide +kernel
theorem dX1_requireWithin_20 : decode cX1_requireWithin 20 = .ok (.return_, 1) := by decide +kernel
theorem dX1_isAccord_0 : decode cX1_isAccord 0 = .ok (.iload_n 0, 1) := by decide +kernel
theorem dX1_isAccord_1 : decode cX1_isAccord 1 = .ok (.iload_n 1, 1) := by decide +kernel
theorem dX1_isAccord_2 : decode cX1_isAccord 2 = .ok (.isub, 1) := by decide +kernel
theorem dX1_isAccord_3 : decode cX1_isAccord 3 = .ok (.invokestatic 96, 3) := by decide +kernel
theorem dX1_isAccord_6 : decode cX1_isAccord 6 = .ok (.bipush 12, 2) := by decide +kernel
theorem dX1_isAccord_8 : decode cX1_isAccord 8 = .ok (.irem, 1) := by decide +kernel
theorem dX1_isAccord_9 : decode cX1_isAccord 9 = .ok (.tableswitch 57 0 9 #[55, 57, 57, 55, 55, 55, 57, 55, 55, 55], 55) := by decide +kernel
theorem dX1_isAccord_64 : decode cX1_isAccord 64 = .ok (.iconst 1, 1) := by decide +kernel
theorem dX1_isAccord_65 : decode cX1_isAccord 65 = .ok (.ireturn, 1) := by decide +kernel
theorem dX1_isAccord_66 : decode cX1_isAccord 66 = .ok (.iconst 0, 1) := by decide +kernel
theorem dX1_isAccord_67 : decode cX1_isAccord 67 = .ok (.ireturn, 1) := by decide +kernel
