theorem dL_addPot_0 : decode cL_addPot 0 = .ok (.aload 4, 2) := by decide +kernel
theorem dL_addPot_2 : decode cL_addPot 2 = .ok (.iconst 0, 1) := by decide +kernel
theorem dL_addPot_3 : decode cL_addPot 3 = .ok (.aload_n 0, 1) := by decide +kernel
theorem dL_addPot_4 : decode cL_addPot 4 = .ok (.iload_n 1, 1) := by decide +kernel
theorem dL_addPot_5 : decode cL_addPot 5 = .ok (.iload_n 2, 1) := by decide +kernel
theorem dL_addPot_6 : decode cL_addPot 6 = .ok (.iload_n 3, 1) := by decide +kernel
theorem dL_addPot_7 : decode cL_addPot 7 = .ok (.invokevirtual 7, 3) := by decide +kernel
theorem dL_addPot_10 : decode cL_addPot 10 = .ok (.i2l, 1) := by decide +kernel
theorem dL_addPot_11 : decode cL_addPot 11 = .ok (.lastore, 1) := by decide +kernel
theorem dL_addPot_12 : decode cL_addPot 12 = .ok (.goto 11, 3) := by decide +kernel
theorem dL_addPot_15 : decode cL_addPot 15 = .ok (.astore 5, 2) := by decide +kernel
theorem dL_addPot_17 : decode cL_addPot 17 = .ok (.iconst 1, 1) := by decide +kernel
theorem dL_addPot_18 : decode cL_addPot 18 = .ok (.ireturn, 1) := by decide +kernel
theorem dL_addPot_19 : decode cL_addPot 19 = .ok (.astore 5, 2) := by decide +kernel
theorem dL_addPot_21 : decode cL_addPot 21 = .ok (.iconst 2, 1) := by decide +kernel
theorem dL_addPot_22 : decode cL_addPot 22 = .ok (.ireturn, 1) := by decide +kernel
theorem dL_addPot_23 : decode cL_addPot 23 = .ok (.iconst 0, 1) := by decide +kernel
theorem dL_addPot_24 : decode cL_addPot 24 = .ok (.ireturn, 1) := by decide +kernel
theorem dL_tune_0 : decode cL_tune 0 = .ok (.aload_n 3, 1) := by decide +kernel
theorem dL_tune_1 : decode cL_tune 1 = .ok (.iconst 0, 1) := by decide +kernel
theorem dL_tune_2 : decode cL_tune 2 = .ok (.aload_n 0, 1) := by decide +kernel
theorem dL_tune_3 : decode cL_tune 3 = .ok (.iload_n 1, 1) := by decide +kernel
theorem dL_tune_4 : decode cL_tune 4 = .ok (.iload_n 2, 1) := by decide +kernel
theorem dL_tune_5 : decode cL_tune 5 = .ok (.invokevirtual 17, 3) := by decide +kernel
theorem dL_tune_8 : decode cL_tune 8 = .ok (.i2l, 1) := by decide +kernel
theorem dL_tune_9 : decode cL_tune 9 = .ok (.lastore, 1) := by decide +kernel
theorem dL_tune_10 : decode cL_tune 10 = .ok (.goto 11, 3) := by decide +kernel
theorem dL_tune_13 : decode cL_tune 13 = .ok (.astore 4, 2) := by decide +kernel
theorem dL_tune_15 : decode cL_tune 15 = .ok (.iconst 1, 1) := by decide +kernel
theorem dL_tune_16 : decode cL_tune 16 = .ok (.ireturn, 1) := by decide +kernel
theorem dL_tune_17 : decode cL_tune 17 = .ok (.astore 4, 2) := by decide +kernel
theorem dL_tune_19 : decode cL_tune 19 = .ok (.iconst 2, 1) := by decide +kernel
theorem dL_tune_20 : decode cL_tune 20 = .ok (.ireturn, 1) := by decide +kernel
theorem dL_tune_21 : decode cL_tune 21 = .ok (.iconst 0, 1) := by decide +kernel
theorem dL_tune_22 : decode cL_tune 22 = .ok (.ireturn, 1) := by decide +kernel
theorem dL_turnCosy_0 : decode cL_turnCosy 0 = .ok (.aload_n 2, 1) := by decide +kernel
theorem dL_turnCosy_1 : decode cL_turnCosy 1 = .ok (.iconst 0, 1) := by decide +kernel
theorem dL_turnCosy_2 : decode cL_turnCosy 2 = .ok (.aload_n 0, 1) := by decide +kernel
theorem dL_turnCosy_3 : decode cL_turnCosy 3 = .ok (.iload_n 1, 1) := by decide +kernel
theorem dL_turnCosy_4 : decode cL_turnCosy 4 = .ok (.invokevirtual 23, 3) := by decide +kernel
theorem dL_turnCosy_7 : decode cL_turnCosy 7 = .ok (.ifCond .eq 7, 3) := by decide +kernel
theorem dL_turnCosy_10 : decode cL_turnCosy 10 = .ok (.lconst 1, 1) := by decide +kernel
theorem dL_turnCosy_11 : decode cL_turnCosy 11 = .ok (.goto 4, 3) := by decide +kernel
theorem dL_turnCosy_14 : decode cL_turnCosy 14 = .ok (.lconst 0, 1) := by decide +kernel
theorem dL_turnCosy_15 : decode cL_turnCosy 15 = .ok (.lastore, 1) := by decide +kernel
theorem dL_turnCosy_16 : decode cL_turnCosy 16 = .ok (.goto 6, 3) := by decide +kernel
theorem dL_turnCosy_19 : decode cL_turnCosy 19 = .ok (.astore_n 3, 1) := by decide +kernel
theorem dL_turnCosy_20 : decode cL_turnCosy 20 = .ok (.iconst 1, 1) := by decide +kernel
theorem dL_turnCosy_21 : decode cL_turnCosy 21 = .ok (.ireturn, 1) := by decide +kernel
theorem dL_turnCosy_22 : decode cL_turnCosy 22 = .ok (.iconst 0, 1) := by decide +kernel
theorem dL_turnCosy_23 : decode cL_turnCosy 23 = .ok (.ireturn, 1) := by decide +kernel
theorem dL_pour_0 : decode cL_pour 0 = .ok (.aload 4, 2) := by decide +kernel
theorem dL_pour_2 : decode cL_pour 2 = .ok (.iconst 0, 1) := by decide +kernel
theorem dL_pour_3 : decode cL_pour 3 = .ok (.aload_n 0, 1) := by decide +kernel
theorem dL_pour_4 : decode cL_pour 4 = .ok (.iload_n 1, 1) := by decide +kernel
theorem dL_pour_5 : decode cL_pour 5 = .ok (.iload_n 2, 1) := by decide +kernel
theorem dL_pour_6 : decode cL_pour 6 = .ok (.iload_n 3, 1) := by decide +kernel
theorem dL_pour_7 : decode cL_pour 7 = .ok (.invokevirtual 27, 3) := by decide +kernel
theorem dL_pour_10 : decode cL_pour 10 = .ok (.i2l, 1) := by decide +kernel
theorem dL_pour_11 : decode cL_pour 11 = .ok (.lastore, 1) := by decide +kernel
theorem dL_pour_12 : decode cL_pour 12 = .ok (.goto 11, 3) := by decide +kernel
theorem dL_pour_15 : decode cL_pour 15 = .ok (.astore 5, 2) := by decide +kernel
theorem dL_pour_17 : decode cL_pour 17 = .ok (.iconst 1, 1) := by decide +kernel
theorem dL_pour_18 : decode cL_pour 18 = .ok (.ireturn, 1) := by decide +kernel
theorem dL_pour_19 : decode cL_pour 19 = .ok (.astore 5, 2) := by decide +kernel
theorem dL_pour_21 : decode cL_pour 21 = .ok (.iconst 2, 1) := by decide +kernel
theorem dL_pour_22 : decode cL_pour 22 = .ok (.ireturn, 1) := by decide +kernel
theorem dL_pour_23 : decode cL_pour 23 = .ok (.iconst 0, 1) := by decide +kernel
theorem dL_pour_24 : decode cL_pour 24 = .ok (.ireturn, 1) := by decide +kernel
theorem dL_fill_0 : decode cL_fill 0 = .ok (.aload_n 2, 1) := by decide +kernel
theorem dL_fill_1 : decode cL_fill 1 = .ok (.iconst 0, 1) := by decide +kernel
theorem dL_fill_2 : decode cL_fill 2 = .ok (.aload_n 0, 1) := by decide +kernel
theorem dL_fill_3 : decode cL_fill 3 = .ok (.iload_n 1, 1) := by decide +kernel
theorem dL_fill_4 : decode cL_fill 4 = .ok (.invokevirtual 30, 3) := by decide +kernel
theorem dL_fill_7 : decode cL_fill 7 = .ok (.i2l, 1) := by decide +kernel
theorem dL_fill_8 : decode cL_fill 8 = .ok (.lastore, 1) := by decide +kernel
theorem dL_fill_9 : decode cL_fill 9 = .ok (.goto 6, 3) := by decide +kernel
theorem dL_fill_12 : decode cL_fill 12 = .ok (.astore_n 3, 1) := by decide +kernel
theorem dL_fill_13 : decode cL_fill 13 = .ok (.iconst 1, 1) := by decide +kernel
theorem dL_fill_14 : decode cL_fill 14 = .ok (.ireturn, 1) := by decide +kernel
theorem dL_fill_15 : decode cL_fill 15 = .ok (.iconst 0, 1) := by decide +kernel
theorem dL_fill_16 : decode cL_fill 16 = .ok (.ireturn, 1) := by decide +kernel
theorem dL_mend_0 : decode cL_mend 0 = .ok (.aload_n 2, 1) := by decide +kernel
theorem dL_mend_1 : decode cL_mend 1 = .ok (.iconst 0, 1) := by decide +kernel
theorem dL_mend_2 : decode cL_mend 2 = .ok (.aload_n 0, 1) := by decide +kernel
theorem dL_mend_3 : decode cL_mend 3 = .ok (.iload_n 1, 1) := by decide +kernel
theorem dL_mend_4 : decode cL_mend 4 = .ok (.invokevirtual 34, 3) := by decide +kernel
theorem dL_mend_7 : decode cL_mend 7 = .ok (.i2l, 1) := by decide +kernel
theorem dL_mend_8 : decode cL_mend 8 = .ok (.lastore, 1) := by decide +kernel
theorem dL_mend_9 : decode cL_mend 9 = .ok (.goto 6, 3) := by decide +kernel
theorem dL_mend_12 : decode cL_mend 12 = .ok (.astore_n 3, 1) := by decide +kernel
theorem dL_mend_13 : decode cL_mend 13 = .ok (.iconst 1, 1) := by decide +kernel
theorem dL_mend_14 : decode cL_mend 14 = .ok (.ireturn, 1) := by decide +kernel
theorem dL_mend_15 : decode cL_mend 15 = .ok (.iconst 0, 1) := by decide +kernel
theorem dL_mend_16 : decode cL_mend 16 = .ok (.ireturn, 1) := by decide +kernel
theorem dL_sing_0 : decode cL_sing 0 = .ok (.aload_n 2, 1) := by decide +kernel
theorem dL_sing_1 : decode cL_sing 1 = .ok (.iconst 0, 1) := by decide +kernel
theorem dL_sing_2 : decode cL_sing 2 = .ok (.aload_n 0, 1) := by decide +kernel
theorem dL_sing_3 : decode cL_sing 3 = .ok (.iload_n 1, 1) := by decide +kernel
theorem dL_sing_4 : decode cL_sing 4 = .ok (.invokevirtual 37, 3) := by decide +kernel
theorem dL_sing_7 : decode cL_sing 7 = .ok (.i2l, 1) := by decide +kernel
theorem dL_sing_8 : decode cL_sing 8 = .ok (.lastore, 1) := by decide +kernel
theorem dL_sing_9 : decode cL_sing 9 = .ok (.goto 6, 3) := by decide +kernel
theorem dL_sing_12 : decode cL_sing 12 = .ok (.astore_n 3, 1) := by decide +kernel
theorem dL_sing_13 : decode cL_sing 13 = .ok (.iconst 1, 1) := by decide +kernel
theorem dL_sing_14 : decode cL_sing 14 = .ok (.ireturn, 1) := by decide +kernel
theorem dL_sing_15 : decode cL_sing 15 = .ok (.iconst 0, 1) := by decide +kernel
theorem dL_sing_16 : decode cL_sing 16 = .ok (.ireturn, 1) := by decide +kernel
theorem dL_partOf_0 : decode cL_partOf 0 = .ok (.aload_n 2, 1) := by decide +kernel
theorem dL_partOf_1 : decode cL_partOf 1 = .ok (.iconst 0, 1) := by decide +kernel
theorem dL_partOf_2 : decode cL_partOf 2 = .ok (.aload_n 0, 1) := by decide +kernel
theorem dL_partOf_3 : decode cL_partOf 3 = .ok (.iload_n 1, 1) := by decide +kernel
theorem dL_partOf_4 : decode cL_partOf 4 = .ok (.invokevirtual 40, 3) := by decide +kernel
theorem dL_partOf_7 : decode cL_partOf 7 = .ok (.i2l, 1) := by decide +kernel
theorem dL_partOf_8 : decode cL_partOf 8 = .ok (.lastore, 1) := by decide +kernel
theorem dL_partOf_9 : decode cL_partOf 9 = .ok (.goto 6, 3) := by decide +kernel
theorem dL_partOf_12 : decode cL_partOf 12 = .ok (.astore_n 3, 1) := by decide +kernel
theorem dL_partOf_13 : decode cL_partOf 13 = .ok (.iconst 1, 1) := by decide +kernel
theorem dL_partOf_14 : decode cL_partOf 14 = .ok (.ireturn, 1) := by decide +kernel
theorem dL_partOf_15 : decode cL_partOf 15 = .ok (.iconst 0, 1) := by decide +kernel
theorem dL_partOf_16 : decode cL_partOf 16 = .ok (.ireturn, 1) := by decide +kernel
theorem dL_pitchOf_0 : decode cL_pitchOf 0 = .ok (.aload_n 2, 1) := by decide +kernel
theorem dL_pitchOf_1 : decode cL_pitchOf 1 = .ok (.iconst 0, 1) := by decide +kernel
theorem dL_pitchOf_2 : decode cL_pitchOf 2 = .ok (.aload_n 0, 1) := by decide +kernel
theorem dL_pitchOf_3 : decode cL_pitchOf 3 = .ok (.iload_n 1, 1) := by decide +kernel
theorem dL_pitchOf_4 : decode cL_pitchOf 4 = .ok (.invokevirtual 43, 3) := by decide +kernel
theorem dL_pitchOf_7 : decode cL_pitchOf 7 = .ok (.i2l, 1) := by decide +kernel
theorem dL_pitchOf_8 : decode cL_pitchOf 8 = .ok (.lastore, 1) := by decide +kernel
theorem dL_pitchOf_9 : decode cL_pitchOf 9 = .ok (.goto 6, 3) := by decide +kernel
theorem dL_pitchOf_12 : decode cL_pitchOf 12 = .ok (.astore_n 3, 1) := by decide +kernel
theorem dL_pitchOf_13 : decode cL_pitchOf 13 = .ok (.iconst 1, 1) := by decide +kernel
theorem dL_pitchOf_14 : decode cL_pitchOf 14 = .ok (.ireturn, 1) := by decide +kernel
theorem dL_pitchOf_15 : decode cL_pitchOf 15 = .ok (.iconst 0, 1) := by decide +kernel
theorem dL_pitchOf_16 : decode cL_pitchOf 16 = .ok (.ireturn, 1) := by decide +kernel
theorem dL_teaOf_0 : decode cL_teaOf 0 = .ok (.aload_n 2, 1) := by decide +kernel
theorem dL_teaOf_1 : decode cL_teaOf 1 = .ok (.iconst 0, 1) := by decide +kernel
theorem dL_teaOf_2 : decode cL_teaOf 2 = .ok (.aload_n 0, 1) := by decide +kernel
theorem dL_teaOf_3 : decode cL_teaOf 3 = .ok (.iload_n 1, 1) := by decide +kernel
theorem dL_teaOf_4 : decode cL_teaOf 4 = .ok (.invokevirtual 46, 3) := by decide +kernel
theorem dL_teaOf_7 : decode cL_teaOf 7 = .ok (.i2l, 1) := by decide +kernel
theorem dL_teaOf_8 : decode cL_teaOf 8 = .ok (.lastore, 1) := by decide +kernel
theorem dL_teaOf_9 : decode cL_teaOf 9 = .ok (.goto 6, 3) := by decide +kernel
theorem dL_teaOf_12 : decode cL_teaOf 12 = .ok (.astore_n 3, 1) := by decide +kernel
theorem dL_teaOf_13 : decode cL_teaOf 13 = .ok (.iconst 1, 1) := by decide +kernel
theorem dL_teaOf_14 : decode cL_teaOf 14 = .ok (.ireturn, 1) := by decide +kernel
theorem dL_teaOf_15 : decode cL_teaOf 15 = .ok (.iconst 0, 1) := by decide +kernel
theorem dL_teaOf_16 : decode cL_teaOf 16 = .ok (.ireturn, 1) := by decide +kernel
theorem dL_crackOf_0 : decode cL_crackOf 0 = .ok (.aload_n 2, 1) := by decide +kernel
theorem dL_crackOf_1 : decode cL_crackOf 1 = .ok (.iconst 0, 1) := by decide +kernel
theorem dL_crackOf_2 : decode cL_crackOf 2 = .ok (.aload_n 0, 1) := by decide +kernel
theorem dL_crackOf_3 : decode cL_crackOf 3 = .ok (.iload_n 1, 1) := by decide +kernel
theorem dL_crackOf_4 : decode cL_crackOf 4 = .ok (.invokevirtual 49, 3) := by decide +kernel
theorem dL_crackOf_7 : decode cL_crackOf 7 = .ok (.i2l, 1) := by decide +kernel
theorem dL_crackOf_8 : decode cL_crackOf 8 = .ok (.lastore, 1) := by decide +kernel
theorem dL_crackOf_9 : decode cL_crackOf 9 = .ok (.goto 6, 3) := by decide +kernel
theorem dL_crackOf_12 : decode cL_crackOf 12 = .ok (.astore_n 3, 1) := by decide +kernel
theorem dL_crackOf_13 : decode cL_crackOf 13 = .ok (.iconst 1, 1) := by decide +kernel
theorem dL_crackOf_14 : decode cL_crackOf 14 = .ok (.ireturn, 1) := by decide +kernel
theorem dL_crackOf_15 : decode cL_crackOf 15 = .ok (.iconst 0, 1) := by decide +kernel
theorem dL_crackOf_16 : decode cL_crackOf 16 = .ok (.ireturn, 1) := by decide +kernel
theorem dL_sounds_0 : decode cL_sounds 0 = .ok (.aload_n 2, 1) := by decide +kernel
theorem dL_sounds_1 : decode cL_sounds 1 = .ok (.iconst 0, 1) := by decide +kernel
theorem dL_sounds_2 : decode cL_sounds 2 = .ok (.aload_n 0, 1) := by decide +kernel
theorem dL_sounds_3 : decode cL_sounds 3 = .ok (.iload_n 1, 1) := by decide +kernel
theorem dL_sounds_4 : decode cL_sounds 4 = .ok (.invokevirtual 52, 3) := by decide +kernel
theorem dL_sounds_7 : decode cL_sounds 7 = .ok (.ifCond .eq 7, 3) := by decide +kernel
theorem dL_sounds_10 : decode cL_sounds 10 = .ok (.lconst 1, 1) := by decide +kernel
theorem dL_sounds_11 : decode cL_sounds 11 = .ok (.goto 4, 3) := by decide +kernel
theorem dL_sounds_14 : decode cL_sounds 14 = .ok (.lconst 0, 1) := by decide +kernel
theorem dL_sounds_15 : decode cL_sounds 15 = .ok (.lastore, 1) := by decide +kernel
theorem dL_sounds_16 : decode cL_sounds 16 = .ok (.goto 6, 3) := by decide +kernel
theorem dL_sounds_19 : decode cL_sounds 19 = .ok (.astore_n 3, 1) := by decide +kernel
theorem dL_sounds_20 : decode cL_sounds 20 = .ok (.iconst 1, 1) := by decide +kernel
theorem dL_sounds_21 : decode cL_sounds 21 = .ok (.ireturn, 1) := by decide +kernel
theorem dL_sounds_22 : decode cL_sounds 22 = .ok (.iconst 0, 1) := by decide +kernel
theorem dL_sounds_23 : decode cL_sounds 23 = .ok (.ireturn, 1) := by decide +kernel
theorem dL_soundingOf_0 : decode cL_soundingOf 0 = .ok (.aload_n 2, 1) := by decide +kernel
theorem dL_soundingOf_1 : decode cL_soundingOf 1 = .ok (.iconst 0, 1) := by decide +kernel
theorem dL_soundingOf_2 : decode cL_soundingOf 2 = .ok (.aload_n 0, 1) := by decide +kernel
theorem dL_soundingOf_3 : decode cL_soundingOf 3 = .ok (.iload_n 1, 1) := by decide +kernel
theorem dL_soundingOf_4 : decode cL_soundingOf 4 = .ok (.invokevirtual 55, 3) := by decide +kernel
theorem dL_soundingOf_7 : decode cL_soundingOf 7 = .ok (.i2l, 1) := by decide +kernel
theorem dL_soundingOf_8 : decode cL_soundingOf 8 = .ok (.lastore, 1) := by decide +kernel
theorem dL_soundingOf_9 : decode cL_soundingOf 9 = .ok (.goto 6, 3) := by decide +kernel
theorem dL_soundingOf_12 : decode cL_soundingOf 12 = .ok (.astore_n 3, 1) := by decide +kernel
theorem dL_soundingOf_13 : decode cL_soundingOf 13 = .ok (.iconst 1, 1) := by decide +kernel
theorem dL_soundingOf_14 : decode cL_soundingOf 14 = .ok (.ireturn, 1) := by decide +kernel
theorem dL_soundingOf_15 : decode cL_soundingOf 15 = .ok (.iconst 0, 1) := by decide +kernel
theorem dL_soundingOf_16 : decode cL_soundingOf 16 = .ok (.ireturn, 1) := by decide +kernel
theorem dL_interval_0 : decode cL_interval 0 = .ok (.aload_n 3, 1) := by decide +kernel
theorem dL_interval_1 : decode cL_interval 1 = .ok (.iconst 0, 1) := by decide +kernel
theorem dL_interval_2 : decode cL_interval 2 = .ok (.aload_n 0, 1) := by decide +kernel
theorem dL_interval_3 : decode cL_interval 3 = .ok (.iload_n 1, 1) := by decide +kernel
theorem dL_interval_4 : decode cL_interval 4 = .ok (.iload_n 2, 1) := by decide +kernel
theorem dL_interval_5 : decode cL_interval 5 = .ok (.invokevirtual 58, 3) := by decide +kernel
theorem dL_interval_8 : decode cL_interval 8 = .ok (.i2l, 1) := by decide +kernel
theorem dL_interval_9 : decode cL_interval 9 = .ok (.lastore, 1) := by decide +kernel
theorem dL_interval_10 : decode cL_interval 10 = .ok (.goto 7, 3) := by decide +kernel
theorem dL_interval_13 : decode cL_interval 13 = .ok (.astore 4, 2) := by decide +kernel
theorem dL_interval_15 : decode cL_interval 15 = .ok (.iconst 1, 1) := by decide +kernel
theorem dL_interval_16 : decode cL_interval 16 = .ok (.ireturn, 1) := by decide +kernel
theorem dL_interval_17 : decode cL_interval 17 = .ok (.iconst 0, 1) := by decide +kernel
theorem dL_interval_18 : decode cL_interval 18 = .ok (.ireturn, 1) := by decide +kernel
theorem dL_areInAccord_0 : decode cL_areInAccord 0 = .ok (.aload_n 3, 1) := by decide +kernel
theorem dL_areInAccord_1 : decode cL_areInAccord 1 = .ok (.iconst 0, 1) := by decide +kernel
theorem dL_areInAccord_2 : decode cL_areInAccord 2 = .ok (.aload_n 0, 1) := by decide +kernel
theorem dL_areInAccord_3 : decode cL_areInAccord 3 = .ok (.iload_n 1, 1) := by decide +kernel
theorem dL_areInAccord_4 : decode cL_areInAccord 4 = .ok (.iload_n 2, 1) := by decide +kernel
theorem dL_areInAccord_5 : decode cL_areInAccord 5 = .ok (.invokevirtual 61, 3) := by decide +kernel
theorem dL_areInAccord_8 : decode cL_areInAccord 8 = .ok (.ifCond .eq 7, 3) := by decide +kernel
theorem dL_areInAccord_11 : decode cL_areInAccord 11 = .ok (.lconst 1, 1) := by decide +kernel
theorem dL_areInAccord_12 : decode cL_areInAccord 12 = .ok (.goto 4, 3) := by decide +kernel
theorem dL_areInAccord_15 : decode cL_areInAccord 15 = .ok (.lconst 0, 1) := by decide +kernel
theorem dL_areInAccord_16 : decode cL_areInAccord 16 = .ok (.lastore, 1) := by decide +kernel
theorem dL_areInAccord_17 : decode cL_areInAccord 17 = .ok (.goto 7, 3) := by decide +kernel
theorem dL_areInAccord_20 : decode cL_areInAccord 20 = .ok (.astore 4, 2) := by decide +kernel
theorem dL_areInAccord_22 : decode cL_areInAccord 22 = .ok (.iconst 1, 1) := by decide +kernel
theorem dL_areInAccord_23 : decode cL_areInAccord 23 = .ok (.ireturn, 1) := by decide +kernel
theorem dL_areInAccord_24 : decode cL_areInAccord 24 = .ok (.iconst 0, 1) := by decide +kernel
theorem dL_areInAccord_25 : decode cL_areInAccord 25 = .ok (.ireturn, 1) := by decide +kernel
theorem dL_clashesOf_0 : decode cL_clashesOf 0 = .ok (.aload_n 2, 1) := by decide +kernel
theorem dL_clashesOf_1 : decode cL_clashesOf 1 = .ok (.iconst 0, 1) := by decide +kernel
theorem dL_clashesOf_2 : decode cL_clashesOf 2 = .ok (.aload_n 0, 1) := by decide +kernel
theorem dL_clashesOf_3 : decode cL_clashesOf 3 = .ok (.iload_n 1, 1) := by decide +kernel
theorem dL_clashesOf_4 : decode cL_clashesOf 4 = .ok (.invokevirtual 65, 3) := by decide +kernel
theorem dL_clashesOf_7 : decode cL_clashesOf 7 = .ok (.i2l, 1) := by decide +kernel
theorem dL_clashesOf_8 : decode cL_clashesOf 8 = .ok (.lastore, 1) := by decide +kernel
theorem dL_clashesOf_9 : decode cL_clashesOf 9 = .ok (.goto 6, 3) := by decide +kernel
theorem dL_clashesOf_12 : decode cL_clashesOf 12 = .ok (.astore_n 3, 1) := by decide +kernel
theorem dL_clashesOf_13 : decode cL_clashesOf 13 = .ok (.iconst 1, 1) := by decide +kernel
theorem dL_clashesOf_14 : decode cL_clashesOf 14 = .ok (.ireturn, 1) := by decide +kernel
theorem dL_clashesOf_15 : decode cL_clashesOf 15 = .ok (.iconst 0, 1) := by decide +kernel
theorem dL_clashesOf_16 : decode cL_clashesOf 16 = .ok (.ireturn, 1) := by decide +kernel
theorem dL_bestTuning_0 : decode cL_bestTuning 0 = .ok (.aload_n 2, 1) := by decide +kernel
theorem dL_bestTuning_1 : decode cL_bestTuning 1 = .ok (.iconst 0, 1) := by decide +kernel
theorem dL_bestTuning_2 : decode cL_bestTuning 2 = .ok (.aload_n 0, 1) := by decide +kernel
theorem dL_bestTuning_3 : decode cL_bestTuning 3 = .ok (.iload_n 1, 1) := by decide +kernel
theorem dL_bestTuning_4 : decode cL_bestTuning 4 = .ok (.invokevirtual 68, 3) := by decide +kernel
theorem dL_bestTuning_7 : decode cL_bestTuning 7 = .ok (.i2l, 1) := by decide +kernel
theorem dL_bestTuning_8 : decode cL_bestTuning 8 = .ok (.lastore, 1) := by decide +kernel
theorem dL_bestTuning_9 : decode cL_bestTuning 9 = .ok (.goto 6, 3) := by decide +kernel
theorem dL_bestTuning_12 : decode cL_bestTuning 12 = .ok (.astore_n 3, 1) := by decide +kernel
theorem dL_bestTuning_13 : decode cL_bestTuning 13 = .ok (.iconst 1, 1) := by decide +kernel
theorem dL_bestTuning_14 : decode cL_bestTuning 14 = .ok (.ireturn, 1) := by decide +kernel
theorem dL_bestTuning_15 : decode cL_bestTuning 15 = .ok (.iconst 0, 1) := by decide +kernel
theorem dL_bestTuning_16 : decode cL_bestTuning 16 = .ok (.ireturn, 1) := by decide +kernel
theorem dL_harmonyIn_0 : decode cL_harmonyIn 0 = .ok (.aload_n 2, 1) := by decide +kernel
theorem dL_harmonyIn_1 : decode cL_harmonyIn 1 = .ok (.iconst 0, 1) := by decide +kernel
theorem dL_harmonyIn_2 : decode cL_harmonyIn 2 = .ok (.aload_n 0, 1) := by decide +kernel
theorem dL_harmonyIn_3 : decode cL_harmonyIn 3 = .ok (.iload_n 1, 1) := by decide +kernel
theorem dL_harmonyIn_4 : decode cL_harmonyIn 4 = .ok (.invokevirtual 71, 3) := by decide +kernel
theorem dL_harmonyIn_7 : decode cL_harmonyIn 7 = .ok (.i2l, 1) := by decide +kernel
theorem dL_harmonyIn_8 : decode cL_harmonyIn 8 = .ok (.lastore, 1) := by decide +kernel
theorem dL_harmonyIn_9 : decode cL_harmonyIn 9 = .ok (.goto 6, 3) := by decide +kernel
theorem dL_harmonyIn_12 : decode cL_harmonyIn 12 = .ok (.astore_n 3, 1) := by decide +kernel
theorem dL_harmonyIn_13 : decode cL_harmonyIn 13 = .ok (.iconst 1, 1) := by decide +kernel
theorem dL_harmonyIn_14 : decode cL_harmonyIn 14 = .ok (.ireturn, 1) := by decide +kernel
theorem dL_harmonyIn_15 : decode cL_harmonyIn 15 = .ok (.iconst 0, 1) := by decide +kernel
theorem dL_harmonyIn_16 : decode cL_harmonyIn 16 = .ok (.ireturn, 1) := by decide +kernel
