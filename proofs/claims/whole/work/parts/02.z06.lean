theorem dX1_init_0 : decode cX1_init 0 = .ok (.aload_n 0, 1) := by decide +kernel
theorem dX1_init_1 : decode cX1_init 1 = .ok (.invokespecial 3, 3) := by decide +kernel
theorem dX1_init_4 : decode cX1_init 4 = .ok (.aload_n 0, 1) := by decide +kernel
theorem dX1_init_5 : decode cX1_init 5 = .ok (.new 9, 3) := by decide +kernel
theorem dX1_init_8 : decode cX1_init 8 = .ok (.dup, 1) := by decide +kernel
theorem dX1_init_9 : decode cX1_init 9 = .ok (.invokespecial 11, 3) := by decide +kernel
theorem dX1_init_12 : decode cX1_init 12 = .ok (.putfield 12, 3) := by decide +kernel
theorem dX1_init_15 : decode cX1_init 15 = .ok (.aload_n 0, 1) := by decide +kernel
theorem dX1_init_16 : decode cX1_init 16 = .ok (.iconst 3, 1) := by decide +kernel
theorem dX1_init_17 : decode cX1_init 17 = .ok (.newarray .int, 2) := by decide +kernel
theorem dX1_init_19 : decode cX1_init 19 = .ok (.putfield 18, 3) := by decide +kernel
theorem dX1_init_22 : decode cX1_init 22 = .ok (.aload_n 0, 1) := by decide +kernel
theorem dX1_init_23 : decode cX1_init 23 = .ok (.iconst 3, 1) := by decide +kernel
theorem dX1_init_24 : decode cX1_init 24 = .ok (.newarray .int, 2) := by decide +kernel
theorem dX1_init_26 : decode cX1_init 26 = .ok (.putfield 22, 3) := by decide +kernel
theorem dX1_init_29 : decode cX1_init 29 = .ok (.aload_n 0, 1) := by decide +kernel
theorem dX1_init_30 : decode cX1_init 30 = .ok (.iload_n 1, 1) := by decide +kernel
theorem dX1_init_31 : decode cX1_init 31 = .ok (.putfield 25, 3) := by decide +kernel
theorem dX1_init_34 : decode cX1_init 34 = .ok (.return_, 1) := by decide +kernel
theorem dX1_restart_0 : decode cX1_restart 0 = .ok (.aload_n 0, 1) := by decide +kernel
theorem dX1_restart_1 : decode cX1_restart 1 = .ok (.getfield 12, 3) := by decide +kernel
theorem dX1_restart_4 : decode cX1_restart 4 = .ok (.iload_n 1, 1) := by decide +kernel
theorem dX1_restart_5 : decode cX1_restart 5 = .ok (.invokevirtual 29, 3) := by decide +kernel
theorem dX1_restart_8 : decode cX1_restart 8 = .ok (.aload_n 0, 1) := by decide +kernel
theorem dX1_restart_9 : decode cX1_restart 9 = .ok (.aconst_null, 1) := by decide +kernel
theorem dX1_restart_10 : decode cX1_restart 10 = .ok (.putfield 33, 3) := by decide +kernel
theorem dX1_restart_13 : decode cX1_restart 13 = .ok (.aload_n 0, 1) := by decide +kernel
theorem dX1_restart_14 : decode cX1_restart 14 = .ok (.iconst 0, 1) := by decide +kernel
theorem dX1_restart_15 : decode cX1_restart 15 = .ok (.putfield 37, 3) := by decide +kernel
theorem dX1_restart_18 : decode cX1_restart 18 = .ok (.aload_n 0, 1) := by decide +kernel
theorem dX1_restart_19 : decode cX1_restart 19 = .ok (.iconst 0, 1) := by decide +kernel
theorem dX1_restart_20 : decode cX1_restart 20 = .ok (.putfield 41, 3) := by decide +kernel
theorem dX1_restart_23 : decode cX1_restart 23 = .ok (.return_, 1) := by decide +kernel
theorem dX1_aimAt_0 : decode cX1_aimAt 0 = .ok (.aload_n 0, 1) := by decide +kernel
theorem dX1_aimAt_1 : decode cX1_aimAt 1 = .ok (.iload_n 1, 1) := by decide +kernel
theorem dX1_aimAt_2 : decode cX1_aimAt 2 = .ok (.putfield 44, 3) := by decide +kernel
theorem dX1_aimAt_5 : decode cX1_aimAt 5 = .ok (.aload_n 0, 1) := by decide +kernel
theorem dX1_aimAt_6 : decode cX1_aimAt 6 = .ok (.iload_n 2, 1) := by decide +kernel
theorem dX1_aimAt_7 : decode cX1_aimAt 7 = .ok (.putfield 47, 3) := by decide +kernel
theorem dX1_aimAt_10 : decode cX1_aimAt 10 = .ok (.aload_n 0, 1) := by decide +kernel
theorem dX1_aimAt_11 : decode cX1_aimAt 11 = .ok (.iload_n 3, 1) := by decide +kernel
theorem dX1_aimAt_12 : decode cX1_aimAt 12 = .ok (.putfield 50, 3) := by decide +kernel
theorem dX1_aimAt_15 : decode cX1_aimAt 15 = .ok (.return_, 1) := by decide +kernel
theorem dX1_takeUp_0 : decode cX1_takeUp 0 = .ok (.aload_n 0, 1) := by decide +kernel
theorem dX1_takeUp_1 : decode cX1_takeUp 1 = .ok (.aload_n 1, 1) := by decide +kernel
theorem dX1_takeUp_2 : decode cX1_takeUp 2 = .ok (.putfield 33, 3) := by decide +kernel
theorem dX1_takeUp_5 : decode cX1_takeUp 5 = .ok (.aload_n 0, 1) := by decide +kernel
theorem dX1_takeUp_6 : decode cX1_takeUp 6 = .ok (.iconst 0, 1) := by decide +kernel
theorem dX1_takeUp_7 : decode cX1_takeUp 7 = .ok (.aload_n 0, 1) := by decide +kernel
theorem dX1_takeUp_8 : decode cX1_takeUp 8 = .ok (.getfield 25, 3) := by decide +kernel
theorem dX1_takeUp_11 : decode cX1_takeUp 11 = .ok (.invokestatic 53, 3) := by decide +kernel
theorem dX1_takeUp_14 : decode cX1_takeUp 14 = .ok (.putfield 57, 3) := by decide +kernel
theorem dX1_takeUp_17 : decode cX1_takeUp 17 = .ok (.aload_n 0, 1) := by decide +kernel
theorem dX1_takeUp_18 : decode cX1_takeUp 18 = .ok (.invokevirtual 60, 3) := by decide +kernel
theorem dX1_takeUp_21 : decode cX1_takeUp 21 = .ok (.return_, 1) := by decide +kernel
theorem dX1_openFirstRound_0 : decode cX1_openFirstRound 0 = .ok (.aload_n 0, 1) := by decide +kernel
theorem dX1_openFirstRound_1 : decode cX1_openFirstRound 1 = .ok (.getfield 18, 3) := by decide +kernel
theorem dX1_openFirstRound_4 : decode cX1_openFirstRound 4 = .ok (.iconst 0, 1) := by decide +kernel
theorem dX1_openFirstRound_5 : decode cX1_openFirstRound 5 = .ok (.invokestatic 63, 3) := by decide +kernel
theorem dX1_openFirstRound_8 : decode cX1_openFirstRound 8 = .ok (.aload_n 0, 1) := by decide +kernel
theorem dX1_openFirstRound_9 : decode cX1_openFirstRound 9 = .ok (.getfield 22, 3) := by decide +kernel
theorem dX1_openFirstRound_12 : decode cX1_openFirstRound 12 = .ok (.iconst 0, 1) := by decide +kernel
theorem dX1_openFirstRound_13 : decode cX1_openFirstRound 13 = .ok (.invokestatic 63, 3) := by decide +kernel
theorem dX1_openFirstRound_16 : decode cX1_openFirstRound 16 = .ok (.aload_n 0, 1) := by decide +kernel
theorem dX1_openFirstRound_17 : decode cX1_openFirstRound 17 = .ok (.iconst 1, 1) := by decide +kernel
theorem dX1_openFirstRound_18 : decode cX1_openFirstRound 18 = .ok (.invokevirtual 69, 3) := by decide +kernel
theorem dX1_openFirstRound_21 : decode cX1_openFirstRound 21 = .ok (.return_, 1) := by decide +kernel
theorem dX1_openSecondRound_0 : decode cX1_openSecondRound 0 = .ok (.aload_n 1, 1) := by decide +kernel
theorem dX1_openSecondRound_1 : decode cX1_openSecondRound 1 = .ok (.getfield 72, 3) := by decide +kernel
theorem dX1_openSecondRound_4 : decode cX1_openSecondRound 4 = .ok (.iconst 1, 1) := by decide +kernel
theorem dX1_openSecondRound_5 : decode cX1_openSecondRound 5 = .ok (.if_icmp .ne 35, 3) := by decide +kernel
theorem dX1_openSecondRound_8 : decode cX1_openSecondRound 8 = .ok (.aload_n 0, 1) := by decide +kernel
theorem dX1_openSecondRound_9 : decode cX1_openSecondRound 9 = .ok (.getfield 18, 3) := by decide +kernel
theorem dX1_openSecondRound_12 : decode cX1_openSecondRound 12 = .ok (.iconst 0, 1) := by decide +kernel
theorem dX1_openSecondRound_13 : decode cX1_openSecondRound 13 = .ok (.aload_n 0, 1) := by decide +kernel
theorem dX1_openSecondRound_14 : decode cX1_openSecondRound 14 = .ok (.getfield 18, 3) := by decide +kernel
theorem dX1_openSecondRound_17 : decode cX1_openSecondRound 17 = .ok (.iconst 0, 1) := by decide +kernel
theorem dX1_openSecondRound_18 : decode cX1_openSecondRound 18 = .ok (.iaload, 1) := by decide +kernel
theorem dX1_openSecondRound_19 : decode cX1_openSecondRound 19 = .ok (.aload_n 0, 1) := by decide +kernel
theorem dX1_openSecondRound_20 : decode cX1_openSecondRound 20 = .ok (.getfield 25, 3) := by decide +kernel
theorem dX1_openSecondRound_23 : decode cX1_openSecondRound 23 = .ok (.invokestatic 53, 3) := by decide +kernel
theorem dX1_openSecondRound_26 : decode cX1_openSecondRound 26 = .ok (.iastore, 1) := by decide +kernel
theorem dX1_openSecondRound_27 : decode cX1_openSecondRound 27 = .ok (.aload_n 0, 1) := by decide +kernel
theorem dX1_openSecondRound_28 : decode cX1_openSecondRound 28 = .ok (.getfield 22, 3) := by decide +kernel
theorem dX1_openSecondRound_31 : decode cX1_openSecondRound 31 = .ok (.iconst 0, 1) := by decide +kernel
theorem dX1_openSecondRound_32 : decode cX1_openSecondRound 32 = .ok (.aload_n 1, 1) := by decide +kernel
theorem dX1_openSecondRound_33 : decode cX1_openSecondRound 33 = .ok (.getfield 77, 3) := by decide +kernel
theorem dX1_openSecondRound_36 : decode cX1_openSecondRound 36 = .ok (.iastore, 1) := by decide +kernel
theorem dX1_openSecondRound_37 : decode cX1_openSecondRound 37 = .ok (.goto 30, 3) := by decide +kernel
theorem dX1_openSecondRound_40 : decode cX1_openSecondRound 40 = .ok (.aload_n 1, 1) := by decide +kernel
theorem dX1_openSecondRound_41 : decode cX1_openSecondRound 41 = .ok (.getfield 72, 3) := by decide +kernel
theorem dX1_openSecondRound_44 : decode cX1_openSecondRound 44 = .ok (.iconst 2, 1) := by decide +kernel
theorem dX1_openSecondRound_45 : decode cX1_openSecondRound 45 = .ok (.if_icmp .ne 22, 3) := by decide +kernel
theorem dX1_openSecondRound_48 : decode cX1_openSecondRound 48 = .ok (.aload_n 0, 1) := by decide +kernel
theorem dX1_openSecondRound_49 : decode cX1_openSecondRound 49 = .ok (.getfield 18, 3) := by decide +kernel
theorem dX1_openSecondRound_52 : decode cX1_openSecondRound 52 = .ok (.iconst 0, 1) := by decide +kernel
theorem dX1_openSecondRound_53 : decode cX1_openSecondRound 53 = .ok (.iaload, 1) := by decide +kernel
theorem dX1_openSecondRound_54 : decode cX1_openSecondRound 54 = .ok (.ifCond .ne 13, 3) := by decide +kernel
theorem dX1_openSecondRound_57 : decode cX1_openSecondRound 57 = .ok (.aload_n 0, 1) := by decide +kernel
theorem dX1_openSecondRound_58 : decode cX1_openSecondRound 58 = .ok (.getfield 22, 3) := by decide +kernel
theorem dX1_openSecondRound_61 : decode cX1_openSecondRound 61 = .ok (.iconst 0, 1) := by decide +kernel
theorem dX1_openSecondRound_62 : decode cX1_openSecondRound 62 = .ok (.aload_n 0, 1) := by decide +kernel
theorem dX1_openSecondRound_63 : decode cX1_openSecondRound 63 = .ok (.getfield 50, 3) := by decide +kernel
theorem dX1_openSecondRound_66 : decode cX1_openSecondRound 66 = .ok (.iastore, 1) := by decide +kernel
theorem dX1_openSecondRound_67 : decode cX1_openSecondRound 67 = .ok (.aload_n 0, 1) := by decide +kernel
theorem dX1_openSecondRound_68 : decode cX1_openSecondRound 68 = .ok (.iconst 2, 1) := by decide +kernel
theorem dX1_openSecondRound_69 : decode cX1_openSecondRound 69 = .ok (.invokevirtual 69, 3) := by decide +kernel
theorem dX1_openSecondRound_72 : decode cX1_openSecondRound 72 = .ok (.return_, 1) := by decide +kernel
theorem dX1_openRound_0 : decode cX1_openRound 0 = .ok (.aload_n 0, 1) := by decide +kernel
theorem dX1_openRound_1 : decode cX1_openRound 1 = .ok (.iload_n 1, 1) := by decide +kernel
theorem dX1_openRound_2 : decode cX1_openRound 2 = .ok (.putfield 80, 3) := by decide +kernel
theorem dX1_openRound_5 : decode cX1_openRound 5 = .ok (.aload_n 0, 1) := by decide +kernel
theorem dX1_openRound_6 : decode cX1_openRound 6 = .ok (.dup, 1) := by decide +kernel
theorem dX1_openRound_7 : decode cX1_openRound 7 = .ok (.getfield 41, 3) := by decide +kernel
theorem dX1_openRound_10 : decode cX1_openRound 10 = .ok (.iconst 1, 1) := by decide +kernel
theorem dX1_openRound_11 : decode cX1_openRound 11 = .ok (.iadd, 1) := by decide +kernel
theorem dX1_openRound_12 : decode cX1_openRound 12 = .ok (.putfield 41, 3) := by decide +kernel
theorem dX1_openRound_15 : decode cX1_openRound 15 = .ok (.aload_n 0, 1) := by decide +kernel
theorem dX1_openRound_16 : decode cX1_openRound 16 = .ok (.iconst 0, 1) := by decide +kernel
theorem dX1_openRound_17 : decode cX1_openRound 17 = .ok (.putfield 83, 3) := by decide +kernel
theorem dX1_openRound_20 : decode cX1_openRound 20 = .ok (.aload_n 0, 1) := by decide +kernel
theorem dX1_openRound_21 : decode cX1_openRound 21 = .ok (.iconst 0, 1) := by decide +kernel
theorem dX1_openRound_22 : decode cX1_openRound 22 = .ok (.putfield 86, 3) := by decide +kernel
theorem dX1_openRound_25 : decode cX1_openRound 25 = .ok (.return_, 1) := by decide +kernel
theorem dX1_note_0 : decode cX1_note 0 = .ok (.aload_n 0, 1) := by decide +kernel
theorem dX1_note_1 : decode cX1_note 1 = .ok (.dup, 1) := by decide +kernel
theorem dX1_note_2 : decode cX1_note 2 = .ok (.getfield 86, 3) := by decide +kernel
theorem dX1_note_5 : decode cX1_note 5 = .ok (.iconst 1, 1) := by decide +kernel
theorem dX1_note_6 : decode cX1_note 6 = .ok (.aload_n 1, 1) := by decide +kernel
theorem dX1_note_7 : decode cX1_note 7 = .ok (.getfield 89, 3) := by decide +kernel
theorem dX1_note_10 : decode cX1_note 10 = .ok (.ishl, 1) := by decide +kernel
theorem dX1_note_11 : decode cX1_note 11 = .ok (.ior, 1) := by decide +kernel
theorem dX1_note_12 : decode cX1_note 12 = .ok (.putfield 86, 3) := by decide +kernel
theorem dX1_note_15 : decode cX1_note 15 = .ok (.aload_n 0, 1) := by decide +kernel
theorem dX1_note_16 : decode cX1_note 16 = .ok (.getfield 80, 3) := by decide +kernel
theorem dX1_note_19 : decode cX1_note 19 = .ok (.iconst 1, 1) := by decide +kernel
theorem dX1_note_20 : decode cX1_note 20 = .ok (.if_icmp .eq 4, 3) := by decide +kernel
theorem dX1_note_23 : decode cX1_note 23 = .ok (.return_, 1) := by decide +kernel
theorem dX1_note_24 : decode cX1_note 24 = .ok (.iconst 0, 1) := by decide +kernel
theorem dX1_note_25 : decode cX1_note 25 = .ok (.istore_n 2, 1) := by decide +kernel
theorem dX1_note_26 : decode cX1_note 26 = .ok (.iload_n 2, 1) := by decide +kernel
theorem dX1_note_27 : decode cX1_note 27 = .ok (.iconst 3, 1) := by decide +kernel
theorem dX1_note_28 : decode cX1_note 28 = .ok (.if_icmp .ge 48, 3) := by decide +kernel
theorem dX1_note_31 : decode cX1_note 31 = .ok (.aload_n 1, 1) := by decide +kernel
theorem dX1_note_32 : decode cX1_note 32 = .ok (.getfield 94, 3) := by decide +kernel
theorem dX1_note_35 : decode cX1_note 35 = .ok (.iload_n 2, 1) := by decide +kernel
theorem dX1_note_36 : decode cX1_note 36 = .ok (.iaload, 1) := by decide +kernel
theorem dX1_note_37 : decode cX1_note 37 = .ok (.aload_n 0, 1) := by decide +kernel
theorem dX1_note_38 : decode cX1_note 38 = .ok (.getfield 18, 3) := by decide +kernel
theorem dX1_note_41 : decode cX1_note 41 = .ok (.iload_n 2, 1) := by decide +kernel
theorem dX1_note_42 : decode cX1_note 42 = .ok (.iaload, 1) := by decide +kernel
theorem dX1_note_43 : decode cX1_note 43 = .ok (.if_icmp .le 27, 3) := by decide +kernel
theorem dX1_note_46 : decode cX1_note 46 = .ok (.aload_n 0, 1) := by decide +kernel
theorem dX1_note_47 : decode cX1_note 47 = .ok (.getfield 18, 3) := by decide +kernel
theorem dX1_note_50 : decode cX1_note 50 = .ok (.iload_n 2, 1) := by decide +kernel
theorem dX1_note_51 : decode cX1_note 51 = .ok (.aload_n 1, 1) := by decide +kernel
theorem dX1_note_52 : decode cX1_note 52 = .ok (.getfield 94, 3) := by decide +kernel
theorem dX1_note_55 : decode cX1_note 55 = .ok (.iload_n 2, 1) := by decide +kernel
theorem dX1_note_56 : decode cX1_note 56 = .ok (.iaload, 1) := by decide +kernel
theorem dX1_note_57 : decode cX1_note 57 = .ok (.iastore, 1) := by decide +kernel
theorem dX1_note_58 : decode cX1_note 58 = .ok (.aload_n 0, 1) := by decide +kernel
theorem dX1_note_59 : decode cX1_note 59 = .ok (.getfield 22, 3) := by decide +kernel
theorem dX1_note_62 : decode cX1_note 62 = .ok (.iload_n 2, 1) := by decide +kernel
theorem dX1_note_63 : decode cX1_note 63 = .ok (.aload_n 1, 1) := by decide +kernel
theorem dX1_note_64 : decode cX1_note 64 = .ok (.getfield 95, 3) := by decide +kernel
theorem dX1_note_67 : decode cX1_note 67 = .ok (.iload_n 2, 1) := by decide +kernel
theorem dX1_note_68 : decode cX1_note 68 = .ok (.iaload, 1) := by decide +kernel
theorem dX1_note_69 : decode cX1_note 69 = .ok (.iastore, 1) := by decide +kernel
theorem dX1_note_70 : decode cX1_note 70 = .ok (.iinc 2 1, 3) := by decide +kernel
theorem dX1_note_73 : decode cX1_note 73 = .ok (.goto (-47), 3) := by decide +kernel
theorem dX1_note_76 : decode cX1_note 76 = .ok (.return_, 1) := by decide +kernel
theorem dX1_isOvertaken_0 : decode cX1_isOvertaken 0 = .ok (.aload_n 1, 1) := by decide +kernel
theorem dX1_isOvertaken_1 : decode cX1_isOvertaken 1 = .ok (.getfield 72, 3) := by decide +kernel
theorem dX1_isOvertaken_4 : decode cX1_isOvertaken 4 = .ok (.lookupswitch 86 #[(2, 28), (3, 65)], 28) := by decide +kernel
theorem dX1_isOvertaken_32 : decode cX1_isOvertaken 32 = .ok (.aload_n 0, 1) := by decide +kernel
theorem dX1_isOvertaken_33 : decode cX1_isOvertaken 33 = .ok (.getfield 12, 3) := by decide +kernel
theorem dX1_isOvertaken_36 : decode cX1_isOvertaken 36 = .ok (.aload_n 0, 1) := by decide +kernel
theorem dX1_isOvertaken_37 : decode cX1_isOvertaken 37 = .ok (.getfield 44, 3) := by decide +kernel
theorem dX1_isOvertaken_40 : decode cX1_isOvertaken 40 = .ok (.invokevirtual 96, 3) := by decide +kernel
theorem dX1_isOvertaken_43 : decode cX1_isOvertaken 43 = .ok (.iconst (-1), 1) := by decide +kernel
theorem dX1_isOvertaken_44 : decode cX1_isOvertaken 44 = .ok (.if_icmp .eq 19, 3) := by decide +kernel
theorem dX1_isOvertaken_47 : decode cX1_isOvertaken 47 = .ok (.aload_n 0, 1) := by decide +kernel
theorem dX1_isOvertaken_48 : decode cX1_isOvertaken 48 = .ok (.getfield 12, 3) := by decide +kernel
theorem dX1_isOvertaken_51 : decode cX1_isOvertaken 51 = .ok (.aload_n 0, 1) := by decide +kernel
theorem dX1_isOvertaken_52 : decode cX1_isOvertaken 52 = .ok (.getfield 44, 3) := by decide +kernel
theorem dX1_isOvertaken_55 : decode cX1_isOvertaken 55 = .ok (.iconst 1, 1) := by decide +kernel
theorem dX1_isOvertaken_56 : decode cX1_isOvertaken 56 = .ok (.iadd, 1) := by decide +kernel
theorem dX1_isOvertaken_57 : decode cX1_isOvertaken 57 = .ok (.invokevirtual 96, 3) := by decide +kernel
theorem dX1_isOvertaken_60 : decode cX1_isOvertaken 60 = .ok (.ifCond .eq 7, 3) := by decide +kernel
theorem dX1_isOvertaken_63 : decode cX1_isOvertaken 63 = .ok (.iconst 1, 1) := by decide +kernel
theorem dX1_isOvertaken_64 : decode cX1_isOvertaken 64 = .ok (.goto 4, 3) := by decide +kernel
theorem dX1_isOvertaken_67 : decode cX1_isOvertaken 67 = .ok (.iconst 0, 1) := by decide +kernel
theorem dX1_isOvertaken_68 : decode cX1_isOvertaken 68 = .ok (.ireturn, 1) := by decide +kernel
theorem dX1_isOvertaken_69 : decode cX1_isOvertaken 69 = .ok (.aload_n 0, 1) := by decide +kernel
theorem dX1_isOvertaken_70 : decode cX1_isOvertaken 70 = .ok (.getfield 12, 3) := by decide +kernel
theorem dX1_isOvertaken_73 : decode cX1_isOvertaken 73 = .ok (.aload_n 0, 1) := by decide +kernel
theorem dX1_isOvertaken_74 : decode cX1_isOvertaken 74 = .ok (.getfield 44, 3) := by decide +kernel
theorem dX1_isOvertaken_77 : decode cX1_isOvertaken 77 = .ok (.invokevirtual 96, 3) := by decide +kernel
theorem dX1_isOvertaken_80 : decode cX1_isOvertaken 80 = .ok (.iconst (-1), 1) := by decide +kernel
theorem dX1_isOvertaken_81 : decode cX1_isOvertaken 81 = .ok (.if_icmp .ne 7, 3) := by decide +kernel
theorem dX1_isOvertaken_84 : decode cX1_isOvertaken 84 = .ok (.iconst 1, 1) := by decide +kernel
theorem dX1_isOvertaken_85 : decode cX1_isOvertaken 85 = .ok (.goto 4, 3) := by decide +kernel
theorem dX1_isOvertaken_88 : decode cX1_isOvertaken 88 = .ok (.iconst 0, 1) := by decide +kernel
theorem dX1_isOvertaken_89 : decode cX1_isOvertaken 89 = .ok (.ireturn, 1) := by decide +kernel
theorem dX1_isOvertaken_90 : decode cX1_isOvertaken 90 = .ok (.iconst 0, 1) := by decide +kernel
theorem dX1_isOvertaken_91 : decode cX1_isOvertaken 91 = .ok (.ireturn, 1) := by decide +kernel
theorem dX1_overtakenResult_0 : decode cX1_overtakenResult 0 = .ok (.aload_n 1, 1) := by decide +kernel
theorem dX1_overtakenResult_1 : decode cX1_overtakenResult 1 = .ok (.getfield 72, 3) := by decide +kernel
theorem dX1_overtakenResult_4 : decode cX1_overtakenResult 4 = .ok (.iconst 3, 1) := by decide +kernel
theorem dX1_overtakenResult_5 : decode cX1_overtakenResult 5 = .ok (.if_icmp .ne 8, 3) := by decide +kernel
theorem dX1_overtakenResult_8 : decode cX1_overtakenResult 8 = .ok (.aload_n 0, 1) := by decide +kernel
theorem dX1_overtakenResult_9 : decode cX1_overtakenResult 9 = .ok (.getfield 44, 3) := by decide +kernel
theorem dX1_overtakenResult_12 : decode cX1_overtakenResult 12 = .ok (.ireturn, 1) := by decide +kernel
theorem dX1_overtakenResult_13 : decode cX1_overtakenResult 13 = .ok (.aload_n 0, 1) := by decide +kernel
theorem dX1_overtakenResult_14 : decode cX1_overtakenResult 14 = .ok (.getfield 12, 3) := by decide +kernel
theorem dX1_overtakenResult_17 : decode cX1_overtakenResult 17 = .ok (.aload_n 0, 1) := by decide +kernel
theorem dX1_overtakenResult_18 : decode cX1_overtakenResult 18 = .ok (.getfield 44, 3) := by decide +kernel
theorem dX1_overtakenResult_21 : decode cX1_overtakenResult 21 = .ok (.iconst 1, 1) := by decide +kernel
theorem dX1_overtakenResult_22 : decode cX1_overtakenResult 22 = .ok (.iadd, 1) := by decide +kernel
theorem dX1_overtakenResult_23 : decode cX1_overtakenResult 23 = .ok (.invokevirtual 96, 3) := by decide +kernel
theorem dX1_overtakenResult_26 : decode cX1_overtakenResult 26 = .ok (.aload_n 1, 1) := by decide +kernel
theorem dX1_overtakenResult_27 : decode cX1_overtakenResult 27 = .ok (.getfield 100, 3) := by decide +kernel
theorem dX1_overtakenResult_30 : decode cX1_overtakenResult 30 = .ok (.if_icmp .ne 7, 3) := by decide +kernel
theorem dX1_overtakenResult_33 : decode cX1_overtakenResult 33 = .ok (.iconst 1, 1) := by decide +kernel
theorem dX1_overtakenResult_34 : decode cX1_overtakenResult 34 = .ok (.goto 4, 3) := by decide +kernel
theorem dX1_overtakenResult_37 : decode cX1_overtakenResult 37 = .ok (.iconst 0, 1) := by decide +kernel
theorem dX1_overtakenResult_38 : decode cX1_overtakenResult 38 = .ok (.ireturn, 1) := by decide +kernel
theorem dX1_serversToAsk_0 : decode cX1_serversToAsk 0 = .ok (.aload_n 1, 1) := by decide +kernel
theorem dX1_serversToAsk_1 : decode cX1_serversToAsk 1 = .ok (.getfield 72, 3) := by decide +kernel
theorem dX1_serversToAsk_4 : decode cX1_serversToAsk 4 = .ok (.lookupswitch 53 #[(2, 28), (3, 33)], 28) := by decide +kernel
theorem dX1_serversToAsk_32 : decode cX1_serversToAsk 32 = .ok (.aload_n 0, 1) := by decide +kernel
theorem dX1_serversToAsk_33 : decode cX1_serversToAsk 33 = .ok (.getfield 47, 3) := by decide +kernel
theorem dX1_serversToAsk_36 : decode cX1_serversToAsk 36 = .ok (.ireturn, 1) := by decide +kernel
theorem dX1_serversToAsk_37 : decode cX1_serversToAsk 37 = .ok (.aload_n 0, 1) := by decide +kernel
theorem dX1_serversToAsk_38 : decode cX1_serversToAsk 38 = .ok (.getfield 80, 3) := by decide +kernel
theorem dX1_serversToAsk_41 : decode cX1_serversToAsk 41 = .ok (.iconst 1, 1) := by decide +kernel
theorem dX1_serversToAsk_42 : decode cX1_serversToAsk 42 = .ok (.if_icmp .ne 10, 3) := by decide +kernel
theorem dX1_serversToAsk_45 : decode cX1_serversToAsk 45 = .ok (.aload_n 0, 1) := by decide +kernel
theorem dX1_serversToAsk_46 : decode cX1_serversToAsk 46 = .ok (.getfield 47, 3) := by decide +kernel
theorem dX1_serversToAsk_49 : decode cX1_serversToAsk 49 = .ok (.goto 7, 3) := by decide +kernel
theorem dX1_serversToAsk_52 : decode cX1_serversToAsk 52 = .ok (.aload_n 0, 1) := by decide +kernel
theorem dX1_serversToAsk_53 : decode cX1_serversToAsk 53 = .ok (.getfield 50, 3) := by decide +kernel
theorem dX1_serversToAsk_56 : decode cX1_serversToAsk 56 = .ok (.ireturn, 1) := by decide +kernel
theorem dX1_serversToAsk_57 : decode cX1_serversToAsk 57 = .ok (.aload_n 0, 1) := by decide +kernel
theorem dX1_serversToAsk_58 : decode cX1_serversToAsk 58 = .ok (.getfield 12, 3) := by decide +kernel
theorem dX1_serversToAsk_61 : decode cX1_serversToAsk 61 = .ok (.invokevirtual 103, 3) := by decide +kernel
theorem dX1_serversToAsk_64 : decode cX1_serversToAsk 64 = .ok (.ireturn, 1) := by decide +kernel
theorem dX1_roundIsFull_0 : decode cX1_roundIsFull 0 = .ok (.aload_n 1, 1) := by decide +kernel
theorem dX1_roundIsFull_1 : decode cX1_roundIsFull 1 = .ok (.getfield 72, 3) := by decide +kernel
theorem dX1_roundIsFull_4 : decode cX1_roundIsFull 4 = .ok (.ifCond .eq 11, 3) := by decide +kernel
theorem dX1_roundIsFull_7 : decode cX1_roundIsFull 7 = .ok (.aload_n 1, 1) := by decide +kernel
theorem dX1_roundIsFull_8 : decode cX1_roundIsFull 8 = .ok (.getfield 72, 3) := by decide +kernel
theorem dX1_roundIsFull_11 : decode cX1_roundIsFull 11 = .ok (.iconst 1, 1) := by decide +kernel
theorem dX1_roundIsFull_12 : decode cX1_roundIsFull 12 = .ok (.if_icmp .ne 15, 3) := by decide +kernel
theorem dX1_roundIsFull_15 : decode cX1_roundIsFull 15 = .ok (.aload_n 0, 1) := by decide +kernel
theorem dX1_roundIsFull_16 : decode cX1_roundIsFull 16 = .ok (.getfield 12, 3) := by decide +kernel
theorem dX1_roundIsFull_19 : decode cX1_roundIsFull 19 = .ok (.aload_n 0, 1) := by decide +kernel
theorem dX1_roundIsFull_20 : decode cX1_roundIsFull 20 = .ok (.getfield 86, 3) := by decide +kernel
theorem dX1_roundIsFull_23 : decode cX1_roundIsFull 23 = .ok (.invokevirtual 107, 3) := by decide +kernel
theorem dX1_roundIsFull_26 : decode cX1_roundIsFull 26 = .ok (.ireturn, 1) := by decide +kernel
theorem dX1_roundIsFull_27 : decode cX1_roundIsFull 27 = .ok (.aload_n 0, 1) := by decide +kernel
theorem dX1_roundIsFull_28 : decode cX1_roundIsFull 28 = .ok (.aload_n 1, 1) := by decide +kernel
theorem dX1_roundIsFull_29 : decode cX1_roundIsFull 29 = .ok (.invokevirtual 111, 3) := by decide +kernel
theorem dX1_roundIsFull_32 : decode cX1_roundIsFull 32 = .ok (.aload_n 0, 1) := by decide +kernel
theorem dX1_roundIsFull_33 : decode cX1_roundIsFull 33 = .ok (.getfield 86, 3) := by decide +kernel
theorem dX1_roundIsFull_36 : decode cX1_roundIsFull 36 = .ok (.invokestatic 115, 3) := by decide +kernel
theorem dX1_roundIsFull_39 : decode cX1_roundIsFull 39 = .ok (.ireturn, 1) := by decide +kernel
theorem dX1_questionKind_0 : decode cX1_questionKind 0 = .ok (.aload_n 1, 1) := by decide +kernel
theorem dX1_questionKind_1 : decode cX1_questionKind 1 = .ok (.getfield 72, 3) := by decide +kernel
theorem dX1_questionKind_4 : decode cX1_questionKind 4 = .ok (.lookupswitch 56 #[(2, 28), (3, 42)], 28) := by decide +kernel
theorem dX1_questionKind_32 : decode cX1_questionKind 32 = .ok (.aload_n 0, 1) := by decide +kernel
theorem dX1_questionKind_33 : decode cX1_questionKind 33 = .ok (.getfield 80, 3) := by decide +kernel
theorem dX1_questionKind_36 : decode cX1_questionKind 36 = .ok (.iconst 1, 1) := by decide +kernel
theorem dX1_questionKind_37 : decode cX1_questionKind 37 = .ok (.if_icmp .ne 7, 3) := by decide +kernel
theorem dX1_questionKind_40 : decode cX1_questionKind 40 = .ok (.iconst 2, 1) := by decide +kernel
theorem dX1_questionKind_41 : decode cX1_questionKind 41 = .ok (.goto 4, 3) := by decide +kernel
theorem dX1_questionKind_44 : decode cX1_questionKind 44 = .ok (.iconst 3, 1) := by decide +kernel
theorem dX1_questionKind_45 : decode cX1_questionKind 45 = .ok (.ireturn, 1) := by decide +kernel
theorem dX1_questionKind_46 : decode cX1_questionKind 46 = .ok (.aload_n 0, 1) := by decide +kernel
theorem dX1_questionKind_47 : decode cX1_questionKind 47 = .ok (.getfield 80, 3) := by decide +kernel
theorem dX1_questionKind_50 : decode cX1_questionKind 50 = .ok (.iconst 1, 1) := by decide +kernel
theorem dX1_questionKind_51 : decode cX1_questionKind 51 = .ok (.if_icmp .ne 7, 3) := by decide +kernel
theorem dX1_questionKind_54 : decode cX1_questionKind 54 = .ok (.iconst 4, 1) := by decide +kernel
theorem dX1_questionKind_55 : decode cX1_questionKind 55 = .ok (.goto 4, 3) := by decide +kernel
theorem dX1_questionKind_58 : decode cX1_questionKind 58 = .ok (.iconst 5, 1) := by decide +kernel
theorem dX1_questionKind_59 : decode cX1_questionKind 59 = .ok (.ireturn, 1) := by decide +kernel
theorem dX1_questionKind_60 : decode cX1_questionKind 60 = .ok (.aload_n 0, 1) := by decide +kernel
theorem dX1_questionKind_61 : decode cX1_questionKind 61 = .ok (.getfield 80, 3) := by decide +kernel
theorem dX1_questionKind_64 : decode cX1_questionKind 64 = .ok (.iconst 1, 1) := by decide +kernel
theorem dX1_questionKind_65 : decode cX1_questionKind 65 = .ok (.if_icmp .ne 7, 3) := by decide +kernel
theorem dX1_questionKind_68 : decode cX1_questionKind 68 = .ok (.iconst 0, 1) := by decide +kernel
theorem dX1_questionKind_69 : decode cX1_questionKind 69 = .ok (.goto 4, 3) := by decide +kernel
theorem dX1_questionKind_72 : decode cX1_questionKind 72 = .ok (.iconst 1, 1) := by decide +kernel
theorem dX1_questionKind_73 : decode cX1_questionKind 73 = .ok (.ireturn, 1) := by decide +kernel
theorem dX1_fillQuestion_0 : decode cX1_fillQuestion 0 = .ok (.aload_n 2, 1) := by decide +kernel
theorem dX1_fillQuestion_1 : decode cX1_fillQuestion 1 = .ok (.aload_n 0, 1) := by decide +kernel
theorem dX1_fillQuestion_2 : decode cX1_fillQuestion 2 = .ok (.getfield 41, 3) := by decide +kernel
theorem dX1_fillQuestion_5 : decode cX1_fillQuestion 5 = .ok (.putfield 119, 3) := by decide +kernel
theorem dX1_fillQuestion_8 : decode cX1_fillQuestion 8 = .ok (.aload_n 2, 1) := by decide +kernel
theorem dX1_fillQuestion_9 : decode cX1_fillQuestion 9 = .ok (.aload_n 1, 1) := by decide +kernel
theorem dX1_fillQuestion_10 : decode cX1_fillQuestion 10 = .ok (.getfield 72, 3) := by decide +kernel
theorem dX1_fillQuestion_13 : decode cX1_fillQuestion 13 = .ok (.iconst 2, 1) := by decide +kernel
theorem dX1_fillQuestion_14 : decode cX1_fillQuestion 14 = .ok (.if_icmp .ne 10, 3) := by decide +kernel
theorem dX1_fillQuestion_17 : decode cX1_fillQuestion 17 = .ok (.aload_n 0, 1) := by decide +kernel
theorem dX1_fillQuestion_18 : decode cX1_fillQuestion 18 = .ok (.getfield 44, 3) := by decide +kernel
theorem dX1_fillQuestion_21 : decode cX1_fillQuestion 21 = .ok (.goto 7, 3) := by decide +kernel
theorem dX1_fillQuestion_24 : decode cX1_fillQuestion 24 = .ok (.aload_n 1, 1) := by decide +kernel
theorem dX1_fillQuestion_25 : decode cX1_fillQuestion 25 = .ok (.getfield 100, 3) := by decide +kernel
theorem dX1_fillQuestion_28 : decode cX1_fillQuestion 28 = .ok (.putfield 120, 3) := by decide +kernel
theorem dX1_fillQuestion_31 : decode cX1_fillQuestion 31 = .ok (.aload_n 2, 1) := by decide +kernel
theorem dX1_fillQuestion_32 : decode cX1_fillQuestion 32 = .ok (.getfield 121, 3) := by decide +kernel
theorem dX1_fillQuestion_35 : decode cX1_fillQuestion 35 = .ok (.tableswitch 117 1 5 #[33, 53, 66, 117, 84], 33) := by decide +kernel
theorem dX1_fillQuestion_68 : decode cX1_fillQuestion 68 = .ok (.aload_n 2, 1) := by decide +kernel
theorem dX1_fillQuestion_69 : decode cX1_fillQuestion 69 = .ok (.iconst 0, 1) := by decide +kernel
theorem dX1_fillQuestion_70 : decode cX1_fillQuestion 70 = .ok (.aload_n 0, 1) := by decide +kernel
theorem dX1_fillQuestion_71 : decode cX1_fillQuestion 71 = .ok (.getfield 18, 3) := by decide +kernel
theorem dX1_fillQuestion_74 : decode cX1_fillQuestion 74 = .ok (.iconst 0, 1) := by decide +kernel
theorem dX1_fillQuestion_75 : decode cX1_fillQuestion 75 = .ok (.iaload, 1) := by decide +kernel
theorem dX1_fillQuestion_76 : decode cX1_fillQuestion 76 = .ok (.aload_n 0, 1) := by decide +kernel
theorem dX1_fillQuestion_77 : decode cX1_fillQuestion 77 = .ok (.getfield 22, 3) := by decide +kernel
theorem dX1_fillQuestion_80 : decode cX1_fillQuestion 80 = .ok (.iconst 0, 1) := by decide +kernel
theorem dX1_fillQuestion_81 : decode cX1_fillQuestion 81 = .ok (.iaload, 1) := by decide +kernel
theorem dX1_fillQuestion_82 : decode cX1_fillQuestion 82 = .ok (.invokevirtual 122, 3) := by decide +kernel
theorem dX1_fillQuestion_85 : decode cX1_fillQuestion 85 = .ok (.goto 67, 3) := by decide +kernel
theorem dX1_fillQuestion_88 : decode cX1_fillQuestion 88 = .ok (.aload_n 2, 1) := by decide +kernel
theorem dX1_fillQuestion_89 : decode cX1_fillQuestion 89 = .ok (.iconst 0, 1) := by decide +kernel
theorem dX1_fillQuestion_90 : decode cX1_fillQuestion 90 = .ok (.aload_n 0, 1) := by decide +kernel
theorem dX1_fillQuestion_91 : decode cX1_fillQuestion 91 = .ok (.getfield 57, 3) := by decide +kernel
theorem dX1_fillQuestion_94 : decode cX1_fillQuestion 94 = .ok (.iconst 0, 1) := by decide +kernel
theorem dX1_fillQuestion_95 : decode cX1_fillQuestion 95 = .ok (.invokevirtual 122, 3) := by decide +kernel
theorem dX1_fillQuestion_98 : decode cX1_fillQuestion 98 = .ok (.goto 54, 3) := by decide +kernel
theorem dX1_fillQuestion_101 : decode cX1_fillQuestion 101 = .ok (.aload_n 2, 1) := by decide +kernel
theorem dX1_fillQuestion_102 : decode cX1_fillQuestion 102 = .ok (.iconst 0, 1) := by decide +kernel
theorem dX1_fillQuestion_103 : decode cX1_fillQuestion 103 = .ok (.aload_n 0, 1) := by decide +kernel
theorem dX1_fillQuestion_104 : decode cX1_fillQuestion 104 = .ok (.getfield 57, 3) := by decide +kernel
theorem dX1_fillQuestion_107 : decode cX1_fillQuestion 107 = .ok (.aload_n 0, 1) := by decide +kernel
theorem dX1_fillQuestion_108 : decode cX1_fillQuestion 108 = .ok (.getfield 22, 3) := by decide +kernel
theorem dX1_fillQuestion_111 : decode cX1_fillQuestion 111 = .ok (.iconst 0, 1) := by decide +kernel
theorem dX1_fillQuestion_112 : decode cX1_fillQuestion 112 = .ok (.iaload, 1) := by decide +kernel
theorem dX1_fillQuestion_113 : decode cX1_fillQuestion 113 = .ok (.invokevirtual 122, 3) := by decide +kernel
theorem dX1_fillQuestion_116 : decode cX1_fillQuestion 116 = .ok (.goto 36, 3) := by decide +kernel
theorem dX1_fillQuestion_119 : decode cX1_fillQuestion 119 = .ok (.iconst 0, 1) := by decide +kernel
theorem dX1_fillQuestion_120 : decode cX1_fillQuestion 120 = .ok (.istore_n 3, 1) := by decide +kernel
theorem dX1_fillQuestion_121 : decode cX1_fillQuestion 121 = .ok (.iload_n 3, 1) := by decide +kernel
theorem dX1_fillQuestion_122 : decode cX1_fillQuestion 122 = .ok (.iconst 3, 1) := by decide +kernel
theorem dX1_fillQuestion_123 : decode cX1_fillQuestion 123 = .ok (.if_icmp .ge 26, 3) := by decide +kernel
theorem dX1_fillQuestion_126 : decode cX1_fillQuestion 126 = .ok (.aload_n 2, 1) := by decide +kernel
theorem dX1_fillQuestion_127 : decode cX1_fillQuestion 127 = .ok (.iload_n 3, 1) := by decide +kernel
theorem dX1_fillQuestion_128 : decode cX1_fillQuestion 128 = .ok (.aload_n 0, 1) := by decide +kernel
theorem dX1_fillQuestion_129 : decode cX1_fillQuestion 129 = .ok (.getfield 18, 3) := by decide +kernel
theorem dX1_fillQuestion_132 : decode cX1_fillQuestion 132 = .ok (.iload_n 3, 1) := by decide +kernel
theorem dX1_fillQuestion_133 : decode cX1_fillQuestion 133 = .ok (.iaload, 1) := by decide +kernel
theorem dX1_fillQuestion_134 : decode cX1_fillQuestion 134 = .ok (.aload_n 0, 1) := by decide +kernel
theorem dX1_fillQuestion_135 : decode cX1_fillQuestion 135 = .ok (.getfield 22, 3) := by decide +kernel
theorem dX1_fillQuestion_138 : decode cX1_fillQuestion 138 = .ok (.iload_n 3, 1) := by decide +kernel
theorem dX1_fillQuestion_139 : decode cX1_fillQuestion 139 = .ok (.iaload, 1) := by decide +kernel
theorem dX1_fillQuestion_140 : decode cX1_fillQuestion 140 = .ok (.invokevirtual 122, 3) := by decide +kernel
theorem dX1_fillQuestion_143 : decode cX1_fillQuestion 143 = .ok (.iinc 3 1, 3) := by decide +kernel
theorem dX1_fillQuestion_146 : decode cX1_fillQuestion 146 = .ok (.goto (-25), 3) := by decide +kernel
theorem dX1_fillQuestion_149 : decode cX1_fillQuestion 149 = .ok (.goto 3, 3) := by decide +kernel
theorem dX1_fillQuestion_152 : decode cX1_fillQuestion 152 = .ok (.return_, 1) := by decide +kernel
theorem dX1_shownMark_0 : decode cX1_shownMark 0 = .ok (.aload_n 1, 1) := by decide +kernel
theorem dX1_shownMark_1 : decode cX1_shownMark 1 = .ok (.getfield 72, 3) := by decide +kernel
theorem dX1_shownMark_4 : decode cX1_shownMark 4 = .ok (.lookupswitch 35 #[(2, 28), (3, 33)], 28) := by decide +kernel
theorem dX1_shownMark_32 : decode cX1_shownMark 32 = .ok (.aload_n 0, 1) := by decide +kernel
theorem dX1_shownMark_33 : decode cX1_shownMark 33 = .ok (.getfield 57, 3) := by decide +kernel
theorem dX1_shownMark_36 : decode cX1_shownMark 36 = .ok (.ireturn, 1) := by decide +kernel
theorem dX1_shownMark_37 : decode cX1_shownMark 37 = .ok (.iconst 0, 1) := by decide +kernel
theorem dX1_shownMark_38 : decode cX1_shownMark 38 = .ok (.ireturn, 1) := by decide +kernel
theorem dX1_shownMark_39 : decode cX1_shownMark 39 = .ok (.aload_n 0, 1) := by decide +kernel
theorem dX1_shownMark_40 : decode cX1_shownMark 40 = .ok (.getfield 80, 3) := by decide +kernel
theorem dX1_shownMark_43 : decode cX1_shownMark 43 = .ok (.iconst 2, 1) := by decide +kernel
theorem dX1_shownMark_44 : decode cX1_shownMark 44 = .ok (.if_icmp .ne 12, 3) := by decide +kernel
theorem dX1_shownMark_47 : decode cX1_shownMark 47 = .ok (.aload_n 0, 1) := by decide +kernel
theorem dX1_shownMark_48 : decode cX1_shownMark 48 = .ok (.getfield 18, 3) := by decide +kernel
theorem dX1_shownMark_51 : decode cX1_shownMark 51 = .ok (.iconst 0, 1) := by decide +kernel
theorem dX1_shownMark_52 : decode cX1_shownMark 52 = .ok (.iaload, 1) := by decide +kernel
theorem dX1_shownMark_53 : decode cX1_shownMark 53 = .ok (.goto 4, 3) := by decide +kernel
theorem dX1_shownMark_56 : decode cX1_shownMark 56 = .ok (.iconst 0, 1) := by decide +kernel
theorem dX1_shownMark_57 : decode cX1_shownMark 57 = .ok (.ireturn, 1) := by decide +kernel
theorem dX2_init_0 : decode cX2_init 0 = .ok (.aload_n 0, 1) := by decide +kernel
theorem dX2_init_1 : decode cX2_init 1 = .ok (.invokespecial 3, 3) := by decide +kernel
theorem dX2_init_4 : decode cX2_init 4 = .ok (.aload_n 0, 1) := by decide +kernel
theorem dX2_init_5 : decode cX2_init 5 = .ok (.bipush 60, 2) := by decide +kernel
theorem dX2_init_7 : decode cX2_init 7 = .ok (.anewarray 9, 3) := by decide +kernel
theorem dX2_init_10 : decode cX2_init 10 = .ok (.putfield 11, 3) := by decide +kernel
theorem dX2_init_13 : decode cX2_init 13 = .ok (.return_, 1) := by decide +kernel
theorem dX2_restart_0 : decode cX2_restart 0 = .ok (.aload_n 0, 1) := by decide +kernel
theorem dX2_restart_1 : decode cX2_restart 1 = .ok (.iconst 0, 1) := by decide +kernel
theorem dX2_restart_2 : decode cX2_restart 2 = .ok (.putfield 17, 3) := by decide +kernel
theorem dX2_restart_5 : decode cX2_restart 5 = .ok (.aload_n 0, 1) := by decide +kernel
theorem dX2_restart_6 : decode cX2_restart 6 = .ok (.iconst 0, 1) := by decide +kernel
theorem dX2_restart_7 : decode cX2_restart 7 = .ok (.putfield 21, 3) := by decide +kernel
theorem dX2_restart_10 : decode cX2_restart 10 = .ok (.aload_n 0, 1) := by decide +kernel
theorem dX2_restart_11 : decode cX2_restart 11 = .ok (.iconst 0, 1) := by decide +kernel
theorem dX2_restart_12 : decode cX2_restart 12 = .ok (.putfield 24, 3) := by decide +kernel
theorem dX2_restart_15 : decode cX2_restart 15 = .ok (.return_, 1) := by decide +kernel
theorem dX2_hasRoom_0 : decode cX2_hasRoom 0 = .ok (.aload_n 0, 1) := by decide +kernel
theorem dX2_hasRoom_1 : decode cX2_hasRoom 1 = .ok (.getfield 17, 3) := by decide +kernel
theorem dX2_hasRoom_4 : decode cX2_hasRoom 4 = .ok (.bipush 60, 2) := by decide +kernel
theorem dX2_hasRoom_6 : decode cX2_hasRoom 6 = .ok (.if_icmp .ge 7, 3) := by decide +kernel
theorem dX2_hasRoom_9 : decode cX2_hasRoom 9 = .ok (.iconst 1, 1) := by decide +kernel
theorem dX2_hasRoom_10 : decode cX2_hasRoom 10 = .ok (.goto 4, 3) := by decide +kernel
theorem dX2_hasRoom_13 : decode cX2_hasRoom 13 = .ok (.iconst 0, 1) := by decide +kernel
theorem dX2_hasRoom_14 : decode cX2_hasRoom 14 = .ok (.ireturn, 1) := by decide +kernel
theorem dX2_has_0 : decode cX2_has 0 = .ok (.iload_n 1, 1) := by decide +kernel
theorem dX2_has_1 : decode cX2_has 1 = .ok (.ifCond .lt 15, 3) := by decide +kernel
theorem dX2_has_4 : decode cX2_has 4 = .ok (.iload_n 1, 1) := by decide +kernel
theorem dX2_has_5 : decode cX2_has 5 = .ok (.aload_n 0, 1) := by decide +kernel
theorem dX2_has_6 : decode cX2_has 6 = .ok (.getfield 17, 3) := by decide +kernel
theorem dX2_has_9 : decode cX2_has 9 = .ok (.if_icmp .ge 7, 3) := by decide +kernel
theorem dX2_has_12 : decode cX2_has 12 = .ok (.iconst 1, 1) := by decide +kernel
theorem dX2_has_13 : decode cX2_has 13 = .ok (.goto 4, 3) := by decide +kernel
theorem dX2_has_16 : decode cX2_has 16 = .ok (.iconst 0, 1) := by decide +kernel
theorem dX2_has_17 : decode cX2_has 17 = .ok (.ireturn, 1) := by decide +kernel
theorem dX2_open_0 : decode cX2_open 0 = .ok (.aload_n 0, 1) := by decide +kernel
theorem dX2_open_1 : decode cX2_open 1 = .ok (.getfield 11, 3) := by decide +kernel
theorem dX2_open_4 : decode cX2_open 4 = .ok (.aload_n 0, 1) := by decide +kernel
theorem dX2_open_5 : decode cX2_open 5 = .ok (.getfield 17, 3) := by decide +kernel
theorem dX2_open_8 : decode cX2_open 8 = .ok (.aaload, 1) := by decide +kernel
theorem dX2_open_9 : decode cX2_open 9 = .ok (.ifnonnull 23, 3) := by decide +kernel
theorem dX2_open_12 : decode cX2_open 12 = .ok (.aload_n 0, 1) := by decide +kernel
theorem dX2_open_13 : decode cX2_open 13 = .ok (.getfield 11, 3) := by decide +kernel
theorem dX2_open_16 : decode cX2_open 16 = .ok (.aload_n 0, 1) := by decide +kernel
theorem dX2_open_17 : decode cX2_open 17 = .ok (.getfield 17, 3) := by decide +kernel
theorem dX2_open_20 : decode cX2_open 20 = .ok (.new 9, 3) := by decide +kernel
theorem dX2_open_23 : decode cX2_open 23 = .ok (.dup, 1) := by decide +kernel
theorem dX2_open_24 : decode cX2_open 24 = .ok (.aload_n 0, 1) := by decide +kernel
theorem dX2_open_25 : decode cX2_open 25 = .ok (.getfield 17, 3) := by decide +kernel
theorem dX2_open_28 : decode cX2_open 28 = .ok (.invokespecial 27, 3) := by decide +kernel
theorem dX2_open_31 : decode cX2_open 31 = .ok (.aastore, 1) := by decide +kernel
theorem dX2_open_32 : decode cX2_open 32 = .ok (.aload_n 0, 1) := by decide +kernel
theorem dX2_open_33 : decode cX2_open 33 = .ok (.getfield 11, 3) := by decide +kernel
theorem dX2_open_36 : decode cX2_open 36 = .ok (.aload_n 0, 1) := by decide +kernel
theorem dX2_open_37 : decode cX2_open 37 = .ok (.getfield 17, 3) := by decide +kernel
theorem dX2_open_40 : decode cX2_open 40 = .ok (.aaload, 1) := by decide +kernel
theorem dX2_open_41 : decode cX2_open 41 = .ok (.astore 5, 2) := by decide +kernel
theorem dX2_open_43 : decode cX2_open 43 = .ok (.aload_n 0, 1) := by decide +kernel
theorem dX2_open_44 : decode cX2_open 44 = .ok (.dup, 1) := by decide +kernel
theorem dX2_open_45 : decode cX2_open 45 = .ok (.getfield 17, 3) := by decide +kernel
theorem dX2_open_48 : decode cX2_open 48 = .ok (.iconst 1, 1) := by decide +kernel
theorem dX2_open_49 : decode cX2_open 49 = .ok (.iadd, 1) := by decide +kernel
theorem dX2_open_50 : decode cX2_open 50 = .ok (.putfield 17, 3) := by decide +kernel
theorem dX2_open_53 : decode cX2_open 53 = .ok (.aload_n 0, 1) := by decide +kernel
theorem dX2_open_54 : decode cX2_open 54 = .ok (.dup, 1) := by decide +kernel
theorem dX2_open_55 : decode cX2_open 55 = .ok (.getfield 24, 3) := by decide +kernel
theorem dX2_open_58 : decode cX2_open 58 = .ok (.iconst 1, 1) := by decide +kernel
theorem dX2_open_59 : decode cX2_open 59 = .ok (.iadd, 1) := by decide +kernel
theorem dX2_open_60 : decode cX2_open 60 = .ok (.putfield 24, 3) := by decide +kernel
theorem dX2_open_63 : decode cX2_open 63 = .ok (.aload 5, 2) := by decide +kernel
theorem dX2_open_65 : decode cX2_open 65 = .ok (.iload_n 1, 1) := by decide +kernel
theorem dX2_open_66 : decode cX2_open 66 = .ok (.putfield 30, 3) := by decide +kernel
theorem dX2_open_69 : decode cX2_open 69 = .ok (.aload 5, 2) := by decide +kernel
theorem dX2_open_71 : decode cX2_open 71 = .ok (.iload_n 2, 1) := by decide +kernel
theorem dX2_open_72 : decode cX2_open 72 = .ok (.putfield 33, 3) := by decide +kernel
theorem dX2_open_75 : decode cX2_open 75 = .ok (.aload 5, 2) := by decide +kernel
theorem dX2_open_77 : decode cX2_open 77 = .ok (.iload_n 3, 1) := by decide +kernel
theorem dX2_open_78 : decode cX2_open 78 = .ok (.putfield 36, 3) := by decide +kernel
theorem dX2_open_81 : decode cX2_open 81 = .ok (.aload 5, 2) := by decide +kernel
theorem dX2_open_83 : decode cX2_open 83 = .ok (.iload 4, 2) := by decide +kernel
theorem dX2_open_85 : decode cX2_open 85 = .ok (.putfield 39, 3) := by decide +kernel
theorem dX2_open_88 : decode cX2_open 88 = .ok (.aload 5, 2) := by decide +kernel
theorem dX2_open_90 : decode cX2_open 90 = .ok (.iconst 0, 1) := by decide +kernel
theorem dX2_open_91 : decode cX2_open 91 = .ok (.putfield 42, 3) := by decide +kernel
theorem dX2_open_94 : decode cX2_open 94 = .ok (.aload 5, 2) := by decide +kernel
theorem dX2_open_96 : decode cX2_open 96 = .ok (.aload_n 0, 1) := by decide +kernel
theorem dX2_open_97 : decode cX2_open 97 = .ok (.getfield 24, 3) := by decide +kernel
theorem dX2_open_100 : decode cX2_open 100 = .ok (.putfield 45, 3) := by decide +kernel
theorem dX2_open_103 : decode cX2_open 103 = .ok (.aload 5, 2) := by decide +kernel
theorem dX2_open_105 : decode cX2_open 105 = .ok (.iconst 0, 1) := by decide +kernel
theorem dX2_open_106 : decode cX2_open 106 = .ok (.putfield 48, 3) := by decide +kernel
theorem dX2_open_109 : decode cX2_open 109 = .ok (.aload 5, 2) := by decide +kernel
theorem dX2_open_111 : decode cX2_open 111 = .ok (.iconst 0, 1) := by decide +kernel
theorem dX2_open_112 : decode cX2_open 112 = .ok (.putfield 51, 3) := by decide +kernel
theorem dX2_open_115 : decode cX2_open 115 = .ok (.aload 5, 2) := by decide +kernel
theorem dX2_open_117 : decode cX2_open 117 = .ok (.areturn, 1) := by decide +kernel
theorem dX2_close_0 : decode cX2_close 0 = .ok (.aload_n 0, 1) := by decide +kernel
theorem dX2_close_1 : decode cX2_close 1 = .ok (.dup, 1) := by decide +kernel
theorem dX2_close_2 : decode cX2_close 2 = .ok (.getfield 21, 3) := by decide +kernel
theorem dX2_close_5 : decode cX2_close 5 = .ok (.iconst 1, 1) := by decide +kernel
theorem dX2_close_6 : decode cX2_close 6 = .ok (.iadd, 1) := by decide +kernel
theorem dX2_close_7 : decode cX2_close 7 = .ok (.putfield 21, 3) := by decide +kernel
theorem dX2_close_10 : decode cX2_close 10 = .ok (.aload_n 0, 1) := by decide +kernel
theorem dX2_close_11 : decode cX2_close 11 = .ok (.dup, 1) := by decide +kernel
theorem dX2_close_12 : decode cX2_close 12 = .ok (.getfield 24, 3) := by decide +kernel
theorem dX2_close_15 : decode cX2_close 15 = .ok (.iconst 1, 1) := by decide +kernel
theorem dX2_close_16 : decode cX2_close 16 = .ok (.iadd, 1) := by decide +kernel
theorem dX2_close_17 : decode cX2_close 17 = .ok (.putfield 24, 3) := by decide +kernel
theorem dX2_close_20 : decode cX2_close 20 = .ok (.aload_n 1, 1) := by decide +kernel
theorem dX2_close_21 : decode cX2_close 21 = .ok (.iload_n 2, 1) := by decide +kernel
theorem dX2_close_22 : decode cX2_close 22 = .ok (.putfield 42, 3) := by decide +kernel
theorem dX2_close_25 : decode cX2_close 25 = .ok (.aload_n 1, 1) := by decide +kernel
theorem dX2_close_26 : decode cX2_close 26 = .ok (.aload_n 0, 1) := by decide +kernel
theorem dX2_close_27 : decode cX2_close 27 = .ok (.getfield 24, 3) := by decide +kernel
theorem dX2_close_30 : decode cX2_close 30 = .ok (.putfield 48, 3) := by decide +kernel
theorem dX2_close_33 : decode cX2_close 33 = .ok (.return_, 1) := by decide +kernel
theorem dX3_init_0 : decode cX3_init 0 = .ok (.aload_n 0, 1) := by decide +kernel
theorem dX3_init_1 : decode cX3_init 1 = .ok (.invokespecial 3, 3) := by decide +kernel
theorem dX3_init_4 : decode cX3_init 4 = .ok (.aload_n 0, 1) := by decide +kernel
theorem dX3_init_5 : decode cX3_init 5 = .ok (.iconst 3, 1) := by decide +kernel
theorem dX3_init_6 : decode cX3_init 6 = .ok (.newarray .int, 2) := by decide +kernel
theorem dX3_init_8 : decode cX3_init 8 = .ok (.putfield 9, 3) := by decide +kernel
theorem dX3_init_11 : decode cX3_init 11 = .ok (.aload_n 0, 1) := by decide +kernel
theorem dX3_init_12 : decode cX3_init 12 = .ok (.iconst 3, 1) := by decide +kernel
theorem dX3_init_13 : decode cX3_init 13 = .ok (.newarray .int, 2) := by decide +kernel
theorem dX3_init_15 : decode cX3_init 15 = .ok (.putfield 15, 3) := by decide +kernel
theorem dX3_init_18 : decode cX3_init 18 = .ok (.aload_n 0, 1) := by decide +kernel
theorem dX3_init_19 : decode cX3_init 19 = .ok (.aload_n 1, 1) := by decide +kernel
theorem dX3_init_20 : decode cX3_init 20 = .ok (.putfield 18, 3) := by decide +kernel
theorem dX3_init_23 : decode cX3_init 23 = .ok (.return_, 1) := by decide +kernel
theorem dX3_clear_0 : decode cX3_clear 0 = .ok (.aload_n 0, 1) := by decide +kernel
theorem dX3_clear_1 : decode cX3_clear 1 = .ok (.getfield 9, 3) := by decide +kernel
theorem dX3_clear_4 : decode cX3_clear 4 = .ok (.iconst 0, 1) := by decide +kernel
theorem dX3_clear_5 : decode cX3_clear 5 = .ok (.invokestatic 22, 3) := by decide +kernel
theorem dX3_clear_8 : decode cX3_clear 8 = .ok (.aload_n 0, 1) := by decide +kernel
theorem dX3_clear_9 : decode cX3_clear 9 = .ok (.getfield 15, 3) := by decide +kernel
theorem dX3_clear_12 : decode cX3_clear 12 = .ok (.iconst 0, 1) := by decide +kernel
theorem dX3_clear_13 : decode cX3_clear 13 = .ok (.invokestatic 22, 3) := by decide +kernel
theorem dX3_clear_16 : decode cX3_clear 16 = .ok (.aload_n 0, 1) := by decide +kernel
theorem dX3_clear_17 : decode cX3_clear 17 = .ok (.iconst 0, 1) := by decide +kernel
theorem dX3_clear_18 : decode cX3_clear 18 = .ok (.putfield 28, 3) := by decide +kernel
theorem dX3_clear_21 : decode cX3_clear 21 = .ok (.aload_n 0, 1) := by decide +kernel
theorem dX3_clear_22 : decode cX3_clear 22 = .ok (.iconst 0, 1) := by decide +kernel
theorem dX3_clear_23 : decode cX3_clear 23 = .ok (.putfield 32, 3) := by decide +kernel
theorem dX3_clear_26 : decode cX3_clear 26 = .ok (.aload_n 0, 1) := by decide +kernel
theorem dX3_clear_27 : decode cX3_clear 27 = .ok (.iconst 0, 1) := by decide +kernel
theorem dX3_clear_28 : decode cX3_clear 28 = .ok (.putfield 35, 3) := by decide +kernel
theorem dX3_clear_31 : decode cX3_clear 31 = .ok (.return_, 1) := by decide +kernel
theorem dX3_set_0 : decode cX3_set 0 = .ok (.iload_n 1, 1) := by decide +kernel
theorem dX3_set_1 : decode cX3_set 1 = .ok (.ifCond .lt 22, 3) := by decide +kernel
theorem dX3_set_4 : decode cX3_set 4 = .ok (.iload_n 1, 1) := by decide +kernel
theorem dX3_set_5 : decode cX3_set 5 = .ok (.iconst 3, 1) := by decide +kernel
theorem dX3_set_6 : decode cX3_set 6 = .ok (.if_icmp .ge 17, 3) := by decide +kernel
theorem dX3_set_9 : decode cX3_set 9 = .ok (.aload_n 0, 1) := by decide +kernel
theorem dX3_set_10 : decode cX3_set 10 = .ok (.getfield 9, 3) := by decide +kernel
theorem dX3_set_13 : decode cX3_set 13 = .ok (.iload_n 1, 1) := by decide +kernel
theorem dX3_set_14 : decode cX3_set 14 = .ok (.iload_n 2, 1) := by decide +kernel
theorem dX3_set_15 : decode cX3_set 15 = .ok (.iastore, 1) := by decide +kernel
theorem dX3_set_16 : decode cX3_set 16 = .ok (.aload_n 0, 1) := by decide +kernel
theorem dX3_set_17 : decode cX3_set 17 = .ok (.getfield 15, 3) := by decide +kernel
theorem dX3_set_20 : decode cX3_set 20 = .ok (.iload_n 1, 1) := by decide +kernel
theorem dX3_set_21 : decode cX3_set 21 = .ok (.iload_n 3, 1) := by decide +kernel
theorem dX3_set_22 : decode cX3_set 22 = .ok (.iastore, 1) := by decide +kernel
theorem dX3_set_23 : decode cX3_set 23 = .ok (.return_, 1) := by decide +kernel
theorem dX4_init_0 : decode cX4_init 0 = .ok (.aload_n 0, 1) := by decide +kernel
theorem dX4_init_1 : decode cX4_init 1 = .ok (.invokespecial 1, 3) := by decide +kernel
theorem dX4_init_4 : decode cX4_init 4 = .ok (.aload_n 0, 1) := by decide +kernel
theorem dX4_init_5 : decode cX4_init 5 = .ok (.iload_n 1, 1) := by decide +kernel
theorem dX4_init_6 : decode cX4_init 6 = .ok (.putfield 7, 3) := by decide +kernel
theorem dX4_init_9 : decode cX4_init 9 = .ok (.return_, 1) := by decide +kernel
theorem dX4_hasEnded_0 : decode cX4_hasEnded 0 = .ok (.aload_n 0, 1) := by decide +kernel
theorem dX4_hasEnded_1 : decode cX4_hasEnded 1 = .ok (.getfield 13, 3) := by decide +kernel
theorem dX4_hasEnded_4 : decode cX4_hasEnded 4 = .ok (.ifCond .eq 7, 3) := by decide +kernel
theorem dX4_hasEnded_7 : decode cX4_hasEnded 7 = .ok (.iconst 1, 1) := by decide +kernel
theorem dX4_hasEnded_8 : decode cX4_hasEnded 8 = .ok (.goto 4, 3) := by decide +kernel
theorem dX4_hasEnded_11 : decode cX4_hasEnded 11 = .ok (.iconst 0, 1) := by decide +kernel
theorem dX4_hasEnded_12 : decode cX4_hasEnded 12 = .ok (.ireturn, 1) := by decide +kernel
theorem dX5_init_0 : decode cX5_init 0 = .ok (.aload_n 0, 1) := by decide +kernel
theorem dX5_init_1 : decode cX5_init 1 = .ok (.invokespecial 5, 3) := by decide +kernel
theorem dX5_init_4 : decode cX5_init 4 = .ok (.aload_n 0, 1) := by decide +kernel
theorem dX5_init_5 : decode cX5_init 5 = .ok (.bipush 14, 2) := by decide +kernel
theorem dX5_init_7 : decode cX5_init 7 = .ok (.anewarray 11, 3) := by decide +kernel
theorem dX5_init_10 : decode cX5_init 10 = .ok (.putfield 13, 3) := by decide +kernel
theorem dX5_init_13 : decode cX5_init 13 = .ok (.aload_n 0, 1) := by decide +kernel
theorem dX5_init_14 : decode cX5_init 14 = .ok (.iconst 4, 1) := by decide +kernel
theorem dX5_init_15 : decode cX5_init 15 = .ok (.bipush 14, 2) := by decide +kernel
theorem dX5_init_17 : decode cX5_init 17 = .ok (.multianewarray 17 2, 4) := by decide +kernel
theorem dX5_init_21 : decode cX5_init 21 = .ok (.putfield 19, 3) := by decide +kernel
theorem dX5_init_24 : decode cX5_init 24 = .ok (.aload_n 0, 1) := by decide +kernel
theorem dX5_init_25 : decode cX5_init 25 = .ok (.iconst 4, 1) := by decide +kernel
theorem dX5_init_26 : decode cX5_init 26 = .ok (.newarray .int, 2) := by decide +kernel
theorem dX5_init_28 : decode cX5_init 28 = .ok (.putfield 22, 3) := by decide +kernel
theorem dX5_init_31 : decode cX5_init 31 = .ok (.aload_n 0, 1) := by decide +kernel
theorem dX5_init_32 : decode cX5_init 32 = .ok (.iconst 4, 1) := by decide +kernel
theorem dX5_init_33 : decode cX5_init 33 = .ok (.newarray .int, 2) := by decide +kernel
theorem dX5_init_35 : decode cX5_init 35 = .ok (.putfield 26, 3) := by decide +kernel
theorem dX5_init_38 : decode cX5_init 38 = .ok (.aload_n 0, 1) := by decide +kernel
theorem dX5_init_39 : decode cX5_init 39 = .ok (.iconst 4, 1) := by decide +kernel
theorem dX5_init_40 : decode cX5_init 40 = .ok (.newarray .int, 2) := by decide +kernel
theorem dX5_init_42 : decode cX5_init 42 = .ok (.putfield 29, 3) := by decide +kernel
theorem dX5_init_45 : decode cX5_init 45 = .ok (.aload_n 0, 1) := by decide +kernel
theorem dX5_init_46 : decode cX5_init 46 = .ok (.sipush 400, 3) := by decide +kernel
theorem dX5_init_49 : decode cX5_init 49 = .ok (.newarray .int, 2) := by decide +kernel
theorem dX5_init_51 : decode cX5_init 51 = .ok (.putfield 32, 3) := by decide +kernel
theorem dX5_init_54 : decode cX5_init 54 = .ok (.return_, 1) := by decide +kernel
theorem dX5_gather_0 : decode cX5_gather 0 = .ok (.iconst 0, 1) := by decide +kernel
theorem dX5_gather_1 : decode cX5_gather 1 = .ok (.istore_n 3, 1) := by decide +kernel
theorem dX5_gather_2 : decode cX5_gather 2 = .ok (.aload_n 0, 1) := by decide +kernel
theorem dX5_gather_3 : decode cX5_gather 3 = .ok (.iconst 0, 1) := by decide +kernel
theorem dX5_gather_4 : decode cX5_gather 4 = .ok (.putfield 35, 3) := by decide +kernel
theorem dX5_gather_7 : decode cX5_gather 7 = .ok (.aload_n 0, 1) := by decide +kernel
theorem dX5_gather_8 : decode cX5_gather 8 = .ok (.getfield 22, 3) := by decide +kernel
theorem dX5_gather_11 : decode cX5_gather 11 = .ok (.iconst 0, 1) := by decide +kernel
theorem dX5_gather_12 : decode cX5_gather 12 = .ok (.invokestatic 39, 3) := by decide +kernel
theorem dX5_gather_15 : decode cX5_gather 15 = .ok (.iconst 0, 1) := by decide +kernel
theorem dX5_gather_16 : decode cX5_gather 16 = .ok (.istore 4, 2) := by decide +kernel
theorem dX5_gather_18 : decode cX5_gather 18 = .ok (.iload 4, 2) := by decide +kernel
theorem dX5_gather_20 : decode cX5_gather 20 = .ok (.aload_n 1, 1) := by decide +kernel
theorem dX5_gather_21 : decode cX5_gather 21 = .ok (.getfield 45, 3) := by decide +kernel
theorem dX5_gather_24 : decode cX5_gather 24 = .ok (.if_icmp .ge 78, 3) := by decide +kernel
theorem dX5_gather_27 : decode cX5_gather 27 = .ok (.aload_n 1, 1) := by decide +kernel
theorem dX5_gather_28 : decode cX5_gather 28 = .ok (.getfield 50, 3) := by decide +kernel
theorem dX5_gather_31 : decode cX5_gather 31 = .ok (.iload 4, 2) := by decide +kernel
theorem dX5_gather_33 : decode cX5_gather 33 = .ok (.aaload, 1) := by decide +kernel
theorem dX5_gather_34 : decode cX5_gather 34 = .ok (.astore 5, 2) := by decide +kernel
theorem dX5_gather_36 : decode cX5_gather 36 = .ok (.aload 5, 2) := by decide +kernel
theorem dX5_gather_38 : decode cX5_gather 38 = .ok (.getfield 53, 3) := by decide +kernel
theorem dX5_gather_41 : decode cX5_gather 41 = .ok (.ifCond .eq 12, 3) := by decide +kernel
theorem dX5_gather_44 : decode cX5_gather 44 = .ok (.aload 5, 2) := by decide +kernel
theorem dX5_gather_46 : decode cX5_gather 46 = .ok (.getfield 53, 3) := by decide +kernel
theorem dX5_gather_49 : decode cX5_gather 49 = .ok (.iconst 1, 1) := by decide +kernel
theorem dX5_gather_50 : decode cX5_gather 50 = .ok (.if_icmp .ne 46, 3) := by decide +kernel
theorem dX5_gather_53 : decode cX5_gather 53 = .ok (.aload 5, 2) := by decide +kernel
theorem dX5_gather_55 : decode cX5_gather 55 = .ok (.getfield 56, 3) := by decide +kernel
theorem dX5_gather_58 : decode cX5_gather 58 = .ok (.iload_n 2, 1) := by decide +kernel
theorem dX5_gather_59 : decode cX5_gather 59 = .ok (.if_icmp .ne 37, 3) := by decide +kernel
theorem dX5_gather_62 : decode cX5_gather 62 = .ok (.iinc 3 1, 3) := by decide +kernel
theorem dX5_gather_65 : decode cX5_gather 65 = .ok (.iload_n 3, 1) := by decide +kernel
theorem dX5_gather_66 : decode cX5_gather 66 = .ok (.bipush 14, 2) := by decide +kernel
theorem dX5_gather_68 : decode cX5_gather 68 = .ok (.if_icmp .le 5, 3) := by decide +kernel
theorem dX5_gather_71 : decode cX5_gather 71 = .ok (.iconst 0, 1) := by decide +kernel
theorem dX5_gather_72 : decode cX5_gather 72 = .ok (.ireturn, 1) := by decide +kernel
theorem dX5_gather_73 : decode cX5_gather 73 = .ok (.aload 5, 2) := by decide +kernel
theorem dX5_gather_75 : decode cX5_gather 75 = .ok (.getfield 53, 3) := by decide +kernel
theorem dX5_gather_78 : decode cX5_gather 78 = .ok (.iconst 1, 1) := by decide +kernel
theorem dX5_gather_79 : decode cX5_gather 79 = .ok (.if_icmp .eq 11, 3) := by decide +kernel
theorem dX5_gather_82 : decode cX5_gather 82 = .ok (.aload 5, 2) := by decide +kernel
theorem dX5_gather_84 : decode cX5_gather 84 = .ok (.invokevirtual 59, 3) := by decide +kernel
theorem dX5_gather_87 : decode cX5_gather 87 = .ok (.ifCond .eq 9, 3) := by decide +kernel
theorem dX5_gather_90 : decode cX5_gather 90 = .ok (.aload_n 0, 1) := by decide +kernel
theorem dX5_gather_91 : decode cX5_gather 91 = .ok (.aload 5, 2) := by decide +kernel
theorem dX5_gather_93 : decode cX5_gather 93 = .ok (.invokevirtual 63, 3) := by decide +kernel
theorem dX5_gather_96 : decode cX5_gather 96 = .ok (.iinc 4 1, 3) := by decide +kernel
theorem dX5_gather_99 : decode cX5_gather 99 = .ok (.goto (-81), 3) := by decide +kernel
theorem dX5_gather_102 : decode cX5_gather 102 = .ok (.iconst 1, 1) := by decide +kernel
theorem dX5_gather_103 : decode cX5_gather 103 = .ok (.ireturn, 1) := by decide +kernel
theorem dX5_pick_0 : decode cX5_pick 0 = .ok (.aload_n 1, 1) := by decide +kernel
theorem dX5_pick_1 : decode cX5_pick 1 = .ok (.getfield 67, 3) := by decide +kernel
theorem dX5_pick_4 : decode cX5_pick 4 = .ok (.istore_n 2, 1) := by decide +kernel
theorem dX5_pick_5 : decode cX5_pick 5 = .ok (.aload_n 0, 1) := by decide +kernel
theorem dX5_pick_6 : decode cX5_pick 6 = .ok (.getfield 19, 3) := by decide +kernel
theorem dX5_pick_9 : decode cX5_pick 9 = .ok (.iload_n 2, 1) := by decide +kernel
theorem dX5_pick_10 : decode cX5_pick 10 = .ok (.aaload, 1) := by decide +kernel
theorem dX5_pick_11 : decode cX5_pick 11 = .ok (.aload_n 0, 1) := by decide +kernel
theorem dX5_pick_12 : decode cX5_pick 12 = .ok (.getfield 22, 3) := by decide +kernel
theorem dX5_pick_15 : decode cX5_pick 15 = .ok (.iload_n 2, 1) := by decide +kernel
theorem dX5_pick_16 : decode cX5_pick 16 = .ok (.iaload, 1) := by decide +kernel
theorem dX5_pick_17 : decode cX5_pick 17 = .ok (.aload_n 0, 1) := by decide +kernel
theorem dX5_pick_18 : decode cX5_pick 18 = .ok (.getfield 35, 3) := by decide +kernel
theorem dX5_pick_21 : decode cX5_pick 21 = .ok (.iastore, 1) := by decide +kernel
theorem dX5_pick_22 : decode cX5_pick 22 = .ok (.aload_n 0, 1) := by decide +kernel
theorem dX5_pick_23 : decode cX5_pick 23 = .ok (.getfield 22, 3) := by decide +kernel
theorem dX5_pick_26 : decode cX5_pick 26 = .ok (.iload_n 2, 1) := by decide +kernel
theorem dX5_pick_27 : decode cX5_pick 27 = .ok (.dup2, 1) := by decide +kernel
theorem dX5_pick_28 : decode cX5_pick 28 = .ok (.iaload, 1) := by decide +kernel
theorem dX5_pick_29 : decode cX5_pick 29 = .ok (.iconst 1, 1) := by decide +kernel
theorem dX5_pick_30 : decode cX5_pick 30 = .ok (.iadd, 1) := by decide +kernel
theorem dX5_pick_31 : decode cX5_pick 31 = .ok (.iastore, 1) := by decide +kernel
theorem dX5_pick_32 : decode cX5_pick 32 = .ok (.aload_n 0, 1) := by decide +kernel
theorem dX5_pick_33 : decode cX5_pick 33 = .ok (.getfield 13, 3) := by decide +kernel
theorem dX5_pick_36 : decode cX5_pick 36 = .ok (.aload_n 0, 1) := by decide +kernel
theorem dX5_pick_37 : decode cX5_pick 37 = .ok (.getfield 35, 3) := by decide +kernel
theorem dX5_pick_40 : decode cX5_pick 40 = .ok (.aload_n 1, 1) := by decide +kernel
theorem dX5_pick_41 : decode cX5_pick 41 = .ok (.aastore, 1) := by decide +kernel
theorem dX5_pick_42 : decode cX5_pick 42 = .ok (.aload_n 0, 1) := by decide +kernel
theorem dX5_pick_43 : decode cX5_pick 43 = .ok (.dup, 1) := by decide +kernel
theorem dX5_pick_44 : decode cX5_pick 44 = .ok (.getfield 35, 3) := by decide +kernel
