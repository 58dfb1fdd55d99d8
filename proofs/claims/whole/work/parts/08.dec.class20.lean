theorem d_DK_beginIfIdle_0 : decode b_DK_beginIfIdle 0 = .ok (.aload_n 0, 1) := by decide +kernel
theorem d_DK_beginIfIdle_1 : decode b_DK_beginIfIdle 1 = .ok (.getfield 37, 3) := by decide +kernel
theorem d_DK_beginIfIdle_4 : decode b_DK_beginIfIdle 4 = .ok (.ifnull 4, 3) := by decide +kernel
theorem d_DK_beginIfIdle_7 : decode b_DK_beginIfIdle 7 = .ok (.return_, 1) := by decide +kernel
theorem d_DK_beginIfIdle_8 : decode b_DK_beginIfIdle 8 = .ok (.aload_n 0, 1) := by decide +kernel
theorem d_DK_beginIfIdle_9 : decode b_DK_beginIfIdle 9 = .ok (.getfield 12, 3) := by decide +kernel
theorem d_DK_beginIfIdle_12 : decode b_DK_beginIfIdle 12 = .ok (.aload_n 0, 1) := by decide +kernel
theorem d_DK_beginIfIdle_13 : decode b_DK_beginIfIdle 13 = .ok (.invokevirtual 98, 3) := by decide +kernel
theorem d_DK_beginIfIdle_16 : decode b_DK_beginIfIdle 16 = .ok (.invokevirtual 101, 3) := by decide +kernel
theorem d_DK_beginIfIdle_19 : decode b_DK_beginIfIdle 19 = .ok (.astore_n 1, 1) := by decide +kernel
theorem d_DK_beginIfIdle_20 : decode b_DK_beginIfIdle 20 = .ok (.aload_n 1, 1) := by decide +kernel
theorem d_DK_beginIfIdle_21 : decode b_DK_beginIfIdle 21 = .ok (.ifnonnull 4, 3) := by decide +kernel
theorem d_DK_beginIfIdle_24 : decode b_DK_beginIfIdle 24 = .ok (.return_, 1) := by decide +kernel
theorem d_DK_beginIfIdle_25 : decode b_DK_beginIfIdle 25 = .ok (.aload_n 1, 1) := by decide +kernel
theorem d_DK_beginIfIdle_26 : decode b_DK_beginIfIdle 26 = .ok (.getfield 55, 3) := by decide +kernel
theorem d_DK_beginIfIdle_29 : decode b_DK_beginIfIdle 29 = .ok (.iconst 2, 1) := by decide +kernel
theorem d_DK_beginIfIdle_30 : decode b_DK_beginIfIdle 30 = .ok (.if_icmp .ne 19, 3) := by decide +kernel
theorem d_DK_beginIfIdle_33 : decode b_DK_beginIfIdle 33 = .ok (.aload_n 0, 1) := by decide +kernel
theorem d_DK_beginIfIdle_34 : decode b_DK_beginIfIdle 34 = .ok (.aload_n 0, 1) := by decide +kernel
theorem d_DK_beginIfIdle_35 : decode b_DK_beginIfIdle 35 = .ok (.getfield 25, 3) := by decide +kernel
theorem d_DK_beginIfIdle_38 : decode b_DK_beginIfIdle 38 = .ok (.invokevirtual 105, 3) := by decide +kernel
theorem d_DK_beginIfIdle_41 : decode b_DK_beginIfIdle 41 = .ok (.iconst 1, 1) := by decide +kernel
theorem d_DK_beginIfIdle_42 : decode b_DK_beginIfIdle 42 = .ok (.iadd, 1) := by decide +kernel
theorem d_DK_beginIfIdle_43 : decode b_DK_beginIfIdle 43 = .ok (.putfield 52, 3) := by decide +kernel
theorem d_DK_beginIfIdle_46 : decode b_DK_beginIfIdle 46 = .ok (.goto 31, 3) := by decide +kernel
theorem d_DK_beginIfIdle_49 : decode b_DK_beginIfIdle 49 = .ok (.aload_n 1, 1) := by decide +kernel
theorem d_DK_beginIfIdle_50 : decode b_DK_beginIfIdle 50 = .ok (.getfield 60, 3) := by decide +kernel
theorem d_DK_beginIfIdle_53 : decode b_DK_beginIfIdle 53 = .ok (.invokestatic 106, 3) := by decide +kernel
theorem d_DK_beginIfIdle_56 : decode b_DK_beginIfIdle 56 = .ok (.istore_n 2, 1) := by decide +kernel
theorem d_DK_beginIfIdle_57 : decode b_DK_beginIfIdle 57 = .ok (.aload_n 0, 1) := by decide +kernel
theorem d_DK_beginIfIdle_58 : decode b_DK_beginIfIdle 58 = .ok (.iload_n 2, 1) := by decide +kernel
theorem d_DK_beginIfIdle_59 : decode b_DK_beginIfIdle 59 = .ok (.aload_n 0, 1) := by decide +kernel
theorem d_DK_beginIfIdle_60 : decode b_DK_beginIfIdle 60 = .ok (.getfield 72, 3) := by decide +kernel
theorem d_DK_beginIfIdle_63 : decode b_DK_beginIfIdle 63 = .ok (.isub, 1) := by decide +kernel
theorem d_DK_beginIfIdle_64 : decode b_DK_beginIfIdle 64 = .ok (.invokestatic 109, 3) := by decide +kernel
theorem d_DK_beginIfIdle_67 : decode b_DK_beginIfIdle 67 = .ok (.iconst 2, 1) := by decide +kernel
theorem d_DK_beginIfIdle_68 : decode b_DK_beginIfIdle 68 = .ok (.iadd, 1) := by decide +kernel
theorem d_DK_beginIfIdle_69 : decode b_DK_beginIfIdle 69 = .ok (.putfield 52, 3) := by decide +kernel
theorem d_DK_beginIfIdle_72 : decode b_DK_beginIfIdle 72 = .ok (.aload_n 0, 1) := by decide +kernel
theorem d_DK_beginIfIdle_73 : decode b_DK_beginIfIdle 73 = .ok (.iload_n 2, 1) := by decide +kernel
theorem d_DK_beginIfIdle_74 : decode b_DK_beginIfIdle 74 = .ok (.putfield 72, 3) := by decide +kernel
theorem d_DK_beginIfIdle_77 : decode b_DK_beginIfIdle 77 = .ok (.aload_n 0, 1) := by decide +kernel
theorem d_DK_beginIfIdle_78 : decode b_DK_beginIfIdle 78 = .ok (.aload_n 1, 1) := by decide +kernel
theorem d_DK_beginIfIdle_79 : decode b_DK_beginIfIdle 79 = .ok (.putfield 37, 3) := by decide +kernel
theorem d_DK_beginIfIdle_82 : decode b_DK_beginIfIdle 82 = .ok (.return_, 1) := by decide +kernel
theorem d_DK_chosenPlace_0 : decode b_DK_chosenPlace 0 = .ok (.aload_n 0, 1) := by decide +kernel
theorem d_DK_chosenPlace_1 : decode b_DK_chosenPlace 1 = .ok (.getfield 12, 3) := by decide +kernel
theorem d_DK_chosenPlace_4 : decode b_DK_chosenPlace 4 = .ok (.iconst 0, 1) := by decide +kernel
theorem d_DK_chosenPlace_5 : decode b_DK_chosenPlace 5 = .ok (.invokevirtual 134, 3) := by decide +kernel
theorem d_DK_chosenPlace_8 : decode b_DK_chosenPlace 8 = .ok (.astore_n 1, 1) := by decide +kernel
theorem d_DK_chosenPlace_9 : decode b_DK_chosenPlace 9 = .ok (.aload_n 1, 1) := by decide +kernel
theorem d_DK_chosenPlace_10 : decode b_DK_chosenPlace 10 = .ok (.ifnonnull 5, 3) := by decide +kernel
theorem d_DK_chosenPlace_13 : decode b_DK_chosenPlace 13 = .ok (.iconst (-1), 1) := by decide +kernel
theorem d_DK_chosenPlace_14 : decode b_DK_chosenPlace 14 = .ok (.ireturn, 1) := by decide +kernel
theorem d_DK_chosenPlace_15 : decode b_DK_chosenPlace 15 = .ok (.aload_n 1, 1) := by decide +kernel
theorem d_DK_chosenPlace_16 : decode b_DK_chosenPlace 16 = .ok (.getfield 55, 3) := by decide +kernel
theorem d_DK_chosenPlace_19 : decode b_DK_chosenPlace 19 = .ok (.iconst 2, 1) := by decide +kernel
theorem d_DK_chosenPlace_20 : decode b_DK_chosenPlace 20 = .ok (.if_icmp .eq 18, 3) := by decide +kernel
theorem d_DK_chosenPlace_23 : decode b_DK_chosenPlace 23 = .ok (.aload_n 0, 1) := by decide +kernel
theorem d_DK_chosenPlace_24 : decode b_DK_chosenPlace 24 = .ok (.getfield 33, 3) := by decide +kernel
theorem d_DK_chosenPlace_27 : decode b_DK_chosenPlace 27 = .ok (.ifCond .eq 11, 3) := by decide +kernel
theorem d_DK_chosenPlace_30 : decode b_DK_chosenPlace 30 = .ok (.aload_n 0, 1) := by decide +kernel
theorem d_DK_chosenPlace_31 : decode b_DK_chosenPlace 31 = .ok (.aload_n 1, 1) := by decide +kernel
theorem d_DK_chosenPlace_32 : decode b_DK_chosenPlace 32 = .ok (.invokevirtual 137, 3) := by decide +kernel
theorem d_DK_chosenPlace_35 : decode b_DK_chosenPlace 35 = .ok (.ifCond .eq 5, 3) := by decide +kernel
theorem d_DK_chosenPlace_38 : decode b_DK_chosenPlace 38 = .ok (.iconst 0, 1) := by decide +kernel
theorem d_DK_chosenPlace_39 : decode b_DK_chosenPlace 39 = .ok (.ireturn, 1) := by decide +kernel
theorem d_DK_chosenPlace_40 : decode b_DK_chosenPlace 40 = .ok (.aload_n 0, 1) := by decide +kernel
theorem d_DK_chosenPlace_41 : decode b_DK_chosenPlace 41 = .ok (.aload_n 0, 1) := by decide +kernel
theorem d_DK_chosenPlace_42 : decode b_DK_chosenPlace 42 = .ok (.invokevirtual 141, 3) := by decide +kernel
theorem d_DK_chosenPlace_45 : decode b_DK_chosenPlace 45 = .ok (.invokevirtual 144, 3) := by decide +kernel
theorem d_DK_chosenPlace_48 : decode b_DK_chosenPlace 48 = .ok (.istore_n 2, 1) := by decide +kernel
theorem d_DK_chosenPlace_49 : decode b_DK_chosenPlace 49 = .ok (.iload_n 2, 1) := by decide +kernel
theorem d_DK_chosenPlace_50 : decode b_DK_chosenPlace 50 = .ok (.iconst (-1), 1) := by decide +kernel
theorem d_DK_chosenPlace_51 : decode b_DK_chosenPlace 51 = .ok (.if_icmp .eq 5, 3) := by decide +kernel
theorem d_DK_chosenPlace_54 : decode b_DK_chosenPlace 54 = .ok (.iload_n 2, 1) := by decide +kernel
theorem d_DK_chosenPlace_55 : decode b_DK_chosenPlace 55 = .ok (.ireturn, 1) := by decide +kernel
theorem d_DK_chosenPlace_56 : decode b_DK_chosenPlace 56 = .ok (.aload_n 0, 1) := by decide +kernel
theorem d_DK_chosenPlace_57 : decode b_DK_chosenPlace 57 = .ok (.getfield 33, 3) := by decide +kernel
theorem d_DK_chosenPlace_60 : decode b_DK_chosenPlace 60 = .ok (.iconst 2, 1) := by decide +kernel
theorem d_DK_chosenPlace_61 : decode b_DK_chosenPlace 61 = .ok (.if_icmp .ne 28, 3) := by decide +kernel
theorem d_DK_chosenPlace_64 : decode b_DK_chosenPlace 64 = .ok (.aload_n 0, 1) := by decide +kernel
theorem d_DK_chosenPlace_65 : decode b_DK_chosenPlace 65 = .ok (.aload_n 0, 1) := by decide +kernel
theorem d_DK_chosenPlace_66 : decode b_DK_chosenPlace 66 = .ok (.getfield 29, 3) := by decide +kernel
theorem d_DK_chosenPlace_69 : decode b_DK_chosenPlace 69 = .ok (.ifCond .ne 7, 3) := by decide +kernel
theorem d_DK_chosenPlace_72 : decode b_DK_chosenPlace 72 = .ok (.iconst 1, 1) := by decide +kernel
theorem d_DK_chosenPlace_73 : decode b_DK_chosenPlace 73 = .ok (.goto 4, 3) := by decide +kernel
theorem d_DK_chosenPlace_76 : decode b_DK_chosenPlace 76 = .ok (.iconst 0, 1) := by decide +kernel
theorem d_DK_chosenPlace_77 : decode b_DK_chosenPlace 77 = .ok (.putfield 29, 3) := by decide +kernel
theorem d_DK_chosenPlace_80 : decode b_DK_chosenPlace 80 = .ok (.aload_n 0, 1) := by decide +kernel
theorem d_DK_chosenPlace_81 : decode b_DK_chosenPlace 81 = .ok (.aload_n 0, 1) := by decide +kernel
theorem d_DK_chosenPlace_82 : decode b_DK_chosenPlace 82 = .ok (.invokevirtual 141, 3) := by decide +kernel
theorem d_DK_chosenPlace_85 : decode b_DK_chosenPlace 85 = .ok (.invokevirtual 144, 3) := by decide +kernel
theorem d_DK_chosenPlace_88 : decode b_DK_chosenPlace 88 = .ok (.ireturn, 1) := by decide +kernel
theorem d_DK_chosenPlace_89 : decode b_DK_chosenPlace 89 = .ok (.aload_n 0, 1) := by decide +kernel
theorem d_DK_chosenPlace_90 : decode b_DK_chosenPlace 90 = .ok (.iconst 3, 1) := by decide +kernel
theorem d_DK_chosenPlace_91 : decode b_DK_chosenPlace 91 = .ok (.invokevirtual 144, 3) := by decide +kernel
theorem d_DK_chosenPlace_94 : decode b_DK_chosenPlace 94 = .ok (.ireturn, 1) := by decide +kernel
theorem d_DK_end_0 : decode b_DK_end 0 = .ok (.aload_n 0, 1) := by decide +kernel
theorem d_DK_end_1 : decode b_DK_end 1 = .ok (.aconst_null, 1) := by decide +kernel
theorem d_DK_end_2 : decode b_DK_end 2 = .ok (.putfield 37, 3) := by decide +kernel
theorem d_DK_end_5 : decode b_DK_end 5 = .ok (.aload_n 0, 1) := by decide +kernel
theorem d_DK_end_6 : decode b_DK_end 6 = .ok (.dup, 1) := by decide +kernel
theorem d_DK_end_7 : decode b_DK_end 7 = .ok (.getfield 112, 3) := by decide +kernel
theorem d_DK_end_10 : decode b_DK_end 10 = .ok (.iconst 1, 1) := by decide +kernel
theorem d_DK_end_11 : decode b_DK_end 11 = .ok (.iadd, 1) := by decide +kernel
theorem d_DK_end_12 : decode b_DK_end 12 = .ok (.putfield 112, 3) := by decide +kernel
theorem d_DK_end_15 : decode b_DK_end 15 = .ok (.aload_n 1, 1) := by decide +kernel
theorem d_DK_end_16 : decode b_DK_end 16 = .ok (.iconst 1, 1) := by decide +kernel
theorem d_DK_end_17 : decode b_DK_end 17 = .ok (.putfield 115, 3) := by decide +kernel
theorem d_DK_end_20 : decode b_DK_end 20 = .ok (.aload_n 1, 1) := by decide +kernel
theorem d_DK_end_21 : decode b_DK_end 21 = .ok (.getfield 55, 3) := by decide +kernel
theorem d_DK_end_24 : decode b_DK_end 24 = .ok (.ifCond .ne 18, 3) := by decide +kernel
theorem d_DK_end_27 : decode b_DK_end 27 = .ok (.aload_n 1, 1) := by decide +kernel
theorem d_DK_end_28 : decode b_DK_end 28 = .ok (.aload_n 0, 1) := by decide +kernel
theorem d_DK_end_29 : decode b_DK_end 29 = .ok (.aload_n 1, 1) := by decide +kernel
theorem d_DK_end_30 : decode b_DK_end 30 = .ok (.getfield 60, 3) := by decide +kernel
theorem d_DK_end_33 : decode b_DK_end 33 = .ok (.invokevirtual 66, 3) := by decide +kernel
theorem d_DK_end_36 : decode b_DK_end 36 = .ok (.putfield 63, 3) := by decide +kernel
theorem d_DK_end_39 : decode b_DK_end 39 = .ok (.goto 61, 3) := by decide +kernel
theorem d_DK_end_42 : decode b_DK_end 42 = .ok (.aload_n 1, 1) := by decide +kernel
theorem d_DK_end_43 : decode b_DK_end 43 = .ok (.getfield 55, 3) := by decide +kernel
theorem d_DK_end_46 : decode b_DK_end 46 = .ok (.iconst 1, 1) := by decide +kernel
theorem d_DK_end_47 : decode b_DK_end 47 = .ok (.if_icmp .ne 42, 3) := by decide +kernel
theorem d_DK_end_50 : decode b_DK_end 50 = .ok (.aload_n 0, 1) := by decide +kernel
theorem d_DK_end_51 : decode b_DK_end 51 = .ok (.getfield 25, 3) := by decide +kernel
theorem d_DK_end_54 : decode b_DK_end 54 = .ok (.new 80, 3) := by decide +kernel
theorem d_DK_end_57 : decode b_DK_end 57 = .ok (.dup, 1) := by decide +kernel
theorem d_DK_end_58 : decode b_DK_end 58 = .ok (.aload_n 1, 1) := by decide +kernel
theorem d_DK_end_59 : decode b_DK_end 59 = .ok (.getfield 60, 3) := by decide +kernel
theorem d_DK_end_62 : decode b_DK_end 62 = .ok (.aload_n 1, 1) := by decide +kernel
theorem d_DK_end_63 : decode b_DK_end 63 = .ok (.getfield 63, 3) := by decide +kernel
theorem d_DK_end_66 : decode b_DK_end 66 = .ok (.invokespecial 118, 3) := by decide +kernel
theorem d_DK_end_69 : decode b_DK_end 69 = .ok (.invokevirtual 121, 3) := by decide +kernel
theorem d_DK_end_72 : decode b_DK_end 72 = .ok (.aload_n 0, 1) := by decide +kernel
theorem d_DK_end_73 : decode b_DK_end 73 = .ok (.aload_n 0, 1) := by decide +kernel
theorem d_DK_end_74 : decode b_DK_end 74 = .ok (.getfield 25, 3) := by decide +kernel
theorem d_DK_end_77 : decode b_DK_end 77 = .ok (.invokevirtual 105, 3) := by decide +kernel
theorem d_DK_end_80 : decode b_DK_end 80 = .ok (.bipush 6, 2) := by decide +kernel
theorem d_DK_end_82 : decode b_DK_end 82 = .ok (.isub, 1) := by decide +kernel
theorem d_DK_end_83 : decode b_DK_end 83 = .ok (.invokevirtual 125, 3) := by decide +kernel
theorem d_DK_end_86 : decode b_DK_end 86 = .ok (.goto 14, 3) := by decide +kernel
theorem d_DK_end_89 : decode b_DK_end 89 = .ok (.aload_n 0, 1) := by decide +kernel
theorem d_DK_end_90 : decode b_DK_end 90 = .ok (.aload_n 0, 1) := by decide +kernel
theorem d_DK_end_91 : decode b_DK_end 91 = .ok (.getfield 25, 3) := by decide +kernel
theorem d_DK_end_94 : decode b_DK_end 94 = .ok (.invokevirtual 105, 3) := by decide +kernel
theorem d_DK_end_97 : decode b_DK_end 97 = .ok (.invokevirtual 125, 3) := by decide +kernel
theorem d_DK_end_100 : decode b_DK_end 100 = .ok (.return_, 1) := by decide +kernel
theorem d_DK_hasWork_0 : decode b_DK_hasWork 0 = .ok (.aload_n 0, 1) := by decide +kernel
theorem d_DK_hasWork_1 : decode b_DK_hasWork 1 = .ok (.getfield 37, 3) := by decide +kernel
theorem d_DK_hasWork_4 : decode b_DK_hasWork 4 = .ok (.ifnonnull 13, 3) := by decide +kernel
theorem d_DK_hasWork_7 : decode b_DK_hasWork 7 = .ok (.aload_n 0, 1) := by decide +kernel
theorem d_DK_hasWork_8 : decode b_DK_hasWork 8 = .ok (.getfield 12, 3) := by decide +kernel
theorem d_DK_hasWork_11 : decode b_DK_hasWork 11 = .ok (.invokevirtual 41, 3) := by decide +kernel
theorem d_DK_hasWork_14 : decode b_DK_hasWork 14 = .ok (.ifCond .le 7, 3) := by decide +kernel
theorem d_DK_hasWork_17 : decode b_DK_hasWork 17 = .ok (.iconst 1, 1) := by decide +kernel
theorem d_DK_hasWork_18 : decode b_DK_hasWork 18 = .ok (.goto 4, 3) := by decide +kernel
theorem d_DK_hasWork_21 : decode b_DK_hasWork 21 = .ok (.iconst 0, 1) := by decide +kernel
theorem d_DK_hasWork_22 : decode b_DK_hasWork 22 = .ok (.ireturn, 1) := by decide +kernel
theorem d_DK_init_0 : decode b_DK_init 0 = .ok (.aload_n 0, 1) := by decide +kernel
theorem d_DK_init_1 : decode b_DK_init 1 = .ok (.invokespecial 3, 3) := by decide +kernel
theorem d_DK_init_4 : decode b_DK_init 4 = .ok (.aload_n 0, 1) := by decide +kernel
theorem d_DK_init_5 : decode b_DK_init 5 = .ok (.new 9, 3) := by decide +kernel
theorem d_DK_init_8 : decode b_DK_init 8 = .ok (.dup, 1) := by decide +kernel
theorem d_DK_init_9 : decode b_DK_init 9 = .ok (.invokespecial 11, 3) := by decide +kernel
theorem d_DK_init_12 : decode b_DK_init 12 = .ok (.putfield 12, 3) := by decide +kernel
theorem d_DK_init_15 : decode b_DK_init 15 = .ok (.aload_n 0, 1) := by decide +kernel
theorem d_DK_init_16 : decode b_DK_init 16 = .ok (.sipush 256, 3) := by decide +kernel
theorem d_DK_init_19 : decode b_DK_init 19 = .ok (.newarray .int, 2) := by decide +kernel
theorem d_DK_init_21 : decode b_DK_init 21 = .ok (.putfield 18, 3) := by decide +kernel
theorem d_DK_init_24 : decode b_DK_init 24 = .ok (.aload_n 0, 1) := by decide +kernel
theorem d_DK_init_25 : decode b_DK_init 25 = .ok (.new 22, 3) := by decide +kernel
theorem d_DK_init_28 : decode b_DK_init 28 = .ok (.dup, 1) := by decide +kernel
theorem d_DK_init_29 : decode b_DK_init 29 = .ok (.invokespecial 24, 3) := by decide +kernel
theorem d_DK_init_32 : decode b_DK_init 32 = .ok (.putfield 25, 3) := by decide +kernel
theorem d_DK_init_35 : decode b_DK_init 35 = .ok (.aload_n 0, 1) := by decide +kernel
theorem d_DK_init_36 : decode b_DK_init 36 = .ok (.iconst 1, 1) := by decide +kernel
theorem d_DK_init_37 : decode b_DK_init 37 = .ok (.putfield 29, 3) := by decide +kernel
theorem d_DK_init_40 : decode b_DK_init 40 = .ok (.aload_n 0, 1) := by decide +kernel
theorem d_DK_init_41 : decode b_DK_init 41 = .ok (.iconst 3, 1) := by decide +kernel
theorem d_DK_init_42 : decode b_DK_init 42 = .ok (.putfield 33, 3) := by decide +kernel
theorem d_DK_init_45 : decode b_DK_init 45 = .ok (.return_, 1) := by decide +kernel
theorem d_DK_isOldUnderPolicy_0 : decode b_DK_isOldUnderPolicy 0 = .ok (.aload_n 0, 1) := by decide +kernel
theorem d_DK_isOldUnderPolicy_1 : decode b_DK_isOldUnderPolicy 1 = .ok (.getfield 33, 3) := by decide +kernel
theorem d_DK_isOldUnderPolicy_4 : decode b_DK_isOldUnderPolicy 4 = .ok (.iconst 4, 1) := by decide +kernel
theorem d_DK_isOldUnderPolicy_5 : decode b_DK_isOldUnderPolicy 5 = .ok (.if_icmp .ne 21, 3) := by decide +kernel
theorem d_DK_isOldUnderPolicy_8 : decode b_DK_isOldUnderPolicy 8 = .ok (.aload_n 0, 1) := by decide +kernel
theorem d_DK_isOldUnderPolicy_9 : decode b_DK_isOldUnderPolicy 9 = .ok (.getfield 82, 3) := by decide +kernel
theorem d_DK_isOldUnderPolicy_12 : decode b_DK_isOldUnderPolicy 12 = .ok (.aload_n 1, 1) := by decide +kernel
theorem d_DK_isOldUnderPolicy_13 : decode b_DK_isOldUnderPolicy 13 = .ok (.getfield 147, 3) := by decide +kernel
theorem d_DK_isOldUnderPolicy_16 : decode b_DK_isOldUnderPolicy 16 = .ok (.isub, 1) := by decide +kernel
theorem d_DK_isOldUnderPolicy_17 : decode b_DK_isOldUnderPolicy 17 = .ok (.bipush 100, 2) := by decide +kernel
theorem d_DK_isOldUnderPolicy_19 : decode b_DK_isOldUnderPolicy 19 = .ok (.if_icmp .lt 7, 3) := by decide +kernel
theorem d_DK_isOldUnderPolicy_22 : decode b_DK_isOldUnderPolicy 22 = .ok (.iconst 1, 1) := by decide +kernel
theorem d_DK_isOldUnderPolicy_23 : decode b_DK_isOldUnderPolicy 23 = .ok (.goto 4, 3) := by decide +kernel
theorem d_DK_isOldUnderPolicy_26 : decode b_DK_isOldUnderPolicy 26 = .ok (.iconst 0, 1) := by decide +kernel
theorem d_DK_isOldUnderPolicy_27 : decode b_DK_isOldUnderPolicy 27 = .ok (.ireturn, 1) := by decide +kernel
theorem d_DK_loseAllButMedia_0 : decode b_DK_loseAllButMedia 0 = .ok (.aload_n 0, 1) := by decide +kernel
theorem d_DK_loseAllButMedia_1 : decode b_DK_loseAllButMedia 1 = .ok (.getfield 25, 3) := by decide +kernel
theorem d_DK_loseAllButMedia_4 : decode b_DK_loseAllButMedia 4 = .ok (.invokevirtual 69, 3) := by decide +kernel
theorem d_DK_loseAllButMedia_7 : decode b_DK_loseAllButMedia 7 = .ok (.aload_n 0, 1) := by decide +kernel
theorem d_DK_loseAllButMedia_8 : decode b_DK_loseAllButMedia 8 = .ok (.aconst_null, 1) := by decide +kernel
theorem d_DK_loseAllButMedia_9 : decode b_DK_loseAllButMedia 9 = .ok (.putfield 37, 3) := by decide +kernel
theorem d_DK_loseAllButMedia_12 : decode b_DK_loseAllButMedia 12 = .ok (.aload_n 0, 1) := by decide +kernel
theorem d_DK_loseAllButMedia_13 : decode b_DK_loseAllButMedia 13 = .ok (.iconst 0, 1) := by decide +kernel
theorem d_DK_loseAllButMedia_14 : decode b_DK_loseAllButMedia 14 = .ok (.putfield 52, 3) := by decide +kernel
theorem d_DK_loseAllButMedia_17 : decode b_DK_loseAllButMedia 17 = .ok (.aload_n 0, 1) := by decide +kernel
theorem d_DK_loseAllButMedia_18 : decode b_DK_loseAllButMedia 18 = .ok (.iconst 0, 1) := by decide +kernel
theorem d_DK_loseAllButMedia_19 : decode b_DK_loseAllButMedia 19 = .ok (.putfield 72, 3) := by decide +kernel
theorem d_DK_loseAllButMedia_22 : decode b_DK_loseAllButMedia 22 = .ok (.aload_n 0, 1) := by decide +kernel
theorem d_DK_loseAllButMedia_23 : decode b_DK_loseAllButMedia 23 = .ok (.iconst 1, 1) := by decide +kernel
theorem d_DK_loseAllButMedia_24 : decode b_DK_loseAllButMedia 24 = .ok (.putfield 29, 3) := by decide +kernel
theorem d_DK_loseAllButMedia_27 : decode b_DK_loseAllButMedia 27 = .ok (.return_, 1) := by decide +kernel
theorem d_DK_moveToMedia_0 : decode b_DK_moveToMedia 0 = .ok (.iconst 0, 1) := by decide +kernel
theorem d_DK_moveToMedia_1 : decode b_DK_moveToMedia 1 = .ok (.istore_n 2, 1) := by decide +kernel
theorem d_DK_moveToMedia_2 : decode b_DK_moveToMedia 2 = .ok (.iload_n 2, 1) := by decide +kernel
theorem d_DK_moveToMedia_3 : decode b_DK_moveToMedia 3 = .ok (.iload_n 1, 1) := by decide +kernel
theorem d_DK_moveToMedia_4 : decode b_DK_moveToMedia 4 = .ok (.if_icmp .ge 34, 3) := by decide +kernel
theorem d_DK_moveToMedia_7 : decode b_DK_moveToMedia 7 = .ok (.aload_n 0, 1) := by decide +kernel
theorem d_DK_moveToMedia_8 : decode b_DK_moveToMedia 8 = .ok (.getfield 25, 3) := by decide +kernel
theorem d_DK_moveToMedia_11 : decode b_DK_moveToMedia 11 = .ok (.invokevirtual 129, 3) := by decide +kernel
theorem d_DK_moveToMedia_14 : decode b_DK_moveToMedia 14 = .ok (.astore_n 3, 1) := by decide +kernel
theorem d_DK_moveToMedia_15 : decode b_DK_moveToMedia 15 = .ok (.aload_n 3, 1) := by decide +kernel
theorem d_DK_moveToMedia_16 : decode b_DK_moveToMedia 16 = .ok (.ifnull 16, 3) := by decide +kernel
theorem d_DK_moveToMedia_19 : decode b_DK_moveToMedia 19 = .ok (.aload_n 0, 1) := by decide +kernel
theorem d_DK_moveToMedia_20 : decode b_DK_moveToMedia 20 = .ok (.getfield 18, 3) := by decide +kernel
theorem d_DK_moveToMedia_23 : decode b_DK_moveToMedia 23 = .ok (.aload_n 3, 1) := by decide +kernel
theorem d_DK_moveToMedia_24 : decode b_DK_moveToMedia 24 = .ok (.getfield 133, 3) := by decide +kernel
theorem d_DK_moveToMedia_27 : decode b_DK_moveToMedia 27 = .ok (.aload_n 3, 1) := by decide +kernel
theorem d_DK_moveToMedia_28 : decode b_DK_moveToMedia 28 = .ok (.getfield 79, 3) := by decide +kernel
theorem d_DK_moveToMedia_31 : decode b_DK_moveToMedia 31 = .ok (.iastore, 1) := by decide +kernel
theorem d_DK_moveToMedia_32 : decode b_DK_moveToMedia 32 = .ok (.iinc 2 1, 3) := by decide +kernel
theorem d_DK_moveToMedia_35 : decode b_DK_moveToMedia 35 = .ok (.goto (-33), 3) := by decide +kernel
theorem d_DK_moveToMedia_38 : decode b_DK_moveToMedia 38 = .ok (.return_, 1) := by decide +kernel
theorem d_DK_nearestPlace_0 : decode b_DK_nearestPlace 0 = .ok (.iconst (-1), 1) := by decide +kernel
theorem d_DK_nearestPlace_1 : decode b_DK_nearestPlace 1 = .ok (.istore_n 2, 1) := by decide +kernel
theorem d_DK_nearestPlace_2 : decode b_DK_nearestPlace 2 = .ok (.iconst 0, 1) := by decide +kernel
theorem d_DK_nearestPlace_3 : decode b_DK_nearestPlace 3 = .ok (.istore_n 3, 1) := by decide +kernel
theorem d_DK_nearestPlace_4 : decode b_DK_nearestPlace 4 = .ok (.iconst 0, 1) := by decide +kernel
theorem d_DK_nearestPlace_5 : decode b_DK_nearestPlace 5 = .ok (.istore 4, 2) := by decide +kernel
theorem d_DK_nearestPlace_7 : decode b_DK_nearestPlace 7 = .ok (.iload 4, 2) := by decide +kernel
theorem d_DK_nearestPlace_9 : decode b_DK_nearestPlace 9 = .ok (.aload_n 0, 1) := by decide +kernel
theorem d_DK_nearestPlace_10 : decode b_DK_nearestPlace 10 = .ok (.getfield 12, 3) := by decide +kernel
theorem d_DK_nearestPlace_13 : decode b_DK_nearestPlace 13 = .ok (.invokevirtual 41, 3) := by decide +kernel
theorem d_DK_nearestPlace_16 : decode b_DK_nearestPlace 16 = .ok (.if_icmp .ge 74, 3) := by decide +kernel
theorem d_DK_nearestPlace_19 : decode b_DK_nearestPlace 19 = .ok (.aload_n 0, 1) := by decide +kernel
theorem d_DK_nearestPlace_20 : decode b_DK_nearestPlace 20 = .ok (.getfield 12, 3) := by decide +kernel
theorem d_DK_nearestPlace_23 : decode b_DK_nearestPlace 23 = .ok (.iload 4, 2) := by decide +kernel
theorem d_DK_nearestPlace_25 : decode b_DK_nearestPlace 25 = .ok (.invokevirtual 134, 3) := by decide +kernel
theorem d_DK_nearestPlace_28 : decode b_DK_nearestPlace 28 = .ok (.astore 5, 2) := by decide +kernel
theorem d_DK_nearestPlace_30 : decode b_DK_nearestPlace 30 = .ok (.aload 5, 2) := by decide +kernel
theorem d_DK_nearestPlace_32 : decode b_DK_nearestPlace 32 = .ok (.ifnull 52, 3) := by decide +kernel
theorem d_DK_nearestPlace_35 : decode b_DK_nearestPlace 35 = .ok (.aload_n 0, 1) := by decide +kernel
theorem d_DK_nearestPlace_36 : decode b_DK_nearestPlace 36 = .ok (.getfield 12, 3) := by decide +kernel
theorem d_DK_nearestPlace_39 : decode b_DK_nearestPlace 39 = .ok (.iload 4, 2) := by decide +kernel
theorem d_DK_nearestPlace_41 : decode b_DK_nearestPlace 41 = .ok (.invokevirtual 150, 3) := by decide +kernel
theorem d_DK_nearestPlace_44 : decode b_DK_nearestPlace 44 = .ok (.ifCond .eq 40, 3) := by decide +kernel
theorem d_DK_nearestPlace_47 : decode b_DK_nearestPlace 47 = .ok (.aload_n 0, 1) := by decide +kernel
theorem d_DK_nearestPlace_48 : decode b_DK_nearestPlace 48 = .ok (.aload 5, 2) := by decide +kernel
theorem d_DK_nearestPlace_50 : decode b_DK_nearestPlace 50 = .ok (.getfield 60, 3) := by decide +kernel
theorem d_DK_nearestPlace_53 : decode b_DK_nearestPlace 53 = .ok (.invokestatic 106, 3) := by decide +kernel
theorem d_DK_nearestPlace_56 : decode b_DK_nearestPlace 56 = .ok (.iload_n 1, 1) := by decide +kernel
theorem d_DK_nearestPlace_57 : decode b_DK_nearestPlace 57 = .ok (.invokevirtual 154, 3) := by decide +kernel
theorem d_DK_nearestPlace_60 : decode b_DK_nearestPlace 60 = .ok (.istore 6, 2) := by decide +kernel
theorem d_DK_nearestPlace_62 : decode b_DK_nearestPlace 62 = .ok (.iload 6, 2) := by decide +kernel
theorem d_DK_nearestPlace_64 : decode b_DK_nearestPlace 64 = .ok (.ifCond .lt 20, 3) := by decide +kernel
theorem d_DK_nearestPlace_67 : decode b_DK_nearestPlace 67 = .ok (.iload_n 2, 1) := by decide +kernel
theorem d_DK_nearestPlace_68 : decode b_DK_nearestPlace 68 = .ok (.iconst (-1), 1) := by decide +kernel
theorem d_DK_nearestPlace_69 : decode b_DK_nearestPlace 69 = .ok (.if_icmp .eq 9, 3) := by decide +kernel
theorem d_DK_nearestPlace_72 : decode b_DK_nearestPlace 72 = .ok (.iload 6, 2) := by decide +kernel
theorem d_DK_nearestPlace_74 : decode b_DK_nearestPlace 74 = .ok (.iload_n 3, 1) := by decide +kernel
theorem d_DK_nearestPlace_75 : decode b_DK_nearestPlace 75 = .ok (.if_icmp .ge 9, 3) := by decide +kernel
theorem d_DK_nearestPlace_78 : decode b_DK_nearestPlace 78 = .ok (.iload 4, 2) := by decide +kernel
theorem d_DK_nearestPlace_80 : decode b_DK_nearestPlace 80 = .ok (.istore_n 2, 1) := by decide +kernel
theorem d_DK_nearestPlace_81 : decode b_DK_nearestPlace 81 = .ok (.iload 6, 2) := by decide +kernel
theorem d_DK_nearestPlace_83 : decode b_DK_nearestPlace 83 = .ok (.istore_n 3, 1) := by decide +kernel
theorem d_DK_nearestPlace_84 : decode b_DK_nearestPlace 84 = .ok (.iinc 4 1, 3) := by decide +kernel
theorem d_DK_nearestPlace_87 : decode b_DK_nearestPlace 87 = .ok (.goto (-80), 3) := by decide +kernel
theorem d_DK_nearestPlace_90 : decode b_DK_nearestPlace 90 = .ok (.iload_n 2, 1) := by decide +kernel
theorem d_DK_nearestPlace_91 : decode b_DK_nearestPlace 91 = .ok (.ireturn, 1) := by decide +kernel
theorem d_DK_pass_0 : decode b_DK_pass 0 = .ok (.iload_n 1, 1) := by decide +kernel
theorem d_DK_pass_1 : decode b_DK_pass 1 = .ok (.istore_n 2, 1) := by decide +kernel
theorem d_DK_pass_2 : decode b_DK_pass 2 = .ok (.iconst 0, 1) := by decide +kernel
theorem d_DK_pass_3 : decode b_DK_pass 3 = .ok (.istore_n 3, 1) := by decide +kernel
theorem d_DK_pass_4 : decode b_DK_pass 4 = .ok (.iload_n 3, 1) := by decide +kernel
theorem d_DK_pass_5 : decode b_DK_pass 5 = .ok (.iload_n 1, 1) := by decide +kernel
theorem d_DK_pass_6 : decode b_DK_pass 6 = .ok (.if_icmp .ge 25, 3) := by decide +kernel
theorem d_DK_pass_9 : decode b_DK_pass 9 = .ok (.iload_n 2, 1) := by decide +kernel
theorem d_DK_pass_10 : decode b_DK_pass 10 = .ok (.ifCond .le 21, 3) := by decide +kernel
theorem d_DK_pass_13 : decode b_DK_pass 13 = .ok (.aload_n 0, 1) := by decide +kernel
theorem d_DK_pass_14 : decode b_DK_pass 14 = .ok (.invokevirtual 45, 3) := by decide +kernel
theorem d_DK_pass_17 : decode b_DK_pass 17 = .ok (.iload_n 2, 1) := by decide +kernel
theorem d_DK_pass_18 : decode b_DK_pass 18 = .ok (.aload_n 0, 1) := by decide +kernel
theorem d_DK_pass_19 : decode b_DK_pass 19 = .ok (.iload_n 2, 1) := by decide +kernel
theorem d_DK_pass_20 : decode b_DK_pass 20 = .ok (.invokevirtual 48, 3) := by decide +kernel
theorem d_DK_pass_23 : decode b_DK_pass 23 = .ok (.isub, 1) := by decide +kernel
theorem d_DK_pass_24 : decode b_DK_pass 24 = .ok (.istore_n 2, 1) := by decide +kernel
theorem d_DK_pass_25 : decode b_DK_pass 25 = .ok (.iinc 3 1, 3) := by decide +kernel
theorem d_DK_pass_28 : decode b_DK_pass 28 = .ok (.goto (-24), 3) := by decide +kernel
theorem d_DK_pass_31 : decode b_DK_pass 31 = .ok (.return_, 1) := by decide +kernel
theorem d_DK_passToNextEnd_0 : decode b_DK_passToNextEnd 0 = .ok (.aload_n 0, 1) := by decide +kernel
theorem d_DK_passToNextEnd_1 : decode b_DK_passToNextEnd 1 = .ok (.invokevirtual 45, 3) := by decide +kernel
theorem d_DK_passToNextEnd_4 : decode b_DK_passToNextEnd 4 = .ok (.aload_n 0, 1) := by decide +kernel
theorem d_DK_passToNextEnd_5 : decode b_DK_passToNextEnd 5 = .ok (.getfield 37, 3) := by decide +kernel
theorem d_DK_passToNextEnd_8 : decode b_DK_passToNextEnd 8 = .ok (.ifnull 12, 3) := by decide +kernel
theorem d_DK_passToNextEnd_11 : decode b_DK_passToNextEnd 11 = .ok (.aload_n 0, 1) := by decide +kernel
theorem d_DK_passToNextEnd_12 : decode b_DK_passToNextEnd 12 = .ok (.aload_n 0, 1) := by decide +kernel
theorem d_DK_passToNextEnd_13 : decode b_DK_passToNextEnd 13 = .ok (.getfield 52, 3) := by decide +kernel
theorem d_DK_passToNextEnd_16 : decode b_DK_passToNextEnd 16 = .ok (.invokevirtual 48, 3) := by decide +kernel
theorem d_DK_passToNextEnd_19 : decode b_DK_passToNextEnd 19 = .ok (.pop, 1) := by decide +kernel
theorem d_DK_passToNextEnd_20 : decode b_DK_passToNextEnd 20 = .ok (.return_, 1) := by decide +kernel
theorem d_DK_passUntilEnd_0 : decode b_DK_passUntilEnd 0 = .ok (.aload_n 0, 1) := by decide +kernel
theorem d_DK_passUntilEnd_1 : decode b_DK_passUntilEnd 1 = .ok (.getfield 37, 3) := by decide +kernel
theorem d_DK_passUntilEnd_4 : decode b_DK_passUntilEnd 4 = .ok (.ifnonnull 25, 3) := by decide +kernel
theorem d_DK_passUntilEnd_7 : decode b_DK_passUntilEnd 7 = .ok (.aload_n 0, 1) := by decide +kernel
theorem d_DK_passUntilEnd_8 : decode b_DK_passUntilEnd 8 = .ok (.dup, 1) := by decide +kernel
theorem d_DK_passUntilEnd_9 : decode b_DK_passUntilEnd 9 = .ok (.getfield 82, 3) := by decide +kernel
theorem d_DK_passUntilEnd_12 : decode b_DK_passUntilEnd 12 = .ok (.iload_n 1, 1) := by decide +kernel
theorem d_DK_passUntilEnd_13 : decode b_DK_passUntilEnd 13 = .ok (.iadd, 1) := by decide +kernel
theorem d_DK_passUntilEnd_14 : decode b_DK_passUntilEnd 14 = .ok (.putfield 82, 3) := by decide +kernel
theorem d_DK_passUntilEnd_17 : decode b_DK_passUntilEnd 17 = .ok (.aload_n 0, 1) := by decide +kernel
theorem d_DK_passUntilEnd_18 : decode b_DK_passUntilEnd 18 = .ok (.dup, 1) := by decide +kernel
theorem d_DK_passUntilEnd_19 : decode b_DK_passUntilEnd 19 = .ok (.getfield 85, 3) := by decide +kernel
theorem d_DK_passUntilEnd_22 : decode b_DK_passUntilEnd 22 = .ok (.iload_n 1, 1) := by decide +kernel
theorem d_DK_passUntilEnd_23 : decode b_DK_passUntilEnd 23 = .ok (.iadd, 1) := by decide +kernel
theorem d_DK_passUntilEnd_24 : decode b_DK_passUntilEnd 24 = .ok (.putfield 85, 3) := by decide +kernel
theorem d_DK_passUntilEnd_27 : decode b_DK_passUntilEnd 27 = .ok (.iload_n 1, 1) := by decide +kernel
theorem d_DK_passUntilEnd_28 : decode b_DK_passUntilEnd 28 = .ok (.ireturn, 1) := by decide +kernel
theorem d_DK_passUntilEnd_29 : decode b_DK_passUntilEnd 29 = .ok (.iload_n 1, 1) := by decide +kernel
theorem d_DK_passUntilEnd_30 : decode b_DK_passUntilEnd 30 = .ok (.aload_n 0, 1) := by decide +kernel
theorem d_DK_passUntilEnd_31 : decode b_DK_passUntilEnd 31 = .ok (.getfield 52, 3) := by decide +kernel
theorem d_DK_passUntilEnd_34 : decode b_DK_passUntilEnd 34 = .ok (.invokestatic 88, 3) := by decide +kernel
theorem d_DK_passUntilEnd_37 : decode b_DK_passUntilEnd 37 = .ok (.istore_n 2, 1) := by decide +kernel
theorem d_DK_passUntilEnd_38 : decode b_DK_passUntilEnd 38 = .ok (.aload_n 0, 1) := by decide +kernel
theorem d_DK_passUntilEnd_39 : decode b_DK_passUntilEnd 39 = .ok (.dup, 1) := by decide +kernel
theorem d_DK_passUntilEnd_40 : decode b_DK_passUntilEnd 40 = .ok (.getfield 82, 3) := by decide +kernel
theorem d_DK_passUntilEnd_43 : decode b_DK_passUntilEnd 43 = .ok (.iload_n 2, 1) := by decide +kernel
theorem d_DK_passUntilEnd_44 : decode b_DK_passUntilEnd 44 = .ok (.iadd, 1) := by decide +kernel
theorem d_DK_passUntilEnd_45 : decode b_DK_passUntilEnd 45 = .ok (.putfield 82, 3) := by decide +kernel
theorem d_DK_passUntilEnd_48 : decode b_DK_passUntilEnd 48 = .ok (.aload_n 0, 1) := by decide +kernel
theorem d_DK_passUntilEnd_49 : decode b_DK_passUntilEnd 49 = .ok (.dup, 1) := by decide +kernel
theorem d_DK_passUntilEnd_50 : decode b_DK_passUntilEnd 50 = .ok (.getfield 52, 3) := by decide +kernel
theorem d_DK_passUntilEnd_53 : decode b_DK_passUntilEnd 53 = .ok (.iload_n 2, 1) := by decide +kernel
theorem d_DK_passUntilEnd_54 : decode b_DK_passUntilEnd 54 = .ok (.isub, 1) := by decide +kernel
theorem d_DK_passUntilEnd_55 : decode b_DK_passUntilEnd 55 = .ok (.putfield 52, 3) := by decide +kernel
theorem d_DK_passUntilEnd_58 : decode b_DK_passUntilEnd 58 = .ok (.aload_n 0, 1) := by decide +kernel
theorem d_DK_passUntilEnd_59 : decode b_DK_passUntilEnd 59 = .ok (.getfield 52, 3) := by decide +kernel
theorem d_DK_passUntilEnd_62 : decode b_DK_passUntilEnd 62 = .ok (.ifCond .gt 11, 3) := by decide +kernel
theorem d_DK_passUntilEnd_65 : decode b_DK_passUntilEnd 65 = .ok (.aload_n 0, 1) := by decide +kernel
theorem d_DK_passUntilEnd_66 : decode b_DK_passUntilEnd 66 = .ok (.aload_n 0, 1) := by decide +kernel
theorem d_DK_passUntilEnd_67 : decode b_DK_passUntilEnd 67 = .ok (.getfield 37, 3) := by decide +kernel
theorem d_DK_passUntilEnd_70 : decode b_DK_passUntilEnd 70 = .ok (.invokevirtual 94, 3) := by decide +kernel
theorem d_DK_passUntilEnd_73 : decode b_DK_passUntilEnd 73 = .ok (.iload_n 2, 1) := by decide +kernel
theorem d_DK_passUntilEnd_74 : decode b_DK_passUntilEnd 74 = .ok (.ireturn, 1) := by decide +kernel
theorem d_DK_sideOfPolicy_0 : decode b_DK_sideOfPolicy 0 = .ok (.aload_n 0, 1) := by decide +kernel
theorem d_DK_sideOfPolicy_1 : decode b_DK_sideOfPolicy 1 = .ok (.getfield 33, 3) := by decide +kernel
theorem d_DK_sideOfPolicy_4 : decode b_DK_sideOfPolicy 4 = .ok (.iconst 1, 1) := by decide +kernel
theorem d_DK_sideOfPolicy_5 : decode b_DK_sideOfPolicy 5 = .ok (.if_icmp .ne 5, 3) := by decide +kernel
theorem d_DK_sideOfPolicy_8 : decode b_DK_sideOfPolicy 8 = .ok (.iconst 0, 1) := by decide +kernel
theorem d_DK_sideOfPolicy_9 : decode b_DK_sideOfPolicy 9 = .ok (.ireturn, 1) := by decide +kernel
theorem d_DK_sideOfPolicy_10 : decode b_DK_sideOfPolicy 10 = .ok (.aload_n 0, 1) := by decide +kernel
theorem d_DK_sideOfPolicy_11 : decode b_DK_sideOfPolicy 11 = .ok (.getfield 33, 3) := by decide +kernel
theorem d_DK_sideOfPolicy_14 : decode b_DK_sideOfPolicy 14 = .ok (.iconst 2, 1) := by decide +kernel
theorem d_DK_sideOfPolicy_15 : decode b_DK_sideOfPolicy 15 = .ok (.if_icmp .ne 14, 3) := by decide +kernel
theorem d_DK_sideOfPolicy_18 : decode b_DK_sideOfPolicy 18 = .ok (.aload_n 0, 1) := by decide +kernel
theorem d_DK_sideOfPolicy_19 : decode b_DK_sideOfPolicy 19 = .ok (.getfield 29, 3) := by decide +kernel
theorem d_DK_sideOfPolicy_22 : decode b_DK_sideOfPolicy 22 = .ok (.ifCond .ne 7, 3) := by decide +kernel
theorem d_DK_sideOfPolicy_25 : decode b_DK_sideOfPolicy 25 = .ok (.iconst 2, 1) := by decide +kernel
theorem d_DK_sideOfPolicy_26 : decode b_DK_sideOfPolicy 26 = .ok (.goto 4, 3) := by decide +kernel
theorem d_DK_sideOfPolicy_29 : decode b_DK_sideOfPolicy 29 = .ok (.iconst 1, 1) := by decide +kernel
theorem d_DK_sideOfPolicy_30 : decode b_DK_sideOfPolicy 30 = .ok (.ireturn, 1) := by decide +kernel
theorem d_DK_tracksAway_0 : decode b_DK_tracksAway 0 = .ok (.iload_n 2, 1) := by decide +kernel
theorem d_DK_tracksAway_1 : decode b_DK_tracksAway 1 = .ok (.tableswitch 43 1 3 #[27, 34, 41], 27) := by decide +kernel
theorem d_DK_tracksAway_28 : decode b_DK_tracksAway 28 = .ok (.iload_n 1, 1) := by decide +kernel
theorem d_DK_tracksAway_29 : decode b_DK_tracksAway 29 = .ok (.aload_n 0, 1) := by decide +kernel
theorem d_DK_tracksAway_30 : decode b_DK_tracksAway 30 = .ok (.getfield 72, 3) := by decide +kernel
theorem d_DK_tracksAway_33 : decode b_DK_tracksAway 33 = .ok (.isub, 1) := by decide +kernel
theorem d_DK_tracksAway_34 : decode b_DK_tracksAway 34 = .ok (.ireturn, 1) := by decide +kernel
theorem d_DK_tracksAway_35 : decode b_DK_tracksAway 35 = .ok (.aload_n 0, 1) := by decide +kernel
theorem d_DK_tracksAway_36 : decode b_DK_tracksAway 36 = .ok (.getfield 72, 3) := by decide +kernel
theorem d_DK_tracksAway_39 : decode b_DK_tracksAway 39 = .ok (.iload_n 1, 1) := by decide +kernel
theorem d_DK_tracksAway_40 : decode b_DK_tracksAway 40 = .ok (.isub, 1) := by decide +kernel
theorem d_DK_tracksAway_41 : decode b_DK_tracksAway 41 = .ok (.ireturn, 1) := by decide +kernel
theorem d_DK_tracksAway_42 : decode b_DK_tracksAway 42 = .ok (.iload_n 1, 1) := by decide +kernel
theorem d_DK_tracksAway_43 : decode b_DK_tracksAway 43 = .ok (.ireturn, 1) := by decide +kernel
theorem d_DK_tracksAway_44 : decode b_DK_tracksAway 44 = .ok (.iload_n 1, 1) := by decide +kernel
theorem d_DK_tracksAway_45 : decode b_DK_tracksAway 45 = .ok (.aload_n 0, 1) := by decide +kernel
theorem d_DK_tracksAway_46 : decode b_DK_tracksAway 46 = .ok (.getfield 72, 3) := by decide +kernel
theorem d_DK_tracksAway_49 : decode b_DK_tracksAway 49 = .ok (.isub, 1) := by decide +kernel
theorem d_DK_tracksAway_50 : decode b_DK_tracksAway 50 = .ok (.invokestatic 109, 3) := by decide +kernel
theorem d_DK_tracksAway_53 : decode b_DK_tracksAway 53 = .ok (.ireturn, 1) := by decide +kernel
theorem d_DK_valueAfterServing_0 : decode b_DK_valueAfterServing 0 = .ok (.aload_n 0, 1) := by decide +kernel
theorem d_DK_valueAfterServing_1 : decode b_DK_valueAfterServing 1 = .ok (.getfield 37, 3) := by decide +kernel
theorem d_DK_valueAfterServing_4 : decode b_DK_valueAfterServing 4 = .ok (.ifnull 33, 3) := by decide +kernel
theorem d_DK_valueAfterServing_7 : decode b_DK_valueAfterServing 7 = .ok (.aload_n 0, 1) := by decide +kernel
theorem d_DK_valueAfterServing_8 : decode b_DK_valueAfterServing 8 = .ok (.getfield 37, 3) := by decide +kernel
theorem d_DK_valueAfterServing_11 : decode b_DK_valueAfterServing 11 = .ok (.getfield 55, 3) := by decide +kernel
theorem d_DK_valueAfterServing_14 : decode b_DK_valueAfterServing 14 = .ok (.iconst 1, 1) := by decide +kernel
theorem d_DK_valueAfterServing_15 : decode b_DK_valueAfterServing 15 = .ok (.if_icmp .ne 22, 3) := by decide +kernel
theorem d_DK_valueAfterServing_18 : decode b_DK_valueAfterServing 18 = .ok (.aload_n 0, 1) := by decide +kernel
theorem d_DK_valueAfterServing_19 : decode b_DK_valueAfterServing 19 = .ok (.getfield 37, 3) := by decide +kernel
theorem d_DK_valueAfterServing_22 : decode b_DK_valueAfterServing 22 = .ok (.getfield 60, 3) := by decide +kernel
theorem d_DK_valueAfterServing_25 : decode b_DK_valueAfterServing 25 = .ok (.iload_n 1, 1) := by decide +kernel
theorem d_DK_valueAfterServing_26 : decode b_DK_valueAfterServing 26 = .ok (.if_icmp .ne 11, 3) := by decide +kernel
theorem d_DK_valueAfterServing_29 : decode b_DK_valueAfterServing 29 = .ok (.aload_n 0, 1) := by decide +kernel
theorem d_DK_valueAfterServing_30 : decode b_DK_valueAfterServing 30 = .ok (.getfield 37, 3) := by decide +kernel
theorem d_DK_valueAfterServing_33 : decode b_DK_valueAfterServing 33 = .ok (.getfield 63, 3) := by decide +kernel
theorem d_DK_valueAfterServing_36 : decode b_DK_valueAfterServing 36 = .ok (.ireturn, 1) := by decide +kernel
theorem d_DK_valueAfterServing_37 : decode b_DK_valueAfterServing 37 = .ok (.aload_n 0, 1) := by decide +kernel
theorem d_DK_valueAfterServing_38 : decode b_DK_valueAfterServing 38 = .ok (.iload_n 1, 1) := by decide +kernel
theorem d_DK_valueAfterServing_39 : decode b_DK_valueAfterServing 39 = .ok (.invokevirtual 66, 3) := by decide +kernel
theorem d_DK_valueAfterServing_42 : decode b_DK_valueAfterServing 42 = .ok (.ireturn, 1) := by decide +kernel
theorem d_DK_valueInside_0 : decode b_DK_valueInside 0 = .ok (.aload_n 0, 1) := by decide +kernel
theorem d_DK_valueInside_1 : decode b_DK_valueInside 1 = .ok (.getfield 25, 3) := by decide +kernel
theorem d_DK_valueInside_4 : decode b_DK_valueInside 4 = .ok (.iload_n 1, 1) := by decide +kernel
theorem d_DK_valueInside_5 : decode b_DK_valueInside 5 = .ok (.invokevirtual 75, 3) := by decide +kernel
theorem d_DK_valueInside_8 : decode b_DK_valueInside 8 = .ok (.astore_n 2, 1) := by decide +kernel
theorem d_DK_valueInside_9 : decode b_DK_valueInside 9 = .ok (.aload_n 2, 1) := by decide +kernel
theorem d_DK_valueInside_10 : decode b_DK_valueInside 10 = .ok (.ifnonnull 12, 3) := by decide +kernel
theorem d_DK_valueInside_13 : decode b_DK_valueInside 13 = .ok (.aload_n 0, 1) := by decide +kernel
theorem d_DK_valueInside_14 : decode b_DK_valueInside 14 = .ok (.getfield 18, 3) := by decide +kernel
theorem d_DK_valueInside_17 : decode b_DK_valueInside 17 = .ok (.iload_n 1, 1) := by decide +kernel
theorem d_DK_valueInside_18 : decode b_DK_valueInside 18 = .ok (.iaload, 1) := by decide +kernel
theorem d_DK_valueInside_19 : decode b_DK_valueInside 19 = .ok (.goto 7, 3) := by decide +kernel
theorem d_DK_valueInside_22 : decode b_DK_valueInside 22 = .ok (.aload_n 2, 1) := by decide +kernel
theorem d_DK_valueInside_23 : decode b_DK_valueInside 23 = .ok (.getfield 79, 3) := by decide +kernel
theorem d_DK_valueInside_26 : decode b_DK_valueInside 26 = .ok (.ireturn, 1) := by decide +kernel
theorem d_DK_valueOnMedia_0 : decode b_DK_valueOnMedia 0 = .ok (.aload_n 0, 1) := by decide +kernel
theorem d_DK_valueOnMedia_1 : decode b_DK_valueOnMedia 1 = .ok (.getfield 18, 3) := by decide +kernel
theorem d_DK_valueOnMedia_4 : decode b_DK_valueOnMedia 4 = .ok (.iload_n 1, 1) := by decide +kernel
theorem d_DK_valueOnMedia_5 : decode b_DK_valueOnMedia 5 = .ok (.iaload, 1) := by decide +kernel
theorem d_DK_valueOnMedia_6 : decode b_DK_valueOnMedia 6 = .ok (.ireturn, 1) := by decide +kernel
