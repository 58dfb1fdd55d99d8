theorem d_MD_copyRequest_49 : decode b_MD_copyRequest 49 = .ok (.getfield 39, 3) := by decide +kernel
theorem d_MD_copyRequest_52 : decode b_MD_copyRequest 52 = .ok (.iload_n 2, 1) := by decide +kernel
theorem d_MD_copyRequest_53 : decode b_MD_copyRequest 53 = .ok (.aload_n 0, 1) := by decide +kernel
theorem d_MD_copyRequest_54 : decode b_MD_copyRequest 54 = .ok (.getfield 39, 3) := by decide +kernel
theorem d_MD_copyRequest_57 : decode b_MD_copyRequest 57 = .ok (.iload_n 1, 1) := by decide +kernel
theorem d_MD_copyRequest_58 : decode b_MD_copyRequest 58 = .ok (.iaload, 1) := by decide +kernel
theorem d_MD_copyRequest_59 : decode b_MD_copyRequest 59 = .ok (.iastore, 1) := by decide +kernel
theorem d_MD_copyRequest_60 : decode b_MD_copyRequest 60 = .ok (.return_, 1) := by decide +kernel
theorem d_MD_crash_0 : decode b_MD_crash 0 = .ok (.aload_n 0, 1) := by decide +kernel
theorem d_MD_crash_1 : decode b_MD_crash 1 = .ok (.iconst 0, 1) := by decide +kernel
theorem d_MD_crash_2 : decode b_MD_crash 2 = .ok (.putfield 52, 3) := by decide +kernel
theorem d_MD_crash_5 : decode b_MD_crash 5 = .ok (.iconst 0, 1) := by decide +kernel
theorem d_MD_crash_6 : decode b_MD_crash 6 = .ok (.istore_n 1, 1) := by decide +kernel
theorem d_MD_crash_7 : decode b_MD_crash 7 = .ok (.iconst 0, 1) := by decide +kernel
theorem d_MD_crash_8 : decode b_MD_crash 8 = .ok (.istore_n 2, 1) := by decide +kernel
theorem d_MD_crash_9 : decode b_MD_crash 9 = .ok (.iload_n 2, 1) := by decide +kernel
theorem d_MD_crash_10 : decode b_MD_crash 10 = .ok (.sipush 256, 3) := by decide +kernel
theorem d_MD_crash_13 : decode b_MD_crash 13 = .ok (.if_icmp .ge 31, 3) := by decide +kernel
theorem d_MD_crash_16 : decode b_MD_crash 16 = .ok (.iload_n 1, 1) := by decide +kernel
theorem d_MD_crash_17 : decode b_MD_crash 17 = .ok (.aload_n 0, 1) := by decide +kernel
theorem d_MD_crash_18 : decode b_MD_crash 18 = .ok (.iload_n 2, 1) := by decide +kernel
theorem d_MD_crash_19 : decode b_MD_crash 19 = .ok (.invokevirtual 159, 3) := by decide +kernel
theorem d_MD_crash_22 : decode b_MD_crash 22 = .ok (.aload_n 0, 1) := by decide +kernel
theorem d_MD_crash_23 : decode b_MD_crash 23 = .ok (.getfield 13, 3) := by decide +kernel
theorem d_MD_crash_26 : decode b_MD_crash 26 = .ok (.iload_n 2, 1) := by decide +kernel
theorem d_MD_crash_27 : decode b_MD_crash 27 = .ok (.iaload, 1) := by decide +kernel
theorem d_MD_crash_28 : decode b_MD_crash 28 = .ok (.if_icmp .eq 7, 3) := by decide +kernel
theorem d_MD_crash_31 : decode b_MD_crash 31 = .ok (.iconst 1, 1) := by decide +kernel
theorem d_MD_crash_32 : decode b_MD_crash 32 = .ok (.goto 4, 3) := by decide +kernel
theorem d_MD_crash_35 : decode b_MD_crash 35 = .ok (.iconst 0, 1) := by decide +kernel
theorem d_MD_crash_36 : decode b_MD_crash 36 = .ok (.iadd, 1) := by decide +kernel
theorem d_MD_crash_37 : decode b_MD_crash 37 = .ok (.istore_n 1, 1) := by decide +kernel
theorem d_MD_crash_38 : decode b_MD_crash 38 = .ok (.iinc 2 1, 3) := by decide +kernel
theorem d_MD_crash_41 : decode b_MD_crash 41 = .ok (.goto (-32), 3) := by decide +kernel
theorem d_MD_crash_44 : decode b_MD_crash 44 = .ok (.aload_n 0, 1) := by decide +kernel
theorem d_MD_crash_45 : decode b_MD_crash 45 = .ok (.iconst 0, 1) := by decide +kernel
theorem d_MD_crash_46 : decode b_MD_crash 46 = .ok (.putfield 55, 3) := by decide +kernel
theorem d_MD_crash_49 : decode b_MD_crash 49 = .ok (.aload_n 0, 1) := by decide +kernel
theorem d_MD_crash_50 : decode b_MD_crash 50 = .ok (.iconst 0, 1) := by decide +kernel
theorem d_MD_crash_51 : decode b_MD_crash 51 = .ok (.putfield 69, 3) := by decide +kernel
theorem d_MD_crash_54 : decode b_MD_crash 54 = .ok (.aload_n 0, 1) := by decide +kernel
theorem d_MD_crash_55 : decode b_MD_crash 55 = .ok (.iconst 0, 1) := by decide +kernel
theorem d_MD_crash_56 : decode b_MD_crash 56 = .ok (.putfield 113, 3) := by decide +kernel
theorem d_MD_crash_59 : decode b_MD_crash 59 = .ok (.aload_n 0, 1) := by decide +kernel
theorem d_MD_crash_60 : decode b_MD_crash 60 = .ok (.iconst 0, 1) := by decide +kernel
theorem d_MD_crash_61 : decode b_MD_crash 61 = .ok (.putfield 110, 3) := by decide +kernel
theorem d_MD_crash_64 : decode b_MD_crash 64 = .ok (.aload_n 0, 1) := by decide +kernel
theorem d_MD_crash_65 : decode b_MD_crash 65 = .ok (.iconst 0, 1) := by decide +kernel
theorem d_MD_crash_66 : decode b_MD_crash 66 = .ok (.putfield 85, 3) := by decide +kernel
theorem d_MD_crash_69 : decode b_MD_crash 69 = .ok (.aload_n 0, 1) := by decide +kernel
theorem d_MD_crash_70 : decode b_MD_crash 70 = .ok (.iconst 1, 1) := by decide +kernel
theorem d_MD_crash_71 : decode b_MD_crash 71 = .ok (.putfield 48, 3) := by decide +kernel
theorem d_MD_crash_74 : decode b_MD_crash 74 = .ok (.iload_n 1, 1) := by decide +kernel
theorem d_MD_crash_75 : decode b_MD_crash 75 = .ok (.ireturn, 1) := by decide +kernel
theorem d_MD_distance_0 : decode b_MD_distance 0 = .ok (.aload_n 0, 1) := by decide +kernel
theorem d_MD_distance_1 : decode b_MD_distance 1 = .ok (.iload_n 1, 1) := by decide +kernel
theorem d_MD_distance_2 : decode b_MD_distance 2 = .ok (.invokevirtual 81, 3) := by decide +kernel
theorem d_MD_distance_5 : decode b_MD_distance 5 = .ok (.aload_n 0, 1) := by decide +kernel
theorem d_MD_distance_6 : decode b_MD_distance 6 = .ok (.getfield 85, 3) := by decide +kernel
theorem d_MD_distance_9 : decode b_MD_distance 9 = .ok (.isub, 1) := by decide +kernel
theorem d_MD_distance_10 : decode b_MD_distance 10 = .ok (.istore_n 3, 1) := by decide +kernel
theorem d_MD_distance_11 : decode b_MD_distance 11 = .ok (.iload_n 2, 1) := by decide +kernel
theorem d_MD_distance_12 : decode b_MD_distance 12 = .ok (.lookupswitch 53 #[(1, 28), (2, 39)], 28) := by decide +kernel
theorem d_MD_distance_40 : decode b_MD_distance 40 = .ok (.iload_n 3, 1) := by decide +kernel
theorem d_MD_distance_41 : decode b_MD_distance 41 = .ok (.ifCond .ge 8, 3) := by decide +kernel
theorem d_MD_distance_44 : decode b_MD_distance 44 = .ok (.iload_n 3, 1) := by decide +kernel
theorem d_MD_distance_45 : decode b_MD_distance 45 = .ok (.ineg, 1) := by decide +kernel
theorem d_MD_distance_46 : decode b_MD_distance 46 = .ok (.goto 4, 3) := by decide +kernel
theorem d_MD_distance_49 : decode b_MD_distance 49 = .ok (.iload_n 3, 1) := by decide +kernel
theorem d_MD_distance_50 : decode b_MD_distance 50 = .ok (.ireturn, 1) := by decide +kernel
theorem d_MD_distance_51 : decode b_MD_distance 51 = .ok (.aload_n 0, 1) := by decide +kernel
theorem d_MD_distance_52 : decode b_MD_distance 52 = .ok (.getfield 48, 3) := by decide +kernel
theorem d_MD_distance_55 : decode b_MD_distance 55 = .ok (.ifCond .eq 7, 3) := by decide +kernel
theorem d_MD_distance_58 : decode b_MD_distance 58 = .ok (.iload_n 3, 1) := by decide +kernel
theorem d_MD_distance_59 : decode b_MD_distance 59 = .ok (.goto 5, 3) := by decide +kernel
theorem d_MD_distance_62 : decode b_MD_distance 62 = .ok (.iload_n 3, 1) := by decide +kernel
theorem d_MD_distance_63 : decode b_MD_distance 63 = .ok (.ineg, 1) := by decide +kernel
theorem d_MD_distance_64 : decode b_MD_distance 64 = .ok (.ireturn, 1) := by decide +kernel
theorem d_MD_distance_65 : decode b_MD_distance 65 = .ok (.iload_n 3, 1) := by decide +kernel
theorem d_MD_distance_66 : decode b_MD_distance 66 = .ok (.ireturn, 1) := by decide +kernel
theorem d_MD_drain_0 : decode b_MD_drain 0 = .ok (.aload_n 0, 1) := by decide +kernel
theorem d_MD_drain_1 : decode b_MD_drain 1 = .ok (.iconst 0, 1) := by decide +kernel
theorem d_MD_drain_2 : decode b_MD_drain 2 = .ok (.putfield 52, 3) := by decide +kernel
theorem d_MD_drain_5 : decode b_MD_drain 5 = .ok (.aload_n 0, 1) := by decide +kernel
theorem d_MD_drain_6 : decode b_MD_drain 6 = .ok (.getfield 78, 3) := by decide +kernel
theorem d_MD_drain_9 : decode b_MD_drain 9 = .ok (.istore_n 1, 1) := by decide +kernel
theorem d_MD_drain_10 : decode b_MD_drain 10 = .ok (.aload_n 0, 1) := by decide +kernel
theorem d_MD_drain_11 : decode b_MD_drain 11 = .ok (.getfield 110, 3) := by decide +kernel
theorem d_MD_drain_14 : decode b_MD_drain 14 = .ok (.ifCond .ne 10, 3) := by decide +kernel
theorem d_MD_drain_17 : decode b_MD_drain 17 = .ok (.aload_n 0, 1) := by decide +kernel
theorem d_MD_drain_18 : decode b_MD_drain 18 = .ok (.getfield 69, 3) := by decide +kernel
theorem d_MD_drain_21 : decode b_MD_drain 21 = .ok (.ifCond .le 21, 3) := by decide +kernel
theorem d_MD_drain_24 : decode b_MD_drain 24 = .ok (.aload_n 0, 1) := by decide +kernel
theorem d_MD_drain_25 : decode b_MD_drain 25 = .ok (.getfield 110, 3) := by decide +kernel
theorem d_MD_drain_28 : decode b_MD_drain 28 = .ok (.ifCond .ne 7, 3) := by decide +kernel
theorem d_MD_drain_31 : decode b_MD_drain 31 = .ok (.aload_n 0, 1) := by decide +kernel
theorem d_MD_drain_32 : decode b_MD_drain 32 = .ok (.invokevirtual 150, 3) := by decide +kernel
theorem d_MD_drain_35 : decode b_MD_drain 35 = .ok (.aload_n 0, 1) := by decide +kernel
theorem d_MD_drain_36 : decode b_MD_drain 36 = .ok (.invokevirtual 153, 3) := by decide +kernel
theorem d_MD_drain_39 : decode b_MD_drain 39 = .ok (.goto (-29), 3) := by decide +kernel
theorem d_MD_drain_42 : decode b_MD_drain 42 = .ok (.aload_n 0, 1) := by decide +kernel
theorem d_MD_drain_43 : decode b_MD_drain 43 = .ok (.getfield 78, 3) := by decide +kernel
theorem d_MD_drain_46 : decode b_MD_drain 46 = .ok (.iload_n 1, 1) := by decide +kernel
theorem d_MD_drain_47 : decode b_MD_drain 47 = .ok (.isub, 1) := by decide +kernel
theorem d_MD_drain_48 : decode b_MD_drain 48 = .ok (.ireturn, 1) := by decide +kernel
theorem d_MD_endOne_0 : decode b_MD_endOne 0 = .ok (.aload_n 0, 1) := by decide +kernel
theorem d_MD_endOne_1 : decode b_MD_endOne 1 = .ok (.iconst 0, 1) := by decide +kernel
theorem d_MD_endOne_2 : decode b_MD_endOne 2 = .ok (.putfield 110, 3) := by decide +kernel
theorem d_MD_endOne_5 : decode b_MD_endOne 5 = .ok (.aload_n 0, 1) := by decide +kernel
theorem d_MD_endOne_6 : decode b_MD_endOne 6 = .ok (.dup, 1) := by decide +kernel
theorem d_MD_endOne_7 : decode b_MD_endOne 7 = .ok (.getfield 119, 3) := by decide +kernel
theorem d_MD_endOne_10 : decode b_MD_endOne 10 = .ok (.iconst 1, 1) := by decide +kernel
theorem d_MD_endOne_11 : decode b_MD_endOne 11 = .ok (.iadd, 1) := by decide +kernel
theorem d_MD_endOne_12 : decode b_MD_endOne 12 = .ok (.putfield 119, 3) := by decide +kernel
theorem d_MD_endOne_15 : decode b_MD_endOne 15 = .ok (.aload_n 0, 1) := by decide +kernel
theorem d_MD_endOne_16 : decode b_MD_endOne 16 = .ok (.aload_n 0, 1) := by decide +kernel
theorem d_MD_endOne_17 : decode b_MD_endOne 17 = .ok (.getfield 116, 3) := by decide +kernel
theorem d_MD_endOne_20 : decode b_MD_endOne 20 = .ok (.putfield 78, 3) := by decide +kernel
theorem d_MD_endOne_23 : decode b_MD_endOne 23 = .ok (.aload_n 0, 1) := by decide +kernel
theorem d_MD_endOne_24 : decode b_MD_endOne 24 = .ok (.getfield 30, 3) := by decide +kernel
theorem d_MD_endOne_27 : decode b_MD_endOne 27 = .ok (.bipush 40, 2) := by decide +kernel
theorem d_MD_endOne_29 : decode b_MD_endOne 29 = .ok (.iaload, 1) := by decide +kernel
theorem d_MD_endOne_30 : decode b_MD_endOne 30 = .ok (.ifCond .ne 21, 3) := by decide +kernel
theorem d_MD_endOne_33 : decode b_MD_endOne 33 = .ok (.aload_n 0, 1) := by decide +kernel
theorem d_MD_endOne_34 : decode b_MD_endOne 34 = .ok (.aload_n 0, 1) := by decide +kernel
theorem d_MD_endOne_35 : decode b_MD_endOne 35 = .ok (.aload_n 0, 1) := by decide +kernel
theorem d_MD_endOne_36 : decode b_MD_endOne 36 = .ok (.getfield 33, 3) := by decide +kernel
theorem d_MD_endOne_39 : decode b_MD_endOne 39 = .ok (.bipush 40, 2) := by decide +kernel
theorem d_MD_endOne_41 : decode b_MD_endOne 41 = .ok (.iaload, 1) := by decide +kernel
theorem d_MD_endOne_42 : decode b_MD_endOne 42 = .ok (.invokevirtual 122, 3) := by decide +kernel
theorem d_MD_endOne_45 : decode b_MD_endOne 45 = .ok (.putfield 125, 3) := by decide +kernel
theorem d_MD_endOne_48 : decode b_MD_endOne 48 = .ok (.goto 73, 3) := by decide +kernel
theorem d_MD_endOne_51 : decode b_MD_endOne 51 = .ok (.aload_n 0, 1) := by decide +kernel
theorem d_MD_endOne_52 : decode b_MD_endOne 52 = .ok (.getfield 30, 3) := by decide +kernel
theorem d_MD_endOne_55 : decode b_MD_endOne 55 = .ok (.bipush 40, 2) := by decide +kernel
theorem d_MD_endOne_57 : decode b_MD_endOne 57 = .ok (.iaload, 1) := by decide +kernel
theorem d_MD_endOne_58 : decode b_MD_endOne 58 = .ok (.iconst 1, 1) := by decide +kernel
theorem d_MD_endOne_59 : decode b_MD_endOne 59 = .ok (.if_icmp .ne 24, 3) := by decide +kernel
theorem d_MD_endOne_62 : decode b_MD_endOne 62 = .ok (.aload_n 0, 1) := by decide +kernel
theorem d_MD_endOne_63 : decode b_MD_endOne 63 = .ok (.aload_n 0, 1) := by decide +kernel
theorem d_MD_endOne_64 : decode b_MD_endOne 64 = .ok (.getfield 33, 3) := by decide +kernel
theorem d_MD_endOne_67 : decode b_MD_endOne 67 = .ok (.bipush 40, 2) := by decide +kernel
theorem d_MD_endOne_69 : decode b_MD_endOne 69 = .ok (.iaload, 1) := by decide +kernel
theorem d_MD_endOne_70 : decode b_MD_endOne 70 = .ok (.aload_n 0, 1) := by decide +kernel
theorem d_MD_endOne_71 : decode b_MD_endOne 71 = .ok (.getfield 36, 3) := by decide +kernel
theorem d_MD_endOne_74 : decode b_MD_endOne 74 = .ok (.bipush 40, 2) := by decide +kernel
theorem d_MD_endOne_76 : decode b_MD_endOne 76 = .ok (.iaload, 1) := by decide +kernel
theorem d_MD_endOne_77 : decode b_MD_endOne 77 = .ok (.invokevirtual 128, 3) := by decide +kernel
theorem d_MD_endOne_80 : decode b_MD_endOne 80 = .ok (.goto 41, 3) := by decide +kernel
theorem d_MD_endOne_83 : decode b_MD_endOne 83 = .ok (.iconst 0, 1) := by decide +kernel
theorem d_MD_endOne_84 : decode b_MD_endOne 84 = .ok (.istore_n 1, 1) := by decide +kernel
theorem d_MD_endOne_85 : decode b_MD_endOne 85 = .ok (.iload_n 1, 1) := by decide +kernel
theorem d_MD_endOne_86 : decode b_MD_endOne 86 = .ok (.aload_n 0, 1) := by decide +kernel
theorem d_MD_endOne_87 : decode b_MD_endOne 87 = .ok (.getfield 113, 3) := by decide +kernel
theorem d_MD_endOne_90 : decode b_MD_endOne 90 = .ok (.if_icmp .ge 26, 3) := by decide +kernel
theorem d_MD_endOne_93 : decode b_MD_endOne 93 = .ok (.aload_n 0, 1) := by decide +kernel
theorem d_MD_endOne_94 : decode b_MD_endOne 94 = .ok (.getfield 13, 3) := by decide +kernel
theorem d_MD_endOne_97 : decode b_MD_endOne 97 = .ok (.aload_n 0, 1) := by decide +kernel
theorem d_MD_endOne_98 : decode b_MD_endOne 98 = .ok (.getfield 42, 3) := by decide +kernel
theorem d_MD_endOne_101 : decode b_MD_endOne 101 = .ok (.iload_n 1, 1) := by decide +kernel
theorem d_MD_endOne_102 : decode b_MD_endOne 102 = .ok (.iaload, 1) := by decide +kernel
theorem d_MD_endOne_103 : decode b_MD_endOne 103 = .ok (.aload_n 0, 1) := by decide +kernel
theorem d_MD_endOne_104 : decode b_MD_endOne 104 = .ok (.getfield 45, 3) := by decide +kernel
theorem d_MD_endOne_107 : decode b_MD_endOne 107 = .ok (.iload_n 1, 1) := by decide +kernel
theorem d_MD_endOne_108 : decode b_MD_endOne 108 = .ok (.iaload, 1) := by decide +kernel
theorem d_MD_endOne_109 : decode b_MD_endOne 109 = .ok (.iastore, 1) := by decide +kernel
theorem d_MD_endOne_110 : decode b_MD_endOne 110 = .ok (.iinc 1 1, 3) := by decide +kernel
theorem d_MD_endOne_113 : decode b_MD_endOne 113 = .ok (.goto (-28), 3) := by decide +kernel
theorem d_MD_endOne_116 : decode b_MD_endOne 116 = .ok (.aload_n 0, 1) := by decide +kernel
theorem d_MD_endOne_117 : decode b_MD_endOne 117 = .ok (.iconst 0, 1) := by decide +kernel
theorem d_MD_endOne_118 : decode b_MD_endOne 118 = .ok (.putfield 113, 3) := by decide +kernel
theorem d_MD_endOne_121 : decode b_MD_endOne 121 = .ok (.return_, 1) := by decide +kernel
theorem d_MD_init_0 : decode b_MD_init 0 = .ok (.aload_n 0, 1) := by decide +kernel
theorem d_MD_init_1 : decode b_MD_init 1 = .ok (.invokespecial 1, 3) := by decide +kernel
theorem d_MD_init_4 : decode b_MD_init 4 = .ok (.aload_n 0, 1) := by decide +kernel
theorem d_MD_init_5 : decode b_MD_init 5 = .ok (.iconst 3, 1) := by decide +kernel
theorem d_MD_init_6 : decode b_MD_init 6 = .ok (.putfield 7, 3) := by decide +kernel
theorem d_MD_init_9 : decode b_MD_init 9 = .ok (.aload_n 0, 1) := by decide +kernel
theorem d_MD_init_10 : decode b_MD_init 10 = .ok (.sipush 256, 3) := by decide +kernel
theorem d_MD_init_13 : decode b_MD_init 13 = .ok (.newarray .int, 2) := by decide +kernel
theorem d_MD_init_15 : decode b_MD_init 15 = .ok (.putfield 13, 3) := by decide +kernel
theorem d_MD_init_18 : decode b_MD_init 18 = .ok (.aload_n 0, 1) := by decide +kernel
theorem d_MD_init_19 : decode b_MD_init 19 = .ok (.bipush 11, 2) := by decide +kernel
theorem d_MD_init_21 : decode b_MD_init 21 = .ok (.newarray .int, 2) := by decide +kernel
theorem d_MD_init_23 : decode b_MD_init 23 = .ok (.putfield 17, 3) := by decide +kernel
theorem d_MD_init_26 : decode b_MD_init 26 = .ok (.aload_n 0, 1) := by decide +kernel
theorem d_MD_init_27 : decode b_MD_init 27 = .ok (.bipush 11, 2) := by decide +kernel
theorem d_MD_init_29 : decode b_MD_init 29 = .ok (.newarray .int, 2) := by decide +kernel
theorem d_MD_init_31 : decode b_MD_init 31 = .ok (.putfield 20, 3) := by decide +kernel
theorem d_MD_init_34 : decode b_MD_init 34 = .ok (.aload_n 0, 1) := by decide +kernel
theorem d_MD_init_35 : decode b_MD_init 35 = .ok (.bipush 11, 2) := by decide +kernel
theorem d_MD_init_37 : decode b_MD_init 37 = .ok (.newarray .boolean, 2) := by decide +kernel
theorem d_MD_init_39 : decode b_MD_init 39 = .ok (.putfield 23, 3) := by decide +kernel
theorem d_MD_init_42 : decode b_MD_init 42 = .ok (.aload_n 0, 1) := by decide +kernel
theorem d_MD_init_43 : decode b_MD_init 43 = .ok (.bipush 41, 2) := by decide +kernel
theorem d_MD_init_45 : decode b_MD_init 45 = .ok (.newarray .int, 2) := by decide +kernel
theorem d_MD_init_47 : decode b_MD_init 47 = .ok (.putfield 27, 3) := by decide +kernel
theorem d_MD_init_50 : decode b_MD_init 50 = .ok (.aload_n 0, 1) := by decide +kernel
theorem d_MD_init_51 : decode b_MD_init 51 = .ok (.bipush 41, 2) := by decide +kernel
theorem d_MD_init_53 : decode b_MD_init 53 = .ok (.newarray .int, 2) := by decide +kernel
theorem d_MD_init_55 : decode b_MD_init 55 = .ok (.putfield 30, 3) := by decide +kernel
theorem d_MD_init_58 : decode b_MD_init 58 = .ok (.aload_n 0, 1) := by decide +kernel
theorem d_MD_init_59 : decode b_MD_init 59 = .ok (.bipush 41, 2) := by decide +kernel
theorem d_MD_init_61 : decode b_MD_init 61 = .ok (.newarray .int, 2) := by decide +kernel
theorem d_MD_init_63 : decode b_MD_init 63 = .ok (.putfield 33, 3) := by decide +kernel
theorem d_MD_init_66 : decode b_MD_init 66 = .ok (.aload_n 0, 1) := by decide +kernel
theorem d_MD_init_67 : decode b_MD_init 67 = .ok (.bipush 41, 2) := by decide +kernel
theorem d_MD_init_69 : decode b_MD_init 69 = .ok (.newarray .int, 2) := by decide +kernel
theorem d_MD_init_71 : decode b_MD_init 71 = .ok (.putfield 36, 3) := by decide +kernel
theorem d_MD_init_74 : decode b_MD_init 74 = .ok (.aload_n 0, 1) := by decide +kernel
theorem d_MD_init_75 : decode b_MD_init 75 = .ok (.bipush 41, 2) := by decide +kernel
theorem d_MD_init_77 : decode b_MD_init 77 = .ok (.newarray .int, 2) := by decide +kernel
theorem d_MD_init_79 : decode b_MD_init 79 = .ok (.putfield 39, 3) := by decide +kernel
theorem d_MD_init_82 : decode b_MD_init 82 = .ok (.aload_n 0, 1) := by decide +kernel
theorem d_MD_init_83 : decode b_MD_init 83 = .ok (.bipush 8, 2) := by decide +kernel
theorem d_MD_init_85 : decode b_MD_init 85 = .ok (.newarray .int, 2) := by decide +kernel
theorem d_MD_init_87 : decode b_MD_init 87 = .ok (.putfield 42, 3) := by decide +kernel
theorem d_MD_init_90 : decode b_MD_init 90 = .ok (.aload_n 0, 1) := by decide +kernel
theorem d_MD_init_91 : decode b_MD_init 91 = .ok (.bipush 8, 2) := by decide +kernel
theorem d_MD_init_93 : decode b_MD_init 93 = .ok (.newarray .int, 2) := by decide +kernel
theorem d_MD_init_95 : decode b_MD_init 95 = .ok (.putfield 45, 3) := by decide +kernel
theorem d_MD_init_98 : decode b_MD_init 98 = .ok (.aload_n 0, 1) := by decide +kernel
theorem d_MD_init_99 : decode b_MD_init 99 = .ok (.iconst 1, 1) := by decide +kernel
theorem d_MD_init_100 : decode b_MD_init 100 = .ok (.putfield 48, 3) := by decide +kernel
theorem d_MD_init_103 : decode b_MD_init 103 = .ok (.return_, 1) := by decide +kernel
theorem d_MD_isBlock_0 : decode b_MD_isBlock 0 = .ok (.iload_n 0, 1) := by decide +kernel
theorem d_MD_isBlock_1 : decode b_MD_isBlock 1 = .ok (.ifCond .lt 14, 3) := by decide +kernel
theorem d_MD_isBlock_4 : decode b_MD_isBlock 4 = .ok (.iload_n 0, 1) := by decide +kernel
theorem d_MD_isBlock_5 : decode b_MD_isBlock 5 = .ok (.sipush 256, 3) := by decide +kernel
theorem d_MD_isBlock_8 : decode b_MD_isBlock 8 = .ok (.if_icmp .ge 7, 3) := by decide +kernel
theorem d_MD_isBlock_11 : decode b_MD_isBlock 11 = .ok (.iconst 1, 1) := by decide +kernel
theorem d_MD_isBlock_12 : decode b_MD_isBlock 12 = .ok (.goto 4, 3) := by decide +kernel
theorem d_MD_isBlock_15 : decode b_MD_isBlock 15 = .ok (.iconst 0, 1) := by decide +kernel
theorem d_MD_isBlock_16 : decode b_MD_isBlock 16 = .ok (.ireturn, 1) := by decide +kernel
theorem d_MD_isReady_0 : decode b_MD_isReady 0 = .ok (.iload_n 1, 1) := by decide +kernel
theorem d_MD_isReady_1 : decode b_MD_isReady 1 = .ok (.ifCond .eq 13, 3) := by decide +kernel
theorem d_MD_isReady_4 : decode b_MD_isReady 4 = .ok (.aload_n 0, 1) := by decide +kernel
theorem d_MD_isReady_5 : decode b_MD_isReady 5 = .ok (.getfield 30, 3) := by decide +kernel
theorem d_MD_isReady_8 : decode b_MD_isReady 8 = .ok (.iload_n 1, 1) := by decide +kernel
theorem d_MD_isReady_9 : decode b_MD_isReady 9 = .ok (.iaload, 1) := by decide +kernel
theorem d_MD_isReady_10 : decode b_MD_isReady 10 = .ok (.iconst 2, 1) := by decide +kernel
theorem d_MD_isReady_11 : decode b_MD_isReady 11 = .ok (.if_icmp .eq 7, 3) := by decide +kernel
theorem d_MD_isReady_14 : decode b_MD_isReady 14 = .ok (.iconst 1, 1) := by decide +kernel
theorem d_MD_isReady_15 : decode b_MD_isReady 15 = .ok (.goto 4, 3) := by decide +kernel
theorem d_MD_isReady_18 : decode b_MD_isReady 18 = .ok (.iconst 0, 1) := by decide +kernel
theorem d_MD_isReady_19 : decode b_MD_isReady 19 = .ok (.istore_n 2, 1) := by decide +kernel
theorem d_MD_isReady_20 : decode b_MD_isReady 20 = .ok (.iconst 0, 1) := by decide +kernel
theorem d_MD_isReady_21 : decode b_MD_isReady 21 = .ok (.istore_n 3, 1) := by decide +kernel
theorem d_MD_isReady_22 : decode b_MD_isReady 22 = .ok (.iload_n 3, 1) := by decide +kernel
theorem d_MD_isReady_23 : decode b_MD_isReady 23 = .ok (.iload_n 1, 1) := by decide +kernel
theorem d_MD_isReady_24 : decode b_MD_isReady 24 = .ok (.if_icmp .ge 44, 3) := by decide +kernel
theorem d_MD_isReady_27 : decode b_MD_isReady 27 = .ok (.iload_n 2, 1) := by decide +kernel
theorem d_MD_isReady_28 : decode b_MD_isReady 28 = .ok (.ifCond .eq 32, 3) := by decide +kernel
theorem d_MD_isReady_31 : decode b_MD_isReady 31 = .ok (.aload_n 0, 1) := by decide +kernel
theorem d_MD_isReady_32 : decode b_MD_isReady 32 = .ok (.getfield 30, 3) := by decide +kernel
theorem d_MD_isReady_35 : decode b_MD_isReady 35 = .ok (.iload_n 3, 1) := by decide +kernel
theorem d_MD_isReady_36 : decode b_MD_isReady 36 = .ok (.iaload, 1) := by decide +kernel
theorem d_MD_isReady_37 : decode b_MD_isReady 37 = .ok (.iconst 2, 1) := by decide +kernel
theorem d_MD_isReady_38 : decode b_MD_isReady 38 = .ok (.if_icmp .eq 22, 3) := by decide +kernel
theorem d_MD_isReady_41 : decode b_MD_isReady 41 = .ok (.aload_n 0, 1) := by decide +kernel
theorem d_MD_isReady_42 : decode b_MD_isReady 42 = .ok (.getfield 33, 3) := by decide +kernel
theorem d_MD_isReady_45 : decode b_MD_isReady 45 = .ok (.iload_n 3, 1) := by decide +kernel
theorem d_MD_isReady_46 : decode b_MD_isReady 46 = .ok (.iaload, 1) := by decide +kernel
theorem d_MD_isReady_47 : decode b_MD_isReady 47 = .ok (.aload_n 0, 1) := by decide +kernel
theorem d_MD_isReady_48 : decode b_MD_isReady 48 = .ok (.getfield 33, 3) := by decide +kernel
theorem d_MD_isReady_51 : decode b_MD_isReady 51 = .ok (.iload_n 1, 1) := by decide +kernel
theorem d_MD_isReady_52 : decode b_MD_isReady 52 = .ok (.iaload, 1) := by decide +kernel
theorem d_MD_isReady_53 : decode b_MD_isReady 53 = .ok (.if_icmp .eq 7, 3) := by decide +kernel
theorem d_MD_isReady_56 : decode b_MD_isReady 56 = .ok (.iconst 1, 1) := by decide +kernel
theorem d_MD_isReady_57 : decode b_MD_isReady 57 = .ok (.goto 4, 3) := by decide +kernel
theorem d_MD_isReady_60 : decode b_MD_isReady 60 = .ok (.iconst 0, 1) := by decide +kernel
theorem d_MD_isReady_61 : decode b_MD_isReady 61 = .ok (.istore_n 2, 1) := by decide +kernel
theorem d_MD_isReady_62 : decode b_MD_isReady 62 = .ok (.iinc 3 1, 3) := by decide +kernel
theorem d_MD_isReady_65 : decode b_MD_isReady 65 = .ok (.goto (-43), 3) := by decide +kernel
theorem d_MD_isReady_68 : decode b_MD_isReady 68 = .ok (.iload_n 2, 1) := by decide +kernel
theorem d_MD_isReady_69 : decode b_MD_isReady 69 = .ok (.ireturn, 1) := by decide +kernel
theorem d_MD_load_0 : decode b_MD_load 0 = .ok (.aload_n 0, 1) := by decide +kernel
theorem d_MD_load_1 : decode b_MD_load 1 = .ok (.iload_n 1, 1) := by decide +kernel
theorem d_MD_load_2 : decode b_MD_load 2 = .ok (.invokestatic 131, 3) := by decide +kernel
theorem d_MD_load_5 : decode b_MD_load 5 = .ok (.ifCond .ne 7, 3) := by decide +kernel
theorem d_MD_load_8 : decode b_MD_load 8 = .ok (.iconst 1, 1) := by decide +kernel
theorem d_MD_load_9 : decode b_MD_load 9 = .ok (.goto 19, 3) := by decide +kernel
theorem d_MD_load_12 : decode b_MD_load 12 = .ok (.aload_n 0, 1) := by decide +kernel
theorem d_MD_load_13 : decode b_MD_load 13 = .ok (.getfield 69, 3) := by decide +kernel
theorem d_MD_load_16 : decode b_MD_load 16 = .ok (.iconst 2, 1) := by decide +kernel
theorem d_MD_load_17 : decode b_MD_load 17 = .ok (.iadd, 1) := by decide +kernel
theorem d_MD_load_18 : decode b_MD_load 18 = .ok (.bipush 40, 2) := by decide +kernel
theorem d_MD_load_20 : decode b_MD_load 20 = .ok (.if_icmp .le 7, 3) := by decide +kernel
theorem d_MD_load_23 : decode b_MD_load 23 = .ok (.iconst 2, 1) := by decide +kernel
theorem d_MD_load_24 : decode b_MD_load 24 = .ok (.goto 4, 3) := by decide +kernel
theorem d_MD_load_27 : decode b_MD_load 27 = .ok (.iconst 0, 1) := by decide +kernel
theorem d_MD_load_28 : decode b_MD_load 28 = .ok (.putfield 52, 3) := by decide +kernel
theorem d_MD_load_31 : decode b_MD_load 31 = .ok (.aload_n 0, 1) := by decide +kernel
theorem d_MD_load_32 : decode b_MD_load 32 = .ok (.getfield 52, 3) := by decide +kernel
theorem d_MD_load_35 : decode b_MD_load 35 = .ok (.ifCond .le 5, 3) := by decide +kernel
theorem d_MD_load_38 : decode b_MD_load 38 = .ok (.iconst 0, 1) := by decide +kernel
theorem d_MD_load_39 : decode b_MD_load 39 = .ok (.ireturn, 1) := by decide +kernel
theorem d_MD_load_40 : decode b_MD_load 40 = .ok (.aload_n 0, 1) := by decide +kernel
theorem d_MD_load_41 : decode b_MD_load 41 = .ok (.iload_n 1, 1) := by decide +kernel
theorem d_MD_load_42 : decode b_MD_load 42 = .ok (.invokevirtual 134, 3) := by decide +kernel
theorem d_MD_load_45 : decode b_MD_load 45 = .ok (.istore_n 2, 1) := by decide +kernel
theorem d_MD_load_46 : decode b_MD_load 46 = .ok (.iload_n 2, 1) := by decide +kernel
theorem d_MD_load_47 : decode b_MD_load 47 = .ok (.ifCond .lt 43, 3) := by decide +kernel
theorem d_MD_load_50 : decode b_MD_load 50 = .ok (.aload_n 0, 1) := by decide +kernel
theorem d_MD_load_51 : decode b_MD_load 51 = .ok (.getfield 20, 3) := by decide +kernel
theorem d_MD_load_54 : decode b_MD_load 54 = .ok (.iload_n 2, 1) := by decide +kernel
theorem d_MD_load_55 : decode b_MD_load 55 = .ok (.iaload, 1) := by decide +kernel
theorem d_MD_load_56 : decode b_MD_load 56 = .ok (.istore_n 3, 1) := by decide +kernel
theorem d_MD_load_57 : decode b_MD_load 57 = .ok (.aload_n 0, 1) := by decide +kernel
theorem d_MD_load_58 : decode b_MD_load 58 = .ok (.getfield 23, 3) := by decide +kernel
theorem d_MD_load_61 : decode b_MD_load 61 = .ok (.iload_n 2, 1) := by decide +kernel
theorem d_MD_load_62 : decode b_MD_load 62 = .ok (.baload, 1) := by decide +kernel
theorem d_MD_load_63 : decode b_MD_load 63 = .ok (.istore 4, 2) := by decide +kernel
theorem d_MD_load_65 : decode b_MD_load 65 = .ok (.aload_n 0, 1) := by decide +kernel
theorem d_MD_load_66 : decode b_MD_load 66 = .ok (.dup, 1) := by decide +kernel
theorem d_MD_load_67 : decode b_MD_load 67 = .ok (.getfield 137, 3) := by decide +kernel
theorem d_MD_load_70 : decode b_MD_load 70 = .ok (.iconst 1, 1) := by decide +kernel
theorem d_MD_load_71 : decode b_MD_load 71 = .ok (.iadd, 1) := by decide +kernel
theorem d_MD_load_72 : decode b_MD_load 72 = .ok (.putfield 137, 3) := by decide +kernel
theorem d_MD_load_75 : decode b_MD_load 75 = .ok (.aload_n 0, 1) := by decide +kernel
theorem d_MD_load_76 : decode b_MD_load 76 = .ok (.iload_n 2, 1) := by decide +kernel
theorem d_MD_load_77 : decode b_MD_load 77 = .ok (.invokevirtual 58, 3) := by decide +kernel
theorem d_MD_load_80 : decode b_MD_load 80 = .ok (.aload_n 0, 1) := by decide +kernel
theorem d_MD_load_81 : decode b_MD_load 81 = .ok (.iload_n 1, 1) := by decide +kernel
theorem d_MD_load_82 : decode b_MD_load 82 = .ok (.iload_n 3, 1) := by decide +kernel
theorem d_MD_load_83 : decode b_MD_load 83 = .ok (.iload 4, 2) := by decide +kernel
theorem d_MD_load_85 : decode b_MD_load 85 = .ok (.invokevirtual 140, 3) := by decide +kernel
theorem d_MD_load_88 : decode b_MD_load 88 = .ok (.iload_n 3, 1) := by decide +kernel
theorem d_MD_load_89 : decode b_MD_load 89 = .ok (.ireturn, 1) := by decide +kernel
theorem d_MD_load_90 : decode b_MD_load 90 = .ok (.aload_n 0, 1) := by decide +kernel
theorem d_MD_load_91 : decode b_MD_load 91 = .ok (.dup, 1) := by decide +kernel
theorem d_MD_load_92 : decode b_MD_load 92 = .ok (.getfield 144, 3) := by decide +kernel
theorem d_MD_load_95 : decode b_MD_load 95 = .ok (.iconst 1, 1) := by decide +kernel
theorem d_MD_load_96 : decode b_MD_load 96 = .ok (.iadd, 1) := by decide +kernel
theorem d_MD_load_97 : decode b_MD_load 97 = .ok (.putfield 144, 3) := by decide +kernel
theorem d_MD_load_100 : decode b_MD_load 100 = .ok (.aload_n 0, 1) := by decide +kernel
theorem d_MD_load_101 : decode b_MD_load 101 = .ok (.invokevirtual 147, 3) := by decide +kernel
theorem d_MD_load_104 : decode b_MD_load 104 = .ok (.aload_n 0, 1) := by decide +kernel
theorem d_MD_load_105 : decode b_MD_load 105 = .ok (.getfield 75, 3) := by decide +kernel
theorem d_MD_load_108 : decode b_MD_load 108 = .ok (.istore_n 3, 1) := by decide +kernel
theorem d_MD_load_109 : decode b_MD_load 109 = .ok (.aload_n 0, 1) := by decide +kernel
theorem d_MD_load_110 : decode b_MD_load 110 = .ok (.iconst 0, 1) := by decide +kernel
theorem d_MD_load_111 : decode b_MD_load 111 = .ok (.iload_n 1, 1) := by decide +kernel
theorem d_MD_load_112 : decode b_MD_load 112 = .ok (.iconst 0, 1) := by decide +kernel
theorem d_MD_load_113 : decode b_MD_load 113 = .ok (.invokevirtual 65, 3) := by decide +kernel
theorem d_MD_load_116 : decode b_MD_load 116 = .ok (.iconst 0, 1) := by decide +kernel
theorem d_MD_load_117 : decode b_MD_load 117 = .ok (.istore 4, 2) := by decide +kernel
theorem d_MD_load_119 : decode b_MD_load 119 = .ok (.iload 4, 2) := by decide +kernel
theorem d_MD_load_121 : decode b_MD_load 121 = .ok (.ifCond .ne 39, 3) := by decide +kernel
theorem d_MD_load_124 : decode b_MD_load 124 = .ok (.aload_n 0, 1) := by decide +kernel
theorem d_MD_load_125 : decode b_MD_load 125 = .ok (.getfield 110, 3) := by decide +kernel
theorem d_MD_load_128 : decode b_MD_load 128 = .ok (.ifCond .ne 7, 3) := by decide +kernel
theorem d_MD_load_131 : decode b_MD_load 131 = .ok (.aload_n 0, 1) := by decide +kernel
theorem d_MD_load_132 : decode b_MD_load 132 = .ok (.invokevirtual 150, 3) := by decide +kernel
theorem d_MD_load_135 : decode b_MD_load 135 = .ok (.aload_n 0, 1) := by decide +kernel
theorem d_MD_load_136 : decode b_MD_load 136 = .ok (.invokevirtual 153, 3) := by decide +kernel
theorem d_MD_load_139 : decode b_MD_load 139 = .ok (.aload_n 0, 1) := by decide +kernel
theorem d_MD_load_140 : decode b_MD_load 140 = .ok (.getfield 27, 3) := by decide +kernel
theorem d_MD_load_143 : decode b_MD_load 143 = .ok (.bipush 40, 2) := by decide +kernel
theorem d_MD_load_145 : decode b_MD_load 145 = .ok (.iaload, 1) := by decide +kernel
theorem d_MD_load_146 : decode b_MD_load 146 = .ok (.iload_n 3, 1) := by decide +kernel
theorem d_MD_load_147 : decode b_MD_load 147 = .ok (.if_icmp .ne 7, 3) := by decide +kernel
theorem d_MD_load_150 : decode b_MD_load 150 = .ok (.iconst 1, 1) := by decide +kernel
theorem d_MD_load_151 : decode b_MD_load 151 = .ok (.goto 4, 3) := by decide +kernel
theorem d_MD_load_154 : decode b_MD_load 154 = .ok (.iconst 0, 1) := by decide +kernel
theorem d_MD_load_155 : decode b_MD_load 155 = .ok (.istore 4, 2) := by decide +kernel
theorem d_MD_load_157 : decode b_MD_load 157 = .ok (.goto (-38), 3) := by decide +kernel
theorem d_MD_load_160 : decode b_MD_load 160 = .ok (.aload_n 0, 1) := by decide +kernel
theorem d_MD_load_161 : decode b_MD_load 161 = .ok (.iload_n 1, 1) := by decide +kernel
theorem d_MD_load_162 : decode b_MD_load 162 = .ok (.aload_n 0, 1) := by decide +kernel
theorem d_MD_load_163 : decode b_MD_load 163 = .ok (.getfield 125, 3) := by decide +kernel
theorem d_MD_load_166 : decode b_MD_load 166 = .ok (.iconst 0, 1) := by decide +kernel
theorem d_MD_load_167 : decode b_MD_load 167 = .ok (.invokevirtual 140, 3) := by decide +kernel
theorem d_MD_load_170 : decode b_MD_load 170 = .ok (.aload_n 0, 1) := by decide +kernel
theorem d_MD_load_171 : decode b_MD_load 171 = .ok (.getfield 125, 3) := by decide +kernel
theorem d_MD_load_174 : decode b_MD_load 174 = .ok (.ireturn, 1) := by decide +kernel
theorem d_MD_lowest_0 : decode b_MD_lowest 0 = .ok (.iconst 0, 1) := by decide +kernel
theorem d_MD_lowest_1 : decode b_MD_lowest 1 = .ok (.istore_n 1, 1) := by decide +kernel
theorem d_MD_lowest_2 : decode b_MD_lowest 2 = .ok (.iconst 0, 1) := by decide +kernel
theorem d_MD_lowest_3 : decode b_MD_lowest 3 = .ok (.istore_n 2, 1) := by decide +kernel
theorem d_MD_lowest_4 : decode b_MD_lowest 4 = .ok (.iload_n 2, 1) := by decide +kernel
theorem d_MD_lowest_5 : decode b_MD_lowest 5 = .ok (.aload_n 0, 1) := by decide +kernel
theorem d_MD_lowest_6 : decode b_MD_lowest 6 = .ok (.getfield 69, 3) := by decide +kernel
theorem d_MD_lowest_9 : decode b_MD_lowest 9 = .ok (.if_icmp .ge 36, 3) := by decide +kernel
theorem d_MD_lowest_12 : decode b_MD_lowest 12 = .ok (.aload_n 0, 1) := by decide +kernel
theorem d_MD_lowest_13 : decode b_MD_lowest 13 = .ok (.iload_n 2, 1) := by decide +kernel
theorem d_MD_lowest_14 : decode b_MD_lowest 14 = .ok (.invokevirtual 88, 3) := by decide +kernel
theorem d_MD_lowest_17 : decode b_MD_lowest 17 = .ok (.ifCond .eq 20, 3) := by decide +kernel
theorem d_MD_lowest_20 : decode b_MD_lowest 20 = .ok (.aload_n 0, 1) := by decide +kernel
theorem d_MD_lowest_21 : decode b_MD_lowest 21 = .ok (.iload_n 2, 1) := by decide +kernel
theorem d_MD_lowest_22 : decode b_MD_lowest 22 = .ok (.invokevirtual 81, 3) := by decide +kernel
theorem d_MD_lowest_25 : decode b_MD_lowest 25 = .ok (.aload_n 0, 1) := by decide +kernel
theorem d_MD_lowest_26 : decode b_MD_lowest 26 = .ok (.iload_n 1, 1) := by decide +kernel
theorem d_MD_lowest_27 : decode b_MD_lowest 27 = .ok (.invokevirtual 81, 3) := by decide +kernel
theorem d_MD_lowest_30 : decode b_MD_lowest 30 = .ok (.if_icmp .ge 7, 3) := by decide +kernel
theorem d_MD_lowest_33 : decode b_MD_lowest 33 = .ok (.iload_n 2, 1) := by decide +kernel
theorem d_MD_lowest_34 : decode b_MD_lowest 34 = .ok (.goto 4, 3) := by decide +kernel
theorem d_MD_lowest_37 : decode b_MD_lowest 37 = .ok (.iload_n 1, 1) := by decide +kernel
theorem d_MD_lowest_38 : decode b_MD_lowest 38 = .ok (.istore_n 1, 1) := by decide +kernel
theorem d_MD_lowest_39 : decode b_MD_lowest 39 = .ok (.iinc 2 1, 3) := by decide +kernel
theorem d_MD_lowest_42 : decode b_MD_lowest 42 = .ok (.goto (-38), 3) := by decide +kernel
theorem d_MD_lowest_45 : decode b_MD_lowest 45 = .ok (.iload_n 1, 1) := by decide +kernel
theorem d_MD_lowest_46 : decode b_MD_lowest 46 = .ok (.ireturn, 1) := by decide +kernel
theorem d_MD_makeRoom_0 : decode b_MD_makeRoom 0 = .ok (.aload_n 0, 1) := by decide +kernel
theorem d_MD_makeRoom_1 : decode b_MD_makeRoom 1 = .ok (.getfield 55, 3) := by decide +kernel
theorem d_MD_makeRoom_4 : decode b_MD_makeRoom 4 = .ok (.bipush 10, 2) := by decide +kernel
theorem d_MD_makeRoom_6 : decode b_MD_makeRoom 6 = .ok (.if_icmp .ge 4, 3) := by decide +kernel
theorem d_MD_makeRoom_9 : decode b_MD_makeRoom 9 = .ok (.return_, 1) := by decide +kernel
theorem d_MD_makeRoom_10 : decode b_MD_makeRoom 10 = .ok (.aload_n 0, 1) := by decide +kernel
theorem d_MD_makeRoom_11 : decode b_MD_makeRoom 11 = .ok (.getfield 17, 3) := by decide +kernel
theorem d_MD_makeRoom_14 : decode b_MD_makeRoom 14 = .ok (.iconst 0, 1) := by decide +kernel
theorem d_MD_makeRoom_15 : decode b_MD_makeRoom 15 = .ok (.iaload, 1) := by decide +kernel
theorem d_MD_makeRoom_16 : decode b_MD_makeRoom 16 = .ok (.istore_n 1, 1) := by decide +kernel
theorem d_MD_makeRoom_17 : decode b_MD_makeRoom 17 = .ok (.aload_n 0, 1) := by decide +kernel
theorem d_MD_makeRoom_18 : decode b_MD_makeRoom 18 = .ok (.getfield 20, 3) := by decide +kernel
theorem d_MD_makeRoom_21 : decode b_MD_makeRoom 21 = .ok (.iconst 0, 1) := by decide +kernel
theorem d_MD_makeRoom_22 : decode b_MD_makeRoom 22 = .ok (.iaload, 1) := by decide +kernel
theorem d_MD_makeRoom_23 : decode b_MD_makeRoom 23 = .ok (.istore_n 2, 1) := by decide +kernel
theorem d_MD_makeRoom_24 : decode b_MD_makeRoom 24 = .ok (.aload_n 0, 1) := by decide +kernel
theorem d_MD_makeRoom_25 : decode b_MD_makeRoom 25 = .ok (.getfield 23, 3) := by decide +kernel
theorem d_MD_makeRoom_28 : decode b_MD_makeRoom 28 = .ok (.iconst 0, 1) := by decide +kernel
theorem d_MD_makeRoom_29 : decode b_MD_makeRoom 29 = .ok (.baload, 1) := by decide +kernel
theorem d_MD_makeRoom_30 : decode b_MD_makeRoom 30 = .ok (.istore_n 3, 1) := by decide +kernel
theorem d_MD_makeRoom_31 : decode b_MD_makeRoom 31 = .ok (.aload_n 0, 1) := by decide +kernel
theorem d_MD_makeRoom_32 : decode b_MD_makeRoom 32 = .ok (.iconst 0, 1) := by decide +kernel
theorem d_MD_makeRoom_33 : decode b_MD_makeRoom 33 = .ok (.invokevirtual 58, 3) := by decide +kernel
theorem d_MD_makeRoom_36 : decode b_MD_makeRoom 36 = .ok (.aload_n 0, 1) := by decide +kernel
theorem d_MD_makeRoom_37 : decode b_MD_makeRoom 37 = .ok (.dup, 1) := by decide +kernel
theorem d_MD_makeRoom_38 : decode b_MD_makeRoom 38 = .ok (.getfield 62, 3) := by decide +kernel
theorem d_MD_makeRoom_41 : decode b_MD_makeRoom 41 = .ok (.iconst 1, 1) := by decide +kernel
theorem d_MD_makeRoom_42 : decode b_MD_makeRoom 42 = .ok (.iadd, 1) := by decide +kernel
theorem d_MD_makeRoom_43 : decode b_MD_makeRoom 43 = .ok (.putfield 62, 3) := by decide +kernel
theorem d_MD_makeRoom_46 : decode b_MD_makeRoom 46 = .ok (.iload_n 3, 1) := by decide +kernel
theorem d_MD_makeRoom_47 : decode b_MD_makeRoom 47 = .ok (.ifCond .eq 10, 3) := by decide +kernel
theorem d_MD_makeRoom_50 : decode b_MD_makeRoom 50 = .ok (.aload_n 0, 1) := by decide +kernel
theorem d_MD_makeRoom_51 : decode b_MD_makeRoom 51 = .ok (.iconst 1, 1) := by decide +kernel
theorem d_MD_makeRoom_52 : decode b_MD_makeRoom 52 = .ok (.iload_n 1, 1) := by decide +kernel
theorem d_MD_makeRoom_53 : decode b_MD_makeRoom 53 = .ok (.iload_n 2, 1) := by decide +kernel
theorem d_MD_makeRoom_54 : decode b_MD_makeRoom 54 = .ok (.invokevirtual 65, 3) := by decide +kernel
theorem d_MD_makeRoom_57 : decode b_MD_makeRoom 57 = .ok (.return_, 1) := by decide +kernel
theorem d_MD_media_0 : decode b_MD_media 0 = .ok (.aload_n 0, 1) := by decide +kernel
theorem d_MD_media_1 : decode b_MD_media 1 = .ok (.iload_n 1, 1) := by decide +kernel
theorem d_MD_media_2 : decode b_MD_media 2 = .ok (.invokestatic 131, 3) := by decide +kernel
theorem d_MD_media_5 : decode b_MD_media 5 = .ok (.ifCond .eq 7, 3) := by decide +kernel
theorem d_MD_media_8 : decode b_MD_media 8 = .ok (.iconst 0, 1) := by decide +kernel
theorem d_MD_media_9 : decode b_MD_media 9 = .ok (.goto 4, 3) := by decide +kernel
theorem d_MD_media_12 : decode b_MD_media 12 = .ok (.iconst 1, 1) := by decide +kernel
theorem d_MD_media_13 : decode b_MD_media 13 = .ok (.putfield 52, 3) := by decide +kernel
theorem d_MD_media_16 : decode b_MD_media 16 = .ok (.aload_n 0, 1) := by decide +kernel
theorem d_MD_media_17 : decode b_MD_media 17 = .ok (.getfield 52, 3) := by decide +kernel
