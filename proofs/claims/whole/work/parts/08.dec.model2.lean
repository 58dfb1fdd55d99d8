theorem d_MD_media_20 : decode b_MD_media 20 = .ok (.ifCond .le 7, 3) := by decide +kernel
theorem d_MD_media_23 : decode b_MD_media 23 = .ok (.iconst 0, 1) := by decide +kernel
theorem d_MD_media_24 : decode b_MD_media 24 = .ok (.goto 9, 3) := by decide +kernel
theorem d_MD_media_27 : decode b_MD_media 27 = .ok (.aload_n 0, 1) := by decide +kernel
theorem d_MD_media_28 : decode b_MD_media 28 = .ok (.getfield 13, 3) := by decide +kernel
theorem d_MD_media_31 : decode b_MD_media 31 = .ok (.iload_n 1, 1) := by decide +kernel
theorem d_MD_media_32 : decode b_MD_media 32 = .ok (.iaload, 1) := by decide +kernel
theorem d_MD_media_33 : decode b_MD_media 33 = .ok (.ireturn, 1) := by decide +kernel
theorem d_MD_nearest_0 : decode b_MD_nearest 0 = .ok (.iconst (-1), 1) := by decide +kernel
theorem d_MD_nearest_1 : decode b_MD_nearest 1 = .ok (.istore_n 2, 1) := by decide +kernel
theorem d_MD_nearest_2 : decode b_MD_nearest 2 = .ok (.iconst 0, 1) := by decide +kernel
theorem d_MD_nearest_3 : decode b_MD_nearest 3 = .ok (.istore_n 3, 1) := by decide +kernel
theorem d_MD_nearest_4 : decode b_MD_nearest 4 = .ok (.iload_n 3, 1) := by decide +kernel
theorem d_MD_nearest_5 : decode b_MD_nearest 5 = .ok (.aload_n 0, 1) := by decide +kernel
theorem d_MD_nearest_6 : decode b_MD_nearest 6 = .ok (.getfield 69, 3) := by decide +kernel
theorem d_MD_nearest_9 : decode b_MD_nearest 9 = .ok (.if_icmp .ge 63, 3) := by decide +kernel
theorem d_MD_nearest_12 : decode b_MD_nearest 12 = .ok (.aload_n 0, 1) := by decide +kernel
theorem d_MD_nearest_13 : decode b_MD_nearest 13 = .ok (.iload_n 3, 1) := by decide +kernel
theorem d_MD_nearest_14 : decode b_MD_nearest 14 = .ok (.invokevirtual 88, 3) := by decide +kernel
theorem d_MD_nearest_17 : decode b_MD_nearest 17 = .ok (.ifCond .eq 16, 3) := by decide +kernel
theorem d_MD_nearest_20 : decode b_MD_nearest 20 = .ok (.aload_n 0, 1) := by decide +kernel
theorem d_MD_nearest_21 : decode b_MD_nearest 21 = .ok (.iload_n 3, 1) := by decide +kernel
theorem d_MD_nearest_22 : decode b_MD_nearest 22 = .ok (.iload_n 1, 1) := by decide +kernel
theorem d_MD_nearest_23 : decode b_MD_nearest 23 = .ok (.invokevirtual 92, 3) := by decide +kernel
theorem d_MD_nearest_26 : decode b_MD_nearest 26 = .ok (.ifCond .lt 7, 3) := by decide +kernel
theorem d_MD_nearest_29 : decode b_MD_nearest 29 = .ok (.iconst 1, 1) := by decide +kernel
theorem d_MD_nearest_30 : decode b_MD_nearest 30 = .ok (.goto 4, 3) := by decide +kernel
theorem d_MD_nearest_33 : decode b_MD_nearest 33 = .ok (.iconst 0, 1) := by decide +kernel
theorem d_MD_nearest_34 : decode b_MD_nearest 34 = .ok (.istore 4, 2) := by decide +kernel
theorem d_MD_nearest_36 : decode b_MD_nearest 36 = .ok (.iload 4, 2) := by decide +kernel
theorem d_MD_nearest_38 : decode b_MD_nearest 38 = .ok (.ifCond .eq 26, 3) := by decide +kernel
theorem d_MD_nearest_41 : decode b_MD_nearest 41 = .ok (.iload_n 2, 1) := by decide +kernel
theorem d_MD_nearest_42 : decode b_MD_nearest 42 = .ok (.ifCond .lt 18, 3) := by decide +kernel
theorem d_MD_nearest_45 : decode b_MD_nearest 45 = .ok (.aload_n 0, 1) := by decide +kernel
theorem d_MD_nearest_46 : decode b_MD_nearest 46 = .ok (.iload_n 3, 1) := by decide +kernel
theorem d_MD_nearest_47 : decode b_MD_nearest 47 = .ok (.iload_n 1, 1) := by decide +kernel
theorem d_MD_nearest_48 : decode b_MD_nearest 48 = .ok (.invokevirtual 92, 3) := by decide +kernel
theorem d_MD_nearest_51 : decode b_MD_nearest 51 = .ok (.aload_n 0, 1) := by decide +kernel
theorem d_MD_nearest_52 : decode b_MD_nearest 52 = .ok (.iload_n 2, 1) := by decide +kernel
theorem d_MD_nearest_53 : decode b_MD_nearest 53 = .ok (.iload_n 1, 1) := by decide +kernel
theorem d_MD_nearest_54 : decode b_MD_nearest 54 = .ok (.invokevirtual 92, 3) := by decide +kernel
theorem d_MD_nearest_57 : decode b_MD_nearest 57 = .ok (.if_icmp .ge 7, 3) := by decide +kernel
theorem d_MD_nearest_60 : decode b_MD_nearest 60 = .ok (.iload_n 3, 1) := by decide +kernel
theorem d_MD_nearest_61 : decode b_MD_nearest 61 = .ok (.goto 4, 3) := by decide +kernel
theorem d_MD_nearest_64 : decode b_MD_nearest 64 = .ok (.iload_n 2, 1) := by decide +kernel
theorem d_MD_nearest_65 : decode b_MD_nearest 65 = .ok (.istore_n 2, 1) := by decide +kernel
theorem d_MD_nearest_66 : decode b_MD_nearest 66 = .ok (.iinc 3 1, 3) := by decide +kernel
theorem d_MD_nearest_69 : decode b_MD_nearest 69 = .ok (.goto (-65), 3) := by decide +kernel
theorem d_MD_nearest_72 : decode b_MD_nearest 72 = .ok (.iload_n 2, 1) := by decide +kernel
theorem d_MD_nearest_73 : decode b_MD_nearest 73 = .ok (.ireturn, 1) := by decide +kernel
theorem d_MD_newest_0 : decode b_MD_newest 0 = .ok (.aload_n 0, 1) := by decide +kernel
theorem d_MD_newest_1 : decode b_MD_newest 1 = .ok (.iload_n 1, 1) := by decide +kernel
theorem d_MD_newest_2 : decode b_MD_newest 2 = .ok (.invokestatic 131, 3) := by decide +kernel
theorem d_MD_newest_5 : decode b_MD_newest 5 = .ok (.ifCond .eq 7, 3) := by decide +kernel
theorem d_MD_newest_8 : decode b_MD_newest 8 = .ok (.iconst 0, 1) := by decide +kernel
theorem d_MD_newest_9 : decode b_MD_newest 9 = .ok (.goto 4, 3) := by decide +kernel
theorem d_MD_newest_12 : decode b_MD_newest 12 = .ok (.iconst 1, 1) := by decide +kernel
theorem d_MD_newest_13 : decode b_MD_newest 13 = .ok (.putfield 52, 3) := by decide +kernel
theorem d_MD_newest_16 : decode b_MD_newest 16 = .ok (.aload_n 0, 1) := by decide +kernel
theorem d_MD_newest_17 : decode b_MD_newest 17 = .ok (.getfield 52, 3) := by decide +kernel
theorem d_MD_newest_20 : decode b_MD_newest 20 = .ok (.ifCond .le 7, 3) := by decide +kernel
theorem d_MD_newest_23 : decode b_MD_newest 23 = .ok (.iconst 0, 1) := by decide +kernel
theorem d_MD_newest_24 : decode b_MD_newest 24 = .ok (.goto 8, 3) := by decide +kernel
theorem d_MD_newest_27 : decode b_MD_newest 27 = .ok (.aload_n 0, 1) := by decide +kernel
theorem d_MD_newest_28 : decode b_MD_newest 28 = .ok (.iload_n 1, 1) := by decide +kernel
theorem d_MD_newest_29 : decode b_MD_newest 29 = .ok (.invokevirtual 159, 3) := by decide +kernel
theorem d_MD_newest_32 : decode b_MD_newest 32 = .ok (.ireturn, 1) := by decide +kernel
theorem d_MD_newestOf_0 : decode b_MD_newestOf 0 = .ok (.aload_n 0, 1) := by decide +kernel
theorem d_MD_newestOf_1 : decode b_MD_newestOf 1 = .ok (.iload_n 1, 1) := by decide +kernel
theorem d_MD_newestOf_2 : decode b_MD_newestOf 2 = .ok (.invokevirtual 122, 3) := by decide +kernel
theorem d_MD_newestOf_5 : decode b_MD_newestOf 5 = .ok (.istore_n 2, 1) := by decide +kernel
theorem d_MD_newestOf_6 : decode b_MD_newestOf 6 = .ok (.aload_n 0, 1) := by decide +kernel
theorem d_MD_newestOf_7 : decode b_MD_newestOf 7 = .ok (.getfield 110, 3) := by decide +kernel
theorem d_MD_newestOf_10 : decode b_MD_newestOf 10 = .ok (.ifCond .eq 35, 3) := by decide +kernel
theorem d_MD_newestOf_13 : decode b_MD_newestOf 13 = .ok (.aload_n 0, 1) := by decide +kernel
theorem d_MD_newestOf_14 : decode b_MD_newestOf 14 = .ok (.getfield 30, 3) := by decide +kernel
theorem d_MD_newestOf_17 : decode b_MD_newestOf 17 = .ok (.bipush 40, 2) := by decide +kernel
theorem d_MD_newestOf_19 : decode b_MD_newestOf 19 = .ok (.iaload, 1) := by decide +kernel
theorem d_MD_newestOf_20 : decode b_MD_newestOf 20 = .ok (.iconst 1, 1) := by decide +kernel
theorem d_MD_newestOf_21 : decode b_MD_newestOf 21 = .ok (.if_icmp .ne 24, 3) := by decide +kernel
theorem d_MD_newestOf_24 : decode b_MD_newestOf 24 = .ok (.aload_n 0, 1) := by decide +kernel
theorem d_MD_newestOf_25 : decode b_MD_newestOf 25 = .ok (.getfield 33, 3) := by decide +kernel
theorem d_MD_newestOf_28 : decode b_MD_newestOf 28 = .ok (.bipush 40, 2) := by decide +kernel
theorem d_MD_newestOf_30 : decode b_MD_newestOf 30 = .ok (.iaload, 1) := by decide +kernel
theorem d_MD_newestOf_31 : decode b_MD_newestOf 31 = .ok (.iload_n 1, 1) := by decide +kernel
theorem d_MD_newestOf_32 : decode b_MD_newestOf 32 = .ok (.if_icmp .ne 13, 3) := by decide +kernel
theorem d_MD_newestOf_35 : decode b_MD_newestOf 35 = .ok (.aload_n 0, 1) := by decide +kernel
theorem d_MD_newestOf_36 : decode b_MD_newestOf 36 = .ok (.getfield 36, 3) := by decide +kernel
theorem d_MD_newestOf_39 : decode b_MD_newestOf 39 = .ok (.bipush 40, 2) := by decide +kernel
theorem d_MD_newestOf_41 : decode b_MD_newestOf 41 = .ok (.iaload, 1) := by decide +kernel
theorem d_MD_newestOf_42 : decode b_MD_newestOf 42 = .ok (.goto 4, 3) := by decide +kernel
theorem d_MD_newestOf_45 : decode b_MD_newestOf 45 = .ok (.iload_n 2, 1) := by decide +kernel
theorem d_MD_newestOf_46 : decode b_MD_newestOf 46 = .ok (.istore_n 2, 1) := by decide +kernel
theorem d_MD_newestOf_47 : decode b_MD_newestOf 47 = .ok (.iconst 0, 1) := by decide +kernel
theorem d_MD_newestOf_48 : decode b_MD_newestOf 48 = .ok (.istore_n 3, 1) := by decide +kernel
theorem d_MD_newestOf_49 : decode b_MD_newestOf 49 = .ok (.iload_n 3, 1) := by decide +kernel
theorem d_MD_newestOf_50 : decode b_MD_newestOf 50 = .ok (.aload_n 0, 1) := by decide +kernel
theorem d_MD_newestOf_51 : decode b_MD_newestOf 51 = .ok (.getfield 69, 3) := by decide +kernel
theorem d_MD_newestOf_54 : decode b_MD_newestOf 54 = .ok (.if_icmp .ge 40, 3) := by decide +kernel
theorem d_MD_newestOf_57 : decode b_MD_newestOf 57 = .ok (.aload_n 0, 1) := by decide +kernel
theorem d_MD_newestOf_58 : decode b_MD_newestOf 58 = .ok (.getfield 30, 3) := by decide +kernel
theorem d_MD_newestOf_61 : decode b_MD_newestOf 61 = .ok (.iload_n 3, 1) := by decide +kernel
theorem d_MD_newestOf_62 : decode b_MD_newestOf 62 = .ok (.iaload, 1) := by decide +kernel
theorem d_MD_newestOf_63 : decode b_MD_newestOf 63 = .ok (.iconst 1, 1) := by decide +kernel
theorem d_MD_newestOf_64 : decode b_MD_newestOf 64 = .ok (.if_icmp .ne 22, 3) := by decide +kernel
theorem d_MD_newestOf_67 : decode b_MD_newestOf 67 = .ok (.aload_n 0, 1) := by decide +kernel
theorem d_MD_newestOf_68 : decode b_MD_newestOf 68 = .ok (.getfield 33, 3) := by decide +kernel
theorem d_MD_newestOf_71 : decode b_MD_newestOf 71 = .ok (.iload_n 3, 1) := by decide +kernel
theorem d_MD_newestOf_72 : decode b_MD_newestOf 72 = .ok (.iaload, 1) := by decide +kernel
theorem d_MD_newestOf_73 : decode b_MD_newestOf 73 = .ok (.iload_n 1, 1) := by decide +kernel
theorem d_MD_newestOf_74 : decode b_MD_newestOf 74 = .ok (.if_icmp .ne 12, 3) := by decide +kernel
theorem d_MD_newestOf_77 : decode b_MD_newestOf 77 = .ok (.aload_n 0, 1) := by decide +kernel
theorem d_MD_newestOf_78 : decode b_MD_newestOf 78 = .ok (.getfield 36, 3) := by decide +kernel
theorem d_MD_newestOf_81 : decode b_MD_newestOf 81 = .ok (.iload_n 3, 1) := by decide +kernel
theorem d_MD_newestOf_82 : decode b_MD_newestOf 82 = .ok (.iaload, 1) := by decide +kernel
theorem d_MD_newestOf_83 : decode b_MD_newestOf 83 = .ok (.goto 4, 3) := by decide +kernel
theorem d_MD_newestOf_86 : decode b_MD_newestOf 86 = .ok (.iload_n 2, 1) := by decide +kernel
theorem d_MD_newestOf_87 : decode b_MD_newestOf 87 = .ok (.istore_n 2, 1) := by decide +kernel
theorem d_MD_newestOf_88 : decode b_MD_newestOf 88 = .ok (.iinc 3 1, 3) := by decide +kernel
theorem d_MD_newestOf_91 : decode b_MD_newestOf 91 = .ok (.goto (-42), 3) := by decide +kernel
theorem d_MD_newestOf_94 : decode b_MD_newestOf 94 = .ok (.aload_n 0, 1) := by decide +kernel
theorem d_MD_newestOf_95 : decode b_MD_newestOf 95 = .ok (.iload_n 1, 1) := by decide +kernel
theorem d_MD_newestOf_96 : decode b_MD_newestOf 96 = .ok (.invokevirtual 134, 3) := by decide +kernel
theorem d_MD_newestOf_99 : decode b_MD_newestOf 99 = .ok (.istore_n 3, 1) := by decide +kernel
theorem d_MD_newestOf_100 : decode b_MD_newestOf 100 = .ok (.iload_n 3, 1) := by decide +kernel
theorem d_MD_newestOf_101 : decode b_MD_newestOf 101 = .ok (.ifCond .ge 7, 3) := by decide +kernel
theorem d_MD_newestOf_104 : decode b_MD_newestOf 104 = .ok (.iload_n 2, 1) := by decide +kernel
theorem d_MD_newestOf_105 : decode b_MD_newestOf 105 = .ok (.goto 9, 3) := by decide +kernel
theorem d_MD_newestOf_108 : decode b_MD_newestOf 108 = .ok (.aload_n 0, 1) := by decide +kernel
theorem d_MD_newestOf_109 : decode b_MD_newestOf 109 = .ok (.getfield 20, 3) := by decide +kernel
theorem d_MD_newestOf_112 : decode b_MD_newestOf 112 = .ok (.iload_n 3, 1) := by decide +kernel
theorem d_MD_newestOf_113 : decode b_MD_newestOf 113 = .ok (.iaload, 1) := by decide +kernel
theorem d_MD_newestOf_114 : decode b_MD_newestOf 114 = .ok (.ireturn, 1) := by decide +kernel
theorem d_MD_policy_0 : decode b_MD_policy 0 = .ok (.aload_n 0, 1) := by decide +kernel
theorem d_MD_policy_1 : decode b_MD_policy 1 = .ok (.iload_n 1, 1) := by decide +kernel
theorem d_MD_policy_2 : decode b_MD_policy 2 = .ok (.ifCond .lt 8, 3) := by decide +kernel
theorem d_MD_policy_5 : decode b_MD_policy 5 = .ok (.iload_n 1, 1) := by decide +kernel
theorem d_MD_policy_6 : decode b_MD_policy 6 = .ok (.iconst 4, 1) := by decide +kernel
theorem d_MD_policy_7 : decode b_MD_policy 7 = .ok (.if_icmp .le 7, 3) := by decide +kernel
theorem d_MD_policy_10 : decode b_MD_policy 10 = .ok (.iconst 1, 1) := by decide +kernel
theorem d_MD_policy_11 : decode b_MD_policy 11 = .ok (.goto 4, 3) := by decide +kernel
theorem d_MD_policy_14 : decode b_MD_policy 14 = .ok (.iconst 0, 1) := by decide +kernel
theorem d_MD_policy_15 : decode b_MD_policy 15 = .ok (.putfield 52, 3) := by decide +kernel
theorem d_MD_policy_18 : decode b_MD_policy 18 = .ok (.aload_n 0, 1) := by decide +kernel
theorem d_MD_policy_19 : decode b_MD_policy 19 = .ok (.getfield 52, 3) := by decide +kernel
theorem d_MD_policy_22 : decode b_MD_policy 22 = .ok (.ifCond .le 5, 3) := by decide +kernel
theorem d_MD_policy_25 : decode b_MD_policy 25 = .ok (.iconst 0, 1) := by decide +kernel
theorem d_MD_policy_26 : decode b_MD_policy 26 = .ok (.ireturn, 1) := by decide +kernel
theorem d_MD_policy_27 : decode b_MD_policy 27 = .ok (.aload_n 0, 1) := by decide +kernel
theorem d_MD_policy_28 : decode b_MD_policy 28 = .ok (.getfield 7, 3) := by decide +kernel
theorem d_MD_policy_31 : decode b_MD_policy 31 = .ok (.istore_n 2, 1) := by decide +kernel
theorem d_MD_policy_32 : decode b_MD_policy 32 = .ok (.aload_n 0, 1) := by decide +kernel
theorem d_MD_policy_33 : decode b_MD_policy 33 = .ok (.iload_n 1, 1) := by decide +kernel
theorem d_MD_policy_34 : decode b_MD_policy 34 = .ok (.putfield 7, 3) := by decide +kernel
theorem d_MD_policy_37 : decode b_MD_policy 37 = .ok (.iload_n 2, 1) := by decide +kernel
theorem d_MD_policy_38 : decode b_MD_policy 38 = .ok (.ireturn, 1) := by decide +kernel
theorem d_MD_putLast_0 : decode b_MD_putLast 0 = .ok (.aload_n 0, 1) := by decide +kernel
theorem d_MD_putLast_1 : decode b_MD_putLast 1 = .ok (.getfield 17, 3) := by decide +kernel
theorem d_MD_putLast_4 : decode b_MD_putLast 4 = .ok (.aload_n 0, 1) := by decide +kernel
theorem d_MD_putLast_5 : decode b_MD_putLast 5 = .ok (.getfield 55, 3) := by decide +kernel
theorem d_MD_putLast_8 : decode b_MD_putLast 8 = .ok (.iload_n 1, 1) := by decide +kernel
theorem d_MD_putLast_9 : decode b_MD_putLast 9 = .ok (.iastore, 1) := by decide +kernel
theorem d_MD_putLast_10 : decode b_MD_putLast 10 = .ok (.aload_n 0, 1) := by decide +kernel
theorem d_MD_putLast_11 : decode b_MD_putLast 11 = .ok (.getfield 20, 3) := by decide +kernel
theorem d_MD_putLast_14 : decode b_MD_putLast 14 = .ok (.aload_n 0, 1) := by decide +kernel
theorem d_MD_putLast_15 : decode b_MD_putLast 15 = .ok (.getfield 55, 3) := by decide +kernel
theorem d_MD_putLast_18 : decode b_MD_putLast 18 = .ok (.iload_n 2, 1) := by decide +kernel
theorem d_MD_putLast_19 : decode b_MD_putLast 19 = .ok (.iastore, 1) := by decide +kernel
theorem d_MD_putLast_20 : decode b_MD_putLast 20 = .ok (.aload_n 0, 1) := by decide +kernel
theorem d_MD_putLast_21 : decode b_MD_putLast 21 = .ok (.getfield 23, 3) := by decide +kernel
theorem d_MD_putLast_24 : decode b_MD_putLast 24 = .ok (.aload_n 0, 1) := by decide +kernel
theorem d_MD_putLast_25 : decode b_MD_putLast 25 = .ok (.getfield 55, 3) := by decide +kernel
theorem d_MD_putLast_28 : decode b_MD_putLast 28 = .ok (.iload_n 3, 1) := by decide +kernel
theorem d_MD_putLast_29 : decode b_MD_putLast 29 = .ok (.bastore, 1) := by decide +kernel
theorem d_MD_putLast_30 : decode b_MD_putLast 30 = .ok (.aload_n 0, 1) := by decide +kernel
theorem d_MD_putLast_31 : decode b_MD_putLast 31 = .ok (.dup, 1) := by decide +kernel
theorem d_MD_putLast_32 : decode b_MD_putLast 32 = .ok (.getfield 55, 3) := by decide +kernel
theorem d_MD_putLast_35 : decode b_MD_putLast 35 = .ok (.iconst 1, 1) := by decide +kernel
theorem d_MD_putLast_36 : decode b_MD_putLast 36 = .ok (.iadd, 1) := by decide +kernel
theorem d_MD_putLast_37 : decode b_MD_putLast 37 = .ok (.putfield 55, 3) := by decide +kernel
theorem d_MD_putLast_40 : decode b_MD_putLast 40 = .ok (.return_, 1) := by decide +kernel
theorem d_MD_queued_0 : decode b_MD_queued 0 = .ok (.aload_n 0, 1) := by decide +kernel
theorem d_MD_queued_1 : decode b_MD_queued 1 = .ok (.iconst 0, 1) := by decide +kernel
theorem d_MD_queued_2 : decode b_MD_queued 2 = .ok (.putfield 52, 3) := by decide +kernel
theorem d_MD_queued_5 : decode b_MD_queued 5 = .ok (.iload_n 1, 1) := by decide +kernel
theorem d_MD_queued_6 : decode b_MD_queued 6 = .ok (.ifCond .lt 11, 3) := by decide +kernel
theorem d_MD_queued_9 : decode b_MD_queued 9 = .ok (.iload_n 1, 1) := by decide +kernel
theorem d_MD_queued_10 : decode b_MD_queued 10 = .ok (.aload_n 0, 1) := by decide +kernel
theorem d_MD_queued_11 : decode b_MD_queued 11 = .ok (.getfield 69, 3) := by decide +kernel
theorem d_MD_queued_14 : decode b_MD_queued 14 = .ok (.if_icmp .lt 7, 3) := by decide +kernel
theorem d_MD_queued_17 : decode b_MD_queued 17 = .ok (.iconst (-1), 1) := by decide +kernel
theorem d_MD_queued_18 : decode b_MD_queued 18 = .ok (.goto 9, 3) := by decide +kernel
theorem d_MD_queued_21 : decode b_MD_queued 21 = .ok (.aload_n 0, 1) := by decide +kernel
theorem d_MD_queued_22 : decode b_MD_queued 22 = .ok (.getfield 27, 3) := by decide +kernel
theorem d_MD_queued_25 : decode b_MD_queued 25 = .ok (.iload_n 1, 1) := by decide +kernel
theorem d_MD_queued_26 : decode b_MD_queued 26 = .ok (.iaload, 1) := by decide +kernel
theorem d_MD_queued_27 : decode b_MD_queued 27 = .ok (.ireturn, 1) := by decide +kernel
theorem d_MD_request_0 : decode b_MD_request 0 = .ok (.aload_n 0, 1) := by decide +kernel
theorem d_MD_request_1 : decode b_MD_request 1 = .ok (.iconst 0, 1) := by decide +kernel
theorem d_MD_request_2 : decode b_MD_request 2 = .ok (.putfield 52, 3) := by decide +kernel
theorem d_MD_request_5 : decode b_MD_request 5 = .ok (.aload_n 0, 1) := by decide +kernel
theorem d_MD_request_6 : decode b_MD_request 6 = .ok (.getfield 110, 3) := by decide +kernel
theorem d_MD_request_9 : decode b_MD_request 9 = .ok (.ifCond .eq 19, 3) := by decide +kernel
theorem d_MD_request_12 : decode b_MD_request 12 = .ok (.aload_n 0, 1) := by decide +kernel
theorem d_MD_request_13 : decode b_MD_request 13 = .ok (.getfield 27, 3) := by decide +kernel
theorem d_MD_request_16 : decode b_MD_request 16 = .ok (.bipush 40, 2) := by decide +kernel
theorem d_MD_request_18 : decode b_MD_request 18 = .ok (.iaload, 1) := by decide +kernel
theorem d_MD_request_19 : decode b_MD_request 19 = .ok (.iload_n 1, 1) := by decide +kernel
theorem d_MD_request_20 : decode b_MD_request 20 = .ok (.if_icmp .ne 8, 3) := by decide +kernel
theorem d_MD_request_23 : decode b_MD_request 23 = .ok (.bipush 40, 2) := by decide +kernel
theorem d_MD_request_25 : decode b_MD_request 25 = .ok (.goto 4, 3) := by decide +kernel
theorem d_MD_request_28 : decode b_MD_request 28 = .ok (.iconst (-1), 1) := by decide +kernel
theorem d_MD_request_29 : decode b_MD_request 29 = .ok (.istore_n 3, 1) := by decide +kernel
theorem d_MD_request_30 : decode b_MD_request 30 = .ok (.iconst 0, 1) := by decide +kernel
theorem d_MD_request_31 : decode b_MD_request 31 = .ok (.istore 4, 2) := by decide +kernel
theorem d_MD_request_33 : decode b_MD_request 33 = .ok (.iload 4, 2) := by decide +kernel
theorem d_MD_request_35 : decode b_MD_request 35 = .ok (.aload_n 0, 1) := by decide +kernel
theorem d_MD_request_36 : decode b_MD_request 36 = .ok (.getfield 69, 3) := by decide +kernel
theorem d_MD_request_39 : decode b_MD_request 39 = .ok (.if_icmp .ge 27, 3) := by decide +kernel
theorem d_MD_request_42 : decode b_MD_request 42 = .ok (.aload_n 0, 1) := by decide +kernel
theorem d_MD_request_43 : decode b_MD_request 43 = .ok (.getfield 27, 3) := by decide +kernel
theorem d_MD_request_46 : decode b_MD_request 46 = .ok (.iload 4, 2) := by decide +kernel
theorem d_MD_request_48 : decode b_MD_request 48 = .ok (.iaload, 1) := by decide +kernel
theorem d_MD_request_49 : decode b_MD_request 49 = .ok (.iload_n 1, 1) := by decide +kernel
theorem d_MD_request_50 : decode b_MD_request 50 = .ok (.if_icmp .ne 8, 3) := by decide +kernel
theorem d_MD_request_53 : decode b_MD_request 53 = .ok (.iload 4, 2) := by decide +kernel
theorem d_MD_request_55 : decode b_MD_request 55 = .ok (.goto 4, 3) := by decide +kernel
theorem d_MD_request_58 : decode b_MD_request 58 = .ok (.iload_n 3, 1) := by decide +kernel
theorem d_MD_request_59 : decode b_MD_request 59 = .ok (.istore_n 3, 1) := by decide +kernel
theorem d_MD_request_60 : decode b_MD_request 60 = .ok (.iinc 4 1, 3) := by decide +kernel
theorem d_MD_request_63 : decode b_MD_request 63 = .ok (.goto (-30), 3) := by decide +kernel
theorem d_MD_request_66 : decode b_MD_request 66 = .ok (.iload_n 3, 1) := by decide +kernel
theorem d_MD_request_67 : decode b_MD_request 67 = .ok (.ifCond .ge 5, 3) := by decide +kernel
theorem d_MD_request_70 : decode b_MD_request 70 = .ok (.iconst (-1), 1) := by decide +kernel
theorem d_MD_request_71 : decode b_MD_request 71 = .ok (.ireturn, 1) := by decide +kernel
theorem d_MD_request_72 : decode b_MD_request 72 = .ok (.iload_n 2, 1) := by decide +kernel
theorem d_MD_request_73 : decode b_MD_request 73 = .ok (.tableswitch 73 0 3 #[31, 38, 45, 66], 31) := by decide +kernel
theorem d_MD_request_104 : decode b_MD_request 104 = .ok (.aload_n 0, 1) := by decide +kernel
theorem d_MD_request_105 : decode b_MD_request 105 = .ok (.getfield 30, 3) := by decide +kernel
theorem d_MD_request_108 : decode b_MD_request 108 = .ok (.iload_n 3, 1) := by decide +kernel
theorem d_MD_request_109 : decode b_MD_request 109 = .ok (.iaload, 1) := by decide +kernel
theorem d_MD_request_110 : decode b_MD_request 110 = .ok (.ireturn, 1) := by decide +kernel
theorem d_MD_request_111 : decode b_MD_request 111 = .ok (.aload_n 0, 1) := by decide +kernel
theorem d_MD_request_112 : decode b_MD_request 112 = .ok (.getfield 33, 3) := by decide +kernel
theorem d_MD_request_115 : decode b_MD_request 115 = .ok (.iload_n 3, 1) := by decide +kernel
theorem d_MD_request_116 : decode b_MD_request 116 = .ok (.iaload, 1) := by decide +kernel
theorem d_MD_request_117 : decode b_MD_request 117 = .ok (.ireturn, 1) := by decide +kernel
theorem d_MD_request_118 : decode b_MD_request 118 = .ok (.aload_n 0, 1) := by decide +kernel
theorem d_MD_request_119 : decode b_MD_request 119 = .ok (.getfield 30, 3) := by decide +kernel
theorem d_MD_request_122 : decode b_MD_request 122 = .ok (.iload_n 3, 1) := by decide +kernel
theorem d_MD_request_123 : decode b_MD_request 123 = .ok (.iaload, 1) := by decide +kernel
theorem d_MD_request_124 : decode b_MD_request 124 = .ok (.iconst 1, 1) := by decide +kernel
theorem d_MD_request_125 : decode b_MD_request 125 = .ok (.if_icmp .ne 12, 3) := by decide +kernel
theorem d_MD_request_128 : decode b_MD_request 128 = .ok (.aload_n 0, 1) := by decide +kernel
theorem d_MD_request_129 : decode b_MD_request 129 = .ok (.getfield 36, 3) := by decide +kernel
theorem d_MD_request_132 : decode b_MD_request 132 = .ok (.iload_n 3, 1) := by decide +kernel
theorem d_MD_request_133 : decode b_MD_request 133 = .ok (.iaload, 1) := by decide +kernel
theorem d_MD_request_134 : decode b_MD_request 134 = .ok (.goto 4, 3) := by decide +kernel
theorem d_MD_request_137 : decode b_MD_request 137 = .ok (.iconst 0, 1) := by decide +kernel
theorem d_MD_request_138 : decode b_MD_request 138 = .ok (.ireturn, 1) := by decide +kernel
theorem d_MD_request_139 : decode b_MD_request 139 = .ok (.aload_n 0, 1) := by decide +kernel
theorem d_MD_request_140 : decode b_MD_request 140 = .ok (.getfield 39, 3) := by decide +kernel
theorem d_MD_request_143 : decode b_MD_request 143 = .ok (.iload_n 3, 1) := by decide +kernel
theorem d_MD_request_144 : decode b_MD_request 144 = .ok (.iaload, 1) := by decide +kernel
theorem d_MD_request_145 : decode b_MD_request 145 = .ok (.ireturn, 1) := by decide +kernel
theorem d_MD_request_146 : decode b_MD_request 146 = .ok (.iconst (-1), 1) := by decide +kernel
theorem d_MD_request_147 : decode b_MD_request 147 = .ok (.ireturn, 1) := by decide +kernel
theorem d_MD_save_0 : decode b_MD_save 0 = .ok (.aload_n 0, 1) := by decide +kernel
theorem d_MD_save_1 : decode b_MD_save 1 = .ok (.iload_n 1, 1) := by decide +kernel
theorem d_MD_save_2 : decode b_MD_save 2 = .ok (.invokestatic 131, 3) := by decide +kernel
theorem d_MD_save_5 : decode b_MD_save 5 = .ok (.ifCond .ne 7, 3) := by decide +kernel
theorem d_MD_save_8 : decode b_MD_save 8 = .ok (.iconst 1, 1) := by decide +kernel
theorem d_MD_save_9 : decode b_MD_save 9 = .ok (.goto 19, 3) := by decide +kernel
theorem d_MD_save_12 : decode b_MD_save 12 = .ok (.aload_n 0, 1) := by decide +kernel
theorem d_MD_save_13 : decode b_MD_save 13 = .ok (.getfield 69, 3) := by decide +kernel
theorem d_MD_save_16 : decode b_MD_save 16 = .ok (.iconst 2, 1) := by decide +kernel
theorem d_MD_save_17 : decode b_MD_save 17 = .ok (.iadd, 1) := by decide +kernel
theorem d_MD_save_18 : decode b_MD_save 18 = .ok (.bipush 40, 2) := by decide +kernel
theorem d_MD_save_20 : decode b_MD_save 20 = .ok (.if_icmp .le 7, 3) := by decide +kernel
theorem d_MD_save_23 : decode b_MD_save 23 = .ok (.iconst 2, 1) := by decide +kernel
theorem d_MD_save_24 : decode b_MD_save 24 = .ok (.goto 4, 3) := by decide +kernel
theorem d_MD_save_27 : decode b_MD_save 27 = .ok (.iconst 0, 1) := by decide +kernel
theorem d_MD_save_28 : decode b_MD_save 28 = .ok (.putfield 52, 3) := by decide +kernel
theorem d_MD_save_31 : decode b_MD_save 31 = .ok (.aload_n 0, 1) := by decide +kernel
theorem d_MD_save_32 : decode b_MD_save 32 = .ok (.getfield 52, 3) := by decide +kernel
theorem d_MD_save_35 : decode b_MD_save 35 = .ok (.ifCond .le 5, 3) := by decide +kernel
theorem d_MD_save_38 : decode b_MD_save 38 = .ok (.iconst 0, 1) := by decide +kernel
theorem d_MD_save_39 : decode b_MD_save 39 = .ok (.ireturn, 1) := by decide +kernel
theorem d_MD_save_40 : decode b_MD_save 40 = .ok (.aload_n 0, 1) := by decide +kernel
theorem d_MD_save_41 : decode b_MD_save 41 = .ok (.iload_n 1, 1) := by decide +kernel
theorem d_MD_save_42 : decode b_MD_save 42 = .ok (.invokevirtual 134, 3) := by decide +kernel
theorem d_MD_save_45 : decode b_MD_save 45 = .ok (.istore_n 3, 1) := by decide +kernel
theorem d_MD_save_46 : decode b_MD_save 46 = .ok (.iload_n 3, 1) := by decide +kernel
theorem d_MD_save_47 : decode b_MD_save 47 = .ok (.ifCond .ge 7, 3) := by decide +kernel
theorem d_MD_save_50 : decode b_MD_save 50 = .ok (.iconst 0, 1) := by decide +kernel
theorem d_MD_save_51 : decode b_MD_save 51 = .ok (.goto 9, 3) := by decide +kernel
theorem d_MD_save_54 : decode b_MD_save 54 = .ok (.aload_n 0, 1) := by decide +kernel
theorem d_MD_save_55 : decode b_MD_save 55 = .ok (.getfield 20, 3) := by decide +kernel
theorem d_MD_save_58 : decode b_MD_save 58 = .ok (.iload_n 3, 1) := by decide +kernel
theorem d_MD_save_59 : decode b_MD_save 59 = .ok (.iaload, 1) := by decide +kernel
theorem d_MD_save_60 : decode b_MD_save 60 = .ok (.istore 4, 2) := by decide +kernel
theorem d_MD_save_62 : decode b_MD_save 62 = .ok (.iload_n 3, 1) := by decide +kernel
theorem d_MD_save_63 : decode b_MD_save 63 = .ok (.ifCond .ge 10, 3) := by decide +kernel
theorem d_MD_save_66 : decode b_MD_save 66 = .ok (.aload_n 0, 1) := by decide +kernel
theorem d_MD_save_67 : decode b_MD_save 67 = .ok (.invokevirtual 147, 3) := by decide +kernel
theorem d_MD_save_70 : decode b_MD_save 70 = .ok (.goto 8, 3) := by decide +kernel
theorem d_MD_save_73 : decode b_MD_save 73 = .ok (.aload_n 0, 1) := by decide +kernel
theorem d_MD_save_74 : decode b_MD_save 74 = .ok (.iload_n 3, 1) := by decide +kernel
theorem d_MD_save_75 : decode b_MD_save 75 = .ok (.invokevirtual 58, 3) := by decide +kernel
theorem d_MD_save_78 : decode b_MD_save 78 = .ok (.aload_n 0, 1) := by decide +kernel
theorem d_MD_save_79 : decode b_MD_save 79 = .ok (.iload_n 1, 1) := by decide +kernel
theorem d_MD_save_80 : decode b_MD_save 80 = .ok (.iload_n 2, 1) := by decide +kernel
theorem d_MD_save_81 : decode b_MD_save 81 = .ok (.iconst 1, 1) := by decide +kernel
theorem d_MD_save_82 : decode b_MD_save 82 = .ok (.invokevirtual 140, 3) := by decide +kernel
theorem d_MD_save_85 : decode b_MD_save 85 = .ok (.iload 4, 2) := by decide +kernel
theorem d_MD_save_87 : decode b_MD_save 87 = .ok (.ireturn, 1) := by decide +kernel
theorem d_MD_step_0 : decode b_MD_step 0 = .ok (.aload_n 0, 1) := by decide +kernel
theorem d_MD_step_1 : decode b_MD_step 1 = .ok (.iload_n 1, 1) := by decide +kernel
theorem d_MD_step_2 : decode b_MD_step 2 = .ok (.iconst 1, 1) := by decide +kernel
theorem d_MD_step_3 : decode b_MD_step 3 = .ok (.if_icmp .lt 10, 3) := by decide +kernel
theorem d_MD_step_6 : decode b_MD_step 6 = .ok (.iload_n 1, 1) := by decide +kernel
theorem d_MD_step_7 : decode b_MD_step 7 = .ok (.sipush 1000, 3) := by decide +kernel
theorem d_MD_step_10 : decode b_MD_step 10 = .ok (.if_icmp .le 7, 3) := by decide +kernel
theorem d_MD_step_13 : decode b_MD_step 13 = .ok (.iconst 1, 1) := by decide +kernel
theorem d_MD_step_14 : decode b_MD_step 14 = .ok (.goto 4, 3) := by decide +kernel
theorem d_MD_step_17 : decode b_MD_step 17 = .ok (.iconst 0, 1) := by decide +kernel
theorem d_MD_step_18 : decode b_MD_step 18 = .ok (.putfield 52, 3) := by decide +kernel
theorem d_MD_step_21 : decode b_MD_step 21 = .ok (.aload_n 0, 1) := by decide +kernel
theorem d_MD_step_22 : decode b_MD_step 22 = .ok (.getfield 52, 3) := by decide +kernel
theorem d_MD_step_25 : decode b_MD_step 25 = .ok (.ifCond .le 5, 3) := by decide +kernel
theorem d_MD_step_28 : decode b_MD_step 28 = .ok (.iconst 0, 1) := by decide +kernel
theorem d_MD_step_29 : decode b_MD_step 29 = .ok (.ireturn, 1) := by decide +kernel
theorem d_MD_step_30 : decode b_MD_step 30 = .ok (.aload_n 0, 1) := by decide +kernel
theorem d_MD_step_31 : decode b_MD_step 31 = .ok (.getfield 78, 3) := by decide +kernel
theorem d_MD_step_34 : decode b_MD_step 34 = .ok (.iload_n 1, 1) := by decide +kernel
theorem d_MD_step_35 : decode b_MD_step 35 = .ok (.iadd, 1) := by decide +kernel
theorem d_MD_step_36 : decode b_MD_step 36 = .ok (.istore_n 2, 1) := by decide +kernel
theorem d_MD_step_37 : decode b_MD_step 37 = .ok (.aload_n 0, 1) := by decide +kernel
theorem d_MD_step_38 : decode b_MD_step 38 = .ok (.getfield 78, 3) := by decide +kernel
theorem d_MD_step_41 : decode b_MD_step 41 = .ok (.iload_n 2, 1) := by decide +kernel
theorem d_MD_step_42 : decode b_MD_step 42 = .ok (.if_icmp .ge 77, 3) := by decide +kernel
theorem d_MD_step_45 : decode b_MD_step 45 = .ok (.aload_n 0, 1) := by decide +kernel
theorem d_MD_step_46 : decode b_MD_step 46 = .ok (.getfield 110, 3) := by decide +kernel
theorem d_MD_step_49 : decode b_MD_step 49 = .ok (.ifCond .ne 14, 3) := by decide +kernel
theorem d_MD_step_52 : decode b_MD_step 52 = .ok (.aload_n 0, 1) := by decide +kernel
theorem d_MD_step_53 : decode b_MD_step 53 = .ok (.getfield 69, 3) := by decide +kernel
theorem d_MD_step_56 : decode b_MD_step 56 = .ok (.ifCond .le 7, 3) := by decide +kernel
theorem d_MD_step_59 : decode b_MD_step 59 = .ok (.aload_n 0, 1) := by decide +kernel
theorem d_MD_step_60 : decode b_MD_step 60 = .ok (.invokevirtual 150, 3) := by decide +kernel
theorem d_MD_step_63 : decode b_MD_step 63 = .ok (.aload_n 0, 1) := by decide +kernel
theorem d_MD_step_64 : decode b_MD_step 64 = .ok (.getfield 110, 3) := by decide +kernel
theorem d_MD_step_67 : decode b_MD_step 67 = .ok (.ifCond .eq 18, 3) := by decide +kernel
theorem d_MD_step_70 : decode b_MD_step 70 = .ok (.aload_n 0, 1) := by decide +kernel
theorem d_MD_step_71 : decode b_MD_step 71 = .ok (.getfield 116, 3) := by decide +kernel
theorem d_MD_step_74 : decode b_MD_step 74 = .ok (.iload_n 2, 1) := by decide +kernel
theorem d_MD_step_75 : decode b_MD_step 75 = .ok (.if_icmp .gt 10, 3) := by decide +kernel
theorem d_MD_step_78 : decode b_MD_step 78 = .ok (.aload_n 0, 1) := by decide +kernel
theorem d_MD_step_79 : decode b_MD_step 79 = .ok (.invokevirtual 153, 3) := by decide +kernel
theorem d_MD_step_82 : decode b_MD_step 82 = .ok (.goto (-45), 3) := by decide +kernel
theorem d_MD_step_85 : decode b_MD_step 85 = .ok (.aload_n 0, 1) := by decide +kernel
theorem d_MD_step_86 : decode b_MD_step 86 = .ok (.dup, 1) := by decide +kernel
theorem d_MD_step_87 : decode b_MD_step 87 = .ok (.getfield 156, 3) := by decide +kernel
theorem d_MD_step_90 : decode b_MD_step 90 = .ok (.aload_n 0, 1) := by decide +kernel
theorem d_MD_step_91 : decode b_MD_step 91 = .ok (.getfield 110, 3) := by decide +kernel
theorem d_MD_step_94 : decode b_MD_step 94 = .ok (.ifCond .eq 7, 3) := by decide +kernel
theorem d_MD_step_97 : decode b_MD_step 97 = .ok (.iconst 0, 1) := by decide +kernel
theorem d_MD_step_98 : decode b_MD_step 98 = .ok (.goto 9, 3) := by decide +kernel
theorem d_MD_step_101 : decode b_MD_step 101 = .ok (.iload_n 2, 1) := by decide +kernel
theorem d_MD_step_102 : decode b_MD_step 102 = .ok (.aload_n 0, 1) := by decide +kernel
theorem d_MD_step_103 : decode b_MD_step 103 = .ok (.getfield 78, 3) := by decide +kernel
theorem d_MD_step_106 : decode b_MD_step 106 = .ok (.isub, 1) := by decide +kernel
theorem d_MD_step_107 : decode b_MD_step 107 = .ok (.iadd, 1) := by decide +kernel
theorem d_MD_step_108 : decode b_MD_step 108 = .ok (.putfield 156, 3) := by decide +kernel
theorem d_MD_step_111 : decode b_MD_step 111 = .ok (.aload_n 0, 1) := by decide +kernel
theorem d_MD_step_112 : decode b_MD_step 112 = .ok (.iload_n 2, 1) := by decide +kernel
theorem d_MD_step_113 : decode b_MD_step 113 = .ok (.putfield 78, 3) := by decide +kernel
theorem d_MD_step_116 : decode b_MD_step 116 = .ok (.goto (-79), 3) := by decide +kernel
theorem d_MD_step_119 : decode b_MD_step 119 = .ok (.aload_n 0, 1) := by decide +kernel
theorem d_MD_step_120 : decode b_MD_step 120 = .ok (.getfield 78, 3) := by decide +kernel
theorem d_MD_step_123 : decode b_MD_step 123 = .ok (.ireturn, 1) := by decide +kernel
theorem d_MD_sync_0 : decode b_MD_sync 0 = .ok (.aload_n 0, 1) := by decide +kernel
theorem d_MD_sync_1 : decode b_MD_sync 1 = .ok (.aload_n 0, 1) := by decide +kernel
theorem d_MD_sync_2 : decode b_MD_sync 2 = .ok (.getfield 69, 3) := by decide +kernel
theorem d_MD_sync_5 : decode b_MD_sync 5 = .ok (.aload_n 0, 1) := by decide +kernel
theorem d_MD_sync_6 : decode b_MD_sync 6 = .ok (.getfield 55, 3) := by decide +kernel
theorem d_MD_sync_9 : decode b_MD_sync 9 = .ok (.iadd, 1) := by decide +kernel
theorem d_MD_sync_10 : decode b_MD_sync 10 = .ok (.iconst 1, 1) := by decide +kernel
theorem d_MD_sync_11 : decode b_MD_sync 11 = .ok (.iadd, 1) := by decide +kernel
theorem d_MD_sync_12 : decode b_MD_sync 12 = .ok (.bipush 40, 2) := by decide +kernel
theorem d_MD_sync_14 : decode b_MD_sync 14 = .ok (.if_icmp .le 7, 3) := by decide +kernel
theorem d_MD_sync_17 : decode b_MD_sync 17 = .ok (.iconst 1, 1) := by decide +kernel
theorem d_MD_sync_18 : decode b_MD_sync 18 = .ok (.goto 4, 3) := by decide +kernel
theorem d_MD_sync_21 : decode b_MD_sync 21 = .ok (.iconst 0, 1) := by decide +kernel
theorem d_MD_sync_22 : decode b_MD_sync 22 = .ok (.putfield 52, 3) := by decide +kernel
theorem d_MD_sync_25 : decode b_MD_sync 25 = .ok (.aload_n 0, 1) := by decide +kernel
theorem d_MD_sync_26 : decode b_MD_sync 26 = .ok (.getfield 52, 3) := by decide +kernel
theorem d_MD_sync_29 : decode b_MD_sync 29 = .ok (.ifCond .le 5, 3) := by decide +kernel
theorem d_MD_sync_32 : decode b_MD_sync 32 = .ok (.iconst 0, 1) := by decide +kernel
theorem d_MD_sync_33 : decode b_MD_sync 33 = .ok (.ireturn, 1) := by decide +kernel
theorem d_MD_sync_34 : decode b_MD_sync 34 = .ok (.iconst 0, 1) := by decide +kernel
theorem d_MD_sync_35 : decode b_MD_sync 35 = .ok (.istore_n 1, 1) := by decide +kernel
theorem d_MD_sync_36 : decode b_MD_sync 36 = .ok (.iconst 0, 1) := by decide +kernel
theorem d_MD_sync_37 : decode b_MD_sync 37 = .ok (.istore_n 2, 1) := by decide +kernel
theorem d_MD_sync_38 : decode b_MD_sync 38 = .ok (.iload_n 2, 1) := by decide +kernel
theorem d_MD_sync_39 : decode b_MD_sync 39 = .ok (.sipush 256, 3) := by decide +kernel
theorem d_MD_sync_42 : decode b_MD_sync 42 = .ok (.if_icmp .ge 50, 3) := by decide +kernel
theorem d_MD_sync_45 : decode b_MD_sync 45 = .ok (.aload_n 0, 1) := by decide +kernel
theorem d_MD_sync_46 : decode b_MD_sync 46 = .ok (.iload_n 2, 1) := by decide +kernel
theorem d_MD_sync_47 : decode b_MD_sync 47 = .ok (.invokevirtual 134, 3) := by decide +kernel
theorem d_MD_sync_50 : decode b_MD_sync 50 = .ok (.istore_n 3, 1) := by decide +kernel
theorem d_MD_sync_51 : decode b_MD_sync 51 = .ok (.iload_n 3, 1) := by decide +kernel
theorem d_MD_sync_52 : decode b_MD_sync 52 = .ok (.ifCond .lt 34, 3) := by decide +kernel
theorem d_MD_sync_55 : decode b_MD_sync 55 = .ok (.aload_n 0, 1) := by decide +kernel
theorem d_MD_sync_56 : decode b_MD_sync 56 = .ok (.getfield 23, 3) := by decide +kernel
theorem d_MD_sync_59 : decode b_MD_sync 59 = .ok (.iload_n 3, 1) := by decide +kernel
theorem d_MD_sync_60 : decode b_MD_sync 60 = .ok (.baload, 1) := by decide +kernel
theorem d_MD_sync_61 : decode b_MD_sync 61 = .ok (.ifCond .eq 25, 3) := by decide +kernel
theorem d_MD_sync_64 : decode b_MD_sync 64 = .ok (.aload_n 0, 1) := by decide +kernel
theorem d_MD_sync_65 : decode b_MD_sync 65 = .ok (.iconst 1, 1) := by decide +kernel
theorem d_MD_sync_66 : decode b_MD_sync 66 = .ok (.iload_n 2, 1) := by decide +kernel
theorem d_MD_sync_67 : decode b_MD_sync 67 = .ok (.aload_n 0, 1) := by decide +kernel
theorem d_MD_sync_68 : decode b_MD_sync 68 = .ok (.getfield 20, 3) := by decide +kernel
theorem d_MD_sync_71 : decode b_MD_sync 71 = .ok (.iload_n 3, 1) := by decide +kernel
theorem d_MD_sync_72 : decode b_MD_sync 72 = .ok (.iaload, 1) := by decide +kernel
theorem d_MD_sync_73 : decode b_MD_sync 73 = .ok (.invokevirtual 65, 3) := by decide +kernel
theorem d_MD_sync_76 : decode b_MD_sync 76 = .ok (.aload_n 0, 1) := by decide +kernel
theorem d_MD_sync_77 : decode b_MD_sync 77 = .ok (.getfield 23, 3) := by decide +kernel
theorem d_MD_sync_80 : decode b_MD_sync 80 = .ok (.iload_n 3, 1) := by decide +kernel
theorem d_MD_sync_81 : decode b_MD_sync 81 = .ok (.iconst 0, 1) := by decide +kernel
theorem d_MD_sync_82 : decode b_MD_sync 82 = .ok (.bastore, 1) := by decide +kernel
theorem d_MD_sync_83 : decode b_MD_sync 83 = .ok (.iinc 1 1, 3) := by decide +kernel
theorem d_MD_sync_86 : decode b_MD_sync 86 = .ok (.iinc 2 1, 3) := by decide +kernel
theorem d_MD_sync_89 : decode b_MD_sync 89 = .ok (.goto (-51), 3) := by decide +kernel
theorem d_MD_sync_92 : decode b_MD_sync 92 = .ok (.aload_n 0, 1) := by decide +kernel
theorem d_MD_sync_93 : decode b_MD_sync 93 = .ok (.iconst 2, 1) := by decide +kernel
theorem d_MD_sync_94 : decode b_MD_sync 94 = .ok (.iconst (-1), 1) := by decide +kernel
theorem d_MD_sync_95 : decode b_MD_sync 95 = .ok (.iconst 0, 1) := by decide +kernel
theorem d_MD_sync_96 : decode b_MD_sync 96 = .ok (.invokevirtual 65, 3) := by decide +kernel
theorem d_MD_sync_99 : decode b_MD_sync 99 = .ok (.iload_n 1, 1) := by decide +kernel
theorem d_MD_sync_100 : decode b_MD_sync 100 = .ok (.ireturn, 1) := by decide +kernel
theorem d_MD_thrown_0 : decode b_MD_thrown 0 = .ok (.aload_n 0, 1) := by decide +kernel
theorem d_MD_thrown_1 : decode b_MD_thrown 1 = .ok (.getfield 52, 3) := by decide +kernel
theorem d_MD_thrown_4 : decode b_MD_thrown 4 = .ok (.ireturn, 1) := by decide +kernel
theorem d_MD_told_0 : decode b_MD_told 0 = .ok (.aload_n 0, 1) := by decide +kernel
theorem d_MD_told_1 : decode b_MD_told 1 = .ok (.iconst 0, 1) := by decide +kernel
theorem d_MD_told_2 : decode b_MD_told 2 = .ok (.putfield 52, 3) := by decide +kernel
theorem d_MD_told_5 : decode b_MD_told 5 = .ok (.iload_n 1, 1) := by decide +kernel
theorem d_MD_told_6 : decode b_MD_told 6 = .ok (.tableswitch 136 0 11 #[62, 67, 72, 91, 96, 101, 106, 111, 116, 121, 126, 131], 62) := by decide +kernel
theorem d_MD_told_68 : decode b_MD_told 68 = .ok (.aload_n 0, 1) := by decide +kernel
theorem d_MD_told_69 : decode b_MD_told 69 = .ok (.getfield 78, 3) := by decide +kernel
