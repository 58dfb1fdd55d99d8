theorem d_CP_init_0 : decode b_CP_init 0 = .ok (.aload_n 0, 1) := by decide +kernel
theorem d_CP_init_1 : decode b_CP_init 1 = .ok (.invokespecial 1, 3) := by decide +kernel
theorem d_CP_init_4 : decode b_CP_init 4 = .ok (.aload_n 0, 1) := by decide +kernel
theorem d_CP_init_5 : decode b_CP_init 5 = .ok (.iload_n 1, 1) := by decide +kernel
theorem d_CP_init_6 : decode b_CP_init 6 = .ok (.putfield 7, 3) := by decide +kernel
theorem d_CP_init_9 : decode b_CP_init 9 = .ok (.aload_n 0, 1) := by decide +kernel
theorem d_CP_init_10 : decode b_CP_init 10 = .ok (.iload_n 2, 1) := by decide +kernel
theorem d_CP_init_11 : decode b_CP_init 11 = .ok (.putfield 13, 3) := by decide +kernel
theorem d_CP_init_14 : decode b_CP_init 14 = .ok (.return_, 1) := by decide +kernel
theorem d_CS_at_0 : decode b_CS_at 0 = .ok (.iload_n 1, 1) := by decide +kernel
theorem d_CS_at_1 : decode b_CS_at 1 = .ok (.ifCond .lt 14, 3) := by decide +kernel
theorem d_CS_at_4 : decode b_CS_at 4 = .ok (.iload_n 1, 1) := by decide +kernel
theorem d_CS_at_5 : decode b_CS_at 5 = .ok (.aload_n 0, 1) := by decide +kernel
theorem d_CS_at_6 : decode b_CS_at 6 = .ok (.getfield 10, 3) := by decide +kernel
theorem d_CS_at_9 : decode b_CS_at 9 = .ok (.invokevirtual 16, 3) := by decide +kernel
theorem d_CS_at_12 : decode b_CS_at 12 = .ok (.if_icmp .lt 7, 3) := by decide +kernel
theorem d_CS_at_15 : decode b_CS_at 15 = .ok (.aconst_null, 1) := by decide +kernel
theorem d_CS_at_16 : decode b_CS_at 16 = .ok (.goto 14, 3) := by decide +kernel
theorem d_CS_at_19 : decode b_CS_at 19 = .ok (.aload_n 0, 1) := by decide +kernel
theorem d_CS_at_20 : decode b_CS_at 20 = .ok (.getfield 10, 3) := by decide +kernel
theorem d_CS_at_23 : decode b_CS_at 23 = .ok (.iload_n 1, 1) := by decide +kernel
theorem d_CS_at_24 : decode b_CS_at 24 = .ok (.invokevirtual 20, 3) := by decide +kernel
theorem d_CS_at_27 : decode b_CS_at 27 = .ok (.checkcast 24, 3) := by decide +kernel
theorem d_CS_at_30 : decode b_CS_at 30 = .ok (.areturn, 1) := by decide +kernel
theorem d_CS_clear_0 : decode b_CS_clear 0 = .ok (.aload_n 0, 1) := by decide +kernel
theorem d_CS_clear_1 : decode b_CS_clear 1 = .ok (.getfield 10, 3) := by decide +kernel
theorem d_CS_clear_4 : decode b_CS_clear 4 = .ok (.invokevirtual 45, 3) := by decide +kernel
theorem d_CS_clear_7 : decode b_CS_clear 7 = .ok (.return_, 1) := by decide +kernel
theorem d_CS_copyOf_0 : decode b_CS_copyOf 0 = .ok (.iconst 0, 1) := by decide +kernel
theorem d_CS_copyOf_1 : decode b_CS_copyOf 1 = .ok (.istore_n 2, 1) := by decide +kernel
theorem d_CS_copyOf_2 : decode b_CS_copyOf 2 = .ok (.iload_n 2, 1) := by decide +kernel
theorem d_CS_copyOf_3 : decode b_CS_copyOf 3 = .ok (.aload_n 0, 1) := by decide +kernel
theorem d_CS_copyOf_4 : decode b_CS_copyOf 4 = .ok (.getfield 10, 3) := by decide +kernel
theorem d_CS_copyOf_7 : decode b_CS_copyOf 7 = .ok (.invokevirtual 16, 3) := by decide +kernel
theorem d_CS_copyOf_10 : decode b_CS_copyOf 10 = .ok (.if_icmp .ge 39, 3) := by decide +kernel
theorem d_CS_copyOf_13 : decode b_CS_copyOf 13 = .ok (.aload_n 0, 1) := by decide +kernel
theorem d_CS_copyOf_14 : decode b_CS_copyOf 14 = .ok (.getfield 10, 3) := by decide +kernel
theorem d_CS_copyOf_17 : decode b_CS_copyOf 17 = .ok (.iload_n 2, 1) := by decide +kernel
theorem d_CS_copyOf_18 : decode b_CS_copyOf 18 = .ok (.invokevirtual 20, 3) := by decide +kernel
theorem d_CS_copyOf_21 : decode b_CS_copyOf 21 = .ok (.checkcast 24, 3) := by decide +kernel
theorem d_CS_copyOf_24 : decode b_CS_copyOf 24 = .ok (.getfield 26, 3) := by decide +kernel
theorem d_CS_copyOf_27 : decode b_CS_copyOf 27 = .ok (.iload_n 1, 1) := by decide +kernel
theorem d_CS_copyOf_28 : decode b_CS_copyOf 28 = .ok (.if_icmp .ne 15, 3) := by decide +kernel
theorem d_CS_copyOf_31 : decode b_CS_copyOf 31 = .ok (.aload_n 0, 1) := by decide +kernel
theorem d_CS_copyOf_32 : decode b_CS_copyOf 32 = .ok (.getfield 10, 3) := by decide +kernel
theorem d_CS_copyOf_35 : decode b_CS_copyOf 35 = .ok (.iload_n 2, 1) := by decide +kernel
theorem d_CS_copyOf_36 : decode b_CS_copyOf 36 = .ok (.invokevirtual 20, 3) := by decide +kernel
theorem d_CS_copyOf_39 : decode b_CS_copyOf 39 = .ok (.checkcast 24, 3) := by decide +kernel
theorem d_CS_copyOf_42 : decode b_CS_copyOf 42 = .ok (.areturn, 1) := by decide +kernel
theorem d_CS_copyOf_43 : decode b_CS_copyOf 43 = .ok (.iinc 2 1, 3) := by decide +kernel
theorem d_CS_copyOf_46 : decode b_CS_copyOf 46 = .ok (.goto (-44), 3) := by decide +kernel
theorem d_CS_copyOf_49 : decode b_CS_copyOf 49 = .ok (.aconst_null, 1) := by decide +kernel
theorem d_CS_copyOf_50 : decode b_CS_copyOf 50 = .ok (.areturn, 1) := by decide +kernel
theorem d_CS_dirtyOfLeastBlock_0 : decode b_CS_dirtyOfLeastBlock 0 = .ok (.aconst_null, 1) := by decide +kernel
theorem d_CS_dirtyOfLeastBlock_1 : decode b_CS_dirtyOfLeastBlock 1 = .ok (.astore_n 1, 1) := by decide +kernel
theorem d_CS_dirtyOfLeastBlock_2 : decode b_CS_dirtyOfLeastBlock 2 = .ok (.iconst 0, 1) := by decide +kernel
theorem d_CS_dirtyOfLeastBlock_3 : decode b_CS_dirtyOfLeastBlock 3 = .ok (.istore_n 2, 1) := by decide +kernel
theorem d_CS_dirtyOfLeastBlock_4 : decode b_CS_dirtyOfLeastBlock 4 = .ok (.iload_n 2, 1) := by decide +kernel
theorem d_CS_dirtyOfLeastBlock_5 : decode b_CS_dirtyOfLeastBlock 5 = .ok (.aload_n 0, 1) := by decide +kernel
theorem d_CS_dirtyOfLeastBlock_6 : decode b_CS_dirtyOfLeastBlock 6 = .ok (.getfield 10, 3) := by decide +kernel
theorem d_CS_dirtyOfLeastBlock_9 : decode b_CS_dirtyOfLeastBlock 9 = .ok (.invokevirtual 16, 3) := by decide +kernel
theorem d_CS_dirtyOfLeastBlock_12 : decode b_CS_dirtyOfLeastBlock 12 = .ok (.if_icmp .ge 45, 3) := by decide +kernel
theorem d_CS_dirtyOfLeastBlock_15 : decode b_CS_dirtyOfLeastBlock 15 = .ok (.aload_n 0, 1) := by decide +kernel
theorem d_CS_dirtyOfLeastBlock_16 : decode b_CS_dirtyOfLeastBlock 16 = .ok (.getfield 10, 3) := by decide +kernel
theorem d_CS_dirtyOfLeastBlock_19 : decode b_CS_dirtyOfLeastBlock 19 = .ok (.iload_n 2, 1) := by decide +kernel
theorem d_CS_dirtyOfLeastBlock_20 : decode b_CS_dirtyOfLeastBlock 20 = .ok (.invokevirtual 20, 3) := by decide +kernel
theorem d_CS_dirtyOfLeastBlock_23 : decode b_CS_dirtyOfLeastBlock 23 = .ok (.checkcast 24, 3) := by decide +kernel
theorem d_CS_dirtyOfLeastBlock_26 : decode b_CS_dirtyOfLeastBlock 26 = .ok (.astore_n 3, 1) := by decide +kernel
theorem d_CS_dirtyOfLeastBlock_27 : decode b_CS_dirtyOfLeastBlock 27 = .ok (.aload_n 3, 1) := by decide +kernel
theorem d_CS_dirtyOfLeastBlock_28 : decode b_CS_dirtyOfLeastBlock 28 = .ok (.getfield 41, 3) := by decide +kernel
theorem d_CS_dirtyOfLeastBlock_31 : decode b_CS_dirtyOfLeastBlock 31 = .ok (.ifCond .eq 20, 3) := by decide +kernel
theorem d_CS_dirtyOfLeastBlock_34 : decode b_CS_dirtyOfLeastBlock 34 = .ok (.aload_n 1, 1) := by decide +kernel
theorem d_CS_dirtyOfLeastBlock_35 : decode b_CS_dirtyOfLeastBlock 35 = .ok (.ifnull 14, 3) := by decide +kernel
theorem d_CS_dirtyOfLeastBlock_38 : decode b_CS_dirtyOfLeastBlock 38 = .ok (.aload_n 3, 1) := by decide +kernel
theorem d_CS_dirtyOfLeastBlock_39 : decode b_CS_dirtyOfLeastBlock 39 = .ok (.getfield 26, 3) := by decide +kernel
theorem d_CS_dirtyOfLeastBlock_42 : decode b_CS_dirtyOfLeastBlock 42 = .ok (.aload_n 1, 1) := by decide +kernel
theorem d_CS_dirtyOfLeastBlock_43 : decode b_CS_dirtyOfLeastBlock 43 = .ok (.getfield 26, 3) := by decide +kernel
theorem d_CS_dirtyOfLeastBlock_46 : decode b_CS_dirtyOfLeastBlock 46 = .ok (.if_icmp .ge 5, 3) := by decide +kernel
theorem d_CS_dirtyOfLeastBlock_49 : decode b_CS_dirtyOfLeastBlock 49 = .ok (.aload_n 3, 1) := by decide +kernel
theorem d_CS_dirtyOfLeastBlock_50 : decode b_CS_dirtyOfLeastBlock 50 = .ok (.astore_n 1, 1) := by decide +kernel
theorem d_CS_dirtyOfLeastBlock_51 : decode b_CS_dirtyOfLeastBlock 51 = .ok (.iinc 2 1, 3) := by decide +kernel
theorem d_CS_dirtyOfLeastBlock_54 : decode b_CS_dirtyOfLeastBlock 54 = .ok (.goto (-50), 3) := by decide +kernel
theorem d_CS_dirtyOfLeastBlock_57 : decode b_CS_dirtyOfLeastBlock 57 = .ok (.aload_n 1, 1) := by decide +kernel
theorem d_CS_dirtyOfLeastBlock_58 : decode b_CS_dirtyOfLeastBlock 58 = .ok (.areturn, 1) := by decide +kernel
theorem d_CS_init_0 : decode b_CS_init 0 = .ok (.aload_n 0, 1) := by decide +kernel
theorem d_CS_init_1 : decode b_CS_init 1 = .ok (.invokespecial 1, 3) := by decide +kernel
theorem d_CS_init_4 : decode b_CS_init 4 = .ok (.aload_n 0, 1) := by decide +kernel
theorem d_CS_init_5 : decode b_CS_init 5 = .ok (.new 7, 3) := by decide +kernel
theorem d_CS_init_8 : decode b_CS_init 8 = .ok (.dup, 1) := by decide +kernel
theorem d_CS_init_9 : decode b_CS_init 9 = .ok (.invokespecial 9, 3) := by decide +kernel
theorem d_CS_init_12 : decode b_CS_init 12 = .ok (.putfield 10, 3) := by decide +kernel
theorem d_CS_init_15 : decode b_CS_init 15 = .ok (.return_, 1) := by decide +kernel
theorem d_CS_putLast_0 : decode b_CS_putLast 0 = .ok (.iconst 0, 1) := by decide +kernel
theorem d_CS_putLast_1 : decode b_CS_putLast 1 = .ok (.istore_n 2, 1) := by decide +kernel
theorem d_CS_putLast_2 : decode b_CS_putLast 2 = .ok (.iload_n 2, 1) := by decide +kernel
theorem d_CS_putLast_3 : decode b_CS_putLast 3 = .ok (.aload_n 0, 1) := by decide +kernel
theorem d_CS_putLast_4 : decode b_CS_putLast 4 = .ok (.getfield 10, 3) := by decide +kernel
theorem d_CS_putLast_7 : decode b_CS_putLast 7 = .ok (.invokevirtual 16, 3) := by decide +kernel
theorem d_CS_putLast_10 : decode b_CS_putLast 10 = .ok (.if_icmp .ge 42, 3) := by decide +kernel
theorem d_CS_putLast_13 : decode b_CS_putLast 13 = .ok (.aload_n 0, 1) := by decide +kernel
theorem d_CS_putLast_14 : decode b_CS_putLast 14 = .ok (.getfield 10, 3) := by decide +kernel
theorem d_CS_putLast_17 : decode b_CS_putLast 17 = .ok (.iload_n 2, 1) := by decide +kernel
theorem d_CS_putLast_18 : decode b_CS_putLast 18 = .ok (.invokevirtual 20, 3) := by decide +kernel
theorem d_CS_putLast_21 : decode b_CS_putLast 21 = .ok (.checkcast 24, 3) := by decide +kernel
theorem d_CS_putLast_24 : decode b_CS_putLast 24 = .ok (.getfield 26, 3) := by decide +kernel
theorem d_CS_putLast_27 : decode b_CS_putLast 27 = .ok (.aload_n 1, 1) := by decide +kernel
theorem d_CS_putLast_28 : decode b_CS_putLast 28 = .ok (.getfield 26, 3) := by decide +kernel
theorem d_CS_putLast_31 : decode b_CS_putLast 31 = .ok (.if_icmp .ne 15, 3) := by decide +kernel
theorem d_CS_putLast_34 : decode b_CS_putLast 34 = .ok (.aload_n 0, 1) := by decide +kernel
theorem d_CS_putLast_35 : decode b_CS_putLast 35 = .ok (.getfield 10, 3) := by decide +kernel
theorem d_CS_putLast_38 : decode b_CS_putLast 38 = .ok (.iload_n 2, 1) := by decide +kernel
theorem d_CS_putLast_39 : decode b_CS_putLast 39 = .ok (.invokevirtual 30, 3) := by decide +kernel
theorem d_CS_putLast_42 : decode b_CS_putLast 42 = .ok (.pop, 1) := by decide +kernel
theorem d_CS_putLast_43 : decode b_CS_putLast 43 = .ok (.goto 9, 3) := by decide +kernel
theorem d_CS_putLast_46 : decode b_CS_putLast 46 = .ok (.iinc 2 1, 3) := by decide +kernel
theorem d_CS_putLast_49 : decode b_CS_putLast 49 = .ok (.goto (-47), 3) := by decide +kernel
theorem d_CS_putLast_52 : decode b_CS_putLast 52 = .ok (.aload_n 0, 1) := by decide +kernel
theorem d_CS_putLast_53 : decode b_CS_putLast 53 = .ok (.getfield 10, 3) := by decide +kernel
theorem d_CS_putLast_56 : decode b_CS_putLast 56 = .ok (.aload_n 1, 1) := by decide +kernel
theorem d_CS_putLast_57 : decode b_CS_putLast 57 = .ok (.invokevirtual 33, 3) := by decide +kernel
theorem d_CS_putLast_60 : decode b_CS_putLast 60 = .ok (.pop, 1) := by decide +kernel
theorem d_CS_putLast_61 : decode b_CS_putLast 61 = .ok (.return_, 1) := by decide +kernel
theorem d_CS_size_0 : decode b_CS_size 0 = .ok (.aload_n 0, 1) := by decide +kernel
theorem d_CS_size_1 : decode b_CS_size 1 = .ok (.getfield 10, 3) := by decide +kernel
theorem d_CS_size_4 : decode b_CS_size 4 = .ok (.invokevirtual 16, 3) := by decide +kernel
theorem d_CS_size_7 : decode b_CS_size 7 = .ok (.ireturn, 1) := by decide +kernel
theorem d_CS_takeFirst_0 : decode b_CS_takeFirst 0 = .ok (.aload_n 0, 1) := by decide +kernel
theorem d_CS_takeFirst_1 : decode b_CS_takeFirst 1 = .ok (.getfield 10, 3) := by decide +kernel
theorem d_CS_takeFirst_4 : decode b_CS_takeFirst 4 = .ok (.invokevirtual 37, 3) := by decide +kernel
theorem d_CS_takeFirst_7 : decode b_CS_takeFirst 7 = .ok (.ifCond .eq 7, 3) := by decide +kernel
theorem d_CS_takeFirst_10 : decode b_CS_takeFirst 10 = .ok (.aconst_null, 1) := by decide +kernel
theorem d_CS_takeFirst_11 : decode b_CS_takeFirst 11 = .ok (.goto 14, 3) := by decide +kernel
theorem d_CS_takeFirst_14 : decode b_CS_takeFirst 14 = .ok (.aload_n 0, 1) := by decide +kernel
theorem d_CS_takeFirst_15 : decode b_CS_takeFirst 15 = .ok (.getfield 10, 3) := by decide +kernel
theorem d_CS_takeFirst_18 : decode b_CS_takeFirst 18 = .ok (.iconst 0, 1) := by decide +kernel
theorem d_CS_takeFirst_19 : decode b_CS_takeFirst 19 = .ok (.invokevirtual 30, 3) := by decide +kernel
theorem d_CS_takeFirst_22 : decode b_CS_takeFirst 22 = .ok (.checkcast 24, 3) := by decide +kernel
theorem d_CS_takeFirst_25 : decode b_CS_takeFirst 25 = .ok (.areturn, 1) := by decide +kernel
theorem d_QU_absorberOf_0 : decode b_QU_absorberOf 0 = .ok (.aload_n 0, 1) := by decide +kernel
theorem d_QU_absorberOf_1 : decode b_QU_absorberOf 1 = .ok (.getfield 12, 3) := by decide +kernel
theorem d_QU_absorberOf_4 : decode b_QU_absorberOf 4 = .ok (.invokevirtual 18, 3) := by decide +kernel
theorem d_QU_absorberOf_7 : decode b_QU_absorberOf 7 = .ok (.iconst 1, 1) := by decide +kernel
theorem d_QU_absorberOf_8 : decode b_QU_absorberOf 8 = .ok (.isub, 1) := by decide +kernel
theorem d_QU_absorberOf_9 : decode b_QU_absorberOf 9 = .ok (.istore_n 2, 1) := by decide +kernel
theorem d_QU_absorberOf_10 : decode b_QU_absorberOf 10 = .ok (.iload_n 2, 1) := by decide +kernel
theorem d_QU_absorberOf_11 : decode b_QU_absorberOf 11 = .ok (.ifCond .lt 53, 3) := by decide +kernel
theorem d_QU_absorberOf_14 : decode b_QU_absorberOf 14 = .ok (.aload_n 0, 1) := by decide +kernel
theorem d_QU_absorberOf_15 : decode b_QU_absorberOf 15 = .ok (.getfield 12, 3) := by decide +kernel
theorem d_QU_absorberOf_18 : decode b_QU_absorberOf 18 = .ok (.iload_n 2, 1) := by decide +kernel
theorem d_QU_absorberOf_19 : decode b_QU_absorberOf 19 = .ok (.invokevirtual 22, 3) := by decide +kernel
theorem d_QU_absorberOf_22 : decode b_QU_absorberOf 22 = .ok (.checkcast 26, 3) := by decide +kernel
theorem d_QU_absorberOf_25 : decode b_QU_absorberOf 25 = .ok (.astore_n 3, 1) := by decide +kernel
theorem d_QU_absorberOf_26 : decode b_QU_absorberOf 26 = .ok (.aload_n 3, 1) := by decide +kernel
theorem d_QU_absorberOf_27 : decode b_QU_absorberOf 27 = .ok (.getfield 42, 3) := by decide +kernel
theorem d_QU_absorberOf_30 : decode b_QU_absorberOf 30 = .ok (.iconst 2, 1) := by decide +kernel
theorem d_QU_absorberOf_31 : decode b_QU_absorberOf 31 = .ok (.if_icmp .ne 5, 3) := by decide +kernel
theorem d_QU_absorberOf_34 : decode b_QU_absorberOf 34 = .ok (.aconst_null, 1) := by decide +kernel
theorem d_QU_absorberOf_35 : decode b_QU_absorberOf 35 = .ok (.areturn, 1) := by decide +kernel
theorem d_QU_absorberOf_36 : decode b_QU_absorberOf 36 = .ok (.aload_n 3, 1) := by decide +kernel
theorem d_QU_absorberOf_37 : decode b_QU_absorberOf 37 = .ok (.getfield 45, 3) := by decide +kernel
theorem d_QU_absorberOf_40 : decode b_QU_absorberOf 40 = .ok (.iload_n 1, 1) := by decide +kernel
theorem d_QU_absorberOf_41 : decode b_QU_absorberOf 41 = .ok (.if_icmp .ne 17, 3) := by decide +kernel
theorem d_QU_absorberOf_44 : decode b_QU_absorberOf 44 = .ok (.aload_n 3, 1) := by decide +kernel
theorem d_QU_absorberOf_45 : decode b_QU_absorberOf 45 = .ok (.getfield 42, 3) := by decide +kernel
theorem d_QU_absorberOf_48 : decode b_QU_absorberOf 48 = .ok (.iconst 1, 1) := by decide +kernel
theorem d_QU_absorberOf_49 : decode b_QU_absorberOf 49 = .ok (.if_icmp .ne 7, 3) := by decide +kernel
theorem d_QU_absorberOf_52 : decode b_QU_absorberOf 52 = .ok (.aload_n 3, 1) := by decide +kernel
theorem d_QU_absorberOf_53 : decode b_QU_absorberOf 53 = .ok (.goto 4, 3) := by decide +kernel
theorem d_QU_absorberOf_56 : decode b_QU_absorberOf 56 = .ok (.aconst_null, 1) := by decide +kernel
theorem d_QU_absorberOf_57 : decode b_QU_absorberOf 57 = .ok (.areturn, 1) := by decide +kernel
theorem d_QU_absorberOf_58 : decode b_QU_absorberOf 58 = .ok (.iinc 2 (-1), 3) := by decide +kernel
theorem d_QU_absorberOf_61 : decode b_QU_absorberOf 61 = .ok (.goto (-51), 3) := by decide +kernel
theorem d_QU_absorberOf_64 : decode b_QU_absorberOf 64 = .ok (.aconst_null, 1) := by decide +kernel
theorem d_QU_absorberOf_65 : decode b_QU_absorberOf 65 = .ok (.areturn, 1) := by decide +kernel
theorem d_QU_add_0 : decode b_QU_add 0 = .ok (.aload_n 0, 1) := by decide +kernel
theorem d_QU_add_1 : decode b_QU_add 1 = .ok (.getfield 12, 3) := by decide +kernel
theorem d_QU_add_4 : decode b_QU_add 4 = .ok (.aload_n 1, 1) := by decide +kernel
theorem d_QU_add_5 : decode b_QU_add 5 = .ok (.invokevirtual 28, 3) := by decide +kernel
theorem d_QU_add_8 : decode b_QU_add 8 = .ok (.pop, 1) := by decide +kernel
theorem d_QU_add_9 : decode b_QU_add 9 = .ok (.return_, 1) := by decide +kernel
theorem d_QU_at_0 : decode b_QU_at 0 = .ok (.iload_n 1, 1) := by decide +kernel
theorem d_QU_at_1 : decode b_QU_at 1 = .ok (.ifCond .lt 14, 3) := by decide +kernel
theorem d_QU_at_4 : decode b_QU_at 4 = .ok (.iload_n 1, 1) := by decide +kernel
theorem d_QU_at_5 : decode b_QU_at 5 = .ok (.aload_n 0, 1) := by decide +kernel
theorem d_QU_at_6 : decode b_QU_at 6 = .ok (.getfield 12, 3) := by decide +kernel
theorem d_QU_at_9 : decode b_QU_at 9 = .ok (.invokevirtual 18, 3) := by decide +kernel
theorem d_QU_at_12 : decode b_QU_at 12 = .ok (.if_icmp .lt 7, 3) := by decide +kernel
theorem d_QU_at_15 : decode b_QU_at 15 = .ok (.aconst_null, 1) := by decide +kernel
theorem d_QU_at_16 : decode b_QU_at 16 = .ok (.goto 14, 3) := by decide +kernel
theorem d_QU_at_19 : decode b_QU_at 19 = .ok (.aload_n 0, 1) := by decide +kernel
theorem d_QU_at_20 : decode b_QU_at 20 = .ok (.getfield 12, 3) := by decide +kernel
theorem d_QU_at_23 : decode b_QU_at 23 = .ok (.iload_n 1, 1) := by decide +kernel
theorem d_QU_at_24 : decode b_QU_at 24 = .ok (.invokevirtual 22, 3) := by decide +kernel
theorem d_QU_at_27 : decode b_QU_at 27 = .ok (.checkcast 26, 3) := by decide +kernel
theorem d_QU_at_30 : decode b_QU_at 30 = .ok (.areturn, 1) := by decide +kernel
theorem d_QU_clear_0 : decode b_QU_clear 0 = .ok (.aload_n 0, 1) := by decide +kernel
theorem d_QU_clear_1 : decode b_QU_clear 1 = .ok (.getfield 12, 3) := by decide +kernel
theorem d_QU_clear_4 : decode b_QU_clear 4 = .ok (.invokevirtual 35, 3) := by decide +kernel
theorem d_QU_clear_7 : decode b_QU_clear 7 = .ok (.return_, 1) := by decide +kernel
theorem d_QU_init_0 : decode b_QU_init 0 = .ok (.aload_n 0, 1) := by decide +kernel
theorem d_QU_init_1 : decode b_QU_init 1 = .ok (.invokespecial 3, 3) := by decide +kernel
theorem d_QU_init_4 : decode b_QU_init 4 = .ok (.aload_n 0, 1) := by decide +kernel
theorem d_QU_init_5 : decode b_QU_init 5 = .ok (.new 9, 3) := by decide +kernel
theorem d_QU_init_8 : decode b_QU_init 8 = .ok (.dup, 1) := by decide +kernel
theorem d_QU_init_9 : decode b_QU_init 9 = .ok (.invokespecial 11, 3) := by decide +kernel
theorem d_QU_init_12 : decode b_QU_init 12 = .ok (.putfield 12, 3) := by decide +kernel
theorem d_QU_init_15 : decode b_QU_init 15 = .ok (.return_, 1) := by decide +kernel
theorem d_QU_isReady_0 : decode b_QU_isReady 0 = .ok (.iload_n 1, 1) := by decide +kernel
theorem d_QU_isReady_1 : decode b_QU_isReady 1 = .ok (.ifCond .lt 14, 3) := by decide +kernel
theorem d_QU_isReady_4 : decode b_QU_isReady 4 = .ok (.iload_n 1, 1) := by decide +kernel
theorem d_QU_isReady_5 : decode b_QU_isReady 5 = .ok (.aload_n 0, 1) := by decide +kernel
theorem d_QU_isReady_6 : decode b_QU_isReady 6 = .ok (.getfield 12, 3) := by decide +kernel
theorem d_QU_isReady_9 : decode b_QU_isReady 9 = .ok (.invokevirtual 18, 3) := by decide +kernel
theorem d_QU_isReady_12 : decode b_QU_isReady 12 = .ok (.if_icmp .lt 5, 3) := by decide +kernel
theorem d_QU_isReady_15 : decode b_QU_isReady 15 = .ok (.iconst 0, 1) := by decide +kernel
theorem d_QU_isReady_16 : decode b_QU_isReady 16 = .ok (.ireturn, 1) := by decide +kernel
theorem d_QU_isReady_17 : decode b_QU_isReady 17 = .ok (.aload_n 0, 1) := by decide +kernel
theorem d_QU_isReady_18 : decode b_QU_isReady 18 = .ok (.getfield 12, 3) := by decide +kernel
theorem d_QU_isReady_21 : decode b_QU_isReady 21 = .ok (.iload_n 1, 1) := by decide +kernel
theorem d_QU_isReady_22 : decode b_QU_isReady 22 = .ok (.invokevirtual 22, 3) := by decide +kernel
theorem d_QU_isReady_25 : decode b_QU_isReady 25 = .ok (.checkcast 26, 3) := by decide +kernel
theorem d_QU_isReady_28 : decode b_QU_isReady 28 = .ok (.astore_n 2, 1) := by decide +kernel
theorem d_QU_isReady_29 : decode b_QU_isReady 29 = .ok (.aload_n 2, 1) := by decide +kernel
theorem d_QU_isReady_30 : decode b_QU_isReady 30 = .ok (.getfield 42, 3) := by decide +kernel
theorem d_QU_isReady_33 : decode b_QU_isReady 33 = .ok (.iconst 2, 1) := by decide +kernel
theorem d_QU_isReady_34 : decode b_QU_isReady 34 = .ok (.if_icmp .ne 13, 3) := by decide +kernel
theorem d_QU_isReady_37 : decode b_QU_isReady 37 = .ok (.iload_n 1, 1) := by decide +kernel
theorem d_QU_isReady_38 : decode b_QU_isReady 38 = .ok (.ifCond .ne 7, 3) := by decide +kernel
theorem d_QU_isReady_41 : decode b_QU_isReady 41 = .ok (.iconst 1, 1) := by decide +kernel
theorem d_QU_isReady_42 : decode b_QU_isReady 42 = .ok (.goto 4, 3) := by decide +kernel
theorem d_QU_isReady_45 : decode b_QU_isReady 45 = .ok (.iconst 0, 1) := by decide +kernel
theorem d_QU_isReady_46 : decode b_QU_isReady 46 = .ok (.ireturn, 1) := by decide +kernel
theorem d_QU_isReady_47 : decode b_QU_isReady 47 = .ok (.iconst 0, 1) := by decide +kernel
theorem d_QU_isReady_48 : decode b_QU_isReady 48 = .ok (.istore_n 3, 1) := by decide +kernel
theorem d_QU_isReady_49 : decode b_QU_isReady 49 = .ok (.iload_n 3, 1) := by decide +kernel
theorem d_QU_isReady_50 : decode b_QU_isReady 50 = .ok (.iload_n 1, 1) := by decide +kernel
theorem d_QU_isReady_51 : decode b_QU_isReady 51 = .ok (.if_icmp .ge 45, 3) := by decide +kernel
theorem d_QU_isReady_54 : decode b_QU_isReady 54 = .ok (.aload_n 0, 1) := by decide +kernel
theorem d_QU_isReady_55 : decode b_QU_isReady 55 = .ok (.getfield 12, 3) := by decide +kernel
theorem d_QU_isReady_58 : decode b_QU_isReady 58 = .ok (.iload_n 3, 1) := by decide +kernel
theorem d_QU_isReady_59 : decode b_QU_isReady 59 = .ok (.invokevirtual 22, 3) := by decide +kernel
theorem d_QU_isReady_62 : decode b_QU_isReady 62 = .ok (.checkcast 26, 3) := by decide +kernel
theorem d_QU_isReady_65 : decode b_QU_isReady 65 = .ok (.astore 4, 2) := by decide +kernel
theorem d_QU_isReady_67 : decode b_QU_isReady 67 = .ok (.aload 4, 2) := by decide +kernel
theorem d_QU_isReady_69 : decode b_QU_isReady 69 = .ok (.getfield 42, 3) := by decide +kernel
theorem d_QU_isReady_72 : decode b_QU_isReady 72 = .ok (.iconst 2, 1) := by decide +kernel
theorem d_QU_isReady_73 : decode b_QU_isReady 73 = .ok (.if_icmp .eq 15, 3) := by decide +kernel
theorem d_QU_isReady_76 : decode b_QU_isReady 76 = .ok (.aload 4, 2) := by decide +kernel
theorem d_QU_isReady_78 : decode b_QU_isReady 78 = .ok (.getfield 45, 3) := by decide +kernel
theorem d_QU_isReady_81 : decode b_QU_isReady 81 = .ok (.aload_n 2, 1) := by decide +kernel
theorem d_QU_isReady_82 : decode b_QU_isReady 82 = .ok (.getfield 45, 3) := by decide +kernel
theorem d_QU_isReady_85 : decode b_QU_isReady 85 = .ok (.if_icmp .ne 5, 3) := by decide +kernel
theorem d_QU_isReady_88 : decode b_QU_isReady 88 = .ok (.iconst 0, 1) := by decide +kernel
theorem d_QU_isReady_89 : decode b_QU_isReady 89 = .ok (.ireturn, 1) := by decide +kernel
theorem d_QU_isReady_90 : decode b_QU_isReady 90 = .ok (.iinc 3 1, 3) := by decide +kernel
theorem d_QU_isReady_93 : decode b_QU_isReady 93 = .ok (.goto (-44), 3) := by decide +kernel
theorem d_QU_isReady_96 : decode b_QU_isReady 96 = .ok (.iconst 1, 1) := by decide +kernel
theorem d_QU_isReady_97 : decode b_QU_isReady 97 = .ok (.ireturn, 1) := by decide +kernel
theorem d_QU_lastWriteOf_0 : decode b_QU_lastWriteOf 0 = .ok (.aload_n 0, 1) := by decide +kernel
theorem d_QU_lastWriteOf_1 : decode b_QU_lastWriteOf 1 = .ok (.getfield 12, 3) := by decide +kernel
theorem d_QU_lastWriteOf_4 : decode b_QU_lastWriteOf 4 = .ok (.invokevirtual 18, 3) := by decide +kernel
theorem d_QU_lastWriteOf_7 : decode b_QU_lastWriteOf 7 = .ok (.iconst 1, 1) := by decide +kernel
theorem d_QU_lastWriteOf_8 : decode b_QU_lastWriteOf 8 = .ok (.isub, 1) := by decide +kernel
theorem d_QU_lastWriteOf_9 : decode b_QU_lastWriteOf 9 = .ok (.istore_n 2, 1) := by decide +kernel
theorem d_QU_lastWriteOf_10 : decode b_QU_lastWriteOf 10 = .ok (.iload_n 2, 1) := by decide +kernel
theorem d_QU_lastWriteOf_11 : decode b_QU_lastWriteOf 11 = .ok (.ifCond .lt 39, 3) := by decide +kernel
theorem d_QU_lastWriteOf_14 : decode b_QU_lastWriteOf 14 = .ok (.aload_n 0, 1) := by decide +kernel
theorem d_QU_lastWriteOf_15 : decode b_QU_lastWriteOf 15 = .ok (.getfield 12, 3) := by decide +kernel
theorem d_QU_lastWriteOf_18 : decode b_QU_lastWriteOf 18 = .ok (.iload_n 2, 1) := by decide +kernel
theorem d_QU_lastWriteOf_19 : decode b_QU_lastWriteOf 19 = .ok (.invokevirtual 22, 3) := by decide +kernel
theorem d_QU_lastWriteOf_22 : decode b_QU_lastWriteOf 22 = .ok (.checkcast 26, 3) := by decide +kernel
theorem d_QU_lastWriteOf_25 : decode b_QU_lastWriteOf 25 = .ok (.astore_n 3, 1) := by decide +kernel
theorem d_QU_lastWriteOf_26 : decode b_QU_lastWriteOf 26 = .ok (.aload_n 3, 1) := by decide +kernel
theorem d_QU_lastWriteOf_27 : decode b_QU_lastWriteOf 27 = .ok (.getfield 42, 3) := by decide +kernel
theorem d_QU_lastWriteOf_30 : decode b_QU_lastWriteOf 30 = .ok (.iconst 1, 1) := by decide +kernel
theorem d_QU_lastWriteOf_31 : decode b_QU_lastWriteOf 31 = .ok (.if_icmp .ne 13, 3) := by decide +kernel
theorem d_QU_lastWriteOf_34 : decode b_QU_lastWriteOf 34 = .ok (.aload_n 3, 1) := by decide +kernel
theorem d_QU_lastWriteOf_35 : decode b_QU_lastWriteOf 35 = .ok (.getfield 45, 3) := by decide +kernel
theorem d_QU_lastWriteOf_38 : decode b_QU_lastWriteOf 38 = .ok (.iload_n 1, 1) := by decide +kernel
theorem d_QU_lastWriteOf_39 : decode b_QU_lastWriteOf 39 = .ok (.if_icmp .ne 5, 3) := by decide +kernel
theorem d_QU_lastWriteOf_42 : decode b_QU_lastWriteOf 42 = .ok (.aload_n 3, 1) := by decide +kernel
theorem d_QU_lastWriteOf_43 : decode b_QU_lastWriteOf 43 = .ok (.areturn, 1) := by decide +kernel
theorem d_QU_lastWriteOf_44 : decode b_QU_lastWriteOf 44 = .ok (.iinc 2 (-1), 3) := by decide +kernel
theorem d_QU_lastWriteOf_47 : decode b_QU_lastWriteOf 47 = .ok (.goto (-37), 3) := by decide +kernel
theorem d_QU_lastWriteOf_50 : decode b_QU_lastWriteOf 50 = .ok (.aconst_null, 1) := by decide +kernel
theorem d_QU_lastWriteOf_51 : decode b_QU_lastWriteOf 51 = .ok (.areturn, 1) := by decide +kernel
theorem d_QU_ofNumber_0 : decode b_QU_ofNumber 0 = .ok (.iconst 0, 1) := by decide +kernel
theorem d_QU_ofNumber_1 : decode b_QU_ofNumber 1 = .ok (.istore_n 2, 1) := by decide +kernel
theorem d_QU_ofNumber_2 : decode b_QU_ofNumber 2 = .ok (.iload_n 2, 1) := by decide +kernel
theorem d_QU_ofNumber_3 : decode b_QU_ofNumber 3 = .ok (.aload_n 0, 1) := by decide +kernel
theorem d_QU_ofNumber_4 : decode b_QU_ofNumber 4 = .ok (.getfield 12, 3) := by decide +kernel
theorem d_QU_ofNumber_7 : decode b_QU_ofNumber 7 = .ok (.invokevirtual 18, 3) := by decide +kernel
theorem d_QU_ofNumber_10 : decode b_QU_ofNumber 10 = .ok (.if_icmp .ge 39, 3) := by decide +kernel
theorem d_QU_ofNumber_13 : decode b_QU_ofNumber 13 = .ok (.aload_n 0, 1) := by decide +kernel
theorem d_QU_ofNumber_14 : decode b_QU_ofNumber 14 = .ok (.getfield 12, 3) := by decide +kernel
theorem d_QU_ofNumber_17 : decode b_QU_ofNumber 17 = .ok (.iload_n 2, 1) := by decide +kernel
theorem d_QU_ofNumber_18 : decode b_QU_ofNumber 18 = .ok (.invokevirtual 22, 3) := by decide +kernel
theorem d_QU_ofNumber_21 : decode b_QU_ofNumber 21 = .ok (.checkcast 26, 3) := by decide +kernel
theorem d_QU_ofNumber_24 : decode b_QU_ofNumber 24 = .ok (.getfield 38, 3) := by decide +kernel
theorem d_QU_ofNumber_27 : decode b_QU_ofNumber 27 = .ok (.iload_n 1, 1) := by decide +kernel
theorem d_QU_ofNumber_28 : decode b_QU_ofNumber 28 = .ok (.if_icmp .ne 15, 3) := by decide +kernel
theorem d_QU_ofNumber_31 : decode b_QU_ofNumber 31 = .ok (.aload_n 0, 1) := by decide +kernel
theorem d_QU_ofNumber_32 : decode b_QU_ofNumber 32 = .ok (.getfield 12, 3) := by decide +kernel
theorem d_QU_ofNumber_35 : decode b_QU_ofNumber 35 = .ok (.iload_n 2, 1) := by decide +kernel
theorem d_QU_ofNumber_36 : decode b_QU_ofNumber 36 = .ok (.invokevirtual 22, 3) := by decide +kernel
theorem d_QU_ofNumber_39 : decode b_QU_ofNumber 39 = .ok (.checkcast 26, 3) := by decide +kernel
theorem d_QU_ofNumber_42 : decode b_QU_ofNumber 42 = .ok (.areturn, 1) := by decide +kernel
theorem d_QU_ofNumber_43 : decode b_QU_ofNumber 43 = .ok (.iinc 2 1, 3) := by decide +kernel
theorem d_QU_ofNumber_46 : decode b_QU_ofNumber 46 = .ok (.goto (-44), 3) := by decide +kernel
theorem d_QU_ofNumber_49 : decode b_QU_ofNumber 49 = .ok (.aconst_null, 1) := by decide +kernel
theorem d_QU_ofNumber_50 : decode b_QU_ofNumber 50 = .ok (.areturn, 1) := by decide +kernel
theorem d_QU_size_0 : decode b_QU_size 0 = .ok (.aload_n 0, 1) := by decide +kernel
theorem d_QU_size_1 : decode b_QU_size 1 = .ok (.getfield 12, 3) := by decide +kernel
theorem d_QU_size_4 : decode b_QU_size 4 = .ok (.invokevirtual 18, 3) := by decide +kernel
theorem d_QU_size_7 : decode b_QU_size 7 = .ok (.ireturn, 1) := by decide +kernel
theorem d_QU_take_0 : decode b_QU_take 0 = .ok (.iload_n 1, 1) := by decide +kernel
theorem d_QU_take_1 : decode b_QU_take 1 = .ok (.ifCond .lt 14, 3) := by decide +kernel
theorem d_QU_take_4 : decode b_QU_take 4 = .ok (.iload_n 1, 1) := by decide +kernel
theorem d_QU_take_5 : decode b_QU_take 5 = .ok (.aload_n 0, 1) := by decide +kernel
theorem d_QU_take_6 : decode b_QU_take 6 = .ok (.getfield 12, 3) := by decide +kernel
theorem d_QU_take_9 : decode b_QU_take 9 = .ok (.invokevirtual 18, 3) := by decide +kernel
theorem d_QU_take_12 : decode b_QU_take 12 = .ok (.if_icmp .lt 7, 3) := by decide +kernel
theorem d_QU_take_15 : decode b_QU_take 15 = .ok (.aconst_null, 1) := by decide +kernel
theorem d_QU_take_16 : decode b_QU_take 16 = .ok (.goto 14, 3) := by decide +kernel
theorem d_QU_take_19 : decode b_QU_take 19 = .ok (.aload_n 0, 1) := by decide +kernel
theorem d_QU_take_20 : decode b_QU_take 20 = .ok (.getfield 12, 3) := by decide +kernel
theorem d_QU_take_23 : decode b_QU_take 23 = .ok (.iload_n 1, 1) := by decide +kernel
theorem d_QU_take_24 : decode b_QU_take 24 = .ok (.invokevirtual 32, 3) := by decide +kernel
theorem d_QU_take_27 : decode b_QU_take 27 = .ok (.checkcast 26, 3) := by decide +kernel
theorem d_QU_take_30 : decode b_QU_take 30 = .ok (.areturn, 1) := by decide +kernel
theorem d_RQ_init_0 : decode b_RQ_init 0 = .ok (.aload_n 0, 1) := by decide +kernel
theorem d_RQ_init_1 : decode b_RQ_init 1 = .ok (.invokespecial 1, 3) := by decide +kernel
theorem d_RQ_init_4 : decode b_RQ_init 4 = .ok (.aload_n 0, 1) := by decide +kernel
theorem d_RQ_init_5 : decode b_RQ_init 5 = .ok (.iload_n 1, 1) := by decide +kernel
theorem d_RQ_init_6 : decode b_RQ_init 6 = .ok (.putfield 7, 3) := by decide +kernel
theorem d_RQ_init_9 : decode b_RQ_init 9 = .ok (.aload_n 0, 1) := by decide +kernel
theorem d_RQ_init_10 : decode b_RQ_init 10 = .ok (.iload_n 2, 1) := by decide +kernel
theorem d_RQ_init_11 : decode b_RQ_init 11 = .ok (.putfield 13, 3) := by decide +kernel
theorem d_RQ_init_14 : decode b_RQ_init 14 = .ok (.aload_n 0, 1) := by decide +kernel
theorem d_RQ_init_15 : decode b_RQ_init 15 = .ok (.iload_n 3, 1) := by decide +kernel
theorem d_RQ_init_16 : decode b_RQ_init 16 = .ok (.putfield 16, 3) := by decide +kernel
theorem d_RQ_init_19 : decode b_RQ_init 19 = .ok (.aload_n 0, 1) := by decide +kernel
theorem d_RQ_init_20 : decode b_RQ_init 20 = .ok (.iload 4, 2) := by decide +kernel
theorem d_RQ_init_22 : decode b_RQ_init 22 = .ok (.putfield 19, 3) := by decide +kernel
theorem d_RQ_init_25 : decode b_RQ_init 25 = .ok (.aload_n 0, 1) := by decide +kernel
theorem d_RQ_init_26 : decode b_RQ_init 26 = .ok (.iload 5, 2) := by decide +kernel
theorem d_RQ_init_28 : decode b_RQ_init 28 = .ok (.putfield 22, 3) := by decide +kernel
theorem d_RQ_init_31 : decode b_RQ_init 31 = .ok (.return_, 1) := by decide +kernel
