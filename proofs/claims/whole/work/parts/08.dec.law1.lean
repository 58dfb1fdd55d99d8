theorem d_LW_newest_9 : decode b_LW_newest 9 = .ok (.goto 6, 3) := by decide +kernel
theorem d_LW_newest_12 : decode b_LW_newest 12 = .ok (.astore_n 3, 1) := by decide +kernel
theorem d_LW_newest_13 : decode b_LW_newest 13 = .ok (.iconst 1, 1) := by decide +kernel
theorem d_LW_newest_14 : decode b_LW_newest 14 = .ok (.ireturn, 1) := by decide +kernel
theorem d_LW_newest_15 : decode b_LW_newest 15 = .ok (.iconst 0, 1) := by decide +kernel
theorem d_LW_newest_16 : decode b_LW_newest 16 = .ok (.ireturn, 1) := by decide +kernel
theorem d_LW_policy_0 : decode b_LW_policy 0 = .ok (.aload_n 2, 1) := by decide +kernel
theorem d_LW_policy_1 : decode b_LW_policy 1 = .ok (.iconst 0, 1) := by decide +kernel
theorem d_LW_policy_2 : decode b_LW_policy 2 = .ok (.aload_n 0, 1) := by decide +kernel
theorem d_LW_policy_3 : decode b_LW_policy 3 = .ok (.iload_n 1, 1) := by decide +kernel
theorem d_LW_policy_4 : decode b_LW_policy 4 = .ok (.invokevirtual 30, 3) := by decide +kernel
theorem d_LW_policy_7 : decode b_LW_policy 7 = .ok (.i2l, 1) := by decide +kernel
theorem d_LW_policy_8 : decode b_LW_policy 8 = .ok (.lastore, 1) := by decide +kernel
theorem d_LW_policy_9 : decode b_LW_policy 9 = .ok (.goto 6, 3) := by decide +kernel
theorem d_LW_policy_12 : decode b_LW_policy 12 = .ok (.astore_n 3, 1) := by decide +kernel
theorem d_LW_policy_13 : decode b_LW_policy 13 = .ok (.iconst 1, 1) := by decide +kernel
theorem d_LW_policy_14 : decode b_LW_policy 14 = .ok (.ireturn, 1) := by decide +kernel
theorem d_LW_policy_15 : decode b_LW_policy 15 = .ok (.iconst 0, 1) := by decide +kernel
theorem d_LW_policy_16 : decode b_LW_policy 16 = .ok (.ireturn, 1) := by decide +kernel
theorem d_LW_save_0 : decode b_LW_save 0 = .ok (.aload_n 3, 1) := by decide +kernel
theorem d_LW_save_1 : decode b_LW_save 1 = .ok (.iconst 0, 1) := by decide +kernel
theorem d_LW_save_2 : decode b_LW_save 2 = .ok (.aload_n 0, 1) := by decide +kernel
theorem d_LW_save_3 : decode b_LW_save 3 = .ok (.iload_n 1, 1) := by decide +kernel
theorem d_LW_save_4 : decode b_LW_save 4 = .ok (.iload_n 2, 1) := by decide +kernel
theorem d_LW_save_5 : decode b_LW_save 5 = .ok (.invokevirtual 17, 3) := by decide +kernel
theorem d_LW_save_8 : decode b_LW_save 8 = .ok (.i2l, 1) := by decide +kernel
theorem d_LW_save_9 : decode b_LW_save 9 = .ok (.lastore, 1) := by decide +kernel
theorem d_LW_save_10 : decode b_LW_save 10 = .ok (.goto 11, 3) := by decide +kernel
theorem d_LW_save_13 : decode b_LW_save 13 = .ok (.astore 4, 2) := by decide +kernel
theorem d_LW_save_15 : decode b_LW_save 15 = .ok (.iconst 1, 1) := by decide +kernel
theorem d_LW_save_16 : decode b_LW_save 16 = .ok (.ireturn, 1) := by decide +kernel
theorem d_LW_save_17 : decode b_LW_save 17 = .ok (.astore 4, 2) := by decide +kernel
theorem d_LW_save_19 : decode b_LW_save 19 = .ok (.iconst 2, 1) := by decide +kernel
theorem d_LW_save_20 : decode b_LW_save 20 = .ok (.ireturn, 1) := by decide +kernel
theorem d_LW_save_21 : decode b_LW_save 21 = .ok (.iconst 0, 1) := by decide +kernel
theorem d_LW_save_22 : decode b_LW_save 22 = .ok (.ireturn, 1) := by decide +kernel
theorem d_LW_step_0 : decode b_LW_step 0 = .ok (.aload_n 2, 1) := by decide +kernel
theorem d_LW_step_1 : decode b_LW_step 1 = .ok (.iconst 0, 1) := by decide +kernel
theorem d_LW_step_2 : decode b_LW_step 2 = .ok (.aload_n 0, 1) := by decide +kernel
theorem d_LW_step_3 : decode b_LW_step 3 = .ok (.iload_n 1, 1) := by decide +kernel
theorem d_LW_step_4 : decode b_LW_step 4 = .ok (.invokevirtual 25, 3) := by decide +kernel
theorem d_LW_step_7 : decode b_LW_step 7 = .ok (.i2l, 1) := by decide +kernel
theorem d_LW_step_8 : decode b_LW_step 8 = .ok (.lastore, 1) := by decide +kernel
theorem d_LW_step_9 : decode b_LW_step 9 = .ok (.goto 6, 3) := by decide +kernel
theorem d_LW_step_12 : decode b_LW_step 12 = .ok (.astore_n 3, 1) := by decide +kernel
theorem d_LW_step_13 : decode b_LW_step 13 = .ok (.iconst 1, 1) := by decide +kernel
theorem d_LW_step_14 : decode b_LW_step 14 = .ok (.ireturn, 1) := by decide +kernel
theorem d_LW_step_15 : decode b_LW_step 15 = .ok (.iconst 0, 1) := by decide +kernel
theorem d_LW_step_16 : decode b_LW_step 16 = .ok (.ireturn, 1) := by decide +kernel
theorem d_LW_sync_0 : decode b_LW_sync 0 = .ok (.aload_n 1, 1) := by decide +kernel
theorem d_LW_sync_1 : decode b_LW_sync 1 = .ok (.iconst 0, 1) := by decide +kernel
theorem d_LW_sync_2 : decode b_LW_sync 2 = .ok (.aload_n 0, 1) := by decide +kernel
theorem d_LW_sync_3 : decode b_LW_sync 3 = .ok (.invokevirtual 21, 3) := by decide +kernel
theorem d_LW_sync_6 : decode b_LW_sync 6 = .ok (.i2l, 1) := by decide +kernel
theorem d_LW_sync_7 : decode b_LW_sync 7 = .ok (.lastore, 1) := by decide +kernel
theorem d_LW_sync_8 : decode b_LW_sync 8 = .ok (.goto 6, 3) := by decide +kernel
theorem d_LW_sync_11 : decode b_LW_sync 11 = .ok (.astore_n 2, 1) := by decide +kernel
theorem d_LW_sync_12 : decode b_LW_sync 12 = .ok (.iconst 1, 1) := by decide +kernel
theorem d_LW_sync_13 : decode b_LW_sync 13 = .ok (.ireturn, 1) := by decide +kernel
theorem d_LW_sync_14 : decode b_LW_sync 14 = .ok (.iconst 0, 1) := by decide +kernel
theorem d_LW_sync_15 : decode b_LW_sync 15 = .ok (.ireturn, 1) := by decide +kernel
