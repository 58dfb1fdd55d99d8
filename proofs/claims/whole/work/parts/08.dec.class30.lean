theorem d_BL_buffer_0 : decode b_BL_buffer 0 = .ok (.iload_n 1, 1) := by decide +kernel
theorem d_BL_buffer_1 : decode b_BL_buffer 1 = .ok (.invokestatic 23, 3) := by decide +kernel
theorem d_BL_buffer_4 : decode b_BL_buffer 4 = .ok (.aload_n 0, 1) := by decide +kernel
theorem d_BL_buffer_5 : decode b_BL_buffer 5 = .ok (.getfield 10, 3) := by decide +kernel
theorem d_BL_buffer_8 : decode b_BL_buffer 8 = .ok (.iload_n 1, 1) := by decide +kernel
theorem d_BL_buffer_9 : decode b_BL_buffer 9 = .ok (.invokevirtual 30, 3) := by decide +kernel
theorem d_BL_buffer_12 : decode b_BL_buffer 12 = .ok (.astore_n 2, 1) := by decide +kernel
theorem d_BL_buffer_13 : decode b_BL_buffer 13 = .ok (.aload_n 2, 1) := by decide +kernel
theorem d_BL_buffer_14 : decode b_BL_buffer 14 = .ok (.ifnonnull 5, 3) := by decide +kernel
theorem d_BL_buffer_17 : decode b_BL_buffer 17 = .ok (.iconst 0, 1) := by decide +kernel
theorem d_BL_buffer_18 : decode b_BL_buffer 18 = .ok (.ireturn, 1) := by decide +kernel
theorem d_BL_buffer_19 : decode b_BL_buffer 19 = .ok (.aload_n 2, 1) := by decide +kernel
theorem d_BL_buffer_20 : decode b_BL_buffer 20 = .ok (.getfield 70, 3) := by decide +kernel
theorem d_BL_buffer_23 : decode b_BL_buffer 23 = .ok (.ifCond .eq 7, 3) := by decide +kernel
theorem d_BL_buffer_26 : decode b_BL_buffer 26 = .ok (.iconst 2, 1) := by decide +kernel
theorem d_BL_buffer_27 : decode b_BL_buffer 27 = .ok (.goto 4, 3) := by decide +kernel
theorem d_BL_buffer_30 : decode b_BL_buffer 30 = .ok (.iconst 1, 1) := by decide +kernel
theorem d_BL_buffer_31 : decode b_BL_buffer 31 = .ok (.ireturn, 1) := by decide +kernel
theorem d_BL_crash_0 : decode b_BL_crash 0 = .ok (.iconst 0, 1) := by decide +kernel
theorem d_BL_crash_1 : decode b_BL_crash 1 = .ok (.istore_n 1, 1) := by decide +kernel
theorem d_BL_crash_2 : decode b_BL_crash 2 = .ok (.iconst 0, 1) := by decide +kernel
theorem d_BL_crash_3 : decode b_BL_crash 3 = .ok (.istore_n 2, 1) := by decide +kernel
theorem d_BL_crash_4 : decode b_BL_crash 4 = .ok (.iload_n 2, 1) := by decide +kernel
theorem d_BL_crash_5 : decode b_BL_crash 5 = .ok (.sipush 256, 3) := by decide +kernel
theorem d_BL_crash_8 : decode b_BL_crash 8 = .ok (.if_icmp .ge 28, 3) := by decide +kernel
theorem d_BL_crash_11 : decode b_BL_crash 11 = .ok (.aload_n 0, 1) := by decide +kernel
theorem d_BL_crash_12 : decode b_BL_crash 12 = .ok (.iload_n 2, 1) := by decide +kernel
theorem d_BL_crash_13 : decode b_BL_crash 13 = .ok (.invokevirtual 106, 3) := by decide +kernel
theorem d_BL_crash_16 : decode b_BL_crash 16 = .ok (.aload_n 0, 1) := by decide +kernel
theorem d_BL_crash_17 : decode b_BL_crash 17 = .ok (.getfield 19, 3) := by decide +kernel
theorem d_BL_crash_20 : decode b_BL_crash 20 = .ok (.iload_n 2, 1) := by decide +kernel
theorem d_BL_crash_21 : decode b_BL_crash 21 = .ok (.invokevirtual 110, 3) := by decide +kernel
theorem d_BL_crash_24 : decode b_BL_crash 24 = .ok (.if_icmp .eq 6, 3) := by decide +kernel
theorem d_BL_crash_27 : decode b_BL_crash 27 = .ok (.iinc 1 1, 3) := by decide +kernel
theorem d_BL_crash_30 : decode b_BL_crash 30 = .ok (.iinc 2 1, 3) := by decide +kernel
theorem d_BL_crash_33 : decode b_BL_crash 33 = .ok (.goto (-29), 3) := by decide +kernel
theorem d_BL_crash_36 : decode b_BL_crash 36 = .ok (.aload_n 0, 1) := by decide +kernel
theorem d_BL_crash_37 : decode b_BL_crash 37 = .ok (.getfield 10, 3) := by decide +kernel
theorem d_BL_crash_40 : decode b_BL_crash 40 = .ok (.invokevirtual 113, 3) := by decide +kernel
theorem d_BL_crash_43 : decode b_BL_crash 43 = .ok (.aload_n 0, 1) := by decide +kernel
theorem d_BL_crash_44 : decode b_BL_crash 44 = .ok (.getfield 19, 3) := by decide +kernel
theorem d_BL_crash_47 : decode b_BL_crash 47 = .ok (.getfield 116, 3) := by decide +kernel
theorem d_BL_crash_50 : decode b_BL_crash 50 = .ok (.invokevirtual 120, 3) := by decide +kernel
theorem d_BL_crash_53 : decode b_BL_crash 53 = .ok (.aload_n 0, 1) := by decide +kernel
theorem d_BL_crash_54 : decode b_BL_crash 54 = .ok (.getfield 19, 3) := by decide +kernel
theorem d_BL_crash_57 : decode b_BL_crash 57 = .ok (.invokevirtual 123, 3) := by decide +kernel
theorem d_BL_crash_60 : decode b_BL_crash 60 = .ok (.iload_n 1, 1) := by decide +kernel
theorem d_BL_crash_61 : decode b_BL_crash 61 = .ok (.ireturn, 1) := by decide +kernel
theorem d_BL_drain_0 : decode b_BL_drain 0 = .ok (.aload_n 0, 1) := by decide +kernel
theorem d_BL_drain_1 : decode b_BL_drain 1 = .ok (.getfield 19, 3) := by decide +kernel
theorem d_BL_drain_4 : decode b_BL_drain 4 = .ok (.getfield 94, 3) := by decide +kernel
theorem d_BL_drain_7 : decode b_BL_drain 7 = .ok (.istore_n 1, 1) := by decide +kernel
theorem d_BL_drain_8 : decode b_BL_drain 8 = .ok (.iconst 0, 1) := by decide +kernel
theorem d_BL_drain_9 : decode b_BL_drain 9 = .ok (.istore_n 2, 1) := by decide +kernel
theorem d_BL_drain_10 : decode b_BL_drain 10 = .ok (.iload_n 2, 1) := by decide +kernel
theorem d_BL_drain_11 : decode b_BL_drain 11 = .ok (.bipush 40, 2) := by decide +kernel
theorem d_BL_drain_13 : decode b_BL_drain 13 = .ok (.if_icmp .gt 26, 3) := by decide +kernel
theorem d_BL_drain_16 : decode b_BL_drain 16 = .ok (.aload_n 0, 1) := by decide +kernel
theorem d_BL_drain_17 : decode b_BL_drain 17 = .ok (.getfield 19, 3) := by decide +kernel
theorem d_BL_drain_20 : decode b_BL_drain 20 = .ok (.invokevirtual 97, 3) := by decide +kernel
theorem d_BL_drain_23 : decode b_BL_drain 23 = .ok (.ifCond .eq 16, 3) := by decide +kernel
theorem d_BL_drain_26 : decode b_BL_drain 26 = .ok (.aload_n 0, 1) := by decide +kernel
theorem d_BL_drain_27 : decode b_BL_drain 27 = .ok (.getfield 19, 3) := by decide +kernel
theorem d_BL_drain_30 : decode b_BL_drain 30 = .ok (.invokevirtual 51, 3) := by decide +kernel
theorem d_BL_drain_33 : decode b_BL_drain 33 = .ok (.iinc 2 1, 3) := by decide +kernel
theorem d_BL_drain_36 : decode b_BL_drain 36 = .ok (.goto (-26), 3) := by decide +kernel
theorem d_BL_drain_39 : decode b_BL_drain 39 = .ok (.aload_n 0, 1) := by decide +kernel
theorem d_BL_drain_40 : decode b_BL_drain 40 = .ok (.getfield 19, 3) := by decide +kernel
theorem d_BL_drain_43 : decode b_BL_drain 43 = .ok (.getfield 94, 3) := by decide +kernel
theorem d_BL_drain_46 : decode b_BL_drain 46 = .ok (.iload_n 1, 1) := by decide +kernel
theorem d_BL_drain_47 : decode b_BL_drain 47 = .ok (.isub, 1) := by decide +kernel
theorem d_BL_drain_48 : decode b_BL_drain 48 = .ok (.ireturn, 1) := by decide +kernel
theorem d_BL_init_0 : decode b_BL_init 0 = .ok (.aload_n 0, 1) := by decide +kernel
theorem d_BL_init_1 : decode b_BL_init 1 = .ok (.invokespecial 1, 3) := by decide +kernel
theorem d_BL_init_4 : decode b_BL_init 4 = .ok (.aload_n 0, 1) := by decide +kernel
theorem d_BL_init_5 : decode b_BL_init 5 = .ok (.new 7, 3) := by decide +kernel
theorem d_BL_init_8 : decode b_BL_init 8 = .ok (.dup, 1) := by decide +kernel
theorem d_BL_init_9 : decode b_BL_init 9 = .ok (.invokespecial 9, 3) := by decide +kernel
theorem d_BL_init_12 : decode b_BL_init 12 = .ok (.putfield 10, 3) := by decide +kernel
theorem d_BL_init_15 : decode b_BL_init 15 = .ok (.aload_n 0, 1) := by decide +kernel
theorem d_BL_init_16 : decode b_BL_init 16 = .ok (.new 16, 3) := by decide +kernel
theorem d_BL_init_19 : decode b_BL_init 19 = .ok (.dup, 1) := by decide +kernel
theorem d_BL_init_20 : decode b_BL_init 20 = .ok (.invokespecial 18, 3) := by decide +kernel
theorem d_BL_init_23 : decode b_BL_init 23 = .ok (.putfield 19, 3) := by decide +kernel
theorem d_BL_init_26 : decode b_BL_init 26 = .ok (.return_, 1) := by decide +kernel
theorem d_BL_liveRequest_0 : decode b_BL_liveRequest 0 = .ok (.aload_n 0, 1) := by decide +kernel
theorem d_BL_liveRequest_1 : decode b_BL_liveRequest 1 = .ok (.getfield 19, 3) := by decide +kernel
theorem d_BL_liveRequest_4 : decode b_BL_liveRequest 4 = .ok (.getfield 151, 3) := by decide +kernel
theorem d_BL_liveRequest_7 : decode b_BL_liveRequest 7 = .ok (.astore_n 2, 1) := by decide +kernel
theorem d_BL_liveRequest_8 : decode b_BL_liveRequest 8 = .ok (.aload_n 2, 1) := by decide +kernel
theorem d_BL_liveRequest_9 : decode b_BL_liveRequest 9 = .ok (.ifnull 13, 3) := by decide +kernel
theorem d_BL_liveRequest_12 : decode b_BL_liveRequest 12 = .ok (.aload_n 2, 1) := by decide +kernel
theorem d_BL_liveRequest_13 : decode b_BL_liveRequest 13 = .ok (.getfield 135, 3) := by decide +kernel
theorem d_BL_liveRequest_16 : decode b_BL_liveRequest 16 = .ok (.iload_n 1, 1) := by decide +kernel
theorem d_BL_liveRequest_17 : decode b_BL_liveRequest 17 = .ok (.if_icmp .ne 5, 3) := by decide +kernel
theorem d_BL_liveRequest_20 : decode b_BL_liveRequest 20 = .ok (.aload_n 2, 1) := by decide +kernel
theorem d_BL_liveRequest_21 : decode b_BL_liveRequest 21 = .ok (.areturn, 1) := by decide +kernel
theorem d_BL_liveRequest_22 : decode b_BL_liveRequest 22 = .ok (.aload_n 0, 1) := by decide +kernel
theorem d_BL_liveRequest_23 : decode b_BL_liveRequest 23 = .ok (.getfield 19, 3) := by decide +kernel
theorem d_BL_liveRequest_26 : decode b_BL_liveRequest 26 = .ok (.getfield 116, 3) := by decide +kernel
theorem d_BL_liveRequest_29 : decode b_BL_liveRequest 29 = .ok (.iload_n 1, 1) := by decide +kernel
theorem d_BL_liveRequest_30 : decode b_BL_liveRequest 30 = .ok (.invokevirtual 197, 3) := by decide +kernel
theorem d_BL_liveRequest_33 : decode b_BL_liveRequest 33 = .ok (.areturn, 1) := by decide +kernel
theorem d_BL_load_0 : decode b_BL_load 0 = .ok (.iload_n 1, 1) := by decide +kernel
theorem d_BL_load_1 : decode b_BL_load 1 = .ok (.invokestatic 23, 3) := by decide +kernel
theorem d_BL_load_4 : decode b_BL_load 4 = .ok (.aload_n 0, 1) := by decide +kernel
theorem d_BL_load_5 : decode b_BL_load 5 = .ok (.iconst 2, 1) := by decide +kernel
theorem d_BL_load_6 : decode b_BL_load 6 = .ok (.invokevirtual 27, 3) := by decide +kernel
theorem d_BL_load_9 : decode b_BL_load 9 = .ok (.aload_n 0, 1) := by decide +kernel
theorem d_BL_load_10 : decode b_BL_load 10 = .ok (.getfield 10, 3) := by decide +kernel
theorem d_BL_load_13 : decode b_BL_load 13 = .ok (.iload_n 1, 1) := by decide +kernel
theorem d_BL_load_14 : decode b_BL_load 14 = .ok (.invokevirtual 30, 3) := by decide +kernel
theorem d_BL_load_17 : decode b_BL_load 17 = .ok (.astore_n 2, 1) := by decide +kernel
theorem d_BL_load_18 : decode b_BL_load 18 = .ok (.aload_n 2, 1) := by decide +kernel
theorem d_BL_load_19 : decode b_BL_load 19 = .ok (.ifnonnull 71, 3) := by decide +kernel
theorem d_BL_load_22 : decode b_BL_load 22 = .ok (.aload_n 0, 1) := by decide +kernel
theorem d_BL_load_23 : decode b_BL_load 23 = .ok (.dup, 1) := by decide +kernel
theorem d_BL_load_24 : decode b_BL_load 24 = .ok (.getfield 34, 3) := by decide +kernel
theorem d_BL_load_27 : decode b_BL_load 27 = .ok (.iconst 1, 1) := by decide +kernel
theorem d_BL_load_28 : decode b_BL_load 28 = .ok (.iadd, 1) := by decide +kernel
theorem d_BL_load_29 : decode b_BL_load 29 = .ok (.putfield 34, 3) := by decide +kernel
theorem d_BL_load_32 : decode b_BL_load 32 = .ok (.aload_n 0, 1) := by decide +kernel
theorem d_BL_load_33 : decode b_BL_load 33 = .ok (.invokevirtual 38, 3) := by decide +kernel
theorem d_BL_load_36 : decode b_BL_load 36 = .ok (.aload_n 0, 1) := by decide +kernel
theorem d_BL_load_37 : decode b_BL_load 37 = .ok (.iconst 0, 1) := by decide +kernel
theorem d_BL_load_38 : decode b_BL_load 38 = .ok (.iload_n 1, 1) := by decide +kernel
theorem d_BL_load_39 : decode b_BL_load 39 = .ok (.iconst 0, 1) := by decide +kernel
theorem d_BL_load_40 : decode b_BL_load 40 = .ok (.invokevirtual 41, 3) := by decide +kernel
theorem d_BL_load_43 : decode b_BL_load 43 = .ok (.astore_n 3, 1) := by decide +kernel
theorem d_BL_load_44 : decode b_BL_load 44 = .ok (.iconst 0, 1) := by decide +kernel
theorem d_BL_load_45 : decode b_BL_load 45 = .ok (.istore 4, 2) := by decide +kernel
theorem d_BL_load_47 : decode b_BL_load 47 = .ok (.iload 4, 2) := by decide +kernel
theorem d_BL_load_49 : decode b_BL_load 49 = .ok (.bipush 40, 2) := by decide +kernel
theorem d_BL_load_51 : decode b_BL_load 51 = .ok (.if_icmp .gt 23, 3) := by decide +kernel
theorem d_BL_load_54 : decode b_BL_load 54 = .ok (.aload_n 3, 1) := by decide +kernel
theorem d_BL_load_55 : decode b_BL_load 55 = .ok (.getfield 45, 3) := by decide +kernel
theorem d_BL_load_58 : decode b_BL_load 58 = .ok (.ifCond .ne 16, 3) := by decide +kernel
theorem d_BL_load_61 : decode b_BL_load 61 = .ok (.aload_n 0, 1) := by decide +kernel
theorem d_BL_load_62 : decode b_BL_load 62 = .ok (.getfield 19, 3) := by decide +kernel
theorem d_BL_load_65 : decode b_BL_load 65 = .ok (.invokevirtual 51, 3) := by decide +kernel
theorem d_BL_load_68 : decode b_BL_load 68 = .ok (.iinc 4 1, 3) := by decide +kernel
theorem d_BL_load_71 : decode b_BL_load 71 = .ok (.goto (-24), 3) := by decide +kernel
theorem d_BL_load_74 : decode b_BL_load 74 = .ok (.new 54, 3) := by decide +kernel
theorem d_BL_load_77 : decode b_BL_load 77 = .ok (.dup, 1) := by decide +kernel
theorem d_BL_load_78 : decode b_BL_load 78 = .ok (.iload_n 1, 1) := by decide +kernel
theorem d_BL_load_79 : decode b_BL_load 79 = .ok (.aload_n 3, 1) := by decide +kernel
theorem d_BL_load_80 : decode b_BL_load 80 = .ok (.getfield 56, 3) := by decide +kernel
theorem d_BL_load_83 : decode b_BL_load 83 = .ok (.invokespecial 59, 3) := by decide +kernel
theorem d_BL_load_86 : decode b_BL_load 86 = .ok (.astore_n 2, 1) := by decide +kernel
theorem d_BL_load_87 : decode b_BL_load 87 = .ok (.goto 13, 3) := by decide +kernel
theorem d_BL_load_90 : decode b_BL_load 90 = .ok (.aload_n 0, 1) := by decide +kernel
theorem d_BL_load_91 : decode b_BL_load 91 = .ok (.dup, 1) := by decide +kernel
theorem d_BL_load_92 : decode b_BL_load 92 = .ok (.getfield 62, 3) := by decide +kernel
theorem d_BL_load_95 : decode b_BL_load 95 = .ok (.iconst 1, 1) := by decide +kernel
theorem d_BL_load_96 : decode b_BL_load 96 = .ok (.iadd, 1) := by decide +kernel
theorem d_BL_load_97 : decode b_BL_load 97 = .ok (.putfield 62, 3) := by decide +kernel
theorem d_BL_load_100 : decode b_BL_load 100 = .ok (.aload_n 0, 1) := by decide +kernel
theorem d_BL_load_101 : decode b_BL_load 101 = .ok (.getfield 10, 3) := by decide +kernel
theorem d_BL_load_104 : decode b_BL_load 104 = .ok (.aload_n 2, 1) := by decide +kernel
theorem d_BL_load_105 : decode b_BL_load 105 = .ok (.invokevirtual 65, 3) := by decide +kernel
theorem d_BL_load_108 : decode b_BL_load 108 = .ok (.aload_n 2, 1) := by decide +kernel
theorem d_BL_load_109 : decode b_BL_load 109 = .ok (.getfield 69, 3) := by decide +kernel
theorem d_BL_load_112 : decode b_BL_load 112 = .ok (.ireturn, 1) := by decide +kernel
theorem d_BL_makeBufferRoom_0 : decode b_BL_makeBufferRoom 0 = .ok (.aload_n 0, 1) := by decide +kernel
theorem d_BL_makeBufferRoom_1 : decode b_BL_makeBufferRoom 1 = .ok (.getfield 10, 3) := by decide +kernel
theorem d_BL_makeBufferRoom_4 : decode b_BL_makeBufferRoom 4 = .ok (.invokevirtual 73, 3) := by decide +kernel
theorem d_BL_makeBufferRoom_7 : decode b_BL_makeBufferRoom 7 = .ok (.bipush 10, 2) := by decide +kernel
theorem d_BL_makeBufferRoom_9 : decode b_BL_makeBufferRoom 9 = .ok (.if_icmp .ge 4, 3) := by decide +kernel
theorem d_BL_makeBufferRoom_12 : decode b_BL_makeBufferRoom 12 = .ok (.return_, 1) := by decide +kernel
theorem d_BL_makeBufferRoom_13 : decode b_BL_makeBufferRoom 13 = .ok (.aload_n 0, 1) := by decide +kernel
theorem d_BL_makeBufferRoom_14 : decode b_BL_makeBufferRoom 14 = .ok (.getfield 10, 3) := by decide +kernel
theorem d_BL_makeBufferRoom_17 : decode b_BL_makeBufferRoom 17 = .ok (.invokevirtual 181, 3) := by decide +kernel
theorem d_BL_makeBufferRoom_20 : decode b_BL_makeBufferRoom 20 = .ok (.astore_n 1, 1) := by decide +kernel
theorem d_BL_makeBufferRoom_21 : decode b_BL_makeBufferRoom 21 = .ok (.aload_n 1, 1) := by decide +kernel
theorem d_BL_makeBufferRoom_22 : decode b_BL_makeBufferRoom 22 = .ok (.ifnonnull 4, 3) := by decide +kernel
theorem d_BL_makeBufferRoom_25 : decode b_BL_makeBufferRoom 25 = .ok (.return_, 1) := by decide +kernel
theorem d_BL_makeBufferRoom_26 : decode b_BL_makeBufferRoom 26 = .ok (.aload_n 0, 1) := by decide +kernel
theorem d_BL_makeBufferRoom_27 : decode b_BL_makeBufferRoom 27 = .ok (.dup, 1) := by decide +kernel
theorem d_BL_makeBufferRoom_28 : decode b_BL_makeBufferRoom 28 = .ok (.getfield 159, 3) := by decide +kernel
theorem d_BL_makeBufferRoom_31 : decode b_BL_makeBufferRoom 31 = .ok (.iconst 1, 1) := by decide +kernel
theorem d_BL_makeBufferRoom_32 : decode b_BL_makeBufferRoom 32 = .ok (.iadd, 1) := by decide +kernel
theorem d_BL_makeBufferRoom_33 : decode b_BL_makeBufferRoom 33 = .ok (.putfield 159, 3) := by decide +kernel
theorem d_BL_makeBufferRoom_36 : decode b_BL_makeBufferRoom 36 = .ok (.aload_n 1, 1) := by decide +kernel
theorem d_BL_makeBufferRoom_37 : decode b_BL_makeBufferRoom 37 = .ok (.getfield 70, 3) := by decide +kernel
theorem d_BL_makeBufferRoom_40 : decode b_BL_makeBufferRoom 40 = .ok (.ifCond .eq 8, 3) := by decide +kernel
theorem d_BL_makeBufferRoom_43 : decode b_BL_makeBufferRoom 43 = .ok (.aload_n 0, 1) := by decide +kernel
theorem d_BL_makeBufferRoom_44 : decode b_BL_makeBufferRoom 44 = .ok (.aload_n 1, 1) := by decide +kernel
theorem d_BL_makeBufferRoom_45 : decode b_BL_makeBufferRoom 45 = .ok (.invokevirtual 81, 3) := by decide +kernel
theorem d_BL_makeBufferRoom_48 : decode b_BL_makeBufferRoom 48 = .ok (.return_, 1) := by decide +kernel
theorem d_BL_makeRequest_0 : decode b_BL_makeRequest 0 = .ok (.new 46, 3) := by decide +kernel
theorem d_BL_makeRequest_3 : decode b_BL_makeRequest 3 = .ok (.dup, 1) := by decide +kernel
theorem d_BL_makeRequest_4 : decode b_BL_makeRequest 4 = .ok (.aload_n 0, 1) := by decide +kernel
theorem d_BL_makeRequest_5 : decode b_BL_makeRequest 5 = .ok (.getfield 187, 3) := by decide +kernel
theorem d_BL_makeRequest_8 : decode b_BL_makeRequest 8 = .ok (.iload_n 1, 1) := by decide +kernel
theorem d_BL_makeRequest_9 : decode b_BL_makeRequest 9 = .ok (.iload_n 2, 1) := by decide +kernel
theorem d_BL_makeRequest_10 : decode b_BL_makeRequest 10 = .ok (.iload_n 3, 1) := by decide +kernel
theorem d_BL_makeRequest_11 : decode b_BL_makeRequest 11 = .ok (.aload_n 0, 1) := by decide +kernel
theorem d_BL_makeRequest_12 : decode b_BL_makeRequest 12 = .ok (.getfield 19, 3) := by decide +kernel
theorem d_BL_makeRequest_15 : decode b_BL_makeRequest 15 = .ok (.getfield 94, 3) := by decide +kernel
theorem d_BL_makeRequest_18 : decode b_BL_makeRequest 18 = .ok (.invokespecial 190, 3) := by decide +kernel
theorem d_BL_makeRequest_21 : decode b_BL_makeRequest 21 = .ok (.astore 4, 2) := by decide +kernel
theorem d_BL_makeRequest_23 : decode b_BL_makeRequest 23 = .ok (.aload_n 0, 1) := by decide +kernel
theorem d_BL_makeRequest_24 : decode b_BL_makeRequest 24 = .ok (.dup, 1) := by decide +kernel
theorem d_BL_makeRequest_25 : decode b_BL_makeRequest 25 = .ok (.getfield 187, 3) := by decide +kernel
theorem d_BL_makeRequest_28 : decode b_BL_makeRequest 28 = .ok (.iconst 1, 1) := by decide +kernel
theorem d_BL_makeRequest_29 : decode b_BL_makeRequest 29 = .ok (.iadd, 1) := by decide +kernel
theorem d_BL_makeRequest_30 : decode b_BL_makeRequest 30 = .ok (.putfield 187, 3) := by decide +kernel
theorem d_BL_makeRequest_33 : decode b_BL_makeRequest 33 = .ok (.aload_n 0, 1) := by decide +kernel
theorem d_BL_makeRequest_34 : decode b_BL_makeRequest 34 = .ok (.getfield 19, 3) := by decide +kernel
theorem d_BL_makeRequest_37 : decode b_BL_makeRequest 37 = .ok (.getfield 116, 3) := by decide +kernel
theorem d_BL_makeRequest_40 : decode b_BL_makeRequest 40 = .ok (.aload 4, 2) := by decide +kernel
theorem d_BL_makeRequest_42 : decode b_BL_makeRequest 42 = .ok (.invokevirtual 193, 3) := by decide +kernel
theorem d_BL_makeRequest_45 : decode b_BL_makeRequest 45 = .ok (.aload 4, 2) := by decide +kernel
theorem d_BL_makeRequest_47 : decode b_BL_makeRequest 47 = .ok (.areturn, 1) := by decide +kernel
theorem d_BL_media_0 : decode b_BL_media 0 = .ok (.iload_n 1, 1) := by decide +kernel
theorem d_BL_media_1 : decode b_BL_media 1 = .ok (.invokestatic 23, 3) := by decide +kernel
theorem d_BL_media_4 : decode b_BL_media 4 = .ok (.aload_n 0, 1) := by decide +kernel
theorem d_BL_media_5 : decode b_BL_media 5 = .ok (.getfield 19, 3) := by decide +kernel
theorem d_BL_media_8 : decode b_BL_media 8 = .ok (.iload_n 1, 1) := by decide +kernel
theorem d_BL_media_9 : decode b_BL_media 9 = .ok (.invokevirtual 110, 3) := by decide +kernel
theorem d_BL_media_12 : decode b_BL_media 12 = .ok (.ireturn, 1) := by decide +kernel
theorem d_BL_newest_0 : decode b_BL_newest 0 = .ok (.iload_n 1, 1) := by decide +kernel
theorem d_BL_newest_1 : decode b_BL_newest 1 = .ok (.invokestatic 23, 3) := by decide +kernel
theorem d_BL_newest_4 : decode b_BL_newest 4 = .ok (.aload_n 0, 1) := by decide +kernel
theorem d_BL_newest_5 : decode b_BL_newest 5 = .ok (.iload_n 1, 1) := by decide +kernel
theorem d_BL_newest_6 : decode b_BL_newest 6 = .ok (.invokevirtual 106, 3) := by decide +kernel
theorem d_BL_newest_9 : decode b_BL_newest 9 = .ok (.ireturn, 1) := by decide +kernel
theorem d_BL_newestOf_0 : decode b_BL_newestOf 0 = .ok (.aload_n 0, 1) := by decide +kernel
theorem d_BL_newestOf_1 : decode b_BL_newestOf 1 = .ok (.getfield 10, 3) := by decide +kernel
theorem d_BL_newestOf_4 : decode b_BL_newestOf 4 = .ok (.iload_n 1, 1) := by decide +kernel
theorem d_BL_newestOf_5 : decode b_BL_newestOf 5 = .ok (.invokevirtual 30, 3) := by decide +kernel
theorem d_BL_newestOf_8 : decode b_BL_newestOf 8 = .ok (.astore_n 2, 1) := by decide +kernel
theorem d_BL_newestOf_9 : decode b_BL_newestOf 9 = .ok (.aload_n 2, 1) := by decide +kernel
theorem d_BL_newestOf_10 : decode b_BL_newestOf 10 = .ok (.ifnull 8, 3) := by decide +kernel
theorem d_BL_newestOf_13 : decode b_BL_newestOf 13 = .ok (.aload_n 2, 1) := by decide +kernel
theorem d_BL_newestOf_14 : decode b_BL_newestOf 14 = .ok (.getfield 69, 3) := by decide +kernel
theorem d_BL_newestOf_17 : decode b_BL_newestOf 17 = .ok (.ireturn, 1) := by decide +kernel
theorem d_BL_newestOf_18 : decode b_BL_newestOf 18 = .ok (.aload_n 0, 1) := by decide +kernel
theorem d_BL_newestOf_19 : decode b_BL_newestOf 19 = .ok (.getfield 19, 3) := by decide +kernel
theorem d_BL_newestOf_22 : decode b_BL_newestOf 22 = .ok (.getfield 116, 3) := by decide +kernel
theorem d_BL_newestOf_25 : decode b_BL_newestOf 25 = .ok (.iload_n 1, 1) := by decide +kernel
theorem d_BL_newestOf_26 : decode b_BL_newestOf 26 = .ok (.invokevirtual 200, 3) := by decide +kernel
theorem d_BL_newestOf_29 : decode b_BL_newestOf 29 = .ok (.astore_n 3, 1) := by decide +kernel
theorem d_BL_newestOf_30 : decode b_BL_newestOf 30 = .ok (.aload_n 3, 1) := by decide +kernel
theorem d_BL_newestOf_31 : decode b_BL_newestOf 31 = .ok (.ifnonnull 14, 3) := by decide +kernel
theorem d_BL_newestOf_34 : decode b_BL_newestOf 34 = .ok (.aload_n 0, 1) := by decide +kernel
theorem d_BL_newestOf_35 : decode b_BL_newestOf 35 = .ok (.getfield 19, 3) := by decide +kernel
theorem d_BL_newestOf_38 : decode b_BL_newestOf 38 = .ok (.iload_n 1, 1) := by decide +kernel
theorem d_BL_newestOf_39 : decode b_BL_newestOf 39 = .ok (.invokevirtual 203, 3) := by decide +kernel
theorem d_BL_newestOf_42 : decode b_BL_newestOf 42 = .ok (.goto 7, 3) := by decide +kernel
theorem d_BL_newestOf_45 : decode b_BL_newestOf 45 = .ok (.aload_n 3, 1) := by decide +kernel
theorem d_BL_newestOf_46 : decode b_BL_newestOf 46 = .ok (.getfield 56, 3) := by decide +kernel
theorem d_BL_newestOf_49 : decode b_BL_newestOf 49 = .ok (.ireturn, 1) := by decide +kernel
theorem d_BL_policy_0 : decode b_BL_policy 0 = .ok (.iload_n 1, 1) := by decide +kernel
theorem d_BL_policy_1 : decode b_BL_policy 1 = .ok (.ifCond .lt 8, 3) := by decide +kernel
theorem d_BL_policy_4 : decode b_BL_policy 4 = .ok (.iload_n 1, 1) := by decide +kernel
theorem d_BL_policy_5 : decode b_BL_policy 5 = .ok (.iconst 4, 1) := by decide +kernel
theorem d_BL_policy_6 : decode b_BL_policy 6 = .ok (.if_icmp .le 13, 3) := by decide +kernel
theorem d_BL_policy_9 : decode b_BL_policy 9 = .ok (.new 84, 3) := by decide +kernel
theorem d_BL_policy_12 : decode b_BL_policy 12 = .ok (.dup, 1) := by decide +kernel
theorem d_BL_policy_13 : decode b_BL_policy 13 = .ok (.ldc 101, 2) := by decide +kernel
theorem d_BL_policy_15 : decode b_BL_policy 15 = .ok (.invokespecial 88, 3) := by decide +kernel
theorem d_BL_policy_18 : decode b_BL_policy 18 = .ok (.athrow, 1) := by decide +kernel
theorem d_BL_policy_19 : decode b_BL_policy 19 = .ok (.aload_n 0, 1) := by decide +kernel
theorem d_BL_policy_20 : decode b_BL_policy 20 = .ok (.getfield 19, 3) := by decide +kernel
theorem d_BL_policy_23 : decode b_BL_policy 23 = .ok (.getfield 103, 3) := by decide +kernel
theorem d_BL_policy_26 : decode b_BL_policy 26 = .ok (.istore_n 2, 1) := by decide +kernel
theorem d_BL_policy_27 : decode b_BL_policy 27 = .ok (.aload_n 0, 1) := by decide +kernel
theorem d_BL_policy_28 : decode b_BL_policy 28 = .ok (.getfield 19, 3) := by decide +kernel
theorem d_BL_policy_31 : decode b_BL_policy 31 = .ok (.iload_n 1, 1) := by decide +kernel
theorem d_BL_policy_32 : decode b_BL_policy 32 = .ok (.putfield 103, 3) := by decide +kernel
theorem d_BL_policy_35 : decode b_BL_policy 35 = .ok (.iload_n 2, 1) := by decide +kernel
theorem d_BL_policy_36 : decode b_BL_policy 36 = .ok (.ireturn, 1) := by decide +kernel
theorem d_BL_queued_0 : decode b_BL_queued 0 = .ok (.aload_n 0, 1) := by decide +kernel
theorem d_BL_queued_1 : decode b_BL_queued 1 = .ok (.getfield 19, 3) := by decide +kernel
theorem d_BL_queued_4 : decode b_BL_queued 4 = .ok (.getfield 116, 3) := by decide +kernel
theorem d_BL_queued_7 : decode b_BL_queued 7 = .ok (.iload_n 1, 1) := by decide +kernel
theorem d_BL_queued_8 : decode b_BL_queued 8 = .ok (.invokevirtual 132, 3) := by decide +kernel
theorem d_BL_queued_11 : decode b_BL_queued 11 = .ok (.astore_n 2, 1) := by decide +kernel
theorem d_BL_queued_12 : decode b_BL_queued 12 = .ok (.aload_n 2, 1) := by decide +kernel
theorem d_BL_queued_13 : decode b_BL_queued 13 = .ok (.ifnonnull 7, 3) := by decide +kernel
theorem d_BL_queued_16 : decode b_BL_queued 16 = .ok (.iconst (-1), 1) := by decide +kernel
theorem d_BL_queued_17 : decode b_BL_queued 17 = .ok (.goto 7, 3) := by decide +kernel
theorem d_BL_queued_20 : decode b_BL_queued 20 = .ok (.aload_n 2, 1) := by decide +kernel
theorem d_BL_queued_21 : decode b_BL_queued 21 = .ok (.getfield 135, 3) := by decide +kernel
theorem d_BL_queued_24 : decode b_BL_queued 24 = .ok (.ireturn, 1) := by decide +kernel
theorem d_BL_request_0 : decode b_BL_request 0 = .ok (.aload_n 0, 1) := by decide +kernel
theorem d_BL_request_1 : decode b_BL_request 1 = .ok (.iload_n 1, 1) := by decide +kernel
theorem d_BL_request_2 : decode b_BL_request 2 = .ok (.invokevirtual 138, 3) := by decide +kernel
theorem d_BL_request_5 : decode b_BL_request 5 = .ok (.astore_n 3, 1) := by decide +kernel
theorem d_BL_request_6 : decode b_BL_request 6 = .ok (.aload_n 3, 1) := by decide +kernel
theorem d_BL_request_7 : decode b_BL_request 7 = .ok (.ifnonnull 5, 3) := by decide +kernel
theorem d_BL_request_10 : decode b_BL_request 10 = .ok (.iconst (-1), 1) := by decide +kernel
theorem d_BL_request_11 : decode b_BL_request 11 = .ok (.ireturn, 1) := by decide +kernel
theorem d_BL_request_12 : decode b_BL_request 12 = .ok (.iload_n 2, 1) := by decide +kernel
theorem d_BL_request_13 : decode b_BL_request 13 = .ok (.tableswitch 51 0 3 #[31, 36, 41, 46], 31) := by decide +kernel
theorem d_BL_request_44 : decode b_BL_request 44 = .ok (.aload_n 3, 1) := by decide +kernel
theorem d_BL_request_45 : decode b_BL_request 45 = .ok (.getfield 141, 3) := by decide +kernel
theorem d_BL_request_48 : decode b_BL_request 48 = .ok (.ireturn, 1) := by decide +kernel
theorem d_BL_request_49 : decode b_BL_request 49 = .ok (.aload_n 3, 1) := by decide +kernel
theorem d_BL_request_50 : decode b_BL_request 50 = .ok (.getfield 144, 3) := by decide +kernel
theorem d_BL_request_53 : decode b_BL_request 53 = .ok (.ireturn, 1) := by decide +kernel
theorem d_BL_request_54 : decode b_BL_request 54 = .ok (.aload_n 3, 1) := by decide +kernel
theorem d_BL_request_55 : decode b_BL_request 55 = .ok (.getfield 56, 3) := by decide +kernel
theorem d_BL_request_58 : decode b_BL_request 58 = .ok (.ireturn, 1) := by decide +kernel
theorem d_BL_request_59 : decode b_BL_request 59 = .ok (.aload_n 3, 1) := by decide +kernel
theorem d_BL_request_60 : decode b_BL_request 60 = .ok (.getfield 145, 3) := by decide +kernel
theorem d_BL_request_63 : decode b_BL_request 63 = .ok (.ireturn, 1) := by decide +kernel
theorem d_BL_request_64 : decode b_BL_request 64 = .ok (.iconst (-1), 1) := by decide +kernel
theorem d_BL_request_65 : decode b_BL_request 65 = .ok (.ireturn, 1) := by decide +kernel
theorem d_BL_requireBlock_0 : decode b_BL_requireBlock 0 = .ok (.iload_n 0, 1) := by decide +kernel
theorem d_BL_requireBlock_1 : decode b_BL_requireBlock 1 = .ok (.ifCond .lt 10, 3) := by decide +kernel
theorem d_BL_requireBlock_4 : decode b_BL_requireBlock 4 = .ok (.iload_n 0, 1) := by decide +kernel
theorem d_BL_requireBlock_5 : decode b_BL_requireBlock 5 = .ok (.sipush 256, 3) := by decide +kernel
theorem d_BL_requireBlock_8 : decode b_BL_requireBlock 8 = .ok (.if_icmp .lt 13, 3) := by decide +kernel
theorem d_BL_requireBlock_11 : decode b_BL_requireBlock 11 = .ok (.new 171, 3) := by decide +kernel
theorem d_BL_requireBlock_14 : decode b_BL_requireBlock 14 = .ok (.dup, 1) := by decide +kernel
theorem d_BL_requireBlock_15 : decode b_BL_requireBlock 15 = .ok (.ldc 173, 2) := by decide +kernel
theorem d_BL_requireBlock_17 : decode b_BL_requireBlock 17 = .ok (.invokespecial 175, 3) := by decide +kernel
theorem d_BL_requireBlock_20 : decode b_BL_requireBlock 20 = .ok (.athrow, 1) := by decide +kernel
theorem d_BL_requireBlock_21 : decode b_BL_requireBlock 21 = .ok (.return_, 1) := by decide +kernel
theorem d_BL_requireQueueRoom_0 : decode b_BL_requireQueueRoom 0 = .ok (.aload_n 0, 1) := by decide +kernel
theorem d_BL_requireQueueRoom_1 : decode b_BL_requireQueueRoom 1 = .ok (.getfield 19, 3) := by decide +kernel
theorem d_BL_requireQueueRoom_4 : decode b_BL_requireQueueRoom 4 = .ok (.getfield 116, 3) := by decide +kernel
theorem d_BL_requireQueueRoom_7 : decode b_BL_requireQueueRoom 7 = .ok (.invokevirtual 155, 3) := by decide +kernel
theorem d_BL_requireQueueRoom_10 : decode b_BL_requireQueueRoom 10 = .ok (.iload_n 1, 1) := by decide +kernel
theorem d_BL_requireQueueRoom_11 : decode b_BL_requireQueueRoom 11 = .ok (.iadd, 1) := by decide +kernel
theorem d_BL_requireQueueRoom_12 : decode b_BL_requireQueueRoom 12 = .ok (.bipush 40, 2) := by decide +kernel
theorem d_BL_requireQueueRoom_14 : decode b_BL_requireQueueRoom 14 = .ok (.if_icmp .le 13, 3) := by decide +kernel
theorem d_BL_requireQueueRoom_17 : decode b_BL_requireQueueRoom 17 = .ok (.new 176, 3) := by decide +kernel
theorem d_BL_requireQueueRoom_20 : decode b_BL_requireQueueRoom 20 = .ok (.dup, 1) := by decide +kernel
theorem d_BL_requireQueueRoom_21 : decode b_BL_requireQueueRoom 21 = .ok (.ldc 178, 2) := by decide +kernel
theorem d_BL_requireQueueRoom_23 : decode b_BL_requireQueueRoom 23 = .ok (.invokespecial 180, 3) := by decide +kernel
theorem d_BL_requireQueueRoom_26 : decode b_BL_requireQueueRoom 26 = .ok (.athrow, 1) := by decide +kernel
theorem d_BL_requireQueueRoom_27 : decode b_BL_requireQueueRoom 27 = .ok (.return_, 1) := by decide +kernel
theorem d_BL_save_0 : decode b_BL_save 0 = .ok (.iload_n 1, 1) := by decide +kernel
theorem d_BL_save_1 : decode b_BL_save 1 = .ok (.invokestatic 23, 3) := by decide +kernel
theorem d_BL_save_4 : decode b_BL_save 4 = .ok (.aload_n 0, 1) := by decide +kernel
theorem d_BL_save_5 : decode b_BL_save 5 = .ok (.iconst 2, 1) := by decide +kernel
theorem d_BL_save_6 : decode b_BL_save 6 = .ok (.invokevirtual 27, 3) := by decide +kernel
theorem d_BL_save_9 : decode b_BL_save 9 = .ok (.aload_n 0, 1) := by decide +kernel
theorem d_BL_save_10 : decode b_BL_save 10 = .ok (.getfield 10, 3) := by decide +kernel
theorem d_BL_save_13 : decode b_BL_save 13 = .ok (.iload_n 1, 1) := by decide +kernel
theorem d_BL_save_14 : decode b_BL_save 14 = .ok (.invokevirtual 30, 3) := by decide +kernel
theorem d_BL_save_17 : decode b_BL_save 17 = .ok (.astore_n 3, 1) := by decide +kernel
theorem d_BL_save_18 : decode b_BL_save 18 = .ok (.aload_n 3, 1) := by decide +kernel
theorem d_BL_save_19 : decode b_BL_save 19 = .ok (.ifnonnull 17, 3) := by decide +kernel
theorem d_BL_save_22 : decode b_BL_save 22 = .ok (.aload_n 0, 1) := by decide +kernel
theorem d_BL_save_23 : decode b_BL_save 23 = .ok (.invokevirtual 38, 3) := by decide +kernel
theorem d_BL_save_26 : decode b_BL_save 26 = .ok (.new 54, 3) := by decide +kernel
theorem d_BL_save_29 : decode b_BL_save 29 = .ok (.dup, 1) := by decide +kernel
theorem d_BL_save_30 : decode b_BL_save 30 = .ok (.iload_n 1, 1) := by decide +kernel
theorem d_BL_save_31 : decode b_BL_save 31 = .ok (.iconst 0, 1) := by decide +kernel
theorem d_BL_save_32 : decode b_BL_save 32 = .ok (.invokespecial 59, 3) := by decide +kernel
theorem d_BL_save_35 : decode b_BL_save 35 = .ok (.astore_n 3, 1) := by decide +kernel
theorem d_BL_save_36 : decode b_BL_save 36 = .ok (.aload_n 3, 1) := by decide +kernel
theorem d_BL_save_37 : decode b_BL_save 37 = .ok (.getfield 69, 3) := by decide +kernel
theorem d_BL_save_40 : decode b_BL_save 40 = .ok (.istore 4, 2) := by decide +kernel
theorem d_BL_save_42 : decode b_BL_save 42 = .ok (.aload_n 3, 1) := by decide +kernel
theorem d_BL_save_43 : decode b_BL_save 43 = .ok (.iload_n 2, 1) := by decide +kernel
theorem d_BL_save_44 : decode b_BL_save 44 = .ok (.putfield 69, 3) := by decide +kernel
theorem d_BL_save_47 : decode b_BL_save 47 = .ok (.aload_n 3, 1) := by decide +kernel
theorem d_BL_save_48 : decode b_BL_save 48 = .ok (.iconst 1, 1) := by decide +kernel
theorem d_BL_save_49 : decode b_BL_save 49 = .ok (.putfield 70, 3) := by decide +kernel
theorem d_BL_save_52 : decode b_BL_save 52 = .ok (.aload_n 0, 1) := by decide +kernel
theorem d_BL_save_53 : decode b_BL_save 53 = .ok (.getfield 10, 3) := by decide +kernel
theorem d_BL_save_56 : decode b_BL_save 56 = .ok (.aload_n 3, 1) := by decide +kernel
theorem d_BL_save_57 : decode b_BL_save 57 = .ok (.invokevirtual 65, 3) := by decide +kernel
theorem d_BL_save_60 : decode b_BL_save 60 = .ok (.iload 4, 2) := by decide +kernel
theorem d_BL_save_62 : decode b_BL_save 62 = .ok (.ireturn, 1) := by decide +kernel
theorem d_BL_step_0 : decode b_BL_step 0 = .ok (.iload_n 1, 1) := by decide +kernel
theorem d_BL_step_1 : decode b_BL_step 1 = .ok (.iconst 1, 1) := by decide +kernel
theorem d_BL_step_2 : decode b_BL_step 2 = .ok (.if_icmp .lt 10, 3) := by decide +kernel
theorem d_BL_step_5 : decode b_BL_step 5 = .ok (.iload_n 1, 1) := by decide +kernel
theorem d_BL_step_6 : decode b_BL_step 6 = .ok (.sipush 1000, 3) := by decide +kernel
theorem d_BL_step_9 : decode b_BL_step 9 = .ok (.if_icmp .le 13, 3) := by decide +kernel
theorem d_BL_step_12 : decode b_BL_step 12 = .ok (.new 84, 3) := by decide +kernel
theorem d_BL_step_15 : decode b_BL_step 15 = .ok (.dup, 1) := by decide +kernel
theorem d_BL_step_16 : decode b_BL_step 16 = .ok (.ldc 86, 2) := by decide +kernel
theorem d_BL_step_18 : decode b_BL_step 18 = .ok (.invokespecial 88, 3) := by decide +kernel
theorem d_BL_step_21 : decode b_BL_step 21 = .ok (.athrow, 1) := by decide +kernel
theorem d_BL_step_22 : decode b_BL_step 22 = .ok (.aload_n 0, 1) := by decide +kernel
theorem d_BL_step_23 : decode b_BL_step 23 = .ok (.getfield 19, 3) := by decide +kernel
theorem d_BL_step_26 : decode b_BL_step 26 = .ok (.iload_n 1, 1) := by decide +kernel
theorem d_BL_step_27 : decode b_BL_step 27 = .ok (.invokevirtual 91, 3) := by decide +kernel
theorem d_BL_step_30 : decode b_BL_step 30 = .ok (.aload_n 0, 1) := by decide +kernel
theorem d_BL_step_31 : decode b_BL_step 31 = .ok (.getfield 19, 3) := by decide +kernel
theorem d_BL_step_34 : decode b_BL_step 34 = .ok (.getfield 94, 3) := by decide +kernel
theorem d_BL_step_37 : decode b_BL_step 37 = .ok (.ireturn, 1) := by decide +kernel
theorem d_BL_sync_0 : decode b_BL_sync 0 = .ok (.aload_n 0, 1) := by decide +kernel
theorem d_BL_sync_1 : decode b_BL_sync 1 = .ok (.aload_n 0, 1) := by decide +kernel
theorem d_BL_sync_2 : decode b_BL_sync 2 = .ok (.getfield 10, 3) := by decide +kernel
theorem d_BL_sync_5 : decode b_BL_sync 5 = .ok (.invokevirtual 73, 3) := by decide +kernel
theorem d_BL_sync_8 : decode b_BL_sync 8 = .ok (.iconst 1, 1) := by decide +kernel
theorem d_BL_sync_9 : decode b_BL_sync 9 = .ok (.iadd, 1) := by decide +kernel
theorem d_BL_sync_10 : decode b_BL_sync 10 = .ok (.invokevirtual 27, 3) := by decide +kernel
theorem d_BL_sync_13 : decode b_BL_sync 13 = .ok (.iconst 0, 1) := by decide +kernel
theorem d_BL_sync_14 : decode b_BL_sync 14 = .ok (.istore_n 1, 1) := by decide +kernel
theorem d_BL_sync_15 : decode b_BL_sync 15 = .ok (.iconst 0, 1) := by decide +kernel
theorem d_BL_sync_16 : decode b_BL_sync 16 = .ok (.istore_n 2, 1) := by decide +kernel
theorem d_BL_sync_17 : decode b_BL_sync 17 = .ok (.iload_n 2, 1) := by decide +kernel
theorem d_BL_sync_18 : decode b_BL_sync 18 = .ok (.bipush 10, 2) := by decide +kernel
theorem d_BL_sync_20 : decode b_BL_sync 20 = .ok (.if_icmp .ge 37, 3) := by decide +kernel
theorem d_BL_sync_23 : decode b_BL_sync 23 = .ok (.aload_n 0, 1) := by decide +kernel
theorem d_BL_sync_24 : decode b_BL_sync 24 = .ok (.getfield 10, 3) := by decide +kernel
theorem d_BL_sync_27 : decode b_BL_sync 27 = .ok (.invokevirtual 77, 3) := by decide +kernel
theorem d_BL_sync_30 : decode b_BL_sync 30 = .ok (.astore_n 3, 1) := by decide +kernel
theorem d_BL_sync_31 : decode b_BL_sync 31 = .ok (.aload_n 3, 1) := by decide +kernel
theorem d_BL_sync_32 : decode b_BL_sync 32 = .ok (.ifnonnull 6, 3) := by decide +kernel
theorem d_BL_sync_35 : decode b_BL_sync 35 = .ok (.goto 22, 3) := by decide +kernel
theorem d_BL_sync_38 : decode b_BL_sync 38 = .ok (.aload_n 0, 1) := by decide +kernel
theorem d_BL_sync_39 : decode b_BL_sync 39 = .ok (.aload_n 3, 1) := by decide +kernel
theorem d_BL_sync_40 : decode b_BL_sync 40 = .ok (.invokevirtual 81, 3) := by decide +kernel
theorem d_BL_sync_43 : decode b_BL_sync 43 = .ok (.aload_n 3, 1) := by decide +kernel
theorem d_BL_sync_44 : decode b_BL_sync 44 = .ok (.iconst 0, 1) := by decide +kernel
theorem d_BL_sync_45 : decode b_BL_sync 45 = .ok (.putfield 70, 3) := by decide +kernel
theorem d_BL_sync_48 : decode b_BL_sync 48 = .ok (.iinc 1 1, 3) := by decide +kernel
theorem d_BL_sync_51 : decode b_BL_sync 51 = .ok (.iinc 2 1, 3) := by decide +kernel
theorem d_BL_sync_54 : decode b_BL_sync 54 = .ok (.goto (-37), 3) := by decide +kernel
theorem d_BL_sync_57 : decode b_BL_sync 57 = .ok (.aload_n 0, 1) := by decide +kernel
theorem d_BL_sync_58 : decode b_BL_sync 58 = .ok (.iconst 2, 1) := by decide +kernel
theorem d_BL_sync_59 : decode b_BL_sync 59 = .ok (.iconst (-1), 1) := by decide +kernel
theorem d_BL_sync_60 : decode b_BL_sync 60 = .ok (.iconst 0, 1) := by decide +kernel
theorem d_BL_sync_61 : decode b_BL_sync 61 = .ok (.invokevirtual 41, 3) := by decide +kernel
theorem d_BL_sync_64 : decode b_BL_sync 64 = .ok (.pop, 1) := by decide +kernel
theorem d_BL_sync_65 : decode b_BL_sync 65 = .ok (.iload_n 1, 1) := by decide +kernel
theorem d_BL_sync_66 : decode b_BL_sync 66 = .ok (.ireturn, 1) := by decide +kernel
theorem d_BL_told_0 : decode b_BL_told 0 = .ok (.iload_n 1, 1) := by decide +kernel
theorem d_BL_told_1 : decode b_BL_told 1 = .ok (.tableswitch 170 0 11 #[63, 71, 79, 104, 115, 126, 134, 139, 144, 149, 154, 162], 63) := by decide +kernel
theorem d_BL_told_64 : decode b_BL_told 64 = .ok (.aload_n 0, 1) := by decide +kernel
theorem d_BL_told_65 : decode b_BL_told 65 = .ok (.getfield 19, 3) := by decide +kernel
theorem d_BL_told_68 : decode b_BL_told 68 = .ok (.getfield 94, 3) := by decide +kernel
theorem d_BL_told_71 : decode b_BL_told 71 = .ok (.ireturn, 1) := by decide +kernel
theorem d_BL_told_72 : decode b_BL_told 72 = .ok (.aload_n 0, 1) := by decide +kernel
theorem d_BL_told_73 : decode b_BL_told 73 = .ok (.getfield 19, 3) := by decide +kernel
theorem d_BL_told_76 : decode b_BL_told 76 = .ok (.getfield 148, 3) := by decide +kernel
theorem d_BL_told_79 : decode b_BL_told 79 = .ok (.ireturn, 1) := by decide +kernel
theorem d_BL_told_80 : decode b_BL_told 80 = .ok (.aload_n 0, 1) := by decide +kernel
theorem d_BL_told_81 : decode b_BL_told 81 = .ok (.getfield 19, 3) := by decide +kernel
theorem d_BL_told_84 : decode b_BL_told 84 = .ok (.getfield 151, 3) := by decide +kernel
theorem d_BL_told_87 : decode b_BL_told 87 = .ok (.ifnonnull 7, 3) := by decide +kernel
theorem d_BL_told_90 : decode b_BL_told 90 = .ok (.iconst (-1), 1) := by decide +kernel
theorem d_BL_told_91 : decode b_BL_told 91 = .ok (.goto 13, 3) := by decide +kernel
theorem d_BL_told_94 : decode b_BL_told 94 = .ok (.aload_n 0, 1) := by decide +kernel
theorem d_BL_told_95 : decode b_BL_told 95 = .ok (.getfield 19, 3) := by decide +kernel
theorem d_BL_told_98 : decode b_BL_told 98 = .ok (.getfield 151, 3) := by decide +kernel
theorem d_BL_told_101 : decode b_BL_told 101 = .ok (.getfield 135, 3) := by decide +kernel
theorem d_BL_told_104 : decode b_BL_told 104 = .ok (.ireturn, 1) := by decide +kernel
theorem d_BL_told_105 : decode b_BL_told 105 = .ok (.aload_n 0, 1) := by decide +kernel
theorem d_BL_told_106 : decode b_BL_told 106 = .ok (.getfield 19, 3) := by decide +kernel
