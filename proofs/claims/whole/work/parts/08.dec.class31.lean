theorem d_BL_told_109 : decode b_BL_told 109 = .ok (.getfield 116, 3) := by decide +kernel
theorem d_BL_told_112 : decode b_BL_told 112 = .ok (.invokevirtual 155, 3) := by decide +kernel
theorem d_BL_told_115 : decode b_BL_told 115 = .ok (.ireturn, 1) := by decide +kernel
theorem d_BL_told_116 : decode b_BL_told 116 = .ok (.aload_n 0, 1) := by decide +kernel
theorem d_BL_told_117 : decode b_BL_told 117 = .ok (.getfield 19, 3) := by decide +kernel
theorem d_BL_told_120 : decode b_BL_told 120 = .ok (.getfield 156, 3) := by decide +kernel
theorem d_BL_told_123 : decode b_BL_told 123 = .ok (.invokevirtual 73, 3) := by decide +kernel
theorem d_BL_told_126 : decode b_BL_told 126 = .ok (.ireturn, 1) := by decide +kernel
theorem d_BL_told_127 : decode b_BL_told 127 = .ok (.aload_n 0, 1) := by decide +kernel
theorem d_BL_told_128 : decode b_BL_told 128 = .ok (.getfield 10, 3) := by decide +kernel
theorem d_BL_told_131 : decode b_BL_told 131 = .ok (.invokevirtual 73, 3) := by decide +kernel
theorem d_BL_told_134 : decode b_BL_told 134 = .ok (.ireturn, 1) := by decide +kernel
theorem d_BL_told_135 : decode b_BL_told 135 = .ok (.aload_n 0, 1) := by decide +kernel
theorem d_BL_told_136 : decode b_BL_told 136 = .ok (.getfield 62, 3) := by decide +kernel
theorem d_BL_told_139 : decode b_BL_told 139 = .ok (.ireturn, 1) := by decide +kernel
theorem d_BL_told_140 : decode b_BL_told 140 = .ok (.aload_n 0, 1) := by decide +kernel
theorem d_BL_told_141 : decode b_BL_told 141 = .ok (.getfield 34, 3) := by decide +kernel
theorem d_BL_told_144 : decode b_BL_told 144 = .ok (.ireturn, 1) := by decide +kernel
theorem d_BL_told_145 : decode b_BL_told 145 = .ok (.aload_n 0, 1) := by decide +kernel
theorem d_BL_told_146 : decode b_BL_told 146 = .ok (.getfield 159, 3) := by decide +kernel
theorem d_BL_told_149 : decode b_BL_told 149 = .ok (.ireturn, 1) := by decide +kernel
theorem d_BL_told_150 : decode b_BL_told 150 = .ok (.aload_n 0, 1) := by decide +kernel
theorem d_BL_told_151 : decode b_BL_told 151 = .ok (.getfield 162, 3) := by decide +kernel
theorem d_BL_told_154 : decode b_BL_told 154 = .ok (.ireturn, 1) := by decide +kernel
theorem d_BL_told_155 : decode b_BL_told 155 = .ok (.aload_n 0, 1) := by decide +kernel
theorem d_BL_told_156 : decode b_BL_told 156 = .ok (.getfield 19, 3) := by decide +kernel
theorem d_BL_told_159 : decode b_BL_told 159 = .ok (.getfield 165, 3) := by decide +kernel
theorem d_BL_told_162 : decode b_BL_told 162 = .ok (.ireturn, 1) := by decide +kernel
theorem d_BL_told_163 : decode b_BL_told 163 = .ok (.aload_n 0, 1) := by decide +kernel
theorem d_BL_told_164 : decode b_BL_told 164 = .ok (.getfield 19, 3) := by decide +kernel
theorem d_BL_told_167 : decode b_BL_told 167 = .ok (.getfield 168, 3) := by decide +kernel
theorem d_BL_told_170 : decode b_BL_told 170 = .ok (.ireturn, 1) := by decide +kernel
theorem d_BL_told_171 : decode b_BL_told 171 = .ok (.iconst (-1), 1) := by decide +kernel
theorem d_BL_told_172 : decode b_BL_told 172 = .ok (.ireturn, 1) := by decide +kernel
theorem d_BL_trackOf_0 : decode b_BL_trackOf 0 = .ok (.iload_n 0, 1) := by decide +kernel
theorem d_BL_trackOf_1 : decode b_BL_trackOf 1 = .ok (.bipush 8, 2) := by decide +kernel
theorem d_BL_trackOf_3 : decode b_BL_trackOf 3 = .ok (.idiv, 1) := by decide +kernel
theorem d_BL_trackOf_4 : decode b_BL_trackOf 4 = .ok (.ireturn, 1) := by decide +kernel
theorem d_BL_used_0 : decode b_BL_used 0 = .ok (.aload_n 0, 1) := by decide +kernel
theorem d_BL_used_1 : decode b_BL_used 1 = .ok (.getfield 10, 3) := by decide +kernel
theorem d_BL_used_4 : decode b_BL_used 4 = .ok (.iload_n 1, 1) := by decide +kernel
theorem d_BL_used_5 : decode b_BL_used 5 = .ok (.invokevirtual 126, 3) := by decide +kernel
theorem d_BL_used_8 : decode b_BL_used 8 = .ok (.astore_n 2, 1) := by decide +kernel
theorem d_BL_used_9 : decode b_BL_used 9 = .ok (.aload_n 2, 1) := by decide +kernel
theorem d_BL_used_10 : decode b_BL_used 10 = .ok (.ifnonnull 7, 3) := by decide +kernel
theorem d_BL_used_13 : decode b_BL_used 13 = .ok (.iconst (-1), 1) := by decide +kernel
theorem d_BL_used_14 : decode b_BL_used 14 = .ok (.goto 7, 3) := by decide +kernel
theorem d_BL_used_17 : decode b_BL_used 17 = .ok (.aload_n 2, 1) := by decide +kernel
theorem d_BL_used_18 : decode b_BL_used 18 = .ok (.getfield 129, 3) := by decide +kernel
theorem d_BL_used_21 : decode b_BL_used 21 = .ok (.ireturn, 1) := by decide +kernel
theorem d_BL_writeBack_0 : decode b_BL_writeBack 0 = .ok (.aload_n 0, 1) := by decide +kernel
theorem d_BL_writeBack_1 : decode b_BL_writeBack 1 = .ok (.getfield 19, 3) := by decide +kernel
theorem d_BL_writeBack_4 : decode b_BL_writeBack 4 = .ok (.getfield 116, 3) := by decide +kernel
theorem d_BL_writeBack_7 : decode b_BL_writeBack 7 = .ok (.aload_n 1, 1) := by decide +kernel
theorem d_BL_writeBack_8 : decode b_BL_writeBack 8 = .ok (.getfield 129, 3) := by decide +kernel
theorem d_BL_writeBack_11 : decode b_BL_writeBack 11 = .ok (.invokevirtual 184, 3) := by decide +kernel
theorem d_BL_writeBack_14 : decode b_BL_writeBack 14 = .ok (.astore_n 2, 1) := by decide +kernel
theorem d_BL_writeBack_15 : decode b_BL_writeBack 15 = .ok (.aload_n 2, 1) := by decide +kernel
theorem d_BL_writeBack_16 : decode b_BL_writeBack 16 = .ok (.ifnonnull 20, 3) := by decide +kernel
theorem d_BL_writeBack_19 : decode b_BL_writeBack 19 = .ok (.aload_n 0, 1) := by decide +kernel
theorem d_BL_writeBack_20 : decode b_BL_writeBack 20 = .ok (.iconst 1, 1) := by decide +kernel
theorem d_BL_writeBack_21 : decode b_BL_writeBack 21 = .ok (.aload_n 1, 1) := by decide +kernel
theorem d_BL_writeBack_22 : decode b_BL_writeBack 22 = .ok (.getfield 129, 3) := by decide +kernel
theorem d_BL_writeBack_25 : decode b_BL_writeBack 25 = .ok (.aload_n 1, 1) := by decide +kernel
theorem d_BL_writeBack_26 : decode b_BL_writeBack 26 = .ok (.getfield 69, 3) := by decide +kernel
theorem d_BL_writeBack_29 : decode b_BL_writeBack 29 = .ok (.invokevirtual 41, 3) := by decide +kernel
theorem d_BL_writeBack_32 : decode b_BL_writeBack 32 = .ok (.pop, 1) := by decide +kernel
theorem d_BL_writeBack_33 : decode b_BL_writeBack 33 = .ok (.goto 21, 3) := by decide +kernel
theorem d_BL_writeBack_36 : decode b_BL_writeBack 36 = .ok (.aload_n 2, 1) := by decide +kernel
theorem d_BL_writeBack_37 : decode b_BL_writeBack 37 = .ok (.aload_n 1, 1) := by decide +kernel
theorem d_BL_writeBack_38 : decode b_BL_writeBack 38 = .ok (.getfield 69, 3) := by decide +kernel
theorem d_BL_writeBack_41 : decode b_BL_writeBack 41 = .ok (.putfield 56, 3) := by decide +kernel
theorem d_BL_writeBack_44 : decode b_BL_writeBack 44 = .ok (.aload_n 0, 1) := by decide +kernel
theorem d_BL_writeBack_45 : decode b_BL_writeBack 45 = .ok (.dup, 1) := by decide +kernel
theorem d_BL_writeBack_46 : decode b_BL_writeBack 46 = .ok (.getfield 162, 3) := by decide +kernel
theorem d_BL_writeBack_49 : decode b_BL_writeBack 49 = .ok (.iconst 1, 1) := by decide +kernel
theorem d_BL_writeBack_50 : decode b_BL_writeBack 50 = .ok (.iadd, 1) := by decide +kernel
theorem d_BL_writeBack_51 : decode b_BL_writeBack 51 = .ok (.putfield 162, 3) := by decide +kernel
theorem d_BL_writeBack_54 : decode b_BL_writeBack 54 = .ok (.return_, 1) := by decide +kernel
