theorem d_MD_told_72 : decode b_MD_told 72 = .ok (.ireturn, 1) := by decide +kernel
theorem d_MD_told_73 : decode b_MD_told 73 = .ok (.aload_n 0, 1) := by decide +kernel
theorem d_MD_told_74 : decode b_MD_told 74 = .ok (.getfield 85, 3) := by decide +kernel
theorem d_MD_told_77 : decode b_MD_told 77 = .ok (.ireturn, 1) := by decide +kernel
theorem d_MD_told_78 : decode b_MD_told 78 = .ok (.aload_n 0, 1) := by decide +kernel
theorem d_MD_told_79 : decode b_MD_told 79 = .ok (.getfield 110, 3) := by decide +kernel
theorem d_MD_told_82 : decode b_MD_told 82 = .ok (.ifCond .eq 13, 3) := by decide +kernel
theorem d_MD_told_85 : decode b_MD_told 85 = .ok (.aload_n 0, 1) := by decide +kernel
theorem d_MD_told_86 : decode b_MD_told 86 = .ok (.getfield 27, 3) := by decide +kernel
theorem d_MD_told_89 : decode b_MD_told 89 = .ok (.bipush 40, 2) := by decide +kernel
theorem d_MD_told_91 : decode b_MD_told 91 = .ok (.iaload, 1) := by decide +kernel
theorem d_MD_told_92 : decode b_MD_told 92 = .ok (.goto 4, 3) := by decide +kernel
theorem d_MD_told_95 : decode b_MD_told 95 = .ok (.iconst (-1), 1) := by decide +kernel
theorem d_MD_told_96 : decode b_MD_told 96 = .ok (.ireturn, 1) := by decide +kernel
theorem d_MD_told_97 : decode b_MD_told 97 = .ok (.aload_n 0, 1) := by decide +kernel
theorem d_MD_told_98 : decode b_MD_told 98 = .ok (.getfield 69, 3) := by decide +kernel
theorem d_MD_told_101 : decode b_MD_told 101 = .ok (.ireturn, 1) := by decide +kernel
theorem d_MD_told_102 : decode b_MD_told 102 = .ok (.aload_n 0, 1) := by decide +kernel
theorem d_MD_told_103 : decode b_MD_told 103 = .ok (.getfield 113, 3) := by decide +kernel
theorem d_MD_told_106 : decode b_MD_told 106 = .ok (.ireturn, 1) := by decide +kernel
theorem d_MD_told_107 : decode b_MD_told 107 = .ok (.aload_n 0, 1) := by decide +kernel
theorem d_MD_told_108 : decode b_MD_told 108 = .ok (.getfield 55, 3) := by decide +kernel
theorem d_MD_told_111 : decode b_MD_told 111 = .ok (.ireturn, 1) := by decide +kernel
theorem d_MD_told_112 : decode b_MD_told 112 = .ok (.aload_n 0, 1) := by decide +kernel
theorem d_MD_told_113 : decode b_MD_told 113 = .ok (.getfield 137, 3) := by decide +kernel
theorem d_MD_told_116 : decode b_MD_told 116 = .ok (.ireturn, 1) := by decide +kernel
theorem d_MD_told_117 : decode b_MD_told 117 = .ok (.aload_n 0, 1) := by decide +kernel
theorem d_MD_told_118 : decode b_MD_told 118 = .ok (.getfield 144, 3) := by decide +kernel
theorem d_MD_told_121 : decode b_MD_told 121 = .ok (.ireturn, 1) := by decide +kernel
theorem d_MD_told_122 : decode b_MD_told 122 = .ok (.aload_n 0, 1) := by decide +kernel
theorem d_MD_told_123 : decode b_MD_told 123 = .ok (.getfield 62, 3) := by decide +kernel
theorem d_MD_told_126 : decode b_MD_told 126 = .ok (.ireturn, 1) := by decide +kernel
theorem d_MD_told_127 : decode b_MD_told 127 = .ok (.aload_n 0, 1) := by decide +kernel
theorem d_MD_told_128 : decode b_MD_told 128 = .ok (.getfield 72, 3) := by decide +kernel
theorem d_MD_told_131 : decode b_MD_told 131 = .ok (.ireturn, 1) := by decide +kernel
theorem d_MD_told_132 : decode b_MD_told 132 = .ok (.aload_n 0, 1) := by decide +kernel
theorem d_MD_told_133 : decode b_MD_told 133 = .ok (.getfield 119, 3) := by decide +kernel
theorem d_MD_told_136 : decode b_MD_told 136 = .ok (.ireturn, 1) := by decide +kernel
theorem d_MD_told_137 : decode b_MD_told 137 = .ok (.aload_n 0, 1) := by decide +kernel
theorem d_MD_told_138 : decode b_MD_told 138 = .ok (.getfield 156, 3) := by decide +kernel
theorem d_MD_told_141 : decode b_MD_told 141 = .ok (.ireturn, 1) := by decide +kernel
theorem d_MD_told_142 : decode b_MD_told 142 = .ok (.iconst (-1), 1) := by decide +kernel
theorem d_MD_told_143 : decode b_MD_told 143 = .ok (.ireturn, 1) := by decide +kernel
theorem d_MD_track_0 : decode b_MD_track 0 = .ok (.aload_n 0, 1) := by decide +kernel
theorem d_MD_track_1 : decode b_MD_track 1 = .ok (.getfield 33, 3) := by decide +kernel
theorem d_MD_track_4 : decode b_MD_track 4 = .ok (.iload_n 1, 1) := by decide +kernel
theorem d_MD_track_5 : decode b_MD_track 5 = .ok (.iaload, 1) := by decide +kernel
theorem d_MD_track_6 : decode b_MD_track 6 = .ok (.bipush 8, 2) := by decide +kernel
theorem d_MD_track_8 : decode b_MD_track 8 = .ok (.idiv, 1) := by decide +kernel
theorem d_MD_track_9 : decode b_MD_track 9 = .ok (.ireturn, 1) := by decide +kernel
theorem d_MD_used_0 : decode b_MD_used 0 = .ok (.aload_n 0, 1) := by decide +kernel
theorem d_MD_used_1 : decode b_MD_used 1 = .ok (.iconst 0, 1) := by decide +kernel
theorem d_MD_used_2 : decode b_MD_used 2 = .ok (.putfield 52, 3) := by decide +kernel
theorem d_MD_used_5 : decode b_MD_used 5 = .ok (.iload_n 1, 1) := by decide +kernel
theorem d_MD_used_6 : decode b_MD_used 6 = .ok (.ifCond .lt 11, 3) := by decide +kernel
theorem d_MD_used_9 : decode b_MD_used 9 = .ok (.iload_n 1, 1) := by decide +kernel
theorem d_MD_used_10 : decode b_MD_used 10 = .ok (.aload_n 0, 1) := by decide +kernel
theorem d_MD_used_11 : decode b_MD_used 11 = .ok (.getfield 55, 3) := by decide +kernel
theorem d_MD_used_14 : decode b_MD_used 14 = .ok (.if_icmp .lt 7, 3) := by decide +kernel
theorem d_MD_used_17 : decode b_MD_used 17 = .ok (.iconst (-1), 1) := by decide +kernel
theorem d_MD_used_18 : decode b_MD_used 18 = .ok (.goto 9, 3) := by decide +kernel
theorem d_MD_used_21 : decode b_MD_used 21 = .ok (.aload_n 0, 1) := by decide +kernel
theorem d_MD_used_22 : decode b_MD_used 22 = .ok (.getfield 17, 3) := by decide +kernel
theorem d_MD_used_25 : decode b_MD_used 25 = .ok (.iload_n 1, 1) := by decide +kernel
theorem d_MD_used_26 : decode b_MD_used 26 = .ok (.iaload, 1) := by decide +kernel
theorem d_MD_used_27 : decode b_MD_used 27 = .ok (.ireturn, 1) := by decide +kernel
theorem d_MD_valueAt_0 : decode b_MD_valueAt 0 = .ok (.aload_n 0, 1) := by decide +kernel
theorem d_MD_valueAt_1 : decode b_MD_valueAt 1 = .ok (.getfield 13, 3) := by decide +kernel
theorem d_MD_valueAt_4 : decode b_MD_valueAt 4 = .ok (.iload_n 1, 1) := by decide +kernel
theorem d_MD_valueAt_5 : decode b_MD_valueAt 5 = .ok (.iaload, 1) := by decide +kernel
theorem d_MD_valueAt_6 : decode b_MD_valueAt 6 = .ok (.istore_n 2, 1) := by decide +kernel
theorem d_MD_valueAt_7 : decode b_MD_valueAt 7 = .ok (.iconst 0, 1) := by decide +kernel
theorem d_MD_valueAt_8 : decode b_MD_valueAt 8 = .ok (.istore_n 3, 1) := by decide +kernel
theorem d_MD_valueAt_9 : decode b_MD_valueAt 9 = .ok (.iload_n 3, 1) := by decide +kernel
theorem d_MD_valueAt_10 : decode b_MD_valueAt 10 = .ok (.aload_n 0, 1) := by decide +kernel
theorem d_MD_valueAt_11 : decode b_MD_valueAt 11 = .ok (.getfield 113, 3) := by decide +kernel
theorem d_MD_valueAt_14 : decode b_MD_valueAt 14 = .ok (.if_icmp .ge 30, 3) := by decide +kernel
theorem d_MD_valueAt_17 : decode b_MD_valueAt 17 = .ok (.aload_n 0, 1) := by decide +kernel
theorem d_MD_valueAt_18 : decode b_MD_valueAt 18 = .ok (.getfield 42, 3) := by decide +kernel
theorem d_MD_valueAt_21 : decode b_MD_valueAt 21 = .ok (.iload_n 3, 1) := by decide +kernel
theorem d_MD_valueAt_22 : decode b_MD_valueAt 22 = .ok (.iaload, 1) := by decide +kernel
theorem d_MD_valueAt_23 : decode b_MD_valueAt 23 = .ok (.iload_n 1, 1) := by decide +kernel
theorem d_MD_valueAt_24 : decode b_MD_valueAt 24 = .ok (.if_icmp .ne 12, 3) := by decide +kernel
theorem d_MD_valueAt_27 : decode b_MD_valueAt 27 = .ok (.aload_n 0, 1) := by decide +kernel
theorem d_MD_valueAt_28 : decode b_MD_valueAt 28 = .ok (.getfield 45, 3) := by decide +kernel
theorem d_MD_valueAt_31 : decode b_MD_valueAt 31 = .ok (.iload_n 3, 1) := by decide +kernel
theorem d_MD_valueAt_32 : decode b_MD_valueAt 32 = .ok (.iaload, 1) := by decide +kernel
theorem d_MD_valueAt_33 : decode b_MD_valueAt 33 = .ok (.goto 4, 3) := by decide +kernel
theorem d_MD_valueAt_36 : decode b_MD_valueAt 36 = .ok (.iload_n 2, 1) := by decide +kernel
theorem d_MD_valueAt_37 : decode b_MD_valueAt 37 = .ok (.istore_n 2, 1) := by decide +kernel
theorem d_MD_valueAt_38 : decode b_MD_valueAt 38 = .ok (.iinc 3 1, 3) := by decide +kernel
theorem d_MD_valueAt_41 : decode b_MD_valueAt 41 = .ok (.goto (-32), 3) := by decide +kernel
theorem d_MD_valueAt_44 : decode b_MD_valueAt 44 = .ok (.iload_n 2, 1) := by decide +kernel
theorem d_MD_valueAt_45 : decode b_MD_valueAt 45 = .ok (.ireturn, 1) := by decide +kernel
