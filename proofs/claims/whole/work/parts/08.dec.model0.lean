theorem d_MD_ask_0 : decode b_MD_ask 0 = .ok (.iconst (-1), 1) := by decide +kernel
theorem d_MD_ask_1 : decode b_MD_ask 1 = .ok (.istore 4, 2) := by decide +kernel
theorem d_MD_ask_3 : decode b_MD_ask 3 = .ok (.iconst 0, 1) := by decide +kernel
theorem d_MD_ask_4 : decode b_MD_ask 4 = .ok (.istore 5, 2) := by decide +kernel
theorem d_MD_ask_6 : decode b_MD_ask 6 = .ok (.iload 5, 2) := by decide +kernel
theorem d_MD_ask_8 : decode b_MD_ask 8 = .ok (.aload_n 0, 1) := by decide +kernel
theorem d_MD_ask_9 : decode b_MD_ask 9 = .ok (.getfield 69, 3) := by decide +kernel
theorem d_MD_ask_12 : decode b_MD_ask 12 = .ok (.if_icmp .ge 44, 3) := by decide +kernel
theorem d_MD_ask_15 : decode b_MD_ask 15 = .ok (.aload_n 0, 1) := by decide +kernel
theorem d_MD_ask_16 : decode b_MD_ask 16 = .ok (.getfield 30, 3) := by decide +kernel
theorem d_MD_ask_19 : decode b_MD_ask 19 = .ok (.iload 5, 2) := by decide +kernel
theorem d_MD_ask_21 : decode b_MD_ask 21 = .ok (.iaload, 1) := by decide +kernel
theorem d_MD_ask_22 : decode b_MD_ask 22 = .ok (.iconst 2, 1) := by decide +kernel
theorem d_MD_ask_23 : decode b_MD_ask 23 = .ok (.if_icmp .ne 7, 3) := by decide +kernel
theorem d_MD_ask_26 : decode b_MD_ask 26 = .ok (.iconst (-1), 1) := by decide +kernel
theorem d_MD_ask_27 : decode b_MD_ask 27 = .ok (.goto 21, 3) := by decide +kernel
theorem d_MD_ask_30 : decode b_MD_ask 30 = .ok (.aload_n 0, 1) := by decide +kernel
theorem d_MD_ask_31 : decode b_MD_ask 31 = .ok (.getfield 33, 3) := by decide +kernel
theorem d_MD_ask_34 : decode b_MD_ask 34 = .ok (.iload 5, 2) := by decide +kernel
theorem d_MD_ask_36 : decode b_MD_ask 36 = .ok (.iaload, 1) := by decide +kernel
theorem d_MD_ask_37 : decode b_MD_ask 37 = .ok (.iload_n 2, 1) := by decide +kernel
theorem d_MD_ask_38 : decode b_MD_ask 38 = .ok (.if_icmp .ne 8, 3) := by decide +kernel
theorem d_MD_ask_41 : decode b_MD_ask 41 = .ok (.iload 5, 2) := by decide +kernel
theorem d_MD_ask_43 : decode b_MD_ask 43 = .ok (.goto 5, 3) := by decide +kernel
theorem d_MD_ask_46 : decode b_MD_ask 46 = .ok (.iload 4, 2) := by decide +kernel
theorem d_MD_ask_48 : decode b_MD_ask 48 = .ok (.istore 4, 2) := by decide +kernel
theorem d_MD_ask_50 : decode b_MD_ask 50 = .ok (.iinc 5 1, 3) := by decide +kernel
theorem d_MD_ask_53 : decode b_MD_ask 53 = .ok (.goto (-47), 3) := by decide +kernel
theorem d_MD_ask_56 : decode b_MD_ask 56 = .ok (.iload_n 1, 1) := by decide +kernel
theorem d_MD_ask_57 : decode b_MD_ask 57 = .ok (.iconst 1, 1) := by decide +kernel
theorem d_MD_ask_58 : decode b_MD_ask 58 = .ok (.if_icmp .ne 38, 3) := by decide +kernel
theorem d_MD_ask_61 : decode b_MD_ask 61 = .ok (.iload 4, 2) := by decide +kernel
theorem d_MD_ask_63 : decode b_MD_ask 63 = .ok (.ifCond .lt 33, 3) := by decide +kernel
theorem d_MD_ask_66 : decode b_MD_ask 66 = .ok (.aload_n 0, 1) := by decide +kernel
theorem d_MD_ask_67 : decode b_MD_ask 67 = .ok (.getfield 30, 3) := by decide +kernel
theorem d_MD_ask_70 : decode b_MD_ask 70 = .ok (.iload 4, 2) := by decide +kernel
theorem d_MD_ask_72 : decode b_MD_ask 72 = .ok (.iaload, 1) := by decide +kernel
theorem d_MD_ask_73 : decode b_MD_ask 73 = .ok (.iconst 1, 1) := by decide +kernel
theorem d_MD_ask_74 : decode b_MD_ask 74 = .ok (.if_icmp .ne 22, 3) := by decide +kernel
theorem d_MD_ask_77 : decode b_MD_ask 77 = .ok (.aload_n 0, 1) := by decide +kernel
theorem d_MD_ask_78 : decode b_MD_ask 78 = .ok (.getfield 36, 3) := by decide +kernel
theorem d_MD_ask_81 : decode b_MD_ask 81 = .ok (.iload 4, 2) := by decide +kernel
theorem d_MD_ask_83 : decode b_MD_ask 83 = .ok (.iload_n 3, 1) := by decide +kernel
theorem d_MD_ask_84 : decode b_MD_ask 84 = .ok (.iastore, 1) := by decide +kernel
theorem d_MD_ask_85 : decode b_MD_ask 85 = .ok (.aload_n 0, 1) := by decide +kernel
theorem d_MD_ask_86 : decode b_MD_ask 86 = .ok (.dup, 1) := by decide +kernel
theorem d_MD_ask_87 : decode b_MD_ask 87 = .ok (.getfield 72, 3) := by decide +kernel
theorem d_MD_ask_90 : decode b_MD_ask 90 = .ok (.iconst 1, 1) := by decide +kernel
theorem d_MD_ask_91 : decode b_MD_ask 91 = .ok (.iadd, 1) := by decide +kernel
theorem d_MD_ask_92 : decode b_MD_ask 92 = .ok (.putfield 72, 3) := by decide +kernel
theorem d_MD_ask_95 : decode b_MD_ask 95 = .ok (.return_, 1) := by decide +kernel
theorem d_MD_ask_96 : decode b_MD_ask 96 = .ok (.aload_n 0, 1) := by decide +kernel
theorem d_MD_ask_97 : decode b_MD_ask 97 = .ok (.getfield 27, 3) := by decide +kernel
theorem d_MD_ask_100 : decode b_MD_ask 100 = .ok (.aload_n 0, 1) := by decide +kernel
theorem d_MD_ask_101 : decode b_MD_ask 101 = .ok (.getfield 69, 3) := by decide +kernel
theorem d_MD_ask_104 : decode b_MD_ask 104 = .ok (.aload_n 0, 1) := by decide +kernel
theorem d_MD_ask_105 : decode b_MD_ask 105 = .ok (.getfield 75, 3) := by decide +kernel
theorem d_MD_ask_108 : decode b_MD_ask 108 = .ok (.iastore, 1) := by decide +kernel
theorem d_MD_ask_109 : decode b_MD_ask 109 = .ok (.aload_n 0, 1) := by decide +kernel
theorem d_MD_ask_110 : decode b_MD_ask 110 = .ok (.getfield 30, 3) := by decide +kernel
theorem d_MD_ask_113 : decode b_MD_ask 113 = .ok (.aload_n 0, 1) := by decide +kernel
theorem d_MD_ask_114 : decode b_MD_ask 114 = .ok (.getfield 69, 3) := by decide +kernel
theorem d_MD_ask_117 : decode b_MD_ask 117 = .ok (.iload_n 1, 1) := by decide +kernel
theorem d_MD_ask_118 : decode b_MD_ask 118 = .ok (.iastore, 1) := by decide +kernel
theorem d_MD_ask_119 : decode b_MD_ask 119 = .ok (.aload_n 0, 1) := by decide +kernel
theorem d_MD_ask_120 : decode b_MD_ask 120 = .ok (.getfield 33, 3) := by decide +kernel
theorem d_MD_ask_123 : decode b_MD_ask 123 = .ok (.aload_n 0, 1) := by decide +kernel
theorem d_MD_ask_124 : decode b_MD_ask 124 = .ok (.getfield 69, 3) := by decide +kernel
theorem d_MD_ask_127 : decode b_MD_ask 127 = .ok (.iload_n 2, 1) := by decide +kernel
theorem d_MD_ask_128 : decode b_MD_ask 128 = .ok (.iastore, 1) := by decide +kernel
theorem d_MD_ask_129 : decode b_MD_ask 129 = .ok (.aload_n 0, 1) := by decide +kernel
theorem d_MD_ask_130 : decode b_MD_ask 130 = .ok (.getfield 36, 3) := by decide +kernel
theorem d_MD_ask_133 : decode b_MD_ask 133 = .ok (.aload_n 0, 1) := by decide +kernel
theorem d_MD_ask_134 : decode b_MD_ask 134 = .ok (.getfield 69, 3) := by decide +kernel
theorem d_MD_ask_137 : decode b_MD_ask 137 = .ok (.iload_n 3, 1) := by decide +kernel
theorem d_MD_ask_138 : decode b_MD_ask 138 = .ok (.iastore, 1) := by decide +kernel
theorem d_MD_ask_139 : decode b_MD_ask 139 = .ok (.aload_n 0, 1) := by decide +kernel
theorem d_MD_ask_140 : decode b_MD_ask 140 = .ok (.getfield 39, 3) := by decide +kernel
theorem d_MD_ask_143 : decode b_MD_ask 143 = .ok (.aload_n 0, 1) := by decide +kernel
theorem d_MD_ask_144 : decode b_MD_ask 144 = .ok (.getfield 69, 3) := by decide +kernel
theorem d_MD_ask_147 : decode b_MD_ask 147 = .ok (.aload_n 0, 1) := by decide +kernel
theorem d_MD_ask_148 : decode b_MD_ask 148 = .ok (.getfield 78, 3) := by decide +kernel
theorem d_MD_ask_151 : decode b_MD_ask 151 = .ok (.iastore, 1) := by decide +kernel
theorem d_MD_ask_152 : decode b_MD_ask 152 = .ok (.aload_n 0, 1) := by decide +kernel
theorem d_MD_ask_153 : decode b_MD_ask 153 = .ok (.dup, 1) := by decide +kernel
theorem d_MD_ask_154 : decode b_MD_ask 154 = .ok (.getfield 75, 3) := by decide +kernel
theorem d_MD_ask_157 : decode b_MD_ask 157 = .ok (.iconst 1, 1) := by decide +kernel
theorem d_MD_ask_158 : decode b_MD_ask 158 = .ok (.iadd, 1) := by decide +kernel
theorem d_MD_ask_159 : decode b_MD_ask 159 = .ok (.putfield 75, 3) := by decide +kernel
theorem d_MD_ask_162 : decode b_MD_ask 162 = .ok (.aload_n 0, 1) := by decide +kernel
theorem d_MD_ask_163 : decode b_MD_ask 163 = .ok (.dup, 1) := by decide +kernel
theorem d_MD_ask_164 : decode b_MD_ask 164 = .ok (.getfield 69, 3) := by decide +kernel
theorem d_MD_ask_167 : decode b_MD_ask 167 = .ok (.iconst 1, 1) := by decide +kernel
theorem d_MD_ask_168 : decode b_MD_ask 168 = .ok (.iadd, 1) := by decide +kernel
theorem d_MD_ask_169 : decode b_MD_ask 169 = .ok (.putfield 69, 3) := by decide +kernel
theorem d_MD_ask_172 : decode b_MD_ask 172 = .ok (.return_, 1) := by decide +kernel
theorem d_MD_beginOne_0 : decode b_MD_beginOne 0 = .ok (.aload_n 0, 1) := by decide +kernel
theorem d_MD_beginOne_1 : decode b_MD_beginOne 1 = .ok (.invokevirtual 103, 3) := by decide +kernel
theorem d_MD_beginOne_4 : decode b_MD_beginOne 4 = .ok (.istore_n 1, 1) := by decide +kernel
theorem d_MD_beginOne_5 : decode b_MD_beginOne 5 = .ok (.aload_n 0, 1) := by decide +kernel
theorem d_MD_beginOne_6 : decode b_MD_beginOne 6 = .ok (.iload_n 1, 1) := by decide +kernel
theorem d_MD_beginOne_7 : decode b_MD_beginOne 7 = .ok (.bipush 40, 2) := by decide +kernel
theorem d_MD_beginOne_9 : decode b_MD_beginOne 9 = .ok (.invokevirtual 106, 3) := by decide +kernel
theorem d_MD_beginOne_12 : decode b_MD_beginOne 12 = .ok (.aload_n 0, 1) := by decide +kernel
theorem d_MD_beginOne_13 : decode b_MD_beginOne 13 = .ok (.dup, 1) := by decide +kernel
theorem d_MD_beginOne_14 : decode b_MD_beginOne 14 = .ok (.getfield 69, 3) := by decide +kernel
theorem d_MD_beginOne_17 : decode b_MD_beginOne 17 = .ok (.iconst 1, 1) := by decide +kernel
theorem d_MD_beginOne_18 : decode b_MD_beginOne 18 = .ok (.isub, 1) := by decide +kernel
theorem d_MD_beginOne_19 : decode b_MD_beginOne 19 = .ok (.putfield 69, 3) := by decide +kernel
theorem d_MD_beginOne_22 : decode b_MD_beginOne 22 = .ok (.iload_n 1, 1) := by decide +kernel
theorem d_MD_beginOne_23 : decode b_MD_beginOne 23 = .ok (.istore_n 2, 1) := by decide +kernel
theorem d_MD_beginOne_24 : decode b_MD_beginOne 24 = .ok (.iload_n 2, 1) := by decide +kernel
theorem d_MD_beginOne_25 : decode b_MD_beginOne 25 = .ok (.aload_n 0, 1) := by decide +kernel
theorem d_MD_beginOne_26 : decode b_MD_beginOne 26 = .ok (.getfield 69, 3) := by decide +kernel
theorem d_MD_beginOne_29 : decode b_MD_beginOne 29 = .ok (.if_icmp .ge 17, 3) := by decide +kernel
theorem d_MD_beginOne_32 : decode b_MD_beginOne 32 = .ok (.aload_n 0, 1) := by decide +kernel
theorem d_MD_beginOne_33 : decode b_MD_beginOne 33 = .ok (.iload_n 2, 1) := by decide +kernel
theorem d_MD_beginOne_34 : decode b_MD_beginOne 34 = .ok (.iconst 1, 1) := by decide +kernel
theorem d_MD_beginOne_35 : decode b_MD_beginOne 35 = .ok (.iadd, 1) := by decide +kernel
theorem d_MD_beginOne_36 : decode b_MD_beginOne 36 = .ok (.iload_n 2, 1) := by decide +kernel
theorem d_MD_beginOne_37 : decode b_MD_beginOne 37 = .ok (.invokevirtual 106, 3) := by decide +kernel
theorem d_MD_beginOne_40 : decode b_MD_beginOne 40 = .ok (.iinc 2 1, 3) := by decide +kernel
theorem d_MD_beginOne_43 : decode b_MD_beginOne 43 = .ok (.goto (-19), 3) := by decide +kernel
theorem d_MD_beginOne_46 : decode b_MD_beginOne 46 = .ok (.aload_n 0, 1) := by decide +kernel
theorem d_MD_beginOne_47 : decode b_MD_beginOne 47 = .ok (.iconst 1, 1) := by decide +kernel
theorem d_MD_beginOne_48 : decode b_MD_beginOne 48 = .ok (.putfield 110, 3) := by decide +kernel
theorem d_MD_beginOne_51 : decode b_MD_beginOne 51 = .ok (.aload_n 0, 1) := by decide +kernel
theorem d_MD_beginOne_52 : decode b_MD_beginOne 52 = .ok (.getfield 30, 3) := by decide +kernel
theorem d_MD_beginOne_55 : decode b_MD_beginOne 55 = .ok (.bipush 40, 2) := by decide +kernel
theorem d_MD_beginOne_57 : decode b_MD_beginOne 57 = .ok (.iaload, 1) := by decide +kernel
theorem d_MD_beginOne_58 : decode b_MD_beginOne 58 = .ok (.iconst 2, 1) := by decide +kernel
theorem d_MD_beginOne_59 : decode b_MD_beginOne 59 = .ok (.if_icmp .ne 21, 3) := by decide +kernel
theorem d_MD_beginOne_62 : decode b_MD_beginOne 62 = .ok (.aload_n 0, 1) := by decide +kernel
theorem d_MD_beginOne_63 : decode b_MD_beginOne 63 = .ok (.aload_n 0, 1) := by decide +kernel
theorem d_MD_beginOne_64 : decode b_MD_beginOne 64 = .ok (.getfield 78, 3) := by decide +kernel
theorem d_MD_beginOne_67 : decode b_MD_beginOne 67 = .ok (.aload_n 0, 1) := by decide +kernel
theorem d_MD_beginOne_68 : decode b_MD_beginOne 68 = .ok (.getfield 113, 3) := by decide +kernel
theorem d_MD_beginOne_71 : decode b_MD_beginOne 71 = .ok (.iadd, 1) := by decide +kernel
theorem d_MD_beginOne_72 : decode b_MD_beginOne 72 = .ok (.iconst 1, 1) := by decide +kernel
theorem d_MD_beginOne_73 : decode b_MD_beginOne 73 = .ok (.iadd, 1) := by decide +kernel
theorem d_MD_beginOne_74 : decode b_MD_beginOne 74 = .ok (.putfield 116, 3) := by decide +kernel
theorem d_MD_beginOne_77 : decode b_MD_beginOne 77 = .ok (.goto 46, 3) := by decide +kernel
theorem d_MD_beginOne_80 : decode b_MD_beginOne 80 = .ok (.aload_n 0, 1) := by decide +kernel
theorem d_MD_beginOne_81 : decode b_MD_beginOne 81 = .ok (.bipush 40, 2) := by decide +kernel
theorem d_MD_beginOne_83 : decode b_MD_beginOne 83 = .ok (.invokevirtual 81, 3) := by decide +kernel
theorem d_MD_beginOne_86 : decode b_MD_beginOne 86 = .ok (.aload_n 0, 1) := by decide +kernel
theorem d_MD_beginOne_87 : decode b_MD_beginOne 87 = .ok (.getfield 85, 3) := by decide +kernel
theorem d_MD_beginOne_90 : decode b_MD_beginOne 90 = .ok (.isub, 1) := by decide +kernel
theorem d_MD_beginOne_91 : decode b_MD_beginOne 91 = .ok (.istore_n 2, 1) := by decide +kernel
theorem d_MD_beginOne_92 : decode b_MD_beginOne 92 = .ok (.aload_n 0, 1) := by decide +kernel
theorem d_MD_beginOne_93 : decode b_MD_beginOne 93 = .ok (.aload_n 0, 1) := by decide +kernel
theorem d_MD_beginOne_94 : decode b_MD_beginOne 94 = .ok (.getfield 78, 3) := by decide +kernel
theorem d_MD_beginOne_97 : decode b_MD_beginOne 97 = .ok (.iload_n 2, 1) := by decide +kernel
theorem d_MD_beginOne_98 : decode b_MD_beginOne 98 = .ok (.ifCond .ge 8, 3) := by decide +kernel
theorem d_MD_beginOne_101 : decode b_MD_beginOne 101 = .ok (.iload_n 2, 1) := by decide +kernel
theorem d_MD_beginOne_102 : decode b_MD_beginOne 102 = .ok (.ineg, 1) := by decide +kernel
theorem d_MD_beginOne_103 : decode b_MD_beginOne 103 = .ok (.goto 4, 3) := by decide +kernel
theorem d_MD_beginOne_106 : decode b_MD_beginOne 106 = .ok (.iload_n 2, 1) := by decide +kernel
theorem d_MD_beginOne_107 : decode b_MD_beginOne 107 = .ok (.iadd, 1) := by decide +kernel
theorem d_MD_beginOne_108 : decode b_MD_beginOne 108 = .ok (.iconst 2, 1) := by decide +kernel
theorem d_MD_beginOne_109 : decode b_MD_beginOne 109 = .ok (.iadd, 1) := by decide +kernel
theorem d_MD_beginOne_110 : decode b_MD_beginOne 110 = .ok (.putfield 116, 3) := by decide +kernel
theorem d_MD_beginOne_113 : decode b_MD_beginOne 113 = .ok (.aload_n 0, 1) := by decide +kernel
theorem d_MD_beginOne_114 : decode b_MD_beginOne 114 = .ok (.aload_n 0, 1) := by decide +kernel
theorem d_MD_beginOne_115 : decode b_MD_beginOne 115 = .ok (.bipush 40, 2) := by decide +kernel
theorem d_MD_beginOne_117 : decode b_MD_beginOne 117 = .ok (.invokevirtual 81, 3) := by decide +kernel
theorem d_MD_beginOne_120 : decode b_MD_beginOne 120 = .ok (.putfield 85, 3) := by decide +kernel
theorem d_MD_beginOne_123 : decode b_MD_beginOne 123 = .ok (.return_, 1) := by decide +kernel
theorem d_MD_buffer_0 : decode b_MD_buffer 0 = .ok (.aload_n 0, 1) := by decide +kernel
theorem d_MD_buffer_1 : decode b_MD_buffer 1 = .ok (.iload_n 1, 1) := by decide +kernel
theorem d_MD_buffer_2 : decode b_MD_buffer 2 = .ok (.invokestatic 131, 3) := by decide +kernel
theorem d_MD_buffer_5 : decode b_MD_buffer 5 = .ok (.ifCond .eq 7, 3) := by decide +kernel
theorem d_MD_buffer_8 : decode b_MD_buffer 8 = .ok (.iconst 0, 1) := by decide +kernel
theorem d_MD_buffer_9 : decode b_MD_buffer 9 = .ok (.goto 4, 3) := by decide +kernel
theorem d_MD_buffer_12 : decode b_MD_buffer 12 = .ok (.iconst 1, 1) := by decide +kernel
theorem d_MD_buffer_13 : decode b_MD_buffer 13 = .ok (.putfield 52, 3) := by decide +kernel
theorem d_MD_buffer_16 : decode b_MD_buffer 16 = .ok (.aload_n 0, 1) := by decide +kernel
theorem d_MD_buffer_17 : decode b_MD_buffer 17 = .ok (.getfield 52, 3) := by decide +kernel
theorem d_MD_buffer_20 : decode b_MD_buffer 20 = .ok (.ifCond .le 5, 3) := by decide +kernel
theorem d_MD_buffer_23 : decode b_MD_buffer 23 = .ok (.iconst 0, 1) := by decide +kernel
theorem d_MD_buffer_24 : decode b_MD_buffer 24 = .ok (.ireturn, 1) := by decide +kernel
theorem d_MD_buffer_25 : decode b_MD_buffer 25 = .ok (.aload_n 0, 1) := by decide +kernel
theorem d_MD_buffer_26 : decode b_MD_buffer 26 = .ok (.iload_n 1, 1) := by decide +kernel
theorem d_MD_buffer_27 : decode b_MD_buffer 27 = .ok (.invokevirtual 134, 3) := by decide +kernel
theorem d_MD_buffer_30 : decode b_MD_buffer 30 = .ok (.istore_n 2, 1) := by decide +kernel
theorem d_MD_buffer_31 : decode b_MD_buffer 31 = .ok (.iload_n 2, 1) := by decide +kernel
theorem d_MD_buffer_32 : decode b_MD_buffer 32 = .ok (.ifCond .ge 7, 3) := by decide +kernel
theorem d_MD_buffer_35 : decode b_MD_buffer 35 = .ok (.iconst 0, 1) := by decide +kernel
theorem d_MD_buffer_36 : decode b_MD_buffer 36 = .ok (.goto 17, 3) := by decide +kernel
theorem d_MD_buffer_39 : decode b_MD_buffer 39 = .ok (.aload_n 0, 1) := by decide +kernel
theorem d_MD_buffer_40 : decode b_MD_buffer 40 = .ok (.getfield 23, 3) := by decide +kernel
theorem d_MD_buffer_43 : decode b_MD_buffer 43 = .ok (.iload_n 2, 1) := by decide +kernel
theorem d_MD_buffer_44 : decode b_MD_buffer 44 = .ok (.baload, 1) := by decide +kernel
theorem d_MD_buffer_45 : decode b_MD_buffer 45 = .ok (.ifCond .eq 7, 3) := by decide +kernel
theorem d_MD_buffer_48 : decode b_MD_buffer 48 = .ok (.iconst 2, 1) := by decide +kernel
theorem d_MD_buffer_49 : decode b_MD_buffer 49 = .ok (.goto 4, 3) := by decide +kernel
theorem d_MD_buffer_52 : decode b_MD_buffer 52 = .ok (.iconst 1, 1) := by decide +kernel
theorem d_MD_buffer_53 : decode b_MD_buffer 53 = .ok (.ireturn, 1) := by decide +kernel
theorem d_MD_bufferOf_0 : decode b_MD_bufferOf 0 = .ok (.iconst (-1), 1) := by decide +kernel
theorem d_MD_bufferOf_1 : decode b_MD_bufferOf 1 = .ok (.istore_n 2, 1) := by decide +kernel
theorem d_MD_bufferOf_2 : decode b_MD_bufferOf 2 = .ok (.iconst 0, 1) := by decide +kernel
theorem d_MD_bufferOf_3 : decode b_MD_bufferOf 3 = .ok (.istore_n 3, 1) := by decide +kernel
theorem d_MD_bufferOf_4 : decode b_MD_bufferOf 4 = .ok (.iload_n 3, 1) := by decide +kernel
theorem d_MD_bufferOf_5 : decode b_MD_bufferOf 5 = .ok (.aload_n 0, 1) := by decide +kernel
theorem d_MD_bufferOf_6 : decode b_MD_bufferOf 6 = .ok (.getfield 55, 3) := by decide +kernel
theorem d_MD_bufferOf_9 : decode b_MD_bufferOf 9 = .ok (.if_icmp .ge 25, 3) := by decide +kernel
theorem d_MD_bufferOf_12 : decode b_MD_bufferOf 12 = .ok (.aload_n 0, 1) := by decide +kernel
theorem d_MD_bufferOf_13 : decode b_MD_bufferOf 13 = .ok (.getfield 17, 3) := by decide +kernel
theorem d_MD_bufferOf_16 : decode b_MD_bufferOf 16 = .ok (.iload_n 3, 1) := by decide +kernel
theorem d_MD_bufferOf_17 : decode b_MD_bufferOf 17 = .ok (.iaload, 1) := by decide +kernel
theorem d_MD_bufferOf_18 : decode b_MD_bufferOf 18 = .ok (.iload_n 1, 1) := by decide +kernel
theorem d_MD_bufferOf_19 : decode b_MD_bufferOf 19 = .ok (.if_icmp .ne 7, 3) := by decide +kernel
theorem d_MD_bufferOf_22 : decode b_MD_bufferOf 22 = .ok (.iload_n 3, 1) := by decide +kernel
theorem d_MD_bufferOf_23 : decode b_MD_bufferOf 23 = .ok (.goto 4, 3) := by decide +kernel
theorem d_MD_bufferOf_26 : decode b_MD_bufferOf 26 = .ok (.iload_n 2, 1) := by decide +kernel
theorem d_MD_bufferOf_27 : decode b_MD_bufferOf 27 = .ok (.istore_n 2, 1) := by decide +kernel
theorem d_MD_bufferOf_28 : decode b_MD_bufferOf 28 = .ok (.iinc 3 1, 3) := by decide +kernel
theorem d_MD_bufferOf_31 : decode b_MD_bufferOf 31 = .ok (.goto (-27), 3) := by decide +kernel
theorem d_MD_bufferOf_34 : decode b_MD_bufferOf 34 = .ok (.iload_n 2, 1) := by decide +kernel
theorem d_MD_bufferOf_35 : decode b_MD_bufferOf 35 = .ok (.ireturn, 1) := by decide +kernel
theorem d_MD_cache_0 : decode b_MD_cache 0 = .ok (.iconst 0, 1) := by decide +kernel
theorem d_MD_cache_1 : decode b_MD_cache 1 = .ok (.istore_n 3, 1) := by decide +kernel
theorem d_MD_cache_2 : decode b_MD_cache 2 = .ok (.iconst 0, 1) := by decide +kernel
theorem d_MD_cache_3 : decode b_MD_cache 3 = .ok (.istore 4, 2) := by decide +kernel
theorem d_MD_cache_5 : decode b_MD_cache 5 = .ok (.iload 4, 2) := by decide +kernel
theorem d_MD_cache_7 : decode b_MD_cache 7 = .ok (.aload_n 0, 1) := by decide +kernel
theorem d_MD_cache_8 : decode b_MD_cache 8 = .ok (.getfield 113, 3) := by decide +kernel
theorem d_MD_cache_11 : decode b_MD_cache 11 = .ok (.if_icmp .ge 49, 3) := by decide +kernel
theorem d_MD_cache_14 : decode b_MD_cache 14 = .ok (.aload_n 0, 1) := by decide +kernel
theorem d_MD_cache_15 : decode b_MD_cache 15 = .ok (.getfield 42, 3) := by decide +kernel
theorem d_MD_cache_18 : decode b_MD_cache 18 = .ok (.iload 4, 2) := by decide +kernel
theorem d_MD_cache_20 : decode b_MD_cache 20 = .ok (.iaload, 1) := by decide +kernel
theorem d_MD_cache_21 : decode b_MD_cache 21 = .ok (.iload_n 1, 1) := by decide +kernel
theorem d_MD_cache_22 : decode b_MD_cache 22 = .ok (.if_icmp .eq 32, 3) := by decide +kernel
theorem d_MD_cache_25 : decode b_MD_cache 25 = .ok (.aload_n 0, 1) := by decide +kernel
theorem d_MD_cache_26 : decode b_MD_cache 26 = .ok (.getfield 42, 3) := by decide +kernel
theorem d_MD_cache_29 : decode b_MD_cache 29 = .ok (.iload_n 3, 1) := by decide +kernel
theorem d_MD_cache_30 : decode b_MD_cache 30 = .ok (.aload_n 0, 1) := by decide +kernel
theorem d_MD_cache_31 : decode b_MD_cache 31 = .ok (.getfield 42, 3) := by decide +kernel
theorem d_MD_cache_34 : decode b_MD_cache 34 = .ok (.iload 4, 2) := by decide +kernel
theorem d_MD_cache_36 : decode b_MD_cache 36 = .ok (.iaload, 1) := by decide +kernel
theorem d_MD_cache_37 : decode b_MD_cache 37 = .ok (.iastore, 1) := by decide +kernel
theorem d_MD_cache_38 : decode b_MD_cache 38 = .ok (.aload_n 0, 1) := by decide +kernel
theorem d_MD_cache_39 : decode b_MD_cache 39 = .ok (.getfield 45, 3) := by decide +kernel
theorem d_MD_cache_42 : decode b_MD_cache 42 = .ok (.iload_n 3, 1) := by decide +kernel
theorem d_MD_cache_43 : decode b_MD_cache 43 = .ok (.aload_n 0, 1) := by decide +kernel
theorem d_MD_cache_44 : decode b_MD_cache 44 = .ok (.getfield 45, 3) := by decide +kernel
theorem d_MD_cache_47 : decode b_MD_cache 47 = .ok (.iload 4, 2) := by decide +kernel
theorem d_MD_cache_49 : decode b_MD_cache 49 = .ok (.iaload, 1) := by decide +kernel
theorem d_MD_cache_50 : decode b_MD_cache 50 = .ok (.iastore, 1) := by decide +kernel
theorem d_MD_cache_51 : decode b_MD_cache 51 = .ok (.iinc 3 1, 3) := by decide +kernel
theorem d_MD_cache_54 : decode b_MD_cache 54 = .ok (.iinc 4 1, 3) := by decide +kernel
theorem d_MD_cache_57 : decode b_MD_cache 57 = .ok (.goto (-52), 3) := by decide +kernel
theorem d_MD_cache_60 : decode b_MD_cache 60 = .ok (.aload_n 0, 1) := by decide +kernel
theorem d_MD_cache_61 : decode b_MD_cache 61 = .ok (.getfield 42, 3) := by decide +kernel
theorem d_MD_cache_64 : decode b_MD_cache 64 = .ok (.iload_n 3, 1) := by decide +kernel
theorem d_MD_cache_65 : decode b_MD_cache 65 = .ok (.iload_n 1, 1) := by decide +kernel
theorem d_MD_cache_66 : decode b_MD_cache 66 = .ok (.iastore, 1) := by decide +kernel
theorem d_MD_cache_67 : decode b_MD_cache 67 = .ok (.aload_n 0, 1) := by decide +kernel
theorem d_MD_cache_68 : decode b_MD_cache 68 = .ok (.getfield 45, 3) := by decide +kernel
theorem d_MD_cache_71 : decode b_MD_cache 71 = .ok (.iload_n 3, 1) := by decide +kernel
theorem d_MD_cache_72 : decode b_MD_cache 72 = .ok (.iload_n 2, 1) := by decide +kernel
theorem d_MD_cache_73 : decode b_MD_cache 73 = .ok (.iastore, 1) := by decide +kernel
theorem d_MD_cache_74 : decode b_MD_cache 74 = .ok (.aload_n 0, 1) := by decide +kernel
theorem d_MD_cache_75 : decode b_MD_cache 75 = .ok (.iload_n 3, 1) := by decide +kernel
theorem d_MD_cache_76 : decode b_MD_cache 76 = .ok (.iconst 1, 1) := by decide +kernel
theorem d_MD_cache_77 : decode b_MD_cache 77 = .ok (.iadd, 1) := by decide +kernel
theorem d_MD_cache_78 : decode b_MD_cache 78 = .ok (.putfield 113, 3) := by decide +kernel
theorem d_MD_cache_81 : decode b_MD_cache 81 = .ok (.aload_n 0, 1) := by decide +kernel
theorem d_MD_cache_82 : decode b_MD_cache 82 = .ok (.getfield 113, 3) := by decide +kernel
theorem d_MD_cache_85 : decode b_MD_cache 85 = .ok (.bipush 6, 2) := by decide +kernel
theorem d_MD_cache_87 : decode b_MD_cache 87 = .ok (.if_icmp .le 80, 3) := by decide +kernel
theorem d_MD_cache_90 : decode b_MD_cache 90 = .ok (.aload_n 0, 1) := by decide +kernel
theorem d_MD_cache_91 : decode b_MD_cache 91 = .ok (.getfield 13, 3) := by decide +kernel
theorem d_MD_cache_94 : decode b_MD_cache 94 = .ok (.aload_n 0, 1) := by decide +kernel
theorem d_MD_cache_95 : decode b_MD_cache 95 = .ok (.getfield 42, 3) := by decide +kernel
theorem d_MD_cache_98 : decode b_MD_cache 98 = .ok (.iconst 0, 1) := by decide +kernel
theorem d_MD_cache_99 : decode b_MD_cache 99 = .ok (.iaload, 1) := by decide +kernel
theorem d_MD_cache_100 : decode b_MD_cache 100 = .ok (.aload_n 0, 1) := by decide +kernel
theorem d_MD_cache_101 : decode b_MD_cache 101 = .ok (.getfield 45, 3) := by decide +kernel
theorem d_MD_cache_104 : decode b_MD_cache 104 = .ok (.iconst 0, 1) := by decide +kernel
theorem d_MD_cache_105 : decode b_MD_cache 105 = .ok (.iaload, 1) := by decide +kernel
theorem d_MD_cache_106 : decode b_MD_cache 106 = .ok (.iastore, 1) := by decide +kernel
theorem d_MD_cache_107 : decode b_MD_cache 107 = .ok (.aload_n 0, 1) := by decide +kernel
theorem d_MD_cache_108 : decode b_MD_cache 108 = .ok (.dup, 1) := by decide +kernel
theorem d_MD_cache_109 : decode b_MD_cache 109 = .ok (.getfield 113, 3) := by decide +kernel
theorem d_MD_cache_112 : decode b_MD_cache 112 = .ok (.iconst 1, 1) := by decide +kernel
theorem d_MD_cache_113 : decode b_MD_cache 113 = .ok (.isub, 1) := by decide +kernel
theorem d_MD_cache_114 : decode b_MD_cache 114 = .ok (.putfield 113, 3) := by decide +kernel
theorem d_MD_cache_117 : decode b_MD_cache 117 = .ok (.iconst 0, 1) := by decide +kernel
theorem d_MD_cache_118 : decode b_MD_cache 118 = .ok (.istore 4, 2) := by decide +kernel
theorem d_MD_cache_120 : decode b_MD_cache 120 = .ok (.iload 4, 2) := by decide +kernel
theorem d_MD_cache_122 : decode b_MD_cache 122 = .ok (.aload_n 0, 1) := by decide +kernel
theorem d_MD_cache_123 : decode b_MD_cache 123 = .ok (.getfield 113, 3) := by decide +kernel
theorem d_MD_cache_126 : decode b_MD_cache 126 = .ok (.if_icmp .ge 41, 3) := by decide +kernel
theorem d_MD_cache_129 : decode b_MD_cache 129 = .ok (.aload_n 0, 1) := by decide +kernel
theorem d_MD_cache_130 : decode b_MD_cache 130 = .ok (.getfield 42, 3) := by decide +kernel
theorem d_MD_cache_133 : decode b_MD_cache 133 = .ok (.iload 4, 2) := by decide +kernel
theorem d_MD_cache_135 : decode b_MD_cache 135 = .ok (.aload_n 0, 1) := by decide +kernel
theorem d_MD_cache_136 : decode b_MD_cache 136 = .ok (.getfield 42, 3) := by decide +kernel
theorem d_MD_cache_139 : decode b_MD_cache 139 = .ok (.iload 4, 2) := by decide +kernel
theorem d_MD_cache_141 : decode b_MD_cache 141 = .ok (.iconst 1, 1) := by decide +kernel
theorem d_MD_cache_142 : decode b_MD_cache 142 = .ok (.iadd, 1) := by decide +kernel
theorem d_MD_cache_143 : decode b_MD_cache 143 = .ok (.iaload, 1) := by decide +kernel
theorem d_MD_cache_144 : decode b_MD_cache 144 = .ok (.iastore, 1) := by decide +kernel
theorem d_MD_cache_145 : decode b_MD_cache 145 = .ok (.aload_n 0, 1) := by decide +kernel
theorem d_MD_cache_146 : decode b_MD_cache 146 = .ok (.getfield 45, 3) := by decide +kernel
theorem d_MD_cache_149 : decode b_MD_cache 149 = .ok (.iload 4, 2) := by decide +kernel
theorem d_MD_cache_151 : decode b_MD_cache 151 = .ok (.aload_n 0, 1) := by decide +kernel
theorem d_MD_cache_152 : decode b_MD_cache 152 = .ok (.getfield 45, 3) := by decide +kernel
theorem d_MD_cache_155 : decode b_MD_cache 155 = .ok (.iload 4, 2) := by decide +kernel
theorem d_MD_cache_157 : decode b_MD_cache 157 = .ok (.iconst 1, 1) := by decide +kernel
theorem d_MD_cache_158 : decode b_MD_cache 158 = .ok (.iadd, 1) := by decide +kernel
theorem d_MD_cache_159 : decode b_MD_cache 159 = .ok (.iaload, 1) := by decide +kernel
theorem d_MD_cache_160 : decode b_MD_cache 160 = .ok (.iastore, 1) := by decide +kernel
theorem d_MD_cache_161 : decode b_MD_cache 161 = .ok (.iinc 4 1, 3) := by decide +kernel
theorem d_MD_cache_164 : decode b_MD_cache 164 = .ok (.goto (-44), 3) := by decide +kernel
theorem d_MD_cache_167 : decode b_MD_cache 167 = .ok (.return_, 1) := by decide +kernel
theorem d_MD_chosen_0 : decode b_MD_chosen 0 = .ok (.aload_n 0, 1) := by decide +kernel
theorem d_MD_chosen_1 : decode b_MD_chosen 1 = .ok (.getfield 30, 3) := by decide +kernel
theorem d_MD_chosen_4 : decode b_MD_chosen 4 = .ok (.iconst 0, 1) := by decide +kernel
theorem d_MD_chosen_5 : decode b_MD_chosen 5 = .ok (.iaload, 1) := by decide +kernel
theorem d_MD_chosen_6 : decode b_MD_chosen 6 = .ok (.iconst 2, 1) := by decide +kernel
theorem d_MD_chosen_7 : decode b_MD_chosen 7 = .ok (.if_icmp .eq 34, 3) := by decide +kernel
theorem d_MD_chosen_10 : decode b_MD_chosen 10 = .ok (.aload_n 0, 1) := by decide +kernel
theorem d_MD_chosen_11 : decode b_MD_chosen 11 = .ok (.getfield 7, 3) := by decide +kernel
theorem d_MD_chosen_14 : decode b_MD_chosen 14 = .ok (.ifCond .eq 27, 3) := by decide +kernel
theorem d_MD_chosen_17 : decode b_MD_chosen 17 = .ok (.aload_n 0, 1) := by decide +kernel
theorem d_MD_chosen_18 : decode b_MD_chosen 18 = .ok (.getfield 7, 3) := by decide +kernel
theorem d_MD_chosen_21 : decode b_MD_chosen 21 = .ok (.iconst 4, 1) := by decide +kernel
theorem d_MD_chosen_22 : decode b_MD_chosen 22 = .ok (.if_icmp .ne 21, 3) := by decide +kernel
theorem d_MD_chosen_25 : decode b_MD_chosen 25 = .ok (.aload_n 0, 1) := by decide +kernel
theorem d_MD_chosen_26 : decode b_MD_chosen 26 = .ok (.getfield 78, 3) := by decide +kernel
theorem d_MD_chosen_29 : decode b_MD_chosen 29 = .ok (.aload_n 0, 1) := by decide +kernel
theorem d_MD_chosen_30 : decode b_MD_chosen 30 = .ok (.getfield 39, 3) := by decide +kernel
theorem d_MD_chosen_33 : decode b_MD_chosen 33 = .ok (.iconst 0, 1) := by decide +kernel
theorem d_MD_chosen_34 : decode b_MD_chosen 34 = .ok (.iaload, 1) := by decide +kernel
theorem d_MD_chosen_35 : decode b_MD_chosen 35 = .ok (.isub, 1) := by decide +kernel
theorem d_MD_chosen_36 : decode b_MD_chosen 36 = .ok (.bipush 100, 2) := by decide +kernel
theorem d_MD_chosen_38 : decode b_MD_chosen 38 = .ok (.if_icmp .lt 5, 3) := by decide +kernel
theorem d_MD_chosen_41 : decode b_MD_chosen 41 = .ok (.iconst 0, 1) := by decide +kernel
theorem d_MD_chosen_42 : decode b_MD_chosen 42 = .ok (.ireturn, 1) := by decide +kernel
theorem d_MD_chosen_43 : decode b_MD_chosen 43 = .ok (.aload_n 0, 1) := by decide +kernel
theorem d_MD_chosen_44 : decode b_MD_chosen 44 = .ok (.aload_n 0, 1) := by decide +kernel
theorem d_MD_chosen_45 : decode b_MD_chosen 45 = .ok (.getfield 7, 3) := by decide +kernel
theorem d_MD_chosen_48 : decode b_MD_chosen 48 = .ok (.invokevirtual 96, 3) := by decide +kernel
theorem d_MD_chosen_51 : decode b_MD_chosen 51 = .ok (.istore_n 1, 1) := by decide +kernel
theorem d_MD_chosen_52 : decode b_MD_chosen 52 = .ok (.iload_n 1, 1) := by decide +kernel
theorem d_MD_chosen_53 : decode b_MD_chosen 53 = .ok (.ifCond .ge 33, 3) := by decide +kernel
theorem d_MD_chosen_56 : decode b_MD_chosen 56 = .ok (.aload_n 0, 1) := by decide +kernel
theorem d_MD_chosen_57 : decode b_MD_chosen 57 = .ok (.getfield 7, 3) := by decide +kernel
theorem d_MD_chosen_60 : decode b_MD_chosen 60 = .ok (.iconst 2, 1) := by decide +kernel
theorem d_MD_chosen_61 : decode b_MD_chosen 61 = .ok (.if_icmp .ne 25, 3) := by decide +kernel
theorem d_MD_chosen_64 : decode b_MD_chosen 64 = .ok (.aload_n 0, 1) := by decide +kernel
theorem d_MD_chosen_65 : decode b_MD_chosen 65 = .ok (.aload_n 0, 1) := by decide +kernel
theorem d_MD_chosen_66 : decode b_MD_chosen 66 = .ok (.getfield 48, 3) := by decide +kernel
theorem d_MD_chosen_69 : decode b_MD_chosen 69 = .ok (.ifCond .ne 7, 3) := by decide +kernel
theorem d_MD_chosen_72 : decode b_MD_chosen 72 = .ok (.iconst 1, 1) := by decide +kernel
theorem d_MD_chosen_73 : decode b_MD_chosen 73 = .ok (.goto 4, 3) := by decide +kernel
theorem d_MD_chosen_76 : decode b_MD_chosen 76 = .ok (.iconst 0, 1) := by decide +kernel
theorem d_MD_chosen_77 : decode b_MD_chosen 77 = .ok (.putfield 48, 3) := by decide +kernel
theorem d_MD_chosen_80 : decode b_MD_chosen 80 = .ok (.aload_n 0, 1) := by decide +kernel
theorem d_MD_chosen_81 : decode b_MD_chosen 81 = .ok (.iconst 2, 1) := by decide +kernel
theorem d_MD_chosen_82 : decode b_MD_chosen 82 = .ok (.invokevirtual 96, 3) := by decide +kernel
theorem d_MD_chosen_85 : decode b_MD_chosen 85 = .ok (.istore_n 1, 1) := by decide +kernel
theorem d_MD_chosen_86 : decode b_MD_chosen 86 = .ok (.iload_n 1, 1) := by decide +kernel
theorem d_MD_chosen_87 : decode b_MD_chosen 87 = .ok (.ifCond .ge 10, 3) := by decide +kernel
theorem d_MD_chosen_90 : decode b_MD_chosen 90 = .ok (.aload_n 0, 1) := by decide +kernel
theorem d_MD_chosen_91 : decode b_MD_chosen 91 = .ok (.invokevirtual 99, 3) := by decide +kernel
theorem d_MD_chosen_94 : decode b_MD_chosen 94 = .ok (.goto 4, 3) := by decide +kernel
theorem d_MD_chosen_97 : decode b_MD_chosen 97 = .ok (.iload_n 1, 1) := by decide +kernel
theorem d_MD_chosen_98 : decode b_MD_chosen 98 = .ok (.ireturn, 1) := by decide +kernel
theorem d_MD_closeUp_0 : decode b_MD_closeUp 0 = .ok (.aload_n 0, 1) := by decide +kernel
theorem d_MD_closeUp_1 : decode b_MD_closeUp 1 = .ok (.dup, 1) := by decide +kernel
theorem d_MD_closeUp_2 : decode b_MD_closeUp 2 = .ok (.getfield 55, 3) := by decide +kernel
theorem d_MD_closeUp_5 : decode b_MD_closeUp 5 = .ok (.iconst 1, 1) := by decide +kernel
theorem d_MD_closeUp_6 : decode b_MD_closeUp 6 = .ok (.isub, 1) := by decide +kernel
theorem d_MD_closeUp_7 : decode b_MD_closeUp 7 = .ok (.putfield 55, 3) := by decide +kernel
theorem d_MD_closeUp_10 : decode b_MD_closeUp 10 = .ok (.iload_n 1, 1) := by decide +kernel
theorem d_MD_closeUp_11 : decode b_MD_closeUp 11 = .ok (.istore_n 2, 1) := by decide +kernel
theorem d_MD_closeUp_12 : decode b_MD_closeUp 12 = .ok (.iload_n 2, 1) := by decide +kernel
theorem d_MD_closeUp_13 : decode b_MD_closeUp 13 = .ok (.aload_n 0, 1) := by decide +kernel
theorem d_MD_closeUp_14 : decode b_MD_closeUp 14 = .ok (.getfield 55, 3) := by decide +kernel
theorem d_MD_closeUp_17 : decode b_MD_closeUp 17 = .ok (.if_icmp .ge 51, 3) := by decide +kernel
theorem d_MD_closeUp_20 : decode b_MD_closeUp 20 = .ok (.aload_n 0, 1) := by decide +kernel
theorem d_MD_closeUp_21 : decode b_MD_closeUp 21 = .ok (.getfield 17, 3) := by decide +kernel
theorem d_MD_closeUp_24 : decode b_MD_closeUp 24 = .ok (.iload_n 2, 1) := by decide +kernel
theorem d_MD_closeUp_25 : decode b_MD_closeUp 25 = .ok (.aload_n 0, 1) := by decide +kernel
theorem d_MD_closeUp_26 : decode b_MD_closeUp 26 = .ok (.getfield 17, 3) := by decide +kernel
theorem d_MD_closeUp_29 : decode b_MD_closeUp 29 = .ok (.iload_n 2, 1) := by decide +kernel
theorem d_MD_closeUp_30 : decode b_MD_closeUp 30 = .ok (.iconst 1, 1) := by decide +kernel
theorem d_MD_closeUp_31 : decode b_MD_closeUp 31 = .ok (.iadd, 1) := by decide +kernel
theorem d_MD_closeUp_32 : decode b_MD_closeUp 32 = .ok (.iaload, 1) := by decide +kernel
theorem d_MD_closeUp_33 : decode b_MD_closeUp 33 = .ok (.iastore, 1) := by decide +kernel
theorem d_MD_closeUp_34 : decode b_MD_closeUp 34 = .ok (.aload_n 0, 1) := by decide +kernel
theorem d_MD_closeUp_35 : decode b_MD_closeUp 35 = .ok (.getfield 20, 3) := by decide +kernel
theorem d_MD_closeUp_38 : decode b_MD_closeUp 38 = .ok (.iload_n 2, 1) := by decide +kernel
theorem d_MD_closeUp_39 : decode b_MD_closeUp 39 = .ok (.aload_n 0, 1) := by decide +kernel
theorem d_MD_closeUp_40 : decode b_MD_closeUp 40 = .ok (.getfield 20, 3) := by decide +kernel
theorem d_MD_closeUp_43 : decode b_MD_closeUp 43 = .ok (.iload_n 2, 1) := by decide +kernel
theorem d_MD_closeUp_44 : decode b_MD_closeUp 44 = .ok (.iconst 1, 1) := by decide +kernel
theorem d_MD_closeUp_45 : decode b_MD_closeUp 45 = .ok (.iadd, 1) := by decide +kernel
theorem d_MD_closeUp_46 : decode b_MD_closeUp 46 = .ok (.iaload, 1) := by decide +kernel
theorem d_MD_closeUp_47 : decode b_MD_closeUp 47 = .ok (.iastore, 1) := by decide +kernel
theorem d_MD_closeUp_48 : decode b_MD_closeUp 48 = .ok (.aload_n 0, 1) := by decide +kernel
theorem d_MD_closeUp_49 : decode b_MD_closeUp 49 = .ok (.getfield 23, 3) := by decide +kernel
theorem d_MD_closeUp_52 : decode b_MD_closeUp 52 = .ok (.iload_n 2, 1) := by decide +kernel
theorem d_MD_closeUp_53 : decode b_MD_closeUp 53 = .ok (.aload_n 0, 1) := by decide +kernel
theorem d_MD_closeUp_54 : decode b_MD_closeUp 54 = .ok (.getfield 23, 3) := by decide +kernel
theorem d_MD_closeUp_57 : decode b_MD_closeUp 57 = .ok (.iload_n 2, 1) := by decide +kernel
theorem d_MD_closeUp_58 : decode b_MD_closeUp 58 = .ok (.iconst 1, 1) := by decide +kernel
theorem d_MD_closeUp_59 : decode b_MD_closeUp 59 = .ok (.iadd, 1) := by decide +kernel
theorem d_MD_closeUp_60 : decode b_MD_closeUp 60 = .ok (.baload, 1) := by decide +kernel
theorem d_MD_closeUp_61 : decode b_MD_closeUp 61 = .ok (.bastore, 1) := by decide +kernel
theorem d_MD_closeUp_62 : decode b_MD_closeUp 62 = .ok (.iinc 2 1, 3) := by decide +kernel
theorem d_MD_closeUp_65 : decode b_MD_closeUp 65 = .ok (.goto (-53), 3) := by decide +kernel
theorem d_MD_closeUp_68 : decode b_MD_closeUp 68 = .ok (.return_, 1) := by decide +kernel
theorem d_MD_copyRequest_0 : decode b_MD_copyRequest 0 = .ok (.aload_n 0, 1) := by decide +kernel
theorem d_MD_copyRequest_1 : decode b_MD_copyRequest 1 = .ok (.getfield 27, 3) := by decide +kernel
theorem d_MD_copyRequest_4 : decode b_MD_copyRequest 4 = .ok (.iload_n 2, 1) := by decide +kernel
theorem d_MD_copyRequest_5 : decode b_MD_copyRequest 5 = .ok (.aload_n 0, 1) := by decide +kernel
theorem d_MD_copyRequest_6 : decode b_MD_copyRequest 6 = .ok (.getfield 27, 3) := by decide +kernel
theorem d_MD_copyRequest_9 : decode b_MD_copyRequest 9 = .ok (.iload_n 1, 1) := by decide +kernel
theorem d_MD_copyRequest_10 : decode b_MD_copyRequest 10 = .ok (.iaload, 1) := by decide +kernel
theorem d_MD_copyRequest_11 : decode b_MD_copyRequest 11 = .ok (.iastore, 1) := by decide +kernel
theorem d_MD_copyRequest_12 : decode b_MD_copyRequest 12 = .ok (.aload_n 0, 1) := by decide +kernel
theorem d_MD_copyRequest_13 : decode b_MD_copyRequest 13 = .ok (.getfield 30, 3) := by decide +kernel
theorem d_MD_copyRequest_16 : decode b_MD_copyRequest 16 = .ok (.iload_n 2, 1) := by decide +kernel
theorem d_MD_copyRequest_17 : decode b_MD_copyRequest 17 = .ok (.aload_n 0, 1) := by decide +kernel
theorem d_MD_copyRequest_18 : decode b_MD_copyRequest 18 = .ok (.getfield 30, 3) := by decide +kernel
theorem d_MD_copyRequest_21 : decode b_MD_copyRequest 21 = .ok (.iload_n 1, 1) := by decide +kernel
theorem d_MD_copyRequest_22 : decode b_MD_copyRequest 22 = .ok (.iaload, 1) := by decide +kernel
theorem d_MD_copyRequest_23 : decode b_MD_copyRequest 23 = .ok (.iastore, 1) := by decide +kernel
theorem d_MD_copyRequest_24 : decode b_MD_copyRequest 24 = .ok (.aload_n 0, 1) := by decide +kernel
theorem d_MD_copyRequest_25 : decode b_MD_copyRequest 25 = .ok (.getfield 33, 3) := by decide +kernel
theorem d_MD_copyRequest_28 : decode b_MD_copyRequest 28 = .ok (.iload_n 2, 1) := by decide +kernel
theorem d_MD_copyRequest_29 : decode b_MD_copyRequest 29 = .ok (.aload_n 0, 1) := by decide +kernel
theorem d_MD_copyRequest_30 : decode b_MD_copyRequest 30 = .ok (.getfield 33, 3) := by decide +kernel
theorem d_MD_copyRequest_33 : decode b_MD_copyRequest 33 = .ok (.iload_n 1, 1) := by decide +kernel
theorem d_MD_copyRequest_34 : decode b_MD_copyRequest 34 = .ok (.iaload, 1) := by decide +kernel
theorem d_MD_copyRequest_35 : decode b_MD_copyRequest 35 = .ok (.iastore, 1) := by decide +kernel
theorem d_MD_copyRequest_36 : decode b_MD_copyRequest 36 = .ok (.aload_n 0, 1) := by decide +kernel
theorem d_MD_copyRequest_37 : decode b_MD_copyRequest 37 = .ok (.getfield 36, 3) := by decide +kernel
theorem d_MD_copyRequest_40 : decode b_MD_copyRequest 40 = .ok (.iload_n 2, 1) := by decide +kernel
theorem d_MD_copyRequest_41 : decode b_MD_copyRequest 41 = .ok (.aload_n 0, 1) := by decide +kernel
theorem d_MD_copyRequest_42 : decode b_MD_copyRequest 42 = .ok (.getfield 36, 3) := by decide +kernel
theorem d_MD_copyRequest_45 : decode b_MD_copyRequest 45 = .ok (.iload_n 1, 1) := by decide +kernel
theorem d_MD_copyRequest_46 : decode b_MD_copyRequest 46 = .ok (.iaload, 1) := by decide +kernel
theorem d_MD_copyRequest_47 : decode b_MD_copyRequest 47 = .ok (.iastore, 1) := by decide +kernel
theorem d_MD_copyRequest_48 : decode b_MD_copyRequest 48 = .ok (.aload_n 0, 1) := by decide +kernel
