section
theorem dX14_string_0 : decode cX14_string 0 = .ok (.aload_n 0, 1) := by decide +kernel
theorem dX14_string_1 : decode cX14_string 1 = .ok (.bipush 34, 2) := by decide +kernel
theorem dX14_string_3 : decode cX14_string 3 = .ok (.invokevirtual 172, 3) := by decide +kernel
theorem dX14_string_6 : decode cX14_string 6 = .ok (.iload_n 2, 1) := by decide +kernel
theorem dX14_string_7 : decode cX14_string 7 = .ok (.istore 4, 2) := by decide +kernel
theorem dX14_string_9 : decode cX14_string 9 = .ok (.iload 4, 2) := by decide +kernel
theorem dX14_string_11 : decode cX14_string 11 = .ok (.iload_n 3, 1) := by decide +kernel
theorem dX14_string_12 : decode cX14_string 12 = .ok (.if_icmp .ge 191, 3) := by decide +kernel
theorem dX14_string_15 : decode cX14_string 15 = .ok (.aload_n 1, 1) := by decide +kernel
theorem dX14_string_16 : decode cX14_string 16 = .ok (.iload 4, 2) := by decide +kernel
theorem dX14_string_18 : decode cX14_string 18 = .ok (.iaload, 1) := by decide +kernel
theorem dX14_string_19 : decode cX14_string 19 = .ok (.istore 5, 2) := by decide +kernel
theorem dX14_string_21 : decode cX14_string 21 = .ok (.iload 5, 2) := by decide +kernel
theorem dX14_string_23 : decode cX14_string 23 = .ok (.ldc 179, 2) := by decide +kernel
theorem dX14_string_25 : decode cX14_string 25 = .ok (.ldc 180, 2) := by decide +kernel
theorem dX14_string_27 : decode cX14_string 27 = .ok (.invokestatic 181, 3) := by decide +kernel
theorem dX14_string_30 : decode cX14_string 30 = .ok (.ifCond .eq 31, 3) := by decide +kernel
theorem dX14_string_33 : decode cX14_string 33 = .ok (.iload 4, 2) := by decide +kernel
theorem dX14_string_35 : decode cX14_string 35 = .ok (.iconst 1, 1) := by decide +kernel
theorem dX14_string_36 : decode cX14_string 36 = .ok (.iadd, 1) := by decide +kernel
theorem dX14_string_37 : decode cX14_string 37 = .ok (.iload_n 3, 1) := by decide +kernel
theorem dX14_string_38 : decode cX14_string 38 = .ok (.if_icmp .ge 23, 3) := by decide +kernel
theorem dX14_string_41 : decode cX14_string 41 = .ok (.aload_n 1, 1) := by decide +kernel
theorem dX14_string_42 : decode cX14_string 42 = .ok (.iload 4, 2) := by decide +kernel
theorem dX14_string_44 : decode cX14_string 44 = .ok (.iconst 1, 1) := by decide +kernel
theorem dX14_string_45 : decode cX14_string 45 = .ok (.iadd, 1) := by decide +kernel
theorem dX14_string_46 : decode cX14_string 46 = .ok (.iaload, 1) := by decide +kernel
theorem dX14_string_47 : decode cX14_string 47 = .ok (.ldc 185, 2) := by decide +kernel
theorem dX14_string_49 : decode cX14_string 49 = .ok (.ldc 186, 2) := by decide +kernel
theorem dX14_string_51 : decode cX14_string 51 = .ok (.invokestatic 181, 3) := by decide +kernel
theorem dX14_string_54 : decode cX14_string 54 = .ok (.ifCond .eq 7, 3) := by decide +kernel
theorem dX14_string_57 : decode cX14_string 57 = .ok (.iconst 1, 1) := by decide +kernel
theorem dX14_string_58 : decode cX14_string 58 = .ok (.goto 4, 3) := by decide +kernel
theorem dX14_string_61 : decode cX14_string 61 = .ok (.iconst 0, 1) := by decide +kernel
theorem dX14_string_62 : decode cX14_string 62 = .ok (.istore 6, 2) := by decide +kernel
theorem dX14_string_64 : decode cX14_string 64 = .ok (.iload 5, 2) := by decide +kernel
theorem dX14_string_66 : decode cX14_string 66 = .ok (.bipush 34, 2) := by decide +kernel
theorem dX14_string_68 : decode cX14_string 68 = .ok (.if_icmp .eq 10, 3) := by decide +kernel
theorem dX14_string_71 : decode cX14_string 71 = .ok (.iload 5, 2) := by decide +kernel
theorem dX14_string_73 : decode cX14_string 73 = .ok (.bipush 92, 2) := by decide +kernel
theorem dX14_string_75 : decode cX14_string 75 = .ok (.if_icmp .ne 18, 3) := by decide +kernel
theorem dX14_string_78 : decode cX14_string 78 = .ok (.aload_n 0, 1) := by decide +kernel
theorem dX14_string_79 : decode cX14_string 79 = .ok (.bipush 92, 2) := by decide +kernel
theorem dX14_string_81 : decode cX14_string 81 = .ok (.invokevirtual 172, 3) := by decide +kernel
theorem dX14_string_84 : decode cX14_string 84 = .ok (.aload_n 0, 1) := by decide +kernel
theorem dX14_string_85 : decode cX14_string 85 = .ok (.iload 5, 2) := by decide +kernel
theorem dX14_string_87 : decode cX14_string 87 = .ok (.invokevirtual 172, 3) := by decide +kernel
theorem dX14_string_90 : decode cX14_string 90 = .ok (.goto 107, 3) := by decide +kernel
theorem dX14_string_93 : decode cX14_string 93 = .ok (.iload 5, 2) := by decide +kernel
theorem dX14_string_95 : decode cX14_string 95 = .ok (.bipush 32, 2) := by decide +kernel
theorem dX14_string_97 : decode cX14_string 97 = .ok (.if_icmp .ge 41, 3) := by decide +kernel
theorem dX14_string_100 : decode cX14_string 100 = .ok (.aload_n 0, 1) := by decide +kernel
theorem dX14_string_101 : decode cX14_string 101 = .ok (.bipush 92, 2) := by decide +kernel
theorem dX14_string_103 : decode cX14_string 103 = .ok (.invokevirtual 172, 3) := by decide +kernel
theorem dX14_string_106 : decode cX14_string 106 = .ok (.aload_n 0, 1) := by decide +kernel
theorem dX14_string_107 : decode cX14_string 107 = .ok (.ldc 187, 2) := by decide +kernel
theorem dX14_string_109 : decode cX14_string 109 = .ok (.invokevirtual 189, 3) := by decide +kernel
theorem dX14_string_112 : decode cX14_string 112 = .ok (.aload_n 0, 1) := by decide +kernel
theorem dX14_string_113 : decode cX14_string 113 = .ok (.iload 5, 2) := by decide +kernel
theorem dX14_string_115 : decode cX14_string 115 = .ok (.iconst 4, 1) := by decide +kernel
theorem dX14_string_116 : decode cX14_string 116 = .ok (.ishr, 1) := by decide +kernel
theorem dX14_string_117 : decode cX14_string 117 = .ok (.invokestatic 193, 3) := by decide +kernel
theorem dX14_string_120 : decode cX14_string 120 = .ok (.invokevirtual 172, 3) := by decide +kernel
theorem dX14_string_123 : decode cX14_string 123 = .ok (.aload_n 0, 1) := by decide +kernel
theorem dX14_string_124 : decode cX14_string 124 = .ok (.iload 5, 2) := by decide +kernel
theorem dX14_string_126 : decode cX14_string 126 = .ok (.bipush 15, 2) := by decide +kernel
theorem dX14_string_128 : decode cX14_string 128 = .ok (.iand, 1) := by decide +kernel
theorem dX14_string_129 : decode cX14_string 129 = .ok (.invokestatic 193, 3) := by decide +kernel
theorem dX14_string_132 : decode cX14_string 132 = .ok (.invokevirtual 172, 3) := by decide +kernel
theorem dX14_string_135 : decode cX14_string 135 = .ok (.goto 62, 3) := by decide +kernel
theorem dX14_string_138 : decode cX14_string 138 = .ok (.iload 6, 2) := by decide +kernel
theorem dX14_string_140 : decode cX14_string 140 = .ok (.ifCond .eq 34, 3) := by decide +kernel
theorem dX14_string_143 : decode cX14_string 143 = .ok (.aload_n 0, 1) := by decide +kernel
theorem dX14_string_144 : decode cX14_string 144 = .ok (.ldc 197, 2) := by decide +kernel
theorem dX14_string_146 : decode cX14_string 146 = .ok (.iload 5, 2) := by decide +kernel
theorem dX14_string_148 : decode cX14_string 148 = .ok (.ldc 179, 2) := by decide +kernel
theorem dX14_string_150 : decode cX14_string 150 = .ok (.isub, 1) := by decide +kernel
theorem dX14_string_151 : decode cX14_string 151 = .ok (.bipush 10, 2) := by decide +kernel
theorem dX14_string_153 : decode cX14_string 153 = .ok (.ishl, 1) := by decide +kernel
theorem dX14_string_154 : decode cX14_string 154 = .ok (.iadd, 1) := by decide +kernel
theorem dX14_string_155 : decode cX14_string 155 = .ok (.aload_n 1, 1) := by decide +kernel
theorem dX14_string_156 : decode cX14_string 156 = .ok (.iload 4, 2) := by decide +kernel
theorem dX14_string_158 : decode cX14_string 158 = .ok (.iconst 1, 1) := by decide +kernel
theorem dX14_string_159 : decode cX14_string 159 = .ok (.iadd, 1) := by decide +kernel
theorem dX14_string_160 : decode cX14_string 160 = .ok (.iaload, 1) := by decide +kernel
theorem dX14_string_161 : decode cX14_string 161 = .ok (.iadd, 1) := by decide +kernel
theorem dX14_string_162 : decode cX14_string 162 = .ok (.ldc 185, 2) := by decide +kernel
theorem dX14_string_164 : decode cX14_string 164 = .ok (.isub, 1) := by decide +kernel
theorem dX14_string_165 : decode cX14_string 165 = .ok (.invokevirtual 198, 3) := by decide +kernel
theorem dX14_string_168 : decode cX14_string 168 = .ok (.iinc 4 1, 3) := by decide +kernel
theorem dX14_string_171 : decode cX14_string 171 = .ok (.goto 26, 3) := by decide +kernel
theorem dX14_string_174 : decode cX14_string 174 = .ok (.aload_n 0, 1) := by decide +kernel
theorem dX14_string_175 : decode cX14_string 175 = .ok (.iload 5, 2) := by decide +kernel
theorem dX14_string_177 : decode cX14_string 177 = .ok (.ldc 179, 2) := by decide +kernel
theorem dX14_string_179 : decode cX14_string 179 = .ok (.ldc 186, 2) := by decide +kernel
theorem dX14_string_181 : decode cX14_string 181 = .ok (.invokestatic 181, 3) := by decide +kernel
theorem dX14_string_184 : decode cX14_string 184 = .ok (.ifCond .eq 8, 3) := by decide +kernel
theorem dX14_string_187 : decode cX14_string 187 = .ok (.ldc 201, 2) := by decide +kernel
theorem dX14_string_189 : decode cX14_string 189 = .ok (.goto 5, 3) := by decide +kernel
theorem dX14_string_192 : decode cX14_string 192 = .ok (.iload 5, 2) := by decide +kernel
theorem dX14_string_194 : decode cX14_string 194 = .ok (.invokevirtual 198, 3) := by decide +kernel
theorem dX14_string_197 : decode cX14_string 197 = .ok (.iinc 4 1, 3) := by decide +kernel
theorem dX14_string_200 : decode cX14_string 200 = .ok (.goto (-191), 3) := by decide +kernel
theorem dX14_string_203 : decode cX14_string 203 = .ok (.aload_n 0, 1) := by decide +kernel
theorem dX14_string_204 : decode cX14_string 204 = .ok (.bipush 34, 2) := by decide +kernel
theorem dX14_string_206 : decode cX14_string 206 = .ok (.invokevirtual 172, 3) := by decide +kernel
theorem dX14_string_209 : decode cX14_string 209 = .ok (.return_, 1) := by decide +kernel
theorem dX14_send_0 : decode cX14_send 0 = .ok (.aload_n 0, 1) := by decide +kernel
theorem dX14_send_1 : decode cX14_send 1 = .ok (.getfield 202, 3) := by decide +kernel
theorem dX14_send_4 : decode cX14_send 4 = .ok (.ifCond .eq 4, 3) := by decide +kernel
theorem dX14_send_7 : decode cX14_send 7 = .ok (.return_, 1) := by decide +kernel
theorem dX14_send_8 : decode cX14_send 8 = .ok (.aload_n 0, 1) := by decide +kernel
theorem dX14_send_9 : decode cX14_send 9 = .ok (.getfield 160, 3) := by decide +kernel
theorem dX14_send_12 : decode cX14_send 12 = .ok (.istore_n 1, 1) := by decide +kernel
theorem dX14_send_13 : decode cX14_send 13 = .ok (.aload_n 0, 1) := by decide +kernel
theorem dX14_send_14 : decode cX14_send 14 = .ok (.ldc 206, 2) := by decide +kernel
theorem dX14_send_16 : decode cX14_send 16 = .ok (.invokevirtual 189, 3) := by decide +kernel
theorem dX14_send_19 : decode cX14_send 19 = .ok (.aload_n 0, 1) := by decide +kernel
theorem dX14_send_20 : decode cX14_send 20 = .ok (.iload_n 1, 1) := by decide +kernel
theorem dX14_send_21 : decode cX14_send 21 = .ok (.invokevirtual 208, 3) := by decide +kernel
theorem dX14_send_24 : decode cX14_send 24 = .ok (.aload_n 0, 1) := by decide +kernel
theorem dX14_send_25 : decode cX14_send 25 = .ok (.bipush 13, 2) := by decide +kernel
theorem dX14_send_27 : decode cX14_send 27 = .ok (.invokevirtual 172, 3) := by decide +kernel
theorem dX14_send_30 : decode cX14_send 30 = .ok (.aload_n 0, 1) := by decide +kernel
theorem dX14_send_31 : decode cX14_send 31 = .ok (.bipush 10, 2) := by decide +kernel
theorem dX14_send_33 : decode cX14_send 33 = .ok (.invokevirtual 172, 3) := by decide +kernel
theorem dX14_send_36 : decode cX14_send 36 = .ok (.aload_n 0, 1) := by decide +kernel
theorem dX14_send_37 : decode cX14_send 37 = .ok (.bipush 13, 2) := by decide +kernel
theorem dX14_send_39 : decode cX14_send 39 = .ok (.invokevirtual 172, 3) := by decide +kernel
theorem dX14_send_42 : decode cX14_send 42 = .ok (.aload_n 0, 1) := by decide +kernel
theorem dX14_send_43 : decode cX14_send 43 = .ok (.bipush 10, 2) := by decide +kernel
theorem dX14_send_45 : decode cX14_send 45 = .ok (.invokevirtual 172, 3) := by decide +kernel
theorem dX14_send_48 : decode cX14_send 48 = .ok (.aload_n 0, 1) := by decide +kernel
theorem dX14_send_49 : decode cX14_send 49 = .ok (.getfield 160, 3) := by decide +kernel
theorem dX14_send_52 : decode cX14_send 52 = .ok (.istore_n 2, 1) := by decide +kernel
theorem dX14_send_53 : decode cX14_send 53 = .ok (.aload_n 0, 1) := by decide +kernel
theorem dX14_send_54 : decode cX14_send 54 = .ok (.iload_n 1, 1) := by decide +kernel
theorem dX14_send_55 : decode cX14_send 55 = .ok (.putfield 160, 3) := by decide +kernel
theorem dX14_send_58 : decode cX14_send 58 = .ok (.iload_n 1, 1) := by decide +kernel
theorem dX14_send_59 : decode cX14_send 59 = .ok (.sipush 20000, 3) := by decide +kernel
theorem dX14_send_62 : decode cX14_send 62 = .ok (.if_icmp .gt 15, 3) := by decide +kernel
theorem dX14_send_65 : decode cX14_send 65 = .ok (.aload_n 0, 1) := by decide +kernel
theorem dX14_send_66 : decode cX14_send 66 = .ok (.getfield 211, 3) := by decide +kernel
theorem dX14_send_69 : decode cX14_send 69 = .ok (.iload_n 2, 1) := by decide +kernel
theorem dX14_send_70 : decode cX14_send 70 = .ok (.iadd, 1) := by decide +kernel
theorem dX14_send_71 : decode cX14_send 71 = .ok (.sipush 20000, 3) := by decide +kernel
theorem dX14_send_74 : decode cX14_send 74 = .ok (.if_icmp .le 14, 3) := by decide +kernel
theorem dX14_send_77 : decode cX14_send 77 = .ok (.aload_n 0, 1) := by decide +kernel
theorem dX14_send_78 : decode cX14_send 78 = .ok (.dup, 1) := by decide +kernel
theorem dX14_send_79 : decode cX14_send 79 = .ok (.getfield 214, 3) := by decide +kernel
theorem dX14_send_82 : decode cX14_send 82 = .ok (.iconst 1, 1) := by decide +kernel
theorem dX14_send_83 : decode cX14_send 83 = .ok (.iadd, 1) := by decide +kernel
theorem dX14_send_84 : decode cX14_send 84 = .ok (.putfield 214, 3) := by decide +kernel
theorem dX14_send_87 : decode cX14_send 87 = .ok (.return_, 1) := by decide +kernel
theorem dX14_send_88 : decode cX14_send 88 = .ok (.iload_n 1, 1) := by decide +kernel
theorem dX14_send_89 : decode cX14_send 89 = .ok (.istore_n 3, 1) := by decide +kernel
theorem dX14_send_90 : decode cX14_send 90 = .ok (.iload_n 3, 1) := by decide +kernel
theorem dX14_send_91 : decode cX14_send 91 = .ok (.iload_n 2, 1) := by decide +kernel
theorem dX14_send_92 : decode cX14_send 92 = .ok (.if_icmp .ge 28, 3) := by decide +kernel
theorem dX14_send_95 : decode cX14_send 95 = .ok (.aload_n 0, 1) := by decide +kernel
theorem dX14_send_96 : decode cX14_send 96 = .ok (.getfield 13, 3) := by decide +kernel
theorem dX14_send_99 : decode cX14_send 99 = .ok (.aload_n 0, 1) := by decide +kernel
theorem dX14_send_100 : decode cX14_send 100 = .ok (.getfield 211, 3) := by decide +kernel
theorem dX14_send_103 : decode cX14_send 103 = .ok (.iload_n 3, 1) := by decide +kernel
theorem dX14_send_104 : decode cX14_send 104 = .ok (.iadd, 1) := by decide +kernel
theorem dX14_send_105 : decode cX14_send 105 = .ok (.iload_n 1, 1) := by decide +kernel
theorem dX14_send_106 : decode cX14_send 106 = .ok (.isub, 1) := by decide +kernel
theorem dX14_send_107 : decode cX14_send 107 = .ok (.aload_n 0, 1) := by decide +kernel
theorem dX14_send_108 : decode cX14_send 108 = .ok (.getfield 17, 3) := by decide +kernel
theorem dX14_send_111 : decode cX14_send 111 = .ok (.iload_n 3, 1) := by decide +kernel
theorem dX14_send_112 : decode cX14_send 112 = .ok (.iaload, 1) := by decide +kernel
theorem dX14_send_113 : decode cX14_send 113 = .ok (.iastore, 1) := by decide +kernel
theorem dX14_send_114 : decode cX14_send 114 = .ok (.iinc 3 1, 3) := by decide +kernel
theorem dX14_send_117 : decode cX14_send 117 = .ok (.goto (-27), 3) := by decide +kernel
theorem dX14_send_120 : decode cX14_send 120 = .ok (.aload_n 0, 1) := by decide +kernel
theorem dX14_send_121 : decode cX14_send 121 = .ok (.dup, 1) := by decide +kernel
theorem dX14_send_122 : decode cX14_send 122 = .ok (.getfield 211, 3) := by decide +kernel
theorem dX14_send_125 : decode cX14_send 125 = .ok (.iload_n 2, 1) := by decide +kernel
theorem dX14_send_126 : decode cX14_send 126 = .ok (.iload_n 1, 1) := by decide +kernel
theorem dX14_send_127 : decode cX14_send 127 = .ok (.isub, 1) := by decide +kernel
theorem dX14_send_128 : decode cX14_send 128 = .ok (.iadd, 1) := by decide +kernel
theorem dX14_send_129 : decode cX14_send 129 = .ok (.putfield 211, 3) := by decide +kernel
theorem dX14_send_132 : decode cX14_send 132 = .ok (.iconst 0, 1) := by decide +kernel
theorem dX14_send_133 : decode cX14_send 133 = .ok (.istore_n 3, 1) := by decide +kernel
theorem dX14_send_134 : decode cX14_send 134 = .ok (.iload_n 3, 1) := by decide +kernel
theorem dX14_send_135 : decode cX14_send 135 = .ok (.iload_n 1, 1) := by decide +kernel
theorem dX14_send_136 : decode cX14_send 136 = .ok (.if_icmp .ge 26, 3) := by decide +kernel
theorem dX14_send_139 : decode cX14_send 139 = .ok (.aload_n 0, 1) := by decide +kernel
theorem dX14_send_140 : decode cX14_send 140 = .ok (.getfield 13, 3) := by decide +kernel
theorem dX14_send_143 : decode cX14_send 143 = .ok (.aload_n 0, 1) := by decide +kernel
theorem dX14_send_144 : decode cX14_send 144 = .ok (.getfield 211, 3) := by decide +kernel
theorem dX14_send_147 : decode cX14_send 147 = .ok (.iload_n 3, 1) := by decide +kernel
theorem dX14_send_148 : decode cX14_send 148 = .ok (.iadd, 1) := by decide +kernel
theorem dX14_send_149 : decode cX14_send 149 = .ok (.aload_n 0, 1) := by decide +kernel
theorem dX14_send_150 : decode cX14_send 150 = .ok (.getfield 17, 3) := by decide +kernel
theorem dX14_send_153 : decode cX14_send 153 = .ok (.iload_n 3, 1) := by decide +kernel
theorem dX14_send_154 : decode cX14_send 154 = .ok (.iaload, 1) := by decide +kernel
theorem dX14_send_155 : decode cX14_send 155 = .ok (.iastore, 1) := by decide +kernel
theorem dX14_send_156 : decode cX14_send 156 = .ok (.iinc 3 1, 3) := by decide +kernel
theorem dX14_send_159 : decode cX14_send 159 = .ok (.goto (-25), 3) := by decide +kernel
theorem dX14_send_162 : decode cX14_send 162 = .ok (.aload_n 0, 1) := by decide +kernel
theorem dX14_send_163 : decode cX14_send 163 = .ok (.dup, 1) := by decide +kernel
theorem dX14_send_164 : decode cX14_send 164 = .ok (.getfield 211, 3) := by decide +kernel
theorem dX14_send_167 : decode cX14_send 167 = .ok (.iload_n 1, 1) := by decide +kernel
theorem dX14_send_168 : decode cX14_send 168 = .ok (.iadd, 1) := by decide +kernel
theorem dX14_send_169 : decode cX14_send 169 = .ok (.putfield 211, 3) := by decide +kernel
theorem dX14_send_172 : decode cX14_send 172 = .ok (.return_, 1) := by decide +kernel
theorem dX14_beginAnswer_0 : decode cX14_beginAnswer 0 = .ok (.aload_n 0, 1) := by decide +kernel
theorem dX14_beginAnswer_1 : decode cX14_beginAnswer 1 = .ok (.iconst 0, 1) := by decide +kernel
theorem dX14_beginAnswer_2 : decode cX14_beginAnswer 2 = .ok (.putfield 160, 3) := by decide +kernel
theorem dX14_beginAnswer_5 : decode cX14_beginAnswer 5 = .ok (.aload_n 0, 1) := by decide +kernel
theorem dX14_beginAnswer_6 : decode cX14_beginAnswer 6 = .ok (.ldc_w 386, 3) := by decide +kernel
theorem dX14_beginAnswer_9 : decode cX14_beginAnswer 9 = .ok (.invokevirtual 189, 3) := by decide +kernel
theorem dX14_beginAnswer_12 : decode cX14_beginAnswer 12 = .ok (.aload_n 0, 1) := by decide +kernel
theorem dX14_beginAnswer_13 : decode cX14_beginAnswer 13 = .ok (.getfield 374, 3) := by decide +kernel
theorem dX14_beginAnswer_16 : decode cX14_beginAnswer 16 = .ok (.ifCond .eq 13, 3) := by decide +kernel
theorem dX14_beginAnswer_19 : decode cX14_beginAnswer 19 = .ok (.aload_n 0, 1) := by decide +kernel
theorem dX14_beginAnswer_20 : decode cX14_beginAnswer 20 = .ok (.ldc_w 307, 3) := by decide +kernel
theorem dX14_beginAnswer_23 : decode cX14_beginAnswer 23 = .ok (.invokevirtual 189, 3) := by decide +kernel
theorem dX14_beginAnswer_26 : decode cX14_beginAnswer 26 = .ok (.goto 34, 3) := by decide +kernel
theorem dX14_beginAnswer_29 : decode cX14_beginAnswer 29 = .ok (.aload_n 0, 1) := by decide +kernel
theorem dX14_beginAnswer_30 : decode cX14_beginAnswer 30 = .ok (.getfield 377, 3) := by decide +kernel
theorem dX14_beginAnswer_33 : decode cX14_beginAnswer 33 = .ok (.ifCond .eq 19, 3) := by decide +kernel
theorem dX14_beginAnswer_36 : decode cX14_beginAnswer 36 = .ok (.aload_n 0, 1) := by decide +kernel
theorem dX14_beginAnswer_37 : decode cX14_beginAnswer 37 = .ok (.aload_n 0, 1) := by decide +kernel
theorem dX14_beginAnswer_38 : decode cX14_beginAnswer 38 = .ok (.getfield 68, 3) := by decide +kernel
theorem dX14_beginAnswer_41 : decode cX14_beginAnswer 41 = .ok (.iconst 0, 1) := by decide +kernel
theorem dX14_beginAnswer_42 : decode cX14_beginAnswer 42 = .ok (.aload_n 0, 1) := by decide +kernel
theorem dX14_beginAnswer_43 : decode cX14_beginAnswer 43 = .ok (.getfield 383, 3) := by decide +kernel
theorem dX14_beginAnswer_46 : decode cX14_beginAnswer 46 = .ok (.invokevirtual 388, 3) := by decide +kernel
theorem dX14_beginAnswer_49 : decode cX14_beginAnswer 49 = .ok (.goto 11, 3) := by decide +kernel
theorem dX14_beginAnswer_52 : decode cX14_beginAnswer 52 = .ok (.aload_n 0, 1) := by decide +kernel
theorem dX14_beginAnswer_53 : decode cX14_beginAnswer 53 = .ok (.aload_n 0, 1) := by decide +kernel
theorem dX14_beginAnswer_54 : decode cX14_beginAnswer 54 = .ok (.getfield 380, 3) := by decide +kernel
theorem dX14_beginAnswer_57 : decode cX14_beginAnswer 57 = .ok (.invokevirtual 208, 3) := by decide +kernel
theorem dX14_beginAnswer_60 : decode cX14_beginAnswer 60 = .ok (.return_, 1) := by decide +kernel
theorem dX14_beginResult_0 : decode cX14_beginResult 0 = .ok (.aload_n 0, 1) := by decide +kernel
theorem dX14_beginResult_1 : decode cX14_beginResult 1 = .ok (.invokevirtual 392, 3) := by decide +kernel
theorem dX14_beginResult_4 : decode cX14_beginResult 4 = .ok (.aload_n 0, 1) := by decide +kernel
theorem dX14_beginResult_5 : decode cX14_beginResult 5 = .ok (.ldc_w 395, 3) := by decide +kernel
theorem dX14_beginResult_8 : decode cX14_beginResult 8 = .ok (.invokevirtual 189, 3) := by decide +kernel
theorem dX14_beginResult_11 : decode cX14_beginResult 11 = .ok (.return_, 1) := by decide +kernel
theorem dX14_endAnswer_0 : decode cX14_endAnswer 0 = .ok (.aload_n 0, 1) := by decide +kernel
theorem dX14_endAnswer_1 : decode cX14_endAnswer 1 = .ok (.bipush 125, 2) := by decide +kernel
theorem dX14_endAnswer_3 : decode cX14_endAnswer 3 = .ok (.invokevirtual 172, 3) := by decide +kernel
theorem dX14_endAnswer_6 : decode cX14_endAnswer 6 = .ok (.aload_n 0, 1) := by decide +kernel
theorem dX14_endAnswer_7 : decode cX14_endAnswer 7 = .ok (.invokevirtual 397, 3) := by decide +kernel
theorem dX14_endAnswer_10 : decode cX14_endAnswer 10 = .ok (.return_, 1) := by decide +kernel
def EX14_string : List (Nat × Nat) := [(16, 6), (101, 0)]
def EX14_send : List (Nat × Nat) := [(16, 3), (16, 4), (16, 6), (101, 0)]
def EX14_beginAnswer : List (Nat × Nat) := [(16, 6), (101, 0)]
def EX14_beginResult : List (Nat × Nat) := [(16, 6), (101, 0)]
def EX14_endAnswer : List (Nat × Nat) := [(16, 3), (16, 4), (16, 6), (101, 0)]
set_option maxHeartbeats 4000000 in
set_option maxRecDepth 20000 in
theorem uX14_string (l : Launch) (dC : Nat → ClassId) (dI : Nat → Nat → Nat) (ca : Nat → ClassId) (base : Nat) (B : jF) (hB : jBok B) (hAp : jAp (dC, dI)) (hB16 : ∀ n G a H, B 16 n G a H ↔ jOb (dC, dI) 16 74 (F16 n G) a H) (hB101 : ∀ n G a H, B 101 n G a H ↔ jAr (dC, dI) (ca 1) (fun j z => True) n a H) (G0 : jT) (H0 : Heap) (r0 : Nat) (r1 : Nat) (a2 : Int32) (a3 : Int32) (n1 : Nat) (pf : Int32) : Met l yX14_string (jw yX14_string cX14_string 7 none) ({ frames := 5, cells := 0, slots := 0, locals := 163 }) (va_Pc [.ref r0, .ref r1, .int a2, .int a3] (fun U => U.heap = H0 ∧ jX B base G0 [] H0 ∧ jG dC dI ca base U ∧ G0 r1 = some (101, n1) ∧ G0 r0 = some (16, 0) ∧ jP (dC, dI) G0 H0 [(r0, 16, 6, .int pf)] ∧ 0 ≤ pf.toInt ∧ pf.toInt ≤ 100000 ∧ 0 ≤ a2.toInt ∧ a3.toInt ≤ n1 ∧ n1 ≤ 200000)) (va_Qv (S := Int32) (fun u => pf.toInt ≤ u.toInt ∧ u.toInt ≤ 100000) (fun u t => jRt (dC, dI) B base G0 EX14_string H0 [(r0, 16, 6, .int u)] t.heap) (jA base)) 0 0 (jA base) := by
  refine Met.ofW (cc := cX14_string) (maxL := 7) (ret := none) (by decide) rfl ?_
  intro p e s m args below meth c s₁ Bd hml hv
  obtain ⟨rfl, hH0, hX, hG, hg_r1, hg_r0, hP0, hp0, hp1, hp2, hp3, hp4⟩ := hv
  have hK := hG.1
  have hx := Bd.exec
  have hb := Bd.bytes
  have hr := Bd.returns
  have hts := atoms_spec (ws := (jw yX14_string cX14_string 7 none)) Bd.pre
  have htw : ∀ w ∈ jWl, w.before _ s = true := fun w h => hts w (List.mem_cons_of_mem _ h)
  have hown : s.vm.findClass RX14 = some m.cls := findClass_of_methodNamed Bd.named
  have hlocks := Bd.notSynchronized
  obtain ⟨Q, hQ⟩ : ∃ Q, Q = MQ below (va_Qv (S := Int32) (fun u => pf.toInt ≤ u.toInt ∧ u.toInt ≤ 100000) (fun u t => jRt (dC, dI) B base G0 EX14_string H0 [(r0, 16, 6, .int u)] t.heap) (jA base)) ([.ref r0, .ref r1, .int a2, .int a3] : List Value).toArray s 0 0 (jA base) := ⟨_, rfl⟩
  rw [← hQ]
  have hl := lv_entry ([.ref r0, .ref r1, .int a2, .int a3]) (n := 7) (Nat.le_of_ble_eq_true rfl)
  rw [lg_entry_eq]
  generalize (lg_sl ([.ref r0, .ref r1, .int a2, .int a3]) ++ List.replicate (7 - (lg_sl ([.ref r0, .ref r1, .int a2, .int a3])).length) Slot.unset).toArray = ls at hl ⊢
  have hl : lv_has ls 7 [(0, .ref r0), (1, .ref r1), (2, .int a2), (3, .int a3)] := hl
  generalize hR : (headSpec (jw yX14_string cX14_string 7 none) ({ frames := 5, cells := 0, slots := 0, locals := 163 })).room = R
  subst hH0
  have hh : jSt (dC, dI) B base G0 G0 EX14_string s.heap 0 0 [(r0, 16, 6, .int pf)] [] [] s.heap [] := jSt.start hX hP0 jMc.nil jIs.nil
  clear hX hP0
  have hk0 : (0 : Int32).toInt = 0 := by decide
  have hk1 : (1 : Int32).toInt = 1 := by decide
  have hk4 : (4 : Int32).toInt = 4 := by decide
  have hk10 : (10 : Int32).toInt = 10 := by decide
  have hk15 : (15 : Int32).toInt = 15 := by decide
  have hk32 : (32 : Int32).toInt = 32 := by decide
  have hk34 : (34 : Int32).toInt = 34 := by decide
  have hk92 : (92 : Int32).toInt = 92 := by decide
  have hk55296 : (55296 : Int32).toInt = 55296 := by decide
  have hk56319 : (56319 : Int32).toInt = 56319 := by decide
  have hk56320 : (56320 : Int32).toInt = 56320 := by decide
  have hk57343 : (57343 : Int32).toInt = 57343 := by decide
  have hk65533 : (65533 : Int32).toInt = 65533 := by decide
  have hk65536 : (65536 : Int32).toInt = 65536 := by decide
  have hcs_179 := htw (.constant RX14 179 55296) (jWr_51 _ (List.mem_of_getElem? (i := 18) rfl))
  have hcs_180 := htw (.constant RX14 180 56319) (jWr_51 _ (List.mem_of_getElem? (i := 19) rfl))
  have hcs_185 := htw (.constant RX14 185 56320) (jWr_51 _ (List.mem_of_getElem? (i := 16) rfl))
  have hcs_186 := htw (.constant RX14 186 57343) (jWr_51 _ (List.mem_of_getElem? (i := 17) rfl))
  obtain ⟨str187, rstr187, hstr1870⟩ := hG.str (o := RX14) (k := 187) (tx := "u00") (List.mem_of_getElem? (i := 2403) (by decide +kernel))
  have hstr187 : jStr base str187 3 s s.heap := hstr1870
  have hcs_197 := htw (.constant RX14 197 65536) (jWr_52 _ (List.mem_of_getElem? (i := 2) rfl))
  have hcs_201 := htw (.constant RX14 201 65533) (jWr_54 _ (List.mem_of_getElem? (i := 10) rfl))
  have hrg_a2 := jb_rng a2
  have hrg_a3 := jb_rng a3
  refine lv_aload_n hx hb dX14_string_0 rfl (lv_at hl 0 rfl) ?_
  refine lv_bipush (v := 34) hx hb dX14_string_1 (by decide) ?_
  refine va_callv (A0 := jA base) (H0 := s.heap) (va_runV (As := [.int 34]) (rest := []) ⟨hx, hb, hml, hown, hts⟩ (uX14_put l dC dI ca base B hB hAp hB16 hB101 G0 s.heap r0 34 pf) (cwV 1 hts (jgV (jWr_54 _ (List.mem_of_getElem? (i := 2) rfl)) (jWr_54 _ (List.mem_of_getElem? (i := 3) rfl)) (jWr_54 _ (List.mem_of_getElem? (i := 4) rfl)) (jWr_1 _ (List.mem_of_getElem? (i := 5) rfl)) (jWr_54 _ (List.mem_of_getElem? (i := 5) rfl))) rfl rfl rfl (by decide +kernel) ⟨by rw [← hR]; exact Nat.le_of_ble_eq_true rfl, by rw [← hR]; exact Nat.le_of_ble_eq_true rfl⟩) ⟨fun a U g mk q => by obtain ⟨q0, q1, q2, qK, q10, q11, q12⟩ := q; exact ⟨q0, q1, q2, jG.calling g mk a qK, q10, q11, q12⟩, hh.recv (C := RX14) (T := TX14) (N := 74) hB16 rfl (by decide) hg_r0 hK, fun U hU hW => ⟨rfl, hU, hh.2.1, hG.step hW hU hh.1, hg_r0, (hh.2.2.1.sub (L1 := [(r0, 16, 6, .int pf)]) [0] rfl), by first | omega | (refine ⟨?_, ?_⟩ <;> (first | omega | rfl | assumption | decide | exact Or.inl rfl | exact Or.inr rfl | (simp only; omega)))⟩⟩ rfl rfl hl.1 rfl (lv_room (Nat.le_of_ble_eq_true rfl)) dX14_string_3 ⟨Nat.zero_le _, Nat.zero_le _⟩) hh.1 (fun q _ h => h) (fun q h => h) (fun u_1 t_1 H_1 locs_1 ht_1 hvm_1 hr_2 hb_1 hz_1 hk_1 hS_1 => ?_)
  obtain ⟨qf_1, rfl⟩ : ∃ z, z = u_1 := ⟨_, rfl⟩
  rw [ht_1] at hb_1
  obtain ⟨hb_11, hb_12, hb_13, hb_14, hb_15⟩ := hb_1
  have hh_1 : jSt (dC, dI) B base G0 G0 EX14_string s.heap 0 0 [(r0, 16, 6, .int qf_1)] [] [] H_1 locs_1 := ((hh.call hb_11 hb_12 hb_13 hb_14 hS_1 rfl (L1 := []) [] rfl rfl (M1 := []) [] rfl rfl (I1 := []) [] rfl rfl).more hb_15)
  clear hh ht_1 hvm_1 hz_1 hk_1 hS_1 hb_11 hb_12 hb_13 hb_14 hb_15
  obtain ⟨hr_2_0, hr_2_1⟩ := hr_2
  refine lv_iload_n hx hb dX14_string_6 rfl (lv_at hl 2 rfl) ?_
  refine lv_istore (lv' := [(4, .int a2), (0, .ref r0), (1, .ref r1), (2, .int a2), (3, .int a3)]) hx hb dX14_string_7 hl (by decide) rfl (fun ls hl => ?_)
  have L9 : ∀ (N : Nat) (v4_3 : Int32) (wf_3 : Int32) (H_3 : Heap) (locs_3 : List Loc), jSt (dC, dI) B base G0 G0 EX14_string s.heap 0 0 [(r0, 16, 6, .int wf_3)] [] [] H_3 locs_3 → (a2.toInt ≤ v4_3.toInt ∧ pf.toInt ≤ wf_3.toInt ∧ wf_3.toInt ≤ 100000) → (((a3.toInt - v4_3.toInt).toNat : Int) : Int) < N → ∀ ls : Array Slot, lv_has ls 7 [(0, .ref r0), (1, .ref r1), (2, .int a2), (3, .int a3), (4, .int v4_3)] → W p l e R s m ([.ref r0, .ref r1, .int a2, .int a3] : List Value).toArray below meth c H_3 locs_3 0 0 Q (F0 m 9 ls []) := by
    intro N
    induction N with
    | zero => intro v4_3 wf_3 H_3 locs_3 hh_3  hi_3 hm; exact absurd hm (by omega)
    | succ N L9 =>
      intro v4_3 wf_3 H_3 locs_3 hh_3  hi_3 hm_3 ls hl
      obtain ⟨hi_3_0, hi_3_1, hi_3_2⟩ := hi_3
      refine lv_iload hx hb dX14_string_9 (lv_at hl 4 rfl) ?_
      refine lv_iload_n hx hb dX14_string_11 rfl (lv_at hl 3 rfl) ?_
      refine lv_icmp_ge (tgt := 203) hx hb dX14_string_12 (by decide) (fun c_4 => ?_) (fun c_4 => ?_)
      · skip
        have c_4' : v4_3.toInt ≥ a3.toInt := jb_ge (rfl) (rfl) c_4
        refine lv_aload_n hx hb dX14_string_203 rfl (lv_at hl 0 rfl) ?_
        refine lv_bipush (v := 34) hx hb dX14_string_204 (by decide) ?_
        refine va_callv (A0 := jA base) (H0 := s.heap) (va_runV (As := [.int 34]) (rest := []) ⟨hx, hb, hml, hown, hts⟩ (uX14_put l dC dI ca base B hB hAp hB16 hB101 G0 H_3 r0 34 wf_3) (cwV 1 hts (jgV (jWr_54 _ (List.mem_of_getElem? (i := 2) rfl)) (jWr_54 _ (List.mem_of_getElem? (i := 3) rfl)) (jWr_54 _ (List.mem_of_getElem? (i := 4) rfl)) (jWr_1 _ (List.mem_of_getElem? (i := 5) rfl)) (jWr_54 _ (List.mem_of_getElem? (i := 5) rfl))) rfl rfl rfl (by decide +kernel) ⟨by rw [← hR]; exact Nat.le_of_ble_eq_true rfl, by rw [← hR]; exact Nat.le_of_ble_eq_true rfl⟩) ⟨fun a U g mk q => by obtain ⟨q0, q1, q2, qK, q10, q11, q12⟩ := q; exact ⟨q0, q1, q2, jG.calling g mk a qK, q10, q11, q12⟩, hh_3.recv (C := RX14) (T := TX14) (N := 74) hB16 rfl (by decide) hg_r0 hK, fun U hU hW => ⟨rfl, hU, hh_3.2.1, hG.step hW hU hh_3.1, hg_r0, (hh_3.2.2.1.sub (L1 := [(r0, 16, 6, .int wf_3)]) [0] rfl), by first | omega | (refine ⟨?_, ?_⟩ <;> (first | omega | rfl | assumption | decide | exact Or.inl rfl | exact Or.inr rfl | (simp only; omega)))⟩⟩ rfl rfl hl.1 rfl (lv_room (Nat.le_of_ble_eq_true rfl)) dX14_string_206 ⟨Nat.zero_le _, Nat.zero_le _⟩) hh_3.1 (fun q _ h => h) (fun q h => h) (fun u_5 t_5 H_5 locs_5 ht_5 hvm_5 hr_6 hb_5 hz_5 hk_5 hS_5 => ?_)
        obtain ⟨qf_5, rfl⟩ : ∃ z, z = u_5 := ⟨_, rfl⟩
        rw [ht_5] at hb_5
        obtain ⟨hb_51, hb_52, hb_53, hb_54, hb_55⟩ := hb_5
        have hh_5 : jSt (dC, dI) B base G0 G0 EX14_string s.heap 0 0 [(r0, 16, 6, .int qf_5)] [] [] H_5 locs_5 := ((hh_3.call hb_51 hb_52 hb_53 hb_54 hS_5 rfl (L1 := []) [] rfl rfl (M1 := []) [] rfl rfl (I1 := []) [] rfl rfl).more hb_55)
        clear hh_3 ht_5 hvm_5 hz_5 hk_5 hS_5 hb_51 hb_52 hb_53 hb_54 hb_55
        obtain ⟨hr_6_0, hr_6_1⟩ := hr_6
        rw [hQ]
        exact W.vret hx hb hr (fun t ht hW => ⟨⟨qf_5, rfl, by first | omega | (refine ⟨?_, ?_⟩ <;> (first | omega | rfl | assumption | decide | exact Or.inl rfl | exact Or.inr rfl | (simp only; omega))), hh_5.rt (M1 := [(r0, 16, 6, .int qf_5)]) [0] rfl ht⟩, by rw [ht]; try exact hh_5.1.1, fun q h9 hq => by rw [ht]; try exact hh_5.1.2.1 q h9 hq⟩) hh_5.1.2.2 dX14_string_209
      · skip
        have c_4' : v4_3.toInt < a3.toInt := jb_ge_n (rfl) (rfl) c_4
        refine lv_aload_n hx hb dX14_string_15 rfl (lv_at hl 1 rfl) ?_
        refine lv_iload hx hb dX14_string_16 (lv_at hl 4 rfl) ?_
        refine j7_iald hx hb hK hh_3 hB101 1 rfl (by decide) hg_r1 (x := v4_3.toInt) (rfl) (by omega) dX14_string_18 (fun z_7 (hz_7 : True) => ?_)
        refine lv_istore (lv' := [(5, .int z_7), (0, .ref r0), (1, .ref r1), (2, .int a2), (3, .int a3), (4, .int v4_3)]) hx hb dX14_string_19 hl (by decide) rfl (fun ls hl => ?_)
        refine lv_iload hx hb dX14_string_21 (lv_at hl 0 rfl) ?_
        refine lv_ldc hx hb hown hcs_179 dX14_string_23 ?_
        refine lv_ldc hx hb hown hcs_180 dX14_string_25 ?_
        refine va_calli (A0 := jA base) (H0 := s.heap) (va_runS (As := [.int z_7, .int 55296, .int 56319]) (rest := []) ⟨hx, hb, hml, hown, hts⟩ (uX14_in l dC dI ca base B hB hAp G0 H_3 z_7 55296 56319) (va_cwS 3 hts (jgS (jWr_48 _ (List.mem_of_getElem? (i := 10) rfl)) (jWr_48 _ (List.mem_of_getElem? (i := 11) rfl)) (jWr_1 _ (List.mem_of_getElem? (i := 5) rfl)) (jWr_48 _ (List.mem_of_getElem? (i := 12) rfl))) rfl rfl rfl (by decide +kernel) ⟨by rw [← hR]; exact Nat.le_of_ble_eq_true rfl, by rw [← hR]; exact Nat.le_of_ble_eq_true rfl⟩) ⟨fun a U g mk q => by obtain ⟨q0, q1, q2, qK, q10, q11⟩ := q; exact ⟨q0, q1, q2, jG.calling g mk a qK, q10, q11⟩, fun U hU hW => ⟨rfl, hU, hh_3.2.1, hG.step hW hU hh_3.1, jP.nil, trivial⟩⟩ rfl rfl hl.1 rfl (lv_room (Nat.le_of_ble_eq_true rfl)) dX14_string_27 ⟨Nat.zero_le _, Nat.zero_le _⟩) hh_3.1 (fun q _ h => h) (fun q h => h) (fun r_9 u_8 t_8 H_8 locs_8 ht_8 hvm_8 hr_9 hb_8 hz_8 hk_8 hS_8 => ?_)
        rw [ht_8] at hb_8
        obtain ⟨hb_81, hb_82, hb_83, hb_84, hb_85⟩ := hb_8
        have hh_8 : jSt (dC, dI) B base G0 G0 EX14_string s.heap 0 0 [(r0, 16, 6, .int wf_3)] [] [] H_8 locs_8 := ((hh_3.call hb_81 hb_82 hb_83 hb_84 hS_8 rfl (L1 := [(r0, 16, 6, .int wf_3)]) [0] rfl rfl (M1 := []) [] rfl rfl (I1 := []) [] rfl rfl).more hb_85)
        clear hh_3 ht_8 hvm_8 hz_8 hk_8 hS_8 hb_81 hb_82 hb_83 hb_84 hb_85
        obtain ⟨hr_9b, hr_9p⟩ := hr_9
        obtain ⟨hr_9p_0, hr_9p_1, hr_9p_2⟩ := hr_9p
        have hr_9' := jb_01 hr_9b
        have C62 : ∀ (w0_10 : Int32) (H_10 : Heap) (locs_10 : List Loc), jSt (dC, dI) B base G0 G0 EX14_string s.heap 0 0 [(r0, 16, 6, .int wf_3)] [] [] H_10 locs_10 → (w0_10 = 0 ∨ w0_10 = 1) → (w0_10.toInt = 0 ∨ v4_3.toInt + 1 < a3.toInt) → ∀ ls : Array Slot, lv_has ls 7 [(0, .ref r0), (1, .ref r1), (2, .int a2), (3, .int a3), (4, .int v4_3), (5, .int z_7)] → W p l e R s m ([.ref r0, .ref r1, .int a2, .int a3] : List Value).toArray below meth c H_10 locs_10 0 0 Q (F0 m 62 ls [.int w0_10]) := by
          intro w0_10 H_10 locs_10 hh_10 hb_w0_10 hi_10 ls hl
          have hb_w0_10' := jb_01 hb_w0_10
          refine lv_istore (lv' := [(6, .int w0_10), (0, .ref r0), (1, .ref r1), (2, .int a2), (3, .int a3), (4, .int v4_3), (5, .int z_7)]) hx hb dX14_string_62 hl (by decide) rfl (fun ls hl => ?_)
          refine lv_iload hx hb dX14_string_64 (lv_at hl 6 rfl) ?_
          refine lv_bipush (v := 34) hx hb dX14_string_66 (by decide) ?_
          refine lv_icmp_eq (tgt := 78) hx hb dX14_string_68 (by decide) (fun c_11 => ?_) (fun c_11 => ?_)
          · skip
            have c_11' : z_7.toInt = 34 := jb_eq (rfl) ((by decide)) c_11
            refine lv_aload_n hx hb dX14_string_78 rfl (lv_at hl 1 rfl) ?_
            refine lv_bipush (v := 92) hx hb dX14_string_79 (by decide) ?_
            refine va_callv (A0 := jA base) (H0 := s.heap) (va_runV (As := [.int 92]) (rest := []) ⟨hx, hb, hml, hown, hts⟩ (uX14_put l dC dI ca base B hB hAp hB16 hB101 G0 H_10 r0 92 wf_3) (cwV 1 hts (jgV (jWr_54 _ (List.mem_of_getElem? (i := 2) rfl)) (jWr_54 _ (List.mem_of_getElem? (i := 3) rfl)) (jWr_54 _ (List.mem_of_getElem? (i := 4) rfl)) (jWr_1 _ (List.mem_of_getElem? (i := 5) rfl)) (jWr_54 _ (List.mem_of_getElem? (i := 5) rfl))) rfl rfl rfl (by decide +kernel) ⟨by rw [← hR]; exact Nat.le_of_ble_eq_true rfl, by rw [← hR]; exact Nat.le_of_ble_eq_true rfl⟩) ⟨fun a U g mk q => by obtain ⟨q0, q1, q2, qK, q10, q11, q12⟩ := q; exact ⟨q0, q1, q2, jG.calling g mk a qK, q10, q11, q12⟩, hh_10.recv (C := RX14) (T := TX14) (N := 74) hB16 rfl (by decide) hg_r0 hK, fun U hU hW => ⟨rfl, hU, hh_10.2.1, hG.step hW hU hh_10.1, hg_r0, (hh_10.2.2.1.sub (L1 := [(r0, 16, 6, .int wf_3)]) [0] rfl), by first | omega | (refine ⟨?_, ?_⟩ <;> (first | omega | rfl | assumption | decide | exact Or.inl rfl | exact Or.inr rfl | (simp only; omega)))⟩⟩ rfl rfl hl.1 rfl (lv_room (Nat.le_of_ble_eq_true rfl)) dX14_string_81 ⟨Nat.zero_le _, Nat.zero_le _⟩) hh_10.1 (fun q _ h => h) (fun q h => h) (fun u_12 t_12 H_12 locs_12 ht_12 hvm_12 hr_13 hb_12 hz_12 hk_12 hS_12 => ?_)
            obtain ⟨qf_12, rfl⟩ : ∃ z, z = u_12 := ⟨_, rfl⟩
            rw [ht_12] at hb_12
            obtain ⟨hb_121, hb_122, hb_123, hb_124, hb_125⟩ := hb_12
            have hh_12 : jSt (dC, dI) B base G0 G0 EX14_string s.heap 0 0 [(r0, 16, 6, .int qf_12)] [] [] H_12 locs_12 := ((hh_10.call hb_121 hb_122 hb_123 hb_124 hS_12 rfl (L1 := []) [] rfl rfl (M1 := []) [] rfl rfl (I1 := []) [] rfl rfl).more hb_125)
            clear hh_10 ht_12 hvm_12 hz_12 hk_12 hS_12 hb_121 hb_122 hb_123 hb_124 hb_125
            obtain ⟨hr_13_0, hr_13_1⟩ := hr_13
            refine lv_aload_n hx hb dX14_string_84 rfl (lv_at hl 1 rfl) ?_
            refine lv_iload hx hb dX14_string_85 (lv_at hl 6 rfl) ?_
            refine va_callv (A0 := jA base) (H0 := s.heap) (va_runV (As := [.int z_7]) (rest := []) ⟨hx, hb, hml, hown, hts⟩ (uX14_put l dC dI ca base B hB hAp hB16 hB101 G0 H_12 r0 z_7 qf_12) (cwV 1 hts (jgV (jWr_54 _ (List.mem_of_getElem? (i := 2) rfl)) (jWr_54 _ (List.mem_of_getElem? (i := 3) rfl)) (jWr_54 _ (List.mem_of_getElem? (i := 4) rfl)) (jWr_1 _ (List.mem_of_getElem? (i := 5) rfl)) (jWr_54 _ (List.mem_of_getElem? (i := 5) rfl))) rfl rfl rfl (by decide +kernel) ⟨by rw [← hR]; exact Nat.le_of_ble_eq_true rfl, by rw [← hR]; exact Nat.le_of_ble_eq_true rfl⟩) ⟨fun a U g mk q => by obtain ⟨q0, q1, q2, qK, q10, q11, q12⟩ := q; exact ⟨q0, q1, q2, jG.calling g mk a qK, q10, q11, q12⟩, hh_12.recv (C := RX14) (T := TX14) (N := 74) hB16 rfl (by decide) hg_r0 hK, fun U hU hW => ⟨rfl, hU, hh_12.2.1, hG.step hW hU hh_12.1, hg_r0, (hh_12.2.2.1.sub (L1 := [(r0, 16, 6, .int qf_12)]) [0] rfl), by first | omega | (refine ⟨?_, ?_⟩ <;> (first | omega | rfl | assumption | decide | exact Or.inl rfl | exact Or.inr rfl | (simp only; omega)))⟩⟩ rfl rfl hl.1 rfl (lv_room (Nat.le_of_ble_eq_true rfl)) dX14_string_87 ⟨Nat.zero_le _, Nat.zero_le _⟩) hh_12.1 (fun q _ h => h) (fun q h => h) (fun u_14 t_14 H_14 locs_14 ht_14 hvm_14 hr_15 hb_14 hz_14 hk_14 hS_14 => ?_)
            obtain ⟨qf_14, rfl⟩ : ∃ z, z = u_14 := ⟨_, rfl⟩
            rw [ht_14] at hb_14
            obtain ⟨hb_141, hb_142, hb_143, hb_144, hb_145⟩ := hb_14
            have hh_14 : jSt (dC, dI) B base G0 G0 EX14_string s.heap 0 0 [(r0, 16, 6, .int qf_14)] [] [] H_14 locs_14 := ((hh_12.call hb_141 hb_142 hb_143 hb_144 hS_14 rfl (L1 := []) [] rfl rfl (M1 := []) [] rfl rfl (I1 := []) [] rfl rfl).more hb_145)
            clear hh_12 ht_14 hvm_14 hz_14 hk_14 hS_14 hb_141 hb_142 hb_143 hb_144 hb_145
            obtain ⟨hr_15_0, hr_15_1⟩ := hr_15
            refine lv_goto (tgt := 197) hx hb dX14_string_90 (by decide) ?_
            obtain ⟨z_16, ez_16⟩ : ∃ y : Int32, y = v4_3 + 1 := ⟨_, rfl⟩
            refine lv_iinc (v := z_16) (lv' := [(4, .int z_16), (6, .int w0_10), (0, .ref r0), (1, .ref r1), (2, .int a2), (3, .int a3), (5, .int z_7)]) hx hb dX14_string_197 hl (k := 5) rfl (by rw [ez_16]; rfl) (by decide) rfl (fun ls hl => ?_)
            have hz_16 : z_16.toInt = v4_3.toInt + 1 := by rw [ez_16]; exact jb_iadd2 (rfl) (by decide) (by omega)
            refine lv_goto (tgt := 9) hx hb dX14_string_200 (by decide) ?_
            exact L9 z_16 qf_14 _ _ hh_14 (by first | omega | (refine ⟨?_, ?_, ?_⟩ <;> (first | omega | rfl | assumption | decide | exact Or.inl rfl | exact Or.inr rfl | (simp only; omega)))) (by omega) _ (lv_sub hl [2, 3, 4, 5, 0] rfl)
          · skip
            have c_11' : z_7.toInt ≠ 34 := jb_eq_n (rfl) ((by decide)) c_11
            refine lv_iload hx hb dX14_string_71 (lv_at hl 6 rfl) ?_
            refine lv_bipush (v := 92) hx hb dX14_string_73 (by decide) ?_
            refine lv_icmp_ne (tgt := 93) hx hb dX14_string_75 (by decide) (fun c_17 => ?_) (fun c_17 => ?_)
            · skip
              have c_17' : z_7.toInt ≠ 92 := jb_ne (rfl) ((by decide)) c_17
              refine lv_iload hx hb dX14_string_93 (lv_at hl 6 rfl) ?_
              refine lv_bipush (v := 32) hx hb dX14_string_95 (by decide) ?_
              refine lv_icmp_ge (tgt := 138) hx hb dX14_string_97 (by decide) (fun c_18 => ?_) (fun c_18 => ?_)
              · skip
                have c_18' : z_7.toInt ≥ 32 := jb_ge (rfl) ((by decide)) c_18
                refine lv_iload hx hb dX14_string_138 (lv_at hl 0 rfl) ?_
                refine lv_if_eq (tgt := 174) hx hb dX14_string_140 (by decide) (fun c_19 => ?_) (fun c_19 => ?_)
                · skip
                  have c_19' : w0_10.toInt = 0 := jb_eq (rfl) ((by decide)) c_19
                  refine lv_aload_n hx hb dX14_string_174 rfl (lv_at hl 1 rfl) ?_
                  refine lv_iload hx hb dX14_string_175 (lv_at hl 6 rfl) ?_
                  refine lv_ldc hx hb hown hcs_179 dX14_string_177 ?_
                  refine lv_ldc hx hb hown hcs_186 dX14_string_179 ?_
                  refine va_calli (A0 := jA base) (H0 := s.heap) (va_runS (As := [.int z_7, .int 55296, .int 57343]) (rest := [.ref r0]) ⟨hx, hb, hml, hown, hts⟩ (uX14_in l dC dI ca base B hB hAp G0 H_10 z_7 55296 57343) (va_cwS 3 hts (jgS (jWr_48 _ (List.mem_of_getElem? (i := 10) rfl)) (jWr_48 _ (List.mem_of_getElem? (i := 11) rfl)) (jWr_1 _ (List.mem_of_getElem? (i := 5) rfl)) (jWr_48 _ (List.mem_of_getElem? (i := 12) rfl))) rfl rfl rfl (by decide +kernel) ⟨by rw [← hR]; exact Nat.le_of_ble_eq_true rfl, by rw [← hR]; exact Nat.le_of_ble_eq_true rfl⟩) ⟨fun a U g mk q => by obtain ⟨q0, q1, q2, qK, q10, q11⟩ := q; exact ⟨q0, q1, q2, jG.calling g mk a qK, q10, q11⟩, fun U hU hW => ⟨rfl, hU, hh_10.2.1, hG.step hW hU hh_10.1, jP.nil, trivial⟩⟩ rfl rfl hl.1 rfl (lv_room (Nat.le_of_ble_eq_true rfl)) dX14_string_181 ⟨Nat.zero_le _, Nat.zero_le _⟩) hh_10.1 (fun q _ h => h) (fun q h => h) (fun r_21 u_20 t_20 H_20 locs_20 ht_20 hvm_20 hr_21 hb_20 hz_20 hk_20 hS_20 => ?_)
                  rw [ht_20] at hb_20
                  obtain ⟨hb_201, hb_202, hb_203, hb_204, hb_205⟩ := hb_20
                  have hh_20 : jSt (dC, dI) B base G0 G0 EX14_string s.heap 0 0 [(r0, 16, 6, .int wf_3)] [] [] H_20 locs_20 := ((hh_10.call hb_201 hb_202 hb_203 hb_204 hS_20 rfl (L1 := [(r0, 16, 6, .int wf_3)]) [0] rfl rfl (M1 := []) [] rfl rfl (I1 := []) [] rfl rfl).more hb_205)
                  clear hh_10 ht_20 hvm_20 hz_20 hk_20 hS_20 hb_201 hb_202 hb_203 hb_204 hb_205
                  obtain ⟨hr_21b, hr_21p⟩ := hr_21
                  obtain ⟨hr_21p_0, hr_21p_1, hr_21p_2⟩ := hr_21p
                  have hr_21' := jb_01 hr_21b
                  refine lv_if_eq (tgt := 192) hx hb dX14_string_184 (by decide) (fun c_22 => ?_) (fun c_22 => ?_)
                  · skip
                    have c_22' : r_21.toInt = 0 := jb_eq (rfl) ((by decide)) c_22
                    refine lv_iload hx hb dX14_string_192 (lv_at hl 6 rfl) ?_
                    refine va_callv (A0 := jA base) (H0 := s.heap) (va_runV (As := [.int z_7]) (rest := []) ⟨hx, hb, hml, hown, hts⟩ (uX14_utf8 l dC dI ca base B hB hAp hB16 hB101 G0 H_20 r0 z_7 wf_3) (cwV 1 hts (jgV (jWr_54 _ (List.mem_of_getElem? (i := 14) rfl)) (jWr_54 _ (List.mem_of_getElem? (i := 15) rfl)) (jWr_54 _ (List.mem_of_getElem? (i := 16) rfl)) (jWr_1 _ (List.mem_of_getElem? (i := 5) rfl)) (jWr_54 _ (List.mem_of_getElem? (i := 17) rfl))) rfl rfl rfl (by decide +kernel) ⟨by rw [← hR]; exact Nat.le_of_ble_eq_true rfl, by rw [← hR]; exact Nat.le_of_ble_eq_true rfl⟩) ⟨fun a U g mk q => by obtain ⟨q0, q1, q2, qK, q10, q11, q12⟩ := q; exact ⟨q0, q1, q2, jG.calling g mk a qK, q10, q11, q12⟩, hh_20.recv (C := RX14) (T := TX14) (N := 74) hB16 rfl (by decide) hg_r0 hK, fun U hU hW => ⟨rfl, hU, hh_20.2.1, hG.step hW hU hh_20.1, hg_r0, (hh_20.2.2.1.sub (L1 := [(r0, 16, 6, .int wf_3)]) [0] rfl), by first | omega | (refine ⟨?_, ?_⟩ <;> (first | omega | rfl | assumption | decide | exact Or.inl rfl | exact Or.inr rfl | (simp only; omega)))⟩⟩ rfl rfl hl.1 rfl (lv_room (Nat.le_of_ble_eq_true rfl)) dX14_string_194 ⟨Nat.zero_le _, Nat.zero_le _⟩) hh_20.1 (fun q _ h => h) (fun q h => h) (fun u_23 t_23 H_23 locs_23 ht_23 hvm_23 hr_24 hb_23 hz_23 hk_23 hS_23 => ?_)
                    obtain ⟨qf_23, rfl⟩ : ∃ z, z = u_23 := ⟨_, rfl⟩
                    rw [ht_23] at hb_23
                    obtain ⟨hb_231, hb_232, hb_233, hb_234, hb_235⟩ := hb_23
                    have hh_23 : jSt (dC, dI) B base G0 G0 EX14_string s.heap 0 0 [(r0, 16, 6, .int qf_23)] [] [] H_23 locs_23 := ((hh_20.call hb_231 hb_232 hb_233 hb_234 hS_23 rfl (L1 := []) [] rfl rfl (M1 := []) [] rfl rfl (I1 := []) [] rfl rfl).more hb_235)
                    clear hh_20 ht_23 hvm_23 hz_23 hk_23 hS_23 hb_231 hb_232 hb_233 hb_234 hb_235
                    obtain ⟨hr_24_0, hr_24_1⟩ := hr_24
                    obtain ⟨z_25, ez_25⟩ : ∃ y : Int32, y = v4_3 + 1 := ⟨_, rfl⟩
                    refine lv_iinc (v := z_25) (lv' := [(4, .int z_25), (6, .int w0_10), (0, .ref r0), (1, .ref r1), (2, .int a2), (3, .int a3), (5, .int z_7)]) hx hb dX14_string_197 hl (k := 5) rfl (by rw [ez_25]; rfl) (by decide) rfl (fun ls hl => ?_)
                    have hz_25 : z_25.toInt = v4_3.toInt + 1 := by rw [ez_25]; exact jb_iadd2 (rfl) (by decide) (by omega)
                    refine lv_goto (tgt := 9) hx hb dX14_string_200 (by decide) ?_
                    exact L9 z_25 qf_23 _ _ hh_23 (by first | omega | (refine ⟨?_, ?_, ?_⟩ <;> (first | omega | rfl | assumption | decide | exact Or.inl rfl | exact Or.inr rfl | (simp only; omega)))) (by omega) _ (lv_sub hl [2, 3, 4, 5, 0] rfl)
                  · skip
                    have c_22' : r_21.toInt ≠ 0 := jb_eq_n (rfl) ((by decide)) c_22
                    refine lv_ldc hx hb hown hcs_201 dX14_string_187 ?_
                    refine lv_goto (tgt := 194) hx hb dX14_string_189 (by decide) ?_
                    refine va_callv (A0 := jA base) (H0 := s.heap) (va_runV (As := [.int 65533]) (rest := []) ⟨hx, hb, hml, hown, hts⟩ (uX14_utf8 l dC dI ca base B hB hAp hB16 hB101 G0 H_20 r0 65533 wf_3) (cwV 1 hts (jgV (jWr_54 _ (List.mem_of_getElem? (i := 14) rfl)) (jWr_54 _ (List.mem_of_getElem? (i := 15) rfl)) (jWr_54 _ (List.mem_of_getElem? (i := 16) rfl)) (jWr_1 _ (List.mem_of_getElem? (i := 5) rfl)) (jWr_54 _ (List.mem_of_getElem? (i := 17) rfl))) rfl rfl rfl (by decide +kernel) ⟨by rw [← hR]; exact Nat.le_of_ble_eq_true rfl, by rw [← hR]; exact Nat.le_of_ble_eq_true rfl⟩) ⟨fun a U g mk q => by obtain ⟨q0, q1, q2, qK, q10, q11, q12⟩ := q; exact ⟨q0, q1, q2, jG.calling g mk a qK, q10, q11, q12⟩, hh_20.recv (C := RX14) (T := TX14) (N := 74) hB16 rfl (by decide) hg_r0 hK, fun U hU hW => ⟨rfl, hU, hh_20.2.1, hG.step hW hU hh_20.1, hg_r0, (hh_20.2.2.1.sub (L1 := [(r0, 16, 6, .int wf_3)]) [0] rfl), by first | omega | (refine ⟨?_, ?_⟩ <;> (first | omega | rfl | assumption | decide | exact Or.inl rfl | exact Or.inr rfl | (simp only; omega)))⟩⟩ rfl rfl hl.1 rfl (lv_room (Nat.le_of_ble_eq_true rfl)) dX14_string_194 ⟨Nat.zero_le _, Nat.zero_le _⟩) hh_20.1 (fun q _ h => h) (fun q h => h) (fun u_26 t_26 H_26 locs_26 ht_26 hvm_26 hr_27 hb_26 hz_26 hk_26 hS_26 => ?_)
                    obtain ⟨qf_26, rfl⟩ : ∃ z, z = u_26 := ⟨_, rfl⟩
                    rw [ht_26] at hb_26
                    obtain ⟨hb_261, hb_262, hb_263, hb_264, hb_265⟩ := hb_26
                    have hh_26 : jSt (dC, dI) B base G0 G0 EX14_string s.heap 0 0 [(r0, 16, 6, .int qf_26)] [] [] H_26 locs_26 := ((hh_20.call hb_261 hb_262 hb_263 hb_264 hS_26 rfl (L1 := []) [] rfl rfl (M1 := []) [] rfl rfl (I1 := []) [] rfl rfl).more hb_265)
                    clear hh_20 ht_26 hvm_26 hz_26 hk_26 hS_26 hb_261 hb_262 hb_263 hb_264 hb_265
                    obtain ⟨hr_27_0, hr_27_1⟩ := hr_27
                    obtain ⟨z_28, ez_28⟩ : ∃ y : Int32, y = v4_3 + 1 := ⟨_, rfl⟩
                    refine lv_iinc (v := z_28) (lv' := [(4, .int z_28), (6, .int w0_10), (0, .ref r0), (1, .ref r1), (2, .int a2), (3, .int a3), (5, .int z_7)]) hx hb dX14_string_197 hl (k := 5) rfl (by rw [ez_28]; rfl) (by decide) rfl (fun ls hl => ?_)
                    have hz_28 : z_28.toInt = v4_3.toInt + 1 := by rw [ez_28]; exact jb_iadd2 (rfl) (by decide) (by omega)
                    refine lv_goto (tgt := 9) hx hb dX14_string_200 (by decide) ?_
                    exact L9 z_28 qf_26 _ _ hh_26 (by first | omega | (refine ⟨?_, ?_, ?_⟩ <;> (first | omega | rfl | assumption | decide | exact Or.inl rfl | exact Or.inr rfl | (simp only; omega)))) (by omega) _ (lv_sub hl [2, 3, 4, 5, 0] rfl)
                · skip
                  have c_19' : w0_10.toInt ≠ 0 := jb_eq_n (rfl) ((by decide)) c_19
                  refine lv_aload_n hx hb dX14_string_143 rfl (lv_at hl 1 rfl) ?_
                  refine lv_ldc hx hb hown hcs_197 dX14_string_144 ?_
                  refine lv_iload hx hb dX14_string_146 (lv_at hl 6 rfl) ?_
                  refine lv_ldc hx hb hown hcs_179 dX14_string_148 ?_
                  refine lv_isub hx hb dX14_string_150 ?_
                  refine lv_topi (fun z_29 ez_29 => ?_)
                  refine lv_bipush (v := 10) hx hb dX14_string_151 (by decide) ?_
                  refine lv_ishl hx hb dX14_string_153 ?_
                  refine lv_topi (fun z_30 ez_30 => ?_)
                  refine lv_iadd hx hb dX14_string_154 ?_
                  refine lv_topi (fun z_31 ez_31 => ?_)
                  refine lv_aload_n hx hb dX14_string_155 rfl (lv_at hl 2 rfl) ?_
                  refine lv_iload hx hb dX14_string_156 (lv_at hl 5 rfl) ?_
                  refine lv_iconst (v := 1) hx hb dX14_string_158 (by decide) ?_
                  refine lv_iadd hx hb dX14_string_159 ?_
                  refine lv_topi (fun z_32 ez_32 => ?_)
                  have hz_32 : z_32.toInt = v4_3.toInt + 1 := by rw [ez_32]; exact jb_iadd2 (rfl) ((by decide)) (by omega)
                  refine j7_iald hx hb hK hh_10 hB101 1 rfl (by decide) hg_r1 (x := z_32.toInt) (rfl) (by omega) dX14_string_160 (fun z_33 (hz_33 : True) => ?_)
                  refine lv_iadd hx hb dX14_string_161 ?_
                  refine lv_topi (fun z_34 ez_34 => ?_)
                  refine lv_ldc hx hb hown hcs_185 dX14_string_162 ?_
                  refine lv_isub hx hb dX14_string_164 ?_
                  refine lv_topi (fun z_35 ez_35 => ?_)
                  refine va_callv (A0 := jA base) (H0 := s.heap) (va_runV (As := [.int z_35]) (rest := []) ⟨hx, hb, hml, hown, hts⟩ (uX14_utf8 l dC dI ca base B hB hAp hB16 hB101 G0 H_10 r0 z_35 wf_3) (cwV 1 hts (jgV (jWr_54 _ (List.mem_of_getElem? (i := 14) rfl)) (jWr_54 _ (List.mem_of_getElem? (i := 15) rfl)) (jWr_54 _ (List.mem_of_getElem? (i := 16) rfl)) (jWr_1 _ (List.mem_of_getElem? (i := 5) rfl)) (jWr_54 _ (List.mem_of_getElem? (i := 17) rfl))) rfl rfl rfl (by decide +kernel) ⟨by rw [← hR]; exact Nat.le_of_ble_eq_true rfl, by rw [← hR]; exact Nat.le_of_ble_eq_true rfl⟩) ⟨fun a U g mk q => by obtain ⟨q0, q1, q2, qK, q10, q11, q12⟩ := q; exact ⟨q0, q1, q2, jG.calling g mk a qK, q10, q11, q12⟩, hh_10.recv (C := RX14) (T := TX14) (N := 74) hB16 rfl (by decide) hg_r0 hK, fun U hU hW => ⟨rfl, hU, hh_10.2.1, hG.step hW hU hh_10.1, hg_r0, (hh_10.2.2.1.sub (L1 := [(r0, 16, 6, .int wf_3)]) [0] rfl), by first | omega | (refine ⟨?_, ?_⟩ <;> (first | omega | rfl | assumption | decide | exact Or.inl rfl | exact Or.inr rfl | (simp only; omega)))⟩⟩ rfl rfl hl.1 rfl (lv_room (Nat.le_of_ble_eq_true rfl)) dX14_string_165 ⟨Nat.zero_le _, Nat.zero_le _⟩) hh_10.1 (fun q _ h => h) (fun q h => h) (fun u_36 t_36 H_36 locs_36 ht_36 hvm_36 hr_37 hb_36 hz_36 hk_36 hS_36 => ?_)
                  obtain ⟨qf_36, rfl⟩ : ∃ z, z = u_36 := ⟨_, rfl⟩
                  rw [ht_36] at hb_36
                  obtain ⟨hb_361, hb_362, hb_363, hb_364, hb_365⟩ := hb_36
                  have hh_36 : jSt (dC, dI) B base G0 G0 EX14_string s.heap 0 0 [(r0, 16, 6, .int qf_36)] [] [] H_36 locs_36 := ((hh_10.call hb_361 hb_362 hb_363 hb_364 hS_36 rfl (L1 := []) [] rfl rfl (M1 := []) [] rfl rfl (I1 := []) [] rfl rfl).more hb_365)
                  clear hh_10 ht_36 hvm_36 hz_36 hk_36 hS_36 hb_361 hb_362 hb_363 hb_364 hb_365
                  obtain ⟨hr_37_0, hr_37_1⟩ := hr_37
                  obtain ⟨z_38, ez_38⟩ : ∃ y : Int32, y = v4_3 + 1 := ⟨_, rfl⟩
                  refine lv_iinc (v := z_38) (lv' := [(4, .int z_38), (6, .int w0_10), (0, .ref r0), (1, .ref r1), (2, .int a2), (3, .int a3), (5, .int z_7)]) hx hb dX14_string_168 hl (k := 5) rfl (by rw [ez_38]; rfl) (by decide) rfl (fun ls hl => ?_)
                  have hz_38 : z_38.toInt = v4_3.toInt + 1 := by rw [ez_38]; exact jb_iadd2 (rfl) (by decide) (by omega)
                  refine lv_goto (tgt := 197) hx hb dX14_string_171 (by decide) ?_
                  obtain ⟨z_39, ez_39⟩ : ∃ y : Int32, y = z_38 + 1 := ⟨_, rfl⟩
                  refine lv_iinc (v := z_39) (lv' := [(4, .int z_39), (6, .int w0_10), (0, .ref r0), (1, .ref r1), (2, .int a2), (3, .int a3), (5, .int z_7)]) hx hb dX14_string_197 hl (k := 0) rfl (by rw [ez_39]; rfl) (by decide) rfl (fun ls hl => ?_)
                  have hz_39 : z_39.toInt = z_38.toInt + 1 := by rw [ez_39]; exact jb_iadd2 (rfl) (by decide) (by omega)
                  refine lv_goto (tgt := 9) hx hb dX14_string_200 (by decide) ?_
                  exact L9 z_39 qf_36 _ _ hh_36 (by first | omega | (refine ⟨?_, ?_, ?_⟩ <;> (first | omega | rfl | assumption | decide | exact Or.inl rfl | exact Or.inr rfl | (simp only; omega)))) (by omega) _ (lv_sub hl [2, 3, 4, 5, 0] rfl)
              · skip
                have c_18' : z_7.toInt < 32 := jb_ge_n (rfl) ((by decide)) c_18
                refine lv_aload_n hx hb dX14_string_100 rfl (lv_at hl 1 rfl) ?_
                refine lv_bipush (v := 92) hx hb dX14_string_101 (by decide) ?_
                refine va_callv (A0 := jA base) (H0 := s.heap) (va_runV (As := [.int 92]) (rest := []) ⟨hx, hb, hml, hown, hts⟩ (uX14_put l dC dI ca base B hB hAp hB16 hB101 G0 H_10 r0 92 wf_3) (cwV 1 hts (jgV (jWr_54 _ (List.mem_of_getElem? (i := 2) rfl)) (jWr_54 _ (List.mem_of_getElem? (i := 3) rfl)) (jWr_54 _ (List.mem_of_getElem? (i := 4) rfl)) (jWr_1 _ (List.mem_of_getElem? (i := 5) rfl)) (jWr_54 _ (List.mem_of_getElem? (i := 5) rfl))) rfl rfl rfl (by decide +kernel) ⟨by rw [← hR]; exact Nat.le_of_ble_eq_true rfl, by rw [← hR]; exact Nat.le_of_ble_eq_true rfl⟩) ⟨fun a U g mk q => by obtain ⟨q0, q1, q2, qK, q10, q11, q12⟩ := q; exact ⟨q0, q1, q2, jG.calling g mk a qK, q10, q11, q12⟩, hh_10.recv (C := RX14) (T := TX14) (N := 74) hB16 rfl (by decide) hg_r0 hK, fun U hU hW => ⟨rfl, hU, hh_10.2.1, hG.step hW hU hh_10.1, hg_r0, (hh_10.2.2.1.sub (L1 := [(r0, 16, 6, .int wf_3)]) [0] rfl), by first | omega | (refine ⟨?_, ?_⟩ <;> (first | omega | rfl | assumption | decide | exact Or.inl rfl | exact Or.inr rfl | (simp only; omega)))⟩⟩ rfl rfl hl.1 rfl (lv_room (Nat.le_of_ble_eq_true rfl)) dX14_string_103 ⟨Nat.zero_le _, Nat.zero_le _⟩) hh_10.1 (fun q _ h => h) (fun q h => h) (fun u_40 t_40 H_40 locs_40 ht_40 hvm_40 hr_41 hb_40 hz_40 hk_40 hS_40 => ?_)
                obtain ⟨qf_40, rfl⟩ : ∃ z, z = u_40 := ⟨_, rfl⟩
                rw [ht_40] at hb_40
                obtain ⟨hb_401, hb_402, hb_403, hb_404, hb_405⟩ := hb_40
                have hh_40 : jSt (dC, dI) B base G0 G0 EX14_string s.heap 0 0 [(r0, 16, 6, .int qf_40)] [] [] H_40 locs_40 := ((hh_10.call hb_401 hb_402 hb_403 hb_404 hS_40 rfl (L1 := []) [] rfl rfl (M1 := []) [] rfl rfl (I1 := []) [] rfl rfl).more hb_405)
                clear hh_10 ht_40 hvm_40 hz_40 hk_40 hS_40 hb_401 hb_402 hb_403 hb_404 hb_405
                obtain ⟨hr_41_0, hr_41_1⟩ := hr_41
                refine lv_aload_n hx hb dX14_string_106 rfl (lv_at hl 1 rfl) ?_
                refine va_ldcS hx hb hown rstr187 dX14_string_107 ?_
                refine va_callv (A0 := jA base) (H0 := s.heap) (va_runV (As := [.ref str187]) (rest := []) ⟨hx, hb, hml, hown, hts⟩ (uX14_word l dC dI ca base B hB hAp hB16 hB101 G0 H_40 r0 str187 3 qf_40) (cwV 1 hts (jgV (jWr_53 _ (List.mem_of_getElem? (i := 22) rfl)) (jWr_53 _ (List.mem_of_getElem? (i := 23) rfl)) (jWr_54 _ (List.mem_of_getElem? (i := 0) rfl)) (jWr_1 _ (List.mem_of_getElem? (i := 5) rfl)) (jWr_54 _ (List.mem_of_getElem? (i := 1) rfl))) rfl rfl rfl (by decide +kernel) ⟨by rw [← hR]; exact Nat.le_of_ble_eq_true rfl, by rw [← hR]; exact Nat.le_of_ble_eq_true rfl⟩) ⟨fun a U g mk q => by obtain ⟨q0, q1, q2, qK, q10, q11, q12, q13⟩ := q; exact ⟨q0, q1, q2, jG.calling g mk a qK, (q10.moved (Vm.Alike.refl U.vm)), q11, q12, q13⟩, hh_40.recv (C := RX14) (T := TX14) (N := 74) hB16 rfl (by decide) hg_r0 hK, fun U hU hW => ⟨rfl, hU, hh_40.2.1, hG.step hW hU hh_40.1, (hstr187.moved hW.alike).kept hh_40.1.2.1, hg_r0, (hh_40.2.2.1.sub (L1 := [(r0, 16, 6, .int qf_40)]) [0] rfl), by first | omega | (refine ⟨?_, ?_, ?_⟩ <;> (first | omega | rfl | assumption | decide | exact Or.inl rfl | exact Or.inr rfl | (simp only; omega)))⟩⟩ rfl rfl hl.1 rfl (lv_room (Nat.le_of_ble_eq_true rfl)) dX14_string_109 ⟨Nat.zero_le _, Nat.zero_le _⟩) hh_40.1 (fun q _ h => h) (fun q h => h) (fun u_42 t_42 H_42 locs_42 ht_42 hvm_42 hr_43 hb_42 hz_42 hk_42 hS_42 => ?_)
                obtain ⟨qf_42, rfl⟩ : ∃ z, z = u_42 := ⟨_, rfl⟩
                rw [ht_42] at hb_42
                obtain ⟨hb_421, hb_422, hb_423, hb_424, hb_425⟩ := hb_42
                have hh_42 : jSt (dC, dI) B base G0 G0 EX14_string s.heap 0 0 [(r0, 16, 6, .int qf_42)] [] [] H_42 locs_42 := ((hh_40.call hb_421 hb_422 hb_423 hb_424 hS_42 rfl (L1 := []) [] rfl rfl (M1 := []) [] rfl rfl (I1 := []) [] rfl rfl).more hb_425)
                clear hh_40 ht_42 hvm_42 hz_42 hk_42 hS_42 hb_421 hb_422 hb_423 hb_424 hb_425
                obtain ⟨hr_43_0, hr_43_1⟩ := hr_43
                refine lv_aload_n hx hb dX14_string_112 rfl (lv_at hl 1 rfl) ?_
                refine lv_iload hx hb dX14_string_113 (lv_at hl 6 rfl) ?_
                refine lv_iconst (v := 4) hx hb dX14_string_115 (by decide) ?_
                refine lv_ishr hx hb dX14_string_116 ?_
                refine lv_topi (fun z_44 ez_44 => ?_)
                have hz_44 : z_44.toInt = z_7.toInt / 2 ^ 4 := by rw [ez_44]; exact jb_ishr 4 (rfl) (by decide)
                refine vp_callSi (W.runS (As := [.int z_44]) (rest := [.ref r0]) ⟨hx, hb, hml, hown, hts⟩ (wX14_hex l dC dI ca base H_42 z_44) (va_cwS 1 hts (jgS (jWr_54 _ (List.mem_of_getElem? (i := 11) rfl)) (jWr_54 _ (List.mem_of_getElem? (i := 12) rfl)) (jWr_1 _ (List.mem_of_getElem? (i := 5) rfl)) (jWr_54 _ (List.mem_of_getElem? (i := 13) rfl))) rfl rfl rfl (by decide +kernel) ⟨by rw [← hR]; exact Nat.le_of_ble_eq_true rfl, by rw [← hR]; exact Nat.le_of_ble_eq_true rfl⟩) ⟨fun a U g mk q => by obtain ⟨q0, q1, qK, q9⟩ := q; exact ⟨q0, q1, jG.calling g mk a qK, q9⟩, fun U hU hW => ⟨rfl, hU, hG.step hW hU hh_42.1, by first | trivial | omega | (constructor <;> omega)⟩⟩ rfl rfl hl.1 rfl (lv_room (Nat.le_of_ble_eq_true rfl)) dX14_string_117 ⟨Nat.zero_le _, Nat.zero_le _⟩) (fun r_45 hr_45 => ?_)
                refine va_callv (A0 := jA base) (H0 := s.heap) (va_runV (As := [.int r_45]) (rest := []) ⟨hx, hb, hml, hown, hts⟩ (uX14_put l dC dI ca base B hB hAp hB16 hB101 G0 H_42 r0 r_45 qf_42) (cwV 1 hts (jgV (jWr_54 _ (List.mem_of_getElem? (i := 2) rfl)) (jWr_54 _ (List.mem_of_getElem? (i := 3) rfl)) (jWr_54 _ (List.mem_of_getElem? (i := 4) rfl)) (jWr_1 _ (List.mem_of_getElem? (i := 5) rfl)) (jWr_54 _ (List.mem_of_getElem? (i := 5) rfl))) rfl rfl rfl (by decide +kernel) ⟨by rw [← hR]; exact Nat.le_of_ble_eq_true rfl, by rw [← hR]; exact Nat.le_of_ble_eq_true rfl⟩) ⟨fun a U g mk q => by obtain ⟨q0, q1, q2, qK, q10, q11, q12⟩ := q; exact ⟨q0, q1, q2, jG.calling g mk a qK, q10, q11, q12⟩, hh_42.recv (C := RX14) (T := TX14) (N := 74) hB16 rfl (by decide) hg_r0 hK, fun U hU hW => ⟨rfl, hU, hh_42.2.1, hG.step hW hU hh_42.1, hg_r0, (hh_42.2.2.1.sub (L1 := [(r0, 16, 6, .int qf_42)]) [0] rfl), by first | omega | (refine ⟨?_, ?_⟩ <;> (first | omega | rfl | assumption | decide | exact Or.inl rfl | exact Or.inr rfl | (simp only; omega)))⟩⟩ rfl rfl hl.1 rfl (lv_room (Nat.le_of_ble_eq_true rfl)) dX14_string_120 ⟨Nat.zero_le _, Nat.zero_le _⟩) hh_42.1 (fun q _ h => h) (fun q h => h) (fun u_46 t_46 H_46 locs_46 ht_46 hvm_46 hr_47 hb_46 hz_46 hk_46 hS_46 => ?_)
                obtain ⟨qf_46, rfl⟩ : ∃ z, z = u_46 := ⟨_, rfl⟩
                rw [ht_46] at hb_46
                obtain ⟨hb_461, hb_462, hb_463, hb_464, hb_465⟩ := hb_46
                have hh_46 : jSt (dC, dI) B base G0 G0 EX14_string s.heap 0 0 [(r0, 16, 6, .int qf_46)] [] [] H_46 locs_46 := ((hh_42.call hb_461 hb_462 hb_463 hb_464 hS_46 rfl (L1 := []) [] rfl rfl (M1 := []) [] rfl rfl (I1 := []) [] rfl rfl).more hb_465)
                clear hh_42 ht_46 hvm_46 hz_46 hk_46 hS_46 hb_461 hb_462 hb_463 hb_464 hb_465
                obtain ⟨hr_47_0, hr_47_1⟩ := hr_47
                refine lv_aload_n hx hb dX14_string_123 rfl (lv_at hl 1 rfl) ?_
                refine lv_iload hx hb dX14_string_124 (lv_at hl 6 rfl) ?_
                refine lv_bipush (v := 15) hx hb dX14_string_126 (by decide) ?_
                refine lv_iand hx hb dX14_string_128 ?_
                refine lv_topi (fun z_48 ez_48 => ?_)
                have hz_48 : 0 ≤ z_48.toInt ∧ z_48.toInt ≤ 15 := by rw [ez_48]; exact jb_and z_7 (m := 15) (k := 4) (by decide) (by decide)
                refine vp_callSi (W.runS (As := [.int z_48]) (rest := [.ref r0]) ⟨hx, hb, hml, hown, hts⟩ (wX14_hex l dC dI ca base H_46 z_48) (va_cwS 1 hts (jgS (jWr_54 _ (List.mem_of_getElem? (i := 11) rfl)) (jWr_54 _ (List.mem_of_getElem? (i := 12) rfl)) (jWr_1 _ (List.mem_of_getElem? (i := 5) rfl)) (jWr_54 _ (List.mem_of_getElem? (i := 13) rfl))) rfl rfl rfl (by decide +kernel) ⟨by rw [← hR]; exact Nat.le_of_ble_eq_true rfl, by rw [← hR]; exact Nat.le_of_ble_eq_true rfl⟩) ⟨fun a U g mk q => by obtain ⟨q0, q1, qK, q9⟩ := q; exact ⟨q0, q1, jG.calling g mk a qK, q9⟩, fun U hU hW => ⟨rfl, hU, hG.step hW hU hh_46.1, by first | trivial | omega | (constructor <;> omega)⟩⟩ rfl rfl hl.1 rfl (lv_room (Nat.le_of_ble_eq_true rfl)) dX14_string_129 ⟨Nat.zero_le _, Nat.zero_le _⟩) (fun r_49 hr_49 => ?_)
                refine va_callv (A0 := jA base) (H0 := s.heap) (va_runV (As := [.int r_49]) (rest := []) ⟨hx, hb, hml, hown, hts⟩ (uX14_put l dC dI ca base B hB hAp hB16 hB101 G0 H_46 r0 r_49 qf_46) (cwV 1 hts (jgV (jWr_54 _ (List.mem_of_getElem? (i := 2) rfl)) (jWr_54 _ (List.mem_of_getElem? (i := 3) rfl)) (jWr_54 _ (List.mem_of_getElem? (i := 4) rfl)) (jWr_1 _ (List.mem_of_getElem? (i := 5) rfl)) (jWr_54 _ (List.mem_of_getElem? (i := 5) rfl))) rfl rfl rfl (by decide +kernel) ⟨by rw [← hR]; exact Nat.le_of_ble_eq_true rfl, by rw [← hR]; exact Nat.le_of_ble_eq_true rfl⟩) ⟨fun a U g mk q => by obtain ⟨q0, q1, q2, qK, q10, q11, q12⟩ := q; exact ⟨q0, q1, q2, jG.calling g mk a qK, q10, q11, q12⟩, hh_46.recv (C := RX14) (T := TX14) (N := 74) hB16 rfl (by decide) hg_r0 hK, fun U hU hW => ⟨rfl, hU, hh_46.2.1, hG.step hW hU hh_46.1, hg_r0, (hh_46.2.2.1.sub (L1 := [(r0, 16, 6, .int qf_46)]) [0] rfl), by first | omega | (refine ⟨?_, ?_⟩ <;> (first | omega | rfl | assumption | decide | exact Or.inl rfl | exact Or.inr rfl | (simp only; omega)))⟩⟩ rfl rfl hl.1 rfl (lv_room (Nat.le_of_ble_eq_true rfl)) dX14_string_132 ⟨Nat.zero_le _, Nat.zero_le _⟩) hh_46.1 (fun q _ h => h) (fun q h => h) (fun u_50 t_50 H_50 locs_50 ht_50 hvm_50 hr_51 hb_50 hz_50 hk_50 hS_50 => ?_)
                obtain ⟨qf_50, rfl⟩ : ∃ z, z = u_50 := ⟨_, rfl⟩
                rw [ht_50] at hb_50
                obtain ⟨hb_501, hb_502, hb_503, hb_504, hb_505⟩ := hb_50
                have hh_50 : jSt (dC, dI) B base G0 G0 EX14_string s.heap 0 0 [(r0, 16, 6, .int qf_50)] [] [] H_50 locs_50 := ((hh_46.call hb_501 hb_502 hb_503 hb_504 hS_50 rfl (L1 := []) [] rfl rfl (M1 := []) [] rfl rfl (I1 := []) [] rfl rfl).more hb_505)
                clear hh_46 ht_50 hvm_50 hz_50 hk_50 hS_50 hb_501 hb_502 hb_503 hb_504 hb_505
                obtain ⟨hr_51_0, hr_51_1⟩ := hr_51
                refine lv_goto (tgt := 197) hx hb dX14_string_135 (by decide) ?_
                obtain ⟨z_52, ez_52⟩ : ∃ y : Int32, y = v4_3 + 1 := ⟨_, rfl⟩
                refine lv_iinc (v := z_52) (lv' := [(4, .int z_52), (6, .int w0_10), (0, .ref r0), (1, .ref r1), (2, .int a2), (3, .int a3), (5, .int z_7)]) hx hb dX14_string_197 hl (k := 5) rfl (by rw [ez_52]; rfl) (by decide) rfl (fun ls hl => ?_)
                have hz_52 : z_52.toInt = v4_3.toInt + 1 := by rw [ez_52]; exact jb_iadd2 (rfl) (by decide) (by omega)
                refine lv_goto (tgt := 9) hx hb dX14_string_200 (by decide) ?_
                exact L9 z_52 qf_50 _ _ hh_50 (by first | omega | (refine ⟨?_, ?_, ?_⟩ <;> (first | omega | rfl | assumption | decide | exact Or.inl rfl | exact Or.inr rfl | (simp only; omega)))) (by omega) _ (lv_sub hl [2, 3, 4, 5, 0] rfl)
            · skip
              have c_17' : z_7.toInt = 92 := jb_ne_n (rfl) ((by decide)) c_17
              refine lv_aload_n hx hb dX14_string_78 rfl (lv_at hl 1 rfl) ?_
              refine lv_bipush (v := 92) hx hb dX14_string_79 (by decide) ?_
              refine va_callv (A0 := jA base) (H0 := s.heap) (va_runV (As := [.int 92]) (rest := []) ⟨hx, hb, hml, hown, hts⟩ (uX14_put l dC dI ca base B hB hAp hB16 hB101 G0 H_10 r0 92 wf_3) (cwV 1 hts (jgV (jWr_54 _ (List.mem_of_getElem? (i := 2) rfl)) (jWr_54 _ (List.mem_of_getElem? (i := 3) rfl)) (jWr_54 _ (List.mem_of_getElem? (i := 4) rfl)) (jWr_1 _ (List.mem_of_getElem? (i := 5) rfl)) (jWr_54 _ (List.mem_of_getElem? (i := 5) rfl))) rfl rfl rfl (by decide +kernel) ⟨by rw [← hR]; exact Nat.le_of_ble_eq_true rfl, by rw [← hR]; exact Nat.le_of_ble_eq_true rfl⟩) ⟨fun a U g mk q => by obtain ⟨q0, q1, q2, qK, q10, q11, q12⟩ := q; exact ⟨q0, q1, q2, jG.calling g mk a qK, q10, q11, q12⟩, hh_10.recv (C := RX14) (T := TX14) (N := 74) hB16 rfl (by decide) hg_r0 hK, fun U hU hW => ⟨rfl, hU, hh_10.2.1, hG.step hW hU hh_10.1, hg_r0, (hh_10.2.2.1.sub (L1 := [(r0, 16, 6, .int wf_3)]) [0] rfl), by first | omega | (refine ⟨?_, ?_⟩ <;> (first | omega | rfl | assumption | decide | exact Or.inl rfl | exact Or.inr rfl | (simp only; omega)))⟩⟩ rfl rfl hl.1 rfl (lv_room (Nat.le_of_ble_eq_true rfl)) dX14_string_81 ⟨Nat.zero_le _, Nat.zero_le _⟩) hh_10.1 (fun q _ h => h) (fun q h => h) (fun u_53 t_53 H_53 locs_53 ht_53 hvm_53 hr_54 hb_53 hz_53 hk_53 hS_53 => ?_)
              obtain ⟨qf_53, rfl⟩ : ∃ z, z = u_53 := ⟨_, rfl⟩
              rw [ht_53] at hb_53
              obtain ⟨hb_531, hb_532, hb_533, hb_534, hb_535⟩ := hb_53
              have hh_53 : jSt (dC, dI) B base G0 G0 EX14_string s.heap 0 0 [(r0, 16, 6, .int qf_53)] [] [] H_53 locs_53 := ((hh_10.call hb_531 hb_532 hb_533 hb_534 hS_53 rfl (L1 := []) [] rfl rfl (M1 := []) [] rfl rfl (I1 := []) [] rfl rfl).more hb_535)
              clear hh_10 ht_53 hvm_53 hz_53 hk_53 hS_53 hb_531 hb_532 hb_533 hb_534 hb_535
              obtain ⟨hr_54_0, hr_54_1⟩ := hr_54
              refine lv_aload_n hx hb dX14_string_84 rfl (lv_at hl 1 rfl) ?_
              refine lv_iload hx hb dX14_string_85 (lv_at hl 6 rfl) ?_
              refine va_callv (A0 := jA base) (H0 := s.heap) (va_runV (As := [.int z_7]) (rest := []) ⟨hx, hb, hml, hown, hts⟩ (uX14_put l dC dI ca base B hB hAp hB16 hB101 G0 H_53 r0 z_7 qf_53) (cwV 1 hts (jgV (jWr_54 _ (List.mem_of_getElem? (i := 2) rfl)) (jWr_54 _ (List.mem_of_getElem? (i := 3) rfl)) (jWr_54 _ (List.mem_of_getElem? (i := 4) rfl)) (jWr_1 _ (List.mem_of_getElem? (i := 5) rfl)) (jWr_54 _ (List.mem_of_getElem? (i := 5) rfl))) rfl rfl rfl (by decide +kernel) ⟨by rw [← hR]; exact Nat.le_of_ble_eq_true rfl, by rw [← hR]; exact Nat.le_of_ble_eq_true rfl⟩) ⟨fun a U g mk q => by obtain ⟨q0, q1, q2, qK, q10, q11, q12⟩ := q; exact ⟨q0, q1, q2, jG.calling g mk a qK, q10, q11, q12⟩, hh_53.recv (C := RX14) (T := TX14) (N := 74) hB16 rfl (by decide) hg_r0 hK, fun U hU hW => ⟨rfl, hU, hh_53.2.1, hG.step hW hU hh_53.1, hg_r0, (hh_53.2.2.1.sub (L1 := [(r0, 16, 6, .int qf_53)]) [0] rfl), by first | omega | (refine ⟨?_, ?_⟩ <;> (first | omega | rfl | assumption | decide | exact Or.inl rfl | exact Or.inr rfl | (simp only; omega)))⟩⟩ rfl rfl hl.1 rfl (lv_room (Nat.le_of_ble_eq_true rfl)) dX14_string_87 ⟨Nat.zero_le _, Nat.zero_le _⟩) hh_53.1 (fun q _ h => h) (fun q h => h) (fun u_55 t_55 H_55 locs_55 ht_55 hvm_55 hr_56 hb_55 hz_55 hk_55 hS_55 => ?_)
              obtain ⟨qf_55, rfl⟩ : ∃ z, z = u_55 := ⟨_, rfl⟩
              rw [ht_55] at hb_55
              obtain ⟨hb_551, hb_552, hb_553, hb_554, hb_555⟩ := hb_55
              have hh_55 : jSt (dC, dI) B base G0 G0 EX14_string s.heap 0 0 [(r0, 16, 6, .int qf_55)] [] [] H_55 locs_55 := ((hh_53.call hb_551 hb_552 hb_553 hb_554 hS_55 rfl (L1 := []) [] rfl rfl (M1 := []) [] rfl rfl (I1 := []) [] rfl rfl).more hb_555)
              clear hh_53 ht_55 hvm_55 hz_55 hk_55 hS_55 hb_551 hb_552 hb_553 hb_554 hb_555
              obtain ⟨hr_56_0, hr_56_1⟩ := hr_56
              refine lv_goto (tgt := 197) hx hb dX14_string_90 (by decide) ?_
              obtain ⟨z_57, ez_57⟩ : ∃ y : Int32, y = v4_3 + 1 := ⟨_, rfl⟩
              refine lv_iinc (v := z_57) (lv' := [(4, .int z_57), (6, .int w0_10), (0, .ref r0), (1, .ref r1), (2, .int a2), (3, .int a3), (5, .int z_7)]) hx hb dX14_string_197 hl (k := 5) rfl (by rw [ez_57]; rfl) (by decide) rfl (fun ls hl => ?_)
              have hz_57 : z_57.toInt = v4_3.toInt + 1 := by rw [ez_57]; exact jb_iadd2 (rfl) (by decide) (by omega)
              refine lv_goto (tgt := 9) hx hb dX14_string_200 (by decide) ?_
              exact L9 z_57 qf_55 _ _ hh_55 (by first | omega | (refine ⟨?_, ?_, ?_⟩ <;> (first | omega | rfl | assumption | decide | exact Or.inl rfl | exact Or.inr rfl | (simp only; omega)))) (by omega) _ (lv_sub hl [2, 3, 4, 5, 0] rfl)
        refine lv_if_eq (tgt := 61) hx hb dX14_string_30 (by decide) (fun c_58 => ?_) (fun c_58 => ?_)
        · skip
          have c_58' : r_9.toInt = 0 := jb_eq (rfl) ((by decide)) c_58
          refine lv_iconst (v := 0) hx hb dX14_string_61 (by decide) ?_
          exact C62 0 _ _ hh_8 (Or.inl rfl) (by first | omega | rfl | assumption | decide | exact Or.inl rfl | exact Or.inr rfl | (simp only; omega)) _ (lv_sub hl [1, 2, 3, 4, 5, 0] rfl)
        · skip
          have c_58' : r_9.toInt ≠ 0 := jb_eq_n (rfl) ((by decide)) c_58
          refine lv_iload hx hb dX14_string_33 (lv_at hl 5 rfl) ?_
          refine lv_iconst (v := 1) hx hb dX14_string_35 (by decide) ?_
          refine lv_iadd hx hb dX14_string_36 ?_
          refine lv_topi (fun z_59 ez_59 => ?_)
          have hz_59 : z_59.toInt = v4_3.toInt + 1 := by rw [ez_59]; exact jb_iadd2 (rfl) ((by decide)) (by omega)
          refine lv_iload_n hx hb dX14_string_37 rfl (lv_at hl 4 rfl) ?_
          refine lv_icmp_ge (tgt := 61) hx hb dX14_string_38 (by decide) (fun c_60 => ?_) (fun c_60 => ?_)
          · skip
            have c_60' : z_59.toInt ≥ a3.toInt := jb_ge (rfl) (rfl) c_60
            refine lv_iconst (v := 0) hx hb dX14_string_61 (by decide) ?_
            exact C62 0 _ _ hh_8 (Or.inl rfl) (by first | omega | rfl | assumption | decide | exact Or.inl rfl | exact Or.inr rfl | (simp only; omega)) _ (lv_sub hl [1, 2, 3, 4, 5, 0] rfl)
          · skip
            have c_60' : z_59.toInt < a3.toInt := jb_ge_n (rfl) (rfl) c_60
            refine lv_aload_n hx hb dX14_string_41 rfl (lv_at hl 2 rfl) ?_
            refine lv_iload hx hb dX14_string_42 (lv_at hl 5 rfl) ?_
            refine lv_iconst (v := 1) hx hb dX14_string_44 (by decide) ?_
            refine lv_iadd hx hb dX14_string_45 ?_
            refine lv_topi (fun z_61 ez_61 => ?_)
            have hz_61 : z_61.toInt = v4_3.toInt + 1 := by rw [ez_61]; exact jb_iadd2 (rfl) ((by decide)) (by omega)
            refine j7_iald hx hb hK hh_8 hB101 1 rfl (by decide) hg_r1 (x := z_61.toInt) (rfl) (by omega) dX14_string_46 (fun z_62 (hz_62 : True) => ?_)
            refine lv_ldc hx hb hown hcs_185 dX14_string_47 ?_
            refine lv_ldc hx hb hown hcs_186 dX14_string_49 ?_
            refine va_calli (A0 := jA base) (H0 := s.heap) (va_runS (As := [.int z_62, .int 56320, .int 57343]) (rest := []) ⟨hx, hb, hml, hown, hts⟩ (uX14_in l dC dI ca base B hB hAp G0 H_8 z_62 56320 57343) (va_cwS 3 hts (jgS (jWr_48 _ (List.mem_of_getElem? (i := 10) rfl)) (jWr_48 _ (List.mem_of_getElem? (i := 11) rfl)) (jWr_1 _ (List.mem_of_getElem? (i := 5) rfl)) (jWr_48 _ (List.mem_of_getElem? (i := 12) rfl))) rfl rfl rfl (by decide +kernel) ⟨by rw [← hR]; exact Nat.le_of_ble_eq_true rfl, by rw [← hR]; exact Nat.le_of_ble_eq_true rfl⟩) ⟨fun a U g mk q => by obtain ⟨q0, q1, q2, qK, q10, q11⟩ := q; exact ⟨q0, q1, q2, jG.calling g mk a qK, q10, q11⟩, fun U hU hW => ⟨rfl, hU, hh_8.2.1, hG.step hW hU hh_8.1, jP.nil, trivial⟩⟩ rfl rfl hl.1 rfl (lv_room (Nat.le_of_ble_eq_true rfl)) dX14_string_51 ⟨Nat.zero_le _, Nat.zero_le _⟩) hh_8.1 (fun q _ h => h) (fun q h => h) (fun r_64 u_63 t_63 H_63 locs_63 ht_63 hvm_63 hr_64 hb_63 hz_63 hk_63 hS_63 => ?_)
            rw [ht_63] at hb_63
            obtain ⟨hb_631, hb_632, hb_633, hb_634, hb_635⟩ := hb_63
            have hh_63 : jSt (dC, dI) B base G0 G0 EX14_string s.heap 0 0 [(r0, 16, 6, .int wf_3)] [] [] H_63 locs_63 := ((hh_8.call hb_631 hb_632 hb_633 hb_634 hS_63 rfl (L1 := [(r0, 16, 6, .int wf_3)]) [0] rfl rfl (M1 := []) [] rfl rfl (I1 := []) [] rfl rfl).more hb_635)
            clear hh_8 ht_63 hvm_63 hz_63 hk_63 hS_63 hb_631 hb_632 hb_633 hb_634 hb_635
            obtain ⟨hr_64b, hr_64p⟩ := hr_64
            obtain ⟨hr_64p_0, hr_64p_1, hr_64p_2⟩ := hr_64p
            have hr_64' := jb_01 hr_64b
            refine lv_if_eq (tgt := 61) hx hb dX14_string_54 (by decide) (fun c_65 => ?_) (fun c_65 => ?_)
            · skip
              have c_65' : r_64.toInt = 0 := jb_eq (rfl) ((by decide)) c_65
              refine lv_iconst (v := 0) hx hb dX14_string_61 (by decide) ?_
              exact C62 0 _ _ hh_63 (Or.inl rfl) (by first | omega | rfl | assumption | decide | exact Or.inl rfl | exact Or.inr rfl | (simp only; omega)) _ (lv_sub hl [1, 2, 3, 4, 5, 0] rfl)
            · skip
              have c_65' : r_64.toInt ≠ 0 := jb_eq_n (rfl) ((by decide)) c_65
              refine lv_iconst (v := 1) hx hb dX14_string_57 (by decide) ?_
              refine lv_goto (tgt := 62) hx hb dX14_string_58 (by decide) ?_
              exact C62 1 _ _ hh_63 (Or.inr rfl) (by first | omega | rfl | assumption | decide | exact Or.inl rfl | exact Or.inr rfl | (simp only; omega)) _ (lv_sub hl [1, 2, 3, 4, 5, 0] rfl)
  exact L9 (((a3.toInt - (a2 : Int32).toInt).toNat : Int) : Int).toNat.succ a2 qf_1 _ _ hh_1 (by first | omega | (refine ⟨?_, ?_, ?_⟩ <;> (first | omega | rfl | assumption | decide | exact Or.inl rfl | exact Or.inr rfl | (simp only; omega)))) (by omega) _ (lv_sub hl [1, 2, 3, 4, 0] rfl)
set_option maxHeartbeats 4000000 in
set_option maxRecDepth 20000 in
theorem uX14_send (l : Launch) (dC : Nat → ClassId) (dI : Nat → Nat → Nat) (ca : Nat → ClassId) (base : Nat) (B : jF) (hB : jBok B) (hAp : jAp (dC, dI)) (hB16 : ∀ n G a H, B 16 n G a H ↔ jOb (dC, dI) 16 74 (F16 n G) a H) (hB101 : ∀ n G a H, B 101 n G a H ↔ jAr (dC, dI) (ca 1) (fun j z => True) n a H) (G0 : jT) (H0 : Heap) (r0 : Nat) : Met l yX14_send (jw yX14_send cX14_send 4 none) ({ frames := 12, cells := 0, slots := 0, locals := 462 }) (va_Pc [.ref r0] (fun U => U.heap = H0 ∧ jX B base G0 [] H0 ∧ jG dC dI ca base U ∧ G0 r0 = some (16, 0) ∧ jP (dC, dI) G0 H0 [] ∧ True)) (va_Qv (S := Unit) (fun u => True) (fun u t => jRt (dC, dI) B base G0 EX14_send H0 [] t.heap) (jA base)) 0 0 (jA base) := by
  refine Met.ofW (cc := cX14_send) (maxL := 4) (ret := none) (by decide) rfl ?_
  intro p e s m args below meth c s₁ Bd hml hv
  obtain ⟨rfl, hH0, hX, hG, hg_r0, hP0, hp0⟩ := hv
  have hK := hG.1
  have hx := Bd.exec
  have hb := Bd.bytes
  have hr := Bd.returns
  have hts := atoms_spec (ws := (jw yX14_send cX14_send 4 none)) Bd.pre
  have htw : ∀ w ∈ jWl, w.before _ s = true := fun w h => hts w (List.mem_cons_of_mem _ h)
  have hown : s.vm.findClass RX14 = some m.cls := findClass_of_methodNamed Bd.named
  have hlocks := Bd.notSynchronized
  obtain ⟨Q, hQ⟩ : ∃ Q, Q = MQ below (va_Qv (S := Unit) (fun u => True) (fun u t => jRt (dC, dI) B base G0 EX14_send H0 [] t.heap) (jA base)) ([.ref r0] : List Value).toArray s 0 0 (jA base) := ⟨_, rfl⟩
  rw [← hQ]
  have hl := lv_entry ([.ref r0]) (n := 4) (Nat.le_of_ble_eq_true rfl)
  rw [lg_entry_eq]
  generalize (lg_sl ([.ref r0]) ++ List.replicate (4 - (lg_sl ([.ref r0])).length) Slot.unset).toArray = ls at hl ⊢
  have hl : lv_has ls 4 [(0, .ref r0)] := hl
  generalize hR : (headSpec (jw yX14_send cX14_send 4 none) ({ frames := 12, cells := 0, slots := 0, locals := 462 })).room = R
  subst hH0
  have hh : jSt (dC, dI) B base G0 G0 EX14_send s.heap 0 0 [] [] [] s.heap [] := jSt.start hX hP0 jMc.nil jIs.nil
  clear hX hP0
  have hk0 : (0 : Int32).toInt = 0 := by decide
  have hk1 : (1 : Int32).toInt = 1 := by decide
  have hk10 : (10 : Int32).toInt = 10 := by decide
  have hk13 : (13 : Int32).toInt = 13 := by decide
  have hk20000 : (20000 : Int32).toInt = 20000 := by decide
  have hly_16_2 := htw (u_lay RX14 TX14 2) (jWc_wsX140 _ (u_in_lay (by decide)))
  have hly_16_3 := htw (u_lay RX14 TX14 3) (jWc_wsX140 _ (u_in_lay (by decide)))
  have hly_16_4 := htw (u_lay RX14 TX14 4) (jWc_wsX140 _ (u_in_lay (by decide)))
  have hly_16_5 := htw (u_lay RX14 TX14 5) (jWc_wsX140 _ (u_in_lay (by decide)))
  have hly_16_6 := htw (u_lay RX14 TX14 6) (jWc_wsX140 _ (u_in_lay (by decide)))
  have hly_16_7 := htw (u_lay RX14 TX14 7) (jWc_wsX140 _ (u_in_lay (by decide)))
  have hlk_202 := (htw (.fieldLink RX14 202 "ProofServerModel" "broken" "Z") (jWr_44 _ (List.mem_of_getElem? (i := 9) rfl)))
  have hlk_160 := (htw (.fieldLink RX14 160 "ProofServerModel" "framed" "I") (jWr_53 _ (List.mem_of_getElem? (i := 18) rfl)))
  obtain ⟨str206, rstr206, hstr2060⟩ := hG.str (o := RX14) (k := 206) (tx := "Content-Length: ") (List.mem_of_getElem? (i := 2442) (by decide +kernel))
  have hstr206 : jStr base str206 16 s s.heap := hstr2060
  have hlk_211 := (htw (.fieldLink RX14 211 "ProofServerModel" "outs" "I") (jWr_44 _ (List.mem_of_getElem? (i := 10) rfl)))
  have hlk_214 := (htw (.fieldLink RX14 214 "ProofServerModel" "lost" "I") (jWr_55 _ (List.mem_of_getElem? (i := 14) rfl)))
  have hlk_13 := (htw (.fieldLink RX14 13 "ProofServerModel" "out" "[I") (jWr_10 _ (List.mem_of_getElem? (i := 18) rfl)))
  have hlk_17 := (htw (.fieldLink RX14 17 "ProofServerModel" "frame" "[I") (jWr_10 _ (List.mem_of_getElem? (i := 20) rfl)))
  refine lv_aload_n hx hb dX14_send_0 rfl (lv_at hl 0 rfl) ?_
  obtain ⟨v_1, hv_1, hh_2⟩ := hh.pin (C := RX14) (T := TX14) (N := 74) hB16 rfl (by decide) hg_r0 (i := 7) (by decide) rfl
  clear hh
  obtain ⟨broken_3, rfl, hzbroken_3⟩ := hv_1
  have hzbroken_3' := jb_01 hzbroken_3
  refine j7_read hx hb hown hK (C := RX14) (T := TX14) (N := 74) rfl hly_16_7 hlk_202 (hh_2.at 0 rfl) dX14_send_1 ?_
  refine lv_if_eq (tgt := 8) hx hb dX14_send_4 (by decide) (fun c_4 => ?_) (fun c_4 => ?_)
  · skip
    have c_4' : broken_3.toInt = 0 := jb_eq (rfl) ((by decide)) c_4
    refine lv_aload_n hx hb dX14_send_8 rfl (lv_at hl 0 rfl) ?_
    obtain ⟨v_5, hv_5, hh_6⟩ := hh_2.pin (C := RX14) (T := TX14) (N := 74) hB16 rfl (by decide) hg_r0 (i := 6) (by decide) rfl
    clear hh_2
    obtain ⟨framed_7, rfl, hloframed_7, hhiframed_7⟩ := hv_5
    refine j7_read hx hb hown hK (C := RX14) (T := TX14) (N := 74) rfl hly_16_6 hlk_160 (hh_6.at 0 rfl) dX14_send_9 ?_
    refine lv_istore_n (lv' := [(1, .int framed_7), (0, .ref r0)]) hx hb dX14_send_12 rfl hl (by decide) rfl (fun ls hl => ?_)
    refine lv_aload_n hx hb dX14_send_13 rfl (lv_at hl 1 rfl) ?_
    refine va_ldcS hx hb hown rstr206 dX14_send_14 ?_
    refine va_callv (A0 := jA base) (H0 := s.heap) (va_runV (As := [.ref str206]) (rest := []) ⟨hx, hb, hml, hown, hts⟩ (uX14_word l dC dI ca base B hB hAp hB16 hB101 G0 s.heap r0 str206 16 framed_7) (cwV 1 hts (jgV (jWr_53 _ (List.mem_of_getElem? (i := 22) rfl)) (jWr_53 _ (List.mem_of_getElem? (i := 23) rfl)) (jWr_54 _ (List.mem_of_getElem? (i := 0) rfl)) (jWr_1 _ (List.mem_of_getElem? (i := 5) rfl)) (jWr_54 _ (List.mem_of_getElem? (i := 1) rfl))) rfl rfl rfl (by decide +kernel) ⟨by rw [← hR]; exact Nat.le_of_ble_eq_true rfl, by rw [← hR]; exact Nat.le_of_ble_eq_true rfl⟩) ⟨fun a U g mk q => by obtain ⟨q0, q1, q2, qK, q10, q11, q12, q13⟩ := q; exact ⟨q0, q1, q2, jG.calling g mk a qK, (q10.moved (Vm.Alike.refl U.vm)), q11, q12, q13⟩, hh_6.recv (C := RX14) (T := TX14) (N := 74) hB16 rfl (by decide) hg_r0 hK, fun U hU hW => ⟨rfl, hU, hh_6.2.1, hG.step hW hU hh_6.1, (hstr206.moved hW.alike).kept hh_6.1.2.1, hg_r0, (hh_6.2.2.1.sub (L1 := [(r0, 16, 6, .int framed_7)]) [0] rfl), by first | omega | (refine ⟨?_, ?_, ?_⟩ <;> (first | omega | rfl | assumption | decide | exact Or.inl rfl | exact Or.inr rfl | (simp only; omega)))⟩⟩ rfl rfl hl.1 rfl (lv_room (Nat.le_of_ble_eq_true rfl)) dX14_send_16 ⟨Nat.zero_le _, Nat.zero_le _⟩) hh_6.1 (fun q _ h => h) (fun q h => h) (fun u_8 t_8 H_8 locs_8 ht_8 hvm_8 hr_9 hb_8 hz_8 hk_8 hS_8 => ?_)
    obtain ⟨qf_8, rfl⟩ : ∃ z, z = u_8 := ⟨_, rfl⟩
    rw [ht_8] at hb_8
    obtain ⟨hb_81, hb_82, hb_83, hb_84, hb_85⟩ := hb_8
    have hh_8 : jSt (dC, dI) B base G0 G0 EX14_send s.heap 0 0 [(r0, 16, 6, .int qf_8), (r0, 16, 7, .int broken_3)] [] [] H_8 locs_8 := ((hh_6.call hb_81 hb_82 hb_83 hb_84 hS_8 rfl (L1 := [(r0, 16, 7, .int broken_3)]) [1] rfl rfl (M1 := []) [] rfl rfl (I1 := []) [] rfl rfl).more hb_85)
    clear hh_6 ht_8 hvm_8 hz_8 hk_8 hS_8 hb_81 hb_82 hb_83 hb_84 hb_85
    obtain ⟨hr_9_0, hr_9_1⟩ := hr_9
    refine lv_aload_n hx hb dX14_send_19 rfl (lv_at hl 1 rfl) ?_
    refine lv_iload_n hx hb dX14_send_20 rfl (lv_at hl 0 rfl) ?_
    refine va_callv (A0 := jA base) (H0 := s.heap) (va_runV (As := [.int framed_7]) (rest := []) ⟨hx, hb, hml, hown, hts⟩ (uX14_number l dC dI ca base B hB hAp hB16 hB101 G0 H_8 r0 framed_7 qf_8) (cwV 1 hts (jgV (jWr_54 _ (List.mem_of_getElem? (i := 18) rfl)) (jWr_54 _ (List.mem_of_getElem? (i := 19) rfl)) (jWr_54 _ (List.mem_of_getElem? (i := 20) rfl)) (jWr_1 _ (List.mem_of_getElem? (i := 5) rfl)) (jWr_54 _ (List.mem_of_getElem? (i := 21) rfl))) rfl rfl rfl (by decide +kernel) ⟨by rw [← hR]; exact Nat.le_of_ble_eq_true rfl, by rw [← hR]; exact Nat.le_of_ble_eq_true rfl⟩) ⟨fun a U g mk q => by obtain ⟨q0, q1, q2, qK, q10, q11, q12⟩ := q; exact ⟨q0, q1, q2, jG.calling g mk a qK, q10, q11, q12⟩, hh_8.recv (C := RX14) (T := TX14) (N := 74) hB16 rfl (by decide) hg_r0 hK, fun U hU hW => ⟨rfl, hU, hh_8.2.1, hG.step hW hU hh_8.1, hg_r0, (hh_8.2.2.1.sub (L1 := [(r0, 16, 6, .int qf_8)]) [0] rfl), by first | omega | (refine ⟨?_, ?_⟩ <;> (first | omega | rfl | assumption | decide | exact Or.inl rfl | exact Or.inr rfl | (simp only; omega)))⟩⟩ rfl rfl hl.1 rfl (lv_room (Nat.le_of_ble_eq_true rfl)) dX14_send_21 ⟨Nat.zero_le _, Nat.zero_le _⟩) hh_8.1 (fun q _ h => h) (fun q h => h) (fun u_10 t_10 H_10 locs_10 ht_10 hvm_10 hr_11 hb_10 hz_10 hk_10 hS_10 => ?_)
    obtain ⟨qf_10, rfl⟩ : ∃ z, z = u_10 := ⟨_, rfl⟩
    rw [ht_10] at hb_10
    obtain ⟨hb_101, hb_102, hb_103, hb_104, hb_105⟩ := hb_10
    have hh_10 : jSt (dC, dI) B base G0 G0 EX14_send s.heap 0 0 [(r0, 16, 6, .int qf_10), (r0, 16, 7, .int broken_3)] [] [] H_10 locs_10 := ((hh_8.call hb_101 hb_102 hb_103 hb_104 hS_10 rfl (L1 := [(r0, 16, 7, .int broken_3)]) [1] rfl rfl (M1 := []) [] rfl rfl (I1 := []) [] rfl rfl).more hb_105)
    clear hh_8 ht_10 hvm_10 hz_10 hk_10 hS_10 hb_101 hb_102 hb_103 hb_104 hb_105
    obtain ⟨hr_11_0, hr_11_1⟩ := hr_11
    refine lv_aload_n hx hb dX14_send_24 rfl (lv_at hl 1 rfl) ?_
    refine lv_bipush (v := 13) hx hb dX14_send_25 (by decide) ?_
    refine va_callv (A0 := jA base) (H0 := s.heap) (va_runV (As := [.int 13]) (rest := []) ⟨hx, hb, hml, hown, hts⟩ (uX14_put l dC dI ca base B hB hAp hB16 hB101 G0 H_10 r0 13 qf_10) (cwV 1 hts (jgV (jWr_54 _ (List.mem_of_getElem? (i := 2) rfl)) (jWr_54 _ (List.mem_of_getElem? (i := 3) rfl)) (jWr_54 _ (List.mem_of_getElem? (i := 4) rfl)) (jWr_1 _ (List.mem_of_getElem? (i := 5) rfl)) (jWr_54 _ (List.mem_of_getElem? (i := 5) rfl))) rfl rfl rfl (by decide +kernel) ⟨by rw [← hR]; exact Nat.le_of_ble_eq_true rfl, by rw [← hR]; exact Nat.le_of_ble_eq_true rfl⟩) ⟨fun a U g mk q => by obtain ⟨q0, q1, q2, qK, q10, q11, q12⟩ := q; exact ⟨q0, q1, q2, jG.calling g mk a qK, q10, q11, q12⟩, hh_10.recv (C := RX14) (T := TX14) (N := 74) hB16 rfl (by decide) hg_r0 hK, fun U hU hW => ⟨rfl, hU, hh_10.2.1, hG.step hW hU hh_10.1, hg_r0, (hh_10.2.2.1.sub (L1 := [(r0, 16, 6, .int qf_10)]) [0] rfl), by first | omega | (refine ⟨?_, ?_⟩ <;> (first | omega | rfl | assumption | decide | exact Or.inl rfl | exact Or.inr rfl | (simp only; omega)))⟩⟩ rfl rfl hl.1 rfl (lv_room (Nat.le_of_ble_eq_true rfl)) dX14_send_27 ⟨Nat.zero_le _, Nat.zero_le _⟩) hh_10.1 (fun q _ h => h) (fun q h => h) (fun u_12 t_12 H_12 locs_12 ht_12 hvm_12 hr_13 hb_12 hz_12 hk_12 hS_12 => ?_)
    obtain ⟨qf_12, rfl⟩ : ∃ z, z = u_12 := ⟨_, rfl⟩
    rw [ht_12] at hb_12
    obtain ⟨hb_121, hb_122, hb_123, hb_124, hb_125⟩ := hb_12
    have hh_12 : jSt (dC, dI) B base G0 G0 EX14_send s.heap 0 0 [(r0, 16, 6, .int qf_12), (r0, 16, 7, .int broken_3)] [] [] H_12 locs_12 := ((hh_10.call hb_121 hb_122 hb_123 hb_124 hS_12 rfl (L1 := [(r0, 16, 7, .int broken_3)]) [1] rfl rfl (M1 := []) [] rfl rfl (I1 := []) [] rfl rfl).more hb_125)
    clear hh_10 ht_12 hvm_12 hz_12 hk_12 hS_12 hb_121 hb_122 hb_123 hb_124 hb_125
    obtain ⟨hr_13_0, hr_13_1⟩ := hr_13
    refine lv_aload_n hx hb dX14_send_30 rfl (lv_at hl 1 rfl) ?_
    refine lv_bipush (v := 10) hx hb dX14_send_31 (by decide) ?_
    refine va_callv (A0 := jA base) (H0 := s.heap) (va_runV (As := [.int 10]) (rest := []) ⟨hx, hb, hml, hown, hts⟩ (uX14_put l dC dI ca base B hB hAp hB16 hB101 G0 H_12 r0 10 qf_12) (cwV 1 hts (jgV (jWr_54 _ (List.mem_of_getElem? (i := 2) rfl)) (jWr_54 _ (List.mem_of_getElem? (i := 3) rfl)) (jWr_54 _ (List.mem_of_getElem? (i := 4) rfl)) (jWr_1 _ (List.mem_of_getElem? (i := 5) rfl)) (jWr_54 _ (List.mem_of_getElem? (i := 5) rfl))) rfl rfl rfl (by decide +kernel) ⟨by rw [← hR]; exact Nat.le_of_ble_eq_true rfl, by rw [← hR]; exact Nat.le_of_ble_eq_true rfl⟩) ⟨fun a U g mk q => by obtain ⟨q0, q1, q2, qK, q10, q11, q12⟩ := q; exact ⟨q0, q1, q2, jG.calling g mk a qK, q10, q11, q12⟩, hh_12.recv (C := RX14) (T := TX14) (N := 74) hB16 rfl (by decide) hg_r0 hK, fun U hU hW => ⟨rfl, hU, hh_12.2.1, hG.step hW hU hh_12.1, hg_r0, (hh_12.2.2.1.sub (L1 := [(r0, 16, 6, .int qf_12)]) [0] rfl), by first | omega | (refine ⟨?_, ?_⟩ <;> (first | omega | rfl | assumption | decide | exact Or.inl rfl | exact Or.inr rfl | (simp only; omega)))⟩⟩ rfl rfl hl.1 rfl (lv_room (Nat.le_of_ble_eq_true rfl)) dX14_send_33 ⟨Nat.zero_le _, Nat.zero_le _⟩) hh_12.1 (fun q _ h => h) (fun q h => h) (fun u_14 t_14 H_14 locs_14 ht_14 hvm_14 hr_15 hb_14 hz_14 hk_14 hS_14 => ?_)
    obtain ⟨qf_14, rfl⟩ : ∃ z, z = u_14 := ⟨_, rfl⟩
    rw [ht_14] at hb_14
    obtain ⟨hb_141, hb_142, hb_143, hb_144, hb_145⟩ := hb_14
    have hh_14 : jSt (dC, dI) B base G0 G0 EX14_send s.heap 0 0 [(r0, 16, 6, .int qf_14), (r0, 16, 7, .int broken_3)] [] [] H_14 locs_14 := ((hh_12.call hb_141 hb_142 hb_143 hb_144 hS_14 rfl (L1 := [(r0, 16, 7, .int broken_3)]) [1] rfl rfl (M1 := []) [] rfl rfl (I1 := []) [] rfl rfl).more hb_145)
    clear hh_12 ht_14 hvm_14 hz_14 hk_14 hS_14 hb_141 hb_142 hb_143 hb_144 hb_145
    obtain ⟨hr_15_0, hr_15_1⟩ := hr_15
    refine lv_aload_n hx hb dX14_send_36 rfl (lv_at hl 1 rfl) ?_
    refine lv_bipush (v := 13) hx hb dX14_send_37 (by decide) ?_
    refine va_callv (A0 := jA base) (H0 := s.heap) (va_runV (As := [.int 13]) (rest := []) ⟨hx, hb, hml, hown, hts⟩ (uX14_put l dC dI ca base B hB hAp hB16 hB101 G0 H_14 r0 13 qf_14) (cwV 1 hts (jgV (jWr_54 _ (List.mem_of_getElem? (i := 2) rfl)) (jWr_54 _ (List.mem_of_getElem? (i := 3) rfl)) (jWr_54 _ (List.mem_of_getElem? (i := 4) rfl)) (jWr_1 _ (List.mem_of_getElem? (i := 5) rfl)) (jWr_54 _ (List.mem_of_getElem? (i := 5) rfl))) rfl rfl rfl (by decide +kernel) ⟨by rw [← hR]; exact Nat.le_of_ble_eq_true rfl, by rw [← hR]; exact Nat.le_of_ble_eq_true rfl⟩) ⟨fun a U g mk q => by obtain ⟨q0, q1, q2, qK, q10, q11, q12⟩ := q; exact ⟨q0, q1, q2, jG.calling g mk a qK, q10, q11, q12⟩, hh_14.recv (C := RX14) (T := TX14) (N := 74) hB16 rfl (by decide) hg_r0 hK, fun U hU hW => ⟨rfl, hU, hh_14.2.1, hG.step hW hU hh_14.1, hg_r0, (hh_14.2.2.1.sub (L1 := [(r0, 16, 6, .int qf_14)]) [0] rfl), by first | omega | (refine ⟨?_, ?_⟩ <;> (first | omega | rfl | assumption | decide | exact Or.inl rfl | exact Or.inr rfl | (simp only; omega)))⟩⟩ rfl rfl hl.1 rfl (lv_room (Nat.le_of_ble_eq_true rfl)) dX14_send_39 ⟨Nat.zero_le _, Nat.zero_le _⟩) hh_14.1 (fun q _ h => h) (fun q h => h) (fun u_16 t_16 H_16 locs_16 ht_16 hvm_16 hr_17 hb_16 hz_16 hk_16 hS_16 => ?_)
    obtain ⟨qf_16, rfl⟩ : ∃ z, z = u_16 := ⟨_, rfl⟩
    rw [ht_16] at hb_16
    obtain ⟨hb_161, hb_162, hb_163, hb_164, hb_165⟩ := hb_16
    have hh_16 : jSt (dC, dI) B base G0 G0 EX14_send s.heap 0 0 [(r0, 16, 6, .int qf_16), (r0, 16, 7, .int broken_3)] [] [] H_16 locs_16 := ((hh_14.call hb_161 hb_162 hb_163 hb_164 hS_16 rfl (L1 := [(r0, 16, 7, .int broken_3)]) [1] rfl rfl (M1 := []) [] rfl rfl (I1 := []) [] rfl rfl).more hb_165)
    clear hh_14 ht_16 hvm_16 hz_16 hk_16 hS_16 hb_161 hb_162 hb_163 hb_164 hb_165
    obtain ⟨hr_17_0, hr_17_1⟩ := hr_17
    refine lv_aload_n hx hb dX14_send_42 rfl (lv_at hl 1 rfl) ?_
    refine lv_bipush (v := 10) hx hb dX14_send_43 (by decide) ?_
    refine va_callv (A0 := jA base) (H0 := s.heap) (va_runV (As := [.int 10]) (rest := []) ⟨hx, hb, hml, hown, hts⟩ (uX14_put l dC dI ca base B hB hAp hB16 hB101 G0 H_16 r0 10 qf_16) (cwV 1 hts (jgV (jWr_54 _ (List.mem_of_getElem? (i := 2) rfl)) (jWr_54 _ (List.mem_of_getElem? (i := 3) rfl)) (jWr_54 _ (List.mem_of_getElem? (i := 4) rfl)) (jWr_1 _ (List.mem_of_getElem? (i := 5) rfl)) (jWr_54 _ (List.mem_of_getElem? (i := 5) rfl))) rfl rfl rfl (by decide +kernel) ⟨by rw [← hR]; exact Nat.le_of_ble_eq_true rfl, by rw [← hR]; exact Nat.le_of_ble_eq_true rfl⟩) ⟨fun a U g mk q => by obtain ⟨q0, q1, q2, qK, q10, q11, q12⟩ := q; exact ⟨q0, q1, q2, jG.calling g mk a qK, q10, q11, q12⟩, hh_16.recv (C := RX14) (T := TX14) (N := 74) hB16 rfl (by decide) hg_r0 hK, fun U hU hW => ⟨rfl, hU, hh_16.2.1, hG.step hW hU hh_16.1, hg_r0, (hh_16.2.2.1.sub (L1 := [(r0, 16, 6, .int qf_16)]) [0] rfl), by first | omega | (refine ⟨?_, ?_⟩ <;> (first | omega | rfl | assumption | decide | exact Or.inl rfl | exact Or.inr rfl | (simp only; omega)))⟩⟩ rfl rfl hl.1 rfl (lv_room (Nat.le_of_ble_eq_true rfl)) dX14_send_45 ⟨Nat.zero_le _, Nat.zero_le _⟩) hh_16.1 (fun q _ h => h) (fun q h => h) (fun u_18 t_18 H_18 locs_18 ht_18 hvm_18 hr_19 hb_18 hz_18 hk_18 hS_18 => ?_)
    obtain ⟨qf_18, rfl⟩ : ∃ z, z = u_18 := ⟨_, rfl⟩
    rw [ht_18] at hb_18
    obtain ⟨hb_181, hb_182, hb_183, hb_184, hb_185⟩ := hb_18
    have hh_18 : jSt (dC, dI) B base G0 G0 EX14_send s.heap 0 0 [(r0, 16, 6, .int qf_18), (r0, 16, 7, .int broken_3)] [] [] H_18 locs_18 := ((hh_16.call hb_181 hb_182 hb_183 hb_184 hS_18 rfl (L1 := [(r0, 16, 7, .int broken_3)]) [1] rfl rfl (M1 := []) [] rfl rfl (I1 := []) [] rfl rfl).more hb_185)
    clear hh_16 ht_18 hvm_18 hz_18 hk_18 hS_18 hb_181 hb_182 hb_183 hb_184 hb_185
    obtain ⟨hr_19_0, hr_19_1⟩ := hr_19
    refine lv_aload_n hx hb dX14_send_48 rfl (lv_at hl 1 rfl) ?_
    refine j7_read hx hb hown hK (C := RX14) (T := TX14) (N := 74) rfl hly_16_6 hlk_160 (hh_18.at 0 rfl) dX14_send_49 ?_
    refine lv_istore_n (lv' := [(2, .int qf_18), (1, .int framed_7), (0, .ref r0)]) hx hb dX14_send_52 rfl hl (by decide) rfl (fun ls hl => ?_)
    refine lv_aload_n hx hb dX14_send_53 rfl (lv_at hl 2 rfl) ?_
    refine lv_iload_n hx hb dX14_send_54 rfl (lv_at hl 1 rfl) ?_
    refine j7_put hx hb hown hK hh_18 hB hAp hB16 (C := RX14) (T := TX14) (N := 74) rfl (by decide) hg_r0 (i := 6) (by decide) hly_16_6 rfl hlk_160 rfl (ty := .int) (v := .int framed_7) (by decide +kernel) rfl rfl (⟨_, rfl, by omega, by omega⟩) rfl (L1 := [(r0, 16, 7, .int broken_3)]) [1] rfl rfl rfl dX14_send_55 (fun H_20 locs_20 hh_20 => ?_)
    clear hh_18
    refine lv_iload_n hx hb dX14_send_58 rfl (lv_at hl 1 rfl) ?_
    refine lv_sipush (v := 20000) hx hb dX14_send_59 (by decide) ?_
    refine lv_icmp_gt (tgt := 77) hx hb dX14_send_62 (by decide) (fun c_21 => ?_) (fun c_21 => ?_)
    · skip
      have c_21' : framed_7.toInt > 20000 := jb_gt (rfl) ((by decide)) c_21
      refine lv_aload_n hx hb dX14_send_77 rfl (lv_at hl 2 rfl) ?_
      refine lv_dup hx hb dX14_send_78 rfl ?_
      obtain ⟨v_22, hv_22, hh_23⟩ := hh_20.pin (C := RX14) (T := TX14) (N := 74) hB16 rfl (by decide) hg_r0 (i := 4) (by decide) rfl
      clear hh_20
      obtain ⟨lost_24, rfl⟩ := hv_22
      refine j7_read hx hb hown hK (C := RX14) (T := TX14) (N := 74) rfl hly_16_4 hlk_214 (hh_23.at 0 rfl) dX14_send_79 ?_
      refine lv_iconst (v := 1) hx hb dX14_send_82 (by decide) ?_
      refine lv_iadd hx hb dX14_send_83 ?_
      refine lv_topi (fun z_25 ez_25 => ?_)
      refine j7_put hx hb hown hK hh_23 hB hAp hB16 (C := RX14) (T := TX14) (N := 74) rfl (by decide) hg_r0 (i := 4) (by decide) hly_16_4 rfl hlk_214 rfl (ty := .int) (v := .int z_25) (by decide +kernel) rfl rfl (⟨_, rfl⟩) rfl (L1 := [(r0, 16, 6, .int framed_7), (r0, 16, 7, .int broken_3)]) [1, 2] rfl rfl rfl dX14_send_84 (fun H_26 locs_26 hh_26 => ?_)
      clear hh_23
      rw [hQ]
      exact W.vret hx hb hr (fun t ht hW => ⟨⟨(), rfl, trivial, hh_26.rt (M1 := []) [] rfl ht⟩, by rw [ht]; try exact hh_26.1.1, fun q h9 hq => by rw [ht]; try exact hh_26.1.2.1 q h9 hq⟩) hh_26.1.2.2 dX14_send_87
    · skip
      have c_21' : framed_7.toInt ≤ 20000 := jb_gt_n (rfl) ((by decide)) c_21
      refine lv_aload_n hx hb dX14_send_65 rfl (lv_at hl 2 rfl) ?_
      obtain ⟨v_27, hv_27, hh_28⟩ := hh_20.pin (C := RX14) (T := TX14) (N := 74) hB16 rfl (by decide) hg_r0 (i := 3) (by decide) rfl
      clear hh_20
      obtain ⟨outs_29, rfl, hloouts_29, hhiouts_29⟩ := hv_27
      refine j7_read hx hb hown hK (C := RX14) (T := TX14) (N := 74) rfl hly_16_3 hlk_211 (hh_28.at 0 rfl) dX14_send_66 ?_
      refine lv_iload_n hx hb dX14_send_69 rfl (lv_at hl 0 rfl) ?_
      refine lv_iadd hx hb dX14_send_70 ?_
      refine lv_topi (fun z_30 ez_30 => ?_)
      have hz_30 : z_30.toInt = outs_29.toInt + qf_18.toInt := by rw [ez_30]; exact jb_iadd2 (rfl) (rfl) (by omega)
      refine lv_sipush (v := 20000) hx hb dX14_send_71 (by decide) ?_
      refine lv_icmp_le (tgt := 88) hx hb dX14_send_74 (by decide) (fun c_31 => ?_) (fun c_31 => ?_)
      · skip
        have c_31' : z_30.toInt ≤ 20000 := jb_le (rfl) ((by decide)) c_31
        refine lv_iload_n hx hb dX14_send_88 rfl (lv_at hl 1 rfl) ?_
        refine lv_istore_n (lv' := [(3, .int framed_7), (2, .int qf_18), (1, .int framed_7), (0, .ref r0)]) hx hb dX14_send_89 rfl hl (by decide) rfl (fun ls hl => ?_)
        have L90 : ∀ (N : Nat) (v3_32 : Int32) (H_32 : Heap) (locs_32 : List Loc), jSt (dC, dI) B base G0 G0 EX14_send s.heap 0 0 [(r0, 16, 3, .int outs_29), (r0, 16, 6, .int framed_7), (r0, 16, 7, .int broken_3)] [] [] H_32 locs_32 → (framed_7.toInt ≤ v3_32.toInt) → (((qf_18.toInt - v3_32.toInt).toNat : Int) : Int) < N → ∀ ls : Array Slot, lv_has ls 4 [(0, .ref r0), (1, .int framed_7), (2, .int qf_18), (3, .int v3_32)] → W p l e R s m ([.ref r0] : List Value).toArray below meth c H_32 locs_32 0 0 Q (F0 m 90 ls []) := by
          intro N
          induction N with
          | zero => intro v3_32 H_32 locs_32 hh_32  hi_32 hm; exact absurd hm (by omega)
          | succ N L90 =>
            intro v3_32 H_32 locs_32 hh_32  hi_32 hm_32 ls hl
            refine lv_iload_n hx hb dX14_send_90 rfl (lv_at hl 3 rfl) ?_
            refine lv_iload_n hx hb dX14_send_91 rfl (lv_at hl 2 rfl) ?_
            refine lv_icmp_ge (tgt := 120) hx hb dX14_send_92 (by decide) (fun c_33 => ?_) (fun c_33 => ?_)
            · skip
              have c_33' : v3_32.toInt ≥ qf_18.toInt := jb_ge (rfl) (rfl) c_33
              refine lv_aload_n hx hb dX14_send_120 rfl (lv_at hl 0 rfl) ?_
              refine lv_dup hx hb dX14_send_121 rfl ?_
              refine j7_read hx hb hown hK (C := RX14) (T := TX14) (N := 74) rfl hly_16_3 hlk_211 (hh_32.at 0 rfl) dX14_send_122 ?_
              refine lv_iload_n hx hb dX14_send_125 rfl (lv_at hl 2 rfl) ?_
              refine lv_iload_n hx hb dX14_send_126 rfl (lv_at hl 1 rfl) ?_
              refine lv_isub hx hb dX14_send_127 ?_
              refine lv_topi (fun z_34 ez_34 => ?_)
              have hz_34 : z_34.toInt = qf_18.toInt - framed_7.toInt := by rw [ez_34]; exact jb_isub2 (rfl) (rfl) (by omega)
              refine lv_iadd hx hb dX14_send_128 ?_
              refine lv_topi (fun z_35 ez_35 => ?_)
              have hz_35 : z_35.toInt = outs_29.toInt + z_34.toInt := by rw [ez_35]; exact jb_iadd2 (rfl) (rfl) (by omega)
              refine j7_put hx hb hown hK hh_32 hB hAp hB16 (C := RX14) (T := TX14) (N := 74) rfl (by decide) hg_r0 (i := 3) (by decide) hly_16_3 rfl hlk_211 rfl (ty := .int) (v := .int z_35) (by decide +kernel) rfl rfl (⟨_, rfl, by omega, by omega⟩) rfl (L1 := [(r0, 16, 6, .int framed_7), (r0, 16, 7, .int broken_3)]) [1, 2] rfl rfl rfl dX14_send_129 (fun H_36 locs_36 hh_36 => ?_)
              clear hh_32
              refine lv_iconst (v := 0) hx hb dX14_send_132 (by decide) ?_
              refine lv_istore_n (lv' := [(3, .int 0), (0, .ref r0), (1, .int framed_7), (2, .int qf_18)]) hx hb dX14_send_133 rfl hl (by decide) rfl (fun ls hl => ?_)
              have L134 : ∀ (N : Nat) (v3_37 : Int32) (H_37 : Heap) (locs_37 : List Loc), jSt (dC, dI) B base G0 G0 EX14_send s.heap 0 0 [(r0, 16, 3, .int z_35), (r0, 16, 6, .int framed_7), (r0, 16, 7, .int broken_3)] [] [] H_37 locs_37 → (0 ≤ v3_37.toInt) → (((framed_7.toInt - v3_37.toInt).toNat : Int) : Int) < N → ∀ ls : Array Slot, lv_has ls 4 [(0, .ref r0), (1, .int framed_7), (2, .int qf_18), (3, .int v3_37)] → W p l e R s m ([.ref r0] : List Value).toArray below meth c H_37 locs_37 0 0 Q (F0 m 134 ls []) := by
                intro N
                induction N with
                | zero => intro v3_37 H_37 locs_37 hh_37  hi_37 hm; exact absurd hm (by omega)
                | succ N L134 =>
                  intro v3_37 H_37 locs_37 hh_37  hi_37 hm_37 ls hl
                  refine lv_iload_n hx hb dX14_send_134 rfl (lv_at hl 3 rfl) ?_
                  refine lv_iload_n hx hb dX14_send_135 rfl (lv_at hl 1 rfl) ?_
                  refine lv_icmp_ge (tgt := 162) hx hb dX14_send_136 (by decide) (fun c_38 => ?_) (fun c_38 => ?_)
                  · skip
                    have c_38' : v3_37.toInt ≥ framed_7.toInt := jb_ge (rfl) (rfl) c_38
                    refine lv_aload_n hx hb dX14_send_162 rfl (lv_at hl 0 rfl) ?_
                    refine lv_dup hx hb dX14_send_163 rfl ?_
                    refine j7_read hx hb hown hK (C := RX14) (T := TX14) (N := 74) rfl hly_16_3 hlk_211 (hh_37.at 0 rfl) dX14_send_164 ?_
                    refine lv_iload_n hx hb dX14_send_167 rfl (lv_at hl 1 rfl) ?_
                    refine lv_iadd hx hb dX14_send_168 ?_
                    refine lv_topi (fun z_39 ez_39 => ?_)
                    have hz_39 : z_39.toInt = z_35.toInt + framed_7.toInt := by rw [ez_39]; exact jb_iadd2 (rfl) (rfl) (by omega)
                    refine j7_put hx hb hown hK hh_37 hB hAp hB16 (C := RX14) (T := TX14) (N := 74) rfl (by decide) hg_r0 (i := 3) (by decide) hly_16_3 rfl hlk_211 rfl (ty := .int) (v := .int z_39) (by decide +kernel) rfl rfl (⟨_, rfl, by omega, by omega⟩) rfl (L1 := [(r0, 16, 6, .int framed_7), (r0, 16, 7, .int broken_3)]) [1, 2] rfl rfl rfl dX14_send_169 (fun H_40 locs_40 hh_40 => ?_)
                    clear hh_37
                    rw [hQ]
                    exact W.vret hx hb hr (fun t ht hW => ⟨⟨(), rfl, trivial, hh_40.rt (M1 := []) [] rfl ht⟩, by rw [ht]; try exact hh_40.1.1, fun q h9 hq => by rw [ht]; try exact hh_40.1.2.1 q h9 hq⟩) hh_40.1.2.2 dX14_send_172
                  · skip
                    have c_38' : v3_37.toInt < framed_7.toInt := jb_ge_n (rfl) (rfl) c_38
                    refine lv_aload_n hx hb dX14_send_139 rfl (lv_at hl 0 rfl) ?_
                    obtain ⟨v_41, hv_41, hh_42⟩ := hh_37.pin (C := RX14) (T := TX14) (N := 74) hB16 rfl (by decide) hg_r0 (i := 2) (by decide) rfl
                    clear hh_37
                    obtain ⟨out_43, rfl, hg_out_43⟩ := hv_41
                    refine j7_read hx hb hown hK (C := RX14) (T := TX14) (N := 74) rfl hly_16_2 hlk_13 (hh_42.at 0 rfl) dX14_send_140 ?_
                    refine lv_aload_n hx hb dX14_send_143 rfl (lv_at hl 0 rfl) ?_
                    refine j7_read hx hb hown hK (C := RX14) (T := TX14) (N := 74) rfl hly_16_3 hlk_211 (hh_42.at 1 rfl) dX14_send_144 ?_
                    refine lv_iload_n hx hb dX14_send_147 rfl (lv_at hl 3 rfl) ?_
                    refine lv_iadd hx hb dX14_send_148 ?_
                    refine lv_topi (fun z_44 ez_44 => ?_)
                    have hz_44 : z_44.toInt = z_35.toInt + v3_37.toInt := by rw [ez_44]; exact jb_iadd2 (rfl) (rfl) (by omega)
                    refine lv_aload_n hx hb dX14_send_149 rfl (lv_at hl 0 rfl) ?_
                    obtain ⟨v_45, hv_45, hh_46⟩ := hh_42.pin (C := RX14) (T := TX14) (N := 74) hB16 rfl (by decide) hg_r0 (i := 5) (by decide) rfl
                    clear hh_42
                    obtain ⟨frame_47, rfl, hg_frame_47⟩ := hv_45
                    refine j7_read hx hb hown hK (C := RX14) (T := TX14) (N := 74) rfl hly_16_5 hlk_17 (hh_46.at 0 rfl) dX14_send_150 ?_
                    refine lv_iload_n hx hb dX14_send_153 rfl (lv_at hl 3 rfl) ?_
                    refine j7_iald hx hb hK hh_46 hB101 1 rfl (by decide) hg_frame_47 (x := v3_37.toInt) (rfl) (by omega) dX14_send_154 (fun z_48 (hz_48 : True) => ?_)
                    refine j7_iast hx hb hK hh_46 hB hB101 1 rfl (by decide) (by decide) rfl rfl rfl hg_out_43 (x := z_44.toInt) (rfl) (by omega) (trivial) dX14_send_155 (fun H_49 locs_49 hh_49 => ?_)
                    clear hh_46
                    obtain ⟨z_50, ez_50⟩ : ∃ y : Int32, y = v3_37 + 1 := ⟨_, rfl⟩
                    refine lv_iinc (v := z_50) (lv' := [(3, .int z_50), (0, .ref r0), (1, .int framed_7), (2, .int qf_18)]) hx hb dX14_send_156 hl (k := 3) rfl (by rw [ez_50]; rfl) (by decide) rfl (fun ls hl => ?_)
                    have hz_50 : z_50.toInt = v3_37.toInt + 1 := by rw [ez_50]; exact jb_iadd2 (rfl) (by decide) (by omega)
                    refine lv_goto (tgt := 134) hx hb dX14_send_159 (by decide) ?_
                    exact L134 z_50 _ _ (hh_49.sub (L1 := [(r0, 16, 3, .int z_35), (r0, 16, 6, .int framed_7), (r0, 16, 7, .int broken_3)]) [2, 3, 4] rfl (M1 := []) [] rfl (I1 := []) [] rfl) (by first | omega | rfl | assumption | decide | exact Or.inl rfl | exact Or.inr rfl | (simp only; omega)) (by omega) _ (lv_sub hl [1, 2, 3, 0] rfl)
              exact L134 (((framed_7.toInt - (0 : Int32).toInt).toNat : Int) : Int).toNat.succ 0 _ _ hh_36 (by first | omega | rfl | assumption | decide | exact Or.inl rfl | exact Or.inr rfl | (simp only; omega)) (by omega) _ (lv_sub hl [1, 2, 3, 0] rfl)
            · skip
              have c_33' : v3_32.toInt < qf_18.toInt := jb_ge_n (rfl) (rfl) c_33
              refine lv_aload_n hx hb dX14_send_95 rfl (lv_at hl 0 rfl) ?_
              obtain ⟨v_51, hv_51, hh_52⟩ := hh_32.pin (C := RX14) (T := TX14) (N := 74) hB16 rfl (by decide) hg_r0 (i := 2) (by decide) rfl
              clear hh_32
              obtain ⟨out_53, rfl, hg_out_53⟩ := hv_51
              refine j7_read hx hb hown hK (C := RX14) (T := TX14) (N := 74) rfl hly_16_2 hlk_13 (hh_52.at 0 rfl) dX14_send_96 ?_
              refine lv_aload_n hx hb dX14_send_99 rfl (lv_at hl 0 rfl) ?_
              refine j7_read hx hb hown hK (C := RX14) (T := TX14) (N := 74) rfl hly_16_3 hlk_211 (hh_52.at 1 rfl) dX14_send_100 ?_
              refine lv_iload_n hx hb dX14_send_103 rfl (lv_at hl 3 rfl) ?_
              refine lv_iadd hx hb dX14_send_104 ?_
              refine lv_topi (fun z_54 ez_54 => ?_)
              have hz_54 : z_54.toInt = outs_29.toInt + v3_32.toInt := by rw [ez_54]; exact jb_iadd2 (rfl) (rfl) (by omega)
              refine lv_iload_n hx hb dX14_send_105 rfl (lv_at hl 1 rfl) ?_
              refine lv_isub hx hb dX14_send_106 ?_
              refine lv_topi (fun z_55 ez_55 => ?_)
              have hz_55 : z_55.toInt = z_54.toInt - framed_7.toInt := by rw [ez_55]; exact jb_isub2 (rfl) (rfl) (by omega)
              refine lv_aload_n hx hb dX14_send_107 rfl (lv_at hl 0 rfl) ?_
              obtain ⟨v_56, hv_56, hh_57⟩ := hh_52.pin (C := RX14) (T := TX14) (N := 74) hB16 rfl (by decide) hg_r0 (i := 5) (by decide) rfl
              clear hh_52
              obtain ⟨frame_58, rfl, hg_frame_58⟩ := hv_56
              refine j7_read hx hb hown hK (C := RX14) (T := TX14) (N := 74) rfl hly_16_5 hlk_17 (hh_57.at 0 rfl) dX14_send_108 ?_
              refine lv_iload_n hx hb dX14_send_111 rfl (lv_at hl 3 rfl) ?_
              refine j7_iald hx hb hK hh_57 hB101 1 rfl (by decide) hg_frame_58 (x := v3_32.toInt) (rfl) (by omega) dX14_send_112 (fun z_59 (hz_59 : True) => ?_)
              refine j7_iast hx hb hK hh_57 hB hB101 1 rfl (by decide) (by decide) rfl rfl rfl hg_out_53 (x := z_55.toInt) (rfl) (by omega) (trivial) dX14_send_113 (fun H_60 locs_60 hh_60 => ?_)
              clear hh_57
              obtain ⟨z_61, ez_61⟩ : ∃ y : Int32, y = v3_32 + 1 := ⟨_, rfl⟩
              refine lv_iinc (v := z_61) (lv' := [(3, .int z_61), (0, .ref r0), (1, .int framed_7), (2, .int qf_18)]) hx hb dX14_send_114 hl (k := 3) rfl (by rw [ez_61]; rfl) (by decide) rfl (fun ls hl => ?_)
              have hz_61 : z_61.toInt = v3_32.toInt + 1 := by rw [ez_61]; exact jb_iadd2 (rfl) (by decide) (by omega)
              refine lv_goto (tgt := 90) hx hb dX14_send_117 (by decide) ?_
              exact L90 z_61 _ _ (hh_60.sub (L1 := [(r0, 16, 3, .int outs_29), (r0, 16, 6, .int framed_7), (r0, 16, 7, .int broken_3)]) [2, 3, 4] rfl (M1 := []) [] rfl (I1 := []) [] rfl) (by first | omega | rfl | assumption | decide | exact Or.inl rfl | exact Or.inr rfl | (simp only; omega)) (by omega) _ (lv_sub hl [1, 2, 3, 0] rfl)
        exact L90 (((qf_18.toInt - (framed_7 : Int32).toInt).toNat : Int) : Int).toNat.succ framed_7 _ _ hh_28 (by first | omega | rfl | assumption | decide | exact Or.inl rfl | exact Or.inr rfl | (simp only; omega)) (by omega) _ (lv_sub hl [3, 2, 1, 0] rfl)
      · skip
        have c_31' : z_30.toInt > 20000 := jb_le_n (rfl) ((by decide)) c_31
        refine lv_aload_n hx hb dX14_send_77 rfl (lv_at hl 2 rfl) ?_
        refine lv_dup hx hb dX14_send_78 rfl ?_
        obtain ⟨v_62, hv_62, hh_63⟩ := hh_28.pin (C := RX14) (T := TX14) (N := 74) hB16 rfl (by decide) hg_r0 (i := 4) (by decide) rfl
        clear hh_28
        obtain ⟨lost_64, rfl⟩ := hv_62
        refine j7_read hx hb hown hK (C := RX14) (T := TX14) (N := 74) rfl hly_16_4 hlk_214 (hh_63.at 0 rfl) dX14_send_79 ?_
        refine lv_iconst (v := 1) hx hb dX14_send_82 (by decide) ?_
        refine lv_iadd hx hb dX14_send_83 ?_
        refine lv_topi (fun z_65 ez_65 => ?_)
        refine j7_put hx hb hown hK hh_63 hB hAp hB16 (C := RX14) (T := TX14) (N := 74) rfl (by decide) hg_r0 (i := 4) (by decide) hly_16_4 rfl hlk_214 rfl (ty := .int) (v := .int z_65) (by decide +kernel) rfl rfl (⟨_, rfl⟩) rfl (L1 := [(r0, 16, 3, .int outs_29), (r0, 16, 6, .int framed_7), (r0, 16, 7, .int broken_3)]) [1, 2, 3] rfl rfl rfl dX14_send_84 (fun H_66 locs_66 hh_66 => ?_)
        clear hh_63
        rw [hQ]
        exact W.vret hx hb hr (fun t ht hW => ⟨⟨(), rfl, trivial, hh_66.rt (M1 := []) [] rfl ht⟩, by rw [ht]; try exact hh_66.1.1, fun q h9 hq => by rw [ht]; try exact hh_66.1.2.1 q h9 hq⟩) hh_66.1.2.2 dX14_send_87
  · skip
    have c_4' : broken_3.toInt ≠ 0 := jb_eq_n (rfl) ((by decide)) c_4
    rw [hQ]
    exact W.vret hx hb hr (fun t ht hW => ⟨⟨(), rfl, trivial, hh_2.rt (M1 := []) [] rfl ht⟩, by rw [ht]; try exact hh_2.1.1, fun q h9 hq => by rw [ht]; try exact hh_2.1.2.1 q h9 hq⟩) hh_2.1.2.2 dX14_send_7
set_option maxHeartbeats 4000000 in
set_option maxRecDepth 20000 in
theorem uX14_beginAnswer (l : Launch) (dC : Nat → ClassId) (dI : Nat → Nat → Nat) (ca : Nat → ClassId) (base : Nat) (B : jF) (hB : jBok B) (hAp : jAp (dC, dI)) (hB16 : ∀ n G a H, B 16 n G a H ↔ jOb (dC, dI) 16 74 (F16 n G) a H) (hB101 : ∀ n G a H, B 101 n G a H ↔ jAr (dC, dI) (ca 1) (fun j z => True) n a H) (G0 : jT) (H0 : Heap) (r0 : Nat) : Met l yX14_beginAnswer (jw yX14_beginAnswer cX14_beginAnswer 1 none) ({ frames := 12, cells := 0, slots := 0, locals := 462 }) (va_Pc [.ref r0] (fun U => U.heap = H0 ∧ jX B base G0 [] H0 ∧ jG dC dI ca base U ∧ G0 r0 = some (16, 0) ∧ jP (dC, dI) G0 H0 [] ∧ True)) (va_Qv (S := Unit) (fun u => True) (fun u t => jRt (dC, dI) B base G0 EX14_beginAnswer H0 [] t.heap) (jA base)) 0 0 (jA base) := by
  refine Met.ofW (cc := cX14_beginAnswer) (maxL := 1) (ret := none) (by decide) rfl ?_
  intro p e s m args below meth c s₁ Bd hml hv
  obtain ⟨rfl, hH0, hX, hG, hg_r0, hP0, hp0⟩ := hv
  have hK := hG.1
  have hx := Bd.exec
  have hb := Bd.bytes
  have hr := Bd.returns
  have hts := atoms_spec (ws := (jw yX14_beginAnswer cX14_beginAnswer 1 none)) Bd.pre
  have htw : ∀ w ∈ jWl, w.before _ s = true := fun w h => hts w (List.mem_cons_of_mem _ h)
  have hown : s.vm.findClass RX14 = some m.cls := findClass_of_methodNamed Bd.named
  have hlocks := Bd.notSynchronized
  obtain ⟨Q, hQ⟩ : ∃ Q, Q = MQ below (va_Qv (S := Unit) (fun u => True) (fun u t => jRt (dC, dI) B base G0 EX14_beginAnswer H0 [] t.heap) (jA base)) ([.ref r0] : List Value).toArray s 0 0 (jA base) := ⟨_, rfl⟩
  rw [← hQ]
  have hl := lv_entry ([.ref r0]) (n := 1) (Nat.le_of_ble_eq_true rfl)
  rw [lg_entry_eq]
  generalize (lg_sl ([.ref r0]) ++ List.replicate (1 - (lg_sl ([.ref r0])).length) Slot.unset).toArray = ls at hl ⊢
  have hl : lv_has ls 1 [(0, .ref r0)] := hl
  generalize hR : (headSpec (jw yX14_beginAnswer cX14_beginAnswer 1 none) ({ frames := 12, cells := 0, slots := 0, locals := 462 })).room = R
  subst hH0
  have hh : jSt (dC, dI) B base G0 G0 EX14_beginAnswer s.heap 0 0 [] [] [] s.heap [] := jSt.start hX hP0 jMc.nil jIs.nil
  clear hX hP0
  have hk0 : (0 : Int32).toInt = 0 := by decide
  have hk1 : (1 : Int32).toInt = 1 := by decide
  have hly_16_6 := htw (u_lay RX14 TX14 6) (jWc_wsX140 _ (u_in_lay (by decide)))
  have hly_16_36 := htw (u_lay RX14 TX14 36) (jWc_wsX140 _ (u_in_lay (by decide)))
  have hly_16_37 := htw (u_lay RX14 TX14 37) (jWc_wsX140 _ (u_in_lay (by decide)))
  have hly_16_38 := htw (u_lay RX14 TX14 38) (jWc_wsX140 _ (u_in_lay (by decide)))
  have hly_16_39 := htw (u_lay RX14 TX14 39) (jWc_wsX140 _ (u_in_lay (by decide)))
  have hly_16_40 := htw (u_lay RX14 TX14 40) (jWc_wsX140 _ (u_in_lay (by decide)))
  have hlk_160 := (htw (.fieldLink RX14 160 "ProofServerModel" "framed" "I") (jWr_53 _ (List.mem_of_getElem? (i := 18) rfl)))
  obtain ⟨str386, rstr386, hstr3860⟩ := hG.str (o := RX14) (k := 386) (tx := "{\"jsonrpc\":\"2.0\",\"id\":") (List.mem_of_getElem? (i := 2390) (by decide +kernel))
  have hstr386 : jStr base str386 22 s s.heap := hstr3860
  have hlk_374 := (htw (.fieldLink RX14 374 "ProofServerModel" "idNull" "Z") (jWr_50 _ (List.mem_of_getElem? (i := 10) rfl)))
  obtain ⟨str307, rstr307, hstr3070⟩ := hG.str (o := RX14) (k := 307) (tx := "null") (List.mem_of_getElem? (i := 2366) (by decide +kernel))
  have hstr307 : jStr base str307 4 s s.heap := hstr3070
  have hlk_377 := (htw (.fieldLink RX14 377 "ProofServerModel" "idString" "Z") (jWr_53 _ (List.mem_of_getElem? (i := 19) rfl)))
  have hlk_68 := (htw (.fieldLink RX14 68 "ProofServerModel" "idUnits" "[I") (jWr_11 _ (List.mem_of_getElem? (i := 15) rfl)))
  have hlk_383 := (htw (.fieldLink RX14 383 "ProofServerModel" "idLength" "I") (jWr_53 _ (List.mem_of_getElem? (i := 20) rfl)))
  have hlk_380 := (htw (.fieldLink RX14 380 "ProofServerModel" "idInt" "I") (jWr_53 _ (List.mem_of_getElem? (i := 21) rfl)))
  refine lv_aload_n hx hb dX14_beginAnswer_0 rfl (lv_at hl 0 rfl) ?_
  refine lv_iconst (v := 0) hx hb dX14_beginAnswer_1 (by decide) ?_
  refine j7_put hx hb hown hK hh hB hAp hB16 (C := RX14) (T := TX14) (N := 74) rfl (by decide) hg_r0 (i := 6) (by decide) hly_16_6 rfl hlk_160 rfl (ty := .int) (v := .int 0) (by decide +kernel) rfl rfl (⟨_, rfl, by omega, by omega⟩) rfl (L1 := []) [] rfl rfl rfl dX14_beginAnswer_2 (fun H_1 locs_1 hh_1 => ?_)
  clear hh
  refine lv_aload_n hx hb dX14_beginAnswer_5 rfl (lv_at hl 0 rfl) ?_
  refine j_ldcSw hx hb hown rstr386 dX14_beginAnswer_6 ?_
  refine va_callv (A0 := jA base) (H0 := s.heap) (va_runV (As := [.ref str386]) (rest := []) ⟨hx, hb, hml, hown, hts⟩ (uX14_word l dC dI ca base B hB hAp hB16 hB101 G0 H_1 r0 str386 22 0) (cwV 1 hts (jgV (jWr_53 _ (List.mem_of_getElem? (i := 22) rfl)) (jWr_53 _ (List.mem_of_getElem? (i := 23) rfl)) (jWr_54 _ (List.mem_of_getElem? (i := 0) rfl)) (jWr_1 _ (List.mem_of_getElem? (i := 5) rfl)) (jWr_54 _ (List.mem_of_getElem? (i := 1) rfl))) rfl rfl rfl (by decide +kernel) ⟨by rw [← hR]; exact Nat.le_of_ble_eq_true rfl, by rw [← hR]; exact Nat.le_of_ble_eq_true rfl⟩) ⟨fun a U g mk q => by obtain ⟨q0, q1, q2, qK, q10, q11, q12, q13⟩ := q; exact ⟨q0, q1, q2, jG.calling g mk a qK, (q10.moved (Vm.Alike.refl U.vm)), q11, q12, q13⟩, hh_1.recv (C := RX14) (T := TX14) (N := 74) hB16 rfl (by decide) hg_r0 hK, fun U hU hW => ⟨rfl, hU, hh_1.2.1, hG.step hW hU hh_1.1, (hstr386.moved hW.alike).kept hh_1.1.2.1, hg_r0, (hh_1.2.2.1.sub (L1 := [(r0, 16, 6, .int 0)]) [0] rfl), by first | omega | (refine ⟨?_, ?_, ?_⟩ <;> (first | omega | rfl | assumption | decide | exact Or.inl rfl | exact Or.inr rfl | (simp only; omega)))⟩⟩ rfl rfl hl.1 rfl (lv_room (Nat.le_of_ble_eq_true rfl)) dX14_beginAnswer_9 ⟨Nat.zero_le _, Nat.zero_le _⟩) hh_1.1 (fun q _ h => h) (fun q h => h) (fun u_2 t_2 H_2 locs_2 ht_2 hvm_2 hr_3 hb_2 hz_2 hk_2 hS_2 => ?_)
  obtain ⟨qf_2, rfl⟩ : ∃ z, z = u_2 := ⟨_, rfl⟩
  rw [ht_2] at hb_2
  obtain ⟨hb_21, hb_22, hb_23, hb_24, hb_25⟩ := hb_2
  have hh_2 : jSt (dC, dI) B base G0 G0 EX14_beginAnswer s.heap 0 0 [(r0, 16, 6, .int qf_2)] [] [] H_2 locs_2 := ((hh_1.call hb_21 hb_22 hb_23 hb_24 hS_2 rfl (L1 := []) [] rfl rfl (M1 := []) [] rfl rfl (I1 := []) [] rfl rfl).more hb_25)
  clear hh_1 ht_2 hvm_2 hz_2 hk_2 hS_2 hb_21 hb_22 hb_23 hb_24 hb_25
  obtain ⟨hr_3_0, hr_3_1⟩ := hr_3
  refine lv_aload_n hx hb dX14_beginAnswer_12 rfl (lv_at hl 0 rfl) ?_
  obtain ⟨v_4, hv_4, hh_5⟩ := hh_2.pin (C := RX14) (T := TX14) (N := 74) hB16 rfl (by decide) hg_r0 (i := 40) (by decide) rfl
  clear hh_2
  obtain ⟨idNull_6, rfl, hzidNull_6⟩ := hv_4
  have hzidNull_6' := jb_01 hzidNull_6
  refine j7_read hx hb hown hK (C := RX14) (T := TX14) (N := 74) rfl hly_16_40 hlk_374 (hh_5.at 0 rfl) dX14_beginAnswer_13 ?_
  refine lv_if_eq (tgt := 29) hx hb dX14_beginAnswer_16 (by decide) (fun c_7 => ?_) (fun c_7 => ?_)
  · skip
    have c_7' : idNull_6.toInt = 0 := jb_eq (rfl) ((by decide)) c_7
    refine lv_aload_n hx hb dX14_beginAnswer_29 rfl (lv_at hl 0 rfl) ?_
    obtain ⟨v_8, hv_8, hh_9⟩ := hh_5.pin (C := RX14) (T := TX14) (N := 74) hB16 rfl (by decide) hg_r0 (i := 36) (by decide) rfl
    clear hh_5
    obtain ⟨idString_10, rfl, hzidString_10⟩ := hv_8
    have hzidString_10' := jb_01 hzidString_10
    refine j7_read hx hb hown hK (C := RX14) (T := TX14) (N := 74) rfl hly_16_36 hlk_377 (hh_9.at 0 rfl) dX14_beginAnswer_30 ?_
    refine lv_if_eq (tgt := 52) hx hb dX14_beginAnswer_33 (by decide) (fun c_11 => ?_) (fun c_11 => ?_)
    · skip
      have c_11' : idString_10.toInt = 0 := jb_eq (rfl) ((by decide)) c_11
      refine lv_aload_n hx hb dX14_beginAnswer_52 rfl (lv_at hl 0 rfl) ?_
      refine lv_aload_n hx hb dX14_beginAnswer_53 rfl (lv_at hl 0 rfl) ?_
      obtain ⟨v_12, hv_12, hh_13⟩ := hh_9.pin (C := RX14) (T := TX14) (N := 74) hB16 rfl (by decide) hg_r0 (i := 37) (by decide) rfl
      clear hh_9
      obtain ⟨idInt_14, rfl⟩ := hv_12
      refine j7_read hx hb hown hK (C := RX14) (T := TX14) (N := 74) rfl hly_16_37 hlk_380 (hh_13.at 0 rfl) dX14_beginAnswer_54 ?_
      refine va_callv (A0 := jA base) (H0 := s.heap) (va_runV (As := [.int idInt_14]) (rest := []) ⟨hx, hb, hml, hown, hts⟩ (uX14_number l dC dI ca base B hB hAp hB16 hB101 G0 H_2 r0 idInt_14 qf_2) (cwV 1 hts (jgV (jWr_54 _ (List.mem_of_getElem? (i := 18) rfl)) (jWr_54 _ (List.mem_of_getElem? (i := 19) rfl)) (jWr_54 _ (List.mem_of_getElem? (i := 20) rfl)) (jWr_1 _ (List.mem_of_getElem? (i := 5) rfl)) (jWr_54 _ (List.mem_of_getElem? (i := 21) rfl))) rfl rfl rfl (by decide +kernel) ⟨by rw [← hR]; exact Nat.le_of_ble_eq_true rfl, by rw [← hR]; exact Nat.le_of_ble_eq_true rfl⟩) ⟨fun a U g mk q => by obtain ⟨q0, q1, q2, qK, q10, q11, q12⟩ := q; exact ⟨q0, q1, q2, jG.calling g mk a qK, q10, q11, q12⟩, hh_13.recv (C := RX14) (T := TX14) (N := 74) hB16 rfl (by decide) hg_r0 hK, fun U hU hW => ⟨rfl, hU, hh_13.2.1, hG.step hW hU hh_13.1, hg_r0, (hh_13.2.2.1.sub (L1 := [(r0, 16, 6, .int qf_2)]) [3] rfl), by first | omega | (refine ⟨?_, ?_⟩ <;> (first | omega | rfl | assumption | decide | exact Or.inl rfl | exact Or.inr rfl | (simp only; omega)))⟩⟩ rfl rfl hl.1 rfl (lv_room (Nat.le_of_ble_eq_true rfl)) dX14_beginAnswer_57 ⟨Nat.zero_le _, Nat.zero_le _⟩) hh_13.1 (fun q _ h => h) (fun q h => h) (fun u_15 t_15 H_15 locs_15 ht_15 hvm_15 hr_16 hb_15 hz_15 hk_15 hS_15 => ?_)
      obtain ⟨qf_15, rfl⟩ : ∃ z, z = u_15 := ⟨_, rfl⟩
      rw [ht_15] at hb_15
      obtain ⟨hb_151, hb_152, hb_153, hb_154, hb_155⟩ := hb_15
      have hh_15 : jSt (dC, dI) B base G0 G0 EX14_beginAnswer s.heap 0 0 [(r0, 16, 6, .int qf_15), (r0, 16, 37, .int idInt_14), (r0, 16, 36, .int idString_10), (r0, 16, 40, .int idNull_6)] [] [] H_15 locs_15 := ((hh_13.call hb_151 hb_152 hb_153 hb_154 hS_15 rfl (L1 := [(r0, 16, 37, .int idInt_14), (r0, 16, 36, .int idString_10), (r0, 16, 40, .int idNull_6)]) [0, 1, 2] rfl rfl (M1 := []) [] rfl rfl (I1 := []) [] rfl rfl).more hb_155)
      clear hh_13 ht_15 hvm_15 hz_15 hk_15 hS_15 hb_151 hb_152 hb_153 hb_154 hb_155
      obtain ⟨hr_16_0, hr_16_1⟩ := hr_16
      rw [hQ]
      exact W.vret hx hb hr (fun t ht hW => ⟨⟨(), rfl, trivial, hh_15.rt (M1 := []) [] rfl ht⟩, by rw [ht]; try exact hh_15.1.1, fun q h9 hq => by rw [ht]; try exact hh_15.1.2.1 q h9 hq⟩) hh_15.1.2.2 dX14_beginAnswer_60
    · skip
      have c_11' : idString_10.toInt ≠ 0 := jb_eq_n (rfl) ((by decide)) c_11
      refine lv_aload_n hx hb dX14_beginAnswer_36 rfl (lv_at hl 0 rfl) ?_
      refine lv_aload_n hx hb dX14_beginAnswer_37 rfl (lv_at hl 0 rfl) ?_
      obtain ⟨v_17, hv_17, hh_18⟩ := hh_9.pin (C := RX14) (T := TX14) (N := 74) hB16 rfl (by decide) hg_r0 (i := 38) (by decide) rfl
      clear hh_9
      obtain ⟨idUnits_19, rfl, hg_idUnits_19⟩ := hv_17
      refine j7_read hx hb hown hK (C := RX14) (T := TX14) (N := 74) rfl hly_16_38 hlk_68 (hh_18.at 0 rfl) dX14_beginAnswer_38 ?_
      refine lv_iconst (v := 0) hx hb dX14_beginAnswer_41 (by decide) ?_
      refine lv_aload_n hx hb dX14_beginAnswer_42 rfl (lv_at hl 0 rfl) ?_
      obtain ⟨v_20, hv_20, hh_21⟩ := hh_18.pin (C := RX14) (T := TX14) (N := 74) hB16 rfl (by decide) hg_r0 (i := 39) (by decide) rfl
      clear hh_18
      obtain ⟨idLength_22, rfl, hloidLength_22, hhiidLength_22⟩ := hv_20
      refine j7_read hx hb hown hK (C := RX14) (T := TX14) (N := 74) rfl hly_16_39 hlk_383 (hh_21.at 0 rfl) dX14_beginAnswer_43 ?_
      refine va_callv (A0 := jA base) (H0 := s.heap) (va_runV (As := [.ref idUnits_19, .int 0, .int idLength_22]) (rest := []) ⟨hx, hb, hml, hown, hts⟩ (uX14_string l dC dI ca base B hB hAp hB16 hB101 G0 H_2 r0 idUnits_19 0 idLength_22 20 qf_2) (cwV 3 hts (jgV (jWr_54 _ (List.mem_of_getElem? (i := 6) rfl)) (jWr_54 _ (List.mem_of_getElem? (i := 7) rfl)) (jWr_54 _ (List.mem_of_getElem? (i := 8) rfl)) (jWr_1 _ (List.mem_of_getElem? (i := 5) rfl)) (jWr_54 _ (List.mem_of_getElem? (i := 9) rfl))) rfl rfl rfl (by decide +kernel) ⟨by rw [← hR]; exact Nat.le_of_ble_eq_true rfl, by rw [← hR]; exact Nat.le_of_ble_eq_true rfl⟩) ⟨fun a U g mk q => by obtain ⟨q0, q1, q2, qK, q10, q11, q12, q13⟩ := q; exact ⟨q0, q1, q2, jG.calling g mk a qK, q10, q11, q12, q13⟩, hh_21.recv (C := RX14) (T := TX14) (N := 74) hB16 rfl (by decide) hg_r0 hK, fun U hU hW => ⟨rfl, hU, hh_21.2.1, hG.step hW hU hh_21.1, hg_idUnits_19, hg_r0, (hh_21.2.2.1.sub (L1 := [(r0, 16, 6, .int qf_2)]) [4] rfl), by first | omega | (refine ⟨?_, ?_, ?_, ?_, ?_⟩ <;> (first | omega | rfl | assumption | decide | exact Or.inl rfl | exact Or.inr rfl | (simp only; omega)))⟩⟩ rfl rfl hl.1 rfl (lv_room (Nat.le_of_ble_eq_true rfl)) dX14_beginAnswer_46 ⟨Nat.zero_le _, Nat.zero_le _⟩) hh_21.1 (fun q _ h => h) (fun q h => h) (fun u_23 t_23 H_23 locs_23 ht_23 hvm_23 hr_24 hb_23 hz_23 hk_23 hS_23 => ?_)
      obtain ⟨qf_23, rfl⟩ : ∃ z, z = u_23 := ⟨_, rfl⟩
      rw [ht_23] at hb_23
      obtain ⟨hb_231, hb_232, hb_233, hb_234, hb_235⟩ := hb_23
      have hh_23 : jSt (dC, dI) B base G0 G0 EX14_beginAnswer s.heap 0 0 [(r0, 16, 6, .int qf_23), (r0, 16, 39, .int idLength_22), (r0, 16, 38, .ref idUnits_19), (r0, 16, 36, .int idString_10), (r0, 16, 40, .int idNull_6)] [] [] H_23 locs_23 := ((hh_21.call hb_231 hb_232 hb_233 hb_234 hS_23 rfl (L1 := [(r0, 16, 39, .int idLength_22), (r0, 16, 38, .ref idUnits_19), (r0, 16, 36, .int idString_10), (r0, 16, 40, .int idNull_6)]) [0, 1, 2, 3] rfl rfl (M1 := []) [] rfl rfl (I1 := []) [] rfl rfl).more hb_235)
      clear hh_21 ht_23 hvm_23 hz_23 hk_23 hS_23 hb_231 hb_232 hb_233 hb_234 hb_235
      obtain ⟨hr_24_0, hr_24_1⟩ := hr_24
      refine lv_goto (tgt := 60) hx hb dX14_beginAnswer_49 (by decide) ?_
      rw [hQ]
      exact W.vret hx hb hr (fun t ht hW => ⟨⟨(), rfl, trivial, hh_23.rt (M1 := []) [] rfl ht⟩, by rw [ht]; try exact hh_23.1.1, fun q h9 hq => by rw [ht]; try exact hh_23.1.2.1 q h9 hq⟩) hh_23.1.2.2 dX14_beginAnswer_60
  · skip
    have c_7' : idNull_6.toInt ≠ 0 := jb_eq_n (rfl) ((by decide)) c_7
    refine lv_aload_n hx hb dX14_beginAnswer_19 rfl (lv_at hl 0 rfl) ?_
    refine j_ldcSw hx hb hown rstr307 dX14_beginAnswer_20 ?_
    refine va_callv (A0 := jA base) (H0 := s.heap) (va_runV (As := [.ref str307]) (rest := []) ⟨hx, hb, hml, hown, hts⟩ (uX14_word l dC dI ca base B hB hAp hB16 hB101 G0 H_2 r0 str307 4 qf_2) (cwV 1 hts (jgV (jWr_53 _ (List.mem_of_getElem? (i := 22) rfl)) (jWr_53 _ (List.mem_of_getElem? (i := 23) rfl)) (jWr_54 _ (List.mem_of_getElem? (i := 0) rfl)) (jWr_1 _ (List.mem_of_getElem? (i := 5) rfl)) (jWr_54 _ (List.mem_of_getElem? (i := 1) rfl))) rfl rfl rfl (by decide +kernel) ⟨by rw [← hR]; exact Nat.le_of_ble_eq_true rfl, by rw [← hR]; exact Nat.le_of_ble_eq_true rfl⟩) ⟨fun a U g mk q => by obtain ⟨q0, q1, q2, qK, q10, q11, q12, q13⟩ := q; exact ⟨q0, q1, q2, jG.calling g mk a qK, (q10.moved (Vm.Alike.refl U.vm)), q11, q12, q13⟩, hh_5.recv (C := RX14) (T := TX14) (N := 74) hB16 rfl (by decide) hg_r0 hK, fun U hU hW => ⟨rfl, hU, hh_5.2.1, hG.step hW hU hh_5.1, (hstr307.moved hW.alike).kept hh_5.1.2.1, hg_r0, (hh_5.2.2.1.sub (L1 := [(r0, 16, 6, .int qf_2)]) [1] rfl), by first | omega | (refine ⟨?_, ?_, ?_⟩ <;> (first | omega | rfl | assumption | decide | exact Or.inl rfl | exact Or.inr rfl | (simp only; omega)))⟩⟩ rfl rfl hl.1 rfl (lv_room (Nat.le_of_ble_eq_true rfl)) dX14_beginAnswer_23 ⟨Nat.zero_le _, Nat.zero_le _⟩) hh_5.1 (fun q _ h => h) (fun q h => h) (fun u_25 t_25 H_25 locs_25 ht_25 hvm_25 hr_26 hb_25 hz_25 hk_25 hS_25 => ?_)
    obtain ⟨qf_25, rfl⟩ : ∃ z, z = u_25 := ⟨_, rfl⟩
    rw [ht_25] at hb_25
    obtain ⟨hb_251, hb_252, hb_253, hb_254, hb_255⟩ := hb_25
    have hh_25 : jSt (dC, dI) B base G0 G0 EX14_beginAnswer s.heap 0 0 [(r0, 16, 6, .int qf_25), (r0, 16, 40, .int idNull_6)] [] [] H_25 locs_25 := ((hh_5.call hb_251 hb_252 hb_253 hb_254 hS_25 rfl (L1 := [(r0, 16, 40, .int idNull_6)]) [0] rfl rfl (M1 := []) [] rfl rfl (I1 := []) [] rfl rfl).more hb_255)
    clear hh_5 ht_25 hvm_25 hz_25 hk_25 hS_25 hb_251 hb_252 hb_253 hb_254 hb_255
    obtain ⟨hr_26_0, hr_26_1⟩ := hr_26
    refine lv_goto (tgt := 60) hx hb dX14_beginAnswer_26 (by decide) ?_
    rw [hQ]
    exact W.vret hx hb hr (fun t ht hW => ⟨⟨(), rfl, trivial, hh_25.rt (M1 := []) [] rfl ht⟩, by rw [ht]; try exact hh_25.1.1, fun q h9 hq => by rw [ht]; try exact hh_25.1.2.1 q h9 hq⟩) hh_25.1.2.2 dX14_beginAnswer_60
set_option maxHeartbeats 4000000 in
set_option maxRecDepth 20000 in
theorem uX14_beginResult (l : Launch) (dC : Nat → ClassId) (dI : Nat → Nat → Nat) (ca : Nat → ClassId) (base : Nat) (B : jF) (hB : jBok B) (hAp : jAp (dC, dI)) (hB16 : ∀ n G a H, B 16 n G a H ↔ jOb (dC, dI) 16 74 (F16 n G) a H) (hB101 : ∀ n G a H, B 101 n G a H ↔ jAr (dC, dI) (ca 1) (fun j z => True) n a H) (G0 : jT) (H0 : Heap) (r0 : Nat) : Met l yX14_beginResult (jw yX14_beginResult cX14_beginResult 1 none) ({ frames := 13, cells := 0, slots := 0, locals := 482 }) (va_Pc [.ref r0] (fun U => U.heap = H0 ∧ jX B base G0 [] H0 ∧ jG dC dI ca base U ∧ G0 r0 = some (16, 0) ∧ jP (dC, dI) G0 H0 [] ∧ True)) (va_Qv (S := Unit) (fun u => True) (fun u t => jRt (dC, dI) B base G0 EX14_beginResult H0 [] t.heap) (jA base)) 0 0 (jA base) := by
  refine Met.ofW (cc := cX14_beginResult) (maxL := 1) (ret := none) (by decide) rfl ?_
  intro p e s m args below meth c s₁ Bd hml hv
  obtain ⟨rfl, hH0, hX, hG, hg_r0, hP0, hp0⟩ := hv
  have hK := hG.1
  have hx := Bd.exec
  have hb := Bd.bytes
  have hr := Bd.returns
  have hts := atoms_spec (ws := (jw yX14_beginResult cX14_beginResult 1 none)) Bd.pre
  have htw : ∀ w ∈ jWl, w.before _ s = true := fun w h => hts w (List.mem_cons_of_mem _ h)
  have hown : s.vm.findClass RX14 = some m.cls := findClass_of_methodNamed Bd.named
  have hlocks := Bd.notSynchronized
  obtain ⟨Q, hQ⟩ : ∃ Q, Q = MQ below (va_Qv (S := Unit) (fun u => True) (fun u t => jRt (dC, dI) B base G0 EX14_beginResult H0 [] t.heap) (jA base)) ([.ref r0] : List Value).toArray s 0 0 (jA base) := ⟨_, rfl⟩
  rw [← hQ]
  have hl := lv_entry ([.ref r0]) (n := 1) (Nat.le_of_ble_eq_true rfl)
  rw [lg_entry_eq]
  generalize (lg_sl ([.ref r0]) ++ List.replicate (1 - (lg_sl ([.ref r0])).length) Slot.unset).toArray = ls at hl ⊢
  have hl : lv_has ls 1 [(0, .ref r0)] := hl
  generalize hR : (headSpec (jw yX14_beginResult cX14_beginResult 1 none) ({ frames := 13, cells := 0, slots := 0, locals := 482 })).room = R
  subst hH0
  have hh : jSt (dC, dI) B base G0 G0 EX14_beginResult s.heap 0 0 [] [] [] s.heap [] := jSt.start hX hP0 jMc.nil jIs.nil
  clear hX hP0
  have hk0 : (0 : Int32).toInt = 0 := by decide
  have hk1 : (1 : Int32).toInt = 1 := by decide
  obtain ⟨str395, rstr395, hstr3950⟩ := hG.str (o := RX14) (k := 395) (tx := ",\"result\":") (List.mem_of_getElem? (i := 2800) (by decide +kernel))
  have hstr395 : jStr base str395 10 s s.heap := hstr3950
  refine lv_aload_n hx hb dX14_beginResult_0 rfl (lv_at hl 0 rfl) ?_
  refine va_callv (A0 := jA base) (H0 := s.heap) (va_runV (As := []) (rest := []) ⟨hx, hb, hml, hown, hts⟩ (uX14_beginAnswer l dC dI ca base B hB hAp hB16 hB101 G0 s.heap r0) (cwV 0 hts (jgV (jWr_53 _ (List.mem_of_getElem? (i := 14) rfl)) (jWr_53 _ (List.mem_of_getElem? (i := 15) rfl)) (jWr_53 _ (List.mem_of_getElem? (i := 16) rfl)) (jWr_1 _ (List.mem_of_getElem? (i := 5) rfl)) (jWr_53 _ (List.mem_of_getElem? (i := 17) rfl))) rfl rfl rfl (by decide +kernel) ⟨by rw [← hR]; exact Nat.le_of_ble_eq_true rfl, by rw [← hR]; exact Nat.le_of_ble_eq_true rfl⟩) ⟨fun a U g mk q => by obtain ⟨q0, q1, q2, qK, q10, q11, q12⟩ := q; exact ⟨q0, q1, q2, jG.calling g mk a qK, q10, q11, q12⟩, hh.recv (C := RX14) (T := TX14) (N := 74) hB16 rfl (by decide) hg_r0 hK, fun U hU hW => ⟨rfl, hU, hh.2.1, hG.step hW hU hh.1, hg_r0, jP.nil, trivial⟩⟩ rfl rfl hl.1 rfl (lv_room (Nat.le_of_ble_eq_true rfl)) dX14_beginResult_1 ⟨Nat.zero_le _, Nat.zero_le _⟩) hh.1 (fun q _ h => h) (fun q h => h) (fun u_1 t_1 H_1 locs_1 ht_1 hvm_1 hr_2 hb_1 hz_1 hk_1 hS_1 => ?_)
  rw [ht_1] at hb_1
  obtain ⟨hb_11, hb_12, hb_13, hb_14, hb_15⟩ := hb_1
  have hh_1 : jSt (dC, dI) B base G0 G0 EX14_beginResult s.heap 0 0 [] [] [] H_1 locs_1 := ((hh.call hb_11 hb_12 hb_13 hb_14 hS_1 rfl (L1 := []) [] rfl rfl (M1 := []) [] rfl rfl (I1 := []) [] rfl rfl).more hb_15)
  clear hh ht_1 hvm_1 hz_1 hk_1 hS_1 hb_11 hb_12 hb_13 hb_14 hb_15
  refine lv_aload_n hx hb dX14_beginResult_4 rfl (lv_at hl 0 rfl) ?_
  refine j_ldcSw hx hb hown rstr395 dX14_beginResult_5 ?_
  obtain ⟨v_5, hv_5, hh_6⟩ := hh_1.pin (C := RX14) (T := TX14) (N := 74) hB16 rfl (by decide) hg_r0 (i := 6) (by decide) rfl
  obtain ⟨framed_7, rfl, hloframed_7, hhiframed_7⟩ := hv_5
  refine va_callv (A0 := jA base) (H0 := s.heap) (va_runV (As := [.ref str395]) (rest := []) ⟨hx, hb, hml, hown, hts⟩ (uX14_word l dC dI ca base B hB hAp hB16 hB101 G0 H_1 r0 str395 10 framed_7) (cwV 1 hts (jgV (jWr_53 _ (List.mem_of_getElem? (i := 22) rfl)) (jWr_53 _ (List.mem_of_getElem? (i := 23) rfl)) (jWr_54 _ (List.mem_of_getElem? (i := 0) rfl)) (jWr_1 _ (List.mem_of_getElem? (i := 5) rfl)) (jWr_54 _ (List.mem_of_getElem? (i := 1) rfl))) rfl rfl rfl (by decide +kernel) ⟨by rw [← hR]; exact Nat.le_of_ble_eq_true rfl, by rw [← hR]; exact Nat.le_of_ble_eq_true rfl⟩) ⟨fun a U g mk q => by obtain ⟨q0, q1, q2, qK, q10, q11, q12, q13⟩ := q; exact ⟨q0, q1, q2, jG.calling g mk a qK, (q10.moved (Vm.Alike.refl U.vm)), q11, q12, q13⟩, hh_6.recv (C := RX14) (T := TX14) (N := 74) hB16 rfl (by decide) hg_r0 hK, fun U hU hW => ⟨rfl, hU, hh_6.2.1, hG.step hW hU hh_6.1, (hstr395.moved hW.alike).kept hh_6.1.2.1, hg_r0, (hh_6.2.2.1.sub (L1 := [(r0, 16, 6, .int framed_7)]) [0] rfl), by first | omega | (refine ⟨?_, ?_, ?_⟩ <;> (first | omega | rfl | assumption | decide | exact Or.inl rfl | exact Or.inr rfl | (simp only; omega)))⟩⟩ rfl rfl hl.1 rfl (lv_room (Nat.le_of_ble_eq_true rfl)) dX14_beginResult_8 ⟨Nat.zero_le _, Nat.zero_le _⟩) hh_6.1 (fun q _ h => h) (fun q h => h) (fun u_3 t_3 H_3 locs_3 ht_3 hvm_3 hr_4 hb_3 hz_3 hk_3 hS_3 => ?_)
  obtain ⟨qf_3, rfl⟩ : ∃ z, z = u_3 := ⟨_, rfl⟩
  rw [ht_3] at hb_3
  obtain ⟨hb_31, hb_32, hb_33, hb_34, hb_35⟩ := hb_3
  have hh_3 : jSt (dC, dI) B base G0 G0 EX14_beginResult s.heap 0 0 [(r0, 16, 6, .int qf_3)] [] [] H_3 locs_3 := ((hh_6.call hb_31 hb_32 hb_33 hb_34 hS_3 rfl (L1 := []) [] rfl rfl (M1 := []) [] rfl rfl (I1 := []) [] rfl rfl).more hb_35)
  clear hh_6 ht_3 hvm_3 hz_3 hk_3 hS_3 hb_31 hb_32 hb_33 hb_34 hb_35
  obtain ⟨hr_4_0, hr_4_1⟩ := hr_4
  rw [hQ]
  exact W.vret hx hb hr (fun t ht hW => ⟨⟨(), rfl, trivial, hh_3.rt (M1 := []) [] rfl ht⟩, by rw [ht]; try exact hh_3.1.1, fun q h9 hq => by rw [ht]; try exact hh_3.1.2.1 q h9 hq⟩) hh_3.1.2.2 dX14_beginResult_11
set_option maxHeartbeats 4000000 in
set_option maxRecDepth 20000 in
theorem uX14_endAnswer (l : Launch) (dC : Nat → ClassId) (dI : Nat → Nat → Nat) (ca : Nat → ClassId) (base : Nat) (B : jF) (hB : jBok B) (hAp : jAp (dC, dI)) (hB16 : ∀ n G a H, B 16 n G a H ↔ jOb (dC, dI) 16 74 (F16 n G) a H) (hB101 : ∀ n G a H, B 101 n G a H ↔ jAr (dC, dI) (ca 1) (fun j z => True) n a H) (G0 : jT) (H0 : Heap) (r0 : Nat) : Met l yX14_endAnswer (jw yX14_endAnswer cX14_endAnswer 1 none) ({ frames := 13, cells := 0, slots := 0, locals := 485 }) (va_Pc [.ref r0] (fun U => U.heap = H0 ∧ jX B base G0 [] H0 ∧ jG dC dI ca base U ∧ G0 r0 = some (16, 0) ∧ jP (dC, dI) G0 H0 [] ∧ True)) (va_Qv (S := Unit) (fun u => True) (fun u t => jRt (dC, dI) B base G0 EX14_endAnswer H0 [] t.heap) (jA base)) 0 0 (jA base) := by
  refine Met.ofW (cc := cX14_endAnswer) (maxL := 1) (ret := none) (by decide) rfl ?_
  intro p e s m args below meth c s₁ Bd hml hv
  obtain ⟨rfl, hH0, hX, hG, hg_r0, hP0, hp0⟩ := hv
  have hK := hG.1
  have hx := Bd.exec
  have hb := Bd.bytes
  have hr := Bd.returns
  have hts := atoms_spec (ws := (jw yX14_endAnswer cX14_endAnswer 1 none)) Bd.pre
  have htw : ∀ w ∈ jWl, w.before _ s = true := fun w h => hts w (List.mem_cons_of_mem _ h)
  have hown : s.vm.findClass RX14 = some m.cls := findClass_of_methodNamed Bd.named
  have hlocks := Bd.notSynchronized
  obtain ⟨Q, hQ⟩ : ∃ Q, Q = MQ below (va_Qv (S := Unit) (fun u => True) (fun u t => jRt (dC, dI) B base G0 EX14_endAnswer H0 [] t.heap) (jA base)) ([.ref r0] : List Value).toArray s 0 0 (jA base) := ⟨_, rfl⟩
  rw [← hQ]
  have hl := lv_entry ([.ref r0]) (n := 1) (Nat.le_of_ble_eq_true rfl)
  rw [lg_entry_eq]
  generalize (lg_sl ([.ref r0]) ++ List.replicate (1 - (lg_sl ([.ref r0])).length) Slot.unset).toArray = ls at hl ⊢
  have hl : lv_has ls 1 [(0, .ref r0)] := hl
  generalize hR : (headSpec (jw yX14_endAnswer cX14_endAnswer 1 none) ({ frames := 13, cells := 0, slots := 0, locals := 485 })).room = R
  subst hH0
  have hh : jSt (dC, dI) B base G0 G0 EX14_endAnswer s.heap 0 0 [] [] [] s.heap [] := jSt.start hX hP0 jMc.nil jIs.nil
  clear hX hP0
  have hk0 : (0 : Int32).toInt = 0 := by decide
  have hk1 : (1 : Int32).toInt = 1 := by decide
  have hk125 : (125 : Int32).toInt = 125 := by decide
  refine lv_aload_n hx hb dX14_endAnswer_0 rfl (lv_at hl 0 rfl) ?_
  refine lv_bipush (v := 125) hx hb dX14_endAnswer_1 (by decide) ?_
  obtain ⟨v_3, hv_3, hh_4⟩ := hh.pin (C := RX14) (T := TX14) (N := 74) hB16 rfl (by decide) hg_r0 (i := 6) (by decide) rfl
  obtain ⟨framed_5, rfl, hloframed_5, hhiframed_5⟩ := hv_3
  refine va_callv (A0 := jA base) (H0 := s.heap) (va_runV (As := [.int 125]) (rest := []) ⟨hx, hb, hml, hown, hts⟩ (uX14_put l dC dI ca base B hB hAp hB16 hB101 G0 s.heap r0 125 framed_5) (cwV 1 hts (jgV (jWr_54 _ (List.mem_of_getElem? (i := 2) rfl)) (jWr_54 _ (List.mem_of_getElem? (i := 3) rfl)) (jWr_54 _ (List.mem_of_getElem? (i := 4) rfl)) (jWr_1 _ (List.mem_of_getElem? (i := 5) rfl)) (jWr_54 _ (List.mem_of_getElem? (i := 5) rfl))) rfl rfl rfl (by decide +kernel) ⟨by rw [← hR]; exact Nat.le_of_ble_eq_true rfl, by rw [← hR]; exact Nat.le_of_ble_eq_true rfl⟩) ⟨fun a U g mk q => by obtain ⟨q0, q1, q2, qK, q10, q11, q12⟩ := q; exact ⟨q0, q1, q2, jG.calling g mk a qK, q10, q11, q12⟩, hh_4.recv (C := RX14) (T := TX14) (N := 74) hB16 rfl (by decide) hg_r0 hK, fun U hU hW => ⟨rfl, hU, hh_4.2.1, hG.step hW hU hh_4.1, hg_r0, (hh_4.2.2.1.sub (L1 := [(r0, 16, 6, .int framed_5)]) [0] rfl), by first | omega | (refine ⟨?_, ?_⟩ <;> (first | omega | rfl | assumption | decide | exact Or.inl rfl | exact Or.inr rfl | (simp only; omega)))⟩⟩ rfl rfl hl.1 rfl (lv_room (Nat.le_of_ble_eq_true rfl)) dX14_endAnswer_3 ⟨Nat.zero_le _, Nat.zero_le _⟩) hh_4.1 (fun q _ h => h) (fun q h => h) (fun u_1 t_1 H_1 locs_1 ht_1 hvm_1 hr_2 hb_1 hz_1 hk_1 hS_1 => ?_)
  obtain ⟨qf_1, rfl⟩ : ∃ z, z = u_1 := ⟨_, rfl⟩
  rw [ht_1] at hb_1
  obtain ⟨hb_11, hb_12, hb_13, hb_14, hb_15⟩ := hb_1
  have hh_1 : jSt (dC, dI) B base G0 G0 EX14_endAnswer s.heap 0 0 [(r0, 16, 6, .int qf_1)] [] [] H_1 locs_1 := ((hh_4.call hb_11 hb_12 hb_13 hb_14 hS_1 rfl (L1 := []) [] rfl rfl (M1 := []) [] rfl rfl (I1 := []) [] rfl rfl).more hb_15)
  clear hh_4 ht_1 hvm_1 hz_1 hk_1 hS_1 hb_11 hb_12 hb_13 hb_14 hb_15
  obtain ⟨hr_2_0, hr_2_1⟩ := hr_2
  refine lv_aload_n hx hb dX14_endAnswer_6 rfl (lv_at hl 0 rfl) ?_
  refine va_callv (A0 := jA base) (H0 := s.heap) (va_runV (As := []) (rest := []) ⟨hx, hb, hml, hown, hts⟩ (uX14_send l dC dI ca base B hB hAp hB16 hB101 G0 H_1 r0) (cwV 0 hts (jgV (jWr_55 _ (List.mem_of_getElem? (i := 10) rfl)) (jWr_55 _ (List.mem_of_getElem? (i := 11) rfl)) (jWr_55 _ (List.mem_of_getElem? (i := 12) rfl)) (jWr_1 _ (List.mem_of_getElem? (i := 5) rfl)) (jWr_55 _ (List.mem_of_getElem? (i := 13) rfl))) rfl rfl rfl (by decide +kernel) ⟨by rw [← hR]; exact Nat.le_of_ble_eq_true rfl, by rw [← hR]; exact Nat.le_of_ble_eq_true rfl⟩) ⟨fun a U g mk q => by obtain ⟨q0, q1, q2, qK, q10, q11, q12⟩ := q; exact ⟨q0, q1, q2, jG.calling g mk a qK, q10, q11, q12⟩, hh_1.recv (C := RX14) (T := TX14) (N := 74) hB16 rfl (by decide) hg_r0 hK, fun U hU hW => ⟨rfl, hU, hh_1.2.1, hG.step hW hU hh_1.1, hg_r0, jP.nil, trivial⟩⟩ rfl rfl hl.1 rfl (lv_room (Nat.le_of_ble_eq_true rfl)) dX14_endAnswer_7 ⟨Nat.zero_le _, Nat.zero_le _⟩) hh_1.1 (fun q _ h => h) (fun q h => h) (fun u_6 t_6 H_6 locs_6 ht_6 hvm_6 hr_7 hb_6 hz_6 hk_6 hS_6 => ?_)
  rw [ht_6] at hb_6
  obtain ⟨hb_61, hb_62, hb_63, hb_64, hb_65⟩ := hb_6
  have hh_6 : jSt (dC, dI) B base G0 G0 EX14_endAnswer s.heap 0 0 [] [] [] H_6 locs_6 := ((hh_1.call hb_61 hb_62 hb_63 hb_64 hS_6 rfl (L1 := []) [] rfl rfl (M1 := []) [] rfl rfl (I1 := []) [] rfl rfl).more hb_65)
  clear hh_1 ht_6 hvm_6 hz_6 hk_6 hS_6 hb_61 hb_62 hb_63 hb_64 hb_65
  rw [hQ]
  exact W.vret hx hb hr (fun t ht hW => ⟨⟨(), rfl, trivial, hh_6.rt (M1 := []) [] rfl ht⟩, by rw [ht]; try exact hh_6.1.1, fun q h9 hq => by rw [ht]; try exact hh_6.1.2.1 q h9 hq⟩) hh_6.1.2.2 dX14_endAnswer_10
end
section
def EX14_stringw9 : List (Nat × Nat) := [(16, 6), (101, 0)]
set_option maxHeartbeats 4000000 in
set_option maxRecDepth 20000 in
theorem uX14_stringw9 (l : Launch) (dC : Nat → ClassId) (dI : Nat → Nat → Nat) (ca : Nat → ClassId) (base : Nat) (B : jF) (hB : jBok B) (hAp : jAp (dC, dI)) (hB16 : ∀ n G a H, B 16 n G a H ↔ jOb (dC, dI) 16 74 (F16 n G) a H) (hB101 : ∀ n G a H, B 101 n G a H ↔ jAr (dC, dI) (ca 1) (fun j z => True) n a H) (hB195 : ∀ n G a H, B 195 n G a H ↔ jAr (dC, dI) (ca 1) (fun j z => True) n a H) (G0 : jT) (H0 : Heap) (r0 : Nat) (r1 : Nat) (a2 : Int32) (a3 : Int32) (n1 : Nat) (pf : Int32) : Met l yX14_string (jw yX14_string cX14_string 7 none) ({ frames := 5, cells := 0, slots := 0, locals := 163 }) (va_Pc [.ref r0, .ref r1, .int a2, .int a3] (fun U => U.heap = H0 ∧ jX B base G0 [] H0 ∧ jG dC dI ca base U ∧ G0 r1 = some (195, n1) ∧ G0 r0 = some (16, 0) ∧ jP (dC, dI) G0 H0 [(r0, 16, 6, .int pf)] ∧ 0 ≤ pf.toInt ∧ pf.toInt ≤ 100000 ∧ 0 ≤ a2.toInt ∧ a3.toInt ≤ n1 ∧ n1 ≤ 200000)) (va_Qv (S := Int32) (fun u => pf.toInt ≤ u.toInt ∧ u.toInt ≤ 100000) (fun u t => jRt (dC, dI) B base G0 EX14_stringw9 H0 [(r0, 16, 6, .int u)] t.heap) (jA base)) 0 0 (jA base) := by
  refine Met.ofW (cc := cX14_string) (maxL := 7) (ret := none) (by decide) rfl ?_
  intro p e s m args below meth c s₁ Bd hml hv
  obtain ⟨rfl, hH0, hX, hG, hg_r1, hg_r0, hP0, hp0, hp1, hp2, hp3, hp4⟩ := hv
  have hK := hG.1
  have hx := Bd.exec
  have hb := Bd.bytes
  have hr := Bd.returns
  have hts := atoms_spec (ws := (jw yX14_string cX14_string 7 none)) Bd.pre
  have htw : ∀ w ∈ jWl, w.before _ s = true := fun w h => hts w (List.mem_cons_of_mem _ h)
  have hown : s.vm.findClass RX14 = some m.cls := findClass_of_methodNamed Bd.named
  have hlocks := Bd.notSynchronized
  obtain ⟨Q, hQ⟩ : ∃ Q, Q = MQ below (va_Qv (S := Int32) (fun u => pf.toInt ≤ u.toInt ∧ u.toInt ≤ 100000) (fun u t => jRt (dC, dI) B base G0 EX14_stringw9 H0 [(r0, 16, 6, .int u)] t.heap) (jA base)) ([.ref r0, .ref r1, .int a2, .int a3] : List Value).toArray s 0 0 (jA base) := ⟨_, rfl⟩
  rw [← hQ]
  have hl := lv_entry ([.ref r0, .ref r1, .int a2, .int a3]) (n := 7) (Nat.le_of_ble_eq_true rfl)
  rw [lg_entry_eq]
  generalize (lg_sl ([.ref r0, .ref r1, .int a2, .int a3]) ++ List.replicate (7 - (lg_sl ([.ref r0, .ref r1, .int a2, .int a3])).length) Slot.unset).toArray = ls at hl ⊢
  have hl : lv_has ls 7 [(0, .ref r0), (1, .ref r1), (2, .int a2), (3, .int a3)] := hl
  generalize hR : (headSpec (jw yX14_string cX14_string 7 none) ({ frames := 5, cells := 0, slots := 0, locals := 163 })).room = R
  subst hH0
  have hh : jSt (dC, dI) B base G0 G0 EX14_stringw9 s.heap 0 0 [(r0, 16, 6, .int pf)] [] [] s.heap [] := jSt.start hX hP0 jMc.nil jIs.nil
  clear hX hP0
  have hk0 : (0 : Int32).toInt = 0 := by decide
  have hk1 : (1 : Int32).toInt = 1 := by decide
  have hk4 : (4 : Int32).toInt = 4 := by decide
  have hk10 : (10 : Int32).toInt = 10 := by decide
  have hk15 : (15 : Int32).toInt = 15 := by decide
  have hk32 : (32 : Int32).toInt = 32 := by decide
  have hk34 : (34 : Int32).toInt = 34 := by decide
  have hk92 : (92 : Int32).toInt = 92 := by decide
  have hk55296 : (55296 : Int32).toInt = 55296 := by decide
  have hk56319 : (56319 : Int32).toInt = 56319 := by decide
  have hk56320 : (56320 : Int32).toInt = 56320 := by decide
  have hk57343 : (57343 : Int32).toInt = 57343 := by decide
  have hk65533 : (65533 : Int32).toInt = 65533 := by decide
  have hk65536 : (65536 : Int32).toInt = 65536 := by decide
  have hcs_179 := htw (.constant RX14 179 55296) (jWr_51 _ (List.mem_of_getElem? (i := 18) rfl))
  have hcs_180 := htw (.constant RX14 180 56319) (jWr_51 _ (List.mem_of_getElem? (i := 19) rfl))
  have hcs_185 := htw (.constant RX14 185 56320) (jWr_51 _ (List.mem_of_getElem? (i := 16) rfl))
  have hcs_186 := htw (.constant RX14 186 57343) (jWr_51 _ (List.mem_of_getElem? (i := 17) rfl))
  obtain ⟨str187, rstr187, hstr1870⟩ := hG.str (o := RX14) (k := 187) (tx := "u00") (List.mem_of_getElem? (i := 2403) (by decide +kernel))
  have hstr187 : jStr base str187 3 s s.heap := hstr1870
  have hcs_197 := htw (.constant RX14 197 65536) (jWr_52 _ (List.mem_of_getElem? (i := 2) rfl))
  have hcs_201 := htw (.constant RX14 201 65533) (jWr_54 _ (List.mem_of_getElem? (i := 10) rfl))
  have hrg_a2 := jb_rng a2
  have hrg_a3 := jb_rng a3
  refine lv_aload_n hx hb dX14_string_0 rfl (lv_at hl 0 rfl) ?_
  refine lv_bipush (v := 34) hx hb dX14_string_1 (by decide) ?_
  refine va_callv (A0 := jA base) (H0 := s.heap) (va_runV (As := [.int 34]) (rest := []) ⟨hx, hb, hml, hown, hts⟩ (uX14_put l dC dI ca base B hB hAp hB16 hB101 G0 s.heap r0 34 pf) (cwV 1 hts (jgV (jWr_54 _ (List.mem_of_getElem? (i := 2) rfl)) (jWr_54 _ (List.mem_of_getElem? (i := 3) rfl)) (jWr_54 _ (List.mem_of_getElem? (i := 4) rfl)) (jWr_1 _ (List.mem_of_getElem? (i := 5) rfl)) (jWr_54 _ (List.mem_of_getElem? (i := 5) rfl))) rfl rfl rfl (by decide +kernel) ⟨by rw [← hR]; exact Nat.le_of_ble_eq_true rfl, by rw [← hR]; exact Nat.le_of_ble_eq_true rfl⟩) ⟨fun a U g mk q => by obtain ⟨q0, q1, q2, qK, q10, q11, q12⟩ := q; exact ⟨q0, q1, q2, jG.calling g mk a qK, q10, q11, q12⟩, hh.recv (C := RX14) (T := TX14) (N := 74) hB16 rfl (by decide) hg_r0 hK, fun U hU hW => ⟨rfl, hU, hh.2.1, hG.step hW hU hh.1, hg_r0, (hh.2.2.1.sub (L1 := [(r0, 16, 6, .int pf)]) [0] rfl), by first | omega | (refine ⟨?_, ?_⟩ <;> (first | omega | rfl | assumption | decide | exact Or.inl rfl | exact Or.inr rfl | (simp only; omega)))⟩⟩ rfl rfl hl.1 rfl (lv_room (Nat.le_of_ble_eq_true rfl)) dX14_string_3 ⟨Nat.zero_le _, Nat.zero_le _⟩) hh.1 (fun q _ h => h) (fun q h => h) (fun u_1 t_1 H_1 locs_1 ht_1 hvm_1 hr_2 hb_1 hz_1 hk_1 hS_1 => ?_)
  obtain ⟨qf_1, rfl⟩ : ∃ z, z = u_1 := ⟨_, rfl⟩
  rw [ht_1] at hb_1
  obtain ⟨hb_11, hb_12, hb_13, hb_14, hb_15⟩ := hb_1
  have hh_1 : jSt (dC, dI) B base G0 G0 EX14_stringw9 s.heap 0 0 [(r0, 16, 6, .int qf_1)] [] [] H_1 locs_1 := ((hh.call hb_11 hb_12 hb_13 hb_14 hS_1 rfl (L1 := []) [] rfl rfl (M1 := []) [] rfl rfl (I1 := []) [] rfl rfl).more hb_15)
  clear hh ht_1 hvm_1 hz_1 hk_1 hS_1 hb_11 hb_12 hb_13 hb_14 hb_15
  obtain ⟨hr_2_0, hr_2_1⟩ := hr_2
  refine lv_iload_n hx hb dX14_string_6 rfl (lv_at hl 2 rfl) ?_
  refine lv_istore (lv' := [(4, .int a2), (0, .ref r0), (1, .ref r1), (2, .int a2), (3, .int a3)]) hx hb dX14_string_7 hl (by decide) rfl (fun ls hl => ?_)
  have L9 : ∀ (N : Nat) (v4_3 : Int32) (wf_3 : Int32) (H_3 : Heap) (locs_3 : List Loc), jSt (dC, dI) B base G0 G0 EX14_stringw9 s.heap 0 0 [(r0, 16, 6, .int wf_3)] [] [] H_3 locs_3 → (a2.toInt ≤ v4_3.toInt ∧ pf.toInt ≤ wf_3.toInt ∧ wf_3.toInt ≤ 100000) → (((a3.toInt - v4_3.toInt).toNat : Int) : Int) < N → ∀ ls : Array Slot, lv_has ls 7 [(0, .ref r0), (1, .ref r1), (2, .int a2), (3, .int a3), (4, .int v4_3)] → W p l e R s m ([.ref r0, .ref r1, .int a2, .int a3] : List Value).toArray below meth c H_3 locs_3 0 0 Q (F0 m 9 ls []) := by
    intro N
    induction N with
    | zero => intro v4_3 wf_3 H_3 locs_3 hh_3  hi_3 hm; exact absurd hm (by omega)
    | succ N L9 =>
      intro v4_3 wf_3 H_3 locs_3 hh_3  hi_3 hm_3 ls hl
      obtain ⟨hi_3_0, hi_3_1, hi_3_2⟩ := hi_3
      refine lv_iload hx hb dX14_string_9 (lv_at hl 4 rfl) ?_
      refine lv_iload_n hx hb dX14_string_11 rfl (lv_at hl 3 rfl) ?_
      refine lv_icmp_ge (tgt := 203) hx hb dX14_string_12 (by decide) (fun c_4 => ?_) (fun c_4 => ?_)
      · skip
        have c_4' : v4_3.toInt ≥ a3.toInt := jb_ge (rfl) (rfl) c_4
        refine lv_aload_n hx hb dX14_string_203 rfl (lv_at hl 0 rfl) ?_
        refine lv_bipush (v := 34) hx hb dX14_string_204 (by decide) ?_
        refine va_callv (A0 := jA base) (H0 := s.heap) (va_runV (As := [.int 34]) (rest := []) ⟨hx, hb, hml, hown, hts⟩ (uX14_put l dC dI ca base B hB hAp hB16 hB101 G0 H_3 r0 34 wf_3) (cwV 1 hts (jgV (jWr_54 _ (List.mem_of_getElem? (i := 2) rfl)) (jWr_54 _ (List.mem_of_getElem? (i := 3) rfl)) (jWr_54 _ (List.mem_of_getElem? (i := 4) rfl)) (jWr_1 _ (List.mem_of_getElem? (i := 5) rfl)) (jWr_54 _ (List.mem_of_getElem? (i := 5) rfl))) rfl rfl rfl (by decide +kernel) ⟨by rw [← hR]; exact Nat.le_of_ble_eq_true rfl, by rw [← hR]; exact Nat.le_of_ble_eq_true rfl⟩) ⟨fun a U g mk q => by obtain ⟨q0, q1, q2, qK, q10, q11, q12⟩ := q; exact ⟨q0, q1, q2, jG.calling g mk a qK, q10, q11, q12⟩, hh_3.recv (C := RX14) (T := TX14) (N := 74) hB16 rfl (by decide) hg_r0 hK, fun U hU hW => ⟨rfl, hU, hh_3.2.1, hG.step hW hU hh_3.1, hg_r0, (hh_3.2.2.1.sub (L1 := [(r0, 16, 6, .int wf_3)]) [0] rfl), by first | omega | (refine ⟨?_, ?_⟩ <;> (first | omega | rfl | assumption | decide | exact Or.inl rfl | exact Or.inr rfl | (simp only; omega)))⟩⟩ rfl rfl hl.1 rfl (lv_room (Nat.le_of_ble_eq_true rfl)) dX14_string_206 ⟨Nat.zero_le _, Nat.zero_le _⟩) hh_3.1 (fun q _ h => h) (fun q h => h) (fun u_5 t_5 H_5 locs_5 ht_5 hvm_5 hr_6 hb_5 hz_5 hk_5 hS_5 => ?_)
        obtain ⟨qf_5, rfl⟩ : ∃ z, z = u_5 := ⟨_, rfl⟩
        rw [ht_5] at hb_5
        obtain ⟨hb_51, hb_52, hb_53, hb_54, hb_55⟩ := hb_5
        have hh_5 : jSt (dC, dI) B base G0 G0 EX14_stringw9 s.heap 0 0 [(r0, 16, 6, .int qf_5)] [] [] H_5 locs_5 := ((hh_3.call hb_51 hb_52 hb_53 hb_54 hS_5 rfl (L1 := []) [] rfl rfl (M1 := []) [] rfl rfl (I1 := []) [] rfl rfl).more hb_55)
        clear hh_3 ht_5 hvm_5 hz_5 hk_5 hS_5 hb_51 hb_52 hb_53 hb_54 hb_55
        obtain ⟨hr_6_0, hr_6_1⟩ := hr_6
        rw [hQ]
        exact W.vret hx hb hr (fun t ht hW => ⟨⟨qf_5, rfl, by first | omega | (refine ⟨?_, ?_⟩ <;> (first | omega | rfl | assumption | decide | exact Or.inl rfl | exact Or.inr rfl | (simp only; omega))), hh_5.rt (M1 := [(r0, 16, 6, .int qf_5)]) [0] rfl ht⟩, by rw [ht]; try exact hh_5.1.1, fun q h9 hq => by rw [ht]; try exact hh_5.1.2.1 q h9 hq⟩) hh_5.1.2.2 dX14_string_209
      · skip
        have c_4' : v4_3.toInt < a3.toInt := jb_ge_n (rfl) (rfl) c_4
        refine lv_aload_n hx hb dX14_string_15 rfl (lv_at hl 1 rfl) ?_
        refine lv_iload hx hb dX14_string_16 (lv_at hl 4 rfl) ?_
        refine j7_iald hx hb hK hh_3 hB195 1 rfl (by decide) hg_r1 (x := v4_3.toInt) (rfl) (by omega) dX14_string_18 (fun z_7 (hz_7 : True) => ?_)
        refine lv_istore (lv' := [(5, .int z_7), (0, .ref r0), (1, .ref r1), (2, .int a2), (3, .int a3), (4, .int v4_3)]) hx hb dX14_string_19 hl (by decide) rfl (fun ls hl => ?_)
        refine lv_iload hx hb dX14_string_21 (lv_at hl 0 rfl) ?_
        refine lv_ldc hx hb hown hcs_179 dX14_string_23 ?_
        refine lv_ldc hx hb hown hcs_180 dX14_string_25 ?_
        refine va_calli (A0 := jA base) (H0 := s.heap) (va_runS (As := [.int z_7, .int 55296, .int 56319]) (rest := []) ⟨hx, hb, hml, hown, hts⟩ (uX14_in l dC dI ca base B hB hAp G0 H_3 z_7 55296 56319) (va_cwS 3 hts (jgS (jWr_48 _ (List.mem_of_getElem? (i := 10) rfl)) (jWr_48 _ (List.mem_of_getElem? (i := 11) rfl)) (jWr_1 _ (List.mem_of_getElem? (i := 5) rfl)) (jWr_48 _ (List.mem_of_getElem? (i := 12) rfl))) rfl rfl rfl (by decide +kernel) ⟨by rw [← hR]; exact Nat.le_of_ble_eq_true rfl, by rw [← hR]; exact Nat.le_of_ble_eq_true rfl⟩) ⟨fun a U g mk q => by obtain ⟨q0, q1, q2, qK, q10, q11⟩ := q; exact ⟨q0, q1, q2, jG.calling g mk a qK, q10, q11⟩, fun U hU hW => ⟨rfl, hU, hh_3.2.1, hG.step hW hU hh_3.1, jP.nil, trivial⟩⟩ rfl rfl hl.1 rfl (lv_room (Nat.le_of_ble_eq_true rfl)) dX14_string_27 ⟨Nat.zero_le _, Nat.zero_le _⟩) hh_3.1 (fun q _ h => h) (fun q h => h) (fun r_9 u_8 t_8 H_8 locs_8 ht_8 hvm_8 hr_9 hb_8 hz_8 hk_8 hS_8 => ?_)
        rw [ht_8] at hb_8
        obtain ⟨hb_81, hb_82, hb_83, hb_84, hb_85⟩ := hb_8
        have hh_8 : jSt (dC, dI) B base G0 G0 EX14_stringw9 s.heap 0 0 [(r0, 16, 6, .int wf_3)] [] [] H_8 locs_8 := ((hh_3.call hb_81 hb_82 hb_83 hb_84 hS_8 rfl (L1 := [(r0, 16, 6, .int wf_3)]) [0] rfl rfl (M1 := []) [] rfl rfl (I1 := []) [] rfl rfl).more hb_85)
        clear hh_3 ht_8 hvm_8 hz_8 hk_8 hS_8 hb_81 hb_82 hb_83 hb_84 hb_85
        obtain ⟨hr_9b, hr_9p⟩ := hr_9
        obtain ⟨hr_9p_0, hr_9p_1, hr_9p_2⟩ := hr_9p
        have hr_9' := jb_01 hr_9b
        have C62 : ∀ (w0_10 : Int32) (H_10 : Heap) (locs_10 : List Loc), jSt (dC, dI) B base G0 G0 EX14_stringw9 s.heap 0 0 [(r0, 16, 6, .int wf_3)] [] [] H_10 locs_10 → (w0_10 = 0 ∨ w0_10 = 1) → (w0_10.toInt = 0 ∨ v4_3.toInt + 1 < a3.toInt) → ∀ ls : Array Slot, lv_has ls 7 [(0, .ref r0), (1, .ref r1), (2, .int a2), (3, .int a3), (4, .int v4_3), (5, .int z_7)] → W p l e R s m ([.ref r0, .ref r1, .int a2, .int a3] : List Value).toArray below meth c H_10 locs_10 0 0 Q (F0 m 62 ls [.int w0_10]) := by
          intro w0_10 H_10 locs_10 hh_10 hb_w0_10 hi_10 ls hl
          have hb_w0_10' := jb_01 hb_w0_10
          refine lv_istore (lv' := [(6, .int w0_10), (0, .ref r0), (1, .ref r1), (2, .int a2), (3, .int a3), (4, .int v4_3), (5, .int z_7)]) hx hb dX14_string_62 hl (by decide) rfl (fun ls hl => ?_)
          refine lv_iload hx hb dX14_string_64 (lv_at hl 6 rfl) ?_
          refine lv_bipush (v := 34) hx hb dX14_string_66 (by decide) ?_
          refine lv_icmp_eq (tgt := 78) hx hb dX14_string_68 (by decide) (fun c_11 => ?_) (fun c_11 => ?_)
          · skip
            have c_11' : z_7.toInt = 34 := jb_eq (rfl) ((by decide)) c_11
            refine lv_aload_n hx hb dX14_string_78 rfl (lv_at hl 1 rfl) ?_
            refine lv_bipush (v := 92) hx hb dX14_string_79 (by decide) ?_
            refine va_callv (A0 := jA base) (H0 := s.heap) (va_runV (As := [.int 92]) (rest := []) ⟨hx, hb, hml, hown, hts⟩ (uX14_put l dC dI ca base B hB hAp hB16 hB101 G0 H_10 r0 92 wf_3) (cwV 1 hts (jgV (jWr_54 _ (List.mem_of_getElem? (i := 2) rfl)) (jWr_54 _ (List.mem_of_getElem? (i := 3) rfl)) (jWr_54 _ (List.mem_of_getElem? (i := 4) rfl)) (jWr_1 _ (List.mem_of_getElem? (i := 5) rfl)) (jWr_54 _ (List.mem_of_getElem? (i := 5) rfl))) rfl rfl rfl (by decide +kernel) ⟨by rw [← hR]; exact Nat.le_of_ble_eq_true rfl, by rw [← hR]; exact Nat.le_of_ble_eq_true rfl⟩) ⟨fun a U g mk q => by obtain ⟨q0, q1, q2, qK, q10, q11, q12⟩ := q; exact ⟨q0, q1, q2, jG.calling g mk a qK, q10, q11, q12⟩, hh_10.recv (C := RX14) (T := TX14) (N := 74) hB16 rfl (by decide) hg_r0 hK, fun U hU hW => ⟨rfl, hU, hh_10.2.1, hG.step hW hU hh_10.1, hg_r0, (hh_10.2.2.1.sub (L1 := [(r0, 16, 6, .int wf_3)]) [0] rfl), by first | omega | (refine ⟨?_, ?_⟩ <;> (first | omega | rfl | assumption | decide | exact Or.inl rfl | exact Or.inr rfl | (simp only; omega)))⟩⟩ rfl rfl hl.1 rfl (lv_room (Nat.le_of_ble_eq_true rfl)) dX14_string_81 ⟨Nat.zero_le _, Nat.zero_le _⟩) hh_10.1 (fun q _ h => h) (fun q h => h) (fun u_12 t_12 H_12 locs_12 ht_12 hvm_12 hr_13 hb_12 hz_12 hk_12 hS_12 => ?_)
            obtain ⟨qf_12, rfl⟩ : ∃ z, z = u_12 := ⟨_, rfl⟩
            rw [ht_12] at hb_12
            obtain ⟨hb_121, hb_122, hb_123, hb_124, hb_125⟩ := hb_12
            have hh_12 : jSt (dC, dI) B base G0 G0 EX14_stringw9 s.heap 0 0 [(r0, 16, 6, .int qf_12)] [] [] H_12 locs_12 := ((hh_10.call hb_121 hb_122 hb_123 hb_124 hS_12 rfl (L1 := []) [] rfl rfl (M1 := []) [] rfl rfl (I1 := []) [] rfl rfl).more hb_125)
            clear hh_10 ht_12 hvm_12 hz_12 hk_12 hS_12 hb_121 hb_122 hb_123 hb_124 hb_125
            obtain ⟨hr_13_0, hr_13_1⟩ := hr_13
            refine lv_aload_n hx hb dX14_string_84 rfl (lv_at hl 1 rfl) ?_
            refine lv_iload hx hb dX14_string_85 (lv_at hl 6 rfl) ?_
            refine va_callv (A0 := jA base) (H0 := s.heap) (va_runV (As := [.int z_7]) (rest := []) ⟨hx, hb, hml, hown, hts⟩ (uX14_put l dC dI ca base B hB hAp hB16 hB101 G0 H_12 r0 z_7 qf_12) (cwV 1 hts (jgV (jWr_54 _ (List.mem_of_getElem? (i := 2) rfl)) (jWr_54 _ (List.mem_of_getElem? (i := 3) rfl)) (jWr_54 _ (List.mem_of_getElem? (i := 4) rfl)) (jWr_1 _ (List.mem_of_getElem? (i := 5) rfl)) (jWr_54 _ (List.mem_of_getElem? (i := 5) rfl))) rfl rfl rfl (by decide +kernel) ⟨by rw [← hR]; exact Nat.le_of_ble_eq_true rfl, by rw [← hR]; exact Nat.le_of_ble_eq_true rfl⟩) ⟨fun a U g mk q => by obtain ⟨q0, q1, q2, qK, q10, q11, q12⟩ := q; exact ⟨q0, q1, q2, jG.calling g mk a qK, q10, q11, q12⟩, hh_12.recv (C := RX14) (T := TX14) (N := 74) hB16 rfl (by decide) hg_r0 hK, fun U hU hW => ⟨rfl, hU, hh_12.2.1, hG.step hW hU hh_12.1, hg_r0, (hh_12.2.2.1.sub (L1 := [(r0, 16, 6, .int qf_12)]) [0] rfl), by first | omega | (refine ⟨?_, ?_⟩ <;> (first | omega | rfl | assumption | decide | exact Or.inl rfl | exact Or.inr rfl | (simp only; omega)))⟩⟩ rfl rfl hl.1 rfl (lv_room (Nat.le_of_ble_eq_true rfl)) dX14_string_87 ⟨Nat.zero_le _, Nat.zero_le _⟩) hh_12.1 (fun q _ h => h) (fun q h => h) (fun u_14 t_14 H_14 locs_14 ht_14 hvm_14 hr_15 hb_14 hz_14 hk_14 hS_14 => ?_)
            obtain ⟨qf_14, rfl⟩ : ∃ z, z = u_14 := ⟨_, rfl⟩
            rw [ht_14] at hb_14
            obtain ⟨hb_141, hb_142, hb_143, hb_144, hb_145⟩ := hb_14
            have hh_14 : jSt (dC, dI) B base G0 G0 EX14_stringw9 s.heap 0 0 [(r0, 16, 6, .int qf_14)] [] [] H_14 locs_14 := ((hh_12.call hb_141 hb_142 hb_143 hb_144 hS_14 rfl (L1 := []) [] rfl rfl (M1 := []) [] rfl rfl (I1 := []) [] rfl rfl).more hb_145)
            clear hh_12 ht_14 hvm_14 hz_14 hk_14 hS_14 hb_141 hb_142 hb_143 hb_144 hb_145
            obtain ⟨hr_15_0, hr_15_1⟩ := hr_15
            refine lv_goto (tgt := 197) hx hb dX14_string_90 (by decide) ?_
            obtain ⟨z_16, ez_16⟩ : ∃ y : Int32, y = v4_3 + 1 := ⟨_, rfl⟩
            refine lv_iinc (v := z_16) (lv' := [(4, .int z_16), (6, .int w0_10), (0, .ref r0), (1, .ref r1), (2, .int a2), (3, .int a3), (5, .int z_7)]) hx hb dX14_string_197 hl (k := 5) rfl (by rw [ez_16]; rfl) (by decide) rfl (fun ls hl => ?_)
            have hz_16 : z_16.toInt = v4_3.toInt + 1 := by rw [ez_16]; exact jb_iadd2 (rfl) (by decide) (by omega)
            refine lv_goto (tgt := 9) hx hb dX14_string_200 (by decide) ?_
            exact L9 z_16 qf_14 _ _ hh_14 (by first | omega | (refine ⟨?_, ?_, ?_⟩ <;> (first | omega | rfl | assumption | decide | exact Or.inl rfl | exact Or.inr rfl | (simp only; omega)))) (by omega) _ (lv_sub hl [2, 3, 4, 5, 0] rfl)
          · skip
            have c_11' : z_7.toInt ≠ 34 := jb_eq_n (rfl) ((by decide)) c_11
            refine lv_iload hx hb dX14_string_71 (lv_at hl 6 rfl) ?_
            refine lv_bipush (v := 92) hx hb dX14_string_73 (by decide) ?_
            refine lv_icmp_ne (tgt := 93) hx hb dX14_string_75 (by decide) (fun c_17 => ?_) (fun c_17 => ?_)
            · skip
              have c_17' : z_7.toInt ≠ 92 := jb_ne (rfl) ((by decide)) c_17
              refine lv_iload hx hb dX14_string_93 (lv_at hl 6 rfl) ?_
              refine lv_bipush (v := 32) hx hb dX14_string_95 (by decide) ?_
              refine lv_icmp_ge (tgt := 138) hx hb dX14_string_97 (by decide) (fun c_18 => ?_) (fun c_18 => ?_)
              · skip
                have c_18' : z_7.toInt ≥ 32 := jb_ge (rfl) ((by decide)) c_18
                refine lv_iload hx hb dX14_string_138 (lv_at hl 0 rfl) ?_
                refine lv_if_eq (tgt := 174) hx hb dX14_string_140 (by decide) (fun c_19 => ?_) (fun c_19 => ?_)
                · skip
                  have c_19' : w0_10.toInt = 0 := jb_eq (rfl) ((by decide)) c_19
                  refine lv_aload_n hx hb dX14_string_174 rfl (lv_at hl 1 rfl) ?_
                  refine lv_iload hx hb dX14_string_175 (lv_at hl 6 rfl) ?_
                  refine lv_ldc hx hb hown hcs_179 dX14_string_177 ?_
                  refine lv_ldc hx hb hown hcs_186 dX14_string_179 ?_
                  refine va_calli (A0 := jA base) (H0 := s.heap) (va_runS (As := [.int z_7, .int 55296, .int 57343]) (rest := [.ref r0]) ⟨hx, hb, hml, hown, hts⟩ (uX14_in l dC dI ca base B hB hAp G0 H_10 z_7 55296 57343) (va_cwS 3 hts (jgS (jWr_48 _ (List.mem_of_getElem? (i := 10) rfl)) (jWr_48 _ (List.mem_of_getElem? (i := 11) rfl)) (jWr_1 _ (List.mem_of_getElem? (i := 5) rfl)) (jWr_48 _ (List.mem_of_getElem? (i := 12) rfl))) rfl rfl rfl (by decide +kernel) ⟨by rw [← hR]; exact Nat.le_of_ble_eq_true rfl, by rw [← hR]; exact Nat.le_of_ble_eq_true rfl⟩) ⟨fun a U g mk q => by obtain ⟨q0, q1, q2, qK, q10, q11⟩ := q; exact ⟨q0, q1, q2, jG.calling g mk a qK, q10, q11⟩, fun U hU hW => ⟨rfl, hU, hh_10.2.1, hG.step hW hU hh_10.1, jP.nil, trivial⟩⟩ rfl rfl hl.1 rfl (lv_room (Nat.le_of_ble_eq_true rfl)) dX14_string_181 ⟨Nat.zero_le _, Nat.zero_le _⟩) hh_10.1 (fun q _ h => h) (fun q h => h) (fun r_21 u_20 t_20 H_20 locs_20 ht_20 hvm_20 hr_21 hb_20 hz_20 hk_20 hS_20 => ?_)
                  rw [ht_20] at hb_20
                  obtain ⟨hb_201, hb_202, hb_203, hb_204, hb_205⟩ := hb_20
                  have hh_20 : jSt (dC, dI) B base G0 G0 EX14_stringw9 s.heap 0 0 [(r0, 16, 6, .int wf_3)] [] [] H_20 locs_20 := ((hh_10.call hb_201 hb_202 hb_203 hb_204 hS_20 rfl (L1 := [(r0, 16, 6, .int wf_3)]) [0] rfl rfl (M1 := []) [] rfl rfl (I1 := []) [] rfl rfl).more hb_205)
                  clear hh_10 ht_20 hvm_20 hz_20 hk_20 hS_20 hb_201 hb_202 hb_203 hb_204 hb_205
                  obtain ⟨hr_21b, hr_21p⟩ := hr_21
                  obtain ⟨hr_21p_0, hr_21p_1, hr_21p_2⟩ := hr_21p
                  have hr_21' := jb_01 hr_21b
                  refine lv_if_eq (tgt := 192) hx hb dX14_string_184 (by decide) (fun c_22 => ?_) (fun c_22 => ?_)
                  · skip
                    have c_22' : r_21.toInt = 0 := jb_eq (rfl) ((by decide)) c_22
                    refine lv_iload hx hb dX14_string_192 (lv_at hl 6 rfl) ?_
                    refine va_callv (A0 := jA base) (H0 := s.heap) (va_runV (As := [.int z_7]) (rest := []) ⟨hx, hb, hml, hown, hts⟩ (uX14_utf8 l dC dI ca base B hB hAp hB16 hB101 G0 H_20 r0 z_7 wf_3) (cwV 1 hts (jgV (jWr_54 _ (List.mem_of_getElem? (i := 14) rfl)) (jWr_54 _ (List.mem_of_getElem? (i := 15) rfl)) (jWr_54 _ (List.mem_of_getElem? (i := 16) rfl)) (jWr_1 _ (List.mem_of_getElem? (i := 5) rfl)) (jWr_54 _ (List.mem_of_getElem? (i := 17) rfl))) rfl rfl rfl (by decide +kernel) ⟨by rw [← hR]; exact Nat.le_of_ble_eq_true rfl, by rw [← hR]; exact Nat.le_of_ble_eq_true rfl⟩) ⟨fun a U g mk q => by obtain ⟨q0, q1, q2, qK, q10, q11, q12⟩ := q; exact ⟨q0, q1, q2, jG.calling g mk a qK, q10, q11, q12⟩, hh_20.recv (C := RX14) (T := TX14) (N := 74) hB16 rfl (by decide) hg_r0 hK, fun U hU hW => ⟨rfl, hU, hh_20.2.1, hG.step hW hU hh_20.1, hg_r0, (hh_20.2.2.1.sub (L1 := [(r0, 16, 6, .int wf_3)]) [0] rfl), by first | omega | (refine ⟨?_, ?_⟩ <;> (first | omega | rfl | assumption | decide | exact Or.inl rfl | exact Or.inr rfl | (simp only; omega)))⟩⟩ rfl rfl hl.1 rfl (lv_room (Nat.le_of_ble_eq_true rfl)) dX14_string_194 ⟨Nat.zero_le _, Nat.zero_le _⟩) hh_20.1 (fun q _ h => h) (fun q h => h) (fun u_23 t_23 H_23 locs_23 ht_23 hvm_23 hr_24 hb_23 hz_23 hk_23 hS_23 => ?_)
                    obtain ⟨qf_23, rfl⟩ : ∃ z, z = u_23 := ⟨_, rfl⟩
                    rw [ht_23] at hb_23
                    obtain ⟨hb_231, hb_232, hb_233, hb_234, hb_235⟩ := hb_23
                    have hh_23 : jSt (dC, dI) B base G0 G0 EX14_stringw9 s.heap 0 0 [(r0, 16, 6, .int qf_23)] [] [] H_23 locs_23 := ((hh_20.call hb_231 hb_232 hb_233 hb_234 hS_23 rfl (L1 := []) [] rfl rfl (M1 := []) [] rfl rfl (I1 := []) [] rfl rfl).more hb_235)
                    clear hh_20 ht_23 hvm_23 hz_23 hk_23 hS_23 hb_231 hb_232 hb_233 hb_234 hb_235
                    obtain ⟨hr_24_0, hr_24_1⟩ := hr_24
                    obtain ⟨z_25, ez_25⟩ : ∃ y : Int32, y = v4_3 + 1 := ⟨_, rfl⟩
                    refine lv_iinc (v := z_25) (lv' := [(4, .int z_25), (6, .int w0_10), (0, .ref r0), (1, .ref r1), (2, .int a2), (3, .int a3), (5, .int z_7)]) hx hb dX14_string_197 hl (k := 5) rfl (by rw [ez_25]; rfl) (by decide) rfl (fun ls hl => ?_)
                    have hz_25 : z_25.toInt = v4_3.toInt + 1 := by rw [ez_25]; exact jb_iadd2 (rfl) (by decide) (by omega)
                    refine lv_goto (tgt := 9) hx hb dX14_string_200 (by decide) ?_
                    exact L9 z_25 qf_23 _ _ hh_23 (by first | omega | (refine ⟨?_, ?_, ?_⟩ <;> (first | omega | rfl | assumption | decide | exact Or.inl rfl | exact Or.inr rfl | (simp only; omega)))) (by omega) _ (lv_sub hl [2, 3, 4, 5, 0] rfl)
                  · skip
                    have c_22' : r_21.toInt ≠ 0 := jb_eq_n (rfl) ((by decide)) c_22
                    refine lv_ldc hx hb hown hcs_201 dX14_string_187 ?_
                    refine lv_goto (tgt := 194) hx hb dX14_string_189 (by decide) ?_
                    refine va_callv (A0 := jA base) (H0 := s.heap) (va_runV (As := [.int 65533]) (rest := []) ⟨hx, hb, hml, hown, hts⟩ (uX14_utf8 l dC dI ca base B hB hAp hB16 hB101 G0 H_20 r0 65533 wf_3) (cwV 1 hts (jgV (jWr_54 _ (List.mem_of_getElem? (i := 14) rfl)) (jWr_54 _ (List.mem_of_getElem? (i := 15) rfl)) (jWr_54 _ (List.mem_of_getElem? (i := 16) rfl)) (jWr_1 _ (List.mem_of_getElem? (i := 5) rfl)) (jWr_54 _ (List.mem_of_getElem? (i := 17) rfl))) rfl rfl rfl (by decide +kernel) ⟨by rw [← hR]; exact Nat.le_of_ble_eq_true rfl, by rw [← hR]; exact Nat.le_of_ble_eq_true rfl⟩) ⟨fun a U g mk q => by obtain ⟨q0, q1, q2, qK, q10, q11, q12⟩ := q; exact ⟨q0, q1, q2, jG.calling g mk a qK, q10, q11, q12⟩, hh_20.recv (C := RX14) (T := TX14) (N := 74) hB16 rfl (by decide) hg_r0 hK, fun U hU hW => ⟨rfl, hU, hh_20.2.1, hG.step hW hU hh_20.1, hg_r0, (hh_20.2.2.1.sub (L1 := [(r0, 16, 6, .int wf_3)]) [0] rfl), by first | omega | (refine ⟨?_, ?_⟩ <;> (first | omega | rfl | assumption | decide | exact Or.inl rfl | exact Or.inr rfl | (simp only; omega)))⟩⟩ rfl rfl hl.1 rfl (lv_room (Nat.le_of_ble_eq_true rfl)) dX14_string_194 ⟨Nat.zero_le _, Nat.zero_le _⟩) hh_20.1 (fun q _ h => h) (fun q h => h) (fun u_26 t_26 H_26 locs_26 ht_26 hvm_26 hr_27 hb_26 hz_26 hk_26 hS_26 => ?_)
                    obtain ⟨qf_26, rfl⟩ : ∃ z, z = u_26 := ⟨_, rfl⟩
                    rw [ht_26] at hb_26
                    obtain ⟨hb_261, hb_262, hb_263, hb_264, hb_265⟩ := hb_26
                    have hh_26 : jSt (dC, dI) B base G0 G0 EX14_stringw9 s.heap 0 0 [(r0, 16, 6, .int qf_26)] [] [] H_26 locs_26 := ((hh_20.call hb_261 hb_262 hb_263 hb_264 hS_26 rfl (L1 := []) [] rfl rfl (M1 := []) [] rfl rfl (I1 := []) [] rfl rfl).more hb_265)
                    clear hh_20 ht_26 hvm_26 hz_26 hk_26 hS_26 hb_261 hb_262 hb_263 hb_264 hb_265
                    obtain ⟨hr_27_0, hr_27_1⟩ := hr_27
                    obtain ⟨z_28, ez_28⟩ : ∃ y : Int32, y = v4_3 + 1 := ⟨_, rfl⟩
                    refine lv_iinc (v := z_28) (lv' := [(4, .int z_28), (6, .int w0_10), (0, .ref r0), (1, .ref r1), (2, .int a2), (3, .int a3), (5, .int z_7)]) hx hb dX14_string_197 hl (k := 5) rfl (by rw [ez_28]; rfl) (by decide) rfl (fun ls hl => ?_)
                    have hz_28 : z_28.toInt = v4_3.toInt + 1 := by rw [ez_28]; exact jb_iadd2 (rfl) (by decide) (by omega)
                    refine lv_goto (tgt := 9) hx hb dX14_string_200 (by decide) ?_
                    exact L9 z_28 qf_26 _ _ hh_26 (by first | omega | (refine ⟨?_, ?_, ?_⟩ <;> (first | omega | rfl | assumption | decide | exact Or.inl rfl | exact Or.inr rfl | (simp only; omega)))) (by omega) _ (lv_sub hl [2, 3, 4, 5, 0] rfl)
                · skip
                  have c_19' : w0_10.toInt ≠ 0 := jb_eq_n (rfl) ((by decide)) c_19
                  refine lv_aload_n hx hb dX14_string_143 rfl (lv_at hl 1 rfl) ?_
                  refine lv_ldc hx hb hown hcs_197 dX14_string_144 ?_
                  refine lv_iload hx hb dX14_string_146 (lv_at hl 6 rfl) ?_
                  refine lv_ldc hx hb hown hcs_179 dX14_string_148 ?_
                  refine lv_isub hx hb dX14_string_150 ?_
                  refine lv_topi (fun z_29 ez_29 => ?_)
                  refine lv_bipush (v := 10) hx hb dX14_string_151 (by decide) ?_
                  refine lv_ishl hx hb dX14_string_153 ?_
                  refine lv_topi (fun z_30 ez_30 => ?_)
                  refine lv_iadd hx hb dX14_string_154 ?_
                  refine lv_topi (fun z_31 ez_31 => ?_)
                  refine lv_aload_n hx hb dX14_string_155 rfl (lv_at hl 2 rfl) ?_
                  refine lv_iload hx hb dX14_string_156 (lv_at hl 5 rfl) ?_
                  refine lv_iconst (v := 1) hx hb dX14_string_158 (by decide) ?_
                  refine lv_iadd hx hb dX14_string_159 ?_
                  refine lv_topi (fun z_32 ez_32 => ?_)
                  have hz_32 : z_32.toInt = v4_3.toInt + 1 := by rw [ez_32]; exact jb_iadd2 (rfl) ((by decide)) (by omega)
                  refine j7_iald hx hb hK hh_10 hB195 1 rfl (by decide) hg_r1 (x := z_32.toInt) (rfl) (by omega) dX14_string_160 (fun z_33 (hz_33 : True) => ?_)
                  refine lv_iadd hx hb dX14_string_161 ?_
                  refine lv_topi (fun z_34 ez_34 => ?_)
                  refine lv_ldc hx hb hown hcs_185 dX14_string_162 ?_
                  refine lv_isub hx hb dX14_string_164 ?_
                  refine lv_topi (fun z_35 ez_35 => ?_)
                  refine va_callv (A0 := jA base) (H0 := s.heap) (va_runV (As := [.int z_35]) (rest := []) ⟨hx, hb, hml, hown, hts⟩ (uX14_utf8 l dC dI ca base B hB hAp hB16 hB101 G0 H_10 r0 z_35 wf_3) (cwV 1 hts (jgV (jWr_54 _ (List.mem_of_getElem? (i := 14) rfl)) (jWr_54 _ (List.mem_of_getElem? (i := 15) rfl)) (jWr_54 _ (List.mem_of_getElem? (i := 16) rfl)) (jWr_1 _ (List.mem_of_getElem? (i := 5) rfl)) (jWr_54 _ (List.mem_of_getElem? (i := 17) rfl))) rfl rfl rfl (by decide +kernel) ⟨by rw [← hR]; exact Nat.le_of_ble_eq_true rfl, by rw [← hR]; exact Nat.le_of_ble_eq_true rfl⟩) ⟨fun a U g mk q => by obtain ⟨q0, q1, q2, qK, q10, q11, q12⟩ := q; exact ⟨q0, q1, q2, jG.calling g mk a qK, q10, q11, q12⟩, hh_10.recv (C := RX14) (T := TX14) (N := 74) hB16 rfl (by decide) hg_r0 hK, fun U hU hW => ⟨rfl, hU, hh_10.2.1, hG.step hW hU hh_10.1, hg_r0, (hh_10.2.2.1.sub (L1 := [(r0, 16, 6, .int wf_3)]) [0] rfl), by first | omega | (refine ⟨?_, ?_⟩ <;> (first | omega | rfl | assumption | decide | exact Or.inl rfl | exact Or.inr rfl | (simp only; omega)))⟩⟩ rfl rfl hl.1 rfl (lv_room (Nat.le_of_ble_eq_true rfl)) dX14_string_165 ⟨Nat.zero_le _, Nat.zero_le _⟩) hh_10.1 (fun q _ h => h) (fun q h => h) (fun u_36 t_36 H_36 locs_36 ht_36 hvm_36 hr_37 hb_36 hz_36 hk_36 hS_36 => ?_)
                  obtain ⟨qf_36, rfl⟩ : ∃ z, z = u_36 := ⟨_, rfl⟩
                  rw [ht_36] at hb_36
                  obtain ⟨hb_361, hb_362, hb_363, hb_364, hb_365⟩ := hb_36
                  have hh_36 : jSt (dC, dI) B base G0 G0 EX14_stringw9 s.heap 0 0 [(r0, 16, 6, .int qf_36)] [] [] H_36 locs_36 := ((hh_10.call hb_361 hb_362 hb_363 hb_364 hS_36 rfl (L1 := []) [] rfl rfl (M1 := []) [] rfl rfl (I1 := []) [] rfl rfl).more hb_365)
                  clear hh_10 ht_36 hvm_36 hz_36 hk_36 hS_36 hb_361 hb_362 hb_363 hb_364 hb_365
                  obtain ⟨hr_37_0, hr_37_1⟩ := hr_37
                  obtain ⟨z_38, ez_38⟩ : ∃ y : Int32, y = v4_3 + 1 := ⟨_, rfl⟩
                  refine lv_iinc (v := z_38) (lv' := [(4, .int z_38), (6, .int w0_10), (0, .ref r0), (1, .ref r1), (2, .int a2), (3, .int a3), (5, .int z_7)]) hx hb dX14_string_168 hl (k := 5) rfl (by rw [ez_38]; rfl) (by decide) rfl (fun ls hl => ?_)
                  have hz_38 : z_38.toInt = v4_3.toInt + 1 := by rw [ez_38]; exact jb_iadd2 (rfl) (by decide) (by omega)
                  refine lv_goto (tgt := 197) hx hb dX14_string_171 (by decide) ?_
                  obtain ⟨z_39, ez_39⟩ : ∃ y : Int32, y = z_38 + 1 := ⟨_, rfl⟩
                  refine lv_iinc (v := z_39) (lv' := [(4, .int z_39), (6, .int w0_10), (0, .ref r0), (1, .ref r1), (2, .int a2), (3, .int a3), (5, .int z_7)]) hx hb dX14_string_197 hl (k := 0) rfl (by rw [ez_39]; rfl) (by decide) rfl (fun ls hl => ?_)
                  have hz_39 : z_39.toInt = z_38.toInt + 1 := by rw [ez_39]; exact jb_iadd2 (rfl) (by decide) (by omega)
                  refine lv_goto (tgt := 9) hx hb dX14_string_200 (by decide) ?_
                  exact L9 z_39 qf_36 _ _ hh_36 (by first | omega | (refine ⟨?_, ?_, ?_⟩ <;> (first | omega | rfl | assumption | decide | exact Or.inl rfl | exact Or.inr rfl | (simp only; omega)))) (by omega) _ (lv_sub hl [2, 3, 4, 5, 0] rfl)
              · skip
                have c_18' : z_7.toInt < 32 := jb_ge_n (rfl) ((by decide)) c_18
                refine lv_aload_n hx hb dX14_string_100 rfl (lv_at hl 1 rfl) ?_
                refine lv_bipush (v := 92) hx hb dX14_string_101 (by decide) ?_
                refine va_callv (A0 := jA base) (H0 := s.heap) (va_runV (As := [.int 92]) (rest := []) ⟨hx, hb, hml, hown, hts⟩ (uX14_put l dC dI ca base B hB hAp hB16 hB101 G0 H_10 r0 92 wf_3) (cwV 1 hts (jgV (jWr_54 _ (List.mem_of_getElem? (i := 2) rfl)) (jWr_54 _ (List.mem_of_getElem? (i := 3) rfl)) (jWr_54 _ (List.mem_of_getElem? (i := 4) rfl)) (jWr_1 _ (List.mem_of_getElem? (i := 5) rfl)) (jWr_54 _ (List.mem_of_getElem? (i := 5) rfl))) rfl rfl rfl (by decide +kernel) ⟨by rw [← hR]; exact Nat.le_of_ble_eq_true rfl, by rw [← hR]; exact Nat.le_of_ble_eq_true rfl⟩) ⟨fun a U g mk q => by obtain ⟨q0, q1, q2, qK, q10, q11, q12⟩ := q; exact ⟨q0, q1, q2, jG.calling g mk a qK, q10, q11, q12⟩, hh_10.recv (C := RX14) (T := TX14) (N := 74) hB16 rfl (by decide) hg_r0 hK, fun U hU hW => ⟨rfl, hU, hh_10.2.1, hG.step hW hU hh_10.1, hg_r0, (hh_10.2.2.1.sub (L1 := [(r0, 16, 6, .int wf_3)]) [0] rfl), by first | omega | (refine ⟨?_, ?_⟩ <;> (first | omega | rfl | assumption | decide | exact Or.inl rfl | exact Or.inr rfl | (simp only; omega)))⟩⟩ rfl rfl hl.1 rfl (lv_room (Nat.le_of_ble_eq_true rfl)) dX14_string_103 ⟨Nat.zero_le _, Nat.zero_le _⟩) hh_10.1 (fun q _ h => h) (fun q h => h) (fun u_40 t_40 H_40 locs_40 ht_40 hvm_40 hr_41 hb_40 hz_40 hk_40 hS_40 => ?_)
                obtain ⟨qf_40, rfl⟩ : ∃ z, z = u_40 := ⟨_, rfl⟩
                rw [ht_40] at hb_40
                obtain ⟨hb_401, hb_402, hb_403, hb_404, hb_405⟩ := hb_40
                have hh_40 : jSt (dC, dI) B base G0 G0 EX14_stringw9 s.heap 0 0 [(r0, 16, 6, .int qf_40)] [] [] H_40 locs_40 := ((hh_10.call hb_401 hb_402 hb_403 hb_404 hS_40 rfl (L1 := []) [] rfl rfl (M1 := []) [] rfl rfl (I1 := []) [] rfl rfl).more hb_405)
                clear hh_10 ht_40 hvm_40 hz_40 hk_40 hS_40 hb_401 hb_402 hb_403 hb_404 hb_405
                obtain ⟨hr_41_0, hr_41_1⟩ := hr_41
                refine lv_aload_n hx hb dX14_string_106 rfl (lv_at hl 1 rfl) ?_
                refine va_ldcS hx hb hown rstr187 dX14_string_107 ?_
                refine va_callv (A0 := jA base) (H0 := s.heap) (va_runV (As := [.ref str187]) (rest := []) ⟨hx, hb, hml, hown, hts⟩ (uX14_word l dC dI ca base B hB hAp hB16 hB101 G0 H_40 r0 str187 3 qf_40) (cwV 1 hts (jgV (jWr_53 _ (List.mem_of_getElem? (i := 22) rfl)) (jWr_53 _ (List.mem_of_getElem? (i := 23) rfl)) (jWr_54 _ (List.mem_of_getElem? (i := 0) rfl)) (jWr_1 _ (List.mem_of_getElem? (i := 5) rfl)) (jWr_54 _ (List.mem_of_getElem? (i := 1) rfl))) rfl rfl rfl (by decide +kernel) ⟨by rw [← hR]; exact Nat.le_of_ble_eq_true rfl, by rw [← hR]; exact Nat.le_of_ble_eq_true rfl⟩) ⟨fun a U g mk q => by obtain ⟨q0, q1, q2, qK, q10, q11, q12, q13⟩ := q; exact ⟨q0, q1, q2, jG.calling g mk a qK, (q10.moved (Vm.Alike.refl U.vm)), q11, q12, q13⟩, hh_40.recv (C := RX14) (T := TX14) (N := 74) hB16 rfl (by decide) hg_r0 hK, fun U hU hW => ⟨rfl, hU, hh_40.2.1, hG.step hW hU hh_40.1, (hstr187.moved hW.alike).kept hh_40.1.2.1, hg_r0, (hh_40.2.2.1.sub (L1 := [(r0, 16, 6, .int qf_40)]) [0] rfl), by first | omega | (refine ⟨?_, ?_, ?_⟩ <;> (first | omega | rfl | assumption | decide | exact Or.inl rfl | exact Or.inr rfl | (simp only; omega)))⟩⟩ rfl rfl hl.1 rfl (lv_room (Nat.le_of_ble_eq_true rfl)) dX14_string_109 ⟨Nat.zero_le _, Nat.zero_le _⟩) hh_40.1 (fun q _ h => h) (fun q h => h) (fun u_42 t_42 H_42 locs_42 ht_42 hvm_42 hr_43 hb_42 hz_42 hk_42 hS_42 => ?_)
                obtain ⟨qf_42, rfl⟩ : ∃ z, z = u_42 := ⟨_, rfl⟩
                rw [ht_42] at hb_42
                obtain ⟨hb_421, hb_422, hb_423, hb_424, hb_425⟩ := hb_42
                have hh_42 : jSt (dC, dI) B base G0 G0 EX14_stringw9 s.heap 0 0 [(r0, 16, 6, .int qf_42)] [] [] H_42 locs_42 := ((hh_40.call hb_421 hb_422 hb_423 hb_424 hS_42 rfl (L1 := []) [] rfl rfl (M1 := []) [] rfl rfl (I1 := []) [] rfl rfl).more hb_425)
                clear hh_40 ht_42 hvm_42 hz_42 hk_42 hS_42 hb_421 hb_422 hb_423 hb_424 hb_425
                obtain ⟨hr_43_0, hr_43_1⟩ := hr_43
                refine lv_aload_n hx hb dX14_string_112 rfl (lv_at hl 1 rfl) ?_
                refine lv_iload hx hb dX14_string_113 (lv_at hl 6 rfl) ?_
                refine lv_iconst (v := 4) hx hb dX14_string_115 (by decide) ?_
                refine lv_ishr hx hb dX14_string_116 ?_
                refine lv_topi (fun z_44 ez_44 => ?_)
                have hz_44 : z_44.toInt = z_7.toInt / 2 ^ 4 := by rw [ez_44]; exact jb_ishr 4 (rfl) (by decide)
                refine vp_callSi (W.runS (As := [.int z_44]) (rest := [.ref r0]) ⟨hx, hb, hml, hown, hts⟩ (wX14_hex l dC dI ca base H_42 z_44) (va_cwS 1 hts (jgS (jWr_54 _ (List.mem_of_getElem? (i := 11) rfl)) (jWr_54 _ (List.mem_of_getElem? (i := 12) rfl)) (jWr_1 _ (List.mem_of_getElem? (i := 5) rfl)) (jWr_54 _ (List.mem_of_getElem? (i := 13) rfl))) rfl rfl rfl (by decide +kernel) ⟨by rw [← hR]; exact Nat.le_of_ble_eq_true rfl, by rw [← hR]; exact Nat.le_of_ble_eq_true rfl⟩) ⟨fun a U g mk q => by obtain ⟨q0, q1, qK, q9⟩ := q; exact ⟨q0, q1, jG.calling g mk a qK, q9⟩, fun U hU hW => ⟨rfl, hU, hG.step hW hU hh_42.1, by first | trivial | omega | (constructor <;> omega)⟩⟩ rfl rfl hl.1 rfl (lv_room (Nat.le_of_ble_eq_true rfl)) dX14_string_117 ⟨Nat.zero_le _, Nat.zero_le _⟩) (fun r_45 hr_45 => ?_)
                refine va_callv (A0 := jA base) (H0 := s.heap) (va_runV (As := [.int r_45]) (rest := []) ⟨hx, hb, hml, hown, hts⟩ (uX14_put l dC dI ca base B hB hAp hB16 hB101 G0 H_42 r0 r_45 qf_42) (cwV 1 hts (jgV (jWr_54 _ (List.mem_of_getElem? (i := 2) rfl)) (jWr_54 _ (List.mem_of_getElem? (i := 3) rfl)) (jWr_54 _ (List.mem_of_getElem? (i := 4) rfl)) (jWr_1 _ (List.mem_of_getElem? (i := 5) rfl)) (jWr_54 _ (List.mem_of_getElem? (i := 5) rfl))) rfl rfl rfl (by decide +kernel) ⟨by rw [← hR]; exact Nat.le_of_ble_eq_true rfl, by rw [← hR]; exact Nat.le_of_ble_eq_true rfl⟩) ⟨fun a U g mk q => by obtain ⟨q0, q1, q2, qK, q10, q11, q12⟩ := q; exact ⟨q0, q1, q2, jG.calling g mk a qK, q10, q11, q12⟩, hh_42.recv (C := RX14) (T := TX14) (N := 74) hB16 rfl (by decide) hg_r0 hK, fun U hU hW => ⟨rfl, hU, hh_42.2.1, hG.step hW hU hh_42.1, hg_r0, (hh_42.2.2.1.sub (L1 := [(r0, 16, 6, .int qf_42)]) [0] rfl), by first | omega | (refine ⟨?_, ?_⟩ <;> (first | omega | rfl | assumption | decide | exact Or.inl rfl | exact Or.inr rfl | (simp only; omega)))⟩⟩ rfl rfl hl.1 rfl (lv_room (Nat.le_of_ble_eq_true rfl)) dX14_string_120 ⟨Nat.zero_le _, Nat.zero_le _⟩) hh_42.1 (fun q _ h => h) (fun q h => h) (fun u_46 t_46 H_46 locs_46 ht_46 hvm_46 hr_47 hb_46 hz_46 hk_46 hS_46 => ?_)
                obtain ⟨qf_46, rfl⟩ : ∃ z, z = u_46 := ⟨_, rfl⟩
                rw [ht_46] at hb_46
                obtain ⟨hb_461, hb_462, hb_463, hb_464, hb_465⟩ := hb_46
                have hh_46 : jSt (dC, dI) B base G0 G0 EX14_stringw9 s.heap 0 0 [(r0, 16, 6, .int qf_46)] [] [] H_46 locs_46 := ((hh_42.call hb_461 hb_462 hb_463 hb_464 hS_46 rfl (L1 := []) [] rfl rfl (M1 := []) [] rfl rfl (I1 := []) [] rfl rfl).more hb_465)
                clear hh_42 ht_46 hvm_46 hz_46 hk_46 hS_46 hb_461 hb_462 hb_463 hb_464 hb_465
                obtain ⟨hr_47_0, hr_47_1⟩ := hr_47
                refine lv_aload_n hx hb dX14_string_123 rfl (lv_at hl 1 rfl) ?_
                refine lv_iload hx hb dX14_string_124 (lv_at hl 6 rfl) ?_
                refine lv_bipush (v := 15) hx hb dX14_string_126 (by decide) ?_
                refine lv_iand hx hb dX14_string_128 ?_
                refine lv_topi (fun z_48 ez_48 => ?_)
                have hz_48 : 0 ≤ z_48.toInt ∧ z_48.toInt ≤ 15 := by rw [ez_48]; exact jb_and z_7 (m := 15) (k := 4) (by decide) (by decide)
                refine vp_callSi (W.runS (As := [.int z_48]) (rest := [.ref r0]) ⟨hx, hb, hml, hown, hts⟩ (wX14_hex l dC dI ca base H_46 z_48) (va_cwS 1 hts (jgS (jWr_54 _ (List.mem_of_getElem? (i := 11) rfl)) (jWr_54 _ (List.mem_of_getElem? (i := 12) rfl)) (jWr_1 _ (List.mem_of_getElem? (i := 5) rfl)) (jWr_54 _ (List.mem_of_getElem? (i := 13) rfl))) rfl rfl rfl (by decide +kernel) ⟨by rw [← hR]; exact Nat.le_of_ble_eq_true rfl, by rw [← hR]; exact Nat.le_of_ble_eq_true rfl⟩) ⟨fun a U g mk q => by obtain ⟨q0, q1, qK, q9⟩ := q; exact ⟨q0, q1, jG.calling g mk a qK, q9⟩, fun U hU hW => ⟨rfl, hU, hG.step hW hU hh_46.1, by first | trivial | omega | (constructor <;> omega)⟩⟩ rfl rfl hl.1 rfl (lv_room (Nat.le_of_ble_eq_true rfl)) dX14_string_129 ⟨Nat.zero_le _, Nat.zero_le _⟩) (fun r_49 hr_49 => ?_)
                refine va_callv (A0 := jA base) (H0 := s.heap) (va_runV (As := [.int r_49]) (rest := []) ⟨hx, hb, hml, hown, hts⟩ (uX14_put l dC dI ca base B hB hAp hB16 hB101 G0 H_46 r0 r_49 qf_46) (cwV 1 hts (jgV (jWr_54 _ (List.mem_of_getElem? (i := 2) rfl)) (jWr_54 _ (List.mem_of_getElem? (i := 3) rfl)) (jWr_54 _ (List.mem_of_getElem? (i := 4) rfl)) (jWr_1 _ (List.mem_of_getElem? (i := 5) rfl)) (jWr_54 _ (List.mem_of_getElem? (i := 5) rfl))) rfl rfl rfl (by decide +kernel) ⟨by rw [← hR]; exact Nat.le_of_ble_eq_true rfl, by rw [← hR]; exact Nat.le_of_ble_eq_true rfl⟩) ⟨fun a U g mk q => by obtain ⟨q0, q1, q2, qK, q10, q11, q12⟩ := q; exact ⟨q0, q1, q2, jG.calling g mk a qK, q10, q11, q12⟩, hh_46.recv (C := RX14) (T := TX14) (N := 74) hB16 rfl (by decide) hg_r0 hK, fun U hU hW => ⟨rfl, hU, hh_46.2.1, hG.step hW hU hh_46.1, hg_r0, (hh_46.2.2.1.sub (L1 := [(r0, 16, 6, .int qf_46)]) [0] rfl), by first | omega | (refine ⟨?_, ?_⟩ <;> (first | omega | rfl | assumption | decide | exact Or.inl rfl | exact Or.inr rfl | (simp only; omega)))⟩⟩ rfl rfl hl.1 rfl (lv_room (Nat.le_of_ble_eq_true rfl)) dX14_string_132 ⟨Nat.zero_le _, Nat.zero_le _⟩) hh_46.1 (fun q _ h => h) (fun q h => h) (fun u_50 t_50 H_50 locs_50 ht_50 hvm_50 hr_51 hb_50 hz_50 hk_50 hS_50 => ?_)
                obtain ⟨qf_50, rfl⟩ : ∃ z, z = u_50 := ⟨_, rfl⟩
                rw [ht_50] at hb_50
                obtain ⟨hb_501, hb_502, hb_503, hb_504, hb_505⟩ := hb_50
                have hh_50 : jSt (dC, dI) B base G0 G0 EX14_stringw9 s.heap 0 0 [(r0, 16, 6, .int qf_50)] [] [] H_50 locs_50 := ((hh_46.call hb_501 hb_502 hb_503 hb_504 hS_50 rfl (L1 := []) [] rfl rfl (M1 := []) [] rfl rfl (I1 := []) [] rfl rfl).more hb_505)
                clear hh_46 ht_50 hvm_50 hz_50 hk_50 hS_50 hb_501 hb_502 hb_503 hb_504 hb_505
                obtain ⟨hr_51_0, hr_51_1⟩ := hr_51
                refine lv_goto (tgt := 197) hx hb dX14_string_135 (by decide) ?_
                obtain ⟨z_52, ez_52⟩ : ∃ y : Int32, y = v4_3 + 1 := ⟨_, rfl⟩
                refine lv_iinc (v := z_52) (lv' := [(4, .int z_52), (6, .int w0_10), (0, .ref r0), (1, .ref r1), (2, .int a2), (3, .int a3), (5, .int z_7)]) hx hb dX14_string_197 hl (k := 5) rfl (by rw [ez_52]; rfl) (by decide) rfl (fun ls hl => ?_)
                have hz_52 : z_52.toInt = v4_3.toInt + 1 := by rw [ez_52]; exact jb_iadd2 (rfl) (by decide) (by omega)
                refine lv_goto (tgt := 9) hx hb dX14_string_200 (by decide) ?_
                exact L9 z_52 qf_50 _ _ hh_50 (by first | omega | (refine ⟨?_, ?_, ?_⟩ <;> (first | omega | rfl | assumption | decide | exact Or.inl rfl | exact Or.inr rfl | (simp only; omega)))) (by omega) _ (lv_sub hl [2, 3, 4, 5, 0] rfl)
            · skip
              have c_17' : z_7.toInt = 92 := jb_ne_n (rfl) ((by decide)) c_17
              refine lv_aload_n hx hb dX14_string_78 rfl (lv_at hl 1 rfl) ?_
              refine lv_bipush (v := 92) hx hb dX14_string_79 (by decide) ?_
              refine va_callv (A0 := jA base) (H0 := s.heap) (va_runV (As := [.int 92]) (rest := []) ⟨hx, hb, hml, hown, hts⟩ (uX14_put l dC dI ca base B hB hAp hB16 hB101 G0 H_10 r0 92 wf_3) (cwV 1 hts (jgV (jWr_54 _ (List.mem_of_getElem? (i := 2) rfl)) (jWr_54 _ (List.mem_of_getElem? (i := 3) rfl)) (jWr_54 _ (List.mem_of_getElem? (i := 4) rfl)) (jWr_1 _ (List.mem_of_getElem? (i := 5) rfl)) (jWr_54 _ (List.mem_of_getElem? (i := 5) rfl))) rfl rfl rfl (by decide +kernel) ⟨by rw [← hR]; exact Nat.le_of_ble_eq_true rfl, by rw [← hR]; exact Nat.le_of_ble_eq_true rfl⟩) ⟨fun a U g mk q => by obtain ⟨q0, q1, q2, qK, q10, q11, q12⟩ := q; exact ⟨q0, q1, q2, jG.calling g mk a qK, q10, q11, q12⟩, hh_10.recv (C := RX14) (T := TX14) (N := 74) hB16 rfl (by decide) hg_r0 hK, fun U hU hW => ⟨rfl, hU, hh_10.2.1, hG.step hW hU hh_10.1, hg_r0, (hh_10.2.2.1.sub (L1 := [(r0, 16, 6, .int wf_3)]) [0] rfl), by first | omega | (refine ⟨?_, ?_⟩ <;> (first | omega | rfl | assumption | decide | exact Or.inl rfl | exact Or.inr rfl | (simp only; omega)))⟩⟩ rfl rfl hl.1 rfl (lv_room (Nat.le_of_ble_eq_true rfl)) dX14_string_81 ⟨Nat.zero_le _, Nat.zero_le _⟩) hh_10.1 (fun q _ h => h) (fun q h => h) (fun u_53 t_53 H_53 locs_53 ht_53 hvm_53 hr_54 hb_53 hz_53 hk_53 hS_53 => ?_)
              obtain ⟨qf_53, rfl⟩ : ∃ z, z = u_53 := ⟨_, rfl⟩
              rw [ht_53] at hb_53
              obtain ⟨hb_531, hb_532, hb_533, hb_534, hb_535⟩ := hb_53
              have hh_53 : jSt (dC, dI) B base G0 G0 EX14_stringw9 s.heap 0 0 [(r0, 16, 6, .int qf_53)] [] [] H_53 locs_53 := ((hh_10.call hb_531 hb_532 hb_533 hb_534 hS_53 rfl (L1 := []) [] rfl rfl (M1 := []) [] rfl rfl (I1 := []) [] rfl rfl).more hb_535)
              clear hh_10 ht_53 hvm_53 hz_53 hk_53 hS_53 hb_531 hb_532 hb_533 hb_534 hb_535
              obtain ⟨hr_54_0, hr_54_1⟩ := hr_54
              refine lv_aload_n hx hb dX14_string_84 rfl (lv_at hl 1 rfl) ?_
              refine lv_iload hx hb dX14_string_85 (lv_at hl 6 rfl) ?_
              refine va_callv (A0 := jA base) (H0 := s.heap) (va_runV (As := [.int z_7]) (rest := []) ⟨hx, hb, hml, hown, hts⟩ (uX14_put l dC dI ca base B hB hAp hB16 hB101 G0 H_53 r0 z_7 qf_53) (cwV 1 hts (jgV (jWr_54 _ (List.mem_of_getElem? (i := 2) rfl)) (jWr_54 _ (List.mem_of_getElem? (i := 3) rfl)) (jWr_54 _ (List.mem_of_getElem? (i := 4) rfl)) (jWr_1 _ (List.mem_of_getElem? (i := 5) rfl)) (jWr_54 _ (List.mem_of_getElem? (i := 5) rfl))) rfl rfl rfl (by decide +kernel) ⟨by rw [← hR]; exact Nat.le_of_ble_eq_true rfl, by rw [← hR]; exact Nat.le_of_ble_eq_true rfl⟩) ⟨fun a U g mk q => by obtain ⟨q0, q1, q2, qK, q10, q11, q12⟩ := q; exact ⟨q0, q1, q2, jG.calling g mk a qK, q10, q11, q12⟩, hh_53.recv (C := RX14) (T := TX14) (N := 74) hB16 rfl (by decide) hg_r0 hK, fun U hU hW => ⟨rfl, hU, hh_53.2.1, hG.step hW hU hh_53.1, hg_r0, (hh_53.2.2.1.sub (L1 := [(r0, 16, 6, .int qf_53)]) [0] rfl), by first | omega | (refine ⟨?_, ?_⟩ <;> (first | omega | rfl | assumption | decide | exact Or.inl rfl | exact Or.inr rfl | (simp only; omega)))⟩⟩ rfl rfl hl.1 rfl (lv_room (Nat.le_of_ble_eq_true rfl)) dX14_string_87 ⟨Nat.zero_le _, Nat.zero_le _⟩) hh_53.1 (fun q _ h => h) (fun q h => h) (fun u_55 t_55 H_55 locs_55 ht_55 hvm_55 hr_56 hb_55 hz_55 hk_55 hS_55 => ?_)
              obtain ⟨qf_55, rfl⟩ : ∃ z, z = u_55 := ⟨_, rfl⟩
              rw [ht_55] at hb_55
              obtain ⟨hb_551, hb_552, hb_553, hb_554, hb_555⟩ := hb_55
              have hh_55 : jSt (dC, dI) B base G0 G0 EX14_stringw9 s.heap 0 0 [(r0, 16, 6, .int qf_55)] [] [] H_55 locs_55 := ((hh_53.call hb_551 hb_552 hb_553 hb_554 hS_55 rfl (L1 := []) [] rfl rfl (M1 := []) [] rfl rfl (I1 := []) [] rfl rfl).more hb_555)
              clear hh_53 ht_55 hvm_55 hz_55 hk_55 hS_55 hb_551 hb_552 hb_553 hb_554 hb_555
              obtain ⟨hr_56_0, hr_56_1⟩ := hr_56
              refine lv_goto (tgt := 197) hx hb dX14_string_90 (by decide) ?_
              obtain ⟨z_57, ez_57⟩ : ∃ y : Int32, y = v4_3 + 1 := ⟨_, rfl⟩
              refine lv_iinc (v := z_57) (lv' := [(4, .int z_57), (6, .int w0_10), (0, .ref r0), (1, .ref r1), (2, .int a2), (3, .int a3), (5, .int z_7)]) hx hb dX14_string_197 hl (k := 5) rfl (by rw [ez_57]; rfl) (by decide) rfl (fun ls hl => ?_)
              have hz_57 : z_57.toInt = v4_3.toInt + 1 := by rw [ez_57]; exact jb_iadd2 (rfl) (by decide) (by omega)
              refine lv_goto (tgt := 9) hx hb dX14_string_200 (by decide) ?_
              exact L9 z_57 qf_55 _ _ hh_55 (by first | omega | (refine ⟨?_, ?_, ?_⟩ <;> (first | omega | rfl | assumption | decide | exact Or.inl rfl | exact Or.inr rfl | (simp only; omega)))) (by omega) _ (lv_sub hl [2, 3, 4, 5, 0] rfl)
        refine lv_if_eq (tgt := 61) hx hb dX14_string_30 (by decide) (fun c_58 => ?_) (fun c_58 => ?_)
        · skip
          have c_58' : r_9.toInt = 0 := jb_eq (rfl) ((by decide)) c_58
          refine lv_iconst (v := 0) hx hb dX14_string_61 (by decide) ?_
          exact C62 0 _ _ hh_8 (Or.inl rfl) (by first | omega | rfl | assumption | decide | exact Or.inl rfl | exact Or.inr rfl | (simp only; omega)) _ (lv_sub hl [1, 2, 3, 4, 5, 0] rfl)
        · skip
          have c_58' : r_9.toInt ≠ 0 := jb_eq_n (rfl) ((by decide)) c_58
          refine lv_iload hx hb dX14_string_33 (lv_at hl 5 rfl) ?_
          refine lv_iconst (v := 1) hx hb dX14_string_35 (by decide) ?_
          refine lv_iadd hx hb dX14_string_36 ?_
          refine lv_topi (fun z_59 ez_59 => ?_)
          have hz_59 : z_59.toInt = v4_3.toInt + 1 := by rw [ez_59]; exact jb_iadd2 (rfl) ((by decide)) (by omega)
          refine lv_iload_n hx hb dX14_string_37 rfl (lv_at hl 4 rfl) ?_
          refine lv_icmp_ge (tgt := 61) hx hb dX14_string_38 (by decide) (fun c_60 => ?_) (fun c_60 => ?_)
          · skip
            have c_60' : z_59.toInt ≥ a3.toInt := jb_ge (rfl) (rfl) c_60
            refine lv_iconst (v := 0) hx hb dX14_string_61 (by decide) ?_
            exact C62 0 _ _ hh_8 (Or.inl rfl) (by first | omega | rfl | assumption | decide | exact Or.inl rfl | exact Or.inr rfl | (simp only; omega)) _ (lv_sub hl [1, 2, 3, 4, 5, 0] rfl)
          · skip
            have c_60' : z_59.toInt < a3.toInt := jb_ge_n (rfl) (rfl) c_60
            refine lv_aload_n hx hb dX14_string_41 rfl (lv_at hl 2 rfl) ?_
            refine lv_iload hx hb dX14_string_42 (lv_at hl 5 rfl) ?_
            refine lv_iconst (v := 1) hx hb dX14_string_44 (by decide) ?_
            refine lv_iadd hx hb dX14_string_45 ?_
            refine lv_topi (fun z_61 ez_61 => ?_)
            have hz_61 : z_61.toInt = v4_3.toInt + 1 := by rw [ez_61]; exact jb_iadd2 (rfl) ((by decide)) (by omega)
            refine j7_iald hx hb hK hh_8 hB195 1 rfl (by decide) hg_r1 (x := z_61.toInt) (rfl) (by omega) dX14_string_46 (fun z_62 (hz_62 : True) => ?_)
            refine lv_ldc hx hb hown hcs_185 dX14_string_47 ?_
            refine lv_ldc hx hb hown hcs_186 dX14_string_49 ?_
            refine va_calli (A0 := jA base) (H0 := s.heap) (va_runS (As := [.int z_62, .int 56320, .int 57343]) (rest := []) ⟨hx, hb, hml, hown, hts⟩ (uX14_in l dC dI ca base B hB hAp G0 H_8 z_62 56320 57343) (va_cwS 3 hts (jgS (jWr_48 _ (List.mem_of_getElem? (i := 10) rfl)) (jWr_48 _ (List.mem_of_getElem? (i := 11) rfl)) (jWr_1 _ (List.mem_of_getElem? (i := 5) rfl)) (jWr_48 _ (List.mem_of_getElem? (i := 12) rfl))) rfl rfl rfl (by decide +kernel) ⟨by rw [← hR]; exact Nat.le_of_ble_eq_true rfl, by rw [← hR]; exact Nat.le_of_ble_eq_true rfl⟩) ⟨fun a U g mk q => by obtain ⟨q0, q1, q2, qK, q10, q11⟩ := q; exact ⟨q0, q1, q2, jG.calling g mk a qK, q10, q11⟩, fun U hU hW => ⟨rfl, hU, hh_8.2.1, hG.step hW hU hh_8.1, jP.nil, trivial⟩⟩ rfl rfl hl.1 rfl (lv_room (Nat.le_of_ble_eq_true rfl)) dX14_string_51 ⟨Nat.zero_le _, Nat.zero_le _⟩) hh_8.1 (fun q _ h => h) (fun q h => h) (fun r_64 u_63 t_63 H_63 locs_63 ht_63 hvm_63 hr_64 hb_63 hz_63 hk_63 hS_63 => ?_)
            rw [ht_63] at hb_63
            obtain ⟨hb_631, hb_632, hb_633, hb_634, hb_635⟩ := hb_63
            have hh_63 : jSt (dC, dI) B base G0 G0 EX14_stringw9 s.heap 0 0 [(r0, 16, 6, .int wf_3)] [] [] H_63 locs_63 := ((hh_8.call hb_631 hb_632 hb_633 hb_634 hS_63 rfl (L1 := [(r0, 16, 6, .int wf_3)]) [0] rfl rfl (M1 := []) [] rfl rfl (I1 := []) [] rfl rfl).more hb_635)
            clear hh_8 ht_63 hvm_63 hz_63 hk_63 hS_63 hb_631 hb_632 hb_633 hb_634 hb_635
            obtain ⟨hr_64b, hr_64p⟩ := hr_64
            obtain ⟨hr_64p_0, hr_64p_1, hr_64p_2⟩ := hr_64p
            have hr_64' := jb_01 hr_64b
            refine lv_if_eq (tgt := 61) hx hb dX14_string_54 (by decide) (fun c_65 => ?_) (fun c_65 => ?_)
            · skip
              have c_65' : r_64.toInt = 0 := jb_eq (rfl) ((by decide)) c_65
              refine lv_iconst (v := 0) hx hb dX14_string_61 (by decide) ?_
              exact C62 0 _ _ hh_63 (Or.inl rfl) (by first | omega | rfl | assumption | decide | exact Or.inl rfl | exact Or.inr rfl | (simp only; omega)) _ (lv_sub hl [1, 2, 3, 4, 5, 0] rfl)
            · skip
              have c_65' : r_64.toInt ≠ 0 := jb_eq_n (rfl) ((by decide)) c_65
              refine lv_iconst (v := 1) hx hb dX14_string_57 (by decide) ?_
              refine lv_goto (tgt := 62) hx hb dX14_string_58 (by decide) ?_
              exact C62 1 _ _ hh_63 (Or.inr rfl) (by first | omega | rfl | assumption | decide | exact Or.inl rfl | exact Or.inr rfl | (simp only; omega)) _ (lv_sub hl [1, 2, 3, 4, 5, 0] rfl)
  exact L9 (((a3.toInt - (a2 : Int32).toInt).toNat : Int) : Int).toNat.succ a2 qf_1 _ _ hh_1 (by first | omega | (refine ⟨?_, ?_, ?_⟩ <;> (first | omega | rfl | assumption | decide | exact Or.inl rfl | exact Or.inr rfl | (simp only; omega)))) (by omega) _ (lv_sub hl [1, 2, 3, 4, 0] rfl)
end
