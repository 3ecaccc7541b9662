theorem dX10_init_0 : decode cX10_init 0 = .ok (.aload_n 0, 1) := by decide +kernel
theorem dX10_init_1 : decode cX10_init 1 = .ok (.invokespecial 3, 3) := by decide +kernel
theorem dX10_init_4 : decode cX10_init 4 = .ok (.aload_n 0, 1) := by decide +kernel
theorem dX10_init_5 : decode cX10_init 5 = .ok (.iconst (-1), 1) := by decide +kernel
theorem dX10_init_6 : decode cX10_init 6 = .ok (.putfield 9, 3) := by decide +kernel
theorem dX10_init_9 : decode cX10_init 9 = .ok (.aload_n 0, 1) := by decide +kernel
theorem dX10_init_10 : decode cX10_init 10 = .ok (.sipush 600, 3) := by decide +kernel
theorem dX10_init_13 : decode cX10_init 13 = .ok (.newarray .int, 2) := by decide +kernel
theorem dX10_init_15 : decode cX10_init 15 = .ok (.putfield 13, 3) := by decide +kernel
theorem dX10_init_18 : decode cX10_init 18 = .ok (.aload_n 0, 1) := by decide +kernel
theorem dX10_init_19 : decode cX10_init 19 = .ok (.bipush 7, 2) := by decide +kernel
theorem dX10_init_21 : decode cX10_init 21 = .ok (.newarray .int, 2) := by decide +kernel
theorem dX10_init_23 : decode cX10_init 23 = .ok (.putfield 17, 3) := by decide +kernel
theorem dX10_init_26 : decode cX10_init 26 = .ok (.aload_n 0, 1) := by decide +kernel
theorem dX10_init_27 : decode cX10_init 27 = .ok (.bipush 7, 2) := by decide +kernel
theorem dX10_init_29 : decode cX10_init 29 = .ok (.newarray .int, 2) := by decide +kernel
theorem dX10_init_31 : decode cX10_init 31 = .ok (.putfield 20, 3) := by decide +kernel
theorem dX10_init_34 : decode cX10_init 34 = .ok (.aload_n 0, 1) := by decide +kernel
theorem dX10_init_35 : decode cX10_init 35 = .ok (.bipush 6, 2) := by decide +kernel
theorem dX10_init_37 : decode cX10_init 37 = .ok (.iconst 3, 1) := by decide +kernel
theorem dX10_init_38 : decode cX10_init 38 = .ok (.multianewarray 23 2, 4) := by decide +kernel
theorem dX10_init_42 : decode cX10_init 42 = .ok (.putfield 25, 3) := by decide +kernel
theorem dX10_init_45 : decode cX10_init 45 = .ok (.aload_n 0, 1) := by decide +kernel
theorem dX10_init_46 : decode cX10_init 46 = .ok (.bipush 6, 2) := by decide +kernel
theorem dX10_init_48 : decode cX10_init 48 = .ok (.iconst 3, 1) := by decide +kernel
theorem dX10_init_49 : decode cX10_init 49 = .ok (.multianewarray 23 2, 4) := by decide +kernel
theorem dX10_init_53 : decode cX10_init 53 = .ok (.putfield 28, 3) := by decide +kernel
theorem dX10_init_56 : decode cX10_init 56 = .ok (.aload_n 0, 1) := by decide +kernel
theorem dX10_init_57 : decode cX10_init 57 = .ok (.bipush 12, 2) := by decide +kernel
theorem dX10_init_59 : decode cX10_init 59 = .ok (.iconst 5, 1) := by decide +kernel
theorem dX10_init_60 : decode cX10_init 60 = .ok (.multianewarray 23 2, 4) := by decide +kernel
theorem dX10_init_64 : decode cX10_init 64 = .ok (.putfield 31, 3) := by decide +kernel
theorem dX10_init_67 : decode cX10_init 67 = .ok (.aload_n 0, 1) := by decide +kernel
theorem dX10_init_68 : decode cX10_init 68 = .ok (.bipush 12, 2) := by decide +kernel
theorem dX10_init_70 : decode cX10_init 70 = .ok (.iconst 5, 1) := by decide +kernel
theorem dX10_init_71 : decode cX10_init 71 = .ok (.multianewarray 23 2, 4) := by decide +kernel
theorem dX10_init_75 : decode cX10_init 75 = .ok (.putfield 34, 3) := by decide +kernel
theorem dX10_init_78 : decode cX10_init 78 = .ok (.aload_n 0, 1) := by decide +kernel
theorem dX10_init_79 : decode cX10_init 79 = .ok (.bipush 6, 2) := by decide +kernel
theorem dX10_init_81 : decode cX10_init 81 = .ok (.iconst 5, 1) := by decide +kernel
theorem dX10_init_82 : decode cX10_init 82 = .ok (.multianewarray 23 2, 4) := by decide +kernel
theorem dX10_init_86 : decode cX10_init 86 = .ok (.putfield 37, 3) := by decide +kernel
theorem dX10_init_89 : decode cX10_init 89 = .ok (.aload_n 0, 1) := by decide +kernel
theorem dX10_init_90 : decode cX10_init 90 = .ok (.bipush 6, 2) := by decide +kernel
theorem dX10_init_92 : decode cX10_init 92 = .ok (.iconst 5, 1) := by decide +kernel
theorem dX10_init_93 : decode cX10_init 93 = .ok (.multianewarray 23 2, 4) := by decide +kernel
theorem dX10_init_97 : decode cX10_init 97 = .ok (.putfield 40, 3) := by decide +kernel
theorem dX10_init_100 : decode cX10_init 100 = .ok (.aload_n 0, 1) := by decide +kernel
theorem dX10_init_101 : decode cX10_init 101 = .ok (.bipush 24, 2) := by decide +kernel
theorem dX10_init_103 : decode cX10_init 103 = .ok (.iconst 3, 1) := by decide +kernel
theorem dX10_init_104 : decode cX10_init 104 = .ok (.multianewarray 23 2, 4) := by decide +kernel
theorem dX10_init_108 : decode cX10_init 108 = .ok (.putfield 43, 3) := by decide +kernel
theorem dX10_init_111 : decode cX10_init 111 = .ok (.aload_n 0, 1) := by decide +kernel
theorem dX10_init_112 : decode cX10_init 112 = .ok (.bipush 24, 2) := by decide +kernel
theorem dX10_init_114 : decode cX10_init 114 = .ok (.iconst 3, 1) := by decide +kernel
theorem dX10_init_115 : decode cX10_init 115 = .ok (.multianewarray 23 2, 4) := by decide +kernel
theorem dX10_init_119 : decode cX10_init 119 = .ok (.putfield 46, 3) := by decide +kernel
theorem dX10_init_122 : decode cX10_init 122 = .ok (.aload_n 0, 1) := by decide +kernel
theorem dX10_init_123 : decode cX10_init 123 = .ok (.sipush 157, 3) := by decide +kernel
theorem dX10_init_126 : decode cX10_init 126 = .ok (.newarray .int, 2) := by decide +kernel
theorem dX10_init_128 : decode cX10_init 128 = .ok (.putfield 49, 3) := by decide +kernel
theorem dX10_init_131 : decode cX10_init 131 = .ok (.aload_n 0, 1) := by decide +kernel
theorem dX10_init_132 : decode cX10_init 132 = .ok (.bipush 20, 2) := by decide +kernel
theorem dX10_init_134 : decode cX10_init 134 = .ok (.sipush 157, 3) := by decide +kernel
theorem dX10_init_137 : decode cX10_init 137 = .ok (.multianewarray 23 2, 4) := by decide +kernel
theorem dX10_init_141 : decode cX10_init 141 = .ok (.putfield 52, 3) := by decide +kernel
theorem dX10_init_144 : decode cX10_init 144 = .ok (.aload_n 0, 1) := by decide +kernel
theorem dX10_init_145 : decode cX10_init 145 = .ok (.bipush 30, 2) := by decide +kernel
theorem dX10_init_147 : decode cX10_init 147 = .ok (.newarray .int, 2) := by decide +kernel
theorem dX10_init_149 : decode cX10_init 149 = .ok (.putfield 55, 3) := by decide +kernel
theorem dX10_init_152 : decode cX10_init 152 = .ok (.aload_n 0, 1) := by decide +kernel
theorem dX10_init_153 : decode cX10_init 153 = .ok (.bipush 30, 2) := by decide +kernel
theorem dX10_init_155 : decode cX10_init 155 = .ok (.newarray .int, 2) := by decide +kernel
theorem dX10_init_157 : decode cX10_init 157 = .ok (.putfield 58, 3) := by decide +kernel
theorem dX10_init_160 : decode cX10_init 160 = .ok (.aload_n 0, 1) := by decide +kernel
theorem dX10_init_161 : decode cX10_init 161 = .ok (.bipush 60, 2) := by decide +kernel
theorem dX10_init_163 : decode cX10_init 163 = .ok (.iconst 2, 1) := by decide +kernel
theorem dX10_init_164 : decode cX10_init 164 = .ok (.multianewarray 23 2, 4) := by decide +kernel
theorem dX10_init_168 : decode cX10_init 168 = .ok (.putfield 61, 3) := by decide +kernel
theorem dX10_init_171 : decode cX10_init 171 = .ok (.aload_n 0, 1) := by decide +kernel
theorem dX10_init_172 : decode cX10_init 172 = .ok (.bipush 12, 2) := by decide +kernel
theorem dX10_init_174 : decode cX10_init 174 = .ok (.iconst 4, 1) := by decide +kernel
theorem dX10_init_175 : decode cX10_init 175 = .ok (.multianewarray 23 2, 4) := by decide +kernel
theorem dX10_init_179 : decode cX10_init 179 = .ok (.putfield 64, 3) := by decide +kernel
theorem dX10_init_182 : decode cX10_init 182 = .ok (.aload_n 0, 1) := by decide +kernel
theorem dX10_init_183 : decode cX10_init 183 = .ok (.iconst 3, 1) := by decide +kernel
theorem dX10_init_184 : decode cX10_init 184 = .ok (.sipush 417, 3) := by decide +kernel
theorem dX10_init_187 : decode cX10_init 187 = .ok (.multianewarray 23 2, 4) := by decide +kernel
theorem dX10_init_191 : decode cX10_init 191 = .ok (.putfield 67, 3) := by decide +kernel
theorem dX10_init_194 : decode cX10_init 194 = .ok (.aload_n 0, 1) := by decide +kernel
theorem dX10_init_195 : decode cX10_init 195 = .ok (.bipush 20, 2) := by decide +kernel
theorem dX10_init_197 : decode cX10_init 197 = .ok (.newarray .int, 2) := by decide +kernel
theorem dX10_init_199 : decode cX10_init 199 = .ok (.putfield 70, 3) := by decide +kernel
theorem dX10_init_202 : decode cX10_init 202 = .ok (.aload_n 0, 1) := by decide +kernel
theorem dX10_init_203 : decode cX10_init 203 = .ok (.invokevirtual 73, 3) := by decide +kernel
theorem dX10_init_206 : decode cX10_init 206 = .ok (.iconst 0, 1) := by decide +kernel
theorem dX10_init_207 : decode cX10_init 207 = .ok (.istore_n 1, 1) := by decide +kernel
theorem dX10_init_208 : decode cX10_init 208 = .ok (.iload_n 1, 1) := by decide +kernel
theorem dX10_init_209 : decode cX10_init 209 = .ok (.bipush 7, 2) := by decide +kernel
theorem dX10_init_211 : decode cX10_init 211 = .ok (.if_icmp .ge 21, 3) := by decide +kernel
theorem dX10_init_214 : decode cX10_init 214 = .ok (.aload_n 0, 1) := by decide +kernel
theorem dX10_init_215 : decode cX10_init 215 = .ok (.getfield 20, 3) := by decide +kernel
theorem dX10_init_218 : decode cX10_init 218 = .ok (.iload_n 1, 1) := by decide +kernel
theorem dX10_init_219 : decode cX10_init 219 = .ok (.aload_n 0, 1) := by decide +kernel
theorem dX10_init_220 : decode cX10_init 220 = .ok (.getfield 17, 3) := by decide +kernel
theorem dX10_init_223 : decode cX10_init 223 = .ok (.iload_n 1, 1) := by decide +kernel
theorem dX10_init_224 : decode cX10_init 224 = .ok (.iaload, 1) := by decide +kernel
theorem dX10_init_225 : decode cX10_init 225 = .ok (.iastore, 1) := by decide +kernel
theorem dX10_init_226 : decode cX10_init 226 = .ok (.iinc 1 1, 3) := by decide +kernel
theorem dX10_init_229 : decode cX10_init 229 = .ok (.goto (-21), 3) := by decide +kernel
theorem dX10_init_232 : decode cX10_init 232 = .ok (.return_, 1) := by decide +kernel
theorem dX10_tellsNothing_0 : decode cX10_tellsNothing 0 = .ok (.iconst 0, 1) := by decide +kernel
theorem dX10_tellsNothing_1 : decode cX10_tellsNothing 1 = .ok (.istore_n 1, 1) := by decide +kernel
theorem dX10_tellsNothing_2 : decode cX10_tellsNothing 2 = .ok (.iload_n 1, 1) := by decide +kernel
theorem dX10_tellsNothing_3 : decode cX10_tellsNothing 3 = .ok (.bipush 7, 2) := by decide +kernel
theorem dX10_tellsNothing_5 : decode cX10_tellsNothing 5 = .ok (.if_icmp .ge 46, 3) := by decide +kernel
theorem dX10_tellsNothing_8 : decode cX10_tellsNothing 8 = .ok (.aload_n 0, 1) := by decide +kernel
theorem dX10_tellsNothing_9 : decode cX10_tellsNothing 9 = .ok (.getfield 17, 3) := by decide +kernel
theorem dX10_tellsNothing_12 : decode cX10_tellsNothing 12 = .ok (.iload_n 1, 1) := by decide +kernel
theorem dX10_tellsNothing_13 : decode cX10_tellsNothing 13 = .ok (.iload_n 1, 1) := by decide +kernel
theorem dX10_tellsNothing_14 : decode cX10_tellsNothing 14 = .ok (.iconst 3, 1) := by decide +kernel
theorem dX10_tellsNothing_15 : decode cX10_tellsNothing 15 = .ok (.if_icmp .ne 8, 3) := by decide +kernel
theorem dX10_tellsNothing_18 : decode cX10_tellsNothing 18 = .ok (.bipush 12, 2) := by decide +kernel
theorem dX10_tellsNothing_20 : decode cX10_tellsNothing 20 = .ok (.goto 24, 3) := by decide +kernel
theorem dX10_tellsNothing_23 : decode cX10_tellsNothing 23 = .ok (.iload_n 1, 1) := by decide +kernel
theorem dX10_tellsNothing_24 : decode cX10_tellsNothing 24 = .ok (.iconst 4, 1) := by decide +kernel
theorem dX10_tellsNothing_25 : decode cX10_tellsNothing 25 = .ok (.if_icmp .ne 8, 3) := by decide +kernel
theorem dX10_tellsNothing_28 : decode cX10_tellsNothing 28 = .ok (.bipush 9, 2) := by decide +kernel
theorem dX10_tellsNothing_30 : decode cX10_tellsNothing 30 = .ok (.goto 14, 3) := by decide +kernel
theorem dX10_tellsNothing_33 : decode cX10_tellsNothing 33 = .ok (.iload_n 1, 1) := by decide +kernel
theorem dX10_tellsNothing_34 : decode cX10_tellsNothing 34 = .ok (.iconst 5, 1) := by decide +kernel
theorem dX10_tellsNothing_35 : decode cX10_tellsNothing 35 = .ok (.if_icmp .ne 8, 3) := by decide +kernel
theorem dX10_tellsNothing_38 : decode cX10_tellsNothing 38 = .ok (.bipush 30, 2) := by decide +kernel
theorem dX10_tellsNothing_40 : decode cX10_tellsNothing 40 = .ok (.goto 4, 3) := by decide +kernel
theorem dX10_tellsNothing_43 : decode cX10_tellsNothing 43 = .ok (.iconst 0, 1) := by decide +kernel
theorem dX10_tellsNothing_44 : decode cX10_tellsNothing 44 = .ok (.iastore, 1) := by decide +kernel
theorem dX10_tellsNothing_45 : decode cX10_tellsNothing 45 = .ok (.iinc 1 1, 3) := by decide +kernel
theorem dX10_tellsNothing_48 : decode cX10_tellsNothing 48 = .ok (.goto (-46), 3) := by decide +kernel
theorem dX10_tellsNothing_51 : decode cX10_tellsNothing 51 = .ok (.return_, 1) := by decide +kernel
theorem dX10_thrown_0 : decode cX10_thrown 0 = .ok (.aload_n 0, 1) := by decide +kernel
theorem dX10_thrown_1 : decode cX10_thrown 1 = .ok (.getfield 76, 3) := by decide +kernel
theorem dX10_thrown_4 : decode cX10_thrown 4 = .ok (.ireturn, 1) := by decide +kernel
theorem dX10_bad_0 : decode cX10_bad 0 = .ok (.iload_n 1, 1) := by decide +kernel
theorem dX10_bad_1 : decode cX10_bad 1 = .ok (.ifCond .eq 15, 3) := by decide +kernel
theorem dX10_bad_4 : decode cX10_bad 4 = .ok (.aload_n 0, 1) := by decide +kernel
theorem dX10_bad_5 : decode cX10_bad 5 = .ok (.getfield 76, 3) := by decide +kernel
theorem dX10_bad_8 : decode cX10_bad 8 = .ok (.ifCond .ne 8, 3) := by decide +kernel
theorem dX10_bad_11 : decode cX10_bad 11 = .ok (.aload_n 0, 1) := by decide +kernel
theorem dX10_bad_12 : decode cX10_bad 12 = .ok (.iload_n 2, 1) := by decide +kernel
theorem dX10_bad_13 : decode cX10_bad 13 = .ok (.putfield 76, 3) := by decide +kernel
theorem dX10_bad_16 : decode cX10_bad 16 = .ok (.aload_n 0, 1) := by decide +kernel
theorem dX10_bad_17 : decode cX10_bad 17 = .ok (.getfield 76, 3) := by decide +kernel
theorem dX10_bad_20 : decode cX10_bad 20 = .ok (.ifCond .eq 7, 3) := by decide +kernel
theorem dX10_bad_23 : decode cX10_bad 23 = .ok (.iconst 1, 1) := by decide +kernel
theorem dX10_bad_24 : decode cX10_bad 24 = .ok (.goto 4, 3) := by decide +kernel
theorem dX10_bad_27 : decode cX10_bad 27 = .ok (.iconst 0, 1) := by decide +kernel
theorem dX10_bad_28 : decode cX10_bad 28 = .ok (.ireturn, 1) := by decide +kernel
theorem dX10_in_0 : decode cX10_in 0 = .ok (.iload_n 0, 1) := by decide +kernel
theorem dX10_in_1 : decode cX10_in 1 = .ok (.iload_n 1, 1) := by decide +kernel
theorem dX10_in_2 : decode cX10_in 2 = .ok (.if_icmp .lt 12, 3) := by decide +kernel
theorem dX10_in_5 : decode cX10_in 5 = .ok (.iload_n 0, 1) := by decide +kernel
theorem dX10_in_6 : decode cX10_in 6 = .ok (.iload_n 2, 1) := by decide +kernel
theorem dX10_in_7 : decode cX10_in 7 = .ok (.if_icmp .gt 7, 3) := by decide +kernel
theorem dX10_in_10 : decode cX10_in 10 = .ok (.iconst 1, 1) := by decide +kernel
theorem dX10_in_11 : decode cX10_in 11 = .ok (.goto 4, 3) := by decide +kernel
theorem dX10_in_14 : decode cX10_in 14 = .ok (.iconst 0, 1) := by decide +kernel
theorem dX10_in_15 : decode cX10_in 15 = .ok (.ireturn, 1) := by decide +kernel
theorem dX10_feed_0 : decode cX10_feed 0 = .ok (.aload_n 0, 1) := by decide +kernel
theorem dX10_feed_1 : decode cX10_feed 1 = .ok (.iconst 0, 1) := by decide +kernel
theorem dX10_feed_2 : decode cX10_feed 2 = .ok (.putfield 76, 3) := by decide +kernel
theorem dX10_feed_5 : decode cX10_feed 5 = .ok (.aload_n 0, 1) := by decide +kernel
theorem dX10_feed_6 : decode cX10_feed 6 = .ok (.getfield 79, 3) := by decide +kernel
theorem dX10_feed_9 : decode cX10_feed 9 = .ok (.bipush 20, 2) := by decide +kernel
theorem dX10_feed_11 : decode cX10_feed 11 = .ok (.iadd, 1) := by decide +kernel
theorem dX10_feed_12 : decode cX10_feed 12 = .ok (.sipush 600, 3) := by decide +kernel
theorem dX10_feed_15 : decode cX10_feed 15 = .ok (.if_icmp .le 5, 3) := by decide +kernel
theorem dX10_feed_18 : decode cX10_feed 18 = .ok (.iconst (-1), 1) := by decide +kernel
theorem dX10_feed_19 : decode cX10_feed 19 = .ok (.ireturn, 1) := by decide +kernel
theorem dX10_feed_20 : decode cX10_feed 20 = .ok (.iconst 0, 1) := by decide +kernel
theorem dX10_feed_21 : decode cX10_feed 21 = .ok (.istore 6, 2) := by decide +kernel
theorem dX10_feed_23 : decode cX10_feed 23 = .ok (.iload 6, 2) := by decide +kernel
theorem dX10_feed_25 : decode cX10_feed 25 = .ok (.bipush 20, 2) := by decide +kernel
theorem dX10_feed_27 : decode cX10_feed 27 = .ok (.if_icmp .ge 93, 3) := by decide +kernel
theorem dX10_feed_30 : decode cX10_feed 30 = .ok (.iload 6, 2) := by decide +kernel
theorem dX10_feed_32 : decode cX10_feed 32 = .ok (.iconst 4, 1) := by decide +kernel
theorem dX10_feed_33 : decode cX10_feed 33 = .ok (.if_icmp .ge 7, 3) := by decide +kernel
theorem dX10_feed_36 : decode cX10_feed 36 = .ok (.iload_n 1, 1) := by decide +kernel
theorem dX10_feed_37 : decode cX10_feed 37 = .ok (.goto 39, 3) := by decide +kernel
theorem dX10_feed_40 : decode cX10_feed 40 = .ok (.iload 6, 2) := by decide +kernel
theorem dX10_feed_42 : decode cX10_feed 42 = .ok (.bipush 8, 2) := by decide +kernel
theorem dX10_feed_44 : decode cX10_feed 44 = .ok (.if_icmp .ge 7, 3) := by decide +kernel
theorem dX10_feed_47 : decode cX10_feed 47 = .ok (.iload_n 2, 1) := by decide +kernel
theorem dX10_feed_48 : decode cX10_feed 48 = .ok (.goto 28, 3) := by decide +kernel
theorem dX10_feed_51 : decode cX10_feed 51 = .ok (.iload 6, 2) := by decide +kernel
theorem dX10_feed_53 : decode cX10_feed 53 = .ok (.bipush 12, 2) := by decide +kernel
theorem dX10_feed_55 : decode cX10_feed 55 = .ok (.if_icmp .ge 7, 3) := by decide +kernel
theorem dX10_feed_58 : decode cX10_feed 58 = .ok (.iload_n 3, 1) := by decide +kernel
theorem dX10_feed_59 : decode cX10_feed 59 = .ok (.goto 17, 3) := by decide +kernel
theorem dX10_feed_62 : decode cX10_feed 62 = .ok (.iload 6, 2) := by decide +kernel
theorem dX10_feed_64 : decode cX10_feed 64 = .ok (.bipush 16, 2) := by decide +kernel
theorem dX10_feed_66 : decode cX10_feed 66 = .ok (.if_icmp .ge 8, 3) := by decide +kernel
theorem dX10_feed_69 : decode cX10_feed 69 = .ok (.iload 4, 2) := by decide +kernel
theorem dX10_feed_71 : decode cX10_feed 71 = .ok (.goto 5, 3) := by decide +kernel
theorem dX10_feed_74 : decode cX10_feed 74 = .ok (.iload 5, 2) := by decide +kernel
theorem dX10_feed_76 : decode cX10_feed 76 = .ok (.istore 7, 2) := by decide +kernel
theorem dX10_feed_78 : decode cX10_feed 78 = .ok (.aload_n 0, 1) := by decide +kernel
theorem dX10_feed_79 : decode cX10_feed 79 = .ok (.getfield 13, 3) := by decide +kernel
theorem dX10_feed_82 : decode cX10_feed 82 = .ok (.aload_n 0, 1) := by decide +kernel
theorem dX10_feed_83 : decode cX10_feed 83 = .ok (.getfield 79, 3) := by decide +kernel
theorem dX10_feed_86 : decode cX10_feed 86 = .ok (.iload 7, 2) := by decide +kernel
theorem dX10_feed_88 : decode cX10_feed 88 = .ok (.bipush 24, 2) := by decide +kernel
theorem dX10_feed_90 : decode cX10_feed 90 = .ok (.bipush 8, 2) := by decide +kernel
theorem dX10_feed_92 : decode cX10_feed 92 = .ok (.iload 6, 2) := by decide +kernel
theorem dX10_feed_94 : decode cX10_feed 94 = .ok (.iconst 4, 1) := by decide +kernel
theorem dX10_feed_95 : decode cX10_feed 95 = .ok (.irem, 1) := by decide +kernel
theorem dX10_feed_96 : decode cX10_feed 96 = .ok (.imul, 1) := by decide +kernel
theorem dX10_feed_97 : decode cX10_feed 97 = .ok (.isub, 1) := by decide +kernel
theorem dX10_feed_98 : decode cX10_feed 98 = .ok (.ishr, 1) := by decide +kernel
theorem dX10_feed_99 : decode cX10_feed 99 = .ok (.sipush 255, 3) := by decide +kernel
theorem dX10_feed_102 : decode cX10_feed 102 = .ok (.iand, 1) := by decide +kernel
theorem dX10_feed_103 : decode cX10_feed 103 = .ok (.iastore, 1) := by decide +kernel
theorem dX10_feed_104 : decode cX10_feed 104 = .ok (.aload_n 0, 1) := by decide +kernel
theorem dX10_feed_105 : decode cX10_feed 105 = .ok (.dup, 1) := by decide +kernel
theorem dX10_feed_106 : decode cX10_feed 106 = .ok (.getfield 79, 3) := by decide +kernel
theorem dX10_feed_109 : decode cX10_feed 109 = .ok (.iconst 1, 1) := by decide +kernel
theorem dX10_feed_110 : decode cX10_feed 110 = .ok (.iadd, 1) := by decide +kernel
theorem dX10_feed_111 : decode cX10_feed 111 = .ok (.putfield 79, 3) := by decide +kernel
theorem dX10_feed_114 : decode cX10_feed 114 = .ok (.iinc 6 1, 3) := by decide +kernel
theorem dX10_feed_117 : decode cX10_feed 117 = .ok (.goto (-94), 3) := by decide +kernel
theorem dX10_feed_120 : decode cX10_feed 120 = .ok (.aload_n 0, 1) := by decide +kernel
theorem dX10_feed_121 : decode cX10_feed 121 = .ok (.getfield 79, 3) := by decide +kernel
theorem dX10_feed_124 : decode cX10_feed 124 = .ok (.ireturn, 1) := by decide +kernel
theorem dX10_byteAt_0 : decode cX10_byteAt 0 = .ok (.iload_n 1, 1) := by decide +kernel
theorem dX10_byteAt_1 : decode cX10_byteAt 1 = .ok (.aload_n 0, 1) := by decide +kernel
theorem dX10_byteAt_2 : decode cX10_byteAt 2 = .ok (.getfield 82, 3) := by decide +kernel
theorem dX10_byteAt_5 : decode cX10_byteAt 5 = .ok (.if_icmp .lt 7, 3) := by decide +kernel
theorem dX10_byteAt_8 : decode cX10_byteAt 8 = .ok (.iconst (-1), 1) := by decide +kernel
theorem dX10_byteAt_9 : decode cX10_byteAt 9 = .ok (.goto 9, 3) := by decide +kernel
theorem dX10_byteAt_12 : decode cX10_byteAt 12 = .ok (.aload_n 0, 1) := by decide +kernel
theorem dX10_byteAt_13 : decode cX10_byteAt 13 = .ok (.getfield 13, 3) := by decide +kernel
theorem dX10_byteAt_16 : decode cX10_byteAt 16 = .ok (.iload_n 1, 1) := by decide +kernel
theorem dX10_byteAt_17 : decode cX10_byteAt 17 = .ok (.iaload, 1) := by decide +kernel
theorem dX10_byteAt_18 : decode cX10_byteAt 18 = .ok (.ireturn, 1) := by decide +kernel
theorem dX10_blanks_0 : decode cX10_blanks 0 = .ok (.aload_n 0, 1) := by decide +kernel
theorem dX10_blanks_1 : decode cX10_blanks 1 = .ok (.aload_n 0, 1) := by decide +kernel
theorem dX10_blanks_2 : decode cX10_blanks 2 = .ok (.getfield 85, 3) := by decide +kernel
theorem dX10_blanks_5 : decode cX10_blanks 5 = .ok (.invokevirtual 88, 3) := by decide +kernel
theorem dX10_blanks_8 : decode cX10_blanks 8 = .ok (.bipush 32, 2) := by decide +kernel
theorem dX10_blanks_10 : decode cX10_blanks 10 = .ok (.if_icmp .ne 16, 3) := by decide +kernel
theorem dX10_blanks_13 : decode cX10_blanks 13 = .ok (.aload_n 0, 1) := by decide +kernel
theorem dX10_blanks_14 : decode cX10_blanks 14 = .ok (.dup, 1) := by decide +kernel
theorem dX10_blanks_15 : decode cX10_blanks 15 = .ok (.getfield 85, 3) := by decide +kernel
theorem dX10_blanks_18 : decode cX10_blanks 18 = .ok (.iconst 1, 1) := by decide +kernel
theorem dX10_blanks_19 : decode cX10_blanks 19 = .ok (.iadd, 1) := by decide +kernel
theorem dX10_blanks_20 : decode cX10_blanks 20 = .ok (.putfield 85, 3) := by decide +kernel
theorem dX10_blanks_23 : decode cX10_blanks 23 = .ok (.goto (-23), 3) := by decide +kernel
theorem dX10_blanks_26 : decode cX10_blanks 26 = .ok (.return_, 1) := by decide +kernel
theorem dX10_wrong_0 : decode cX10_wrong 0 = .ok (.aload_n 0, 1) := by decide +kernel
theorem dX10_wrong_1 : decode cX10_wrong 1 = .ok (.getfield 92, 3) := by decide +kernel
theorem dX10_wrong_4 : decode cX10_wrong 4 = .ok (.ifCond .ne 13, 3) := by decide +kernel
theorem dX10_wrong_7 : decode cX10_wrong 7 = .ok (.aload_n 0, 1) := by decide +kernel
theorem dX10_wrong_8 : decode cX10_wrong 8 = .ok (.iload_n 1, 1) := by decide +kernel
theorem dX10_wrong_9 : decode cX10_wrong 9 = .ok (.putfield 92, 3) := by decide +kernel
theorem dX10_wrong_12 : decode cX10_wrong 12 = .ok (.aload_n 0, 1) := by decide +kernel
theorem dX10_wrong_13 : decode cX10_wrong 13 = .ok (.iload_n 2, 1) := by decide +kernel
theorem dX10_wrong_14 : decode cX10_wrong 14 = .ok (.putfield 95, 3) := by decide +kernel
theorem dX10_wrong_17 : decode cX10_wrong 17 = .ok (.return_, 1) := by decide +kernel
theorem dX10_isDigit_0 : decode cX10_isDigit 0 = .ok (.iload_n 0, 1) := by decide +kernel
theorem dX10_isDigit_1 : decode cX10_isDigit 1 = .ok (.bipush 48, 2) := by decide +kernel
theorem dX10_isDigit_3 : decode cX10_isDigit 3 = .ok (.if_icmp .lt 13, 3) := by decide +kernel
theorem dX10_isDigit_6 : decode cX10_isDigit 6 = .ok (.iload_n 0, 1) := by decide +kernel
theorem dX10_isDigit_7 : decode cX10_isDigit 7 = .ok (.bipush 57, 2) := by decide +kernel
theorem dX10_isDigit_9 : decode cX10_isDigit 9 = .ok (.if_icmp .gt 7, 3) := by decide +kernel
theorem dX10_isDigit_12 : decode cX10_isDigit 12 = .ok (.iconst 1, 1) := by decide +kernel
theorem dX10_isDigit_13 : decode cX10_isDigit 13 = .ok (.goto 4, 3) := by decide +kernel
theorem dX10_isDigit_16 : decode cX10_isDigit 16 = .ok (.iconst 0, 1) := by decide +kernel
theorem dX10_isDigit_17 : decode cX10_isDigit 17 = .ok (.ireturn, 1) := by decide +kernel
theorem dX10_number_0 : decode cX10_number 0 = .ok (.aload_n 0, 1) := by decide +kernel
theorem dX10_number_1 : decode cX10_number 1 = .ok (.getfield 92, 3) := by decide +kernel
theorem dX10_number_4 : decode cX10_number 4 = .ok (.ifCond .eq 5, 3) := by decide +kernel
theorem dX10_number_7 : decode cX10_number 7 = .ok (.iconst 0, 1) := by decide +kernel
theorem dX10_number_8 : decode cX10_number 8 = .ok (.ireturn, 1) := by decide +kernel
theorem dX10_number_9 : decode cX10_number 9 = .ok (.aload_n 0, 1) := by decide +kernel
theorem dX10_number_10 : decode cX10_number 10 = .ok (.invokevirtual 98, 3) := by decide +kernel
theorem dX10_number_13 : decode cX10_number 13 = .ok (.aload_n 0, 1) := by decide +kernel
theorem dX10_number_14 : decode cX10_number 14 = .ok (.getfield 85, 3) := by decide +kernel
theorem dX10_number_17 : decode cX10_number 17 = .ok (.istore_n 3, 1) := by decide +kernel
theorem dX10_number_18 : decode cX10_number 18 = .ok (.iconst 0, 1) := by decide +kernel
theorem dX10_number_19 : decode cX10_number 19 = .ok (.istore 4, 2) := by decide +kernel
theorem dX10_number_21 : decode cX10_number 21 = .ok (.aload_n 0, 1) := by decide +kernel
theorem dX10_number_22 : decode cX10_number 22 = .ok (.aload_n 0, 1) := by decide +kernel
theorem dX10_number_23 : decode cX10_number 23 = .ok (.getfield 85, 3) := by decide +kernel
theorem dX10_number_26 : decode cX10_number 26 = .ok (.invokevirtual 88, 3) := by decide +kernel
theorem dX10_number_29 : decode cX10_number 29 = .ok (.invokestatic 101, 3) := by decide +kernel
theorem dX10_number_32 : decode cX10_number 32 = .ok (.ifCond .ne 12, 3) := by decide +kernel
theorem dX10_number_35 : decode cX10_number 35 = .ok (.aload_n 0, 1) := by decide +kernel
theorem dX10_number_36 : decode cX10_number 36 = .ok (.iconst 1, 1) := by decide +kernel
theorem dX10_number_37 : decode cX10_number 37 = .ok (.aload_n 0, 1) := by decide +kernel
theorem dX10_number_38 : decode cX10_number 38 = .ok (.getfield 85, 3) := by decide +kernel
theorem dX10_number_41 : decode cX10_number 41 = .ok (.invokevirtual 105, 3) := by decide +kernel
theorem dX10_number_44 : decode cX10_number 44 = .ok (.aload_n 0, 1) := by decide +kernel
theorem dX10_number_45 : decode cX10_number 45 = .ok (.aload_n 0, 1) := by decide +kernel
theorem dX10_number_46 : decode cX10_number 46 = .ok (.getfield 85, 3) := by decide +kernel
theorem dX10_number_49 : decode cX10_number 49 = .ok (.invokevirtual 88, 3) := by decide +kernel
theorem dX10_number_52 : decode cX10_number 52 = .ok (.invokestatic 101, 3) := by decide +kernel
theorem dX10_number_55 : decode cX10_number 55 = .ok (.ifCond .eq 51, 3) := by decide +kernel
theorem dX10_number_58 : decode cX10_number 58 = .ok (.bipush 10, 2) := by decide +kernel
theorem dX10_number_60 : decode cX10_number 60 = .ok (.iload 4, 2) := by decide +kernel
theorem dX10_number_62 : decode cX10_number 62 = .ok (.imul, 1) := by decide +kernel
theorem dX10_number_63 : decode cX10_number 63 = .ok (.aload_n 0, 1) := by decide +kernel
theorem dX10_number_64 : decode cX10_number 64 = .ok (.aload_n 0, 1) := by decide +kernel
theorem dX10_number_65 : decode cX10_number 65 = .ok (.getfield 85, 3) := by decide +kernel
theorem dX10_number_68 : decode cX10_number 68 = .ok (.invokevirtual 88, 3) := by decide +kernel
theorem dX10_number_71 : decode cX10_number 71 = .ok (.iadd, 1) := by decide +kernel
theorem dX10_number_72 : decode cX10_number 72 = .ok (.bipush 48, 2) := by decide +kernel
theorem dX10_number_74 : decode cX10_number 74 = .ok (.isub, 1) := by decide +kernel
theorem dX10_number_75 : decode cX10_number 75 = .ok (.istore 4, 2) := by decide +kernel
theorem dX10_number_77 : decode cX10_number 77 = .ok (.iload 4, 2) := by decide +kernel
theorem dX10_number_79 : decode cX10_number 79 = .ok (.ldc 109, 2) := by decide +kernel
theorem dX10_number_81 : decode cX10_number 81 = .ok (.if_icmp .le 8, 3) := by decide +kernel
theorem dX10_number_84 : decode cX10_number 84 = .ok (.ldc 109, 2) := by decide +kernel
theorem dX10_number_86 : decode cX10_number 86 = .ok (.goto 5, 3) := by decide +kernel
theorem dX10_number_89 : decode cX10_number 89 = .ok (.iload 4, 2) := by decide +kernel
theorem dX10_number_91 : decode cX10_number 91 = .ok (.istore 4, 2) := by decide +kernel
theorem dX10_number_93 : decode cX10_number 93 = .ok (.aload_n 0, 1) := by decide +kernel
theorem dX10_number_94 : decode cX10_number 94 = .ok (.dup, 1) := by decide +kernel
theorem dX10_number_95 : decode cX10_number 95 = .ok (.getfield 85, 3) := by decide +kernel
theorem dX10_number_98 : decode cX10_number 98 = .ok (.iconst 1, 1) := by decide +kernel
theorem dX10_number_99 : decode cX10_number 99 = .ok (.iadd, 1) := by decide +kernel
theorem dX10_number_100 : decode cX10_number 100 = .ok (.putfield 85, 3) := by decide +kernel
theorem dX10_number_103 : decode cX10_number 103 = .ok (.goto (-59), 3) := by decide +kernel
theorem dX10_number_106 : decode cX10_number 106 = .ok (.iload 4, 2) := by decide +kernel
theorem dX10_number_108 : decode cX10_number 108 = .ok (.iload_n 1, 1) := by decide +kernel
theorem dX10_number_109 : decode cX10_number 109 = .ok (.iload_n 2, 1) := by decide +kernel
theorem dX10_number_110 : decode cX10_number 110 = .ok (.invokestatic 110, 3) := by decide +kernel
theorem dX10_number_113 : decode cX10_number 113 = .ok (.ifCond .ne 9, 3) := by decide +kernel
theorem dX10_number_116 : decode cX10_number 116 = .ok (.aload_n 0, 1) := by decide +kernel
theorem dX10_number_117 : decode cX10_number 117 = .ok (.iconst 2, 1) := by decide +kernel
theorem dX10_number_118 : decode cX10_number 118 = .ok (.iload_n 3, 1) := by decide +kernel
theorem dX10_number_119 : decode cX10_number 119 = .ok (.invokevirtual 105, 3) := by decide +kernel
theorem dX10_number_122 : decode cX10_number 122 = .ok (.aload_n 0, 1) := by decide +kernel
theorem dX10_number_123 : decode cX10_number 123 = .ok (.getfield 92, 3) := by decide +kernel
theorem dX10_number_126 : decode cX10_number 126 = .ok (.ifCond .ne 8, 3) := by decide +kernel
theorem dX10_number_129 : decode cX10_number 129 = .ok (.iload 4, 2) := by decide +kernel
theorem dX10_number_131 : decode cX10_number 131 = .ok (.goto 4, 3) := by decide +kernel
theorem dX10_number_134 : decode cX10_number 134 = .ok (.iconst 0, 1) := by decide +kernel
theorem dX10_number_135 : decode cX10_number 135 = .ok (.ireturn, 1) := by decide +kernel
theorem dX10_wordHere_0 : decode cX10_wordHere 0 = .ok (.aload_n 0, 1) := by decide +kernel
theorem dX10_wordHere_1 : decode cX10_wordHere 1 = .ok (.invokevirtual 98, 3) := by decide +kernel
theorem dX10_wordHere_4 : decode cX10_wordHere 4 = .ok (.iconst 0, 1) := by decide +kernel
theorem dX10_wordHere_5 : decode cX10_wordHere 5 = .ok (.istore_n 1, 1) := by decide +kernel
theorem dX10_wordHere_6 : decode cX10_wordHere 6 = .ok (.iconst 0, 1) := by decide +kernel
theorem dX10_wordHere_7 : decode cX10_wordHere 7 = .ok (.istore_n 2, 1) := by decide +kernel
theorem dX10_wordHere_8 : decode cX10_wordHere 8 = .ok (.aload_n 0, 1) := by decide +kernel
theorem dX10_wordHere_9 : decode cX10_wordHere 9 = .ok (.aload_n 0, 1) := by decide +kernel
theorem dX10_wordHere_10 : decode cX10_wordHere 10 = .ok (.getfield 85, 3) := by decide +kernel
theorem dX10_wordHere_13 : decode cX10_wordHere 13 = .ok (.iload_n 2, 1) := by decide +kernel
theorem dX10_wordHere_14 : decode cX10_wordHere 14 = .ok (.iadd, 1) := by decide +kernel
theorem dX10_wordHere_15 : decode cX10_wordHere 15 = .ok (.invokevirtual 88, 3) := by decide +kernel
theorem dX10_wordHere_18 : decode cX10_wordHere 18 = .ok (.bipush 97, 2) := by decide +kernel
theorem dX10_wordHere_20 : decode cX10_wordHere 20 = .ok (.if_icmp .lt 55, 3) := by decide +kernel
theorem dX10_wordHere_23 : decode cX10_wordHere 23 = .ok (.aload_n 0, 1) := by decide +kernel
theorem dX10_wordHere_24 : decode cX10_wordHere 24 = .ok (.aload_n 0, 1) := by decide +kernel
theorem dX10_wordHere_25 : decode cX10_wordHere 25 = .ok (.getfield 85, 3) := by decide +kernel
theorem dX10_wordHere_28 : decode cX10_wordHere 28 = .ok (.iload_n 2, 1) := by decide +kernel
theorem dX10_wordHere_29 : decode cX10_wordHere 29 = .ok (.iadd, 1) := by decide +kernel
theorem dX10_wordHere_30 : decode cX10_wordHere 30 = .ok (.invokevirtual 88, 3) := by decide +kernel
theorem dX10_wordHere_33 : decode cX10_wordHere 33 = .ok (.bipush 122, 2) := by decide +kernel
theorem dX10_wordHere_35 : decode cX10_wordHere 35 = .ok (.if_icmp .gt 40, 3) := by decide +kernel
theorem dX10_wordHere_38 : decode cX10_wordHere 38 = .ok (.iload_n 2, 1) := by decide +kernel
theorem dX10_wordHere_39 : decode cX10_wordHere 39 = .ok (.bipush 6, 2) := by decide +kernel
theorem dX10_wordHere_41 : decode cX10_wordHere 41 = .ok (.if_icmp .ge 26, 3) := by decide +kernel
theorem dX10_wordHere_44 : decode cX10_wordHere 44 = .ok (.bipush 27, 2) := by decide +kernel
theorem dX10_wordHere_46 : decode cX10_wordHere 46 = .ok (.iload_n 1, 1) := by decide +kernel
theorem dX10_wordHere_47 : decode cX10_wordHere 47 = .ok (.imul, 1) := by decide +kernel
theorem dX10_wordHere_48 : decode cX10_wordHere 48 = .ok (.aload_n 0, 1) := by decide +kernel
theorem dX10_wordHere_49 : decode cX10_wordHere 49 = .ok (.aload_n 0, 1) := by decide +kernel
theorem dX10_wordHere_50 : decode cX10_wordHere 50 = .ok (.getfield 85, 3) := by decide +kernel
theorem dX10_wordHere_53 : decode cX10_wordHere 53 = .ok (.iload_n 2, 1) := by decide +kernel
theorem dX10_wordHere_54 : decode cX10_wordHere 54 = .ok (.iadd, 1) := by decide +kernel
theorem dX10_wordHere_55 : decode cX10_wordHere 55 = .ok (.invokevirtual 88, 3) := by decide +kernel
theorem dX10_wordHere_58 : decode cX10_wordHere 58 = .ok (.iadd, 1) := by decide +kernel
theorem dX10_wordHere_59 : decode cX10_wordHere 59 = .ok (.bipush 97, 2) := by decide +kernel
theorem dX10_wordHere_61 : decode cX10_wordHere 61 = .ok (.isub, 1) := by decide +kernel
theorem dX10_wordHere_62 : decode cX10_wordHere 62 = .ok (.iconst 1, 1) := by decide +kernel
theorem dX10_wordHere_63 : decode cX10_wordHere 63 = .ok (.iadd, 1) := by decide +kernel
theorem dX10_wordHere_64 : decode cX10_wordHere 64 = .ok (.goto 4, 3) := by decide +kernel
theorem dX10_wordHere_67 : decode cX10_wordHere 67 = .ok (.iload_n 1, 1) := by decide +kernel
theorem dX10_wordHere_68 : decode cX10_wordHere 68 = .ok (.istore_n 1, 1) := by decide +kernel
theorem dX10_wordHere_69 : decode cX10_wordHere 69 = .ok (.iinc 2 1, 3) := by decide +kernel
theorem dX10_wordHere_72 : decode cX10_wordHere 72 = .ok (.goto (-64), 3) := by decide +kernel
theorem dX10_wordHere_75 : decode cX10_wordHere 75 = .ok (.iload_n 2, 1) := by decide +kernel
theorem dX10_wordHere_76 : decode cX10_wordHere 76 = .ok (.bipush 6, 2) := by decide +kernel
theorem dX10_wordHere_78 : decode cX10_wordHere 78 = .ok (.if_icmp .le 7, 3) := by decide +kernel
theorem dX10_wordHere_81 : decode cX10_wordHere 81 = .ok (.iconst (-1), 1) := by decide +kernel
theorem dX10_wordHere_82 : decode cX10_wordHere 82 = .ok (.goto 4, 3) := by decide +kernel
theorem dX10_wordHere_85 : decode cX10_wordHere 85 = .ok (.iload_n 1, 1) := by decide +kernel
theorem dX10_wordHere_86 : decode cX10_wordHere 86 = .ok (.ireturn, 1) := by decide +kernel
theorem dX10_six_0 : decode cX10_six 0 = .ok (.bipush 27, 2) := by decide +kernel
theorem dX10_six_2 : decode cX10_six 2 = .ok (.bipush 27, 2) := by decide +kernel
theorem dX10_six_4 : decode cX10_six 4 = .ok (.bipush 27, 2) := by decide +kernel
theorem dX10_six_6 : decode cX10_six 6 = .ok (.iload_n 0, 1) := by decide +kernel
theorem dX10_six_7 : decode cX10_six 7 = .ok (.imul, 1) := by decide +kernel
theorem dX10_six_8 : decode cX10_six 8 = .ok (.iload_n 1, 1) := by decide +kernel
theorem dX10_six_9 : decode cX10_six 9 = .ok (.iadd, 1) := by decide +kernel
theorem dX10_six_10 : decode cX10_six 10 = .ok (.imul, 1) := by decide +kernel
theorem dX10_six_11 : decode cX10_six 11 = .ok (.iload_n 2, 1) := by decide +kernel
theorem dX10_six_12 : decode cX10_six 12 = .ok (.iadd, 1) := by decide +kernel
theorem dX10_six_13 : decode cX10_six 13 = .ok (.imul, 1) := by decide +kernel
theorem dX10_six_14 : decode cX10_six 14 = .ok (.iload_n 3, 1) := by decide +kernel
theorem dX10_six_15 : decode cX10_six 15 = .ok (.iadd, 1) := by decide +kernel
theorem dX10_six_16 : decode cX10_six 16 = .ok (.istore 6, 2) := by decide +kernel
theorem dX10_six_18 : decode cX10_six 18 = .ok (.iload 4, 2) := by decide +kernel
theorem dX10_six_20 : decode cX10_six 20 = .ok (.ifCond .ne 8, 3) := by decide +kernel
theorem dX10_six_23 : decode cX10_six 23 = .ok (.iload 6, 2) := by decide +kernel
theorem dX10_six_25 : decode cX10_six 25 = .ok (.goto 11, 3) := by decide +kernel
theorem dX10_six_28 : decode cX10_six 28 = .ok (.bipush 27, 2) := by decide +kernel
theorem dX10_six_30 : decode cX10_six 30 = .ok (.iload 6, 2) := by decide +kernel
theorem dX10_six_32 : decode cX10_six 32 = .ok (.imul, 1) := by decide +kernel
theorem dX10_six_33 : decode cX10_six 33 = .ok (.iload 4, 2) := by decide +kernel
theorem dX10_six_35 : decode cX10_six 35 = .ok (.iadd, 1) := by decide +kernel
theorem dX10_six_36 : decode cX10_six 36 = .ok (.istore 6, 2) := by decide +kernel
theorem dX10_six_38 : decode cX10_six 38 = .ok (.iload 5, 2) := by decide +kernel
theorem dX10_six_40 : decode cX10_six 40 = .ok (.ifCond .ne 8, 3) := by decide +kernel
theorem dX10_six_43 : decode cX10_six 43 = .ok (.iload 6, 2) := by decide +kernel
theorem dX10_six_45 : decode cX10_six 45 = .ok (.goto 11, 3) := by decide +kernel
theorem dX10_six_48 : decode cX10_six 48 = .ok (.bipush 27, 2) := by decide +kernel
theorem dX10_six_50 : decode cX10_six 50 = .ok (.iload 6, 2) := by decide +kernel
theorem dX10_six_52 : decode cX10_six 52 = .ok (.imul, 1) := by decide +kernel
theorem dX10_six_53 : decode cX10_six 53 = .ok (.iload 5, 2) := by decide +kernel
theorem dX10_six_55 : decode cX10_six 55 = .ok (.iadd, 1) := by decide +kernel
theorem dX10_six_56 : decode cX10_six 56 = .ok (.ireturn, 1) := by decide +kernel
theorem dX10_isWord_0 : decode cX10_isWord 0 = .ok (.aload_n 0, 1) := by decide +kernel
theorem dX10_isWord_1 : decode cX10_isWord 1 = .ok (.getfield 92, 3) := by decide +kernel
theorem dX10_isWord_4 : decode cX10_isWord 4 = .ok (.ifCond .ne 15, 3) := by decide +kernel
theorem dX10_isWord_7 : decode cX10_isWord 7 = .ok (.aload_n 0, 1) := by decide +kernel
theorem dX10_isWord_8 : decode cX10_isWord 8 = .ok (.invokevirtual 114, 3) := by decide +kernel
theorem dX10_isWord_11 : decode cX10_isWord 11 = .ok (.iload_n 1, 1) := by decide +kernel
theorem dX10_isWord_12 : decode cX10_isWord 12 = .ok (.if_icmp .ne 7, 3) := by decide +kernel
theorem dX10_isWord_15 : decode cX10_isWord 15 = .ok (.iconst 1, 1) := by decide +kernel
theorem dX10_isWord_16 : decode cX10_isWord 16 = .ok (.goto 4, 3) := by decide +kernel
theorem dX10_isWord_19 : decode cX10_isWord 19 = .ok (.iconst 0, 1) := by decide +kernel
theorem dX10_isWord_20 : decode cX10_isWord 20 = .ok (.ireturn, 1) := by decide +kernel
theorem dX10_closes_0 : decode cX10_closes 0 = .ok (.aload_n 0, 1) := by decide +kernel
theorem dX10_closes_1 : decode cX10_closes 1 = .ok (.getfield 92, 3) := by decide +kernel
theorem dX10_closes_4 : decode cX10_closes 4 = .ok (.ifCond .eq 4, 3) := by decide +kernel
theorem dX10_closes_7 : decode cX10_closes 7 = .ok (.return_, 1) := by decide +kernel
theorem dX10_closes_8 : decode cX10_closes 8 = .ok (.aload_n 0, 1) := by decide +kernel
theorem dX10_closes_9 : decode cX10_closes 9 = .ok (.invokevirtual 98, 3) := by decide +kernel
theorem dX10_closes_12 : decode cX10_closes 12 = .ok (.aload_n 0, 1) := by decide +kernel
theorem dX10_closes_13 : decode cX10_closes 13 = .ok (.aload_n 0, 1) := by decide +kernel
theorem dX10_closes_14 : decode cX10_closes 14 = .ok (.getfield 85, 3) := by decide +kernel
theorem dX10_closes_17 : decode cX10_closes 17 = .ok (.invokevirtual 88, 3) := by decide +kernel
theorem dX10_closes_20 : decode cX10_closes 20 = .ok (.bipush 59, 2) := by decide +kernel
theorem dX10_closes_22 : decode cX10_closes 22 = .ok (.if_icmp .ne 16, 3) := by decide +kernel
theorem dX10_closes_25 : decode cX10_closes 25 = .ok (.aload_n 0, 1) := by decide +kernel
theorem dX10_closes_26 : decode cX10_closes 26 = .ok (.dup, 1) := by decide +kernel
theorem dX10_closes_27 : decode cX10_closes 27 = .ok (.getfield 85, 3) := by decide +kernel
theorem dX10_closes_30 : decode cX10_closes 30 = .ok (.iconst 1, 1) := by decide +kernel
theorem dX10_closes_31 : decode cX10_closes 31 = .ok (.iadd, 1) := by decide +kernel
theorem dX10_closes_32 : decode cX10_closes 32 = .ok (.putfield 85, 3) := by decide +kernel
theorem dX10_closes_35 : decode cX10_closes 35 = .ok (.goto 12, 3) := by decide +kernel
theorem dX10_closes_38 : decode cX10_closes 38 = .ok (.aload_n 0, 1) := by decide +kernel
theorem dX10_closes_39 : decode cX10_closes 39 = .ok (.iconst 1, 1) := by decide +kernel
theorem dX10_closes_40 : decode cX10_closes 40 = .ok (.aload_n 0, 1) := by decide +kernel
theorem dX10_closes_41 : decode cX10_closes 41 = .ok (.getfield 85, 3) := by decide +kernel
theorem dX10_closes_44 : decode cX10_closes 44 = .ok (.invokevirtual 105, 3) := by decide +kernel
theorem dX10_closes_47 : decode cX10_closes 47 = .ok (.return_, 1) := by decide +kernel
theorem dX10_kindHere_0 : decode cX10_kindHere 0 = .ok (.aload_n 0, 1) := by decide +kernel
theorem dX10_kindHere_1 : decode cX10_kindHere 1 = .ok (.iconst 2, 1) := by decide +kernel
theorem dX10_kindHere_2 : decode cX10_kindHere 2 = .ok (.bipush 12, 2) := by decide +kernel
theorem dX10_kindHere_4 : decode cX10_kindHere 4 = .ok (.bipush 15, 2) := by decide +kernel
theorem dX10_kindHere_6 : decode cX10_kindHere 6 = .ok (.iconst 3, 1) := by decide +kernel
theorem dX10_kindHere_7 : decode cX10_kindHere 7 = .ok (.bipush 11, 2) := by decide +kernel
theorem dX10_kindHere_9 : decode cX10_kindHere 9 = .ok (.iconst 0, 1) := by decide +kernel
theorem dX10_kindHere_10 : decode cX10_kindHere 10 = .ok (.invokestatic 118, 3) := by decide +kernel
theorem dX10_kindHere_13 : decode cX10_kindHere 13 = .ok (.invokevirtual 122, 3) := by decide +kernel
theorem dX10_kindHere_16 : decode cX10_kindHere 16 = .ok (.ifCond .eq 5, 3) := by decide +kernel
theorem dX10_kindHere_19 : decode cX10_kindHere 19 = .ok (.iconst 0, 1) := by decide +kernel
theorem dX10_kindHere_20 : decode cX10_kindHere 20 = .ok (.ireturn, 1) := by decide +kernel
theorem dX10_kindHere_21 : decode cX10_kindHere 21 = .ok (.aload_n 0, 1) := by decide +kernel
theorem dX10_kindHere_22 : decode cX10_kindHere 22 = .ok (.bipush 19, 2) := by decide +kernel
theorem dX10_kindHere_24 : decode cX10_kindHere 24 = .ok (.bipush 12, 2) := by decide +kernel
theorem dX10_kindHere_26 : decode cX10_kindHere 26 = .ok (.bipush 15, 2) := by decide +kernel
theorem dX10_kindHere_28 : decode cX10_kindHere 28 = .ok (.bipush 20, 2) := by decide +kernel
theorem dX10_kindHere_30 : decode cX10_kindHere 30 = .ok (.iconst 0, 1) := by decide +kernel
theorem dX10_kindHere_31 : decode cX10_kindHere 31 = .ok (.iconst 0, 1) := by decide +kernel
theorem dX10_kindHere_32 : decode cX10_kindHere 32 = .ok (.invokestatic 118, 3) := by decide +kernel
theorem dX10_kindHere_35 : decode cX10_kindHere 35 = .ok (.invokevirtual 122, 3) := by decide +kernel
theorem dX10_kindHere_38 : decode cX10_kindHere 38 = .ok (.ifCond .eq 5, 3) := by decide +kernel
theorem dX10_kindHere_41 : decode cX10_kindHere 41 = .ok (.iconst 1, 1) := by decide +kernel
theorem dX10_kindHere_42 : decode cX10_kindHere 42 = .ok (.ireturn, 1) := by decide +kernel
theorem dX10_kindHere_43 : decode cX10_kindHere 43 = .ok (.aload_n 0, 1) := by decide +kernel
theorem dX10_kindHere_44 : decode cX10_kindHere 44 = .ok (.bipush 15, 2) := by decide +kernel
theorem dX10_kindHere_46 : decode cX10_kindHere 46 = .ok (.bipush 18, 2) := by decide +kernel
theorem dX10_kindHere_48 : decode cX10_kindHere 48 = .ok (.iconst 4, 1) := by decide +kernel
theorem dX10_kindHere_49 : decode cX10_kindHere 49 = .ok (.iconst 5, 1) := by decide +kernel
theorem dX10_kindHere_50 : decode cX10_kindHere 50 = .ok (.bipush 18, 2) := by decide +kernel
theorem dX10_kindHere_52 : decode cX10_kindHere 52 = .ok (.iconst 0, 1) := by decide +kernel
theorem dX10_kindHere_53 : decode cX10_kindHere 53 = .ok (.invokestatic 118, 3) := by decide +kernel
theorem dX10_kindHere_56 : decode cX10_kindHere 56 = .ok (.invokevirtual 122, 3) := by decide +kernel
theorem dX10_kindHere_59 : decode cX10_kindHere 59 = .ok (.ifCond .eq 5, 3) := by decide +kernel
theorem dX10_kindHere_62 : decode cX10_kindHere 62 = .ok (.iconst 2, 1) := by decide +kernel
theorem dX10_kindHere_63 : decode cX10_kindHere 63 = .ok (.ireturn, 1) := by decide +kernel
theorem dX10_kindHere_64 : decode cX10_kindHere 64 = .ok (.aload_n 0, 1) := by decide +kernel
theorem dX10_kindHere_65 : decode cX10_kindHere 65 = .ok (.bipush 23, 2) := by decide +kernel
theorem dX10_kindHere_67 : decode cX10_kindHere 67 = .ok (.iconst 1, 1) := by decide +kernel
theorem dX10_kindHere_68 : decode cX10_kindHere 68 = .ok (.bipush 20, 2) := by decide +kernel
theorem dX10_kindHere_70 : decode cX10_kindHere 70 = .ok (.iconst 5, 1) := by decide +kernel
theorem dX10_kindHere_71 : decode cX10_kindHere 71 = .ok (.bipush 18, 2) := by decide +kernel
theorem dX10_kindHere_73 : decode cX10_kindHere 73 = .ok (.iconst 0, 1) := by decide +kernel
theorem dX10_kindHere_74 : decode cX10_kindHere 74 = .ok (.invokestatic 118, 3) := by decide +kernel
theorem dX10_kindHere_77 : decode cX10_kindHere 77 = .ok (.invokevirtual 122, 3) := by decide +kernel
theorem dX10_kindHere_80 : decode cX10_kindHere 80 = .ok (.ifCond .eq 5, 3) := by decide +kernel
theorem dX10_kindHere_83 : decode cX10_kindHere 83 = .ok (.iconst 3, 1) := by decide +kernel
theorem dX10_kindHere_84 : decode cX10_kindHere 84 = .ok (.ireturn, 1) := by decide +kernel
theorem dX10_kindHere_85 : decode cX10_kindHere 85 = .ok (.aload_n 0, 1) := by decide +kernel
theorem dX10_kindHere_86 : decode cX10_kindHere 86 = .ok (.bipush 19, 2) := by decide +kernel
theorem dX10_kindHere_88 : decode cX10_kindHere 88 = .ok (.bipush 12, 2) := by decide +kernel
theorem dX10_kindHere_90 : decode cX10_kindHere 90 = .ok (.iconst 5, 1) := by decide +kernel
theorem dX10_kindHere_91 : decode cX10_kindHere 91 = .ok (.iconst 4, 1) := by decide +kernel
theorem dX10_kindHere_92 : decode cX10_kindHere 92 = .ok (.bipush 7, 2) := by decide +kernel
theorem dX10_kindHere_94 : decode cX10_kindHere 94 = .ok (.iconst 5, 1) := by decide +kernel
theorem dX10_kindHere_95 : decode cX10_kindHere 95 = .ok (.invokestatic 118, 3) := by decide +kernel
theorem dX10_kindHere_98 : decode cX10_kindHere 98 = .ok (.invokevirtual 122, 3) := by decide +kernel
theorem dX10_kindHere_101 : decode cX10_kindHere 101 = .ok (.ifCond .eq 5, 3) := by decide +kernel
theorem dX10_kindHere_104 : decode cX10_kindHere 104 = .ok (.iconst 4, 1) := by decide +kernel
theorem dX10_kindHere_105 : decode cX10_kindHere 105 = .ok (.ireturn, 1) := by decide +kernel
theorem dX10_kindHere_106 : decode cX10_kindHere 106 = .ok (.aload_n 0, 1) := by decide +kernel
theorem dX10_kindHere_107 : decode cX10_kindHere 107 = .ok (.bipush 20, 2) := by decide +kernel
theorem dX10_kindHere_109 : decode cX10_kindHere 109 = .ok (.bipush 8, 2) := by decide +kernel
theorem dX10_kindHere_111 : decode cX10_kindHere 111 = .ok (.iconst 1, 1) := by decide +kernel
theorem dX10_kindHere_112 : decode cX10_kindHere 112 = .ok (.bipush 23, 2) := by decide +kernel
theorem dX10_kindHere_114 : decode cX10_kindHere 114 = .ok (.iconst 0, 1) := by decide +kernel
theorem dX10_kindHere_115 : decode cX10_kindHere 115 = .ok (.iconst 0, 1) := by decide +kernel
theorem dX10_kindHere_116 : decode cX10_kindHere 116 = .ok (.invokestatic 118, 3) := by decide +kernel
theorem dX10_kindHere_119 : decode cX10_kindHere 119 = .ok (.invokevirtual 122, 3) := by decide +kernel
theorem dX10_kindHere_122 : decode cX10_kindHere 122 = .ok (.ifCond .eq 5, 3) := by decide +kernel
theorem dX10_kindHere_125 : decode cX10_kindHere 125 = .ok (.iconst 5, 1) := by decide +kernel
theorem dX10_kindHere_126 : decode cX10_kindHere 126 = .ok (.ireturn, 1) := by decide +kernel
theorem dX10_kindHere_127 : decode cX10_kindHere 127 = .ok (.aload_n 0, 1) := by decide +kernel
theorem dX10_kindHere_128 : decode cX10_kindHere 128 = .ok (.bipush 15, 2) := by decide +kernel
theorem dX10_kindHere_130 : decode cX10_kindHere 130 = .ok (.iconst 4, 1) := by decide +kernel
theorem dX10_kindHere_131 : decode cX10_kindHere 131 = .ok (.iconst 4, 1) := by decide +kernel
theorem dX10_kindHere_132 : decode cX10_kindHere 132 = .ok (.bipush 19, 2) := by decide +kernel
theorem dX10_kindHere_134 : decode cX10_kindHere 134 = .ok (.iconst 0, 1) := by decide +kernel
theorem dX10_kindHere_135 : decode cX10_kindHere 135 = .ok (.iconst 0, 1) := by decide +kernel
theorem dX10_kindHere_136 : decode cX10_kindHere 136 = .ok (.invokestatic 118, 3) := by decide +kernel
theorem dX10_kindHere_139 : decode cX10_kindHere 139 = .ok (.invokevirtual 122, 3) := by decide +kernel
theorem dX10_kindHere_142 : decode cX10_kindHere 142 = .ok (.ifCond .eq 8, 3) := by decide +kernel
theorem dX10_kindHere_145 : decode cX10_kindHere 145 = .ok (.bipush 6, 2) := by decide +kernel
theorem dX10_kindHere_147 : decode cX10_kindHere 147 = .ok (.goto 4, 3) := by decide +kernel
theorem dX10_kindHere_150 : decode cX10_kindHere 150 = .ok (.iconst (-1), 1) := by decide +kernel
theorem dX10_kindHere_151 : decode cX10_kindHere 151 = .ok (.ireturn, 1) := by decide +kernel
theorem dX10_mostOf_0 : decode cX10_mostOf 0 = .ok (.iload_n 0, 1) := by decide +kernel
theorem dX10_mostOf_1 : decode cX10_mostOf 1 = .ok (.ifCond .ne 8, 3) := by decide +kernel
theorem dX10_mostOf_4 : decode cX10_mostOf 4 = .ok (.bipush 6, 2) := by decide +kernel
theorem dX10_mostOf_6 : decode cX10_mostOf 6 = .ok (.goto 37, 3) := by decide +kernel
theorem dX10_mostOf_9 : decode cX10_mostOf 9 = .ok (.iload_n 0, 1) := by decide +kernel
theorem dX10_mostOf_10 : decode cX10_mostOf 10 = .ok (.iconst 1, 1) := by decide +kernel
theorem dX10_mostOf_11 : decode cX10_mostOf 11 = .ok (.if_icmp .ne 8, 3) := by decide +kernel
theorem dX10_mostOf_14 : decode cX10_mostOf 14 = .ok (.bipush 12, 2) := by decide +kernel
theorem dX10_mostOf_16 : decode cX10_mostOf 16 = .ok (.goto 27, 3) := by decide +kernel
theorem dX10_mostOf_19 : decode cX10_mostOf 19 = .ok (.iload_n 0, 1) := by decide +kernel
theorem dX10_mostOf_20 : decode cX10_mostOf 20 = .ok (.iconst 2, 1) := by decide +kernel
theorem dX10_mostOf_21 : decode cX10_mostOf 21 = .ok (.if_icmp .ne 8, 3) := by decide +kernel
theorem dX10_mostOf_24 : decode cX10_mostOf 24 = .ok (.bipush 6, 2) := by decide +kernel
theorem dX10_mostOf_26 : decode cX10_mostOf 26 = .ok (.goto 17, 3) := by decide +kernel
theorem dX10_mostOf_29 : decode cX10_mostOf 29 = .ok (.iload_n 0, 1) := by decide +kernel
theorem dX10_mostOf_30 : decode cX10_mostOf 30 = .ok (.bipush 6, 2) := by decide +kernel
theorem dX10_mostOf_32 : decode cX10_mostOf 32 = .ok (.if_icmp .ne 8, 3) := by decide +kernel
theorem dX10_mostOf_35 : decode cX10_mostOf 35 = .ok (.bipush 24, 2) := by decide +kernel
theorem dX10_mostOf_37 : decode cX10_mostOf 37 = .ok (.goto 6, 3) := by decide +kernel
theorem dX10_mostOf_40 : decode cX10_mostOf 40 = .ok (.sipush 1000, 3) := by decide +kernel
theorem dX10_mostOf_43 : decode cX10_mostOf 43 = .ok (.ireturn, 1) := by decide +kernel
theorem dX10_clause_0 : decode cX10_clause 0 = .ok (.aload_n 0, 1) := by decide +kernel
theorem dX10_clause_1 : decode cX10_clause 1 = .ok (.invokevirtual 125, 3) := by decide +kernel
theorem dX10_clause_4 : decode cX10_clause 4 = .ok (.istore_n 1, 1) := by decide +kernel
theorem dX10_clause_5 : decode cX10_clause 5 = .ok (.iload_n 1, 1) := by decide +kernel
theorem dX10_clause_6 : decode cX10_clause 6 = .ok (.iconst (-1), 1) := by decide +kernel
theorem dX10_clause_7 : decode cX10_clause 7 = .ok (.if_icmp .ne 15, 3) := by decide +kernel
theorem dX10_clause_10 : decode cX10_clause 10 = .ok (.aload_n 0, 1) := by decide +kernel
theorem dX10_clause_11 : decode cX10_clause 11 = .ok (.iconst 1, 1) := by decide +kernel
theorem dX10_clause_12 : decode cX10_clause 12 = .ok (.aload_n 0, 1) := by decide +kernel
theorem dX10_clause_13 : decode cX10_clause 13 = .ok (.getfield 85, 3) := by decide +kernel
theorem dX10_clause_16 : decode cX10_clause 16 = .ok (.invokevirtual 105, 3) := by decide +kernel
theorem dX10_clause_19 : decode cX10_clause 19 = .ok (.goto 45, 3) := by decide +kernel
theorem dX10_clause_22 : decode cX10_clause 22 = .ok (.aload_n 0, 1) := by decide +kernel
theorem dX10_clause_23 : decode cX10_clause 23 = .ok (.getfield 128, 3) := by decide +kernel
theorem dX10_clause_26 : decode cX10_clause 26 = .ok (.bipush 60, 2) := by decide +kernel
theorem dX10_clause_28 : decode cX10_clause 28 = .ok (.if_icmp .eq 27, 3) := by decide +kernel
theorem dX10_clause_31 : decode cX10_clause 31 = .ok (.iload_n 1, 1) := by decide +kernel
theorem dX10_clause_32 : decode cX10_clause 32 = .ok (.iconst 3, 1) := by decide +kernel
theorem dX10_clause_33 : decode cX10_clause 33 = .ok (.if_icmp .lt 9, 3) := by decide +kernel
theorem dX10_clause_36 : decode cX10_clause 36 = .ok (.iload_n 1, 1) := by decide +kernel
theorem dX10_clause_37 : decode cX10_clause 37 = .ok (.bipush 6, 2) := by decide +kernel
theorem dX10_clause_39 : decode cX10_clause 39 = .ok (.if_icmp .ne 25, 3) := by decide +kernel
theorem dX10_clause_42 : decode cX10_clause 42 = .ok (.aload_n 0, 1) := by decide +kernel
theorem dX10_clause_43 : decode cX10_clause 43 = .ok (.getfield 17, 3) := by decide +kernel
theorem dX10_clause_46 : decode cX10_clause 46 = .ok (.iload_n 1, 1) := by decide +kernel
theorem dX10_clause_47 : decode cX10_clause 47 = .ok (.iaload, 1) := by decide +kernel
theorem dX10_clause_48 : decode cX10_clause 48 = .ok (.iload_n 1, 1) := by decide +kernel
theorem dX10_clause_49 : decode cX10_clause 49 = .ok (.invokestatic 131, 3) := by decide +kernel
theorem dX10_clause_52 : decode cX10_clause 52 = .ok (.if_icmp .ne 12, 3) := by decide +kernel
theorem dX10_clause_55 : decode cX10_clause 55 = .ok (.aload_n 0, 1) := by decide +kernel
theorem dX10_clause_56 : decode cX10_clause 56 = .ok (.iconst 3, 1) := by decide +kernel
theorem dX10_clause_57 : decode cX10_clause 57 = .ok (.aload_n 0, 1) := by decide +kernel
theorem dX10_clause_58 : decode cX10_clause 58 = .ok (.getfield 85, 3) := by decide +kernel
theorem dX10_clause_61 : decode cX10_clause 61 = .ok (.invokevirtual 105, 3) := by decide +kernel
theorem dX10_clause_64 : decode cX10_clause 64 = .ok (.aload_n 0, 1) := by decide +kernel
theorem dX10_clause_65 : decode cX10_clause 65 = .ok (.getfield 92, 3) := by decide +kernel
theorem dX10_clause_68 : decode cX10_clause 68 = .ok (.ifCond .eq 4, 3) := by decide +kernel
theorem dX10_clause_71 : decode cX10_clause 71 = .ok (.return_, 1) := by decide +kernel
theorem dX10_clause_72 : decode cX10_clause 72 = .ok (.aload_n 0, 1) := by decide +kernel
theorem dX10_clause_73 : decode cX10_clause 73 = .ok (.aload_n 0, 1) := by decide +kernel
theorem dX10_clause_74 : decode cX10_clause 74 = .ok (.getfield 85, 3) := by decide +kernel
theorem dX10_clause_77 : decode cX10_clause 77 = .ok (.invokevirtual 88, 3) := by decide +kernel
theorem dX10_clause_80 : decode cX10_clause 80 = .ok (.bipush 97, 2) := by decide +kernel
theorem dX10_clause_82 : decode cX10_clause 82 = .ok (.if_icmp .lt 29, 3) := by decide +kernel
theorem dX10_clause_85 : decode cX10_clause 85 = .ok (.aload_n 0, 1) := by decide +kernel
theorem dX10_clause_86 : decode cX10_clause 86 = .ok (.aload_n 0, 1) := by decide +kernel
theorem dX10_clause_87 : decode cX10_clause 87 = .ok (.getfield 85, 3) := by decide +kernel
theorem dX10_clause_90 : decode cX10_clause 90 = .ok (.invokevirtual 88, 3) := by decide +kernel
theorem dX10_clause_93 : decode cX10_clause 93 = .ok (.bipush 122, 2) := by decide +kernel
theorem dX10_clause_95 : decode cX10_clause 95 = .ok (.if_icmp .gt 16, 3) := by decide +kernel
theorem dX10_clause_98 : decode cX10_clause 98 = .ok (.aload_n 0, 1) := by decide +kernel
theorem dX10_clause_99 : decode cX10_clause 99 = .ok (.dup, 1) := by decide +kernel
theorem dX10_clause_100 : decode cX10_clause 100 = .ok (.getfield 85, 3) := by decide +kernel
theorem dX10_clause_103 : decode cX10_clause 103 = .ok (.iconst 1, 1) := by decide +kernel
theorem dX10_clause_104 : decode cX10_clause 104 = .ok (.iadd, 1) := by decide +kernel
theorem dX10_clause_105 : decode cX10_clause 105 = .ok (.putfield 85, 3) := by decide +kernel
theorem dX10_clause_108 : decode cX10_clause 108 = .ok (.goto (-36), 3) := by decide +kernel
theorem dX10_clause_111 : decode cX10_clause 111 = .ok (.aload_n 0, 1) := by decide +kernel
theorem dX10_clause_112 : decode cX10_clause 112 = .ok (.dup, 1) := by decide +kernel
theorem dX10_clause_113 : decode cX10_clause 113 = .ok (.getfield 128, 3) := by decide +kernel
theorem dX10_clause_116 : decode cX10_clause 116 = .ok (.iconst 1, 1) := by decide +kernel
theorem dX10_clause_117 : decode cX10_clause 117 = .ok (.iadd, 1) := by decide +kernel
theorem dX10_clause_118 : decode cX10_clause 118 = .ok (.putfield 128, 3) := by decide +kernel
theorem dX10_clause_121 : decode cX10_clause 121 = .ok (.iload_n 1, 1) := by decide +kernel
theorem dX10_clause_122 : decode cX10_clause 122 = .ok (.tableswitch 213 0 5 #[38, 82, 100, 165, 181, 197], 38) := by decide +kernel
theorem dX10_clause_160 : decode cX10_clause 160 = .ok (.aload_n 0, 1) := by decide +kernel
theorem dX10_clause_161 : decode cX10_clause 161 = .ok (.getfield 25, 3) := by decide +kernel
theorem dX10_clause_164 : decode cX10_clause 164 = .ok (.aload_n 0, 1) := by decide +kernel
theorem dX10_clause_165 : decode cX10_clause 165 = .ok (.getfield 17, 3) := by decide +kernel
theorem dX10_clause_168 : decode cX10_clause 168 = .ok (.iconst 0, 1) := by decide +kernel
theorem dX10_clause_169 : decode cX10_clause 169 = .ok (.iaload, 1) := by decide +kernel
theorem dX10_clause_170 : decode cX10_clause 170 = .ok (.aaload, 1) := by decide +kernel
theorem dX10_clause_171 : decode cX10_clause 171 = .ok (.astore_n 2, 1) := by decide +kernel
theorem dX10_clause_172 : decode cX10_clause 172 = .ok (.aload_n 2, 1) := by decide +kernel
theorem dX10_clause_173 : decode cX10_clause 173 = .ok (.iconst 0, 1) := by decide +kernel
theorem dX10_clause_174 : decode cX10_clause 174 = .ok (.aload_n 0, 1) := by decide +kernel
theorem dX10_clause_175 : decode cX10_clause 175 = .ok (.iconst 2, 1) := by decide +kernel
theorem dX10_clause_176 : decode cX10_clause 176 = .ok (.bipush 12, 2) := by decide +kernel
theorem dX10_clause_178 : decode cX10_clause 178 = .ok (.invokevirtual 134, 3) := by decide +kernel
theorem dX10_clause_181 : decode cX10_clause 181 = .ok (.iastore, 1) := by decide +kernel
theorem dX10_clause_182 : decode cX10_clause 182 = .ok (.aload_n 2, 1) := by decide +kernel
theorem dX10_clause_183 : decode cX10_clause 183 = .ok (.iconst 1, 1) := by decide +kernel
theorem dX10_clause_184 : decode cX10_clause 184 = .ok (.aload_n 0, 1) := by decide +kernel
theorem dX10_clause_185 : decode cX10_clause 185 = .ok (.iconst 2, 1) := by decide +kernel
theorem dX10_clause_186 : decode cX10_clause 186 = .ok (.bipush 12, 2) := by decide +kernel
theorem dX10_clause_188 : decode cX10_clause 188 = .ok (.invokevirtual 134, 3) := by decide +kernel
theorem dX10_clause_191 : decode cX10_clause 191 = .ok (.iastore, 1) := by decide +kernel
theorem dX10_clause_192 : decode cX10_clause 192 = .ok (.aload_n 2, 1) := by decide +kernel
theorem dX10_clause_193 : decode cX10_clause 193 = .ok (.iconst 2, 1) := by decide +kernel
theorem dX10_clause_194 : decode cX10_clause 194 = .ok (.aload_n 0, 1) := by decide +kernel
theorem dX10_clause_195 : decode cX10_clause 195 = .ok (.iconst 0, 1) := by decide +kernel
theorem dX10_clause_196 : decode cX10_clause 196 = .ok (.iconst 1, 1) := by decide +kernel
theorem dX10_clause_197 : decode cX10_clause 197 = .ok (.invokevirtual 134, 3) := by decide +kernel
theorem dX10_clause_200 : decode cX10_clause 200 = .ok (.iastore, 1) := by decide +kernel
theorem dX10_clause_201 : decode cX10_clause 201 = .ok (.goto 150, 3) := by decide +kernel
theorem dX10_clause_204 : decode cX10_clause 204 = .ok (.aload_n 0, 1) := by decide +kernel
theorem dX10_clause_205 : decode cX10_clause 205 = .ok (.aload_n 0, 1) := by decide +kernel
theorem dX10_clause_206 : decode cX10_clause 206 = .ok (.getfield 31, 3) := by decide +kernel
theorem dX10_clause_209 : decode cX10_clause 209 = .ok (.aload_n 0, 1) := by decide +kernel
theorem dX10_clause_210 : decode cX10_clause 210 = .ok (.getfield 17, 3) := by decide +kernel
theorem dX10_clause_213 : decode cX10_clause 213 = .ok (.iconst 1, 1) := by decide +kernel
theorem dX10_clause_214 : decode cX10_clause 214 = .ok (.iaload, 1) := by decide +kernel
theorem dX10_clause_215 : decode cX10_clause 215 = .ok (.aaload, 1) := by decide +kernel
theorem dX10_clause_216 : decode cX10_clause 216 = .ok (.invokevirtual 138, 3) := by decide +kernel
theorem dX10_clause_219 : decode cX10_clause 219 = .ok (.goto 132, 3) := by decide +kernel
theorem dX10_clause_222 : decode cX10_clause 222 = .ok (.aload_n 0, 1) := by decide +kernel
theorem dX10_clause_223 : decode cX10_clause 223 = .ok (.getfield 37, 3) := by decide +kernel
theorem dX10_clause_226 : decode cX10_clause 226 = .ok (.aload_n 0, 1) := by decide +kernel
theorem dX10_clause_227 : decode cX10_clause 227 = .ok (.getfield 17, 3) := by decide +kernel
theorem dX10_clause_230 : decode cX10_clause 230 = .ok (.iconst 2, 1) := by decide +kernel
theorem dX10_clause_231 : decode cX10_clause 231 = .ok (.iaload, 1) := by decide +kernel
theorem dX10_clause_232 : decode cX10_clause 232 = .ok (.aaload, 1) := by decide +kernel
theorem dX10_clause_233 : decode cX10_clause 233 = .ok (.astore_n 2, 1) := by decide +kernel
theorem dX10_clause_234 : decode cX10_clause 234 = .ok (.aload_n 2, 1) := by decide +kernel
theorem dX10_clause_235 : decode cX10_clause 235 = .ok (.iconst 0, 1) := by decide +kernel
theorem dX10_clause_236 : decode cX10_clause 236 = .ok (.aload_n 0, 1) := by decide +kernel
theorem dX10_clause_237 : decode cX10_clause 237 = .ok (.iconst 1, 1) := by decide +kernel
theorem dX10_clause_238 : decode cX10_clause 238 = .ok (.bipush 12, 2) := by decide +kernel
theorem dX10_clause_240 : decode cX10_clause 240 = .ok (.invokevirtual 134, 3) := by decide +kernel
theorem dX10_clause_243 : decode cX10_clause 243 = .ok (.iastore, 1) := by decide +kernel
theorem dX10_clause_244 : decode cX10_clause 244 = .ok (.aload_n 2, 1) := by decide +kernel
theorem dX10_clause_245 : decode cX10_clause 245 = .ok (.iconst 1, 1) := by decide +kernel
theorem dX10_clause_246 : decode cX10_clause 246 = .ok (.aload_n 0, 1) := by decide +kernel
theorem dX10_clause_247 : decode cX10_clause 247 = .ok (.iconst 1, 1) := by decide +kernel
theorem dX10_clause_248 : decode cX10_clause 248 = .ok (.bipush 12, 2) := by decide +kernel
theorem dX10_clause_250 : decode cX10_clause 250 = .ok (.invokevirtual 134, 3) := by decide +kernel
theorem dX10_clause_253 : decode cX10_clause 253 = .ok (.iastore, 1) := by decide +kernel
theorem dX10_clause_254 : decode cX10_clause 254 = .ok (.aload_n 2, 1) := by decide +kernel
theorem dX10_clause_255 : decode cX10_clause 255 = .ok (.iconst 2, 1) := by decide +kernel
theorem dX10_clause_256 : decode cX10_clause 256 = .ok (.aload_n 0, 1) := by decide +kernel
theorem dX10_clause_257 : decode cX10_clause 257 = .ok (.iconst 1, 1) := by decide +kernel
theorem dX10_clause_258 : decode cX10_clause 258 = .ok (.bipush 9, 2) := by decide +kernel
theorem dX10_clause_260 : decode cX10_clause 260 = .ok (.invokevirtual 134, 3) := by decide +kernel
theorem dX10_clause_263 : decode cX10_clause 263 = .ok (.iastore, 1) := by decide +kernel
theorem dX10_clause_264 : decode cX10_clause 264 = .ok (.aload_n 2, 1) := by decide +kernel
theorem dX10_clause_265 : decode cX10_clause 265 = .ok (.iconst 3, 1) := by decide +kernel
theorem dX10_clause_266 : decode cX10_clause 266 = .ok (.aload_n 0, 1) := by decide +kernel
theorem dX10_clause_267 : decode cX10_clause 267 = .ok (.iconst 0, 1) := by decide +kernel
theorem dX10_clause_268 : decode cX10_clause 268 = .ok (.bipush 29, 2) := by decide +kernel
theorem dX10_clause_270 : decode cX10_clause 270 = .ok (.invokevirtual 134, 3) := by decide +kernel
theorem dX10_clause_273 : decode cX10_clause 273 = .ok (.iastore, 1) := by decide +kernel
theorem dX10_clause_274 : decode cX10_clause 274 = .ok (.aload_n 2, 1) := by decide +kernel
theorem dX10_clause_275 : decode cX10_clause 275 = .ok (.iconst 4, 1) := by decide +kernel
theorem dX10_clause_276 : decode cX10_clause 276 = .ok (.aload_n 0, 1) := by decide +kernel
theorem dX10_clause_277 : decode cX10_clause 277 = .ok (.iconst 1, 1) := by decide +kernel
theorem dX10_clause_278 : decode cX10_clause 278 = .ok (.bipush 99, 2) := by decide +kernel
theorem dX10_clause_280 : decode cX10_clause 280 = .ok (.invokevirtual 134, 3) := by decide +kernel
theorem dX10_clause_283 : decode cX10_clause 283 = .ok (.iastore, 1) := by decide +kernel
theorem dX10_clause_284 : decode cX10_clause 284 = .ok (.goto 67, 3) := by decide +kernel
theorem dX10_clause_287 : decode cX10_clause 287 = .ok (.aload_n 0, 1) := by decide +kernel
theorem dX10_clause_288 : decode cX10_clause 288 = .ok (.getfield 17, 3) := by decide +kernel
theorem dX10_clause_291 : decode cX10_clause 291 = .ok (.iconst 3, 1) := by decide +kernel
theorem dX10_clause_292 : decode cX10_clause 292 = .ok (.aload_n 0, 1) := by decide +kernel
theorem dX10_clause_293 : decode cX10_clause 293 = .ok (.iconst 0, 1) := by decide +kernel
theorem dX10_clause_294 : decode cX10_clause 294 = .ok (.bipush 12, 2) := by decide +kernel
theorem dX10_clause_296 : decode cX10_clause 296 = .ok (.invokevirtual 134, 3) := by decide +kernel
theorem dX10_clause_299 : decode cX10_clause 299 = .ok (.iastore, 1) := by decide +kernel
theorem dX10_clause_300 : decode cX10_clause 300 = .ok (.goto 51, 3) := by decide +kernel
theorem dX10_clause_303 : decode cX10_clause 303 = .ok (.aload_n 0, 1) := by decide +kernel
theorem dX10_clause_304 : decode cX10_clause 304 = .ok (.getfield 17, 3) := by decide +kernel
theorem dX10_clause_307 : decode cX10_clause 307 = .ok (.iconst 4, 1) := by decide +kernel
theorem dX10_clause_308 : decode cX10_clause 308 = .ok (.aload_n 0, 1) := by decide +kernel
theorem dX10_clause_309 : decode cX10_clause 309 = .ok (.iconst 0, 1) := by decide +kernel
theorem dX10_clause_310 : decode cX10_clause 310 = .ok (.bipush 9, 2) := by decide +kernel
theorem dX10_clause_312 : decode cX10_clause 312 = .ok (.invokevirtual 134, 3) := by decide +kernel
theorem dX10_clause_315 : decode cX10_clause 315 = .ok (.iastore, 1) := by decide +kernel
theorem dX10_clause_316 : decode cX10_clause 316 = .ok (.goto 35, 3) := by decide +kernel
theorem dX10_clause_319 : decode cX10_clause 319 = .ok (.aload_n 0, 1) := by decide +kernel
theorem dX10_clause_320 : decode cX10_clause 320 = .ok (.getfield 17, 3) := by decide +kernel
theorem dX10_clause_323 : decode cX10_clause 323 = .ok (.iconst 5, 1) := by decide +kernel
theorem dX10_clause_324 : decode cX10_clause 324 = .ok (.aload_n 0, 1) := by decide +kernel
theorem dX10_clause_325 : decode cX10_clause 325 = .ok (.iconst 0, 1) := by decide +kernel
theorem dX10_clause_326 : decode cX10_clause 326 = .ok (.bipush 30, 2) := by decide +kernel
theorem dX10_clause_328 : decode cX10_clause 328 = .ok (.invokevirtual 134, 3) := by decide +kernel
theorem dX10_clause_331 : decode cX10_clause 331 = .ok (.iastore, 1) := by decide +kernel
theorem dX10_clause_332 : decode cX10_clause 332 = .ok (.goto 19, 3) := by decide +kernel
theorem dX10_clause_335 : decode cX10_clause 335 = .ok (.aload_n 0, 1) := by decide +kernel
theorem dX10_clause_336 : decode cX10_clause 336 = .ok (.aload_n 0, 1) := by decide +kernel
theorem dX10_clause_337 : decode cX10_clause 337 = .ok (.getfield 43, 3) := by decide +kernel
theorem dX10_clause_340 : decode cX10_clause 340 = .ok (.aload_n 0, 1) := by decide +kernel
theorem dX10_clause_341 : decode cX10_clause 341 = .ok (.getfield 17, 3) := by decide +kernel
theorem dX10_clause_344 : decode cX10_clause 344 = .ok (.bipush 6, 2) := by decide +kernel
theorem dX10_clause_346 : decode cX10_clause 346 = .ok (.iaload, 1) := by decide +kernel
theorem dX10_clause_347 : decode cX10_clause 347 = .ok (.aaload, 1) := by decide +kernel
theorem dX10_clause_348 : decode cX10_clause 348 = .ok (.invokevirtual 142, 3) := by decide +kernel
theorem dX10_clause_351 : decode cX10_clause 351 = .ok (.iload_n 1, 1) := by decide +kernel
theorem dX10_clause_352 : decode cX10_clause 352 = .ok (.iconst 3, 1) := by decide +kernel
theorem dX10_clause_353 : decode cX10_clause 353 = .ok (.if_icmp .lt 9, 3) := by decide +kernel
theorem dX10_clause_356 : decode cX10_clause 356 = .ok (.iload_n 1, 1) := by decide +kernel
theorem dX10_clause_357 : decode cX10_clause 357 = .ok (.bipush 6, 2) := by decide +kernel
theorem dX10_clause_359 : decode cX10_clause 359 = .ok (.if_icmp .ne 13, 3) := by decide +kernel
theorem dX10_clause_362 : decode cX10_clause 362 = .ok (.aload_n 0, 1) := by decide +kernel
theorem dX10_clause_363 : decode cX10_clause 363 = .ok (.getfield 17, 3) := by decide +kernel
theorem dX10_clause_366 : decode cX10_clause 366 = .ok (.iload_n 1, 1) := by decide +kernel
theorem dX10_clause_367 : decode cX10_clause 367 = .ok (.dup2, 1) := by decide +kernel
theorem dX10_clause_368 : decode cX10_clause 368 = .ok (.iaload, 1) := by decide +kernel
theorem dX10_clause_369 : decode cX10_clause 369 = .ok (.iconst 1, 1) := by decide +kernel
theorem dX10_clause_370 : decode cX10_clause 370 = .ok (.iadd, 1) := by decide +kernel
theorem dX10_clause_371 : decode cX10_clause 371 = .ok (.iastore, 1) := by decide +kernel
theorem dX10_clause_372 : decode cX10_clause 372 = .ok (.aload_n 0, 1) := by decide +kernel
theorem dX10_clause_373 : decode cX10_clause 373 = .ok (.invokevirtual 145, 3) := by decide +kernel
theorem dX10_clause_376 : decode cX10_clause 376 = .ok (.return_, 1) := by decide +kernel
theorem dX10_readsSlot_0 : decode cX10_readsSlot 0 = .ok (.aload_n 1, 1) := by decide +kernel
theorem dX10_readsSlot_1 : decode cX10_readsSlot 1 = .ok (.iconst 0, 1) := by decide +kernel
theorem dX10_readsSlot_2 : decode cX10_readsSlot 2 = .ok (.aload_n 0, 1) := by decide +kernel
theorem dX10_readsSlot_3 : decode cX10_readsSlot 3 = .ok (.iconst 0, 1) := by decide +kernel
theorem dX10_readsSlot_4 : decode cX10_readsSlot 4 = .ok (.aload_n 0, 1) := by decide +kernel
theorem dX10_readsSlot_5 : decode cX10_readsSlot 5 = .ok (.getfield 17, 3) := by decide +kernel
theorem dX10_readsSlot_8 : decode cX10_readsSlot 8 = .ok (.iconst 0, 1) := by decide +kernel
theorem dX10_readsSlot_9 : decode cX10_readsSlot 9 = .ok (.iaload, 1) := by decide +kernel
theorem dX10_readsSlot_10 : decode cX10_readsSlot 10 = .ok (.iconst 1, 1) := by decide +kernel
theorem dX10_readsSlot_11 : decode cX10_readsSlot 11 = .ok (.isub, 1) := by decide +kernel
theorem dX10_readsSlot_12 : decode cX10_readsSlot 12 = .ok (.invokevirtual 134, 3) := by decide +kernel
theorem dX10_readsSlot_15 : decode cX10_readsSlot 15 = .ok (.iastore, 1) := by decide +kernel
theorem dX10_readsSlot_16 : decode cX10_readsSlot 16 = .ok (.aload_n 1, 1) := by decide +kernel
theorem dX10_readsSlot_17 : decode cX10_readsSlot 17 = .ok (.iconst 1, 1) := by decide +kernel
theorem dX10_readsSlot_18 : decode cX10_readsSlot 18 = .ok (.aload_n 0, 1) := by decide +kernel
theorem dX10_readsSlot_19 : decode cX10_readsSlot 19 = .ok (.iconst 0, 1) := by decide +kernel
theorem dX10_readsSlot_20 : decode cX10_readsSlot 20 = .ok (.iconst 1, 1) := by decide +kernel
theorem dX10_readsSlot_21 : decode cX10_readsSlot 21 = .ok (.invokevirtual 134, 3) := by decide +kernel
theorem dX10_readsSlot_24 : decode cX10_readsSlot 24 = .ok (.iastore, 1) := by decide +kernel
theorem dX10_readsSlot_25 : decode cX10_readsSlot 25 = .ok (.aload_n 0, 1) := by decide +kernel
theorem dX10_readsSlot_26 : decode cX10_readsSlot 26 = .ok (.getfield 25, 3) := by decide +kernel
theorem dX10_readsSlot_29 : decode cX10_readsSlot 29 = .ok (.aload_n 1, 1) := by decide +kernel
theorem dX10_readsSlot_30 : decode cX10_readsSlot 30 = .ok (.iconst 0, 1) := by decide +kernel
theorem dX10_readsSlot_31 : decode cX10_readsSlot 31 = .ok (.iaload, 1) := by decide +kernel
theorem dX10_readsSlot_32 : decode cX10_readsSlot 32 = .ok (.aaload, 1) := by decide +kernel
theorem dX10_readsSlot_33 : decode cX10_readsSlot 33 = .ok (.astore_n 2, 1) := by decide +kernel
theorem dX10_readsSlot_34 : decode cX10_readsSlot 34 = .ok (.aload_n 1, 1) := by decide +kernel
theorem dX10_readsSlot_35 : decode cX10_readsSlot 35 = .ok (.iconst 2, 1) := by decide +kernel
theorem dX10_readsSlot_36 : decode cX10_readsSlot 36 = .ok (.aload_n 0, 1) := by decide +kernel
theorem dX10_readsSlot_37 : decode cX10_readsSlot 37 = .ok (.iconst 1, 1) := by decide +kernel
theorem dX10_readsSlot_38 : decode cX10_readsSlot 38 = .ok (.aload_n 2, 1) := by decide +kernel
theorem dX10_readsSlot_39 : decode cX10_readsSlot 39 = .ok (.aload_n 1, 1) := by decide +kernel
theorem dX10_readsSlot_40 : decode cX10_readsSlot 40 = .ok (.iconst 1, 1) := by decide +kernel
theorem dX10_readsSlot_41 : decode cX10_readsSlot 41 = .ok (.iaload, 1) := by decide +kernel
theorem dX10_readsSlot_42 : decode cX10_readsSlot 42 = .ok (.iaload, 1) := by decide +kernel
theorem dX10_readsSlot_43 : decode cX10_readsSlot 43 = .ok (.iconst 1, 1) := by decide +kernel
theorem dX10_readsSlot_44 : decode cX10_readsSlot 44 = .ok (.isub, 1) := by decide +kernel
theorem dX10_readsSlot_45 : decode cX10_readsSlot 45 = .ok (.invokevirtual 134, 3) := by decide +kernel
theorem dX10_readsSlot_48 : decode cX10_readsSlot 48 = .ok (.iastore, 1) := by decide +kernel
theorem dX10_readsSlot_49 : decode cX10_readsSlot 49 = .ok (.aload_n 1, 1) := by decide +kernel
theorem dX10_readsSlot_50 : decode cX10_readsSlot 50 = .ok (.iconst 3, 1) := by decide +kernel
theorem dX10_readsSlot_51 : decode cX10_readsSlot 51 = .ok (.aload_n 0, 1) := by decide +kernel
theorem dX10_readsSlot_52 : decode cX10_readsSlot 52 = .ok (.iconst 0, 1) := by decide +kernel
theorem dX10_readsSlot_53 : decode cX10_readsSlot 53 = .ok (.aload_n 2, 1) := by decide +kernel
theorem dX10_readsSlot_54 : decode cX10_readsSlot 54 = .ok (.iconst 1, 1) := by decide +kernel
theorem dX10_readsSlot_55 : decode cX10_readsSlot 55 = .ok (.aload_n 1, 1) := by decide +kernel
theorem dX10_readsSlot_56 : decode cX10_readsSlot 56 = .ok (.iconst 1, 1) := by decide +kernel
theorem dX10_readsSlot_57 : decode cX10_readsSlot 57 = .ok (.iaload, 1) := by decide +kernel
theorem dX10_readsSlot_58 : decode cX10_readsSlot 58 = .ok (.isub, 1) := by decide +kernel
theorem dX10_readsSlot_59 : decode cX10_readsSlot 59 = .ok (.iaload, 1) := by decide +kernel
theorem dX10_readsSlot_60 : decode cX10_readsSlot 60 = .ok (.iconst 1, 1) := by decide +kernel
theorem dX10_readsSlot_61 : decode cX10_readsSlot 61 = .ok (.isub, 1) := by decide +kernel
theorem dX10_readsSlot_62 : decode cX10_readsSlot 62 = .ok (.invokevirtual 134, 3) := by decide +kernel
theorem dX10_readsSlot_65 : decode cX10_readsSlot 65 = .ok (.iastore, 1) := by decide +kernel
theorem dX10_readsSlot_66 : decode cX10_readsSlot 66 = .ok (.aload_n 1, 1) := by decide +kernel
theorem dX10_readsSlot_67 : decode cX10_readsSlot 67 = .ok (.iconst 4, 1) := by decide +kernel
theorem dX10_readsSlot_68 : decode cX10_readsSlot 68 = .ok (.aload_n 0, 1) := by decide +kernel
theorem dX10_readsSlot_69 : decode cX10_readsSlot 69 = .ok (.iconst 1, 1) := by decide +kernel
theorem dX10_readsSlot_70 : decode cX10_readsSlot 70 = .ok (.bipush 9, 2) := by decide +kernel
theorem dX10_readsSlot_72 : decode cX10_readsSlot 72 = .ok (.invokevirtual 134, 3) := by decide +kernel
theorem dX10_readsSlot_75 : decode cX10_readsSlot 75 = .ok (.iastore, 1) := by decide +kernel
theorem dX10_readsSlot_76 : decode cX10_readsSlot 76 = .ok (.return_, 1) := by decide +kernel
theorem dX10_readsOdds_0 : decode cX10_readsOdds 0 = .ok (.aload_n 1, 1) := by decide +kernel
theorem dX10_readsOdds_1 : decode cX10_readsOdds 1 = .ok (.iconst 0, 1) := by decide +kernel
theorem dX10_readsOdds_2 : decode cX10_readsOdds 2 = .ok (.aload_n 0, 1) := by decide +kernel
theorem dX10_readsOdds_3 : decode cX10_readsOdds 3 = .ok (.iconst 0, 1) := by decide +kernel
theorem dX10_readsOdds_4 : decode cX10_readsOdds 4 = .ok (.bipush 29, 2) := by decide +kernel
theorem dX10_readsOdds_6 : decode cX10_readsOdds 6 = .ok (.invokevirtual 134, 3) := by decide +kernel
theorem dX10_readsOdds_9 : decode cX10_readsOdds 9 = .ok (.iastore, 1) := by decide +kernel
theorem dX10_readsOdds_10 : decode cX10_readsOdds 10 = .ok (.aload_n 1, 1) := by decide +kernel
theorem dX10_readsOdds_11 : decode cX10_readsOdds 11 = .ok (.iconst 1, 1) := by decide +kernel
theorem dX10_readsOdds_12 : decode cX10_readsOdds 12 = .ok (.aload_n 0, 1) := by decide +kernel
theorem dX10_readsOdds_13 : decode cX10_readsOdds 13 = .ok (.iconst 1, 1) := by decide +kernel
theorem dX10_readsOdds_14 : decode cX10_readsOdds 14 = .ok (.bipush 9, 2) := by decide +kernel
theorem dX10_readsOdds_16 : decode cX10_readsOdds 16 = .ok (.invokevirtual 134, 3) := by decide +kernel
theorem dX10_readsOdds_19 : decode cX10_readsOdds 19 = .ok (.iastore, 1) := by decide +kernel
theorem dX10_readsOdds_20 : decode cX10_readsOdds 20 = .ok (.iconst 0, 1) := by decide +kernel
theorem dX10_readsOdds_21 : decode cX10_readsOdds 21 = .ok (.istore_n 2, 1) := by decide +kernel
theorem dX10_readsOdds_22 : decode cX10_readsOdds 22 = .ok (.iconst 0, 1) := by decide +kernel
theorem dX10_readsOdds_23 : decode cX10_readsOdds 23 = .ok (.istore_n 3, 1) := by decide +kernel
theorem dX10_readsOdds_24 : decode cX10_readsOdds 24 = .ok (.iload_n 3, 1) := by decide +kernel
theorem dX10_readsOdds_25 : decode cX10_readsOdds 25 = .ok (.aload_n 0, 1) := by decide +kernel
theorem dX10_readsOdds_26 : decode cX10_readsOdds 26 = .ok (.getfield 17, 3) := by decide +kernel
theorem dX10_readsOdds_29 : decode cX10_readsOdds 29 = .ok (.bipush 6, 2) := by decide +kernel
theorem dX10_readsOdds_31 : decode cX10_readsOdds 31 = .ok (.iaload, 1) := by decide +kernel
theorem dX10_readsOdds_32 : decode cX10_readsOdds 32 = .ok (.if_icmp .ge 38, 3) := by decide +kernel
theorem dX10_readsOdds_35 : decode cX10_readsOdds 35 = .ok (.iload_n 2, 1) := by decide +kernel
theorem dX10_readsOdds_36 : decode cX10_readsOdds 36 = .ok (.aload_n 0, 1) := by decide +kernel
theorem dX10_readsOdds_37 : decode cX10_readsOdds 37 = .ok (.getfield 43, 3) := by decide +kernel
theorem dX10_readsOdds_40 : decode cX10_readsOdds 40 = .ok (.iload_n 3, 1) := by decide +kernel
theorem dX10_readsOdds_41 : decode cX10_readsOdds 41 = .ok (.aaload, 1) := by decide +kernel
theorem dX10_readsOdds_42 : decode cX10_readsOdds 42 = .ok (.iconst 0, 1) := by decide +kernel
theorem dX10_readsOdds_43 : decode cX10_readsOdds 43 = .ok (.iaload, 1) := by decide +kernel
theorem dX10_readsOdds_44 : decode cX10_readsOdds 44 = .ok (.aload_n 1, 1) := by decide +kernel
theorem dX10_readsOdds_45 : decode cX10_readsOdds 45 = .ok (.iconst 0, 1) := by decide +kernel
theorem dX10_readsOdds_46 : decode cX10_readsOdds 46 = .ok (.iaload, 1) := by decide +kernel
theorem dX10_readsOdds_47 : decode cX10_readsOdds 47 = .ok (.if_icmp .ne 14, 3) := by decide +kernel
theorem dX10_readsOdds_50 : decode cX10_readsOdds 50 = .ok (.aload_n 0, 1) := by decide +kernel
theorem dX10_readsOdds_51 : decode cX10_readsOdds 51 = .ok (.getfield 43, 3) := by decide +kernel
theorem dX10_readsOdds_54 : decode cX10_readsOdds 54 = .ok (.iload_n 3, 1) := by decide +kernel
theorem dX10_readsOdds_55 : decode cX10_readsOdds 55 = .ok (.aaload, 1) := by decide +kernel
theorem dX10_readsOdds_56 : decode cX10_readsOdds 56 = .ok (.iconst 2, 1) := by decide +kernel
theorem dX10_readsOdds_57 : decode cX10_readsOdds 57 = .ok (.iaload, 1) := by decide +kernel
theorem dX10_readsOdds_58 : decode cX10_readsOdds 58 = .ok (.goto 4, 3) := by decide +kernel
theorem dX10_readsOdds_61 : decode cX10_readsOdds 61 = .ok (.iconst 0, 1) := by decide +kernel
theorem dX10_readsOdds_62 : decode cX10_readsOdds 62 = .ok (.iadd, 1) := by decide +kernel
theorem dX10_readsOdds_63 : decode cX10_readsOdds 63 = .ok (.istore_n 2, 1) := by decide +kernel
theorem dX10_readsOdds_64 : decode cX10_readsOdds 64 = .ok (.iinc 3 1, 3) := by decide +kernel
theorem dX10_readsOdds_67 : decode cX10_readsOdds 67 = .ok (.goto (-43), 3) := by decide +kernel
theorem dX10_readsOdds_70 : decode cX10_readsOdds 70 = .ok (.aload_n 0, 1) := by decide +kernel
theorem dX10_readsOdds_71 : decode cX10_readsOdds 71 = .ok (.invokevirtual 98, 3) := by decide +kernel
theorem dX10_readsOdds_74 : decode cX10_readsOdds 74 = .ok (.aload_n 0, 1) := by decide +kernel
theorem dX10_readsOdds_75 : decode cX10_readsOdds 75 = .ok (.getfield 85, 3) := by decide +kernel
theorem dX10_readsOdds_78 : decode cX10_readsOdds 78 = .ok (.istore_n 3, 1) := by decide +kernel
theorem dX10_readsOdds_79 : decode cX10_readsOdds 79 = .ok (.aload_n 1, 1) := by decide +kernel
theorem dX10_readsOdds_80 : decode cX10_readsOdds 80 = .ok (.iconst 2, 1) := by decide +kernel
theorem dX10_readsOdds_81 : decode cX10_readsOdds 81 = .ok (.aload_n 0, 1) := by decide +kernel
theorem dX10_readsOdds_82 : decode cX10_readsOdds 82 = .ok (.iconst 1, 1) := by decide +kernel
theorem dX10_readsOdds_83 : decode cX10_readsOdds 83 = .ok (.bipush 8, 2) := by decide +kernel
theorem dX10_readsOdds_85 : decode cX10_readsOdds 85 = .ok (.invokevirtual 134, 3) := by decide +kernel
theorem dX10_readsOdds_88 : decode cX10_readsOdds 88 = .ok (.iastore, 1) := by decide +kernel
theorem dX10_readsOdds_89 : decode cX10_readsOdds 89 = .ok (.iload_n 2, 1) := by decide +kernel
theorem dX10_readsOdds_90 : decode cX10_readsOdds 90 = .ok (.aload_n 1, 1) := by decide +kernel
theorem dX10_readsOdds_91 : decode cX10_readsOdds 91 = .ok (.iconst 2, 1) := by decide +kernel
theorem dX10_readsOdds_92 : decode cX10_readsOdds 92 = .ok (.iaload, 1) := by decide +kernel
theorem dX10_readsOdds_93 : decode cX10_readsOdds 93 = .ok (.iadd, 1) := by decide +kernel
theorem dX10_readsOdds_94 : decode cX10_readsOdds 94 = .ok (.bipush 8, 2) := by decide +kernel
theorem dX10_readsOdds_96 : decode cX10_readsOdds 96 = .ok (.if_icmp .le 9, 3) := by decide +kernel
theorem dX10_readsOdds_99 : decode cX10_readsOdds 99 = .ok (.aload_n 0, 1) := by decide +kernel
theorem dX10_readsOdds_100 : decode cX10_readsOdds 100 = .ok (.iconst 2, 1) := by decide +kernel
theorem dX10_readsOdds_101 : decode cX10_readsOdds 101 = .ok (.iload_n 3, 1) := by decide +kernel
theorem dX10_readsOdds_102 : decode cX10_readsOdds 102 = .ok (.invokevirtual 105, 3) := by decide +kernel
theorem dX10_readsOdds_105 : decode cX10_readsOdds 105 = .ok (.return_, 1) := by decide +kernel
theorem dX10_quarry_0 : decode cX10_quarry 0 = .ok (.aload_n 0, 1) := by decide +kernel
theorem dX10_quarry_1 : decode cX10_quarry 1 = .ok (.iconst 0, 1) := by decide +kernel
theorem dX10_quarry_2 : decode cX10_quarry 2 = .ok (.putfield 76, 3) := by decide +kernel
theorem dX10_quarry_5 : decode cX10_quarry 5 = .ok (.aload_n 0, 1) := by decide +kernel
theorem dX10_quarry_6 : decode cX10_quarry 6 = .ok (.iload_n 1, 1) := by decide +kernel
theorem dX10_quarry_7 : decode cX10_quarry 7 = .ok (.iconst 0, 1) := by decide +kernel
theorem dX10_quarry_8 : decode cX10_quarry 8 = .ok (.aload_n 0, 1) := by decide +kernel
theorem dX10_quarry_9 : decode cX10_quarry 9 = .ok (.getfield 79, 3) := by decide +kernel
theorem dX10_quarry_12 : decode cX10_quarry 12 = .ok (.invokestatic 110, 3) := by decide +kernel
theorem dX10_quarry_15 : decode cX10_quarry 15 = .ok (.ifCond .ne 7, 3) := by decide +kernel
theorem dX10_quarry_18 : decode cX10_quarry 18 = .ok (.iconst 1, 1) := by decide +kernel
theorem dX10_quarry_19 : decode cX10_quarry 19 = .ok (.goto 4, 3) := by decide +kernel
theorem dX10_quarry_22 : decode cX10_quarry 22 = .ok (.iconst 0, 1) := by decide +kernel
theorem dX10_quarry_23 : decode cX10_quarry 23 = .ok (.iconst 1, 1) := by decide +kernel
theorem dX10_quarry_24 : decode cX10_quarry 24 = .ok (.invokevirtual 148, 3) := by decide +kernel
theorem dX10_quarry_27 : decode cX10_quarry 27 = .ok (.ifCond .eq 5, 3) := by decide +kernel
theorem dX10_quarry_30 : decode cX10_quarry 30 = .ok (.iconst 0, 1) := by decide +kernel
theorem dX10_quarry_31 : decode cX10_quarry 31 = .ok (.ireturn, 1) := by decide +kernel
theorem dX10_quarry_32 : decode cX10_quarry 32 = .ok (.aload_n 0, 1) := by decide +kernel
theorem dX10_quarry_33 : decode cX10_quarry 33 = .ok (.iconst 0, 1) := by decide +kernel
theorem dX10_quarry_34 : decode cX10_quarry 34 = .ok (.putfield 79, 3) := by decide +kernel
theorem dX10_quarry_37 : decode cX10_quarry 37 = .ok (.aload_n 0, 1) := by decide +kernel
theorem dX10_quarry_38 : decode cX10_quarry 38 = .ok (.iload_n 1, 1) := by decide +kernel
theorem dX10_quarry_39 : decode cX10_quarry 39 = .ok (.putfield 82, 3) := by decide +kernel
theorem dX10_quarry_42 : decode cX10_quarry 42 = .ok (.aload_n 0, 1) := by decide +kernel
theorem dX10_quarry_43 : decode cX10_quarry 43 = .ok (.iconst 0, 1) := by decide +kernel
theorem dX10_quarry_44 : decode cX10_quarry 44 = .ok (.putfield 85, 3) := by decide +kernel
theorem dX10_quarry_47 : decode cX10_quarry 47 = .ok (.aload_n 0, 1) := by decide +kernel
theorem dX10_quarry_48 : decode cX10_quarry 48 = .ok (.iconst 0, 1) := by decide +kernel
theorem dX10_quarry_49 : decode cX10_quarry 49 = .ok (.putfield 92, 3) := by decide +kernel
theorem dX10_quarry_52 : decode cX10_quarry 52 = .ok (.aload_n 0, 1) := by decide +kernel
theorem dX10_quarry_53 : decode cX10_quarry 53 = .ok (.iconst (-1), 1) := by decide +kernel
theorem dX10_quarry_54 : decode cX10_quarry 54 = .ok (.putfield 95, 3) := by decide +kernel
theorem dX10_quarry_57 : decode cX10_quarry 57 = .ok (.aload_n 0, 1) := by decide +kernel
theorem dX10_quarry_58 : decode cX10_quarry 58 = .ok (.iconst 0, 1) := by decide +kernel
theorem dX10_quarry_59 : decode cX10_quarry 59 = .ok (.putfield 128, 3) := by decide +kernel
theorem dX10_quarry_62 : decode cX10_quarry 62 = .ok (.aload_n 0, 1) := by decide +kernel
theorem dX10_quarry_63 : decode cX10_quarry 63 = .ok (.invokevirtual 73, 3) := by decide +kernel
theorem dX10_quarry_66 : decode cX10_quarry 66 = .ok (.aload_n 0, 1) := by decide +kernel
theorem dX10_quarry_67 : decode cX10_quarry 67 = .ok (.invokevirtual 98, 3) := by decide +kernel
theorem dX10_quarry_70 : decode cX10_quarry 70 = .ok (.aload_n 0, 1) := by decide +kernel
theorem dX10_quarry_71 : decode cX10_quarry 71 = .ok (.getfield 92, 3) := by decide +kernel
theorem dX10_quarry_74 : decode cX10_quarry 74 = .ok (.ifCond .ne 25, 3) := by decide +kernel
theorem dX10_quarry_77 : decode cX10_quarry 77 = .ok (.aload_n 0, 1) := by decide +kernel
theorem dX10_quarry_78 : decode cX10_quarry 78 = .ok (.getfield 85, 3) := by decide +kernel
theorem dX10_quarry_81 : decode cX10_quarry 81 = .ok (.aload_n 0, 1) := by decide +kernel
theorem dX10_quarry_82 : decode cX10_quarry 82 = .ok (.getfield 82, 3) := by decide +kernel
theorem dX10_quarry_85 : decode cX10_quarry 85 = .ok (.if_icmp .ge 14, 3) := by decide +kernel
theorem dX10_quarry_88 : decode cX10_quarry 88 = .ok (.aload_n 0, 1) := by decide +kernel
theorem dX10_quarry_89 : decode cX10_quarry 89 = .ok (.invokevirtual 152, 3) := by decide +kernel
theorem dX10_quarry_92 : decode cX10_quarry 92 = .ok (.aload_n 0, 1) := by decide +kernel
theorem dX10_quarry_93 : decode cX10_quarry 93 = .ok (.invokevirtual 98, 3) := by decide +kernel
theorem dX10_quarry_96 : decode cX10_quarry 96 = .ok (.goto (-26), 3) := by decide +kernel
theorem dX10_quarry_99 : decode cX10_quarry 99 = .ok (.aload_n 0, 1) := by decide +kernel
theorem dX10_quarry_100 : decode cX10_quarry 100 = .ok (.aload_n 0, 1) := by decide +kernel
theorem dX10_quarry_101 : decode cX10_quarry 101 = .ok (.getfield 95, 3) := by decide +kernel
theorem dX10_quarry_104 : decode cX10_quarry 104 = .ok (.putfield 9, 3) := by decide +kernel
theorem dX10_quarry_107 : decode cX10_quarry 107 = .ok (.aload_n 0, 1) := by decide +kernel
theorem dX10_quarry_108 : decode cX10_quarry 108 = .ok (.getfield 92, 3) := by decide +kernel
theorem dX10_quarry_111 : decode cX10_quarry 111 = .ok (.ifCond .eq 11, 3) := by decide +kernel
theorem dX10_quarry_114 : decode cX10_quarry 114 = .ok (.aload_n 0, 1) := by decide +kernel
theorem dX10_quarry_115 : decode cX10_quarry 115 = .ok (.getfield 92, 3) := by decide +kernel
theorem dX10_quarry_118 : decode cX10_quarry 118 = .ok (.bipush 10, 2) := by decide +kernel
theorem dX10_quarry_120 : decode cX10_quarry 120 = .ok (.isub, 1) := by decide +kernel
theorem dX10_quarry_121 : decode cX10_quarry 121 = .ok (.ireturn, 1) := by decide +kernel
theorem dX10_quarry_122 : decode cX10_quarry 122 = .ok (.iconst 0, 1) := by decide +kernel
theorem dX10_quarry_123 : decode cX10_quarry 123 = .ok (.istore_n 2, 1) := by decide +kernel
theorem dX10_quarry_124 : decode cX10_quarry 124 = .ok (.iload_n 2, 1) := by decide +kernel
theorem dX10_quarry_125 : decode cX10_quarry 125 = .ok (.bipush 7, 2) := by decide +kernel
theorem dX10_quarry_127 : decode cX10_quarry 127 = .ok (.if_icmp .ge 21, 3) := by decide +kernel
theorem dX10_quarry_130 : decode cX10_quarry 130 = .ok (.aload_n 0, 1) := by decide +kernel
theorem dX10_quarry_131 : decode cX10_quarry 131 = .ok (.getfield 20, 3) := by decide +kernel
theorem dX10_quarry_134 : decode cX10_quarry 134 = .ok (.iload_n 2, 1) := by decide +kernel
theorem dX10_quarry_135 : decode cX10_quarry 135 = .ok (.aload_n 0, 1) := by decide +kernel
theorem dX10_quarry_136 : decode cX10_quarry 136 = .ok (.getfield 17, 3) := by decide +kernel
theorem dX10_quarry_139 : decode cX10_quarry 139 = .ok (.iload_n 2, 1) := by decide +kernel
theorem dX10_quarry_140 : decode cX10_quarry 140 = .ok (.iaload, 1) := by decide +kernel
theorem dX10_quarry_141 : decode cX10_quarry 141 = .ok (.iastore, 1) := by decide +kernel
theorem dX10_quarry_142 : decode cX10_quarry 142 = .ok (.iinc 2 1, 3) := by decide +kernel
theorem dX10_quarry_145 : decode cX10_quarry 145 = .ok (.goto (-21), 3) := by decide +kernel
theorem dX10_quarry_148 : decode cX10_quarry 148 = .ok (.iconst 0, 1) := by decide +kernel
theorem dX10_quarry_149 : decode cX10_quarry 149 = .ok (.istore_n 2, 1) := by decide +kernel
theorem dX10_quarry_150 : decode cX10_quarry 150 = .ok (.iload_n 2, 1) := by decide +kernel
theorem dX10_quarry_151 : decode cX10_quarry 151 = .ok (.sipush 157, 3) := by decide +kernel
theorem dX10_quarry_154 : decode cX10_quarry 154 = .ok (.if_icmp .ge 16, 3) := by decide +kernel
theorem dX10_quarry_157 : decode cX10_quarry 157 = .ok (.aload_n 0, 1) := by decide +kernel
theorem dX10_quarry_158 : decode cX10_quarry 158 = .ok (.getfield 49, 3) := by decide +kernel
theorem dX10_quarry_161 : decode cX10_quarry 161 = .ok (.iload_n 2, 1) := by decide +kernel
theorem dX10_quarry_162 : decode cX10_quarry 162 = .ok (.iconst 0, 1) := by decide +kernel
theorem dX10_quarry_163 : decode cX10_quarry 163 = .ok (.iastore, 1) := by decide +kernel
theorem dX10_quarry_164 : decode cX10_quarry 164 = .ok (.iinc 2 1, 3) := by decide +kernel
theorem dX10_quarry_167 : decode cX10_quarry 167 = .ok (.goto (-17), 3) := by decide +kernel
theorem dX10_quarry_170 : decode cX10_quarry 170 = .ok (.iconst 0, 1) := by decide +kernel
theorem dX10_quarry_171 : decode cX10_quarry 171 = .ok (.istore_n 2, 1) := by decide +kernel
theorem dX10_quarry_172 : decode cX10_quarry 172 = .ok (.iload_n 2, 1) := by decide +kernel
theorem dX10_quarry_173 : decode cX10_quarry 173 = .ok (.aload_n 0, 1) := by decide +kernel
theorem dX10_quarry_174 : decode cX10_quarry 174 = .ok (.getfield 20, 3) := by decide +kernel
theorem dX10_quarry_177 : decode cX10_quarry 177 = .ok (.iconst 0, 1) := by decide +kernel
theorem dX10_quarry_178 : decode cX10_quarry 178 = .ok (.iaload, 1) := by decide +kernel
theorem dX10_quarry_179 : decode cX10_quarry 179 = .ok (.if_icmp .ge 62, 3) := by decide +kernel
theorem dX10_quarry_182 : decode cX10_quarry 182 = .ok (.iconst 0, 1) := by decide +kernel
theorem dX10_quarry_183 : decode cX10_quarry 183 = .ok (.istore_n 3, 1) := by decide +kernel
theorem dX10_quarry_184 : decode cX10_quarry 184 = .ok (.iload_n 3, 1) := by decide +kernel
theorem dX10_quarry_185 : decode cX10_quarry 185 = .ok (.iconst 3, 1) := by decide +kernel
theorem dX10_quarry_186 : decode cX10_quarry 186 = .ok (.if_icmp .ge 25, 3) := by decide +kernel
theorem dX10_quarry_189 : decode cX10_quarry 189 = .ok (.aload_n 0, 1) := by decide +kernel
theorem dX10_quarry_190 : decode cX10_quarry 190 = .ok (.getfield 28, 3) := by decide +kernel
theorem dX10_quarry_193 : decode cX10_quarry 193 = .ok (.iload_n 2, 1) := by decide +kernel
theorem dX10_quarry_194 : decode cX10_quarry 194 = .ok (.aaload, 1) := by decide +kernel
theorem dX10_quarry_195 : decode cX10_quarry 195 = .ok (.iload_n 3, 1) := by decide +kernel
theorem dX10_quarry_196 : decode cX10_quarry 196 = .ok (.aload_n 0, 1) := by decide +kernel
theorem dX10_quarry_197 : decode cX10_quarry 197 = .ok (.getfield 25, 3) := by decide +kernel
theorem dX10_quarry_200 : decode cX10_quarry 200 = .ok (.iload_n 2, 1) := by decide +kernel
theorem dX10_quarry_201 : decode cX10_quarry 201 = .ok (.aaload, 1) := by decide +kernel
theorem dX10_quarry_202 : decode cX10_quarry 202 = .ok (.iload_n 3, 1) := by decide +kernel
theorem dX10_quarry_203 : decode cX10_quarry 203 = .ok (.iaload, 1) := by decide +kernel
theorem dX10_quarry_204 : decode cX10_quarry 204 = .ok (.iastore, 1) := by decide +kernel
theorem dX10_quarry_205 : decode cX10_quarry 205 = .ok (.iinc 3 1, 3) := by decide +kernel
theorem dX10_quarry_208 : decode cX10_quarry 208 = .ok (.goto (-24), 3) := by decide +kernel
theorem dX10_quarry_211 : decode cX10_quarry 211 = .ok (.aload_n 0, 1) := by decide +kernel
theorem dX10_quarry_212 : decode cX10_quarry 212 = .ok (.iload_n 2, 1) := by decide +kernel
theorem dX10_quarry_213 : decode cX10_quarry 213 = .ok (.iload_n 2, 1) := by decide +kernel
theorem dX10_quarry_214 : decode cX10_quarry 214 = .ok (.iconst 0, 1) := by decide +kernel
theorem dX10_quarry_215 : decode cX10_quarry 215 = .ok (.aload_n 0, 1) := by decide +kernel
theorem dX10_quarry_216 : decode cX10_quarry 216 = .ok (.getfield 28, 3) := by decide +kernel
theorem dX10_quarry_219 : decode cX10_quarry 219 = .ok (.iload_n 2, 1) := by decide +kernel
theorem dX10_quarry_220 : decode cX10_quarry 220 = .ok (.aaload, 1) := by decide +kernel
theorem dX10_quarry_221 : decode cX10_quarry 221 = .ok (.iconst 0, 1) := by decide +kernel
theorem dX10_quarry_222 : decode cX10_quarry 222 = .ok (.iaload, 1) := by decide +kernel
theorem dX10_quarry_223 : decode cX10_quarry 223 = .ok (.iconst 0, 1) := by decide +kernel
theorem dX10_quarry_224 : decode cX10_quarry 224 = .ok (.aload_n 0, 1) := by decide +kernel
theorem dX10_quarry_225 : decode cX10_quarry 225 = .ok (.getfield 28, 3) := by decide +kernel
theorem dX10_quarry_228 : decode cX10_quarry 228 = .ok (.iload_n 2, 1) := by decide +kernel
theorem dX10_quarry_229 : decode cX10_quarry 229 = .ok (.aaload, 1) := by decide +kernel
theorem dX10_quarry_230 : decode cX10_quarry 230 = .ok (.iconst 1, 1) := by decide +kernel
theorem dX10_quarry_231 : decode cX10_quarry 231 = .ok (.iaload, 1) := by decide +kernel
theorem dX10_quarry_232 : decode cX10_quarry 232 = .ok (.invokevirtual 155, 3) := by decide +kernel
theorem dX10_quarry_235 : decode cX10_quarry 235 = .ok (.iinc 2 1, 3) := by decide +kernel
theorem dX10_quarry_238 : decode cX10_quarry 238 = .ok (.goto (-66), 3) := by decide +kernel
theorem dX10_quarry_241 : decode cX10_quarry 241 = .ok (.aload_n 0, 1) := by decide +kernel
theorem dX10_quarry_242 : decode cX10_quarry 242 = .ok (.getfield 49, 3) := by decide +kernel
theorem dX10_quarry_245 : decode cX10_quarry 245 = .ok (.bipush 120, 2) := by decide +kernel
theorem dX10_quarry_247 : decode cX10_quarry 247 = .ok (.aload_n 0, 1) := by decide +kernel
theorem dX10_quarry_248 : decode cX10_quarry 248 = .ok (.getfield 20, 3) := by decide +kernel
theorem dX10_quarry_251 : decode cX10_quarry 251 = .ok (.iconst 0, 1) := by decide +kernel
theorem dX10_quarry_252 : decode cX10_quarry 252 = .ok (.iaload, 1) := by decide +kernel
theorem dX10_quarry_253 : decode cX10_quarry 253 = .ok (.iastore, 1) := by decide +kernel
theorem dX10_quarry_254 : decode cX10_quarry 254 = .ok (.iconst 0, 1) := by decide +kernel
theorem dX10_quarry_255 : decode cX10_quarry 255 = .ok (.istore_n 2, 1) := by decide +kernel
theorem dX10_quarry_256 : decode cX10_quarry 256 = .ok (.iload_n 2, 1) := by decide +kernel
theorem dX10_quarry_257 : decode cX10_quarry 257 = .ok (.aload_n 0, 1) := by decide +kernel
theorem dX10_quarry_258 : decode cX10_quarry 258 = .ok (.getfield 20, 3) := by decide +kernel
theorem dX10_quarry_261 : decode cX10_quarry 261 = .ok (.iconst 1, 1) := by decide +kernel
theorem dX10_quarry_262 : decode cX10_quarry 262 = .ok (.iaload, 1) := by decide +kernel
theorem dX10_quarry_263 : decode cX10_quarry 263 = .ok (.if_icmp .ge 55, 3) := by decide +kernel
theorem dX10_quarry_266 : decode cX10_quarry 266 = .ok (.iconst 0, 1) := by decide +kernel
theorem dX10_quarry_267 : decode cX10_quarry 267 = .ok (.istore_n 3, 1) := by decide +kernel
theorem dX10_quarry_268 : decode cX10_quarry 268 = .ok (.iload_n 3, 1) := by decide +kernel
theorem dX10_quarry_269 : decode cX10_quarry 269 = .ok (.iconst 5, 1) := by decide +kernel
theorem dX10_quarry_270 : decode cX10_quarry 270 = .ok (.if_icmp .ge 25, 3) := by decide +kernel
theorem dX10_quarry_273 : decode cX10_quarry 273 = .ok (.aload_n 0, 1) := by decide +kernel
theorem dX10_quarry_274 : decode cX10_quarry 274 = .ok (.getfield 34, 3) := by decide +kernel
theorem dX10_quarry_277 : decode cX10_quarry 277 = .ok (.iload_n 2, 1) := by decide +kernel
theorem dX10_quarry_278 : decode cX10_quarry 278 = .ok (.aaload, 1) := by decide +kernel
theorem dX10_quarry_279 : decode cX10_quarry 279 = .ok (.iload_n 3, 1) := by decide +kernel
theorem dX10_quarry_280 : decode cX10_quarry 280 = .ok (.aload_n 0, 1) := by decide +kernel
theorem dX10_quarry_281 : decode cX10_quarry 281 = .ok (.getfield 31, 3) := by decide +kernel
theorem dX10_quarry_284 : decode cX10_quarry 284 = .ok (.iload_n 2, 1) := by decide +kernel
theorem dX10_quarry_285 : decode cX10_quarry 285 = .ok (.aaload, 1) := by decide +kernel
theorem dX10_quarry_286 : decode cX10_quarry 286 = .ok (.iload_n 3, 1) := by decide +kernel
theorem dX10_quarry_287 : decode cX10_quarry 287 = .ok (.iaload, 1) := by decide +kernel
theorem dX10_quarry_288 : decode cX10_quarry 288 = .ok (.iastore, 1) := by decide +kernel
theorem dX10_quarry_289 : decode cX10_quarry 289 = .ok (.iinc 3 1, 3) := by decide +kernel
theorem dX10_quarry_292 : decode cX10_quarry 292 = .ok (.goto (-24), 3) := by decide +kernel
theorem dX10_quarry_295 : decode cX10_quarry 295 = .ok (.aload_n 0, 1) := by decide +kernel
theorem dX10_quarry_296 : decode cX10_quarry 296 = .ok (.getfield 49, 3) := by decide +kernel
theorem dX10_quarry_299 : decode cX10_quarry 299 = .ok (.bipush 121, 2) := by decide +kernel
theorem dX10_quarry_301 : decode cX10_quarry 301 = .ok (.iload_n 2, 1) := by decide +kernel
theorem dX10_quarry_302 : decode cX10_quarry 302 = .ok (.iadd, 1) := by decide +kernel
theorem dX10_quarry_303 : decode cX10_quarry 303 = .ok (.aload_n 0, 1) := by decide +kernel
theorem dX10_quarry_304 : decode cX10_quarry 304 = .ok (.getfield 34, 3) := by decide +kernel
theorem dX10_quarry_307 : decode cX10_quarry 307 = .ok (.iload_n 2, 1) := by decide +kernel
theorem dX10_quarry_308 : decode cX10_quarry 308 = .ok (.aaload, 1) := by decide +kernel
theorem dX10_quarry_309 : decode cX10_quarry 309 = .ok (.iconst 4, 1) := by decide +kernel
theorem dX10_quarry_310 : decode cX10_quarry 310 = .ok (.iaload, 1) := by decide +kernel
theorem dX10_quarry_311 : decode cX10_quarry 311 = .ok (.iastore, 1) := by decide +kernel
theorem dX10_quarry_312 : decode cX10_quarry 312 = .ok (.iinc 2 1, 3) := by decide +kernel
theorem dX10_quarry_315 : decode cX10_quarry 315 = .ok (.goto (-59), 3) := by decide +kernel
theorem dX10_quarry_318 : decode cX10_quarry 318 = .ok (.iconst 0, 1) := by decide +kernel
theorem dX10_quarry_319 : decode cX10_quarry 319 = .ok (.istore_n 2, 1) := by decide +kernel
theorem dX10_quarry_320 : decode cX10_quarry 320 = .ok (.iload_n 2, 1) := by decide +kernel
theorem dX10_quarry_321 : decode cX10_quarry 321 = .ok (.aload_n 0, 1) := by decide +kernel
theorem dX10_quarry_322 : decode cX10_quarry 322 = .ok (.getfield 20, 3) := by decide +kernel
theorem dX10_quarry_325 : decode cX10_quarry 325 = .ok (.iconst 2, 1) := by decide +kernel
theorem dX10_quarry_326 : decode cX10_quarry 326 = .ok (.iaload, 1) := by decide +kernel
theorem dX10_quarry_327 : decode cX10_quarry 327 = .ok (.if_icmp .ge 38, 3) := by decide +kernel
theorem dX10_quarry_330 : decode cX10_quarry 330 = .ok (.iconst 0, 1) := by decide +kernel
theorem dX10_quarry_331 : decode cX10_quarry 331 = .ok (.istore_n 3, 1) := by decide +kernel
theorem dX10_quarry_332 : decode cX10_quarry 332 = .ok (.iload_n 3, 1) := by decide +kernel
theorem dX10_quarry_333 : decode cX10_quarry 333 = .ok (.iconst 5, 1) := by decide +kernel
theorem dX10_quarry_334 : decode cX10_quarry 334 = .ok (.if_icmp .ge 25, 3) := by decide +kernel
theorem dX10_quarry_337 : decode cX10_quarry 337 = .ok (.aload_n 0, 1) := by decide +kernel
theorem dX10_quarry_338 : decode cX10_quarry 338 = .ok (.getfield 40, 3) := by decide +kernel
theorem dX10_quarry_341 : decode cX10_quarry 341 = .ok (.iload_n 2, 1) := by decide +kernel
theorem dX10_quarry_342 : decode cX10_quarry 342 = .ok (.aaload, 1) := by decide +kernel
theorem dX10_quarry_343 : decode cX10_quarry 343 = .ok (.iload_n 3, 1) := by decide +kernel
theorem dX10_quarry_344 : decode cX10_quarry 344 = .ok (.aload_n 0, 1) := by decide +kernel
theorem dX10_quarry_345 : decode cX10_quarry 345 = .ok (.getfield 37, 3) := by decide +kernel
theorem dX10_quarry_348 : decode cX10_quarry 348 = .ok (.iload_n 2, 1) := by decide +kernel
theorem dX10_quarry_349 : decode cX10_quarry 349 = .ok (.aaload, 1) := by decide +kernel
theorem dX10_quarry_350 : decode cX10_quarry 350 = .ok (.iload_n 3, 1) := by decide +kernel
theorem dX10_quarry_351 : decode cX10_quarry 351 = .ok (.iaload, 1) := by decide +kernel
theorem dX10_quarry_352 : decode cX10_quarry 352 = .ok (.iastore, 1) := by decide +kernel
theorem dX10_quarry_353 : decode cX10_quarry 353 = .ok (.iinc 3 1, 3) := by decide +kernel
theorem dX10_quarry_356 : decode cX10_quarry 356 = .ok (.goto (-24), 3) := by decide +kernel
theorem dX10_quarry_359 : decode cX10_quarry 359 = .ok (.iinc 2 1, 3) := by decide +kernel
theorem dX10_quarry_362 : decode cX10_quarry 362 = .ok (.goto (-42), 3) := by decide +kernel
theorem dX10_quarry_365 : decode cX10_quarry 365 = .ok (.iconst 0, 1) := by decide +kernel
theorem dX10_quarry_366 : decode cX10_quarry 366 = .ok (.istore_n 2, 1) := by decide +kernel
theorem dX10_quarry_367 : decode cX10_quarry 367 = .ok (.iload_n 2, 1) := by decide +kernel
theorem dX10_quarry_368 : decode cX10_quarry 368 = .ok (.aload_n 0, 1) := by decide +kernel
theorem dX10_quarry_369 : decode cX10_quarry 369 = .ok (.getfield 20, 3) := by decide +kernel
theorem dX10_quarry_372 : decode cX10_quarry 372 = .ok (.bipush 6, 2) := by decide +kernel
theorem dX10_quarry_374 : decode cX10_quarry 374 = .ok (.iaload, 1) := by decide +kernel
theorem dX10_quarry_375 : decode cX10_quarry 375 = .ok (.if_icmp .ge 38, 3) := by decide +kernel
theorem dX10_quarry_378 : decode cX10_quarry 378 = .ok (.iconst 0, 1) := by decide +kernel
theorem dX10_quarry_379 : decode cX10_quarry 379 = .ok (.istore_n 3, 1) := by decide +kernel
theorem dX10_quarry_380 : decode cX10_quarry 380 = .ok (.iload_n 3, 1) := by decide +kernel
theorem dX10_quarry_381 : decode cX10_quarry 381 = .ok (.iconst 3, 1) := by decide +kernel
theorem dX10_quarry_382 : decode cX10_quarry 382 = .ok (.if_icmp .ge 25, 3) := by decide +kernel
theorem dX10_quarry_385 : decode cX10_quarry 385 = .ok (.aload_n 0, 1) := by decide +kernel
theorem dX10_quarry_386 : decode cX10_quarry 386 = .ok (.getfield 46, 3) := by decide +kernel
theorem dX10_quarry_389 : decode cX10_quarry 389 = .ok (.iload_n 2, 1) := by decide +kernel
theorem dX10_quarry_390 : decode cX10_quarry 390 = .ok (.aaload, 1) := by decide +kernel
theorem dX10_quarry_391 : decode cX10_quarry 391 = .ok (.iload_n 3, 1) := by decide +kernel
theorem dX10_quarry_392 : decode cX10_quarry 392 = .ok (.aload_n 0, 1) := by decide +kernel
theorem dX10_quarry_393 : decode cX10_quarry 393 = .ok (.getfield 43, 3) := by decide +kernel
theorem dX10_quarry_396 : decode cX10_quarry 396 = .ok (.iload_n 2, 1) := by decide +kernel
theorem dX10_quarry_397 : decode cX10_quarry 397 = .ok (.aaload, 1) := by decide +kernel
theorem dX10_quarry_398 : decode cX10_quarry 398 = .ok (.iload_n 3, 1) := by decide +kernel
theorem dX10_quarry_399 : decode cX10_quarry 399 = .ok (.iaload, 1) := by decide +kernel
theorem dX10_quarry_400 : decode cX10_quarry 400 = .ok (.iastore, 1) := by decide +kernel
theorem dX10_quarry_401 : decode cX10_quarry 401 = .ok (.iinc 3 1, 3) := by decide +kernel
theorem dX10_quarry_404 : decode cX10_quarry 404 = .ok (.goto (-24), 3) := by decide +kernel
theorem dX10_quarry_407 : decode cX10_quarry 407 = .ok (.iinc 2 1, 3) := by decide +kernel
theorem dX10_quarry_410 : decode cX10_quarry 410 = .ok (.goto (-43), 3) := by decide +kernel
theorem dX10_quarry_413 : decode cX10_quarry 413 = .ok (.aload_n 0, 1) := by decide +kernel
theorem dX10_quarry_414 : decode cX10_quarry 414 = .ok (.iconst 0, 1) := by decide +kernel
theorem dX10_quarry_415 : decode cX10_quarry 415 = .ok (.putfield 159, 3) := by decide +kernel
theorem dX10_quarry_418 : decode cX10_quarry 418 = .ok (.aload_n 0, 1) := by decide +kernel
theorem dX10_quarry_419 : decode cX10_quarry 419 = .ok (.iconst 0, 1) := by decide +kernel
theorem dX10_quarry_420 : decode cX10_quarry 420 = .ok (.putfield 162, 3) := by decide +kernel
theorem dX10_quarry_423 : decode cX10_quarry 423 = .ok (.aload_n 0, 1) := by decide +kernel
theorem dX10_quarry_424 : decode cX10_quarry 424 = .ok (.iconst 0, 1) := by decide +kernel
theorem dX10_quarry_425 : decode cX10_quarry 425 = .ok (.putfield 165, 3) := by decide +kernel
theorem dX10_quarry_428 : decode cX10_quarry 428 = .ok (.aload_n 0, 1) := by decide +kernel
theorem dX10_quarry_429 : decode cX10_quarry 429 = .ok (.getfield 20, 3) := by decide +kernel
theorem dX10_quarry_432 : decode cX10_quarry 432 = .ok (.iconst 0, 1) := by decide +kernel
theorem dX10_quarry_433 : decode cX10_quarry 433 = .ok (.iaload, 1) := by decide +kernel
theorem dX10_quarry_434 : decode cX10_quarry 434 = .ok (.ireturn, 1) := by decide +kernel
theorem dX10_fault_0 : decode cX10_fault 0 = .ok (.aload_n 0, 1) := by decide +kernel
theorem dX10_fault_1 : decode cX10_fault 1 = .ok (.iconst 0, 1) := by decide +kernel
theorem dX10_fault_2 : decode cX10_fault 2 = .ok (.putfield 76, 3) := by decide +kernel
theorem dX10_fault_5 : decode cX10_fault 5 = .ok (.aload_n 0, 1) := by decide +kernel
theorem dX10_fault_6 : decode cX10_fault 6 = .ok (.getfield 9, 3) := by decide +kernel
theorem dX10_fault_9 : decode cX10_fault 9 = .ok (.ireturn, 1) := by decide +kernel
theorem dX10_lays_0 : decode cX10_lays 0 = .ok (.aload_n 0, 1) := by decide +kernel
theorem dX10_lays_1 : decode cX10_lays 1 = .ok (.getfield 49, 3) := by decide +kernel
theorem dX10_lays_4 : decode cX10_lays 4 = .ok (.bipush 6, 2) := by decide +kernel
theorem dX10_lays_6 : decode cX10_lays 6 = .ok (.iload_n 1, 1) := by decide +kernel
theorem dX10_lays_7 : decode cX10_lays 7 = .ok (.imul, 1) := by decide +kernel
theorem dX10_lays_8 : decode cX10_lays 8 = .ok (.iload_n 2, 1) := by decide +kernel
theorem dX10_lays_9 : decode cX10_lays 9 = .ok (.iastore, 1) := by decide +kernel
theorem dX10_lays_10 : decode cX10_lays 10 = .ok (.aload_n 0, 1) := by decide +kernel
theorem dX10_lays_11 : decode cX10_lays 11 = .ok (.getfield 49, 3) := by decide +kernel
theorem dX10_lays_14 : decode cX10_lays 14 = .ok (.bipush 6, 2) := by decide +kernel
theorem dX10_lays_16 : decode cX10_lays 16 = .ok (.iload_n 1, 1) := by decide +kernel
theorem dX10_lays_17 : decode cX10_lays 17 = .ok (.imul, 1) := by decide +kernel
theorem dX10_lays_18 : decode cX10_lays 18 = .ok (.iconst 1, 1) := by decide +kernel
theorem dX10_lays_19 : decode cX10_lays 19 = .ok (.iadd, 1) := by decide +kernel
theorem dX10_lays_20 : decode cX10_lays 20 = .ok (.iload_n 3, 1) := by decide +kernel
theorem dX10_lays_21 : decode cX10_lays 21 = .ok (.iastore, 1) := by decide +kernel
theorem dX10_lays_22 : decode cX10_lays 22 = .ok (.aload_n 0, 1) := by decide +kernel
theorem dX10_lays_23 : decode cX10_lays 23 = .ok (.getfield 49, 3) := by decide +kernel
theorem dX10_lays_26 : decode cX10_lays 26 = .ok (.bipush 6, 2) := by decide +kernel
theorem dX10_lays_28 : decode cX10_lays 28 = .ok (.iload_n 1, 1) := by decide +kernel
theorem dX10_lays_29 : decode cX10_lays 29 = .ok (.imul, 1) := by decide +kernel
theorem dX10_lays_30 : decode cX10_lays 30 = .ok (.iconst 2, 1) := by decide +kernel
theorem dX10_lays_31 : decode cX10_lays 31 = .ok (.iadd, 1) := by decide +kernel
theorem dX10_lays_32 : decode cX10_lays 32 = .ok (.iload 4, 2) := by decide +kernel
theorem dX10_lays_34 : decode cX10_lays 34 = .ok (.iastore, 1) := by decide +kernel
theorem dX10_lays_35 : decode cX10_lays 35 = .ok (.aload_n 0, 1) := by decide +kernel
theorem dX10_lays_36 : decode cX10_lays 36 = .ok (.getfield 49, 3) := by decide +kernel
theorem dX10_lays_39 : decode cX10_lays 39 = .ok (.bipush 6, 2) := by decide +kernel
theorem dX10_lays_41 : decode cX10_lays 41 = .ok (.iload_n 1, 1) := by decide +kernel
theorem dX10_lays_42 : decode cX10_lays 42 = .ok (.imul, 1) := by decide +kernel
theorem dX10_lays_43 : decode cX10_lays 43 = .ok (.iconst 3, 1) := by decide +kernel
theorem dX10_lays_44 : decode cX10_lays 44 = .ok (.iadd, 1) := by decide +kernel
theorem dX10_lays_45 : decode cX10_lays 45 = .ok (.iload 5, 2) := by decide +kernel
theorem dX10_lays_47 : decode cX10_lays 47 = .ok (.iastore, 1) := by decide +kernel
theorem dX10_lays_48 : decode cX10_lays 48 = .ok (.aload_n 0, 1) := by decide +kernel
theorem dX10_lays_49 : decode cX10_lays 49 = .ok (.getfield 49, 3) := by decide +kernel
theorem dX10_lays_52 : decode cX10_lays 52 = .ok (.bipush 6, 2) := by decide +kernel
theorem dX10_lays_54 : decode cX10_lays 54 = .ok (.iload_n 1, 1) := by decide +kernel
theorem dX10_lays_55 : decode cX10_lays 55 = .ok (.imul, 1) := by decide +kernel
theorem dX10_lays_56 : decode cX10_lays 56 = .ok (.iconst 4, 1) := by decide +kernel
theorem dX10_lays_57 : decode cX10_lays 57 = .ok (.iadd, 1) := by decide +kernel
theorem dX10_lays_58 : decode cX10_lays 58 = .ok (.iload 6, 2) := by decide +kernel
theorem dX10_lays_60 : decode cX10_lays 60 = .ok (.iastore, 1) := by decide +kernel
theorem dX10_lays_61 : decode cX10_lays 61 = .ok (.aload_n 0, 1) := by decide +kernel
theorem dX10_lays_62 : decode cX10_lays 62 = .ok (.getfield 49, 3) := by decide +kernel
theorem dX10_lays_65 : decode cX10_lays 65 = .ok (.bipush 6, 2) := by decide +kernel
theorem dX10_lays_67 : decode cX10_lays 67 = .ok (.iload_n 1, 1) := by decide +kernel
theorem dX10_lays_68 : decode cX10_lays 68 = .ok (.imul, 1) := by decide +kernel
theorem dX10_lays_69 : decode cX10_lays 69 = .ok (.iconst 5, 1) := by decide +kernel
theorem dX10_lays_70 : decode cX10_lays 70 = .ok (.iadd, 1) := by decide +kernel
theorem dX10_lays_71 : decode cX10_lays 71 = .ok (.iconst 1, 1) := by decide +kernel
theorem dX10_lays_72 : decode cX10_lays 72 = .ok (.iastore, 1) := by decide +kernel
theorem dX10_lays_73 : decode cX10_lays 73 = .ok (.return_, 1) := by decide +kernel
theorem dX10_told_0 : decode cX10_told 0 = .ok (.aload_n 0, 1) := by decide +kernel
theorem dX10_told_1 : decode cX10_told 1 = .ok (.iconst 0, 1) := by decide +kernel
theorem dX10_told_2 : decode cX10_told 2 = .ok (.putfield 76, 3) := by decide +kernel
theorem dX10_told_5 : decode cX10_told 5 = .ok (.aload_n 0, 1) := by decide +kernel
theorem dX10_told_6 : decode cX10_told 6 = .ok (.iload_n 1, 1) := by decide +kernel
theorem dX10_told_7 : decode cX10_told 7 = .ok (.iconst 0, 1) := by decide +kernel
theorem dX10_told_8 : decode cX10_told 8 = .ok (.bipush 7, 2) := by decide +kernel
theorem dX10_told_10 : decode cX10_told 10 = .ok (.invokestatic 110, 3) := by decide +kernel
theorem dX10_told_13 : decode cX10_told 13 = .ok (.ifCond .ne 7, 3) := by decide +kernel
theorem dX10_told_16 : decode cX10_told 16 = .ok (.iconst 1, 1) := by decide +kernel
theorem dX10_told_17 : decode cX10_told 17 = .ok (.goto 4, 3) := by decide +kernel
theorem dX10_told_20 : decode cX10_told 20 = .ok (.iconst 0, 1) := by decide +kernel
theorem dX10_told_21 : decode cX10_told 21 = .ok (.iconst 1, 1) := by decide +kernel
theorem dX10_told_22 : decode cX10_told 22 = .ok (.invokevirtual 148, 3) := by decide +kernel
theorem dX10_told_25 : decode cX10_told 25 = .ok (.ifCond .eq 5, 3) := by decide +kernel
theorem dX10_told_28 : decode cX10_told 28 = .ok (.iconst 0, 1) := by decide +kernel
theorem dX10_told_29 : decode cX10_told 29 = .ok (.ireturn, 1) := by decide +kernel
theorem dX10_told_30 : decode cX10_told 30 = .ok (.iload_n 1, 1) := by decide +kernel
theorem dX10_told_31 : decode cX10_told 31 = .ok (.bipush 6, 2) := by decide +kernel
theorem dX10_told_33 : decode cX10_told 33 = .ok (.if_icmp .ge 12, 3) := by decide +kernel
theorem dX10_told_36 : decode cX10_told 36 = .ok (.aload_n 0, 1) := by decide +kernel
theorem dX10_told_37 : decode cX10_told 37 = .ok (.getfield 20, 3) := by decide +kernel
theorem dX10_told_40 : decode cX10_told 40 = .ok (.iload_n 1, 1) := by decide +kernel
theorem dX10_told_41 : decode cX10_told 41 = .ok (.iaload, 1) := by decide +kernel
theorem dX10_told_42 : decode cX10_told 42 = .ok (.goto 27, 3) := by decide +kernel
theorem dX10_told_45 : decode cX10_told 45 = .ok (.iload_n 1, 1) := by decide +kernel
theorem dX10_told_46 : decode cX10_told 46 = .ok (.bipush 6, 2) := by decide +kernel
theorem dX10_told_48 : decode cX10_told 48 = .ok (.if_icmp .ne 14, 3) := by decide +kernel
theorem dX10_told_51 : decode cX10_told 51 = .ok (.aload_n 0, 1) := by decide +kernel
theorem dX10_told_52 : decode cX10_told 52 = .ok (.getfield 49, 3) := by decide +kernel
theorem dX10_told_55 : decode cX10_told 55 = .ok (.sipush 155, 3) := by decide +kernel
theorem dX10_told_58 : decode cX10_told 58 = .ok (.iaload, 1) := by decide +kernel
theorem dX10_told_59 : decode cX10_told 59 = .ok (.goto 10, 3) := by decide +kernel
theorem dX10_told_62 : decode cX10_told 62 = .ok (.aload_n 0, 1) := by decide +kernel
theorem dX10_told_63 : decode cX10_told 63 = .ok (.getfield 49, 3) := by decide +kernel
theorem dX10_told_66 : decode cX10_told 66 = .ok (.bipush 120, 2) := by decide +kernel
theorem dX10_told_68 : decode cX10_told 68 = .ok (.iaload, 1) := by decide +kernel
theorem dX10_told_69 : decode cX10_told 69 = .ok (.ireturn, 1) := by decide +kernel
theorem dX10_pieceOf_0 : decode cX10_pieceOf 0 = .ok (.aload_n 0, 1) := by decide +kernel
theorem dX10_pieceOf_1 : decode cX10_pieceOf 1 = .ok (.getfield 34, 3) := by decide +kernel
theorem dX10_pieceOf_4 : decode cX10_pieceOf 4 = .ok (.iload_n 1, 1) := by decide +kernel
theorem dX10_pieceOf_5 : decode cX10_pieceOf 5 = .ok (.aaload, 1) := by decide +kernel
theorem dX10_pieceOf_6 : decode cX10_pieceOf 6 = .ok (.iconst 1, 1) := by decide +kernel
theorem dX10_pieceOf_7 : decode cX10_pieceOf 7 = .ok (.iaload, 1) := by decide +kernel
theorem dX10_pieceOf_8 : decode cX10_pieceOf 8 = .ok (.ifCond .ne 14, 3) := by decide +kernel
theorem dX10_pieceOf_11 : decode cX10_pieceOf 11 = .ok (.aload_n 0, 1) := by decide +kernel
theorem dX10_pieceOf_12 : decode cX10_pieceOf 12 = .ok (.getfield 34, 3) := by decide +kernel
theorem dX10_pieceOf_15 : decode cX10_pieceOf 15 = .ok (.iload_n 1, 1) := by decide +kernel
theorem dX10_pieceOf_16 : decode cX10_pieceOf 16 = .ok (.aaload, 1) := by decide +kernel
theorem dX10_pieceOf_17 : decode cX10_pieceOf 17 = .ok (.iconst 2, 1) := by decide +kernel
theorem dX10_pieceOf_18 : decode cX10_pieceOf 18 = .ok (.iaload, 1) := by decide +kernel
theorem dX10_pieceOf_19 : decode cX10_pieceOf 19 = .ok (.goto 11, 3) := by decide +kernel
theorem dX10_pieceOf_22 : decode cX10_pieceOf 22 = .ok (.aload_n 0, 1) := by decide +kernel
theorem dX10_pieceOf_23 : decode cX10_pieceOf 23 = .ok (.getfield 34, 3) := by decide +kernel
theorem dX10_pieceOf_26 : decode cX10_pieceOf 26 = .ok (.iload_n 1, 1) := by decide +kernel
theorem dX10_pieceOf_27 : decode cX10_pieceOf 27 = .ok (.aaload, 1) := by decide +kernel
theorem dX10_pieceOf_28 : decode cX10_pieceOf 28 = .ok (.iconst 3, 1) := by decide +kernel
theorem dX10_pieceOf_29 : decode cX10_pieceOf 29 = .ok (.iaload, 1) := by decide +kernel
theorem dX10_pieceOf_30 : decode cX10_pieceOf 30 = .ok (.istore_n 2, 1) := by decide +kernel
theorem dX10_pieceOf_31 : decode cX10_pieceOf 31 = .ok (.aload_n 0, 1) := by decide +kernel
theorem dX10_pieceOf_32 : decode cX10_pieceOf 32 = .ok (.getfield 34, 3) := by decide +kernel
theorem dX10_pieceOf_35 : decode cX10_pieceOf 35 = .ok (.iload_n 1, 1) := by decide +kernel
theorem dX10_pieceOf_36 : decode cX10_pieceOf 36 = .ok (.aaload, 1) := by decide +kernel
theorem dX10_pieceOf_37 : decode cX10_pieceOf 37 = .ok (.iconst 1, 1) := by decide +kernel
theorem dX10_pieceOf_38 : decode cX10_pieceOf 38 = .ok (.iaload, 1) := by decide +kernel
theorem dX10_pieceOf_39 : decode cX10_pieceOf 39 = .ok (.ifCond .ne 14, 3) := by decide +kernel
theorem dX10_pieceOf_42 : decode cX10_pieceOf 42 = .ok (.aload_n 0, 1) := by decide +kernel
theorem dX10_pieceOf_43 : decode cX10_pieceOf 43 = .ok (.getfield 34, 3) := by decide +kernel
theorem dX10_pieceOf_46 : decode cX10_pieceOf 46 = .ok (.iload_n 1, 1) := by decide +kernel
theorem dX10_pieceOf_47 : decode cX10_pieceOf 47 = .ok (.aaload, 1) := by decide +kernel
theorem dX10_pieceOf_48 : decode cX10_pieceOf 48 = .ok (.iconst 3, 1) := by decide +kernel
theorem dX10_pieceOf_49 : decode cX10_pieceOf 49 = .ok (.iaload, 1) := by decide +kernel
theorem dX10_pieceOf_50 : decode cX10_pieceOf 50 = .ok (.goto 11, 3) := by decide +kernel
theorem dX10_pieceOf_53 : decode cX10_pieceOf 53 = .ok (.aload_n 0, 1) := by decide +kernel
theorem dX10_pieceOf_54 : decode cX10_pieceOf 54 = .ok (.getfield 34, 3) := by decide +kernel
theorem dX10_pieceOf_57 : decode cX10_pieceOf 57 = .ok (.iload_n 1, 1) := by decide +kernel
theorem dX10_pieceOf_58 : decode cX10_pieceOf 58 = .ok (.aaload, 1) := by decide +kernel
theorem dX10_pieceOf_59 : decode cX10_pieceOf 59 = .ok (.iconst 2, 1) := by decide +kernel
theorem dX10_pieceOf_60 : decode cX10_pieceOf 60 = .ok (.iaload, 1) := by decide +kernel
theorem dX10_pieceOf_61 : decode cX10_pieceOf 61 = .ok (.istore_n 3, 1) := by decide +kernel
theorem dX10_pieceOf_62 : decode cX10_pieceOf 62 = .ok (.iconst 0, 1) := by decide +kernel
theorem dX10_pieceOf_63 : decode cX10_pieceOf 63 = .ok (.istore 4, 2) := by decide +kernel
theorem dX10_pieceOf_65 : decode cX10_pieceOf 65 = .ok (.iload 4, 2) := by decide +kernel
theorem dX10_pieceOf_67 : decode cX10_pieceOf 67 = .ok (.aload_n 0, 1) := by decide +kernel
theorem dX10_pieceOf_68 : decode cX10_pieceOf 68 = .ok (.getfield 49, 3) := by decide +kernel
theorem dX10_pieceOf_71 : decode cX10_pieceOf 71 = .ok (.bipush 120, 2) := by decide +kernel
theorem dX10_pieceOf_73 : decode cX10_pieceOf 73 = .ok (.iaload, 1) := by decide +kernel
theorem dX10_pieceOf_74 : decode cX10_pieceOf 74 = .ok (.if_icmp .ge 115, 3) := by decide +kernel
theorem dX10_pieceOf_77 : decode cX10_pieceOf 77 = .ok (.aload_n 0, 1) := by decide +kernel
theorem dX10_pieceOf_78 : decode cX10_pieceOf 78 = .ok (.getfield 49, 3) := by decide +kernel
theorem dX10_pieceOf_81 : decode cX10_pieceOf 81 = .ok (.bipush 6, 2) := by decide +kernel
theorem dX10_pieceOf_83 : decode cX10_pieceOf 83 = .ok (.iload 4, 2) := by decide +kernel
theorem dX10_pieceOf_85 : decode cX10_pieceOf 85 = .ok (.imul, 1) := by decide +kernel
theorem dX10_pieceOf_86 : decode cX10_pieceOf 86 = .ok (.iconst 5, 1) := by decide +kernel
theorem dX10_pieceOf_87 : decode cX10_pieceOf 87 = .ok (.iadd, 1) := by decide +kernel
theorem dX10_pieceOf_88 : decode cX10_pieceOf 88 = .ok (.iaload, 1) := by decide +kernel
theorem dX10_pieceOf_89 : decode cX10_pieceOf 89 = .ok (.iconst 1, 1) := by decide +kernel
theorem dX10_pieceOf_90 : decode cX10_pieceOf 90 = .ok (.if_icmp .ne 93, 3) := by decide +kernel
theorem dX10_pieceOf_93 : decode cX10_pieceOf 93 = .ok (.aload_n 0, 1) := by decide +kernel
theorem dX10_pieceOf_94 : decode cX10_pieceOf 94 = .ok (.getfield 49, 3) := by decide +kernel
theorem dX10_pieceOf_97 : decode cX10_pieceOf 97 = .ok (.bipush 6, 2) := by decide +kernel
theorem dX10_pieceOf_99 : decode cX10_pieceOf 99 = .ok (.iload 4, 2) := by decide +kernel
theorem dX10_pieceOf_101 : decode cX10_pieceOf 101 = .ok (.imul, 1) := by decide +kernel
theorem dX10_pieceOf_102 : decode cX10_pieceOf 102 = .ok (.iaload, 1) := by decide +kernel
theorem dX10_pieceOf_103 : decode cX10_pieceOf 103 = .ok (.aload_n 0, 1) := by decide +kernel
theorem dX10_pieceOf_104 : decode cX10_pieceOf 104 = .ok (.getfield 34, 3) := by decide +kernel
theorem dX10_pieceOf_107 : decode cX10_pieceOf 107 = .ok (.iload_n 1, 1) := by decide +kernel
theorem dX10_pieceOf_108 : decode cX10_pieceOf 108 = .ok (.aaload, 1) := by decide +kernel
theorem dX10_pieceOf_109 : decode cX10_pieceOf 109 = .ok (.iconst 0, 1) := by decide +kernel
theorem dX10_pieceOf_110 : decode cX10_pieceOf 110 = .ok (.iaload, 1) := by decide +kernel
theorem dX10_pieceOf_111 : decode cX10_pieceOf 111 = .ok (.if_icmp .ne 72, 3) := by decide +kernel
theorem dX10_pieceOf_114 : decode cX10_pieceOf 114 = .ok (.iload_n 2, 1) := by decide +kernel
theorem dX10_pieceOf_115 : decode cX10_pieceOf 115 = .ok (.aload_n 0, 1) := by decide +kernel
theorem dX10_pieceOf_116 : decode cX10_pieceOf 116 = .ok (.getfield 49, 3) := by decide +kernel
theorem dX10_pieceOf_119 : decode cX10_pieceOf 119 = .ok (.bipush 6, 2) := by decide +kernel
theorem dX10_pieceOf_121 : decode cX10_pieceOf 121 = .ok (.iload 4, 2) := by decide +kernel
theorem dX10_pieceOf_123 : decode cX10_pieceOf 123 = .ok (.imul, 1) := by decide +kernel
theorem dX10_pieceOf_124 : decode cX10_pieceOf 124 = .ok (.iconst 1, 1) := by decide +kernel
theorem dX10_pieceOf_125 : decode cX10_pieceOf 125 = .ok (.iadd, 1) := by decide +kernel
theorem dX10_pieceOf_126 : decode cX10_pieceOf 126 = .ok (.iaload, 1) := by decide +kernel
theorem dX10_pieceOf_127 : decode cX10_pieceOf 127 = .ok (.aload_n 0, 1) := by decide +kernel
theorem dX10_pieceOf_128 : decode cX10_pieceOf 128 = .ok (.getfield 49, 3) := by decide +kernel
theorem dX10_pieceOf_131 : decode cX10_pieceOf 131 = .ok (.bipush 6, 2) := by decide +kernel
theorem dX10_pieceOf_133 : decode cX10_pieceOf 133 = .ok (.iload 4, 2) := by decide +kernel
theorem dX10_pieceOf_135 : decode cX10_pieceOf 135 = .ok (.imul, 1) := by decide +kernel
theorem dX10_pieceOf_136 : decode cX10_pieceOf 136 = .ok (.iconst 2, 1) := by decide +kernel
theorem dX10_pieceOf_137 : decode cX10_pieceOf 137 = .ok (.iadd, 1) := by decide +kernel
theorem dX10_pieceOf_138 : decode cX10_pieceOf 138 = .ok (.iaload, 1) := by decide +kernel
theorem dX10_pieceOf_139 : decode cX10_pieceOf 139 = .ok (.iconst 1, 1) := by decide +kernel
theorem dX10_pieceOf_140 : decode cX10_pieceOf 140 = .ok (.isub, 1) := by decide +kernel
theorem dX10_pieceOf_141 : decode cX10_pieceOf 141 = .ok (.invokestatic 110, 3) := by decide +kernel
theorem dX10_pieceOf_144 : decode cX10_pieceOf 144 = .ok (.ifCond .eq 39, 3) := by decide +kernel
theorem dX10_pieceOf_147 : decode cX10_pieceOf 147 = .ok (.iload_n 3, 1) := by decide +kernel
theorem dX10_pieceOf_148 : decode cX10_pieceOf 148 = .ok (.aload_n 0, 1) := by decide +kernel
theorem dX10_pieceOf_149 : decode cX10_pieceOf 149 = .ok (.getfield 49, 3) := by decide +kernel
theorem dX10_pieceOf_152 : decode cX10_pieceOf 152 = .ok (.bipush 6, 2) := by decide +kernel
theorem dX10_pieceOf_154 : decode cX10_pieceOf 154 = .ok (.iload 4, 2) := by decide +kernel
theorem dX10_pieceOf_156 : decode cX10_pieceOf 156 = .ok (.imul, 1) := by decide +kernel
theorem dX10_pieceOf_157 : decode cX10_pieceOf 157 = .ok (.iconst 3, 1) := by decide +kernel
theorem dX10_pieceOf_158 : decode cX10_pieceOf 158 = .ok (.iadd, 1) := by decide +kernel
theorem dX10_pieceOf_159 : decode cX10_pieceOf 159 = .ok (.iaload, 1) := by decide +kernel
theorem dX10_pieceOf_160 : decode cX10_pieceOf 160 = .ok (.aload_n 0, 1) := by decide +kernel
theorem dX10_pieceOf_161 : decode cX10_pieceOf 161 = .ok (.getfield 49, 3) := by decide +kernel
theorem dX10_pieceOf_164 : decode cX10_pieceOf 164 = .ok (.bipush 6, 2) := by decide +kernel
theorem dX10_pieceOf_166 : decode cX10_pieceOf 166 = .ok (.iload 4, 2) := by decide +kernel
theorem dX10_pieceOf_168 : decode cX10_pieceOf 168 = .ok (.imul, 1) := by decide +kernel
theorem dX10_pieceOf_169 : decode cX10_pieceOf 169 = .ok (.iconst 4, 1) := by decide +kernel
theorem dX10_pieceOf_170 : decode cX10_pieceOf 170 = .ok (.iadd, 1) := by decide +kernel
theorem dX10_pieceOf_171 : decode cX10_pieceOf 171 = .ok (.iaload, 1) := by decide +kernel
theorem dX10_pieceOf_172 : decode cX10_pieceOf 172 = .ok (.iconst 1, 1) := by decide +kernel
theorem dX10_pieceOf_173 : decode cX10_pieceOf 173 = .ok (.isub, 1) := by decide +kernel
theorem dX10_pieceOf_174 : decode cX10_pieceOf 174 = .ok (.invokestatic 110, 3) := by decide +kernel
theorem dX10_pieceOf_177 : decode cX10_pieceOf 177 = .ok (.ifCond .eq 6, 3) := by decide +kernel
theorem dX10_pieceOf_180 : decode cX10_pieceOf 180 = .ok (.iload 4, 2) := by decide +kernel
theorem dX10_pieceOf_182 : decode cX10_pieceOf 182 = .ok (.ireturn, 1) := by decide +kernel
theorem dX10_pieceOf_183 : decode cX10_pieceOf 183 = .ok (.iinc 4 1, 3) := by decide +kernel
theorem dX10_pieceOf_186 : decode cX10_pieceOf 186 = .ok (.goto (-121), 3) := by decide +kernel
theorem dX10_pieceOf_189 : decode cX10_pieceOf 189 = .ok (.iconst (-1), 1) := by decide +kernel
theorem dX10_pieceOf_190 : decode cX10_pieceOf 190 = .ok (.ireturn, 1) := by decide +kernel
theorem dX10_isInside_0 : decode cX10_isInside 0 = .ok (.bipush 6, 2) := by decide +kernel
theorem dX10_isInside_2 : decode cX10_isInside 2 = .ok (.iload_n 2, 1) := by decide +kernel
theorem dX10_isInside_3 : decode cX10_isInside 3 = .ok (.imul, 1) := by decide +kernel
theorem dX10_isInside_4 : decode cX10_isInside 4 = .ok (.iconst 1, 1) := by decide +kernel
theorem dX10_isInside_5 : decode cX10_isInside 5 = .ok (.iadd, 1) := by decide +kernel
theorem dX10_isInside_6 : decode cX10_isInside 6 = .ok (.iconst 2, 1) := by decide +kernel
theorem dX10_isInside_7 : decode cX10_isInside 7 = .ok (.aload_n 0, 1) := by decide +kernel
theorem dX10_isInside_8 : decode cX10_isInside 8 = .ok (.getfield 34, 3) := by decide +kernel
theorem dX10_isInside_11 : decode cX10_isInside 11 = .ok (.iload_n 1, 1) := by decide +kernel
theorem dX10_isInside_12 : decode cX10_isInside 12 = .ok (.aaload, 1) := by decide +kernel
theorem dX10_isInside_13 : decode cX10_isInside 13 = .ok (.iconst 1, 1) := by decide +kernel
theorem dX10_isInside_14 : decode cX10_isInside 14 = .ok (.iaload, 1) := by decide +kernel
theorem dX10_isInside_15 : decode cX10_isInside 15 = .ok (.imul, 1) := by decide +kernel
theorem dX10_isInside_16 : decode cX10_isInside 16 = .ok (.iadd, 1) := by decide +kernel
theorem dX10_isInside_17 : decode cX10_isInside 17 = .ok (.istore 4, 2) := by decide +kernel
theorem dX10_isInside_19 : decode cX10_isInside 19 = .ok (.iload_n 3, 1) := by decide +kernel
theorem dX10_isInside_20 : decode cX10_isInside 20 = .ok (.aload_n 0, 1) := by decide +kernel
theorem dX10_isInside_21 : decode cX10_isInside 21 = .ok (.getfield 49, 3) := by decide +kernel
theorem dX10_isInside_24 : decode cX10_isInside 24 = .ok (.iload 4, 2) := by decide +kernel
theorem dX10_isInside_26 : decode cX10_isInside 26 = .ok (.iaload, 1) := by decide +kernel
theorem dX10_isInside_27 : decode cX10_isInside 27 = .ok (.if_icmp .le 20, 3) := by decide +kernel
theorem dX10_isInside_30 : decode cX10_isInside 30 = .ok (.iload_n 3, 1) := by decide +kernel
theorem dX10_isInside_31 : decode cX10_isInside 31 = .ok (.aload_n 0, 1) := by decide +kernel
theorem dX10_isInside_32 : decode cX10_isInside 32 = .ok (.getfield 49, 3) := by decide +kernel
theorem dX10_isInside_35 : decode cX10_isInside 35 = .ok (.iload 4, 2) := by decide +kernel
theorem dX10_isInside_37 : decode cX10_isInside 37 = .ok (.iconst 1, 1) := by decide +kernel
theorem dX10_isInside_38 : decode cX10_isInside 38 = .ok (.iadd, 1) := by decide +kernel
theorem dX10_isInside_39 : decode cX10_isInside 39 = .ok (.iaload, 1) := by decide +kernel
theorem dX10_isInside_40 : decode cX10_isInside 40 = .ok (.if_icmp .ge 7, 3) := by decide +kernel
theorem dX10_isInside_43 : decode cX10_isInside 43 = .ok (.iconst 1, 1) := by decide +kernel
theorem dX10_isInside_44 : decode cX10_isInside 44 = .ok (.goto 4, 3) := by decide +kernel
theorem dX10_isInside_47 : decode cX10_isInside 47 = .ok (.iconst 0, 1) := by decide +kernel
theorem dX10_isInside_48 : decode cX10_isInside 48 = .ok (.ireturn, 1) := by decide +kernel
theorem dX10_isAlive_0 : decode cX10_isAlive 0 = .ok (.aload_n 0, 1) := by decide +kernel
theorem dX10_isAlive_1 : decode cX10_isAlive 1 = .ok (.getfield 49, 3) := by decide +kernel
theorem dX10_isAlive_4 : decode cX10_isAlive 4 = .ok (.sipush 133, 3) := by decide +kernel
theorem dX10_isAlive_7 : decode cX10_isAlive 7 = .ok (.iload_n 1, 1) := by decide +kernel
theorem dX10_isAlive_8 : decode cX10_isAlive 8 = .ok (.iadd, 1) := by decide +kernel
theorem dX10_isAlive_9 : decode cX10_isAlive 9 = .ok (.iaload, 1) := by decide +kernel
theorem dX10_isAlive_10 : decode cX10_isAlive 10 = .ok (.ifCond .le 5, 3) := by decide +kernel
theorem dX10_isAlive_13 : decode cX10_isAlive 13 = .ok (.iconst 0, 1) := by decide +kernel
theorem dX10_isAlive_14 : decode cX10_isAlive 14 = .ok (.ireturn, 1) := by decide +kernel
theorem dX10_isAlive_15 : decode cX10_isAlive 15 = .ok (.aload_n 0, 1) := by decide +kernel
theorem dX10_isAlive_16 : decode cX10_isAlive 16 = .ok (.iload_n 1, 1) := by decide +kernel
theorem dX10_isAlive_17 : decode cX10_isAlive 17 = .ok (.invokevirtual 168, 3) := by decide +kernel
theorem dX10_isAlive_20 : decode cX10_isAlive 20 = .ok (.istore_n 2, 1) := by decide +kernel
theorem dX10_isAlive_21 : decode cX10_isAlive 21 = .ok (.iload_n 2, 1) := by decide +kernel
theorem dX10_isAlive_22 : decode cX10_isAlive 22 = .ok (.iconst (-1), 1) := by decide +kernel
theorem dX10_isAlive_23 : decode cX10_isAlive 23 = .ok (.if_icmp .eq 24, 3) := by decide +kernel
theorem dX10_isAlive_26 : decode cX10_isAlive 26 = .ok (.aload_n 0, 1) := by decide +kernel
theorem dX10_isAlive_27 : decode cX10_isAlive 27 = .ok (.iload_n 1, 1) := by decide +kernel
theorem dX10_isAlive_28 : decode cX10_isAlive 28 = .ok (.iload_n 2, 1) := by decide +kernel
theorem dX10_isAlive_29 : decode cX10_isAlive 29 = .ok (.aload_n 0, 1) := by decide +kernel
theorem dX10_isAlive_30 : decode cX10_isAlive 30 = .ok (.getfield 34, 3) := by decide +kernel
theorem dX10_isAlive_33 : decode cX10_isAlive 33 = .ok (.iload_n 1, 1) := by decide +kernel
theorem dX10_isAlive_34 : decode cX10_isAlive 34 = .ok (.aaload, 1) := by decide +kernel
theorem dX10_isAlive_35 : decode cX10_isAlive 35 = .ok (.iconst 2, 1) := by decide +kernel
theorem dX10_isAlive_36 : decode cX10_isAlive 36 = .ok (.iaload, 1) := by decide +kernel
theorem dX10_isAlive_37 : decode cX10_isAlive 37 = .ok (.invokevirtual 171, 3) := by decide +kernel
theorem dX10_isAlive_40 : decode cX10_isAlive 40 = .ok (.ifCond .eq 7, 3) := by decide +kernel
theorem dX10_isAlive_43 : decode cX10_isAlive 43 = .ok (.iconst 1, 1) := by decide +kernel
theorem dX10_isAlive_44 : decode cX10_isAlive 44 = .ok (.goto 4, 3) := by decide +kernel
theorem dX10_isAlive_47 : decode cX10_isAlive 47 = .ok (.iconst 0, 1) := by decide +kernel
theorem dX10_isAlive_48 : decode cX10_isAlive 48 = .ok (.ireturn, 1) := by decide +kernel
theorem dX10_isAcross_0 : decode cX10_isAcross 0 = .ok (.aload_n 0, 1) := by decide +kernel
theorem dX10_isAcross_1 : decode cX10_isAcross 1 = .ok (.getfield 34, 3) := by decide +kernel
theorem dX10_isAcross_4 : decode cX10_isAcross 4 = .ok (.iload_n 1, 1) := by decide +kernel
theorem dX10_isAcross_5 : decode cX10_isAcross 5 = .ok (.aaload, 1) := by decide +kernel
theorem dX10_isAcross_6 : decode cX10_isAcross 6 = .ok (.iconst 1, 1) := by decide +kernel
theorem dX10_isAcross_7 : decode cX10_isAcross 7 = .ok (.iaload, 1) := by decide +kernel
theorem dX10_isAcross_8 : decode cX10_isAcross 8 = .ok (.aload_n 0, 1) := by decide +kernel
theorem dX10_isAcross_9 : decode cX10_isAcross 9 = .ok (.getfield 28, 3) := by decide +kernel
theorem dX10_isAcross_12 : decode cX10_isAcross 12 = .ok (.aload_n 0, 1) := by decide +kernel
theorem dX10_isAcross_13 : decode cX10_isAcross 13 = .ok (.getfield 34, 3) := by decide +kernel
theorem dX10_isAcross_16 : decode cX10_isAcross 16 = .ok (.iload_n 1, 1) := by decide +kernel
theorem dX10_isAcross_17 : decode cX10_isAcross 17 = .ok (.aaload, 1) := by decide +kernel
theorem dX10_isAcross_18 : decode cX10_isAcross 18 = .ok (.iconst 0, 1) := by decide +kernel
theorem dX10_isAcross_19 : decode cX10_isAcross 19 = .ok (.iaload, 1) := by decide +kernel
theorem dX10_isAcross_20 : decode cX10_isAcross 20 = .ok (.aaload, 1) := by decide +kernel
theorem dX10_isAcross_21 : decode cX10_isAcross 21 = .ok (.iconst 2, 1) := by decide +kernel
theorem dX10_isAcross_22 : decode cX10_isAcross 22 = .ok (.iaload, 1) := by decide +kernel
theorem dX10_isAcross_23 : decode cX10_isAcross 23 = .ok (.if_icmp .eq 7, 3) := by decide +kernel
theorem dX10_isAcross_26 : decode cX10_isAcross 26 = .ok (.iconst 1, 1) := by decide +kernel
theorem dX10_isAcross_27 : decode cX10_isAcross 27 = .ok (.goto 4, 3) := by decide +kernel
theorem dX10_isAcross_30 : decode cX10_isAcross 30 = .ok (.iconst 0, 1) := by decide +kernel
theorem dX10_isAcross_31 : decode cX10_isAcross 31 = .ok (.ireturn, 1) := by decide +kernel
theorem dX10_needOf_0 : decode cX10_needOf 0 = .ok (.iconst 4, 1) := by decide +kernel
theorem dX10_needOf_1 : decode cX10_needOf 1 = .ok (.aload_n 0, 1) := by decide +kernel
theorem dX10_needOf_2 : decode cX10_needOf 2 = .ok (.iload_n 1, 1) := by decide +kernel
theorem dX10_needOf_3 : decode cX10_needOf 3 = .ok (.invokevirtual 174, 3) := by decide +kernel
theorem dX10_needOf_6 : decode cX10_needOf 6 = .ok (.ifCond .eq 7, 3) := by decide +kernel
theorem dX10_needOf_9 : decode cX10_needOf 9 = .ok (.iconst 2, 1) := by decide +kernel
theorem dX10_needOf_10 : decode cX10_needOf 10 = .ok (.goto 4, 3) := by decide +kernel
theorem dX10_needOf_13 : decode cX10_needOf 13 = .ok (.iconst 0, 1) := by decide +kernel
theorem dX10_needOf_14 : decode cX10_needOf 14 = .ok (.iadd, 1) := by decide +kernel
theorem dX10_needOf_15 : decode cX10_needOf 15 = .ok (.aload_n 0, 1) := by decide +kernel
theorem dX10_needOf_16 : decode cX10_needOf 16 = .ok (.getfield 49, 3) := by decide +kernel
theorem dX10_needOf_19 : decode cX10_needOf 19 = .ok (.bipush 121, 2) := by decide +kernel
theorem dX10_needOf_21 : decode cX10_needOf 21 = .ok (.iload_n 1, 1) := by decide +kernel
theorem dX10_needOf_22 : decode cX10_needOf 22 = .ok (.iadd, 1) := by decide +kernel
theorem dX10_needOf_23 : decode cX10_needOf 23 = .ok (.iaload, 1) := by decide +kernel
theorem dX10_needOf_24 : decode cX10_needOf 24 = .ok (.iconst 3, 1) := by decide +kernel
theorem dX10_needOf_25 : decode cX10_needOf 25 = .ok (.idiv, 1) := by decide +kernel
theorem dX10_needOf_26 : decode cX10_needOf 26 = .ok (.isub, 1) := by decide +kernel
theorem dX10_needOf_27 : decode cX10_needOf 27 = .ok (.ireturn, 1) := by decide +kernel
theorem dX10_isSlot_0 : decode cX10_isSlot 0 = .ok (.iload_n 1, 1) := by decide +kernel
theorem dX10_isSlot_1 : decode cX10_isSlot 1 = .ok (.iconst 0, 1) := by decide +kernel
theorem dX10_isSlot_2 : decode cX10_isSlot 2 = .ok (.aload_n 0, 1) := by decide +kernel
theorem dX10_isSlot_3 : decode cX10_isSlot 3 = .ok (.getfield 20, 3) := by decide +kernel
theorem dX10_isSlot_6 : decode cX10_isSlot 6 = .ok (.iconst 1, 1) := by decide +kernel
theorem dX10_isSlot_7 : decode cX10_isSlot 7 = .ok (.iaload, 1) := by decide +kernel
theorem dX10_isSlot_8 : decode cX10_isSlot 8 = .ok (.iconst 1, 1) := by decide +kernel
theorem dX10_isSlot_9 : decode cX10_isSlot 9 = .ok (.isub, 1) := by decide +kernel
theorem dX10_isSlot_10 : decode cX10_isSlot 10 = .ok (.invokestatic 110, 3) := by decide +kernel
theorem dX10_isSlot_13 : decode cX10_isSlot 13 = .ok (.ireturn, 1) := by decide +kernel
theorem dX10_slot_0 : decode cX10_slot 0 = .ok (.aload_n 0, 1) := by decide +kernel
theorem dX10_slot_1 : decode cX10_slot 1 = .ok (.iconst 0, 1) := by decide +kernel
theorem dX10_slot_2 : decode cX10_slot 2 = .ok (.putfield 76, 3) := by decide +kernel
theorem dX10_slot_5 : decode cX10_slot 5 = .ok (.aload_n 0, 1) := by decide +kernel
theorem dX10_slot_6 : decode cX10_slot 6 = .ok (.aload_n 0, 1) := by decide +kernel
theorem dX10_slot_7 : decode cX10_slot 7 = .ok (.iload_n 1, 1) := by decide +kernel
theorem dX10_slot_8 : decode cX10_slot 8 = .ok (.invokevirtual 177, 3) := by decide +kernel
theorem dX10_slot_11 : decode cX10_slot 11 = .ok (.ifCond .ne 7, 3) := by decide +kernel
theorem dX10_slot_14 : decode cX10_slot 14 = .ok (.iconst 1, 1) := by decide +kernel
theorem dX10_slot_15 : decode cX10_slot 15 = .ok (.goto 4, 3) := by decide +kernel
theorem dX10_slot_18 : decode cX10_slot 18 = .ok (.iconst 0, 1) := by decide +kernel
theorem dX10_slot_19 : decode cX10_slot 19 = .ok (.iconst 1, 1) := by decide +kernel
theorem dX10_slot_20 : decode cX10_slot 20 = .ok (.invokevirtual 148, 3) := by decide +kernel
theorem dX10_slot_23 : decode cX10_slot 23 = .ok (.ifCond .ne 26, 3) := by decide +kernel
theorem dX10_slot_26 : decode cX10_slot 26 = .ok (.aload_n 0, 1) := by decide +kernel
theorem dX10_slot_27 : decode cX10_slot 27 = .ok (.iload_n 2, 1) := by decide +kernel
theorem dX10_slot_28 : decode cX10_slot 28 = .ok (.iconst 0, 1) := by decide +kernel
theorem dX10_slot_29 : decode cX10_slot 29 = .ok (.bipush 7, 2) := by decide +kernel
theorem dX10_slot_31 : decode cX10_slot 31 = .ok (.invokestatic 110, 3) := by decide +kernel
theorem dX10_slot_34 : decode cX10_slot 34 = .ok (.ifCond .ne 7, 3) := by decide +kernel
theorem dX10_slot_37 : decode cX10_slot 37 = .ok (.iconst 1, 1) := by decide +kernel
theorem dX10_slot_38 : decode cX10_slot 38 = .ok (.goto 4, 3) := by decide +kernel
theorem dX10_slot_41 : decode cX10_slot 41 = .ok (.iconst 0, 1) := by decide +kernel
theorem dX10_slot_42 : decode cX10_slot 42 = .ok (.iconst 2, 1) := by decide +kernel
theorem dX10_slot_43 : decode cX10_slot 43 = .ok (.invokevirtual 148, 3) := by decide +kernel
theorem dX10_slot_46 : decode cX10_slot 46 = .ok (.ifCond .eq 5, 3) := by decide +kernel
theorem dX10_slot_49 : decode cX10_slot 49 = .ok (.iconst 0, 1) := by decide +kernel
theorem dX10_slot_50 : decode cX10_slot 50 = .ok (.ireturn, 1) := by decide +kernel
theorem dX10_slot_51 : decode cX10_slot 51 = .ok (.iload_n 2, 1) := by decide +kernel
theorem dX10_slot_52 : decode cX10_slot 52 = .ok (.iconst 4, 1) := by decide +kernel
theorem dX10_slot_53 : decode cX10_slot 53 = .ok (.if_icmp .ge 12, 3) := by decide +kernel
theorem dX10_slot_56 : decode cX10_slot 56 = .ok (.aload_n 0, 1) := by decide +kernel
theorem dX10_slot_57 : decode cX10_slot 57 = .ok (.getfield 34, 3) := by decide +kernel
theorem dX10_slot_60 : decode cX10_slot 60 = .ok (.iload_n 1, 1) := by decide +kernel
theorem dX10_slot_61 : decode cX10_slot 61 = .ok (.aaload, 1) := by decide +kernel
theorem dX10_slot_62 : decode cX10_slot 62 = .ok (.iload_n 2, 1) := by decide +kernel
theorem dX10_slot_63 : decode cX10_slot 63 = .ok (.iaload, 1) := by decide +kernel
theorem dX10_slot_64 : decode cX10_slot 64 = .ok (.ireturn, 1) := by decide +kernel
theorem dX10_slot_65 : decode cX10_slot 65 = .ok (.iload_n 2, 1) := by decide +kernel
theorem dX10_slot_66 : decode cX10_slot 66 = .ok (.iconst 4, 1) := by decide +kernel
theorem dX10_slot_67 : decode cX10_slot 67 = .ok (.if_icmp .ne 15, 3) := by decide +kernel
theorem dX10_slot_70 : decode cX10_slot 70 = .ok (.aload_n 0, 1) := by decide +kernel
theorem dX10_slot_71 : decode cX10_slot 71 = .ok (.getfield 49, 3) := by decide +kernel
theorem dX10_slot_74 : decode cX10_slot 74 = .ok (.bipush 121, 2) := by decide +kernel
theorem dX10_slot_76 : decode cX10_slot 76 = .ok (.iload_n 1, 1) := by decide +kernel
theorem dX10_slot_77 : decode cX10_slot 77 = .ok (.iadd, 1) := by decide +kernel
theorem dX10_slot_78 : decode cX10_slot 78 = .ok (.iaload, 1) := by decide +kernel
theorem dX10_slot_79 : decode cX10_slot 79 = .ok (.goto 43, 3) := by decide +kernel
theorem dX10_slot_82 : decode cX10_slot 82 = .ok (.iload_n 2, 1) := by decide +kernel
theorem dX10_slot_83 : decode cX10_slot 83 = .ok (.iconst 5, 1) := by decide +kernel
theorem dX10_slot_84 : decode cX10_slot 84 = .ok (.if_icmp .ne 11, 3) := by decide +kernel
theorem dX10_slot_87 : decode cX10_slot 87 = .ok (.aload_n 0, 1) := by decide +kernel
theorem dX10_slot_88 : decode cX10_slot 88 = .ok (.iload_n 1, 1) := by decide +kernel
theorem dX10_slot_89 : decode cX10_slot 89 = .ok (.invokevirtual 180, 3) := by decide +kernel
theorem dX10_slot_92 : decode cX10_slot 92 = .ok (.goto 30, 3) := by decide +kernel
theorem dX10_slot_95 : decode cX10_slot 95 = .ok (.iload_n 2, 1) := by decide +kernel
theorem dX10_slot_96 : decode cX10_slot 96 = .ok (.bipush 6, 2) := by decide +kernel
theorem dX10_slot_98 : decode cX10_slot 98 = .ok (.if_icmp .ne 19, 3) := by decide +kernel
theorem dX10_slot_101 : decode cX10_slot 101 = .ok (.aload_n 0, 1) := by decide +kernel
theorem dX10_slot_102 : decode cX10_slot 102 = .ok (.iload_n 1, 1) := by decide +kernel
theorem dX10_slot_103 : decode cX10_slot 103 = .ok (.invokevirtual 183, 3) := by decide +kernel
theorem dX10_slot_106 : decode cX10_slot 106 = .ok (.ifCond .eq 7, 3) := by decide +kernel
theorem dX10_slot_109 : decode cX10_slot 109 = .ok (.iconst 1, 1) := by decide +kernel
theorem dX10_slot_110 : decode cX10_slot 110 = .ok (.goto 12, 3) := by decide +kernel
theorem dX10_slot_113 : decode cX10_slot 113 = .ok (.iconst 0, 1) := by decide +kernel
theorem dX10_slot_114 : decode cX10_slot 114 = .ok (.goto 8, 3) := by decide +kernel
theorem dX10_slot_117 : decode cX10_slot 117 = .ok (.aload_n 0, 1) := by decide +kernel
theorem dX10_slot_118 : decode cX10_slot 118 = .ok (.iload_n 1, 1) := by decide +kernel
theorem dX10_slot_119 : decode cX10_slot 119 = .ok (.invokevirtual 168, 3) := by decide +kernel
theorem dX10_slot_122 : decode cX10_slot 122 = .ok (.ireturn, 1) := by decide +kernel
theorem dX10_isOrder_0 : decode cX10_isOrder 0 = .ok (.iload_n 1, 1) := by decide +kernel
theorem dX10_isOrder_1 : decode cX10_isOrder 1 = .ok (.iconst 0, 1) := by decide +kernel
theorem dX10_isOrder_2 : decode cX10_isOrder 2 = .ok (.aload_n 0, 1) := by decide +kernel
theorem dX10_isOrder_3 : decode cX10_isOrder 3 = .ok (.getfield 20, 3) := by decide +kernel
theorem dX10_isOrder_6 : decode cX10_isOrder 6 = .ok (.iconst 2, 1) := by decide +kernel
theorem dX10_isOrder_7 : decode cX10_isOrder 7 = .ok (.iaload, 1) := by decide +kernel
theorem dX10_isOrder_8 : decode cX10_isOrder 8 = .ok (.iconst 1, 1) := by decide +kernel
theorem dX10_isOrder_9 : decode cX10_isOrder 9 = .ok (.isub, 1) := by decide +kernel
theorem dX10_isOrder_10 : decode cX10_isOrder 10 = .ok (.invokestatic 110, 3) := by decide +kernel
theorem dX10_isOrder_13 : decode cX10_isOrder 13 = .ok (.ireturn, 1) := by decide +kernel
theorem dX10_order_0 : decode cX10_order 0 = .ok (.aload_n 0, 1) := by decide +kernel
theorem dX10_order_1 : decode cX10_order 1 = .ok (.iconst 0, 1) := by decide +kernel
theorem dX10_order_2 : decode cX10_order 2 = .ok (.putfield 76, 3) := by decide +kernel
theorem dX10_order_5 : decode cX10_order 5 = .ok (.aload_n 0, 1) := by decide +kernel
theorem dX10_order_6 : decode cX10_order 6 = .ok (.aload_n 0, 1) := by decide +kernel
theorem dX10_order_7 : decode cX10_order 7 = .ok (.iload_n 1, 1) := by decide +kernel
theorem dX10_order_8 : decode cX10_order 8 = .ok (.invokevirtual 186, 3) := by decide +kernel
theorem dX10_order_11 : decode cX10_order 11 = .ok (.ifCond .ne 7, 3) := by decide +kernel
theorem dX10_order_14 : decode cX10_order 14 = .ok (.iconst 1, 1) := by decide +kernel
theorem dX10_order_15 : decode cX10_order 15 = .ok (.goto 4, 3) := by decide +kernel
theorem dX10_order_18 : decode cX10_order 18 = .ok (.iconst 0, 1) := by decide +kernel
theorem dX10_order_19 : decode cX10_order 19 = .ok (.iconst 1, 1) := by decide +kernel
theorem dX10_order_20 : decode cX10_order 20 = .ok (.invokevirtual 148, 3) := by decide +kernel
theorem dX10_order_23 : decode cX10_order 23 = .ok (.ifCond .ne 25, 3) := by decide +kernel
theorem dX10_order_26 : decode cX10_order 26 = .ok (.aload_n 0, 1) := by decide +kernel
theorem dX10_order_27 : decode cX10_order 27 = .ok (.iload_n 2, 1) := by decide +kernel
theorem dX10_order_28 : decode cX10_order 28 = .ok (.iconst 0, 1) := by decide +kernel
theorem dX10_order_29 : decode cX10_order 29 = .ok (.iconst 5, 1) := by decide +kernel
theorem dX10_order_30 : decode cX10_order 30 = .ok (.invokestatic 110, 3) := by decide +kernel
theorem dX10_order_33 : decode cX10_order 33 = .ok (.ifCond .ne 7, 3) := by decide +kernel
theorem dX10_order_36 : decode cX10_order 36 = .ok (.iconst 1, 1) := by decide +kernel
theorem dX10_order_37 : decode cX10_order 37 = .ok (.goto 4, 3) := by decide +kernel
theorem dX10_order_40 : decode cX10_order 40 = .ok (.iconst 0, 1) := by decide +kernel
theorem dX10_order_41 : decode cX10_order 41 = .ok (.iconst 2, 1) := by decide +kernel
theorem dX10_order_42 : decode cX10_order 42 = .ok (.invokevirtual 148, 3) := by decide +kernel
theorem dX10_order_45 : decode cX10_order 45 = .ok (.ifCond .eq 5, 3) := by decide +kernel
theorem dX10_order_48 : decode cX10_order 48 = .ok (.iconst 0, 1) := by decide +kernel
theorem dX10_order_49 : decode cX10_order 49 = .ok (.ireturn, 1) := by decide +kernel
theorem dX10_order_50 : decode cX10_order 50 = .ok (.iload_n 2, 1) := by decide +kernel
theorem dX10_order_51 : decode cX10_order 51 = .ok (.iconst 5, 1) := by decide +kernel
theorem dX10_order_52 : decode cX10_order 52 = .ok (.if_icmp .ge 14, 3) := by decide +kernel
theorem dX10_order_55 : decode cX10_order 55 = .ok (.aload_n 0, 1) := by decide +kernel
theorem dX10_order_56 : decode cX10_order 56 = .ok (.getfield 40, 3) := by decide +kernel
theorem dX10_order_59 : decode cX10_order 59 = .ok (.iload_n 1, 1) := by decide +kernel
theorem dX10_order_60 : decode cX10_order 60 = .ok (.aaload, 1) := by decide +kernel
theorem dX10_order_61 : decode cX10_order 61 = .ok (.iload_n 2, 1) := by decide +kernel
theorem dX10_order_62 : decode cX10_order 62 = .ok (.iaload, 1) := by decide +kernel
theorem dX10_order_63 : decode cX10_order 63 = .ok (.goto 13, 3) := by decide +kernel
theorem dX10_order_66 : decode cX10_order 66 = .ok (.aload_n 0, 1) := by decide +kernel
theorem dX10_order_67 : decode cX10_order 67 = .ok (.getfield 49, 3) := by decide +kernel
theorem dX10_order_70 : decode cX10_order 70 = .ok (.sipush 145, 3) := by decide +kernel
theorem dX10_order_73 : decode cX10_order 73 = .ok (.iload_n 1, 1) := by decide +kernel
theorem dX10_order_74 : decode cX10_order 74 = .ok (.iadd, 1) := by decide +kernel
theorem dX10_order_75 : decode cX10_order 75 = .ok (.iaload, 1) := by decide +kernel
theorem dX10_order_76 : decode cX10_order 76 = .ok (.ireturn, 1) := by decide +kernel
theorem dX10_piece_0 : decode cX10_piece 0 = .ok (.aload_n 0, 1) := by decide +kernel
theorem dX10_piece_1 : decode cX10_piece 1 = .ok (.iconst 0, 1) := by decide +kernel
theorem dX10_piece_2 : decode cX10_piece 2 = .ok (.putfield 76, 3) := by decide +kernel
theorem dX10_piece_5 : decode cX10_piece 5 = .ok (.aload_n 0, 1) := by decide +kernel
theorem dX10_piece_6 : decode cX10_piece 6 = .ok (.iload_n 1, 1) := by decide +kernel
theorem dX10_piece_7 : decode cX10_piece 7 = .ok (.iconst 0, 1) := by decide +kernel
theorem dX10_piece_8 : decode cX10_piece 8 = .ok (.aload_n 0, 1) := by decide +kernel
theorem dX10_piece_9 : decode cX10_piece 9 = .ok (.getfield 49, 3) := by decide +kernel
theorem dX10_piece_12 : decode cX10_piece 12 = .ok (.bipush 120, 2) := by decide +kernel
theorem dX10_piece_14 : decode cX10_piece 14 = .ok (.iaload, 1) := by decide +kernel
theorem dX10_piece_15 : decode cX10_piece 15 = .ok (.iconst 1, 1) := by decide +kernel
theorem dX10_piece_16 : decode cX10_piece 16 = .ok (.isub, 1) := by decide +kernel
theorem dX10_piece_17 : decode cX10_piece 17 = .ok (.invokestatic 110, 3) := by decide +kernel
theorem dX10_piece_20 : decode cX10_piece 20 = .ok (.ifCond .ne 7, 3) := by decide +kernel
theorem dX10_piece_23 : decode cX10_piece 23 = .ok (.iconst 1, 1) := by decide +kernel
theorem dX10_piece_24 : decode cX10_piece 24 = .ok (.goto 4, 3) := by decide +kernel
theorem dX10_piece_27 : decode cX10_piece 27 = .ok (.iconst 0, 1) := by decide +kernel
theorem dX10_piece_28 : decode cX10_piece 28 = .ok (.iconst 1, 1) := by decide +kernel
theorem dX10_piece_29 : decode cX10_piece 29 = .ok (.invokevirtual 148, 3) := by decide +kernel
theorem dX10_piece_32 : decode cX10_piece 32 = .ok (.ifCond .ne 25, 3) := by decide +kernel
theorem dX10_piece_35 : decode cX10_piece 35 = .ok (.aload_n 0, 1) := by decide +kernel
theorem dX10_piece_36 : decode cX10_piece 36 = .ok (.iload_n 2, 1) := by decide +kernel
theorem dX10_piece_37 : decode cX10_piece 37 = .ok (.iconst 0, 1) := by decide +kernel
theorem dX10_piece_38 : decode cX10_piece 38 = .ok (.iconst 5, 1) := by decide +kernel
theorem dX10_piece_39 : decode cX10_piece 39 = .ok (.invokestatic 110, 3) := by decide +kernel
theorem dX10_piece_42 : decode cX10_piece 42 = .ok (.ifCond .ne 7, 3) := by decide +kernel
theorem dX10_piece_45 : decode cX10_piece 45 = .ok (.iconst 1, 1) := by decide +kernel
theorem dX10_piece_46 : decode cX10_piece 46 = .ok (.goto 4, 3) := by decide +kernel
theorem dX10_piece_49 : decode cX10_piece 49 = .ok (.iconst 0, 1) := by decide +kernel
theorem dX10_piece_50 : decode cX10_piece 50 = .ok (.iconst 2, 1) := by decide +kernel
theorem dX10_piece_51 : decode cX10_piece 51 = .ok (.invokevirtual 148, 3) := by decide +kernel
theorem dX10_piece_54 : decode cX10_piece 54 = .ok (.ifCond .eq 5, 3) := by decide +kernel
theorem dX10_piece_57 : decode cX10_piece 57 = .ok (.iconst 0, 1) := by decide +kernel
theorem dX10_piece_58 : decode cX10_piece 58 = .ok (.ireturn, 1) := by decide +kernel
theorem dX10_piece_59 : decode cX10_piece 59 = .ok (.aload_n 0, 1) := by decide +kernel
theorem dX10_piece_60 : decode cX10_piece 60 = .ok (.getfield 49, 3) := by decide +kernel
theorem dX10_piece_63 : decode cX10_piece 63 = .ok (.bipush 6, 2) := by decide +kernel
theorem dX10_piece_65 : decode cX10_piece 65 = .ok (.iload_n 1, 1) := by decide +kernel
theorem dX10_piece_66 : decode cX10_piece 66 = .ok (.imul, 1) := by decide +kernel
theorem dX10_piece_67 : decode cX10_piece 67 = .ok (.iload_n 2, 1) := by decide +kernel
theorem dX10_piece_68 : decode cX10_piece 68 = .ok (.iadd, 1) := by decide +kernel
theorem dX10_piece_69 : decode cX10_piece 69 = .ok (.iaload, 1) := by decide +kernel
theorem dX10_piece_70 : decode cX10_piece 70 = .ok (.ireturn, 1) := by decide +kernel
theorem dX10_odds_0 : decode cX10_odds 0 = .ok (.aload_n 0, 1) := by decide +kernel
theorem dX10_odds_1 : decode cX10_odds 1 = .ok (.iconst 0, 1) := by decide +kernel
theorem dX10_odds_2 : decode cX10_odds 2 = .ok (.putfield 76, 3) := by decide +kernel
theorem dX10_odds_5 : decode cX10_odds 5 = .ok (.aload_n 0, 1) := by decide +kernel
theorem dX10_odds_6 : decode cX10_odds 6 = .ok (.iload_n 1, 1) := by decide +kernel
theorem dX10_odds_7 : decode cX10_odds 7 = .ok (.iconst 0, 1) := by decide +kernel
theorem dX10_odds_8 : decode cX10_odds 8 = .ok (.bipush 29, 2) := by decide +kernel
theorem dX10_odds_10 : decode cX10_odds 10 = .ok (.invokestatic 110, 3) := by decide +kernel
theorem dX10_odds_13 : decode cX10_odds 13 = .ok (.ifCond .eq 13, 3) := by decide +kernel
theorem dX10_odds_16 : decode cX10_odds 16 = .ok (.iload_n 2, 1) := by decide +kernel
theorem dX10_odds_17 : decode cX10_odds 17 = .ok (.iconst 1, 1) := by decide +kernel
theorem dX10_odds_18 : decode cX10_odds 18 = .ok (.bipush 9, 2) := by decide +kernel
theorem dX10_odds_20 : decode cX10_odds 20 = .ok (.invokestatic 110, 3) := by decide +kernel
theorem dX10_odds_23 : decode cX10_odds 23 = .ok (.ifCond .ne 7, 3) := by decide +kernel
theorem dX10_odds_26 : decode cX10_odds 26 = .ok (.iconst 1, 1) := by decide +kernel
theorem dX10_odds_27 : decode cX10_odds 27 = .ok (.goto 4, 3) := by decide +kernel
theorem dX10_odds_30 : decode cX10_odds 30 = .ok (.iconst 0, 1) := by decide +kernel
theorem dX10_odds_31 : decode cX10_odds 31 = .ok (.iconst 1, 1) := by decide +kernel
theorem dX10_odds_32 : decode cX10_odds 32 = .ok (.invokevirtual 148, 3) := by decide +kernel
theorem dX10_odds_35 : decode cX10_odds 35 = .ok (.ifCond .eq 5, 3) := by decide +kernel
theorem dX10_odds_38 : decode cX10_odds 38 = .ok (.iconst 0, 1) := by decide +kernel
theorem dX10_odds_39 : decode cX10_odds 39 = .ok (.ireturn, 1) := by decide +kernel
theorem dX10_odds_40 : decode cX10_odds 40 = .ok (.iconst 0, 1) := by decide +kernel
theorem dX10_odds_41 : decode cX10_odds 41 = .ok (.istore_n 3, 1) := by decide +kernel
theorem dX10_odds_42 : decode cX10_odds 42 = .ok (.iconst 0, 1) := by decide +kernel
theorem dX10_odds_43 : decode cX10_odds 43 = .ok (.istore 4, 2) := by decide +kernel
theorem dX10_odds_45 : decode cX10_odds 45 = .ok (.iload 4, 2) := by decide +kernel
theorem dX10_odds_47 : decode cX10_odds 47 = .ok (.aload_n 0, 1) := by decide +kernel
theorem dX10_odds_48 : decode cX10_odds 48 = .ok (.getfield 20, 3) := by decide +kernel
theorem dX10_odds_51 : decode cX10_odds 51 = .ok (.bipush 6, 2) := by decide +kernel
theorem dX10_odds_53 : decode cX10_odds 53 = .ok (.iaload, 1) := by decide +kernel
theorem dX10_odds_54 : decode cX10_odds 54 = .ok (.if_icmp .ge 51, 3) := by decide +kernel
theorem dX10_odds_57 : decode cX10_odds 57 = .ok (.iload_n 3, 1) := by decide +kernel
theorem dX10_odds_58 : decode cX10_odds 58 = .ok (.aload_n 0, 1) := by decide +kernel
theorem dX10_odds_59 : decode cX10_odds 59 = .ok (.getfield 46, 3) := by decide +kernel
theorem dX10_odds_62 : decode cX10_odds 62 = .ok (.iload 4, 2) := by decide +kernel
theorem dX10_odds_64 : decode cX10_odds 64 = .ok (.aaload, 1) := by decide +kernel
theorem dX10_odds_65 : decode cX10_odds 65 = .ok (.iconst 0, 1) := by decide +kernel
theorem dX10_odds_66 : decode cX10_odds 66 = .ok (.iaload, 1) := by decide +kernel
theorem dX10_odds_67 : decode cX10_odds 67 = .ok (.iload_n 1, 1) := by decide +kernel
theorem dX10_odds_68 : decode cX10_odds 68 = .ok (.if_icmp .ne 28, 3) := by decide +kernel
theorem dX10_odds_71 : decode cX10_odds 71 = .ok (.aload_n 0, 1) := by decide +kernel
theorem dX10_odds_72 : decode cX10_odds 72 = .ok (.getfield 46, 3) := by decide +kernel
theorem dX10_odds_75 : decode cX10_odds 75 = .ok (.iload 4, 2) := by decide +kernel
theorem dX10_odds_77 : decode cX10_odds 77 = .ok (.aaload, 1) := by decide +kernel
theorem dX10_odds_78 : decode cX10_odds 78 = .ok (.iconst 1, 1) := by decide +kernel
theorem dX10_odds_79 : decode cX10_odds 79 = .ok (.iaload, 1) := by decide +kernel
theorem dX10_odds_80 : decode cX10_odds 80 = .ok (.iload_n 2, 1) := by decide +kernel
theorem dX10_odds_81 : decode cX10_odds 81 = .ok (.if_icmp .lt 15, 3) := by decide +kernel
theorem dX10_odds_84 : decode cX10_odds 84 = .ok (.aload_n 0, 1) := by decide +kernel
theorem dX10_odds_85 : decode cX10_odds 85 = .ok (.getfield 46, 3) := by decide +kernel
theorem dX10_odds_88 : decode cX10_odds 88 = .ok (.iload 4, 2) := by decide +kernel
theorem dX10_odds_90 : decode cX10_odds 90 = .ok (.aaload, 1) := by decide +kernel
theorem dX10_odds_91 : decode cX10_odds 91 = .ok (.iconst 2, 1) := by decide +kernel
theorem dX10_odds_92 : decode cX10_odds 92 = .ok (.iaload, 1) := by decide +kernel
theorem dX10_odds_93 : decode cX10_odds 93 = .ok (.goto 4, 3) := by decide +kernel
theorem dX10_odds_96 : decode cX10_odds 96 = .ok (.iconst 0, 1) := by decide +kernel
theorem dX10_odds_97 : decode cX10_odds 97 = .ok (.iadd, 1) := by decide +kernel
theorem dX10_odds_98 : decode cX10_odds 98 = .ok (.istore_n 3, 1) := by decide +kernel
theorem dX10_odds_99 : decode cX10_odds 99 = .ok (.iinc 4 1, 3) := by decide +kernel
theorem dX10_odds_102 : decode cX10_odds 102 = .ok (.goto (-57), 3) := by decide +kernel
theorem dX10_odds_105 : decode cX10_odds 105 = .ok (.iload_n 3, 1) := by decide +kernel
theorem dX10_odds_106 : decode cX10_odds 106 = .ok (.ireturn, 1) := by decide +kernel
theorem dX10_seed_0 : decode cX10_seed 0 = .ok (.aload_n 0, 1) := by decide +kernel
theorem dX10_seed_1 : decode cX10_seed 1 = .ok (.iconst 0, 1) := by decide +kernel
theorem dX10_seed_2 : decode cX10_seed 2 = .ok (.putfield 76, 3) := by decide +kernel
theorem dX10_seed_5 : decode cX10_seed 5 = .ok (.aload_n 0, 1) := by decide +kernel
theorem dX10_seed_6 : decode cX10_seed 6 = .ok (.getfield 49, 3) := by decide +kernel
theorem dX10_seed_9 : decode cX10_seed 9 = .ok (.sipush 156, 3) := by decide +kernel
theorem dX10_seed_12 : decode cX10_seed 12 = .ok (.iaload, 1) := by decide +kernel
theorem dX10_seed_13 : decode cX10_seed 13 = .ok (.istore_n 2, 1) := by decide +kernel
theorem dX10_seed_14 : decode cX10_seed 14 = .ok (.aload_n 0, 1) := by decide +kernel
theorem dX10_seed_15 : decode cX10_seed 15 = .ok (.getfield 49, 3) := by decide +kernel
theorem dX10_seed_18 : decode cX10_seed 18 = .ok (.sipush 156, 3) := by decide +kernel
theorem dX10_seed_21 : decode cX10_seed 21 = .ok (.iload_n 1, 1) := by decide +kernel
theorem dX10_seed_22 : decode cX10_seed 22 = .ok (.iastore, 1) := by decide +kernel
theorem dX10_seed_23 : decode cX10_seed 23 = .ok (.iload_n 2, 1) := by decide +kernel
theorem dX10_seed_24 : decode cX10_seed 24 = .ok (.ireturn, 1) := by decide +kernel
theorem dX10_draws_0 : decode cX10_draws 0 = .ok (.aload_n 0, 1) := by decide +kernel
theorem dX10_draws_1 : decode cX10_draws 1 = .ok (.getfield 49, 3) := by decide +kernel
theorem dX10_draws_4 : decode cX10_draws 4 = .ok (.sipush 156, 3) := by decide +kernel
theorem dX10_draws_7 : decode cX10_draws 7 = .ok (.aload_n 0, 1) := by decide +kernel
theorem dX10_draws_8 : decode cX10_draws 8 = .ok (.getfield 49, 3) := by decide +kernel
theorem dX10_draws_11 : decode cX10_draws 11 = .ok (.sipush 156, 3) := by decide +kernel
theorem dX10_draws_14 : decode cX10_draws 14 = .ok (.iaload, 1) := by decide +kernel
theorem dX10_draws_15 : decode cX10_draws 15 = .ok (.ldc 189, 2) := by decide +kernel
theorem dX10_draws_17 : decode cX10_draws 17 = .ok (.imul, 1) := by decide +kernel
theorem dX10_draws_18 : decode cX10_draws 18 = .ok (.sipush 12345, 3) := by decide +kernel
theorem dX10_draws_21 : decode cX10_draws 21 = .ok (.iadd, 1) := by decide +kernel
theorem dX10_draws_22 : decode cX10_draws 22 = .ok (.iastore, 1) := by decide +kernel
theorem dX10_draws_23 : decode cX10_draws 23 = .ok (.aload_n 0, 1) := by decide +kernel
theorem dX10_draws_24 : decode cX10_draws 24 = .ok (.getfield 49, 3) := by decide +kernel
theorem dX10_draws_27 : decode cX10_draws 27 = .ok (.sipush 156, 3) := by decide +kernel
theorem dX10_draws_30 : decode cX10_draws 30 = .ok (.iaload, 1) := by decide +kernel
theorem dX10_draws_31 : decode cX10_draws 31 = .ok (.bipush 16, 2) := by decide +kernel
theorem dX10_draws_33 : decode cX10_draws 33 = .ok (.ishr, 1) := by decide +kernel
theorem dX10_draws_34 : decode cX10_draws 34 = .ok (.iconst 1, 1) := by decide +kernel
theorem dX10_draws_35 : decode cX10_draws 35 = .ok (.iload_n 1, 1) := by decide +kernel
theorem dX10_draws_36 : decode cX10_draws 36 = .ok (.ishl, 1) := by decide +kernel
theorem dX10_draws_37 : decode cX10_draws 37 = .ok (.iconst 1, 1) := by decide +kernel
theorem dX10_draws_38 : decode cX10_draws 38 = .ok (.isub, 1) := by decide +kernel
theorem dX10_draws_39 : decode cX10_draws 39 = .ok (.iand, 1) := by decide +kernel
theorem dX10_draws_40 : decode cX10_draws 40 = .ok (.ireturn, 1) := by decide +kernel
theorem dX10_drawn_0 : decode cX10_drawn 0 = .ok (.iconst 0, 1) := by decide +kernel
theorem dX10_drawn_1 : decode cX10_drawn 1 = .ok (.istore_n 1, 1) := by decide +kernel
theorem dX10_drawn_2 : decode cX10_drawn 2 = .ok (.iconst 0, 1) := by decide +kernel
theorem dX10_drawn_3 : decode cX10_drawn 3 = .ok (.istore_n 2, 1) := by decide +kernel
theorem dX10_drawn_4 : decode cX10_drawn 4 = .ok (.iconst 0, 1) := by decide +kernel
theorem dX10_drawn_5 : decode cX10_drawn 5 = .ok (.istore_n 3, 1) := by decide +kernel
theorem dX10_drawn_6 : decode cX10_drawn 6 = .ok (.iload_n 3, 1) := by decide +kernel
theorem dX10_drawn_7 : decode cX10_drawn 7 = .ok (.aload_n 0, 1) := by decide +kernel
theorem dX10_drawn_8 : decode cX10_drawn 8 = .ok (.getfield 20, 3) := by decide +kernel
theorem dX10_drawn_11 : decode cX10_drawn 11 = .ok (.bipush 6, 2) := by decide +kernel
theorem dX10_drawn_13 : decode cX10_drawn 13 = .ok (.iaload, 1) := by decide +kernel
theorem dX10_drawn_14 : decode cX10_drawn 14 = .ok (.if_icmp .ge 36, 3) := by decide +kernel
theorem dX10_drawn_17 : decode cX10_drawn 17 = .ok (.iload_n 2, 1) := by decide +kernel
theorem dX10_drawn_18 : decode cX10_drawn 18 = .ok (.aload_n 0, 1) := by decide +kernel
theorem dX10_drawn_19 : decode cX10_drawn 19 = .ok (.getfield 46, 3) := by decide +kernel
theorem dX10_drawn_22 : decode cX10_drawn 22 = .ok (.iload_n 3, 1) := by decide +kernel
theorem dX10_drawn_23 : decode cX10_drawn 23 = .ok (.aaload, 1) := by decide +kernel
theorem dX10_drawn_24 : decode cX10_drawn 24 = .ok (.iconst 0, 1) := by decide +kernel
theorem dX10_drawn_25 : decode cX10_drawn 25 = .ok (.iaload, 1) := by decide +kernel
theorem dX10_drawn_26 : decode cX10_drawn 26 = .ok (.aload_n 0, 1) := by decide +kernel
theorem dX10_drawn_27 : decode cX10_drawn 27 = .ok (.getfield 49, 3) := by decide +kernel
theorem dX10_drawn_30 : decode cX10_drawn 30 = .ok (.sipush 155, 3) := by decide +kernel
theorem dX10_drawn_33 : decode cX10_drawn 33 = .ok (.iaload, 1) := by decide +kernel
theorem dX10_drawn_34 : decode cX10_drawn 34 = .ok (.if_icmp .ne 7, 3) := by decide +kernel
theorem dX10_drawn_37 : decode cX10_drawn 37 = .ok (.iconst 1, 1) := by decide +kernel
theorem dX10_drawn_38 : decode cX10_drawn 38 = .ok (.goto 4, 3) := by decide +kernel
theorem dX10_drawn_41 : decode cX10_drawn 41 = .ok (.iconst 0, 1) := by decide +kernel
theorem dX10_drawn_42 : decode cX10_drawn 42 = .ok (.iadd, 1) := by decide +kernel
theorem dX10_drawn_43 : decode cX10_drawn 43 = .ok (.istore_n 2, 1) := by decide +kernel
theorem dX10_drawn_44 : decode cX10_drawn 44 = .ok (.iinc 3 1, 3) := by decide +kernel
theorem dX10_drawn_47 : decode cX10_drawn 47 = .ok (.goto (-41), 3) := by decide +kernel
theorem dX10_drawn_50 : decode cX10_drawn 50 = .ok (.iload_n 2, 1) := by decide +kernel
theorem dX10_drawn_51 : decode cX10_drawn 51 = .ok (.ifCond .ne 5, 3) := by decide +kernel
theorem dX10_drawn_54 : decode cX10_drawn 54 = .ok (.iconst 0, 1) := by decide +kernel
theorem dX10_drawn_55 : decode cX10_drawn 55 = .ok (.ireturn, 1) := by decide +kernel
theorem dX10_drawn_56 : decode cX10_drawn 56 = .ok (.aload_n 0, 1) := by decide +kernel
theorem dX10_drawn_57 : decode cX10_drawn 57 = .ok (.iconst 3, 1) := by decide +kernel
theorem dX10_drawn_58 : decode cX10_drawn 58 = .ok (.invokevirtual 190, 3) := by decide +kernel
theorem dX10_drawn_61 : decode cX10_drawn 61 = .ok (.istore_n 3, 1) := by decide +kernel
theorem dX10_drawn_62 : decode cX10_drawn 62 = .ok (.iconst 0, 1) := by decide +kernel
theorem dX10_drawn_63 : decode cX10_drawn 63 = .ok (.istore 4, 2) := by decide +kernel
theorem dX10_drawn_65 : decode cX10_drawn 65 = .ok (.iload 4, 2) := by decide +kernel
theorem dX10_drawn_67 : decode cX10_drawn 67 = .ok (.aload_n 0, 1) := by decide +kernel
theorem dX10_drawn_68 : decode cX10_drawn 68 = .ok (.getfield 20, 3) := by decide +kernel
theorem dX10_drawn_71 : decode cX10_drawn 71 = .ok (.bipush 6, 2) := by decide +kernel
theorem dX10_drawn_73 : decode cX10_drawn 73 = .ok (.iaload, 1) := by decide +kernel
theorem dX10_drawn_74 : decode cX10_drawn 74 = .ok (.if_icmp .ge 59, 3) := by decide +kernel
theorem dX10_drawn_77 : decode cX10_drawn 77 = .ok (.aload_n 0, 1) := by decide +kernel
theorem dX10_drawn_78 : decode cX10_drawn 78 = .ok (.getfield 46, 3) := by decide +kernel
theorem dX10_drawn_81 : decode cX10_drawn 81 = .ok (.iload 4, 2) := by decide +kernel
theorem dX10_drawn_83 : decode cX10_drawn 83 = .ok (.aaload, 1) := by decide +kernel
theorem dX10_drawn_84 : decode cX10_drawn 84 = .ok (.iconst 0, 1) := by decide +kernel
theorem dX10_drawn_85 : decode cX10_drawn 85 = .ok (.iaload, 1) := by decide +kernel
theorem dX10_drawn_86 : decode cX10_drawn 86 = .ok (.aload_n 0, 1) := by decide +kernel
theorem dX10_drawn_87 : decode cX10_drawn 87 = .ok (.getfield 49, 3) := by decide +kernel
theorem dX10_drawn_90 : decode cX10_drawn 90 = .ok (.sipush 155, 3) := by decide +kernel
theorem dX10_drawn_93 : decode cX10_drawn 93 = .ok (.iaload, 1) := by decide +kernel
theorem dX10_drawn_94 : decode cX10_drawn 94 = .ok (.if_icmp .eq 6, 3) := by decide +kernel
theorem dX10_drawn_97 : decode cX10_drawn 97 = .ok (.goto 30, 3) := by decide +kernel
theorem dX10_drawn_100 : decode cX10_drawn 100 = .ok (.iload_n 1, 1) := by decide +kernel
theorem dX10_drawn_101 : decode cX10_drawn 101 = .ok (.aload_n 0, 1) := by decide +kernel
theorem dX10_drawn_102 : decode cX10_drawn 102 = .ok (.getfield 46, 3) := by decide +kernel
theorem dX10_drawn_105 : decode cX10_drawn 105 = .ok (.iload 4, 2) := by decide +kernel
theorem dX10_drawn_107 : decode cX10_drawn 107 = .ok (.aaload, 1) := by decide +kernel
theorem dX10_drawn_108 : decode cX10_drawn 108 = .ok (.iconst 2, 1) := by decide +kernel
theorem dX10_drawn_109 : decode cX10_drawn 109 = .ok (.iaload, 1) := by decide +kernel
theorem dX10_drawn_110 : decode cX10_drawn 110 = .ok (.iadd, 1) := by decide +kernel
theorem dX10_drawn_111 : decode cX10_drawn 111 = .ok (.istore_n 1, 1) := by decide +kernel
theorem dX10_drawn_112 : decode cX10_drawn 112 = .ok (.iload_n 3, 1) := by decide +kernel
theorem dX10_drawn_113 : decode cX10_drawn 113 = .ok (.iload_n 1, 1) := by decide +kernel
theorem dX10_drawn_114 : decode cX10_drawn 114 = .ok (.if_icmp .ge 13, 3) := by decide +kernel
theorem dX10_drawn_117 : decode cX10_drawn 117 = .ok (.aload_n 0, 1) := by decide +kernel
theorem dX10_drawn_118 : decode cX10_drawn 118 = .ok (.getfield 46, 3) := by decide +kernel
theorem dX10_drawn_121 : decode cX10_drawn 121 = .ok (.iload 4, 2) := by decide +kernel
theorem dX10_drawn_123 : decode cX10_drawn 123 = .ok (.aaload, 1) := by decide +kernel
theorem dX10_drawn_124 : decode cX10_drawn 124 = .ok (.iconst 1, 1) := by decide +kernel
theorem dX10_drawn_125 : decode cX10_drawn 125 = .ok (.iaload, 1) := by decide +kernel
theorem dX10_drawn_126 : decode cX10_drawn 126 = .ok (.ireturn, 1) := by decide +kernel
theorem dX10_drawn_127 : decode cX10_drawn 127 = .ok (.iinc 4 1, 3) := by decide +kernel
theorem dX10_drawn_130 : decode cX10_drawn 130 = .ok (.goto (-65), 3) := by decide +kernel
theorem dX10_drawn_133 : decode cX10_drawn 133 = .ok (.iconst 0, 1) := by decide +kernel
theorem dX10_drawn_134 : decode cX10_drawn 134 = .ok (.ireturn, 1) := by decide +kernel
theorem dX10_ones_0 : decode cX10_ones 0 = .ok (.iconst 0, 1) := by decide +kernel
theorem dX10_ones_1 : decode cX10_ones 1 = .ok (.istore_n 1, 1) := by decide +kernel
theorem dX10_ones_2 : decode cX10_ones 2 = .ok (.iconst 0, 1) := by decide +kernel
theorem dX10_ones_3 : decode cX10_ones 3 = .ok (.istore_n 2, 1) := by decide +kernel
theorem dX10_ones_4 : decode cX10_ones 4 = .ok (.iload_n 2, 1) := by decide +kernel
theorem dX10_ones_5 : decode cX10_ones 5 = .ok (.bipush 12, 2) := by decide +kernel
theorem dX10_ones_7 : decode cX10_ones 7 = .ok (.if_icmp .ge 17, 3) := by decide +kernel
theorem dX10_ones_10 : decode cX10_ones 10 = .ok (.iload_n 1, 1) := by decide +kernel
theorem dX10_ones_11 : decode cX10_ones 11 = .ok (.iload_n 0, 1) := by decide +kernel
theorem dX10_ones_12 : decode cX10_ones 12 = .ok (.iload_n 2, 1) := by decide +kernel
theorem dX10_ones_13 : decode cX10_ones 13 = .ok (.ishr, 1) := by decide +kernel
theorem dX10_ones_14 : decode cX10_ones 14 = .ok (.iconst 1, 1) := by decide +kernel
theorem dX10_ones_15 : decode cX10_ones 15 = .ok (.iand, 1) := by decide +kernel
theorem dX10_ones_16 : decode cX10_ones 16 = .ok (.iadd, 1) := by decide +kernel
theorem dX10_ones_17 : decode cX10_ones 17 = .ok (.istore_n 1, 1) := by decide +kernel
theorem dX10_ones_18 : decode cX10_ones 18 = .ok (.iinc 2 1, 3) := by decide +kernel
theorem dX10_ones_21 : decode cX10_ones 21 = .ok (.goto (-17), 3) := by decide +kernel
theorem dX10_ones_24 : decode cX10_ones 24 = .ok (.iload_n 1, 1) := by decide +kernel
theorem dX10_ones_25 : decode cX10_ones 25 = .ok (.ireturn, 1) := by decide +kernel
theorem dX10_alive_0 : decode cX10_alive 0 = .ok (.iconst 0, 1) := by decide +kernel
theorem dX10_alive_1 : decode cX10_alive 1 = .ok (.istore_n 1, 1) := by decide +kernel
theorem dX10_alive_2 : decode cX10_alive 2 = .ok (.iconst 0, 1) := by decide +kernel
theorem dX10_alive_3 : decode cX10_alive 3 = .ok (.istore_n 2, 1) := by decide +kernel
theorem dX10_alive_4 : decode cX10_alive 4 = .ok (.iload_n 2, 1) := by decide +kernel
theorem dX10_alive_5 : decode cX10_alive 5 = .ok (.aload_n 0, 1) := by decide +kernel
theorem dX10_alive_6 : decode cX10_alive 6 = .ok (.getfield 20, 3) := by decide +kernel
theorem dX10_alive_9 : decode cX10_alive 9 = .ok (.iconst 1, 1) := by decide +kernel
theorem dX10_alive_10 : decode cX10_alive 10 = .ok (.iaload, 1) := by decide +kernel
theorem dX10_alive_11 : decode cX10_alive 11 = .ok (.if_icmp .ge 27, 3) := by decide +kernel
theorem dX10_alive_14 : decode cX10_alive 14 = .ok (.iload_n 1, 1) := by decide +kernel
theorem dX10_alive_15 : decode cX10_alive 15 = .ok (.aload_n 0, 1) := by decide +kernel
theorem dX10_alive_16 : decode cX10_alive 16 = .ok (.iload_n 2, 1) := by decide +kernel
theorem dX10_alive_17 : decode cX10_alive 17 = .ok (.invokevirtual 183, 3) := by decide +kernel
theorem dX10_alive_20 : decode cX10_alive 20 = .ok (.ifCond .eq 9, 3) := by decide +kernel
theorem dX10_alive_23 : decode cX10_alive 23 = .ok (.iconst 1, 1) := by decide +kernel
theorem dX10_alive_24 : decode cX10_alive 24 = .ok (.iload_n 2, 1) := by decide +kernel
theorem dX10_alive_25 : decode cX10_alive 25 = .ok (.ishl, 1) := by decide +kernel
theorem dX10_alive_26 : decode cX10_alive 26 = .ok (.goto 4, 3) := by decide +kernel
theorem dX10_alive_29 : decode cX10_alive 29 = .ok (.iconst 0, 1) := by decide +kernel
theorem dX10_alive_30 : decode cX10_alive 30 = .ok (.ior, 1) := by decide +kernel
theorem dX10_alive_31 : decode cX10_alive 31 = .ok (.istore_n 1, 1) := by decide +kernel
theorem dX10_alive_32 : decode cX10_alive 32 = .ok (.iinc 2 1, 3) := by decide +kernel
theorem dX10_alive_35 : decode cX10_alive 35 = .ok (.goto (-31), 3) := by decide +kernel
theorem dX10_alive_38 : decode cX10_alive 38 = .ok (.iload_n 1, 1) := by decide +kernel
theorem dX10_alive_39 : decode cX10_alive 39 = .ok (.ireturn, 1) := by decide +kernel
theorem dX10_splits_0 : decode cX10_splits 0 = .ok (.aload_n 0, 1) := by decide +kernel
theorem dX10_splits_1 : decode cX10_splits 1 = .ok (.iload_n 1, 1) := by decide +kernel
theorem dX10_splits_2 : decode cX10_splits 2 = .ok (.invokevirtual 168, 3) := by decide +kernel
theorem dX10_splits_5 : decode cX10_splits 5 = .ok (.istore 4, 2) := by decide +kernel
theorem dX10_splits_7 : decode cX10_splits 7 = .ok (.aload_n 0, 1) := by decide +kernel
theorem dX10_splits_8 : decode cX10_splits 8 = .ok (.getfield 49, 3) := by decide +kernel
theorem dX10_splits_11 : decode cX10_splits 11 = .ok (.bipush 120, 2) := by decide +kernel
theorem dX10_splits_13 : decode cX10_splits 13 = .ok (.iaload, 1) := by decide +kernel
theorem dX10_splits_14 : decode cX10_splits 14 = .ok (.istore 5, 2) := by decide +kernel
theorem dX10_splits_16 : decode cX10_splits 16 = .ok (.iconst 1, 1) := by decide +kernel
theorem dX10_splits_17 : decode cX10_splits 17 = .ok (.iconst 2, 1) := by decide +kernel
theorem dX10_splits_18 : decode cX10_splits 18 = .ok (.aload_n 0, 1) := by decide +kernel
theorem dX10_splits_19 : decode cX10_splits 19 = .ok (.getfield 34, 3) := by decide +kernel
theorem dX10_splits_22 : decode cX10_splits 22 = .ok (.iload_n 1, 1) := by decide +kernel
theorem dX10_splits_23 : decode cX10_splits 23 = .ok (.aaload, 1) := by decide +kernel
theorem dX10_splits_24 : decode cX10_splits 24 = .ok (.iconst 1, 1) := by decide +kernel
theorem dX10_splits_25 : decode cX10_splits 25 = .ok (.iaload, 1) := by decide +kernel
theorem dX10_splits_26 : decode cX10_splits 26 = .ok (.imul, 1) := by decide +kernel
theorem dX10_splits_27 : decode cX10_splits 27 = .ok (.iadd, 1) := by decide +kernel
theorem dX10_splits_28 : decode cX10_splits 28 = .ok (.istore 6, 2) := by decide +kernel
theorem dX10_splits_30 : decode cX10_splits 30 = .ok (.iconst 0, 1) := by decide +kernel
theorem dX10_splits_31 : decode cX10_splits 31 = .ok (.istore 7, 2) := by decide +kernel
theorem dX10_splits_33 : decode cX10_splits 33 = .ok (.iload 7, 2) := by decide +kernel
theorem dX10_splits_35 : decode cX10_splits 35 = .ok (.bipush 6, 2) := by decide +kernel
theorem dX10_splits_37 : decode cX10_splits 37 = .ok (.if_icmp .ge 35, 3) := by decide +kernel
theorem dX10_splits_40 : decode cX10_splits 40 = .ok (.aload_n 0, 1) := by decide +kernel
theorem dX10_splits_41 : decode cX10_splits 41 = .ok (.getfield 49, 3) := by decide +kernel
theorem dX10_splits_44 : decode cX10_splits 44 = .ok (.bipush 6, 2) := by decide +kernel
theorem dX10_splits_46 : decode cX10_splits 46 = .ok (.iload 5, 2) := by decide +kernel
theorem dX10_splits_48 : decode cX10_splits 48 = .ok (.imul, 1) := by decide +kernel
theorem dX10_splits_49 : decode cX10_splits 49 = .ok (.iload 7, 2) := by decide +kernel
theorem dX10_splits_51 : decode cX10_splits 51 = .ok (.iadd, 1) := by decide +kernel
theorem dX10_splits_52 : decode cX10_splits 52 = .ok (.aload_n 0, 1) := by decide +kernel
theorem dX10_splits_53 : decode cX10_splits 53 = .ok (.getfield 49, 3) := by decide +kernel
theorem dX10_splits_56 : decode cX10_splits 56 = .ok (.bipush 6, 2) := by decide +kernel
theorem dX10_splits_58 : decode cX10_splits 58 = .ok (.iload 4, 2) := by decide +kernel
theorem dX10_splits_60 : decode cX10_splits 60 = .ok (.imul, 1) := by decide +kernel
theorem dX10_splits_61 : decode cX10_splits 61 = .ok (.iload 7, 2) := by decide +kernel
theorem dX10_splits_63 : decode cX10_splits 63 = .ok (.iadd, 1) := by decide +kernel
theorem dX10_splits_64 : decode cX10_splits 64 = .ok (.iaload, 1) := by decide +kernel
theorem dX10_splits_65 : decode cX10_splits 65 = .ok (.iastore, 1) := by decide +kernel
theorem dX10_splits_66 : decode cX10_splits 66 = .ok (.iinc 7 1, 3) := by decide +kernel
theorem dX10_splits_69 : decode cX10_splits 69 = .ok (.goto (-36), 3) := by decide +kernel
theorem dX10_splits_72 : decode cX10_splits 72 = .ok (.aload_n 0, 1) := by decide +kernel
theorem dX10_splits_73 : decode cX10_splits 73 = .ok (.getfield 49, 3) := by decide +kernel
theorem dX10_splits_76 : decode cX10_splits 76 = .ok (.bipush 6, 2) := by decide +kernel
theorem dX10_splits_78 : decode cX10_splits 78 = .ok (.iload 4, 2) := by decide +kernel
theorem dX10_splits_80 : decode cX10_splits 80 = .ok (.imul, 1) := by decide +kernel
theorem dX10_splits_81 : decode cX10_splits 81 = .ok (.iload 6, 2) := by decide +kernel
theorem dX10_splits_83 : decode cX10_splits 83 = .ok (.iadd, 1) := by decide +kernel
theorem dX10_splits_84 : decode cX10_splits 84 = .ok (.iconst 1, 1) := by decide +kernel
theorem dX10_splits_85 : decode cX10_splits 85 = .ok (.iadd, 1) := by decide +kernel
theorem dX10_splits_86 : decode cX10_splits 86 = .ok (.iload_n 2, 1) := by decide +kernel
theorem dX10_splits_87 : decode cX10_splits 87 = .ok (.iastore, 1) := by decide +kernel
theorem dX10_splits_88 : decode cX10_splits 88 = .ok (.aload_n 0, 1) := by decide +kernel
theorem dX10_splits_89 : decode cX10_splits 89 = .ok (.getfield 49, 3) := by decide +kernel
theorem dX10_splits_92 : decode cX10_splits 92 = .ok (.bipush 6, 2) := by decide +kernel
theorem dX10_splits_94 : decode cX10_splits 94 = .ok (.iload 5, 2) := by decide +kernel
theorem dX10_splits_96 : decode cX10_splits 96 = .ok (.imul, 1) := by decide +kernel
theorem dX10_splits_97 : decode cX10_splits 97 = .ok (.iload 6, 2) := by decide +kernel
theorem dX10_splits_99 : decode cX10_splits 99 = .ok (.iadd, 1) := by decide +kernel
theorem dX10_splits_100 : decode cX10_splits 100 = .ok (.iload_n 2, 1) := by decide +kernel
theorem dX10_splits_101 : decode cX10_splits 101 = .ok (.iastore, 1) := by decide +kernel
theorem dX10_splits_102 : decode cX10_splits 102 = .ok (.aload_n 0, 1) := by decide +kernel
theorem dX10_splits_103 : decode cX10_splits 103 = .ok (.getfield 49, 3) := by decide +kernel
theorem dX10_splits_106 : decode cX10_splits 106 = .ok (.bipush 120, 2) := by decide +kernel
theorem dX10_splits_108 : decode cX10_splits 108 = .ok (.dup2, 1) := by decide +kernel
theorem dX10_splits_109 : decode cX10_splits 109 = .ok (.iaload, 1) := by decide +kernel
theorem dX10_splits_110 : decode cX10_splits 110 = .ok (.iconst 1, 1) := by decide +kernel
theorem dX10_splits_111 : decode cX10_splits 111 = .ok (.iadd, 1) := by decide +kernel
theorem dX10_splits_112 : decode cX10_splits 112 = .ok (.iastore, 1) := by decide +kernel
theorem dX10_splits_113 : decode cX10_splits 113 = .ok (.aload_n 0, 1) := by decide +kernel
theorem dX10_splits_114 : decode cX10_splits 114 = .ok (.getfield 49, 3) := by decide +kernel
theorem dX10_splits_117 : decode cX10_splits 117 = .ok (.sipush 133, 3) := by decide +kernel
theorem dX10_splits_120 : decode cX10_splits 120 = .ok (.iload_n 1, 1) := by decide +kernel
theorem dX10_splits_121 : decode cX10_splits 121 = .ok (.iadd, 1) := by decide +kernel
theorem dX10_splits_122 : decode cX10_splits 122 = .ok (.aload_n 0, 1) := by decide +kernel
theorem dX10_splits_123 : decode cX10_splits 123 = .ok (.getfield 49, 3) := by decide +kernel
theorem dX10_splits_126 : decode cX10_splits 126 = .ok (.sipush 155, 3) := by decide +kernel
theorem dX10_splits_129 : decode cX10_splits 129 = .ok (.iaload, 1) := by decide +kernel
theorem dX10_splits_130 : decode cX10_splits 130 = .ok (.iconst 1, 1) := by decide +kernel
theorem dX10_splits_131 : decode cX10_splits 131 = .ok (.iadd, 1) := by decide +kernel
theorem dX10_splits_132 : decode cX10_splits 132 = .ok (.iastore, 1) := by decide +kernel
theorem dX10_splits_133 : decode cX10_splits 133 = .ok (.aload_n 0, 1) := by decide +kernel
theorem dX10_splits_134 : decode cX10_splits 134 = .ok (.getfield 193, 3) := by decide +kernel
theorem dX10_splits_137 : decode cX10_splits 137 = .ok (.ifCond .eq 54, 3) := by decide +kernel
theorem dX10_splits_140 : decode cX10_splits 140 = .ok (.aload_n 0, 1) := by decide +kernel
theorem dX10_splits_141 : decode cX10_splits 141 = .ok (.getfield 64, 3) := by decide +kernel
theorem dX10_splits_144 : decode cX10_splits 144 = .ok (.aload_n 0, 1) := by decide +kernel
theorem dX10_splits_145 : decode cX10_splits 145 = .ok (.getfield 49, 3) := by decide +kernel
theorem dX10_splits_148 : decode cX10_splits 148 = .ok (.sipush 152, 3) := by decide +kernel
theorem dX10_splits_151 : decode cX10_splits 151 = .ok (.iaload, 1) := by decide +kernel
theorem dX10_splits_152 : decode cX10_splits 152 = .ok (.aaload, 1) := by decide +kernel
theorem dX10_splits_153 : decode cX10_splits 153 = .ok (.astore 7, 2) := by decide +kernel
theorem dX10_splits_155 : decode cX10_splits 155 = .ok (.aload 7, 2) := by decide +kernel
theorem dX10_splits_157 : decode cX10_splits 157 = .ok (.iconst 0, 1) := by decide +kernel
theorem dX10_splits_158 : decode cX10_splits 158 = .ok (.iload_n 1, 1) := by decide +kernel
theorem dX10_splits_159 : decode cX10_splits 159 = .ok (.iastore, 1) := by decide +kernel
theorem dX10_splits_160 : decode cX10_splits 160 = .ok (.aload 7, 2) := by decide +kernel
theorem dX10_splits_162 : decode cX10_splits 162 = .ok (.iconst 1, 1) := by decide +kernel
theorem dX10_splits_163 : decode cX10_splits 163 = .ok (.aload_n 0, 1) := by decide +kernel
theorem dX10_splits_164 : decode cX10_splits 164 = .ok (.getfield 49, 3) := by decide +kernel
theorem dX10_splits_167 : decode cX10_splits 167 = .ok (.sipush 155, 3) := by decide +kernel
theorem dX10_splits_170 : decode cX10_splits 170 = .ok (.iaload, 1) := by decide +kernel
theorem dX10_splits_171 : decode cX10_splits 171 = .ok (.iastore, 1) := by decide +kernel
theorem dX10_splits_172 : decode cX10_splits 172 = .ok (.aload 7, 2) := by decide +kernel
theorem dX10_splits_174 : decode cX10_splits 174 = .ok (.iconst 2, 1) := by decide +kernel
theorem dX10_splits_175 : decode cX10_splits 175 = .ok (.iload_n 3, 1) := by decide +kernel
theorem dX10_splits_176 : decode cX10_splits 176 = .ok (.iastore, 1) := by decide +kernel
theorem dX10_splits_177 : decode cX10_splits 177 = .ok (.aload 7, 2) := by decide +kernel
theorem dX10_splits_179 : decode cX10_splits 179 = .ok (.iconst 3, 1) := by decide +kernel
theorem dX10_splits_180 : decode cX10_splits 180 = .ok (.iload_n 2, 1) := by decide +kernel
theorem dX10_splits_181 : decode cX10_splits 181 = .ok (.aload_n 0, 1) := by decide +kernel
theorem dX10_splits_182 : decode cX10_splits 182 = .ok (.getfield 34, 3) := by decide +kernel
theorem dX10_splits_185 : decode cX10_splits 185 = .ok (.iload_n 1, 1) := by decide +kernel
theorem dX10_splits_186 : decode cX10_splits 186 = .ok (.aaload, 1) := by decide +kernel
theorem dX10_splits_187 : decode cX10_splits 187 = .ok (.iconst 2, 1) := by decide +kernel
theorem dX10_splits_188 : decode cX10_splits 188 = .ok (.iaload, 1) := by decide +kernel
theorem dX10_splits_189 : decode cX10_splits 189 = .ok (.isub, 1) := by decide +kernel
theorem dX10_splits_190 : decode cX10_splits 190 = .ok (.iastore, 1) := by decide +kernel
theorem dX10_splits_191 : decode cX10_splits 191 = .ok (.aload_n 0, 1) := by decide +kernel
theorem dX10_splits_192 : decode cX10_splits 192 = .ok (.getfield 49, 3) := by decide +kernel
theorem dX10_splits_195 : decode cX10_splits 195 = .ok (.sipush 152, 3) := by decide +kernel
theorem dX10_splits_198 : decode cX10_splits 198 = .ok (.dup2, 1) := by decide +kernel
theorem dX10_splits_199 : decode cX10_splits 199 = .ok (.iaload, 1) := by decide +kernel
theorem dX10_splits_200 : decode cX10_splits 200 = .ok (.iconst 1, 1) := by decide +kernel
theorem dX10_splits_201 : decode cX10_splits 201 = .ok (.iadd, 1) := by decide +kernel
theorem dX10_splits_202 : decode cX10_splits 202 = .ok (.iastore, 1) := by decide +kernel
theorem dX10_splits_203 : decode cX10_splits 203 = .ok (.aload_n 0, 1) := by decide +kernel
theorem dX10_splits_204 : decode cX10_splits 204 = .ok (.getfield 49, 3) := by decide +kernel
theorem dX10_splits_207 : decode cX10_splits 207 = .ok (.sipush 153, 3) := by decide +kernel
theorem dX10_splits_210 : decode cX10_splits 210 = .ok (.dup2, 1) := by decide +kernel
theorem dX10_splits_211 : decode cX10_splits 211 = .ok (.iaload, 1) := by decide +kernel
theorem dX10_splits_212 : decode cX10_splits 212 = .ok (.iload_n 2, 1) := by decide +kernel
theorem dX10_splits_213 : decode cX10_splits 213 = .ok (.aload_n 0, 1) := by decide +kernel
theorem dX10_splits_214 : decode cX10_splits 214 = .ok (.getfield 34, 3) := by decide +kernel
theorem dX10_splits_217 : decode cX10_splits 217 = .ok (.iload_n 1, 1) := by decide +kernel
theorem dX10_splits_218 : decode cX10_splits 218 = .ok (.aaload, 1) := by decide +kernel
theorem dX10_splits_219 : decode cX10_splits 219 = .ok (.iconst 2, 1) := by decide +kernel
theorem dX10_splits_220 : decode cX10_splits 220 = .ok (.iaload, 1) := by decide +kernel
theorem dX10_splits_221 : decode cX10_splits 221 = .ok (.if_icmp .ne 7, 3) := by decide +kernel
theorem dX10_splits_224 : decode cX10_splits 224 = .ok (.iconst 0, 1) := by decide +kernel
theorem dX10_splits_225 : decode cX10_splits 225 = .ok (.goto 4, 3) := by decide +kernel
theorem dX10_splits_228 : decode cX10_splits 228 = .ok (.iconst 1, 1) := by decide +kernel
theorem dX10_splits_229 : decode cX10_splits 229 = .ok (.iadd, 1) := by decide +kernel
theorem dX10_splits_230 : decode cX10_splits 230 = .ok (.iastore, 1) := by decide +kernel
theorem dX10_splits_231 : decode cX10_splits 231 = .ok (.return_, 1) := by decide +kernel
theorem dX10_lineOf_0 : decode cX10_lineOf 0 = .ok (.aload_n 0, 1) := by decide +kernel
theorem dX10_lineOf_1 : decode cX10_lineOf 1 = .ok (.getfield 34, 3) := by decide +kernel
theorem dX10_lineOf_4 : decode cX10_lineOf 4 = .ok (.iload_n 1, 1) := by decide +kernel
theorem dX10_lineOf_5 : decode cX10_lineOf 5 = .ok (.aaload, 1) := by decide +kernel
theorem dX10_lineOf_6 : decode cX10_lineOf 6 = .ok (.iconst 2, 1) := by decide +kernel
theorem dX10_lineOf_7 : decode cX10_lineOf 7 = .ok (.iaload, 1) := by decide +kernel
theorem dX10_lineOf_8 : decode cX10_lineOf 8 = .ok (.iload_n 2, 1) := by decide +kernel
theorem dX10_lineOf_9 : decode cX10_lineOf 9 = .ok (.ifCond .ne 7, 3) := by decide +kernel
theorem dX10_lineOf_12 : decode cX10_lineOf 12 = .ok (.iconst (-1), 1) := by decide +kernel
theorem dX10_lineOf_13 : decode cX10_lineOf 13 = .ok (.goto 13, 3) := by decide +kernel
theorem dX10_lineOf_16 : decode cX10_lineOf 16 = .ok (.iload_n 2, 1) := by decide +kernel
theorem dX10_lineOf_17 : decode cX10_lineOf 17 = .ok (.iconst 1, 1) := by decide +kernel
theorem dX10_lineOf_18 : decode cX10_lineOf 18 = .ok (.if_icmp .ne 7, 3) := by decide +kernel
theorem dX10_lineOf_21 : decode cX10_lineOf 21 = .ok (.iconst 1, 1) := by decide +kernel
theorem dX10_lineOf_22 : decode cX10_lineOf 22 = .ok (.goto 4, 3) := by decide +kernel
theorem dX10_lineOf_25 : decode cX10_lineOf 25 = .ok (.iconst 0, 1) := by decide +kernel
theorem dX10_lineOf_26 : decode cX10_lineOf 26 = .ok (.iadd, 1) := by decide +kernel
theorem dX10_lineOf_27 : decode cX10_lineOf 27 = .ok (.istore_n 3, 1) := by decide +kernel
theorem dX10_lineOf_28 : decode cX10_lineOf 28 = .ok (.aload_n 0, 1) := by decide +kernel
theorem dX10_lineOf_29 : decode cX10_lineOf 29 = .ok (.iload_n 1, 1) := by decide +kernel
theorem dX10_lineOf_30 : decode cX10_lineOf 30 = .ok (.aload_n 0, 1) := by decide +kernel
theorem dX10_lineOf_31 : decode cX10_lineOf 31 = .ok (.iload_n 1, 1) := by decide +kernel
theorem dX10_lineOf_32 : decode cX10_lineOf 32 = .ok (.invokevirtual 168, 3) := by decide +kernel
theorem dX10_lineOf_35 : decode cX10_lineOf 35 = .ok (.iload_n 3, 1) := by decide +kernel
theorem dX10_lineOf_36 : decode cX10_lineOf 36 = .ok (.invokevirtual 171, 3) := by decide +kernel
theorem dX10_lineOf_39 : decode cX10_lineOf 39 = .ok (.ifCond .eq 7, 3) := by decide +kernel
theorem dX10_lineOf_42 : decode cX10_lineOf 42 = .ok (.iload_n 3, 1) := by decide +kernel
theorem dX10_lineOf_43 : decode cX10_lineOf 43 = .ok (.goto 11, 3) := by decide +kernel
theorem dX10_lineOf_46 : decode cX10_lineOf 46 = .ok (.aload_n 0, 1) := by decide +kernel
theorem dX10_lineOf_47 : decode cX10_lineOf 47 = .ok (.getfield 34, 3) := by decide +kernel
theorem dX10_lineOf_50 : decode cX10_lineOf 50 = .ok (.iload_n 1, 1) := by decide +kernel
theorem dX10_lineOf_51 : decode cX10_lineOf 51 = .ok (.aaload, 1) := by decide +kernel
theorem dX10_lineOf_52 : decode cX10_lineOf 52 = .ok (.iconst 2, 1) := by decide +kernel
theorem dX10_lineOf_53 : decode cX10_lineOf 53 = .ok (.iaload, 1) := by decide +kernel
theorem dX10_lineOf_54 : decode cX10_lineOf 54 = .ok (.ireturn, 1) := by decide +kernel
theorem dX10_mayStray_0 : decode cX10_mayStray 0 = .ok (.aload_n 0, 1) := by decide +kernel
theorem dX10_mayStray_1 : decode cX10_mayStray 1 = .ok (.iload_n 1, 1) := by decide +kernel
theorem dX10_mayStray_2 : decode cX10_mayStray 2 = .ok (.invokevirtual 174, 3) := by decide +kernel
theorem dX10_mayStray_5 : decode cX10_mayStray 5 = .ok (.ifCond .eq 18, 3) := by decide +kernel
theorem dX10_mayStray_8 : decode cX10_mayStray 8 = .ok (.iload_n 2, 1) := by decide +kernel
theorem dX10_mayStray_9 : decode cX10_mayStray 9 = .ok (.aload_n 0, 1) := by decide +kernel
theorem dX10_mayStray_10 : decode cX10_mayStray 10 = .ok (.iload_n 1, 1) := by decide +kernel
theorem dX10_mayStray_11 : decode cX10_mayStray 11 = .ok (.invokevirtual 180, 3) := by decide +kernel
theorem dX10_mayStray_14 : decode cX10_mayStray 14 = .ok (.iconst 2, 1) := by decide +kernel
theorem dX10_mayStray_15 : decode cX10_mayStray 15 = .ok (.iadd, 1) := by decide +kernel
theorem dX10_mayStray_16 : decode cX10_mayStray 16 = .ok (.if_icmp .ge 7, 3) := by decide +kernel
theorem dX10_mayStray_19 : decode cX10_mayStray 19 = .ok (.iconst 1, 1) := by decide +kernel
theorem dX10_mayStray_20 : decode cX10_mayStray 20 = .ok (.goto 4, 3) := by decide +kernel
theorem dX10_mayStray_23 : decode cX10_mayStray 23 = .ok (.iconst 0, 1) := by decide +kernel
theorem dX10_mayStray_24 : decode cX10_mayStray 24 = .ok (.ireturn, 1) := by decide +kernel
theorem dX10_freezes_0 : decode cX10_freezes 0 = .ok (.iconst 0, 1) := by decide +kernel
theorem dX10_freezes_1 : decode cX10_freezes 1 = .ok (.istore_n 3, 1) := by decide +kernel
theorem dX10_freezes_2 : decode cX10_freezes 2 = .ok (.iload_n 3, 1) := by decide +kernel
theorem dX10_freezes_3 : decode cX10_freezes 3 = .ok (.aload_n 0, 1) := by decide +kernel
theorem dX10_freezes_4 : decode cX10_freezes 4 = .ok (.getfield 20, 3) := by decide +kernel
theorem dX10_freezes_7 : decode cX10_freezes 7 = .ok (.iconst 1, 1) := by decide +kernel
theorem dX10_freezes_8 : decode cX10_freezes 8 = .ok (.iaload, 1) := by decide +kernel
theorem dX10_freezes_9 : decode cX10_freezes 9 = .ok (.if_icmp .ge 85, 3) := by decide +kernel
theorem dX10_freezes_12 : decode cX10_freezes 12 = .ok (.iload_n 1, 1) := by decide +kernel
theorem dX10_freezes_13 : decode cX10_freezes 13 = .ok (.iload_n 3, 1) := by decide +kernel
theorem dX10_freezes_14 : decode cX10_freezes 14 = .ok (.ishr, 1) := by decide +kernel
theorem dX10_freezes_15 : decode cX10_freezes 15 = .ok (.iconst 1, 1) := by decide +kernel
theorem dX10_freezes_16 : decode cX10_freezes 16 = .ok (.iand, 1) := by decide +kernel
theorem dX10_freezes_17 : decode cX10_freezes 17 = .ok (.ifCond .eq 71, 3) := by decide +kernel
theorem dX10_freezes_20 : decode cX10_freezes 20 = .ok (.aload_n 0, 1) := by decide +kernel
theorem dX10_freezes_21 : decode cX10_freezes 21 = .ok (.iload_n 3, 1) := by decide +kernel
theorem dX10_freezes_22 : decode cX10_freezes 22 = .ok (.invokevirtual 183, 3) := by decide +kernel
theorem dX10_freezes_25 : decode cX10_freezes 25 = .ok (.ifCond .ne 6, 3) := by decide +kernel
theorem dX10_freezes_28 : decode cX10_freezes 28 = .ok (.goto 60, 3) := by decide +kernel
theorem dX10_freezes_31 : decode cX10_freezes 31 = .ok (.iload_n 2, 1) := by decide +kernel
theorem dX10_freezes_32 : decode cX10_freezes 32 = .ok (.aload_n 0, 1) := by decide +kernel
theorem dX10_freezes_33 : decode cX10_freezes 33 = .ok (.iload_n 3, 1) := by decide +kernel
theorem dX10_freezes_34 : decode cX10_freezes 34 = .ok (.invokevirtual 180, 3) := by decide +kernel
theorem dX10_freezes_37 : decode cX10_freezes 37 = .ok (.if_icmp .lt 42, 3) := by decide +kernel
theorem dX10_freezes_40 : decode cX10_freezes 40 = .ok (.aload_n 0, 1) := by decide +kernel
theorem dX10_freezes_41 : decode cX10_freezes 41 = .ok (.iload_n 3, 1) := by decide +kernel
theorem dX10_freezes_42 : decode cX10_freezes 42 = .ok (.aload_n 0, 1) := by decide +kernel
theorem dX10_freezes_43 : decode cX10_freezes 43 = .ok (.iload_n 3, 1) := by decide +kernel
theorem dX10_freezes_44 : decode cX10_freezes 44 = .ok (.iload_n 2, 1) := by decide +kernel
theorem dX10_freezes_45 : decode cX10_freezes 45 = .ok (.invokevirtual 197, 3) := by decide +kernel
theorem dX10_freezes_48 : decode cX10_freezes 48 = .ok (.ifCond .eq 16, 3) := by decide +kernel
theorem dX10_freezes_51 : decode cX10_freezes 51 = .ok (.aload_n 0, 1) := by decide +kernel
theorem dX10_freezes_52 : decode cX10_freezes 52 = .ok (.iload_n 3, 1) := by decide +kernel
theorem dX10_freezes_53 : decode cX10_freezes 53 = .ok (.aload_n 0, 1) := by decide +kernel
theorem dX10_freezes_54 : decode cX10_freezes 54 = .ok (.iconst 2, 1) := by decide +kernel
theorem dX10_freezes_55 : decode cX10_freezes 55 = .ok (.invokevirtual 190, 3) := by decide +kernel
theorem dX10_freezes_58 : decode cX10_freezes 58 = .ok (.invokevirtual 201, 3) := by decide +kernel
theorem dX10_freezes_61 : decode cX10_freezes 61 = .ok (.goto 11, 3) := by decide +kernel
theorem dX10_freezes_64 : decode cX10_freezes 64 = .ok (.aload_n 0, 1) := by decide +kernel
theorem dX10_freezes_65 : decode cX10_freezes 65 = .ok (.getfield 34, 3) := by decide +kernel
theorem dX10_freezes_68 : decode cX10_freezes 68 = .ok (.iload_n 3, 1) := by decide +kernel
theorem dX10_freezes_69 : decode cX10_freezes 69 = .ok (.aaload, 1) := by decide +kernel
theorem dX10_freezes_70 : decode cX10_freezes 70 = .ok (.iconst 2, 1) := by decide +kernel
theorem dX10_freezes_71 : decode cX10_freezes 71 = .ok (.iaload, 1) := by decide +kernel
theorem dX10_freezes_72 : decode cX10_freezes 72 = .ok (.iload_n 2, 1) := by decide +kernel
theorem dX10_freezes_73 : decode cX10_freezes 73 = .ok (.invokevirtual 204, 3) := by decide +kernel
theorem dX10_freezes_76 : decode cX10_freezes 76 = .ok (.goto 12, 3) := by decide +kernel
theorem dX10_freezes_79 : decode cX10_freezes 79 = .ok (.iload_n 2, 1) := by decide +kernel
theorem dX10_freezes_80 : decode cX10_freezes 80 = .ok (.ifCond .le 8, 3) := by decide +kernel
theorem dX10_freezes_83 : decode cX10_freezes 83 = .ok (.aload_n 0, 1) := by decide +kernel
theorem dX10_freezes_84 : decode cX10_freezes 84 = .ok (.iload_n 3, 1) := by decide +kernel
theorem dX10_freezes_85 : decode cX10_freezes 85 = .ok (.invokevirtual 208, 3) := by decide +kernel
theorem dX10_freezes_88 : decode cX10_freezes 88 = .ok (.iinc 3 1, 3) := by decide +kernel
theorem dX10_freezes_91 : decode cX10_freezes 91 = .ok (.goto (-89), 3) := by decide +kernel
theorem dX10_freezes_94 : decode cX10_freezes 94 = .ok (.return_, 1) := by decide +kernel
theorem dX10_bruises_0 : decode cX10_bruises 0 = .ok (.aload_n 0, 1) := by decide +kernel
theorem dX10_bruises_1 : decode cX10_bruises 1 = .ok (.getfield 49, 3) := by decide +kernel
theorem dX10_bruises_4 : decode cX10_bruises 4 = .ok (.bipush 121, 2) := by decide +kernel
theorem dX10_bruises_6 : decode cX10_bruises 6 = .ok (.iload_n 1, 1) := by decide +kernel
theorem dX10_bruises_7 : decode cX10_bruises 7 = .ok (.iadd, 1) := by decide +kernel
theorem dX10_bruises_8 : decode cX10_bruises 8 = .ok (.aload_n 0, 1) := by decide +kernel
theorem dX10_bruises_9 : decode cX10_bruises 9 = .ok (.getfield 49, 3) := by decide +kernel
theorem dX10_bruises_12 : decode cX10_bruises 12 = .ok (.bipush 121, 2) := by decide +kernel
theorem dX10_bruises_14 : decode cX10_bruises 14 = .ok (.iload_n 1, 1) := by decide +kernel
theorem dX10_bruises_15 : decode cX10_bruises 15 = .ok (.iadd, 1) := by decide +kernel
theorem dX10_bruises_16 : decode cX10_bruises 16 = .ok (.iaload, 1) := by decide +kernel
theorem dX10_bruises_17 : decode cX10_bruises 17 = .ok (.iconst 1, 1) := by decide +kernel
theorem dX10_bruises_18 : decode cX10_bruises 18 = .ok (.if_icmp .le 17, 3) := by decide +kernel
theorem dX10_bruises_21 : decode cX10_bruises 21 = .ok (.aload_n 0, 1) := by decide +kernel
theorem dX10_bruises_22 : decode cX10_bruises 22 = .ok (.getfield 49, 3) := by decide +kernel
theorem dX10_bruises_25 : decode cX10_bruises 25 = .ok (.bipush 121, 2) := by decide +kernel
theorem dX10_bruises_27 : decode cX10_bruises 27 = .ok (.iload_n 1, 1) := by decide +kernel
theorem dX10_bruises_28 : decode cX10_bruises 28 = .ok (.iadd, 1) := by decide +kernel
theorem dX10_bruises_29 : decode cX10_bruises 29 = .ok (.iaload, 1) := by decide +kernel
theorem dX10_bruises_30 : decode cX10_bruises 30 = .ok (.iconst 1, 1) := by decide +kernel
theorem dX10_bruises_31 : decode cX10_bruises 31 = .ok (.isub, 1) := by decide +kernel
theorem dX10_bruises_32 : decode cX10_bruises 32 = .ok (.goto 4, 3) := by decide +kernel
theorem dX10_bruises_35 : decode cX10_bruises 35 = .ok (.iconst 1, 1) := by decide +kernel
theorem dX10_bruises_36 : decode cX10_bruises 36 = .ok (.iastore, 1) := by decide +kernel
theorem dX10_bruises_37 : decode cX10_bruises 37 = .ok (.aload_n 0, 1) := by decide +kernel
theorem dX10_bruises_38 : decode cX10_bruises 38 = .ok (.getfield 49, 3) := by decide +kernel
theorem dX10_bruises_41 : decode cX10_bruises 41 = .ok (.sipush 154, 3) := by decide +kernel
theorem dX10_bruises_44 : decode cX10_bruises 44 = .ok (.dup2, 1) := by decide +kernel
theorem dX10_bruises_45 : decode cX10_bruises 45 = .ok (.iaload, 1) := by decide +kernel
theorem dX10_bruises_46 : decode cX10_bruises 46 = .ok (.iconst 1, 1) := by decide +kernel
theorem dX10_bruises_47 : decode cX10_bruises 47 = .ok (.iadd, 1) := by decide +kernel
theorem dX10_bruises_48 : decode cX10_bruises 48 = .ok (.iastore, 1) := by decide +kernel
theorem dX10_bruises_49 : decode cX10_bruises 49 = .ok (.return_, 1) := by decide +kernel
theorem dX10_isSize_0 : decode cX10_isSize 0 = .ok (.iload_n 1, 1) := by decide +kernel
theorem dX10_isSize_1 : decode cX10_isSize 1 = .ok (.aload_n 0, 1) := by decide +kernel
theorem dX10_isSize_2 : decode cX10_isSize 2 = .ok (.getfield 40, 3) := by decide +kernel
theorem dX10_isSize_5 : decode cX10_isSize 5 = .ok (.iload_n 3, 1) := by decide +kernel
theorem dX10_isSize_6 : decode cX10_isSize 6 = .ok (.aaload, 1) := by decide +kernel
theorem dX10_isSize_7 : decode cX10_isSize 7 = .ok (.iconst 0, 1) := by decide +kernel
theorem dX10_isSize_8 : decode cX10_isSize 8 = .ok (.iaload, 1) := by decide +kernel
theorem dX10_isSize_9 : decode cX10_isSize 9 = .ok (.if_icmp .ne 15, 3) := by decide +kernel
theorem dX10_isSize_12 : decode cX10_isSize 12 = .ok (.iload_n 2, 1) := by decide +kernel
theorem dX10_isSize_13 : decode cX10_isSize 13 = .ok (.aload_n 0, 1) := by decide +kernel
theorem dX10_isSize_14 : decode cX10_isSize 14 = .ok (.getfield 40, 3) := by decide +kernel
theorem dX10_isSize_17 : decode cX10_isSize 17 = .ok (.iload_n 3, 1) := by decide +kernel
theorem dX10_isSize_18 : decode cX10_isSize 18 = .ok (.aaload, 1) := by decide +kernel
theorem dX10_isSize_19 : decode cX10_isSize 19 = .ok (.iconst 1, 1) := by decide +kernel
theorem dX10_isSize_20 : decode cX10_isSize 20 = .ok (.iaload, 1) := by decide +kernel
theorem dX10_isSize_21 : decode cX10_isSize 21 = .ok (.if_icmp .eq 27, 3) := by decide +kernel
theorem dX10_isSize_24 : decode cX10_isSize 24 = .ok (.iload_n 2, 1) := by decide +kernel
theorem dX10_isSize_25 : decode cX10_isSize 25 = .ok (.aload_n 0, 1) := by decide +kernel
theorem dX10_isSize_26 : decode cX10_isSize 26 = .ok (.getfield 40, 3) := by decide +kernel
theorem dX10_isSize_29 : decode cX10_isSize 29 = .ok (.iload_n 3, 1) := by decide +kernel
theorem dX10_isSize_30 : decode cX10_isSize 30 = .ok (.aaload, 1) := by decide +kernel
theorem dX10_isSize_31 : decode cX10_isSize 31 = .ok (.iconst 0, 1) := by decide +kernel
theorem dX10_isSize_32 : decode cX10_isSize 32 = .ok (.iaload, 1) := by decide +kernel
theorem dX10_isSize_33 : decode cX10_isSize 33 = .ok (.if_icmp .ne 19, 3) := by decide +kernel
theorem dX10_isSize_36 : decode cX10_isSize 36 = .ok (.iload_n 1, 1) := by decide +kernel
theorem dX10_isSize_37 : decode cX10_isSize 37 = .ok (.aload_n 0, 1) := by decide +kernel
theorem dX10_isSize_38 : decode cX10_isSize 38 = .ok (.getfield 40, 3) := by decide +kernel
theorem dX10_isSize_41 : decode cX10_isSize 41 = .ok (.iload_n 3, 1) := by decide +kernel
theorem dX10_isSize_42 : decode cX10_isSize 42 = .ok (.aaload, 1) := by decide +kernel
theorem dX10_isSize_43 : decode cX10_isSize 43 = .ok (.iconst 1, 1) := by decide +kernel
theorem dX10_isSize_44 : decode cX10_isSize 44 = .ok (.iaload, 1) := by decide +kernel
theorem dX10_isSize_45 : decode cX10_isSize 45 = .ok (.if_icmp .ne 7, 3) := by decide +kernel
theorem dX10_isSize_48 : decode cX10_isSize 48 = .ok (.iconst 1, 1) := by decide +kernel
theorem dX10_isSize_49 : decode cX10_isSize 49 = .ok (.goto 4, 3) := by decide +kernel
theorem dX10_isSize_52 : decode cX10_isSize 52 = .ok (.iconst 0, 1) := by decide +kernel
theorem dX10_isSize_53 : decode cX10_isSize 53 = .ok (.ireturn, 1) := by decide +kernel
theorem dX10_sledges_0 : decode cX10_sledges 0 = .ok (.iconst 0, 1) := by decide +kernel
theorem dX10_sledges_1 : decode cX10_sledges 1 = .ok (.istore_n 1, 1) := by decide +kernel
theorem dX10_sledges_2 : decode cX10_sledges 2 = .ok (.iconst 0, 1) := by decide +kernel
theorem dX10_sledges_3 : decode cX10_sledges 3 = .ok (.istore_n 2, 1) := by decide +kernel
theorem dX10_sledges_4 : decode cX10_sledges 4 = .ok (.iload_n 2, 1) := by decide +kernel
theorem dX10_sledges_5 : decode cX10_sledges 5 = .ok (.aload_n 0, 1) := by decide +kernel
theorem dX10_sledges_6 : decode cX10_sledges 6 = .ok (.getfield 20, 3) := by decide +kernel
theorem dX10_sledges_9 : decode cX10_sledges 9 = .ok (.iconst 2, 1) := by decide +kernel
theorem dX10_sledges_10 : decode cX10_sledges 10 = .ok (.iaload, 1) := by decide +kernel
theorem dX10_sledges_11 : decode cX10_sledges 11 = .ok (.if_icmp .ge 217, 3) := by decide +kernel
theorem dX10_sledges_14 : decode cX10_sledges 14 = .ok (.aload_n 0, 1) := by decide +kernel
theorem dX10_sledges_15 : decode cX10_sledges 15 = .ok (.getfield 49, 3) := by decide +kernel
theorem dX10_sledges_18 : decode cX10_sledges 18 = .ok (.sipush 155, 3) := by decide +kernel
theorem dX10_sledges_21 : decode cX10_sledges 21 = .ok (.iaload, 1) := by decide +kernel
theorem dX10_sledges_22 : decode cX10_sledges 22 = .ok (.aload_n 0, 1) := by decide +kernel
theorem dX10_sledges_23 : decode cX10_sledges 23 = .ok (.getfield 20, 3) := by decide +kernel
theorem dX10_sledges_26 : decode cX10_sledges 26 = .ok (.iconst 5, 1) := by decide +kernel
theorem dX10_sledges_27 : decode cX10_sledges 27 = .ok (.iaload, 1) := by decide +kernel
theorem dX10_sledges_28 : decode cX10_sledges 28 = .ok (.if_icmp .ge 200, 3) := by decide +kernel
theorem dX10_sledges_31 : decode cX10_sledges 31 = .ok (.aload_n 0, 1) := by decide +kernel
theorem dX10_sledges_32 : decode cX10_sledges 32 = .ok (.getfield 49, 3) := by decide +kernel
theorem dX10_sledges_35 : decode cX10_sledges 35 = .ok (.sipush 155, 3) := by decide +kernel
theorem dX10_sledges_38 : decode cX10_sledges 38 = .ok (.iaload, 1) := by decide +kernel
theorem dX10_sledges_39 : decode cX10_sledges 39 = .ok (.aload_n 0, 1) := by decide +kernel
theorem dX10_sledges_40 : decode cX10_sledges 40 = .ok (.getfield 40, 3) := by decide +kernel
theorem dX10_sledges_43 : decode cX10_sledges 43 = .ok (.iload_n 2, 1) := by decide +kernel
theorem dX10_sledges_44 : decode cX10_sledges 44 = .ok (.aaload, 1) := by decide +kernel
theorem dX10_sledges_45 : decode cX10_sledges 45 = .ok (.iconst 3, 1) := by decide +kernel
theorem dX10_sledges_46 : decode cX10_sledges 46 = .ok (.iaload, 1) := by decide +kernel
theorem dX10_sledges_47 : decode cX10_sledges 47 = .ok (.if_icmp .le 6, 3) := by decide +kernel
theorem dX10_sledges_50 : decode cX10_sledges 50 = .ok (.goto 172, 3) := by decide +kernel
theorem dX10_sledges_53 : decode cX10_sledges 53 = .ok (.iconst 0, 1) := by decide +kernel
theorem dX10_sledges_54 : decode cX10_sledges 54 = .ok (.istore_n 3, 1) := by decide +kernel
theorem dX10_sledges_55 : decode cX10_sledges 55 = .ok (.iload_n 3, 1) := by decide +kernel
theorem dX10_sledges_56 : decode cX10_sledges 56 = .ok (.aload_n 0, 1) := by decide +kernel
theorem dX10_sledges_57 : decode cX10_sledges 57 = .ok (.getfield 49, 3) := by decide +kernel
theorem dX10_sledges_60 : decode cX10_sledges 60 = .ok (.bipush 120, 2) := by decide +kernel
theorem dX10_sledges_62 : decode cX10_sledges 62 = .ok (.iaload, 1) := by decide +kernel
theorem dX10_sledges_63 : decode cX10_sledges 63 = .ok (.if_icmp .ge 159, 3) := by decide +kernel
theorem dX10_sledges_66 : decode cX10_sledges 66 = .ok (.iload_n 1, 1) := by decide +kernel
theorem dX10_sledges_67 : decode cX10_sledges 67 = .ok (.aload_n 0, 1) := by decide +kernel
theorem dX10_sledges_68 : decode cX10_sledges 68 = .ok (.getfield 20, 3) := by decide +kernel
theorem dX10_sledges_71 : decode cX10_sledges 71 = .ok (.iconst 4, 1) := by decide +kernel
theorem dX10_sledges_72 : decode cX10_sledges 72 = .ok (.iaload, 1) := by decide +kernel
theorem dX10_sledges_73 : decode cX10_sledges 73 = .ok (.if_icmp .ge 149, 3) := by decide +kernel
theorem dX10_sledges_76 : decode cX10_sledges 76 = .ok (.aload_n 0, 1) := by decide +kernel
theorem dX10_sledges_77 : decode cX10_sledges 77 = .ok (.getfield 49, 3) := by decide +kernel
theorem dX10_sledges_80 : decode cX10_sledges 80 = .ok (.sipush 145, 3) := by decide +kernel
theorem dX10_sledges_83 : decode cX10_sledges 83 = .ok (.iload_n 2, 1) := by decide +kernel
theorem dX10_sledges_84 : decode cX10_sledges 84 = .ok (.iadd, 1) := by decide +kernel
theorem dX10_sledges_85 : decode cX10_sledges 85 = .ok (.iaload, 1) := by decide +kernel
theorem dX10_sledges_86 : decode cX10_sledges 86 = .ok (.aload_n 0, 1) := by decide +kernel
theorem dX10_sledges_87 : decode cX10_sledges 87 = .ok (.getfield 40, 3) := by decide +kernel
theorem dX10_sledges_90 : decode cX10_sledges 90 = .ok (.iload_n 2, 1) := by decide +kernel
theorem dX10_sledges_91 : decode cX10_sledges 91 = .ok (.aaload, 1) := by decide +kernel
theorem dX10_sledges_92 : decode cX10_sledges 92 = .ok (.iconst 2, 1) := by decide +kernel
theorem dX10_sledges_93 : decode cX10_sledges 93 = .ok (.iaload, 1) := by decide +kernel
theorem dX10_sledges_94 : decode cX10_sledges 94 = .ok (.if_icmp .ge 128, 3) := by decide +kernel
theorem dX10_sledges_97 : decode cX10_sledges 97 = .ok (.aload_n 0, 1) := by decide +kernel
theorem dX10_sledges_98 : decode cX10_sledges 98 = .ok (.getfield 49, 3) := by decide +kernel
theorem dX10_sledges_101 : decode cX10_sledges 101 = .ok (.bipush 6, 2) := by decide +kernel
theorem dX10_sledges_103 : decode cX10_sledges 103 = .ok (.iload_n 3, 1) := by decide +kernel
theorem dX10_sledges_104 : decode cX10_sledges 104 = .ok (.imul, 1) := by decide +kernel
theorem dX10_sledges_105 : decode cX10_sledges 105 = .ok (.iconst 5, 1) := by decide +kernel
theorem dX10_sledges_106 : decode cX10_sledges 106 = .ok (.iadd, 1) := by decide +kernel
theorem dX10_sledges_107 : decode cX10_sledges 107 = .ok (.iaload, 1) := by decide +kernel
theorem dX10_sledges_108 : decode cX10_sledges 108 = .ok (.ifCond .eq 108, 3) := by decide +kernel
theorem dX10_sledges_111 : decode cX10_sledges 111 = .ok (.aload_n 0, 1) := by decide +kernel
theorem dX10_sledges_112 : decode cX10_sledges 112 = .ok (.aload_n 0, 1) := by decide +kernel
theorem dX10_sledges_113 : decode cX10_sledges 113 = .ok (.getfield 49, 3) := by decide +kernel
theorem dX10_sledges_116 : decode cX10_sledges 116 = .ok (.bipush 6, 2) := by decide +kernel
theorem dX10_sledges_118 : decode cX10_sledges 118 = .ok (.iload_n 3, 1) := by decide +kernel
theorem dX10_sledges_119 : decode cX10_sledges 119 = .ok (.imul, 1) := by decide +kernel
theorem dX10_sledges_120 : decode cX10_sledges 120 = .ok (.iconst 2, 1) := by decide +kernel
theorem dX10_sledges_121 : decode cX10_sledges 121 = .ok (.iadd, 1) := by decide +kernel
theorem dX10_sledges_122 : decode cX10_sledges 122 = .ok (.iaload, 1) := by decide +kernel
theorem dX10_sledges_123 : decode cX10_sledges 123 = .ok (.aload_n 0, 1) := by decide +kernel
theorem dX10_sledges_124 : decode cX10_sledges 124 = .ok (.getfield 49, 3) := by decide +kernel
theorem dX10_sledges_127 : decode cX10_sledges 127 = .ok (.bipush 6, 2) := by decide +kernel
theorem dX10_sledges_129 : decode cX10_sledges 129 = .ok (.iload_n 3, 1) := by decide +kernel
theorem dX10_sledges_130 : decode cX10_sledges 130 = .ok (.imul, 1) := by decide +kernel
theorem dX10_sledges_131 : decode cX10_sledges 131 = .ok (.iconst 1, 1) := by decide +kernel
theorem dX10_sledges_132 : decode cX10_sledges 132 = .ok (.iadd, 1) := by decide +kernel
theorem dX10_sledges_133 : decode cX10_sledges 133 = .ok (.iaload, 1) := by decide +kernel
theorem dX10_sledges_134 : decode cX10_sledges 134 = .ok (.isub, 1) := by decide +kernel
theorem dX10_sledges_135 : decode cX10_sledges 135 = .ok (.aload_n 0, 1) := by decide +kernel
theorem dX10_sledges_136 : decode cX10_sledges 136 = .ok (.getfield 49, 3) := by decide +kernel
theorem dX10_sledges_139 : decode cX10_sledges 139 = .ok (.bipush 6, 2) := by decide +kernel
theorem dX10_sledges_141 : decode cX10_sledges 141 = .ok (.iload_n 3, 1) := by decide +kernel
theorem dX10_sledges_142 : decode cX10_sledges 142 = .ok (.imul, 1) := by decide +kernel
theorem dX10_sledges_143 : decode cX10_sledges 143 = .ok (.iconst 4, 1) := by decide +kernel
theorem dX10_sledges_144 : decode cX10_sledges 144 = .ok (.iadd, 1) := by decide +kernel
theorem dX10_sledges_145 : decode cX10_sledges 145 = .ok (.iaload, 1) := by decide +kernel
theorem dX10_sledges_146 : decode cX10_sledges 146 = .ok (.aload_n 0, 1) := by decide +kernel
theorem dX10_sledges_147 : decode cX10_sledges 147 = .ok (.getfield 49, 3) := by decide +kernel
theorem dX10_sledges_150 : decode cX10_sledges 150 = .ok (.bipush 6, 2) := by decide +kernel
theorem dX10_sledges_152 : decode cX10_sledges 152 = .ok (.iload_n 3, 1) := by decide +kernel
theorem dX10_sledges_153 : decode cX10_sledges 153 = .ok (.imul, 1) := by decide +kernel
theorem dX10_sledges_154 : decode cX10_sledges 154 = .ok (.iconst 3, 1) := by decide +kernel
theorem dX10_sledges_155 : decode cX10_sledges 155 = .ok (.iadd, 1) := by decide +kernel
theorem dX10_sledges_156 : decode cX10_sledges 156 = .ok (.iaload, 1) := by decide +kernel
theorem dX10_sledges_157 : decode cX10_sledges 157 = .ok (.isub, 1) := by decide +kernel
theorem dX10_sledges_158 : decode cX10_sledges 158 = .ok (.iload_n 2, 1) := by decide +kernel
theorem dX10_sledges_159 : decode cX10_sledges 159 = .ok (.invokevirtual 212, 3) := by decide +kernel
theorem dX10_sledges_162 : decode cX10_sledges 162 = .ok (.ifCond .ne 6, 3) := by decide +kernel
theorem dX10_sledges_165 : decode cX10_sledges 165 = .ok (.goto 51, 3) := by decide +kernel
theorem dX10_sledges_168 : decode cX10_sledges 168 = .ok (.aload_n 0, 1) := by decide +kernel
theorem dX10_sledges_169 : decode cX10_sledges 169 = .ok (.getfield 49, 3) := by decide +kernel
theorem dX10_sledges_172 : decode cX10_sledges 172 = .ok (.bipush 6, 2) := by decide +kernel
theorem dX10_sledges_174 : decode cX10_sledges 174 = .ok (.iload_n 3, 1) := by decide +kernel
theorem dX10_sledges_175 : decode cX10_sledges 175 = .ok (.imul, 1) := by decide +kernel
theorem dX10_sledges_176 : decode cX10_sledges 176 = .ok (.iconst 5, 1) := by decide +kernel
theorem dX10_sledges_177 : decode cX10_sledges 177 = .ok (.iadd, 1) := by decide +kernel
theorem dX10_sledges_178 : decode cX10_sledges 178 = .ok (.iconst 0, 1) := by decide +kernel
theorem dX10_sledges_179 : decode cX10_sledges 179 = .ok (.iastore, 1) := by decide +kernel
theorem dX10_sledges_180 : decode cX10_sledges 180 = .ok (.aload_n 0, 1) := by decide +kernel
theorem dX10_sledges_181 : decode cX10_sledges 181 = .ok (.getfield 49, 3) := by decide +kernel
theorem dX10_sledges_184 : decode cX10_sledges 184 = .ok (.sipush 145, 3) := by decide +kernel
theorem dX10_sledges_187 : decode cX10_sledges 187 = .ok (.iload_n 2, 1) := by decide +kernel
theorem dX10_sledges_188 : decode cX10_sledges 188 = .ok (.iadd, 1) := by decide +kernel
theorem dX10_sledges_189 : decode cX10_sledges 189 = .ok (.dup2, 1) := by decide +kernel
theorem dX10_sledges_190 : decode cX10_sledges 190 = .ok (.iaload, 1) := by decide +kernel
theorem dX10_sledges_191 : decode cX10_sledges 191 = .ok (.iconst 1, 1) := by decide +kernel
theorem dX10_sledges_192 : decode cX10_sledges 192 = .ok (.iadd, 1) := by decide +kernel
theorem dX10_sledges_193 : decode cX10_sledges 193 = .ok (.iastore, 1) := by decide +kernel
theorem dX10_sledges_194 : decode cX10_sledges 194 = .ok (.aload_n 0, 1) := by decide +kernel
theorem dX10_sledges_195 : decode cX10_sledges 195 = .ok (.getfield 49, 3) := by decide +kernel
theorem dX10_sledges_198 : decode cX10_sledges 198 = .ok (.sipush 151, 3) := by decide +kernel
theorem dX10_sledges_201 : decode cX10_sledges 201 = .ok (.dup2, 1) := by decide +kernel
theorem dX10_sledges_202 : decode cX10_sledges 202 = .ok (.iaload, 1) := by decide +kernel
theorem dX10_sledges_203 : decode cX10_sledges 203 = .ok (.aload_n 0, 1) := by decide +kernel
theorem dX10_sledges_204 : decode cX10_sledges 204 = .ok (.getfield 40, 3) := by decide +kernel
theorem dX10_sledges_207 : decode cX10_sledges 207 = .ok (.iload_n 2, 1) := by decide +kernel
theorem dX10_sledges_208 : decode cX10_sledges 208 = .ok (.aaload, 1) := by decide +kernel
theorem dX10_sledges_209 : decode cX10_sledges 209 = .ok (.iconst 4, 1) := by decide +kernel
theorem dX10_sledges_210 : decode cX10_sledges 210 = .ok (.iaload, 1) := by decide +kernel
theorem dX10_sledges_211 : decode cX10_sledges 211 = .ok (.iadd, 1) := by decide +kernel
theorem dX10_sledges_212 : decode cX10_sledges 212 = .ok (.iastore, 1) := by decide +kernel
theorem dX10_sledges_213 : decode cX10_sledges 213 = .ok (.iinc 1 1, 3) := by decide +kernel
theorem dX10_sledges_216 : decode cX10_sledges 216 = .ok (.iinc 3 1, 3) := by decide +kernel
theorem dX10_sledges_219 : decode cX10_sledges 219 = .ok (.goto (-164), 3) := by decide +kernel
theorem dX10_sledges_222 : decode cX10_sledges 222 = .ok (.iinc 2 1, 3) := by decide +kernel
theorem dX10_sledges_225 : decode cX10_sledges 225 = .ok (.goto (-221), 3) := by decide +kernel
theorem dX10_sledges_228 : decode cX10_sledges 228 = .ok (.aload_n 0, 1) := by decide +kernel
theorem dX10_sledges_229 : decode cX10_sledges 229 = .ok (.getfield 49, 3) := by decide +kernel
theorem dX10_sledges_232 : decode cX10_sledges 232 = .ok (.sipush 155, 3) := by decide +kernel
theorem dX10_sledges_235 : decode cX10_sledges 235 = .ok (.dup2, 1) := by decide +kernel
theorem dX10_sledges_236 : decode cX10_sledges 236 = .ok (.iaload, 1) := by decide +kernel
theorem dX10_sledges_237 : decode cX10_sledges 237 = .ok (.iconst 1, 1) := by decide +kernel
theorem dX10_sledges_238 : decode cX10_sledges 238 = .ok (.iadd, 1) := by decide +kernel
theorem dX10_sledges_239 : decode cX10_sledges 239 = .ok (.iastore, 1) := by decide +kernel
theorem dX10_sledges_240 : decode cX10_sledges 240 = .ok (.return_, 1) := by decide +kernel
theorem dX10_isOver_0 : decode cX10_isOver 0 = .ok (.aload_n 0, 1) := by decide +kernel
theorem dX10_isOver_1 : decode cX10_isOver 1 = .ok (.getfield 49, 3) := by decide +kernel
theorem dX10_isOver_4 : decode cX10_isOver 4 = .ok (.sipush 155, 3) := by decide +kernel
theorem dX10_isOver_7 : decode cX10_isOver 7 = .ok (.iaload, 1) := by decide +kernel
theorem dX10_isOver_8 : decode cX10_isOver 8 = .ok (.bipush 30, 2) := by decide +kernel
theorem dX10_isOver_10 : decode cX10_isOver 10 = .ok (.if_icmp .ne 7, 3) := by decide +kernel
theorem dX10_isOver_13 : decode cX10_isOver 13 = .ok (.iconst 1, 1) := by decide +kernel
theorem dX10_isOver_14 : decode cX10_isOver 14 = .ok (.goto 4, 3) := by decide +kernel
theorem dX10_isOver_17 : decode cX10_isOver 17 = .ok (.iconst 0, 1) := by decide +kernel
theorem dX10_isOver_18 : decode cX10_isOver 18 = .ok (.ireturn, 1) := by decide +kernel
theorem dX10_isFill_0 : decode cX10_isFill 0 = .ok (.iload_n 1, 1) := by decide +kernel
theorem dX10_isFill_1 : decode cX10_isFill 1 = .ok (.ifCond .lt 31, 3) := by decide +kernel
theorem dX10_isFill_4 : decode cX10_isFill 4 = .ok (.iload_n 1, 1) := by decide +kernel
theorem dX10_isFill_5 : decode cX10_isFill 5 = .ok (.aload_n 0, 1) := by decide +kernel
theorem dX10_isFill_6 : decode cX10_isFill 6 = .ok (.invokevirtual 215, 3) := by decide +kernel
theorem dX10_isFill_9 : decode cX10_isFill 9 = .ok (.iconst (-1), 1) := by decide +kernel
theorem dX10_isFill_10 : decode cX10_isFill 10 = .ok (.ixor, 1) := by decide +kernel
theorem dX10_isFill_11 : decode cX10_isFill 11 = .ok (.iand, 1) := by decide +kernel
theorem dX10_isFill_12 : decode cX10_isFill 12 = .ok (.ifCond .ne 20, 3) := by decide +kernel
theorem dX10_isFill_15 : decode cX10_isFill 15 = .ok (.iload_n 1, 1) := by decide +kernel
theorem dX10_isFill_16 : decode cX10_isFill 16 = .ok (.invokestatic 218, 3) := by decide +kernel
theorem dX10_isFill_19 : decode cX10_isFill 19 = .ok (.aload_n 0, 1) := by decide +kernel
theorem dX10_isFill_20 : decode cX10_isFill 20 = .ok (.getfield 20, 3) := by decide +kernel
theorem dX10_isFill_23 : decode cX10_isFill 23 = .ok (.iconst 3, 1) := by decide +kernel
theorem dX10_isFill_24 : decode cX10_isFill 24 = .ok (.iaload, 1) := by decide +kernel
theorem dX10_isFill_25 : decode cX10_isFill 25 = .ok (.if_icmp .gt 7, 3) := by decide +kernel
theorem dX10_isFill_28 : decode cX10_isFill 28 = .ok (.iconst 1, 1) := by decide +kernel
theorem dX10_isFill_29 : decode cX10_isFill 29 = .ok (.goto 4, 3) := by decide +kernel
theorem dX10_isFill_32 : decode cX10_isFill 32 = .ok (.iconst 0, 1) := by decide +kernel
theorem dX10_isFill_33 : decode cX10_isFill 33 = .ok (.ireturn, 1) := by decide +kernel
theorem dX10_night_0 : decode cX10_night 0 = .ok (.aload_n 0, 1) := by decide +kernel
theorem dX10_night_1 : decode cX10_night 1 = .ok (.iconst 0, 1) := by decide +kernel
theorem dX10_night_2 : decode cX10_night 2 = .ok (.putfield 76, 3) := by decide +kernel
theorem dX10_night_5 : decode cX10_night 5 = .ok (.aload_n 0, 1) := by decide +kernel
theorem dX10_night_6 : decode cX10_night 6 = .ok (.aload_n 0, 1) := by decide +kernel
theorem dX10_night_7 : decode cX10_night 7 = .ok (.iload_n 1, 1) := by decide +kernel
theorem dX10_night_8 : decode cX10_night 8 = .ok (.invokevirtual 221, 3) := by decide +kernel
theorem dX10_night_11 : decode cX10_night 11 = .ok (.ifCond .eq 13, 3) := by decide +kernel
theorem dX10_night_14 : decode cX10_night 14 = .ok (.iload_n 2, 1) := by decide +kernel
theorem dX10_night_15 : decode cX10_night 15 = .ok (.iconst (-1), 1) := by decide +kernel
theorem dX10_night_16 : decode cX10_night 16 = .ok (.bipush 9, 2) := by decide +kernel
theorem dX10_night_18 : decode cX10_night 18 = .ok (.invokestatic 110, 3) := by decide +kernel
theorem dX10_night_21 : decode cX10_night 21 = .ok (.ifCond .ne 7, 3) := by decide +kernel
theorem dX10_night_24 : decode cX10_night 24 = .ok (.iconst 1, 1) := by decide +kernel
theorem dX10_night_25 : decode cX10_night 25 = .ok (.goto 4, 3) := by decide +kernel
theorem dX10_night_28 : decode cX10_night 28 = .ok (.iconst 0, 1) := by decide +kernel
theorem dX10_night_29 : decode cX10_night 29 = .ok (.iconst 1, 1) := by decide +kernel
theorem dX10_night_30 : decode cX10_night 30 = .ok (.invokevirtual 148, 3) := by decide +kernel
theorem dX10_night_33 : decode cX10_night 33 = .ok (.ifCond .ne 15, 3) := by decide +kernel
theorem dX10_night_36 : decode cX10_night 36 = .ok (.aload_n 0, 1) := by decide +kernel
theorem dX10_night_37 : decode cX10_night 37 = .ok (.aload_n 0, 1) := by decide +kernel
theorem dX10_night_38 : decode cX10_night 38 = .ok (.invokevirtual 224, 3) := by decide +kernel
theorem dX10_night_41 : decode cX10_night 41 = .ok (.iconst 2, 1) := by decide +kernel
theorem dX10_night_42 : decode cX10_night 42 = .ok (.invokevirtual 148, 3) := by decide +kernel
theorem dX10_night_45 : decode cX10_night 45 = .ok (.ifCond .eq 5, 3) := by decide +kernel
theorem dX10_night_48 : decode cX10_night 48 = .ok (.iconst 0, 1) := by decide +kernel
theorem dX10_night_49 : decode cX10_night 49 = .ok (.ireturn, 1) := by decide +kernel
theorem dX10_night_50 : decode cX10_night 50 = .ok (.aload_n 0, 1) := by decide +kernel
theorem dX10_night_51 : decode cX10_night 51 = .ok (.getfield 49, 3) := by decide +kernel
theorem dX10_night_54 : decode cX10_night 54 = .ok (.sipush 152, 3) := by decide +kernel
theorem dX10_night_57 : decode cX10_night 57 = .ok (.iaload, 1) := by decide +kernel
theorem dX10_night_58 : decode cX10_night 58 = .ok (.istore_n 3, 1) := by decide +kernel
theorem dX10_night_59 : decode cX10_night 59 = .ok (.iload_n 2, 1) := by decide +kernel
theorem dX10_night_60 : decode cX10_night 60 = .ok (.iconst (-1), 1) := by decide +kernel
theorem dX10_night_61 : decode cX10_night 61 = .ok (.if_icmp .ne 10, 3) := by decide +kernel
theorem dX10_night_64 : decode cX10_night 64 = .ok (.aload_n 0, 1) := by decide +kernel
theorem dX10_night_65 : decode cX10_night 65 = .ok (.invokevirtual 228, 3) := by decide +kernel
theorem dX10_night_68 : decode cX10_night 68 = .ok (.goto 4, 3) := by decide +kernel
theorem dX10_night_71 : decode cX10_night 71 = .ok (.iload_n 2, 1) := by decide +kernel
theorem dX10_night_72 : decode cX10_night 72 = .ok (.istore 4, 2) := by decide +kernel
theorem dX10_night_74 : decode cX10_night 74 = .ok (.aload_n 0, 1) := by decide +kernel
theorem dX10_night_75 : decode cX10_night 75 = .ok (.iconst 1, 1) := by decide +kernel
theorem dX10_night_76 : decode cX10_night 76 = .ok (.putfield 193, 3) := by decide +kernel
theorem dX10_night_79 : decode cX10_night 79 = .ok (.aload_n 0, 1) := by decide +kernel
theorem dX10_night_80 : decode cX10_night 80 = .ok (.getfield 58, 3) := by decide +kernel
theorem dX10_night_83 : decode cX10_night 83 = .ok (.aload_n 0, 1) := by decide +kernel
theorem dX10_night_84 : decode cX10_night 84 = .ok (.getfield 49, 3) := by decide +kernel
theorem dX10_night_87 : decode cX10_night 87 = .ok (.sipush 155, 3) := by decide +kernel
theorem dX10_night_90 : decode cX10_night 90 = .ok (.iaload, 1) := by decide +kernel
theorem dX10_night_91 : decode cX10_night 91 = .ok (.iload 4, 2) := by decide +kernel
theorem dX10_night_93 : decode cX10_night 93 = .ok (.iastore, 1) := by decide +kernel
theorem dX10_night_94 : decode cX10_night 94 = .ok (.aload_n 0, 1) := by decide +kernel
theorem dX10_night_95 : decode cX10_night 95 = .ok (.iload_n 1, 1) := by decide +kernel
theorem dX10_night_96 : decode cX10_night 96 = .ok (.iload 4, 2) := by decide +kernel
theorem dX10_night_98 : decode cX10_night 98 = .ok (.invokevirtual 231, 3) := by decide +kernel
theorem dX10_night_101 : decode cX10_night 101 = .ok (.aload_n 0, 1) := by decide +kernel
theorem dX10_night_102 : decode cX10_night 102 = .ok (.iconst 0, 1) := by decide +kernel
theorem dX10_night_103 : decode cX10_night 103 = .ok (.putfield 193, 3) := by decide +kernel
theorem dX10_night_106 : decode cX10_night 106 = .ok (.aload_n 0, 1) := by decide +kernel
theorem dX10_night_107 : decode cX10_night 107 = .ok (.invokevirtual 234, 3) := by decide +kernel
theorem dX10_night_110 : decode cX10_night 110 = .ok (.aload_n 0, 1) := by decide +kernel
theorem dX10_night_111 : decode cX10_night 111 = .ok (.getfield 49, 3) := by decide +kernel
theorem dX10_night_114 : decode cX10_night 114 = .ok (.sipush 152, 3) := by decide +kernel
theorem dX10_night_117 : decode cX10_night 117 = .ok (.iaload, 1) := by decide +kernel
theorem dX10_night_118 : decode cX10_night 118 = .ok (.iload_n 3, 1) := by decide +kernel
theorem dX10_night_119 : decode cX10_night 119 = .ok (.isub, 1) := by decide +kernel
theorem dX10_night_120 : decode cX10_night 120 = .ok (.ireturn, 1) := by decide +kernel
theorem dX10_area_0 : decode cX10_area 0 = .ok (.aload_n 0, 1) := by decide +kernel
theorem dX10_area_1 : decode cX10_area 1 = .ok (.getfield 49, 3) := by decide +kernel
theorem dX10_area_4 : decode cX10_area 4 = .ok (.bipush 6, 2) := by decide +kernel
theorem dX10_area_6 : decode cX10_area 6 = .ok (.iload_n 1, 1) := by decide +kernel
theorem dX10_area_7 : decode cX10_area 7 = .ok (.imul, 1) := by decide +kernel
theorem dX10_area_8 : decode cX10_area 8 = .ok (.iconst 2, 1) := by decide +kernel
theorem dX10_area_9 : decode cX10_area 9 = .ok (.iadd, 1) := by decide +kernel
theorem dX10_area_10 : decode cX10_area 10 = .ok (.iaload, 1) := by decide +kernel
theorem dX10_area_11 : decode cX10_area 11 = .ok (.aload_n 0, 1) := by decide +kernel
theorem dX10_area_12 : decode cX10_area 12 = .ok (.getfield 49, 3) := by decide +kernel
theorem dX10_area_15 : decode cX10_area 15 = .ok (.bipush 6, 2) := by decide +kernel
theorem dX10_area_17 : decode cX10_area 17 = .ok (.iload_n 1, 1) := by decide +kernel
theorem dX10_area_18 : decode cX10_area 18 = .ok (.imul, 1) := by decide +kernel
theorem dX10_area_19 : decode cX10_area 19 = .ok (.iconst 1, 1) := by decide +kernel
theorem dX10_area_20 : decode cX10_area 20 = .ok (.iadd, 1) := by decide +kernel
theorem dX10_area_21 : decode cX10_area 21 = .ok (.iaload, 1) := by decide +kernel
theorem dX10_area_22 : decode cX10_area 22 = .ok (.isub, 1) := by decide +kernel
theorem dX10_area_23 : decode cX10_area 23 = .ok (.aload_n 0, 1) := by decide +kernel
theorem dX10_area_24 : decode cX10_area 24 = .ok (.getfield 49, 3) := by decide +kernel
theorem dX10_area_27 : decode cX10_area 27 = .ok (.bipush 6, 2) := by decide +kernel
theorem dX10_area_29 : decode cX10_area 29 = .ok (.iload_n 1, 1) := by decide +kernel
theorem dX10_area_30 : decode cX10_area 30 = .ok (.imul, 1) := by decide +kernel
theorem dX10_area_31 : decode cX10_area 31 = .ok (.iconst 4, 1) := by decide +kernel
theorem dX10_area_32 : decode cX10_area 32 = .ok (.iadd, 1) := by decide +kernel
theorem dX10_area_33 : decode cX10_area 33 = .ok (.iaload, 1) := by decide +kernel
theorem dX10_area_34 : decode cX10_area 34 = .ok (.aload_n 0, 1) := by decide +kernel
theorem dX10_area_35 : decode cX10_area 35 = .ok (.getfield 49, 3) := by decide +kernel
theorem dX10_area_38 : decode cX10_area 38 = .ok (.bipush 6, 2) := by decide +kernel
theorem dX10_area_40 : decode cX10_area 40 = .ok (.iload_n 1, 1) := by decide +kernel
theorem dX10_area_41 : decode cX10_area 41 = .ok (.imul, 1) := by decide +kernel
theorem dX10_area_42 : decode cX10_area 42 = .ok (.iconst 3, 1) := by decide +kernel
theorem dX10_area_43 : decode cX10_area 43 = .ok (.iadd, 1) := by decide +kernel
theorem dX10_area_44 : decode cX10_area 44 = .ok (.iaload, 1) := by decide +kernel
theorem dX10_area_45 : decode cX10_area 45 = .ok (.isub, 1) := by decide +kernel
theorem dX10_area_46 : decode cX10_area 46 = .ok (.imul, 1) := by decide +kernel
theorem dX10_area_47 : decode cX10_area 47 = .ok (.ireturn, 1) := by decide +kernel
theorem dX10_orderOf_0 : decode cX10_orderOf 0 = .ok (.iconst 0, 1) := by decide +kernel
theorem dX10_orderOf_1 : decode cX10_orderOf 1 = .ok (.istore_n 3, 1) := by decide +kernel
theorem dX10_orderOf_2 : decode cX10_orderOf 2 = .ok (.iload_n 3, 1) := by decide +kernel
theorem dX10_orderOf_3 : decode cX10_orderOf 3 = .ok (.aload_n 0, 1) := by decide +kernel
theorem dX10_orderOf_4 : decode cX10_orderOf 4 = .ok (.getfield 20, 3) := by decide +kernel
theorem dX10_orderOf_7 : decode cX10_orderOf 7 = .ok (.iconst 2, 1) := by decide +kernel
theorem dX10_orderOf_8 : decode cX10_orderOf 8 = .ok (.iaload, 1) := by decide +kernel
theorem dX10_orderOf_9 : decode cX10_orderOf 9 = .ok (.if_icmp .ge 21, 3) := by decide +kernel
theorem dX10_orderOf_12 : decode cX10_orderOf 12 = .ok (.aload_n 0, 1) := by decide +kernel
theorem dX10_orderOf_13 : decode cX10_orderOf 13 = .ok (.iload_n 1, 1) := by decide +kernel
theorem dX10_orderOf_14 : decode cX10_orderOf 14 = .ok (.iload_n 2, 1) := by decide +kernel
theorem dX10_orderOf_15 : decode cX10_orderOf 15 = .ok (.iload_n 3, 1) := by decide +kernel
theorem dX10_orderOf_16 : decode cX10_orderOf 16 = .ok (.invokevirtual 212, 3) := by decide +kernel
theorem dX10_orderOf_19 : decode cX10_orderOf 19 = .ok (.ifCond .eq 5, 3) := by decide +kernel
theorem dX10_orderOf_22 : decode cX10_orderOf 22 = .ok (.iload_n 3, 1) := by decide +kernel
theorem dX10_orderOf_23 : decode cX10_orderOf 23 = .ok (.ireturn, 1) := by decide +kernel
theorem dX10_orderOf_24 : decode cX10_orderOf 24 = .ok (.iinc 3 1, 3) := by decide +kernel
theorem dX10_orderOf_27 : decode cX10_orderOf 27 = .ok (.goto (-25), 3) := by decide +kernel
theorem dX10_orderOf_30 : decode cX10_orderOf 30 = .ok (.iconst (-1), 1) := by decide +kernel
theorem dX10_orderOf_31 : decode cX10_orderOf 31 = .ok (.ireturn, 1) := by decide +kernel
theorem dX10_sums_0 : decode cX10_sums 0 = .ok (.aload_n 0, 1) := by decide +kernel
theorem dX10_sums_1 : decode cX10_sums 1 = .ok (.iconst 0, 1) := by decide +kernel
theorem dX10_sums_2 : decode cX10_sums 2 = .ok (.putfield 76, 3) := by decide +kernel
theorem dX10_sums_5 : decode cX10_sums 5 = .ok (.aload_n 0, 1) := by decide +kernel
theorem dX10_sums_6 : decode cX10_sums 6 = .ok (.iload_n 1, 1) := by decide +kernel
theorem dX10_sums_7 : decode cX10_sums 7 = .ok (.iconst 0, 1) := by decide +kernel
theorem dX10_sums_8 : decode cX10_sums 8 = .ok (.bipush 7, 2) := by decide +kernel
theorem dX10_sums_10 : decode cX10_sums 10 = .ok (.invokestatic 110, 3) := by decide +kernel
theorem dX10_sums_13 : decode cX10_sums 13 = .ok (.ifCond .ne 7, 3) := by decide +kernel
theorem dX10_sums_16 : decode cX10_sums 16 = .ok (.iconst 1, 1) := by decide +kernel
theorem dX10_sums_17 : decode cX10_sums 17 = .ok (.goto 4, 3) := by decide +kernel
theorem dX10_sums_20 : decode cX10_sums 20 = .ok (.iconst 0, 1) := by decide +kernel
theorem dX10_sums_21 : decode cX10_sums 21 = .ok (.iconst 1, 1) := by decide +kernel
theorem dX10_sums_22 : decode cX10_sums 22 = .ok (.invokevirtual 148, 3) := by decide +kernel
theorem dX10_sums_25 : decode cX10_sums 25 = .ok (.ifCond .eq 5, 3) := by decide +kernel
theorem dX10_sums_28 : decode cX10_sums 28 = .ok (.iconst 0, 1) := by decide +kernel
theorem dX10_sums_29 : decode cX10_sums 29 = .ok (.ireturn, 1) := by decide +kernel
theorem dX10_sums_30 : decode cX10_sums 30 = .ok (.iconst 0, 1) := by decide +kernel
theorem dX10_sums_31 : decode cX10_sums 31 = .ok (.istore_n 2, 1) := by decide +kernel
theorem dX10_sums_32 : decode cX10_sums 32 = .ok (.iconst 0, 1) := by decide +kernel
theorem dX10_sums_33 : decode cX10_sums 33 = .ok (.istore_n 3, 1) := by decide +kernel
theorem dX10_sums_34 : decode cX10_sums 34 = .ok (.iconst 0, 1) := by decide +kernel
theorem dX10_sums_35 : decode cX10_sums 35 = .ok (.istore 4, 2) := by decide +kernel
theorem dX10_sums_37 : decode cX10_sums 37 = .ok (.iconst 0, 1) := by decide +kernel
theorem dX10_sums_38 : decode cX10_sums 38 = .ok (.istore 5, 2) := by decide +kernel
theorem dX10_sums_40 : decode cX10_sums 40 = .ok (.iload 5, 2) := by decide +kernel
theorem dX10_sums_42 : decode cX10_sums 42 = .ok (.aload_n 0, 1) := by decide +kernel
theorem dX10_sums_43 : decode cX10_sums 43 = .ok (.getfield 49, 3) := by decide +kernel
theorem dX10_sums_46 : decode cX10_sums 46 = .ok (.bipush 120, 2) := by decide +kernel
theorem dX10_sums_48 : decode cX10_sums 48 = .ok (.iaload, 1) := by decide +kernel
theorem dX10_sums_49 : decode cX10_sums 49 = .ok (.if_icmp .ge 113, 3) := by decide +kernel
theorem dX10_sums_52 : decode cX10_sums 52 = .ok (.aload_n 0, 1) := by decide +kernel
theorem dX10_sums_53 : decode cX10_sums 53 = .ok (.getfield 49, 3) := by decide +kernel
theorem dX10_sums_56 : decode cX10_sums 56 = .ok (.bipush 6, 2) := by decide +kernel
theorem dX10_sums_58 : decode cX10_sums 58 = .ok (.iload 5, 2) := by decide +kernel
theorem dX10_sums_60 : decode cX10_sums 60 = .ok (.imul, 1) := by decide +kernel
theorem dX10_sums_61 : decode cX10_sums 61 = .ok (.iconst 5, 1) := by decide +kernel
theorem dX10_sums_62 : decode cX10_sums 62 = .ok (.iadd, 1) := by decide +kernel
theorem dX10_sums_63 : decode cX10_sums 63 = .ok (.iaload, 1) := by decide +kernel
theorem dX10_sums_64 : decode cX10_sums 64 = .ok (.ifCond .ne 15, 3) := by decide +kernel
theorem dX10_sums_67 : decode cX10_sums 67 = .ok (.iload_n 3, 1) := by decide +kernel
theorem dX10_sums_68 : decode cX10_sums 68 = .ok (.aload_n 0, 1) := by decide +kernel
theorem dX10_sums_69 : decode cX10_sums 69 = .ok (.iload 5, 2) := by decide +kernel
theorem dX10_sums_71 : decode cX10_sums 71 = .ok (.invokevirtual 237, 3) := by decide +kernel
theorem dX10_sums_74 : decode cX10_sums 74 = .ok (.iadd, 1) := by decide +kernel
theorem dX10_sums_75 : decode cX10_sums 75 = .ok (.istore_n 3, 1) := by decide +kernel
theorem dX10_sums_76 : decode cX10_sums 76 = .ok (.goto 80, 3) := by decide +kernel
theorem dX10_sums_79 : decode cX10_sums 79 = .ok (.iload_n 2, 1) := by decide +kernel
theorem dX10_sums_80 : decode cX10_sums 80 = .ok (.aload_n 0, 1) := by decide +kernel
theorem dX10_sums_81 : decode cX10_sums 81 = .ok (.iload 5, 2) := by decide +kernel
theorem dX10_sums_83 : decode cX10_sums 83 = .ok (.invokevirtual 237, 3) := by decide +kernel
theorem dX10_sums_86 : decode cX10_sums 86 = .ok (.iadd, 1) := by decide +kernel
theorem dX10_sums_87 : decode cX10_sums 87 = .ok (.istore_n 2, 1) := by decide +kernel
theorem dX10_sums_88 : decode cX10_sums 88 = .ok (.iload 4, 2) := by decide +kernel
theorem dX10_sums_90 : decode cX10_sums 90 = .ok (.aload_n 0, 1) := by decide +kernel
theorem dX10_sums_91 : decode cX10_sums 91 = .ok (.aload_n 0, 1) := by decide +kernel
theorem dX10_sums_92 : decode cX10_sums 92 = .ok (.getfield 49, 3) := by decide +kernel
theorem dX10_sums_95 : decode cX10_sums 95 = .ok (.bipush 6, 2) := by decide +kernel
theorem dX10_sums_97 : decode cX10_sums 97 = .ok (.iload 5, 2) := by decide +kernel
theorem dX10_sums_99 : decode cX10_sums 99 = .ok (.imul, 1) := by decide +kernel
theorem dX10_sums_100 : decode cX10_sums 100 = .ok (.iconst 2, 1) := by decide +kernel
theorem dX10_sums_101 : decode cX10_sums 101 = .ok (.iadd, 1) := by decide +kernel
theorem dX10_sums_102 : decode cX10_sums 102 = .ok (.iaload, 1) := by decide +kernel
theorem dX10_sums_103 : decode cX10_sums 103 = .ok (.aload_n 0, 1) := by decide +kernel
theorem dX10_sums_104 : decode cX10_sums 104 = .ok (.getfield 49, 3) := by decide +kernel
theorem dX10_sums_107 : decode cX10_sums 107 = .ok (.bipush 6, 2) := by decide +kernel
theorem dX10_sums_109 : decode cX10_sums 109 = .ok (.iload 5, 2) := by decide +kernel
theorem dX10_sums_111 : decode cX10_sums 111 = .ok (.imul, 1) := by decide +kernel
theorem dX10_sums_112 : decode cX10_sums 112 = .ok (.iconst 1, 1) := by decide +kernel
theorem dX10_sums_113 : decode cX10_sums 113 = .ok (.iadd, 1) := by decide +kernel
theorem dX10_sums_114 : decode cX10_sums 114 = .ok (.iaload, 1) := by decide +kernel
theorem dX10_sums_115 : decode cX10_sums 115 = .ok (.isub, 1) := by decide +kernel
theorem dX10_sums_116 : decode cX10_sums 116 = .ok (.aload_n 0, 1) := by decide +kernel
theorem dX10_sums_117 : decode cX10_sums 117 = .ok (.getfield 49, 3) := by decide +kernel
theorem dX10_sums_120 : decode cX10_sums 120 = .ok (.bipush 6, 2) := by decide +kernel
theorem dX10_sums_122 : decode cX10_sums 122 = .ok (.iload 5, 2) := by decide +kernel
theorem dX10_sums_124 : decode cX10_sums 124 = .ok (.imul, 1) := by decide +kernel
theorem dX10_sums_125 : decode cX10_sums 125 = .ok (.iconst 4, 1) := by decide +kernel
theorem dX10_sums_126 : decode cX10_sums 126 = .ok (.iadd, 1) := by decide +kernel
theorem dX10_sums_127 : decode cX10_sums 127 = .ok (.iaload, 1) := by decide +kernel
theorem dX10_sums_128 : decode cX10_sums 128 = .ok (.aload_n 0, 1) := by decide +kernel
theorem dX10_sums_129 : decode cX10_sums 129 = .ok (.getfield 49, 3) := by decide +kernel
theorem dX10_sums_132 : decode cX10_sums 132 = .ok (.bipush 6, 2) := by decide +kernel
theorem dX10_sums_134 : decode cX10_sums 134 = .ok (.iload 5, 2) := by decide +kernel
theorem dX10_sums_136 : decode cX10_sums 136 = .ok (.imul, 1) := by decide +kernel
theorem dX10_sums_137 : decode cX10_sums 137 = .ok (.iconst 3, 1) := by decide +kernel
theorem dX10_sums_138 : decode cX10_sums 138 = .ok (.iadd, 1) := by decide +kernel
theorem dX10_sums_139 : decode cX10_sums 139 = .ok (.iaload, 1) := by decide +kernel
theorem dX10_sums_140 : decode cX10_sums 140 = .ok (.isub, 1) := by decide +kernel
theorem dX10_sums_141 : decode cX10_sums 141 = .ok (.invokevirtual 240, 3) := by decide +kernel
theorem dX10_sums_144 : decode cX10_sums 144 = .ok (.iconst (-1), 1) := by decide +kernel
theorem dX10_sums_145 : decode cX10_sums 145 = .ok (.if_icmp .ne 7, 3) := by decide +kernel
theorem dX10_sums_148 : decode cX10_sums 148 = .ok (.iconst 1, 1) := by decide +kernel
theorem dX10_sums_149 : decode cX10_sums 149 = .ok (.goto 4, 3) := by decide +kernel
theorem dX10_sums_152 : decode cX10_sums 152 = .ok (.iconst 0, 1) := by decide +kernel
theorem dX10_sums_153 : decode cX10_sums 153 = .ok (.iadd, 1) := by decide +kernel
theorem dX10_sums_154 : decode cX10_sums 154 = .ok (.istore 4, 2) := by decide +kernel
theorem dX10_sums_156 : decode cX10_sums 156 = .ok (.iinc 5 1, 3) := by decide +kernel
theorem dX10_sums_159 : decode cX10_sums 159 = .ok (.goto (-119), 3) := by decide +kernel
theorem dX10_sums_162 : decode cX10_sums 162 = .ok (.iload_n 1, 1) := by decide +kernel
theorem dX10_sums_163 : decode cX10_sums 163 = .ok (.iconst 3, 1) := by decide +kernel
theorem dX10_sums_164 : decode cX10_sums 164 = .ok (.if_icmp .ge 24, 3) := by decide +kernel
theorem dX10_sums_167 : decode cX10_sums 167 = .ok (.iload_n 1, 1) := by decide +kernel
theorem dX10_sums_168 : decode cX10_sums 168 = .ok (.ifCond .ne 9, 3) := by decide +kernel
theorem dX10_sums_171 : decode cX10_sums 171 = .ok (.iload_n 2, 1) := by decide +kernel
theorem dX10_sums_172 : decode cX10_sums 172 = .ok (.iload_n 3, 1) := by decide +kernel
theorem dX10_sums_173 : decode cX10_sums 173 = .ok (.iadd, 1) := by decide +kernel
theorem dX10_sums_174 : decode cX10_sums 174 = .ok (.goto 13, 3) := by decide +kernel
theorem dX10_sums_177 : decode cX10_sums 177 = .ok (.iload_n 1, 1) := by decide +kernel
theorem dX10_sums_178 : decode cX10_sums 178 = .ok (.iconst 1, 1) := by decide +kernel
theorem dX10_sums_179 : decode cX10_sums 179 = .ok (.if_icmp .ne 7, 3) := by decide +kernel
theorem dX10_sums_182 : decode cX10_sums 182 = .ok (.iload_n 2, 1) := by decide +kernel
theorem dX10_sums_183 : decode cX10_sums 183 = .ok (.goto 4, 3) := by decide +kernel
theorem dX10_sums_186 : decode cX10_sums 186 = .ok (.iload_n 3, 1) := by decide +kernel
theorem dX10_sums_187 : decode cX10_sums 187 = .ok (.ireturn, 1) := by decide +kernel
theorem dX10_sums_188 : decode cX10_sums 188 = .ok (.iload_n 1, 1) := by decide +kernel
theorem dX10_sums_189 : decode cX10_sums 189 = .ok (.bipush 7, 2) := by decide +kernel
theorem dX10_sums_191 : decode cX10_sums 191 = .ok (.if_icmp .ge 18, 3) := by decide +kernel
theorem dX10_sums_194 : decode cX10_sums 194 = .ok (.aload_n 0, 1) := by decide +kernel
theorem dX10_sums_195 : decode cX10_sums 195 = .ok (.getfield 49, 3) := by decide +kernel
theorem dX10_sums_198 : decode cX10_sums 198 = .ok (.sipush 151, 3) := by decide +kernel
theorem dX10_sums_201 : decode cX10_sums 201 = .ok (.iload_n 1, 1) := by decide +kernel
theorem dX10_sums_202 : decode cX10_sums 202 = .ok (.iadd, 1) := by decide +kernel
theorem dX10_sums_203 : decode cX10_sums 203 = .ok (.iconst 3, 1) := by decide +kernel
theorem dX10_sums_204 : decode cX10_sums 204 = .ok (.isub, 1) := by decide +kernel
theorem dX10_sums_205 : decode cX10_sums 205 = .ok (.iaload, 1) := by decide +kernel
theorem dX10_sums_206 : decode cX10_sums 206 = .ok (.goto 5, 3) := by decide +kernel
theorem dX10_sums_209 : decode cX10_sums 209 = .ok (.iload 4, 2) := by decide +kernel
theorem dX10_sums_211 : decode cX10_sums 211 = .ok (.ireturn, 1) := by decide +kernel
theorem dX10_trace_0 : decode cX10_trace 0 = .ok (.aload_n 0, 1) := by decide +kernel
theorem dX10_trace_1 : decode cX10_trace 1 = .ok (.iconst 0, 1) := by decide +kernel
theorem dX10_trace_2 : decode cX10_trace 2 = .ok (.putfield 76, 3) := by decide +kernel
theorem dX10_trace_5 : decode cX10_trace 5 = .ok (.aload_n 0, 1) := by decide +kernel
theorem dX10_trace_6 : decode cX10_trace 6 = .ok (.iload_n 2, 1) := by decide +kernel
theorem dX10_trace_7 : decode cX10_trace 7 = .ok (.iconst 0, 1) := by decide +kernel
theorem dX10_trace_8 : decode cX10_trace 8 = .ok (.iconst 3, 1) := by decide +kernel
theorem dX10_trace_9 : decode cX10_trace 9 = .ok (.invokestatic 110, 3) := by decide +kernel
theorem dX10_trace_12 : decode cX10_trace 12 = .ok (.ifCond .ne 7, 3) := by decide +kernel
theorem dX10_trace_15 : decode cX10_trace 15 = .ok (.iconst 1, 1) := by decide +kernel
theorem dX10_trace_16 : decode cX10_trace 16 = .ok (.goto 4, 3) := by decide +kernel
theorem dX10_trace_19 : decode cX10_trace 19 = .ok (.iconst 0, 1) := by decide +kernel
theorem dX10_trace_20 : decode cX10_trace 20 = .ok (.iconst 1, 1) := by decide +kernel
theorem dX10_trace_21 : decode cX10_trace 21 = .ok (.invokevirtual 148, 3) := by decide +kernel
theorem dX10_trace_24 : decode cX10_trace 24 = .ok (.ifCond .eq 5, 3) := by decide +kernel
theorem dX10_trace_27 : decode cX10_trace 27 = .ok (.iconst 0, 1) := by decide +kernel
theorem dX10_trace_28 : decode cX10_trace 28 = .ok (.ireturn, 1) := by decide +kernel
theorem dX10_trace_29 : decode cX10_trace 29 = .ok (.iload_n 1, 1) := by decide +kernel
theorem dX10_trace_30 : decode cX10_trace 30 = .ok (.iconst 0, 1) := by decide +kernel
theorem dX10_trace_31 : decode cX10_trace 31 = .ok (.aload_n 0, 1) := by decide +kernel
theorem dX10_trace_32 : decode cX10_trace 32 = .ok (.getfield 49, 3) := by decide +kernel
theorem dX10_trace_35 : decode cX10_trace 35 = .ok (.sipush 152, 3) := by decide +kernel
theorem dX10_trace_38 : decode cX10_trace 38 = .ok (.iaload, 1) := by decide +kernel
theorem dX10_trace_39 : decode cX10_trace 39 = .ok (.iconst 1, 1) := by decide +kernel
theorem dX10_trace_40 : decode cX10_trace 40 = .ok (.isub, 1) := by decide +kernel
theorem dX10_trace_41 : decode cX10_trace 41 = .ok (.invokestatic 110, 3) := by decide +kernel
theorem dX10_trace_44 : decode cX10_trace 44 = .ok (.ifCond .eq 14, 3) := by decide +kernel
theorem dX10_trace_47 : decode cX10_trace 47 = .ok (.aload_n 0, 1) := by decide +kernel
theorem dX10_trace_48 : decode cX10_trace 48 = .ok (.getfield 64, 3) := by decide +kernel
theorem dX10_trace_51 : decode cX10_trace 51 = .ok (.iload_n 1, 1) := by decide +kernel
theorem dX10_trace_52 : decode cX10_trace 52 = .ok (.aaload, 1) := by decide +kernel
theorem dX10_trace_53 : decode cX10_trace 53 = .ok (.iload_n 2, 1) := by decide +kernel
theorem dX10_trace_54 : decode cX10_trace 54 = .ok (.iaload, 1) := by decide +kernel
theorem dX10_trace_55 : decode cX10_trace 55 = .ok (.goto 5, 3) := by decide +kernel
theorem dX10_trace_58 : decode cX10_trace 58 = .ok (.bipush (-2), 2) := by decide +kernel
theorem dX10_trace_60 : decode cX10_trace 60 = .ok (.ireturn, 1) := by decide +kernel
theorem dX10_cold_0 : decode cX10_cold 0 = .ok (.aload_n 0, 1) := by decide +kernel
theorem dX10_cold_1 : decode cX10_cold 1 = .ok (.iconst 0, 1) := by decide +kernel
theorem dX10_cold_2 : decode cX10_cold 2 = .ok (.putfield 76, 3) := by decide +kernel
theorem dX10_cold_5 : decode cX10_cold 5 = .ok (.iload_n 1, 1) := by decide +kernel
theorem dX10_cold_6 : decode cX10_cold 6 = .ok (.iconst 0, 1) := by decide +kernel
theorem dX10_cold_7 : decode cX10_cold 7 = .ok (.aload_n 0, 1) := by decide +kernel
theorem dX10_cold_8 : decode cX10_cold 8 = .ok (.getfield 49, 3) := by decide +kernel
theorem dX10_cold_11 : decode cX10_cold 11 = .ok (.sipush 155, 3) := by decide +kernel
theorem dX10_cold_14 : decode cX10_cold 14 = .ok (.iaload, 1) := by decide +kernel
theorem dX10_cold_15 : decode cX10_cold 15 = .ok (.iconst 1, 1) := by decide +kernel
theorem dX10_cold_16 : decode cX10_cold 16 = .ok (.isub, 1) := by decide +kernel
theorem dX10_cold_17 : decode cX10_cold 17 = .ok (.invokestatic 110, 3) := by decide +kernel
theorem dX10_cold_20 : decode cX10_cold 20 = .ok (.ifCond .eq 12, 3) := by decide +kernel
theorem dX10_cold_23 : decode cX10_cold 23 = .ok (.aload_n 0, 1) := by decide +kernel
theorem dX10_cold_24 : decode cX10_cold 24 = .ok (.getfield 58, 3) := by decide +kernel
theorem dX10_cold_27 : decode cX10_cold 27 = .ok (.iload_n 1, 1) := by decide +kernel
theorem dX10_cold_28 : decode cX10_cold 28 = .ok (.iaload, 1) := by decide +kernel
theorem dX10_cold_29 : decode cX10_cold 29 = .ok (.goto 4, 3) := by decide +kernel
theorem dX10_cold_32 : decode cX10_cold 32 = .ok (.iconst (-1), 1) := by decide +kernel
theorem dX10_cold_33 : decode cX10_cold 33 = .ok (.ireturn, 1) := by decide +kernel
theorem dX10_undone_0 : decode cX10_undone 0 = .ok (.aload_n 0, 1) := by decide +kernel
theorem dX10_undone_1 : decode cX10_undone 1 = .ok (.iconst 0, 1) := by decide +kernel
theorem dX10_undone_2 : decode cX10_undone 2 = .ok (.putfield 76, 3) := by decide +kernel
theorem dX10_undone_5 : decode cX10_undone 5 = .ok (.aload_n 0, 1) := by decide +kernel
theorem dX10_undone_6 : decode cX10_undone 6 = .ok (.invokevirtual 215, 3) := by decide +kernel
theorem dX10_undone_9 : decode cX10_undone 9 = .ok (.ireturn, 1) := by decide +kernel
theorem dX10_sideOf_0 : decode cX10_sideOf 0 = .ok (.aload_n 0, 1) := by decide +kernel
theorem dX10_sideOf_1 : decode cX10_sideOf 1 = .ok (.iload_n 1, 1) := by decide +kernel
theorem dX10_sideOf_2 : decode cX10_sideOf 2 = .ok (.invokevirtual 183, 3) := by decide +kernel
theorem dX10_sideOf_5 : decode cX10_sideOf 5 = .ok (.ifCond .eq 11, 3) := by decide +kernel
theorem dX10_sideOf_8 : decode cX10_sideOf 8 = .ok (.aload_n 0, 1) := by decide +kernel
theorem dX10_sideOf_9 : decode cX10_sideOf 9 = .ok (.iload_n 1, 1) := by decide +kernel
theorem dX10_sideOf_10 : decode cX10_sideOf 10 = .ok (.invokevirtual 168, 3) := by decide +kernel
theorem dX10_sideOf_13 : decode cX10_sideOf 13 = .ok (.goto 4, 3) := by decide +kernel
theorem dX10_sideOf_16 : decode cX10_sideOf 16 = .ok (.iconst (-1), 1) := by decide +kernel
theorem dX10_sideOf_17 : decode cX10_sideOf 17 = .ok (.istore 5, 2) := by decide +kernel
theorem dX10_sideOf_19 : decode cX10_sideOf 19 = .ok (.aload_n 0, 1) := by decide +kernel
theorem dX10_sideOf_20 : decode cX10_sideOf 20 = .ok (.getfield 34, 3) := by decide +kernel
theorem dX10_sideOf_23 : decode cX10_sideOf 23 = .ok (.iload_n 1, 1) := by decide +kernel
theorem dX10_sideOf_24 : decode cX10_sideOf 24 = .ok (.aaload, 1) := by decide +kernel
theorem dX10_sideOf_25 : decode cX10_sideOf 25 = .ok (.iconst 2, 1) := by decide +kernel
theorem dX10_sideOf_26 : decode cX10_sideOf 26 = .ok (.iaload, 1) := by decide +kernel
theorem dX10_sideOf_27 : decode cX10_sideOf 27 = .ok (.iload_n 2, 1) := by decide +kernel
theorem dX10_sideOf_28 : decode cX10_sideOf 28 = .ok (.iadd, 1) := by decide +kernel
theorem dX10_sideOf_29 : decode cX10_sideOf 29 = .ok (.iconst 1, 1) := by decide +kernel
theorem dX10_sideOf_30 : decode cX10_sideOf 30 = .ok (.isub, 1) := by decide +kernel
theorem dX10_sideOf_31 : decode cX10_sideOf 31 = .ok (.istore 6, 2) := by decide +kernel
theorem dX10_sideOf_33 : decode cX10_sideOf 33 = .ok (.iload 5, 2) := by decide +kernel
theorem dX10_sideOf_35 : decode cX10_sideOf 35 = .ok (.iconst (-1), 1) := by decide +kernel
theorem dX10_sideOf_36 : decode cX10_sideOf 36 = .ok (.if_icmp .eq 15, 3) := by decide +kernel
theorem dX10_sideOf_39 : decode cX10_sideOf 39 = .ok (.aload_n 0, 1) := by decide +kernel
theorem dX10_sideOf_40 : decode cX10_sideOf 40 = .ok (.iload_n 1, 1) := by decide +kernel
theorem dX10_sideOf_41 : decode cX10_sideOf 41 = .ok (.iload 5, 2) := by decide +kernel
theorem dX10_sideOf_43 : decode cX10_sideOf 43 = .ok (.iload 6, 2) := by decide +kernel
theorem dX10_sideOf_45 : decode cX10_sideOf 45 = .ok (.invokevirtual 171, 3) := by decide +kernel
theorem dX10_sideOf_48 : decode cX10_sideOf 48 = .ok (.ifCond .ne 5, 3) := by decide +kernel
theorem dX10_sideOf_51 : decode cX10_sideOf 51 = .ok (.iconst (-1), 1) := by decide +kernel
theorem dX10_sideOf_52 : decode cX10_sideOf 52 = .ok (.ireturn, 1) := by decide +kernel
theorem dX10_sideOf_53 : decode cX10_sideOf 53 = .ok (.bipush 6, 2) := by decide +kernel
theorem dX10_sideOf_55 : decode cX10_sideOf 55 = .ok (.iload 5, 2) := by decide +kernel
theorem dX10_sideOf_57 : decode cX10_sideOf 57 = .ok (.imul, 1) := by decide +kernel
theorem dX10_sideOf_58 : decode cX10_sideOf 58 = .ok (.iconst 1, 1) := by decide +kernel
theorem dX10_sideOf_59 : decode cX10_sideOf 59 = .ok (.iadd, 1) := by decide +kernel
theorem dX10_sideOf_60 : decode cX10_sideOf 60 = .ok (.iconst 2, 1) := by decide +kernel
theorem dX10_sideOf_61 : decode cX10_sideOf 61 = .ok (.iload 4, 2) := by decide +kernel
theorem dX10_sideOf_63 : decode cX10_sideOf 63 = .ok (.imul, 1) := by decide +kernel
theorem dX10_sideOf_64 : decode cX10_sideOf 64 = .ok (.iadd, 1) := by decide +kernel
theorem dX10_sideOf_65 : decode cX10_sideOf 65 = .ok (.istore 7, 2) := by decide +kernel
theorem dX10_sideOf_67 : decode cX10_sideOf 67 = .ok (.iload 4, 2) := by decide +kernel
theorem dX10_sideOf_69 : decode cX10_sideOf 69 = .ok (.aload_n 0, 1) := by decide +kernel
theorem dX10_sideOf_70 : decode cX10_sideOf 70 = .ok (.getfield 34, 3) := by decide +kernel
theorem dX10_sideOf_73 : decode cX10_sideOf 73 = .ok (.iload_n 1, 1) := by decide +kernel
theorem dX10_sideOf_74 : decode cX10_sideOf 74 = .ok (.aaload, 1) := by decide +kernel
theorem dX10_sideOf_75 : decode cX10_sideOf 75 = .ok (.iconst 1, 1) := by decide +kernel
theorem dX10_sideOf_76 : decode cX10_sideOf 76 = .ok (.iaload, 1) := by decide +kernel
theorem dX10_sideOf_77 : decode cX10_sideOf 77 = .ok (.if_icmp .eq 21, 3) := by decide +kernel
theorem dX10_sideOf_80 : decode cX10_sideOf 80 = .ok (.aload_n 0, 1) := by decide +kernel
theorem dX10_sideOf_81 : decode cX10_sideOf 81 = .ok (.getfield 49, 3) := by decide +kernel
theorem dX10_sideOf_84 : decode cX10_sideOf 84 = .ok (.iload 7, 2) := by decide +kernel
theorem dX10_sideOf_86 : decode cX10_sideOf 86 = .ok (.iconst 1, 1) := by decide +kernel
theorem dX10_sideOf_87 : decode cX10_sideOf 87 = .ok (.iadd, 1) := by decide +kernel
theorem dX10_sideOf_88 : decode cX10_sideOf 88 = .ok (.iaload, 1) := by decide +kernel
theorem dX10_sideOf_89 : decode cX10_sideOf 89 = .ok (.aload_n 0, 1) := by decide +kernel
theorem dX10_sideOf_90 : decode cX10_sideOf 90 = .ok (.getfield 49, 3) := by decide +kernel
theorem dX10_sideOf_93 : decode cX10_sideOf 93 = .ok (.iload 7, 2) := by decide +kernel
theorem dX10_sideOf_95 : decode cX10_sideOf 95 = .ok (.iaload, 1) := by decide +kernel
theorem dX10_sideOf_96 : decode cX10_sideOf 96 = .ok (.isub, 1) := by decide +kernel
theorem dX10_sideOf_97 : decode cX10_sideOf 97 = .ok (.ireturn, 1) := by decide +kernel
theorem dX10_sideOf_98 : decode cX10_sideOf 98 = .ok (.iload_n 3, 1) := by decide +kernel
theorem dX10_sideOf_99 : decode cX10_sideOf 99 = .ok (.ifCond .ne 16, 3) := by decide +kernel
theorem dX10_sideOf_102 : decode cX10_sideOf 102 = .ok (.iload 6, 2) := by decide +kernel
theorem dX10_sideOf_104 : decode cX10_sideOf 104 = .ok (.aload_n 0, 1) := by decide +kernel
theorem dX10_sideOf_105 : decode cX10_sideOf 105 = .ok (.getfield 49, 3) := by decide +kernel
theorem dX10_sideOf_108 : decode cX10_sideOf 108 = .ok (.iload 7, 2) := by decide +kernel
theorem dX10_sideOf_110 : decode cX10_sideOf 110 = .ok (.iaload, 1) := by decide +kernel
theorem dX10_sideOf_111 : decode cX10_sideOf 111 = .ok (.isub, 1) := by decide +kernel
theorem dX10_sideOf_112 : decode cX10_sideOf 112 = .ok (.goto 15, 3) := by decide +kernel
theorem dX10_sideOf_115 : decode cX10_sideOf 115 = .ok (.aload_n 0, 1) := by decide +kernel
theorem dX10_sideOf_116 : decode cX10_sideOf 116 = .ok (.getfield 49, 3) := by decide +kernel
theorem dX10_sideOf_119 : decode cX10_sideOf 119 = .ok (.iload 7, 2) := by decide +kernel
theorem dX10_sideOf_121 : decode cX10_sideOf 121 = .ok (.iconst 1, 1) := by decide +kernel
theorem dX10_sideOf_122 : decode cX10_sideOf 122 = .ok (.iadd, 1) := by decide +kernel
theorem dX10_sideOf_123 : decode cX10_sideOf 123 = .ok (.iaload, 1) := by decide +kernel
theorem dX10_sideOf_124 : decode cX10_sideOf 124 = .ok (.iload 6, 2) := by decide +kernel
theorem dX10_sideOf_126 : decode cX10_sideOf 126 = .ok (.isub, 1) := by decide +kernel
theorem dX10_sideOf_127 : decode cX10_sideOf 127 = .ok (.ireturn, 1) := by decide +kernel
theorem dX10_left_0 : decode cX10_left 0 = .ok (.aload_n 0, 1) := by decide +kernel
theorem dX10_left_1 : decode cX10_left 1 = .ok (.iconst 0, 1) := by decide +kernel
theorem dX10_left_2 : decode cX10_left 2 = .ok (.putfield 76, 3) := by decide +kernel
theorem dX10_left_5 : decode cX10_left 5 = .ok (.aload_n 0, 1) := by decide +kernel
theorem dX10_left_6 : decode cX10_left 6 = .ok (.aload_n 0, 1) := by decide +kernel
theorem dX10_left_7 : decode cX10_left 7 = .ok (.iload_n 1, 1) := by decide +kernel
theorem dX10_left_8 : decode cX10_left 8 = .ok (.invokevirtual 177, 3) := by decide +kernel
theorem dX10_left_11 : decode cX10_left 11 = .ok (.ifCond .ne 7, 3) := by decide +kernel
theorem dX10_left_14 : decode cX10_left 14 = .ok (.iconst 1, 1) := by decide +kernel
theorem dX10_left_15 : decode cX10_left 15 = .ok (.goto 4, 3) := by decide +kernel
theorem dX10_left_18 : decode cX10_left 18 = .ok (.iconst 0, 1) := by decide +kernel
theorem dX10_left_19 : decode cX10_left 19 = .ok (.iconst 1, 1) := by decide +kernel
theorem dX10_left_20 : decode cX10_left 20 = .ok (.invokevirtual 148, 3) := by decide +kernel
theorem dX10_left_23 : decode cX10_left 23 = .ok (.ifCond .ne 34, 3) := by decide +kernel
theorem dX10_left_26 : decode cX10_left 26 = .ok (.aload_n 0, 1) := by decide +kernel
theorem dX10_left_27 : decode cX10_left 27 = .ok (.iload_n 2, 1) := by decide +kernel
theorem dX10_left_28 : decode cX10_left 28 = .ok (.iconst 0, 1) := by decide +kernel
theorem dX10_left_29 : decode cX10_left 29 = .ok (.iconst 2, 1) := by decide +kernel
theorem dX10_left_30 : decode cX10_left 30 = .ok (.invokestatic 110, 3) := by decide +kernel
theorem dX10_left_33 : decode cX10_left 33 = .ok (.ifCond .eq 12, 3) := by decide +kernel
theorem dX10_left_36 : decode cX10_left 36 = .ok (.iload_n 3, 1) := by decide +kernel
theorem dX10_left_37 : decode cX10_left 37 = .ok (.iconst 0, 1) := by decide +kernel
theorem dX10_left_38 : decode cX10_left 38 = .ok (.iconst 1, 1) := by decide +kernel
theorem dX10_left_39 : decode cX10_left 39 = .ok (.invokestatic 110, 3) := by decide +kernel
theorem dX10_left_42 : decode cX10_left 42 = .ok (.ifCond .ne 7, 3) := by decide +kernel
theorem dX10_left_45 : decode cX10_left 45 = .ok (.iconst 1, 1) := by decide +kernel
theorem dX10_left_46 : decode cX10_left 46 = .ok (.goto 4, 3) := by decide +kernel
theorem dX10_left_49 : decode cX10_left 49 = .ok (.iconst 0, 1) := by decide +kernel
theorem dX10_left_50 : decode cX10_left 50 = .ok (.iconst 2, 1) := by decide +kernel
theorem dX10_left_51 : decode cX10_left 51 = .ok (.invokevirtual 148, 3) := by decide +kernel
theorem dX10_left_54 : decode cX10_left 54 = .ok (.ifCond .eq 5, 3) := by decide +kernel
theorem dX10_left_57 : decode cX10_left 57 = .ok (.iconst 0, 1) := by decide +kernel
theorem dX10_left_58 : decode cX10_left 58 = .ok (.ireturn, 1) := by decide +kernel
theorem dX10_left_59 : decode cX10_left 59 = .ok (.aload_n 0, 1) := by decide +kernel
theorem dX10_left_60 : decode cX10_left 60 = .ok (.iload_n 1, 1) := by decide +kernel
theorem dX10_left_61 : decode cX10_left 61 = .ok (.iload_n 2, 1) := by decide +kernel
theorem dX10_left_62 : decode cX10_left 62 = .ok (.iload_n 3, 1) := by decide +kernel
theorem dX10_left_63 : decode cX10_left 63 = .ok (.iconst 0, 1) := by decide +kernel
theorem dX10_left_64 : decode cX10_left 64 = .ok (.invokevirtual 243, 3) := by decide +kernel
theorem dX10_left_67 : decode cX10_left 67 = .ok (.istore 4, 2) := by decide +kernel
theorem dX10_left_69 : decode cX10_left 69 = .ok (.iload 4, 2) := by decide +kernel
theorem dX10_left_71 : decode cX10_left 71 = .ok (.iconst (-1), 1) := by decide +kernel
theorem dX10_left_72 : decode cX10_left 72 = .ok (.if_icmp .ne 7, 3) := by decide +kernel
theorem dX10_left_75 : decode cX10_left 75 = .ok (.iconst (-1), 1) := by decide +kernel
theorem dX10_left_76 : decode cX10_left 76 = .ok (.goto 14, 3) := by decide +kernel
theorem dX10_left_79 : decode cX10_left 79 = .ok (.iload 4, 2) := by decide +kernel
theorem dX10_left_81 : decode cX10_left 81 = .ok (.aload_n 0, 1) := by decide +kernel
theorem dX10_left_82 : decode cX10_left 82 = .ok (.iload_n 1, 1) := by decide +kernel
theorem dX10_left_83 : decode cX10_left 83 = .ok (.iload_n 2, 1) := by decide +kernel
theorem dX10_left_84 : decode cX10_left 84 = .ok (.iload_n 3, 1) := by decide +kernel
theorem dX10_left_85 : decode cX10_left 85 = .ok (.iconst 1, 1) := by decide +kernel
theorem dX10_left_86 : decode cX10_left 86 = .ok (.invokevirtual 243, 3) := by decide +kernel
theorem dX10_left_89 : decode cX10_left 89 = .ok (.imul, 1) := by decide +kernel
theorem dX10_left_90 : decode cX10_left 90 = .ok (.ireturn, 1) := by decide +kernel
theorem dX10_fits_0 : decode cX10_fits 0 = .ok (.aload_n 0, 1) := by decide +kernel
theorem dX10_fits_1 : decode cX10_fits 1 = .ok (.iconst 0, 1) := by decide +kernel
theorem dX10_fits_2 : decode cX10_fits 2 = .ok (.putfield 76, 3) := by decide +kernel
theorem dX10_fits_5 : decode cX10_fits 5 = .ok (.aload_n 0, 1) := by decide +kernel
theorem dX10_fits_6 : decode cX10_fits 6 = .ok (.aload_n 0, 1) := by decide +kernel
theorem dX10_fits_7 : decode cX10_fits 7 = .ok (.iload_n 1, 1) := by decide +kernel
theorem dX10_fits_8 : decode cX10_fits 8 = .ok (.invokevirtual 177, 3) := by decide +kernel
theorem dX10_fits_11 : decode cX10_fits 11 = .ok (.ifCond .ne 7, 3) := by decide +kernel
theorem dX10_fits_14 : decode cX10_fits 14 = .ok (.iconst 1, 1) := by decide +kernel
theorem dX10_fits_15 : decode cX10_fits 15 = .ok (.goto 4, 3) := by decide +kernel
theorem dX10_fits_18 : decode cX10_fits 18 = .ok (.iconst 0, 1) := by decide +kernel
theorem dX10_fits_19 : decode cX10_fits 19 = .ok (.iconst 1, 1) := by decide +kernel
theorem dX10_fits_20 : decode cX10_fits 20 = .ok (.invokevirtual 148, 3) := by decide +kernel
theorem dX10_fits_23 : decode cX10_fits 23 = .ok (.ifCond .ne 34, 3) := by decide +kernel
theorem dX10_fits_26 : decode cX10_fits 26 = .ok (.aload_n 0, 1) := by decide +kernel
theorem dX10_fits_27 : decode cX10_fits 27 = .ok (.iload_n 2, 1) := by decide +kernel
theorem dX10_fits_28 : decode cX10_fits 28 = .ok (.iconst 0, 1) := by decide +kernel
theorem dX10_fits_29 : decode cX10_fits 29 = .ok (.iconst 2, 1) := by decide +kernel
theorem dX10_fits_30 : decode cX10_fits 30 = .ok (.invokestatic 110, 3) := by decide +kernel
theorem dX10_fits_33 : decode cX10_fits 33 = .ok (.ifCond .eq 12, 3) := by decide +kernel
theorem dX10_fits_36 : decode cX10_fits 36 = .ok (.iload_n 3, 1) := by decide +kernel
theorem dX10_fits_37 : decode cX10_fits 37 = .ok (.iconst 0, 1) := by decide +kernel
theorem dX10_fits_38 : decode cX10_fits 38 = .ok (.iconst 1, 1) := by decide +kernel
theorem dX10_fits_39 : decode cX10_fits 39 = .ok (.invokestatic 110, 3) := by decide +kernel
theorem dX10_fits_42 : decode cX10_fits 42 = .ok (.ifCond .ne 7, 3) := by decide +kernel
theorem dX10_fits_45 : decode cX10_fits 45 = .ok (.iconst 1, 1) := by decide +kernel
theorem dX10_fits_46 : decode cX10_fits 46 = .ok (.goto 4, 3) := by decide +kernel
theorem dX10_fits_49 : decode cX10_fits 49 = .ok (.iconst 0, 1) := by decide +kernel
theorem dX10_fits_50 : decode cX10_fits 50 = .ok (.iconst 2, 1) := by decide +kernel
theorem dX10_fits_51 : decode cX10_fits 51 = .ok (.invokevirtual 148, 3) := by decide +kernel
theorem dX10_fits_54 : decode cX10_fits 54 = .ok (.ifCond .eq 5, 3) := by decide +kernel
theorem dX10_fits_57 : decode cX10_fits 57 = .ok (.iconst 0, 1) := by decide +kernel
theorem dX10_fits_58 : decode cX10_fits 58 = .ok (.ireturn, 1) := by decide +kernel
theorem dX10_fits_59 : decode cX10_fits 59 = .ok (.aload_n 0, 1) := by decide +kernel
theorem dX10_fits_60 : decode cX10_fits 60 = .ok (.iload_n 1, 1) := by decide +kernel
theorem dX10_fits_61 : decode cX10_fits 61 = .ok (.iload_n 2, 1) := by decide +kernel
theorem dX10_fits_62 : decode cX10_fits 62 = .ok (.iload_n 3, 1) := by decide +kernel
theorem dX10_fits_63 : decode cX10_fits 63 = .ok (.iconst 0, 1) := by decide +kernel
theorem dX10_fits_64 : decode cX10_fits 64 = .ok (.invokevirtual 243, 3) := by decide +kernel
theorem dX10_fits_67 : decode cX10_fits 67 = .ok (.istore 4, 2) := by decide +kernel
theorem dX10_fits_69 : decode cX10_fits 69 = .ok (.iload 4, 2) := by decide +kernel
theorem dX10_fits_71 : decode cX10_fits 71 = .ok (.iconst (-1), 1) := by decide +kernel
theorem dX10_fits_72 : decode cX10_fits 72 = .ok (.if_icmp .ne 7, 3) := by decide +kernel
theorem dX10_fits_75 : decode cX10_fits 75 = .ok (.iconst (-1), 1) := by decide +kernel
theorem dX10_fits_76 : decode cX10_fits 76 = .ok (.goto 17, 3) := by decide +kernel
theorem dX10_fits_79 : decode cX10_fits 79 = .ok (.aload_n 0, 1) := by decide +kernel
theorem dX10_fits_80 : decode cX10_fits 80 = .ok (.iload 4, 2) := by decide +kernel
theorem dX10_fits_82 : decode cX10_fits 82 = .ok (.aload_n 0, 1) := by decide +kernel
theorem dX10_fits_83 : decode cX10_fits 83 = .ok (.iload_n 1, 1) := by decide +kernel
theorem dX10_fits_84 : decode cX10_fits 84 = .ok (.iload_n 2, 1) := by decide +kernel
theorem dX10_fits_85 : decode cX10_fits 85 = .ok (.iload_n 3, 1) := by decide +kernel
theorem dX10_fits_86 : decode cX10_fits 86 = .ok (.iconst 1, 1) := by decide +kernel
theorem dX10_fits_87 : decode cX10_fits 87 = .ok (.invokevirtual 243, 3) := by decide +kernel
theorem dX10_fits_90 : decode cX10_fits 90 = .ok (.invokevirtual 240, 3) := by decide +kernel
theorem dX10_fits_93 : decode cX10_fits 93 = .ok (.ireturn, 1) := by decide +kernel
theorem dX10_plan_0 : decode cX10_plan 0 = .ok (.aload_n 0, 1) := by decide +kernel
theorem dX10_plan_1 : decode cX10_plan 1 = .ok (.iconst 0, 1) := by decide +kernel
theorem dX10_plan_2 : decode cX10_plan 2 = .ok (.putfield 76, 3) := by decide +kernel
theorem dX10_plan_5 : decode cX10_plan 5 = .ok (.aload_n 0, 1) := by decide +kernel
theorem dX10_plan_6 : decode cX10_plan 6 = .ok (.iload_n 1, 1) := by decide +kernel
theorem dX10_plan_7 : decode cX10_plan 7 = .ok (.iconst 0, 1) := by decide +kernel
theorem dX10_plan_8 : decode cX10_plan 8 = .ok (.iconst 1, 1) := by decide +kernel
theorem dX10_plan_9 : decode cX10_plan 9 = .ok (.aload_n 0, 1) := by decide +kernel
theorem dX10_plan_10 : decode cX10_plan 10 = .ok (.getfield 20, 3) := by decide +kernel
theorem dX10_plan_13 : decode cX10_plan 13 = .ok (.iconst 1, 1) := by decide +kernel
theorem dX10_plan_14 : decode cX10_plan 14 = .ok (.iaload, 1) := by decide +kernel
theorem dX10_plan_15 : decode cX10_plan 15 = .ok (.ishl, 1) := by decide +kernel
theorem dX10_plan_16 : decode cX10_plan 16 = .ok (.iconst 1, 1) := by decide +kernel
theorem dX10_plan_17 : decode cX10_plan 17 = .ok (.isub, 1) := by decide +kernel
theorem dX10_plan_18 : decode cX10_plan 18 = .ok (.invokestatic 110, 3) := by decide +kernel
theorem dX10_plan_21 : decode cX10_plan 21 = .ok (.ifCond .ne 7, 3) := by decide +kernel
theorem dX10_plan_24 : decode cX10_plan 24 = .ok (.iconst 1, 1) := by decide +kernel
theorem dX10_plan_25 : decode cX10_plan 25 = .ok (.goto 4, 3) := by decide +kernel
theorem dX10_plan_28 : decode cX10_plan 28 = .ok (.iconst 0, 1) := by decide +kernel
theorem dX10_plan_29 : decode cX10_plan 29 = .ok (.iconst 1, 1) := by decide +kernel
theorem dX10_plan_30 : decode cX10_plan 30 = .ok (.invokevirtual 148, 3) := by decide +kernel
theorem dX10_plan_33 : decode cX10_plan 33 = .ok (.ifCond .eq 5, 3) := by decide +kernel
theorem dX10_plan_36 : decode cX10_plan 36 = .ok (.iconst 0, 1) := by decide +kernel
theorem dX10_plan_37 : decode cX10_plan 37 = .ok (.ireturn, 1) := by decide +kernel
theorem dX10_plan_38 : decode cX10_plan 38 = .ok (.aload_n 0, 1) := by decide +kernel
theorem dX10_plan_39 : decode cX10_plan 39 = .ok (.getfield 159, 3) := by decide +kernel
theorem dX10_plan_42 : decode cX10_plan 42 = .ok (.bipush 30, 2) := by decide +kernel
theorem dX10_plan_44 : decode cX10_plan 44 = .ok (.if_icmp .ne 5, 3) := by decide +kernel
theorem dX10_plan_47 : decode cX10_plan 47 = .ok (.iconst (-1), 1) := by decide +kernel
theorem dX10_plan_48 : decode cX10_plan 48 = .ok (.ireturn, 1) := by decide +kernel
theorem dX10_plan_49 : decode cX10_plan 49 = .ok (.aload_n 0, 1) := by decide +kernel
theorem dX10_plan_50 : decode cX10_plan 50 = .ok (.getfield 55, 3) := by decide +kernel
theorem dX10_plan_53 : decode cX10_plan 53 = .ok (.aload_n 0, 1) := by decide +kernel
theorem dX10_plan_54 : decode cX10_plan 54 = .ok (.getfield 159, 3) := by decide +kernel
theorem dX10_plan_57 : decode cX10_plan 57 = .ok (.iload_n 1, 1) := by decide +kernel
theorem dX10_plan_58 : decode cX10_plan 58 = .ok (.iastore, 1) := by decide +kernel
theorem dX10_plan_59 : decode cX10_plan 59 = .ok (.aload_n 0, 1) := by decide +kernel
theorem dX10_plan_60 : decode cX10_plan 60 = .ok (.dup, 1) := by decide +kernel
theorem dX10_plan_61 : decode cX10_plan 61 = .ok (.getfield 159, 3) := by decide +kernel
theorem dX10_plan_64 : decode cX10_plan 64 = .ok (.iconst 1, 1) := by decide +kernel
theorem dX10_plan_65 : decode cX10_plan 65 = .ok (.iadd, 1) := by decide +kernel
theorem dX10_plan_66 : decode cX10_plan 66 = .ok (.putfield 159, 3) := by decide +kernel
theorem dX10_plan_69 : decode cX10_plan 69 = .ok (.aload_n 0, 1) := by decide +kernel
theorem dX10_plan_70 : decode cX10_plan 70 = .ok (.getfield 159, 3) := by decide +kernel
theorem dX10_plan_73 : decode cX10_plan 73 = .ok (.ireturn, 1) := by decide +kernel
theorem dX10_clear_0 : decode cX10_clear 0 = .ok (.aload_n 0, 1) := by decide +kernel
theorem dX10_clear_1 : decode cX10_clear 1 = .ok (.iconst 0, 1) := by decide +kernel
theorem dX10_clear_2 : decode cX10_clear 2 = .ok (.putfield 76, 3) := by decide +kernel
theorem dX10_clear_5 : decode cX10_clear 5 = .ok (.aload_n 0, 1) := by decide +kernel
theorem dX10_clear_6 : decode cX10_clear 6 = .ok (.getfield 159, 3) := by decide +kernel
theorem dX10_clear_9 : decode cX10_clear 9 = .ok (.istore_n 1, 1) := by decide +kernel
theorem dX10_clear_10 : decode cX10_clear 10 = .ok (.aload_n 0, 1) := by decide +kernel
theorem dX10_clear_11 : decode cX10_clear 11 = .ok (.iconst 0, 1) := by decide +kernel
theorem dX10_clear_12 : decode cX10_clear 12 = .ok (.putfield 159, 3) := by decide +kernel
theorem dX10_clear_15 : decode cX10_clear 15 = .ok (.iload_n 1, 1) := by decide +kernel
theorem dX10_clear_16 : decode cX10_clear 16 = .ok (.ireturn, 1) := by decide +kernel
theorem dX10_puts_0 : decode cX10_puts 0 = .ok (.iconst 0, 1) := by decide +kernel
theorem dX10_puts_1 : decode cX10_puts 1 = .ok (.istore_n 1, 1) := by decide +kernel
theorem dX10_puts_2 : decode cX10_puts 2 = .ok (.iload_n 1, 1) := by decide +kernel
theorem dX10_puts_3 : decode cX10_puts 3 = .ok (.sipush 157, 3) := by decide +kernel
theorem dX10_puts_6 : decode cX10_puts 6 = .ok (.if_icmp .ge 26, 3) := by decide +kernel
theorem dX10_puts_9 : decode cX10_puts 9 = .ok (.aload_n 0, 1) := by decide +kernel
theorem dX10_puts_10 : decode cX10_puts 10 = .ok (.getfield 52, 3) := by decide +kernel
theorem dX10_puts_13 : decode cX10_puts 13 = .ok (.aload_n 0, 1) := by decide +kernel
theorem dX10_puts_14 : decode cX10_puts 14 = .ok (.getfield 247, 3) := by decide +kernel
theorem dX10_puts_17 : decode cX10_puts 17 = .ok (.aaload, 1) := by decide +kernel
theorem dX10_puts_18 : decode cX10_puts 18 = .ok (.iload_n 1, 1) := by decide +kernel
theorem dX10_puts_19 : decode cX10_puts 19 = .ok (.aload_n 0, 1) := by decide +kernel
theorem dX10_puts_20 : decode cX10_puts 20 = .ok (.getfield 49, 3) := by decide +kernel
theorem dX10_puts_23 : decode cX10_puts 23 = .ok (.iload_n 1, 1) := by decide +kernel
theorem dX10_puts_24 : decode cX10_puts 24 = .ok (.iaload, 1) := by decide +kernel
theorem dX10_puts_25 : decode cX10_puts 25 = .ok (.iastore, 1) := by decide +kernel
theorem dX10_puts_26 : decode cX10_puts 26 = .ok (.iinc 1 1, 3) := by decide +kernel
theorem dX10_puts_29 : decode cX10_puts 29 = .ok (.goto (-27), 3) := by decide +kernel
theorem dX10_puts_32 : decode cX10_puts 32 = .ok (.aload_n 0, 1) := by decide +kernel
theorem dX10_puts_33 : decode cX10_puts 33 = .ok (.dup, 1) := by decide +kernel
theorem dX10_puts_34 : decode cX10_puts 34 = .ok (.getfield 247, 3) := by decide +kernel
theorem dX10_puts_37 : decode cX10_puts 37 = .ok (.iconst 1, 1) := by decide +kernel
theorem dX10_puts_38 : decode cX10_puts 38 = .ok (.iadd, 1) := by decide +kernel
theorem dX10_puts_39 : decode cX10_puts 39 = .ok (.putfield 247, 3) := by decide +kernel
theorem dX10_puts_42 : decode cX10_puts 42 = .ok (.return_, 1) := by decide +kernel
theorem dX10_takes_0 : decode cX10_takes 0 = .ok (.aload_n 0, 1) := by decide +kernel
theorem dX10_takes_1 : decode cX10_takes 1 = .ok (.dup, 1) := by decide +kernel
theorem dX10_takes_2 : decode cX10_takes 2 = .ok (.getfield 247, 3) := by decide +kernel
theorem dX10_takes_5 : decode cX10_takes 5 = .ok (.iconst 1, 1) := by decide +kernel
theorem dX10_takes_6 : decode cX10_takes 6 = .ok (.isub, 1) := by decide +kernel
theorem dX10_takes_7 : decode cX10_takes 7 = .ok (.putfield 247, 3) := by decide +kernel
theorem dX10_takes_10 : decode cX10_takes 10 = .ok (.iconst 0, 1) := by decide +kernel
theorem dX10_takes_11 : decode cX10_takes 11 = .ok (.istore_n 1, 1) := by decide +kernel
theorem dX10_takes_12 : decode cX10_takes 12 = .ok (.iload_n 1, 1) := by decide +kernel
theorem dX10_takes_13 : decode cX10_takes 13 = .ok (.sipush 157, 3) := by decide +kernel
theorem dX10_takes_16 : decode cX10_takes 16 = .ok (.if_icmp .ge 26, 3) := by decide +kernel
theorem dX10_takes_19 : decode cX10_takes 19 = .ok (.aload_n 0, 1) := by decide +kernel
theorem dX10_takes_20 : decode cX10_takes 20 = .ok (.getfield 49, 3) := by decide +kernel
theorem dX10_takes_23 : decode cX10_takes 23 = .ok (.iload_n 1, 1) := by decide +kernel
theorem dX10_takes_24 : decode cX10_takes 24 = .ok (.aload_n 0, 1) := by decide +kernel
theorem dX10_takes_25 : decode cX10_takes 25 = .ok (.getfield 52, 3) := by decide +kernel
theorem dX10_takes_28 : decode cX10_takes 28 = .ok (.aload_n 0, 1) := by decide +kernel
theorem dX10_takes_29 : decode cX10_takes 29 = .ok (.getfield 247, 3) := by decide +kernel
theorem dX10_takes_32 : decode cX10_takes 32 = .ok (.aaload, 1) := by decide +kernel
theorem dX10_takes_33 : decode cX10_takes 33 = .ok (.iload_n 1, 1) := by decide +kernel
theorem dX10_takes_34 : decode cX10_takes 34 = .ok (.iaload, 1) := by decide +kernel
theorem dX10_takes_35 : decode cX10_takes 35 = .ok (.iastore, 1) := by decide +kernel
theorem dX10_takes_36 : decode cX10_takes 36 = .ok (.iinc 1 1, 3) := by decide +kernel
theorem dX10_takes_39 : decode cX10_takes 39 = .ok (.goto (-27), 3) := by decide +kernel
theorem dX10_takes_42 : decode cX10_takes 42 = .ok (.return_, 1) := by decide +kernel
theorem dX10_watered_0 : decode cX10_watered 0 = .ok (.iconst 0, 1) := by decide +kernel
theorem dX10_watered_1 : decode cX10_watered 1 = .ok (.istore_n 2, 1) := by decide +kernel
theorem dX10_watered_2 : decode cX10_watered 2 = .ok (.iconst 0, 1) := by decide +kernel
theorem dX10_watered_3 : decode cX10_watered 3 = .ok (.istore_n 3, 1) := by decide +kernel
theorem dX10_watered_4 : decode cX10_watered 4 = .ok (.iconst 0, 1) := by decide +kernel
theorem dX10_watered_5 : decode cX10_watered 5 = .ok (.istore 4, 2) := by decide +kernel
theorem dX10_watered_7 : decode cX10_watered 7 = .ok (.iload 4, 2) := by decide +kernel
theorem dX10_watered_9 : decode cX10_watered 9 = .ok (.aload_n 0, 1) := by decide +kernel
theorem dX10_watered_10 : decode cX10_watered 10 = .ok (.getfield 20, 3) := by decide +kernel
theorem dX10_watered_13 : decode cX10_watered 13 = .ok (.iconst 1, 1) := by decide +kernel
theorem dX10_watered_14 : decode cX10_watered 14 = .ok (.iaload, 1) := by decide +kernel
theorem dX10_watered_15 : decode cX10_watered 15 = .ok (.if_icmp .ge 41, 3) := by decide +kernel
theorem dX10_watered_18 : decode cX10_watered 18 = .ok (.iload_n 1, 1) := by decide +kernel
theorem dX10_watered_19 : decode cX10_watered 19 = .ok (.iload 4, 2) := by decide +kernel
theorem dX10_watered_21 : decode cX10_watered 21 = .ok (.ishr, 1) := by decide +kernel
theorem dX10_watered_22 : decode cX10_watered 22 = .ok (.iconst 1, 1) := by decide +kernel
theorem dX10_watered_23 : decode cX10_watered 23 = .ok (.iand, 1) := by decide +kernel
theorem dX10_watered_24 : decode cX10_watered 24 = .ok (.ifCond .eq 26, 3) := by decide +kernel
theorem dX10_watered_27 : decode cX10_watered 27 = .ok (.iload_n 3, 1) := by decide +kernel
theorem dX10_watered_28 : decode cX10_watered 28 = .ok (.aload_n 0, 1) := by decide +kernel
theorem dX10_watered_29 : decode cX10_watered 29 = .ok (.getfield 20, 3) := by decide +kernel
theorem dX10_watered_32 : decode cX10_watered 32 = .ok (.iconst 3, 1) := by decide +kernel
theorem dX10_watered_33 : decode cX10_watered 33 = .ok (.iaload, 1) := by decide +kernel
theorem dX10_watered_34 : decode cX10_watered 34 = .ok (.if_icmp .ne 6, 3) := by decide +kernel
theorem dX10_watered_37 : decode cX10_watered 37 = .ok (.goto 13, 3) := by decide +kernel
theorem dX10_watered_40 : decode cX10_watered 40 = .ok (.iload_n 2, 1) := by decide +kernel
theorem dX10_watered_41 : decode cX10_watered 41 = .ok (.iconst 1, 1) := by decide +kernel
theorem dX10_watered_42 : decode cX10_watered 42 = .ok (.iload 4, 2) := by decide +kernel
theorem dX10_watered_44 : decode cX10_watered 44 = .ok (.ishl, 1) := by decide +kernel
theorem dX10_watered_45 : decode cX10_watered 45 = .ok (.ior, 1) := by decide +kernel
theorem dX10_watered_46 : decode cX10_watered 46 = .ok (.istore_n 2, 1) := by decide +kernel
theorem dX10_watered_47 : decode cX10_watered 47 = .ok (.iinc 3 1, 3) := by decide +kernel
theorem dX10_watered_50 : decode cX10_watered 50 = .ok (.iinc 4 1, 3) := by decide +kernel
theorem dX10_watered_53 : decode cX10_watered 53 = .ok (.goto (-46), 3) := by decide +kernel
theorem dX10_watered_56 : decode cX10_watered 56 = .ok (.iload_n 2, 1) := by decide +kernel
theorem dX10_watered_57 : decode cX10_watered 57 = .ok (.ireturn, 1) := by decide +kernel
theorem dX10_goes_0 : decode cX10_goes 0 = .ok (.iconst 0, 1) := by decide +kernel
theorem dX10_goes_1 : decode cX10_goes 1 = .ok (.istore_n 2, 1) := by decide +kernel
theorem dX10_goes_2 : decode cX10_goes 2 = .ok (.aload_n 0, 1) := by decide +kernel
theorem dX10_goes_3 : decode cX10_goes 3 = .ok (.getfield 49, 3) := by decide +kernel
theorem dX10_goes_6 : decode cX10_goes 6 = .ok (.sipush 156, 3) := by decide +kernel
theorem dX10_goes_9 : decode cX10_goes 9 = .ok (.iload_n 1, 1) := by decide +kernel
theorem dX10_goes_10 : decode cX10_goes 10 = .ok (.iastore, 1) := by decide +kernel
theorem dX10_goes_11 : decode cX10_goes 11 = .ok (.iconst 0, 1) := by decide +kernel
theorem dX10_goes_12 : decode cX10_goes 12 = .ok (.istore_n 3, 1) := by decide +kernel
theorem dX10_goes_13 : decode cX10_goes 13 = .ok (.iload_n 3, 1) := by decide +kernel
theorem dX10_goes_14 : decode cX10_goes 14 = .ok (.aload_n 0, 1) := by decide +kernel
theorem dX10_goes_15 : decode cX10_goes 15 = .ok (.getfield 159, 3) := by decide +kernel
theorem dX10_goes_18 : decode cX10_goes 18 = .ok (.if_icmp .ge 60, 3) := by decide +kernel
theorem dX10_goes_21 : decode cX10_goes 21 = .ok (.aload_n 0, 1) := by decide +kernel
theorem dX10_goes_22 : decode cX10_goes 22 = .ok (.invokevirtual 224, 3) := by decide +kernel
theorem dX10_goes_25 : decode cX10_goes 25 = .ok (.ifCond .ne 53, 3) := by decide +kernel
theorem dX10_goes_28 : decode cX10_goes 28 = .ok (.aload_n 0, 1) := by decide +kernel
theorem dX10_goes_29 : decode cX10_goes 29 = .ok (.aload_n 0, 1) := by decide +kernel
theorem dX10_goes_30 : decode cX10_goes 30 = .ok (.getfield 55, 3) := by decide +kernel
theorem dX10_goes_33 : decode cX10_goes 33 = .ok (.iload_n 3, 1) := by decide +kernel
theorem dX10_goes_34 : decode cX10_goes 34 = .ok (.iaload, 1) := by decide +kernel
theorem dX10_goes_35 : decode cX10_goes 35 = .ok (.aload_n 0, 1) := by decide +kernel
theorem dX10_goes_36 : decode cX10_goes 36 = .ok (.invokevirtual 215, 3) := by decide +kernel
theorem dX10_goes_39 : decode cX10_goes 39 = .ok (.iand, 1) := by decide +kernel
theorem dX10_goes_40 : decode cX10_goes 40 = .ok (.invokevirtual 250, 3) := by decide +kernel
theorem dX10_goes_43 : decode cX10_goes 43 = .ok (.istore 4, 2) := by decide +kernel
theorem dX10_goes_45 : decode cX10_goes 45 = .ok (.iload_n 2, 1) := by decide +kernel
theorem dX10_goes_46 : decode cX10_goes 46 = .ok (.iload 4, 2) := by decide +kernel
theorem dX10_goes_48 : decode cX10_goes 48 = .ok (.ifCond .ne 7, 3) := by decide +kernel
theorem dX10_goes_51 : decode cX10_goes 51 = .ok (.iconst 1, 1) := by decide +kernel
theorem dX10_goes_52 : decode cX10_goes 52 = .ok (.goto 4, 3) := by decide +kernel
theorem dX10_goes_55 : decode cX10_goes 55 = .ok (.iconst 0, 1) := by decide +kernel
theorem dX10_goes_56 : decode cX10_goes 56 = .ok (.iadd, 1) := by decide +kernel
theorem dX10_goes_57 : decode cX10_goes 57 = .ok (.istore_n 2, 1) := by decide +kernel
theorem dX10_goes_58 : decode cX10_goes 58 = .ok (.aload_n 0, 1) := by decide +kernel
theorem dX10_goes_59 : decode cX10_goes 59 = .ok (.iload 4, 2) := by decide +kernel
theorem dX10_goes_61 : decode cX10_goes 61 = .ok (.aload_n 0, 1) := by decide +kernel
theorem dX10_goes_62 : decode cX10_goes 62 = .ok (.invokevirtual 228, 3) := by decide +kernel
theorem dX10_goes_65 : decode cX10_goes 65 = .ok (.invokevirtual 231, 3) := by decide +kernel
theorem dX10_goes_68 : decode cX10_goes 68 = .ok (.aload_n 0, 1) := by decide +kernel
theorem dX10_goes_69 : decode cX10_goes 69 = .ok (.invokevirtual 234, 3) := by decide +kernel
theorem dX10_goes_72 : decode cX10_goes 72 = .ok (.iinc 3 1, 3) := by decide +kernel
theorem dX10_goes_75 : decode cX10_goes 75 = .ok (.goto (-62), 3) := by decide +kernel
theorem dX10_goes_78 : decode cX10_goes 78 = .ok (.iload_n 2, 1) := by decide +kernel
theorem dX10_goes_79 : decode cX10_goes 79 = .ok (.ireturn, 1) := by decide +kernel
theorem dX10_would_0 : decode cX10_would 0 = .ok (.aload_n 0, 1) := by decide +kernel
theorem dX10_would_1 : decode cX10_would 1 = .ok (.iconst 0, 1) := by decide +kernel
theorem dX10_would_2 : decode cX10_would 2 = .ok (.putfield 76, 3) := by decide +kernel
theorem dX10_would_5 : decode cX10_would 5 = .ok (.aload_n 0, 1) := by decide +kernel
theorem dX10_would_6 : decode cX10_would 6 = .ok (.iload_n 2, 1) := by decide +kernel
theorem dX10_would_7 : decode cX10_would 7 = .ok (.iconst 0, 1) := by decide +kernel
theorem dX10_would_8 : decode cX10_would 8 = .ok (.iconst 5, 1) := by decide +kernel
theorem dX10_would_9 : decode cX10_would 9 = .ok (.invokestatic 110, 3) := by decide +kernel
theorem dX10_would_12 : decode cX10_would 12 = .ok (.ifCond .ne 7, 3) := by decide +kernel
theorem dX10_would_15 : decode cX10_would 15 = .ok (.iconst 1, 1) := by decide +kernel
theorem dX10_would_16 : decode cX10_would 16 = .ok (.goto 4, 3) := by decide +kernel
theorem dX10_would_19 : decode cX10_would 19 = .ok (.iconst 0, 1) := by decide +kernel
theorem dX10_would_20 : decode cX10_would 20 = .ok (.iconst 1, 1) := by decide +kernel
theorem dX10_would_21 : decode cX10_would 21 = .ok (.invokevirtual 148, 3) := by decide +kernel
theorem dX10_would_24 : decode cX10_would 24 = .ok (.ifCond .eq 5, 3) := by decide +kernel
theorem dX10_would_27 : decode cX10_would 27 = .ok (.iconst 0, 1) := by decide +kernel
theorem dX10_would_28 : decode cX10_would 28 = .ok (.ireturn, 1) := by decide +kernel
theorem dX10_would_29 : decode cX10_would 29 = .ok (.aload_n 0, 1) := by decide +kernel
theorem dX10_would_30 : decode cX10_would 30 = .ok (.invokevirtual 253, 3) := by decide +kernel
theorem dX10_would_33 : decode cX10_would 33 = .ok (.aload_n 0, 1) := by decide +kernel
theorem dX10_would_34 : decode cX10_would 34 = .ok (.getfield 49, 3) := by decide +kernel
theorem dX10_would_37 : decode cX10_would 37 = .ok (.sipush 151, 3) := by decide +kernel
theorem dX10_would_40 : decode cX10_would 40 = .ok (.iaload, 1) := by decide +kernel
theorem dX10_would_41 : decode cX10_would 41 = .ok (.istore_n 3, 1) := by decide +kernel
theorem dX10_would_42 : decode cX10_would 42 = .ok (.aload_n 0, 1) := by decide +kernel
theorem dX10_would_43 : decode cX10_would 43 = .ok (.getfield 49, 3) := by decide +kernel
theorem dX10_would_46 : decode cX10_would 46 = .ok (.sipush 152, 3) := by decide +kernel
theorem dX10_would_49 : decode cX10_would 49 = .ok (.iaload, 1) := by decide +kernel
theorem dX10_would_50 : decode cX10_would 50 = .ok (.istore 4, 2) := by decide +kernel
theorem dX10_would_52 : decode cX10_would 52 = .ok (.aload_n 0, 1) := by decide +kernel
theorem dX10_would_53 : decode cX10_would 53 = .ok (.getfield 49, 3) := by decide +kernel
theorem dX10_would_56 : decode cX10_would 56 = .ok (.sipush 153, 3) := by decide +kernel
theorem dX10_would_59 : decode cX10_would 59 = .ok (.iaload, 1) := by decide +kernel
theorem dX10_would_60 : decode cX10_would 60 = .ok (.istore 5, 2) := by decide +kernel
theorem dX10_would_62 : decode cX10_would 62 = .ok (.aload_n 0, 1) := by decide +kernel
theorem dX10_would_63 : decode cX10_would 63 = .ok (.getfield 49, 3) := by decide +kernel
theorem dX10_would_66 : decode cX10_would 66 = .ok (.sipush 154, 3) := by decide +kernel
theorem dX10_would_69 : decode cX10_would 69 = .ok (.iaload, 1) := by decide +kernel
theorem dX10_would_70 : decode cX10_would 70 = .ok (.istore 6, 2) := by decide +kernel
theorem dX10_would_72 : decode cX10_would 72 = .ok (.aload_n 0, 1) := by decide +kernel
theorem dX10_would_73 : decode cX10_would 73 = .ok (.iload_n 1, 1) := by decide +kernel
theorem dX10_would_74 : decode cX10_would 74 = .ok (.invokevirtual 256, 3) := by decide +kernel
theorem dX10_would_77 : decode cX10_would 77 = .ok (.istore 7, 2) := by decide +kernel
theorem dX10_would_79 : decode cX10_would 79 = .ok (.iconst 0, 1) := by decide +kernel
theorem dX10_would_80 : decode cX10_would 80 = .ok (.istore 8, 2) := by decide +kernel
theorem dX10_would_82 : decode cX10_would 82 = .ok (.iconst 0, 1) := by decide +kernel
theorem dX10_would_83 : decode cX10_would 83 = .ok (.istore 9, 2) := by decide +kernel
theorem dX10_would_85 : decode cX10_would 85 = .ok (.iload 9, 2) := by decide +kernel
theorem dX10_would_87 : decode cX10_would 87 = .ok (.aload_n 0, 1) := by decide +kernel
theorem dX10_would_88 : decode cX10_would 88 = .ok (.getfield 20, 3) := by decide +kernel
theorem dX10_would_91 : decode cX10_would 91 = .ok (.iconst 2, 1) := by decide +kernel
theorem dX10_would_92 : decode cX10_would 92 = .ok (.iaload, 1) := by decide +kernel
theorem dX10_would_93 : decode cX10_would 93 = .ok (.if_icmp .ge 47, 3) := by decide +kernel
theorem dX10_would_96 : decode cX10_would 96 = .ok (.iload_n 2, 1) := by decide +kernel
theorem dX10_would_97 : decode cX10_would 97 = .ok (.iconst 4, 1) := by decide +kernel
theorem dX10_would_98 : decode cX10_would 98 = .ok (.if_icmp .ne 42, 3) := by decide +kernel
theorem dX10_would_101 : decode cX10_would 101 = .ok (.iload 8, 2) := by decide +kernel
theorem dX10_would_103 : decode cX10_would 103 = .ok (.aload_n 0, 1) := by decide +kernel
theorem dX10_would_104 : decode cX10_would 104 = .ok (.getfield 49, 3) := by decide +kernel
theorem dX10_would_107 : decode cX10_would 107 = .ok (.sipush 145, 3) := by decide +kernel
theorem dX10_would_110 : decode cX10_would 110 = .ok (.iload 9, 2) := by decide +kernel
theorem dX10_would_112 : decode cX10_would 112 = .ok (.iadd, 1) := by decide +kernel
theorem dX10_would_113 : decode cX10_would 113 = .ok (.iaload, 1) := by decide +kernel
theorem dX10_would_114 : decode cX10_would 114 = .ok (.aload_n 0, 1) := by decide +kernel
theorem dX10_would_115 : decode cX10_would 115 = .ok (.getfield 40, 3) := by decide +kernel
theorem dX10_would_118 : decode cX10_would 118 = .ok (.iload 9, 2) := by decide +kernel
theorem dX10_would_120 : decode cX10_would 120 = .ok (.aaload, 1) := by decide +kernel
theorem dX10_would_121 : decode cX10_would 121 = .ok (.iconst 2, 1) := by decide +kernel
theorem dX10_would_122 : decode cX10_would 122 = .ok (.iaload, 1) := by decide +kernel
theorem dX10_would_123 : decode cX10_would 123 = .ok (.if_icmp .ne 7, 3) := by decide +kernel
theorem dX10_would_126 : decode cX10_would 126 = .ok (.iconst 1, 1) := by decide +kernel
theorem dX10_would_127 : decode cX10_would 127 = .ok (.goto 4, 3) := by decide +kernel
theorem dX10_would_130 : decode cX10_would 130 = .ok (.iconst 0, 1) := by decide +kernel
theorem dX10_would_131 : decode cX10_would 131 = .ok (.iadd, 1) := by decide +kernel
theorem dX10_would_132 : decode cX10_would 132 = .ok (.istore 8, 2) := by decide +kernel
theorem dX10_would_134 : decode cX10_would 134 = .ok (.iinc 9 1, 3) := by decide +kernel
theorem dX10_would_137 : decode cX10_would 137 = .ok (.goto (-52), 3) := by decide +kernel
theorem dX10_would_140 : decode cX10_would 140 = .ok (.iload_n 2, 1) := by decide +kernel
theorem dX10_would_141 : decode cX10_would 141 = .ok (.ifCond .ne 16, 3) := by decide +kernel
theorem dX10_would_144 : decode cX10_would 144 = .ok (.aload_n 0, 1) := by decide +kernel
theorem dX10_would_145 : decode cX10_would 145 = .ok (.getfield 49, 3) := by decide +kernel
theorem dX10_would_148 : decode cX10_would 148 = .ok (.sipush 151, 3) := by decide +kernel
theorem dX10_would_151 : decode cX10_would 151 = .ok (.iaload, 1) := by decide +kernel
theorem dX10_would_152 : decode cX10_would 152 = .ok (.iload_n 3, 1) := by decide +kernel
theorem dX10_would_153 : decode cX10_would 153 = .ok (.isub, 1) := by decide +kernel
theorem dX10_would_154 : decode cX10_would 154 = .ok (.goto 72, 3) := by decide +kernel
theorem dX10_would_157 : decode cX10_would 157 = .ok (.iload_n 2, 1) := by decide +kernel
theorem dX10_would_158 : decode cX10_would 158 = .ok (.iconst 1, 1) := by decide +kernel
theorem dX10_would_159 : decode cX10_would 159 = .ok (.if_icmp .ne 17, 3) := by decide +kernel
theorem dX10_would_162 : decode cX10_would 162 = .ok (.aload_n 0, 1) := by decide +kernel
theorem dX10_would_163 : decode cX10_would 163 = .ok (.getfield 49, 3) := by decide +kernel
theorem dX10_would_166 : decode cX10_would 166 = .ok (.sipush 152, 3) := by decide +kernel
theorem dX10_would_169 : decode cX10_would 169 = .ok (.iaload, 1) := by decide +kernel
theorem dX10_would_170 : decode cX10_would 170 = .ok (.iload 4, 2) := by decide +kernel
theorem dX10_would_172 : decode cX10_would 172 = .ok (.isub, 1) := by decide +kernel
theorem dX10_would_173 : decode cX10_would 173 = .ok (.goto 53, 3) := by decide +kernel
theorem dX10_would_176 : decode cX10_would 176 = .ok (.iload_n 2, 1) := by decide +kernel
theorem dX10_would_177 : decode cX10_would 177 = .ok (.iconst 2, 1) := by decide +kernel
theorem dX10_would_178 : decode cX10_would 178 = .ok (.if_icmp .ne 17, 3) := by decide +kernel
theorem dX10_would_181 : decode cX10_would 181 = .ok (.aload_n 0, 1) := by decide +kernel
theorem dX10_would_182 : decode cX10_would 182 = .ok (.getfield 49, 3) := by decide +kernel
theorem dX10_would_185 : decode cX10_would 185 = .ok (.sipush 153, 3) := by decide +kernel
theorem dX10_would_188 : decode cX10_would 188 = .ok (.iaload, 1) := by decide +kernel
theorem dX10_would_189 : decode cX10_would 189 = .ok (.iload 5, 2) := by decide +kernel
theorem dX10_would_191 : decode cX10_would 191 = .ok (.isub, 1) := by decide +kernel
theorem dX10_would_192 : decode cX10_would 192 = .ok (.goto 34, 3) := by decide +kernel
theorem dX10_would_195 : decode cX10_would 195 = .ok (.iload_n 2, 1) := by decide +kernel
theorem dX10_would_196 : decode cX10_would 196 = .ok (.iconst 3, 1) := by decide +kernel
theorem dX10_would_197 : decode cX10_would 197 = .ok (.if_icmp .ne 8, 3) := by decide +kernel
theorem dX10_would_200 : decode cX10_would 200 = .ok (.iload 7, 2) := by decide +kernel
theorem dX10_would_202 : decode cX10_would 202 = .ok (.goto 24, 3) := by decide +kernel
theorem dX10_would_205 : decode cX10_would 205 = .ok (.iload_n 2, 1) := by decide +kernel
theorem dX10_would_206 : decode cX10_would 206 = .ok (.iconst 5, 1) := by decide +kernel
theorem dX10_would_207 : decode cX10_would 207 = .ok (.if_icmp .ne 17, 3) := by decide +kernel
theorem dX10_would_210 : decode cX10_would 210 = .ok (.aload_n 0, 1) := by decide +kernel
theorem dX10_would_211 : decode cX10_would 211 = .ok (.getfield 49, 3) := by decide +kernel
theorem dX10_would_214 : decode cX10_would 214 = .ok (.sipush 154, 3) := by decide +kernel
theorem dX10_would_217 : decode cX10_would 217 = .ok (.iaload, 1) := by decide +kernel
theorem dX10_would_218 : decode cX10_would 218 = .ok (.iload 6, 2) := by decide +kernel
theorem dX10_would_220 : decode cX10_would 220 = .ok (.isub, 1) := by decide +kernel
theorem dX10_would_221 : decode cX10_would 221 = .ok (.goto 5, 3) := by decide +kernel
theorem dX10_would_224 : decode cX10_would 224 = .ok (.iload 8, 2) := by decide +kernel
theorem dX10_would_226 : decode cX10_would 226 = .ok (.istore 8, 2) := by decide +kernel
theorem dX10_would_228 : decode cX10_would 228 = .ok (.aload_n 0, 1) := by decide +kernel
theorem dX10_would_229 : decode cX10_would 229 = .ok (.invokevirtual 259, 3) := by decide +kernel
theorem dX10_would_232 : decode cX10_would 232 = .ok (.iload 8, 2) := by decide +kernel
theorem dX10_would_234 : decode cX10_would 234 = .ok (.ireturn, 1) := by decide +kernel
theorem dX10_promise_0 : decode cX10_promise 0 = .ok (.aload_n 0, 1) := by decide +kernel
theorem dX10_promise_1 : decode cX10_promise 1 = .ok (.iconst 0, 1) := by decide +kernel
theorem dX10_promise_2 : decode cX10_promise 2 = .ok (.putfield 76, 3) := by decide +kernel
theorem dX10_promise_5 : decode cX10_promise 5 = .ok (.aload_n 0, 1) := by decide +kernel
theorem dX10_promise_6 : decode cX10_promise 6 = .ok (.aload_n 0, 1) := by decide +kernel
theorem dX10_promise_7 : decode cX10_promise 7 = .ok (.iload_n 1, 1) := by decide +kernel
theorem dX10_promise_8 : decode cX10_promise 8 = .ok (.invokevirtual 186, 3) := by decide +kernel
theorem dX10_promise_11 : decode cX10_promise 11 = .ok (.ifCond .ne 7, 3) := by decide +kernel
theorem dX10_promise_14 : decode cX10_promise 14 = .ok (.iconst 1, 1) := by decide +kernel
theorem dX10_promise_15 : decode cX10_promise 15 = .ok (.goto 4, 3) := by decide +kernel
theorem dX10_promise_18 : decode cX10_promise 18 = .ok (.iconst 0, 1) := by decide +kernel
theorem dX10_promise_19 : decode cX10_promise 19 = .ok (.iconst 1, 1) := by decide +kernel
theorem dX10_promise_20 : decode cX10_promise 20 = .ok (.invokevirtual 148, 3) := by decide +kernel
theorem dX10_promise_23 : decode cX10_promise 23 = .ok (.ifCond .ne 26, 3) := by decide +kernel
theorem dX10_promise_26 : decode cX10_promise 26 = .ok (.aload_n 0, 1) := by decide +kernel
theorem dX10_promise_27 : decode cX10_promise 27 = .ok (.iload_n 3, 1) := by decide +kernel
theorem dX10_promise_28 : decode cX10_promise 28 = .ok (.iconst 1, 1) := by decide +kernel
theorem dX10_promise_29 : decode cX10_promise 29 = .ok (.bipush 99, 2) := by decide +kernel
theorem dX10_promise_31 : decode cX10_promise 31 = .ok (.invokestatic 110, 3) := by decide +kernel
theorem dX10_promise_34 : decode cX10_promise 34 = .ok (.ifCond .ne 7, 3) := by decide +kernel
theorem dX10_promise_37 : decode cX10_promise 37 = .ok (.iconst 1, 1) := by decide +kernel
theorem dX10_promise_38 : decode cX10_promise 38 = .ok (.goto 4, 3) := by decide +kernel
theorem dX10_promise_41 : decode cX10_promise 41 = .ok (.iconst 0, 1) := by decide +kernel
theorem dX10_promise_42 : decode cX10_promise 42 = .ok (.iconst 2, 1) := by decide +kernel
theorem dX10_promise_43 : decode cX10_promise 43 = .ok (.invokevirtual 148, 3) := by decide +kernel
theorem dX10_promise_46 : decode cX10_promise 46 = .ok (.ifCond .eq 5, 3) := by decide +kernel
theorem dX10_promise_49 : decode cX10_promise 49 = .ok (.iconst 0, 1) := by decide +kernel
theorem dX10_promise_50 : decode cX10_promise 50 = .ok (.ireturn, 1) := by decide +kernel
theorem dX10_promise_51 : decode cX10_promise 51 = .ok (.iconst 0, 1) := by decide +kernel
theorem dX10_promise_52 : decode cX10_promise 52 = .ok (.istore 4, 2) := by decide +kernel
theorem dX10_promise_54 : decode cX10_promise 54 = .ok (.iconst 0, 1) := by decide +kernel
theorem dX10_promise_55 : decode cX10_promise 55 = .ok (.istore 5, 2) := by decide +kernel
theorem dX10_promise_57 : decode cX10_promise 57 = .ok (.iload 5, 2) := by decide +kernel
theorem dX10_promise_59 : decode cX10_promise 59 = .ok (.iload_n 3, 1) := by decide +kernel
theorem dX10_promise_60 : decode cX10_promise 60 = .ok (.if_icmp .ge 57, 3) := by decide +kernel
theorem dX10_promise_63 : decode cX10_promise 63 = .ok (.aload_n 0, 1) := by decide +kernel
theorem dX10_promise_64 : decode cX10_promise 64 = .ok (.invokevirtual 253, 3) := by decide +kernel
theorem dX10_promise_67 : decode cX10_promise 67 = .ok (.aload_n 0, 1) := by decide +kernel
theorem dX10_promise_68 : decode cX10_promise 68 = .ok (.iload_n 2, 1) := by decide +kernel
theorem dX10_promise_69 : decode cX10_promise 69 = .ok (.iload 5, 2) := by decide +kernel
theorem dX10_promise_71 : decode cX10_promise 71 = .ok (.iadd, 1) := by decide +kernel
theorem dX10_promise_72 : decode cX10_promise 72 = .ok (.invokevirtual 256, 3) := by decide +kernel
theorem dX10_promise_75 : decode cX10_promise 75 = .ok (.pop, 1) := by decide +kernel
theorem dX10_promise_76 : decode cX10_promise 76 = .ok (.iload 4, 2) := by decide +kernel
theorem dX10_promise_78 : decode cX10_promise 78 = .ok (.aload_n 0, 1) := by decide +kernel
theorem dX10_promise_79 : decode cX10_promise 79 = .ok (.getfield 49, 3) := by decide +kernel
theorem dX10_promise_82 : decode cX10_promise 82 = .ok (.sipush 145, 3) := by decide +kernel
theorem dX10_promise_85 : decode cX10_promise 85 = .ok (.iload_n 1, 1) := by decide +kernel
theorem dX10_promise_86 : decode cX10_promise 86 = .ok (.iadd, 1) := by decide +kernel
theorem dX10_promise_87 : decode cX10_promise 87 = .ok (.iaload, 1) := by decide +kernel
theorem dX10_promise_88 : decode cX10_promise 88 = .ok (.aload_n 0, 1) := by decide +kernel
theorem dX10_promise_89 : decode cX10_promise 89 = .ok (.getfield 40, 3) := by decide +kernel
theorem dX10_promise_92 : decode cX10_promise 92 = .ok (.iload_n 1, 1) := by decide +kernel
theorem dX10_promise_93 : decode cX10_promise 93 = .ok (.aaload, 1) := by decide +kernel
theorem dX10_promise_94 : decode cX10_promise 94 = .ok (.iconst 2, 1) := by decide +kernel
theorem dX10_promise_95 : decode cX10_promise 95 = .ok (.iaload, 1) := by decide +kernel
theorem dX10_promise_96 : decode cX10_promise 96 = .ok (.if_icmp .ne 7, 3) := by decide +kernel
theorem dX10_promise_99 : decode cX10_promise 99 = .ok (.iconst 1, 1) := by decide +kernel
theorem dX10_promise_100 : decode cX10_promise 100 = .ok (.goto 4, 3) := by decide +kernel
theorem dX10_promise_103 : decode cX10_promise 103 = .ok (.iconst 0, 1) := by decide +kernel
theorem dX10_promise_104 : decode cX10_promise 104 = .ok (.iadd, 1) := by decide +kernel
theorem dX10_promise_105 : decode cX10_promise 105 = .ok (.istore 4, 2) := by decide +kernel
theorem dX10_promise_107 : decode cX10_promise 107 = .ok (.aload_n 0, 1) := by decide +kernel
theorem dX10_promise_108 : decode cX10_promise 108 = .ok (.invokevirtual 259, 3) := by decide +kernel
theorem dX10_promise_111 : decode cX10_promise 111 = .ok (.iinc 5 1, 3) := by decide +kernel
theorem dX10_promise_114 : decode cX10_promise 114 = .ok (.goto (-57), 3) := by decide +kernel
theorem dX10_promise_117 : decode cX10_promise 117 = .ok (.iload 4, 2) := by decide +kernel
theorem dX10_promise_119 : decode cX10_promise 119 = .ok (.ireturn, 1) := by decide +kernel
theorem dX10_branches_0 : decode cX10_branches 0 = .ok (.iload_n 3, 1) := by decide +kernel
theorem dX10_branches_1 : decode cX10_branches 1 = .ok (.istore 7, 2) := by decide +kernel
theorem dX10_branches_3 : decode cX10_branches 3 = .ok (.iload 7, 2) := by decide +kernel
theorem dX10_branches_5 : decode cX10_branches 5 = .ok (.aload_n 0, 1) := by decide +kernel
theorem dX10_branches_6 : decode cX10_branches 6 = .ok (.getfield 20, 3) := by decide +kernel
theorem dX10_branches_9 : decode cX10_branches 9 = .ok (.iconst 1, 1) := by decide +kernel
theorem dX10_branches_10 : decode cX10_branches 10 = .ok (.iaload, 1) := by decide +kernel
theorem dX10_branches_11 : decode cX10_branches 11 = .ok (.if_icmp .ge 18, 3) := by decide +kernel
theorem dX10_branches_14 : decode cX10_branches 14 = .ok (.iload_n 1, 1) := by decide +kernel
theorem dX10_branches_15 : decode cX10_branches 15 = .ok (.iload 7, 2) := by decide +kernel
theorem dX10_branches_17 : decode cX10_branches 17 = .ok (.ishr, 1) := by decide +kernel
theorem dX10_branches_18 : decode cX10_branches 18 = .ok (.iconst 1, 1) := by decide +kernel
theorem dX10_branches_19 : decode cX10_branches 19 = .ok (.iand, 1) := by decide +kernel
theorem dX10_branches_20 : decode cX10_branches 20 = .ok (.ifCond .ne 9, 3) := by decide +kernel
theorem dX10_branches_23 : decode cX10_branches 23 = .ok (.iinc 7 1, 3) := by decide +kernel
theorem dX10_branches_26 : decode cX10_branches 26 = .ok (.goto (-23), 3) := by decide +kernel
theorem dX10_branches_29 : decode cX10_branches 29 = .ok (.iload 7, 2) := by decide +kernel
theorem dX10_branches_31 : decode cX10_branches 31 = .ok (.aload_n 0, 1) := by decide +kernel
theorem dX10_branches_32 : decode cX10_branches 32 = .ok (.getfield 20, 3) := by decide +kernel
theorem dX10_branches_35 : decode cX10_branches 35 = .ok (.iconst 1, 1) := by decide +kernel
theorem dX10_branches_36 : decode cX10_branches 36 = .ok (.iaload, 1) := by decide +kernel
theorem dX10_branches_37 : decode cX10_branches 37 = .ok (.if_icmp .ne 75, 3) := by decide +kernel
theorem dX10_branches_40 : decode cX10_branches 40 = .ok (.aload_n 0, 1) := by decide +kernel
theorem dX10_branches_41 : decode cX10_branches 41 = .ok (.invokevirtual 253, 3) := by decide +kernel
theorem dX10_branches_44 : decode cX10_branches 44 = .ok (.aload_n 0, 1) := by decide +kernel
theorem dX10_branches_45 : decode cX10_branches 45 = .ok (.invokevirtual 234, 3) := by decide +kernel
theorem dX10_branches_48 : decode cX10_branches 48 = .ok (.aload_n 0, 1) := by decide +kernel
theorem dX10_branches_49 : decode cX10_branches 49 = .ok (.getfield 49, 3) := by decide +kernel
theorem dX10_branches_52 : decode cX10_branches 52 = .ok (.sipush 151, 3) := by decide +kernel
theorem dX10_branches_55 : decode cX10_branches 55 = .ok (.iaload, 1) := by decide +kernel
theorem dX10_branches_56 : decode cX10_branches 56 = .ok (.iload 6, 2) := by decide +kernel
theorem dX10_branches_58 : decode cX10_branches 58 = .ok (.isub, 1) := by decide +kernel
theorem dX10_branches_59 : decode cX10_branches 59 = .ok (.i2l, 1) := by decide +kernel
theorem dX10_branches_60 : decode cX10_branches 60 = .ok (.lstore 8, 2) := by decide +kernel
theorem dX10_branches_62 : decode cX10_branches 62 = .ok (.aload_n 0, 1) := by decide +kernel
theorem dX10_branches_63 : decode cX10_branches 63 = .ok (.getfield 262, 3) := by decide +kernel
theorem dX10_branches_66 : decode cX10_branches 66 = .ok (.ifCond .eq 27, 3) := by decide +kernel
theorem dX10_branches_69 : decode cX10_branches 69 = .ok (.ldc2_w 265, 3) := by decide +kernel
theorem dX10_branches_72 : decode cX10_branches 72 = .ok (.lload 8, 2) := by decide +kernel
theorem dX10_branches_74 : decode cX10_branches 74 = .ok (.lmul, 1) := by decide +kernel
theorem dX10_branches_75 : decode cX10_branches 75 = .ok (.aload_n 0, 1) := by decide +kernel
theorem dX10_branches_76 : decode cX10_branches 76 = .ok (.invokevirtual 224, 3) := by decide +kernel
theorem dX10_branches_79 : decode cX10_branches 79 = .ok (.ifCond .eq 7, 3) := by decide +kernel
theorem dX10_branches_82 : decode cX10_branches 82 = .ok (.lconst 0, 1) := by decide +kernel
theorem dX10_branches_83 : decode cX10_branches 83 = .ok (.goto 7, 3) := by decide +kernel
theorem dX10_branches_86 : decode cX10_branches 86 = .ok (.aload_n 0, 1) := by decide +kernel
theorem dX10_branches_87 : decode cX10_branches 87 = .ok (.invokevirtual 267, 3) := by decide +kernel
theorem dX10_branches_90 : decode cX10_branches 90 = .ok (.ladd, 1) := by decide +kernel
theorem dX10_branches_91 : decode cX10_branches 91 = .ok (.lstore 8, 2) := by decide +kernel
theorem dX10_branches_93 : decode cX10_branches 93 = .ok (.aload_n 0, 1) := by decide +kernel
theorem dX10_branches_94 : decode cX10_branches 94 = .ok (.dup, 1) := by decide +kernel
theorem dX10_branches_95 : decode cX10_branches 95 = .ok (.getfield 271, 3) := by decide +kernel
theorem dX10_branches_98 : decode cX10_branches 98 = .ok (.lload 4, 2) := by decide +kernel
theorem dX10_branches_100 : decode cX10_branches 100 = .ok (.lload 8, 2) := by decide +kernel
theorem dX10_branches_102 : decode cX10_branches 102 = .ok (.lmul, 1) := by decide +kernel
theorem dX10_branches_103 : decode cX10_branches 103 = .ok (.ladd, 1) := by decide +kernel
theorem dX10_branches_104 : decode cX10_branches 104 = .ok (.putfield 271, 3) := by decide +kernel
theorem dX10_branches_107 : decode cX10_branches 107 = .ok (.aload_n 0, 1) := by decide +kernel
theorem dX10_branches_108 : decode cX10_branches 108 = .ok (.invokevirtual 259, 3) := by decide +kernel
theorem dX10_branches_111 : decode cX10_branches 111 = .ok (.return_, 1) := by decide +kernel
theorem dX10_branches_112 : decode cX10_branches 112 = .ok (.aload_n 0, 1) := by decide +kernel
theorem dX10_branches_113 : decode cX10_branches 113 = .ok (.iload 7, 2) := by decide +kernel
theorem dX10_branches_115 : decode cX10_branches 115 = .ok (.invokevirtual 183, 3) := by decide +kernel
theorem dX10_branches_118 : decode cX10_branches 118 = .ok (.ifCond .eq 91, 3) := by decide +kernel
theorem dX10_branches_121 : decode cX10_branches 121 = .ok (.iload_n 2, 1) := by decide +kernel
theorem dX10_branches_122 : decode cX10_branches 122 = .ok (.aload_n 0, 1) := by decide +kernel
theorem dX10_branches_123 : decode cX10_branches 123 = .ok (.iload 7, 2) := by decide +kernel
theorem dX10_branches_125 : decode cX10_branches 125 = .ok (.invokevirtual 180, 3) := by decide +kernel
theorem dX10_branches_128 : decode cX10_branches 128 = .ok (.if_icmp .lt 81, 3) := by decide +kernel
theorem dX10_branches_131 : decode cX10_branches 131 = .ok (.aload_n 0, 1) := by decide +kernel
theorem dX10_branches_132 : decode cX10_branches 132 = .ok (.iload 7, 2) := by decide +kernel
theorem dX10_branches_134 : decode cX10_branches 134 = .ok (.iload_n 2, 1) := by decide +kernel
theorem dX10_branches_135 : decode cX10_branches 135 = .ok (.invokevirtual 197, 3) := by decide +kernel
theorem dX10_branches_138 : decode cX10_branches 138 = .ok (.ifCond .eq 71, 3) := by decide +kernel
theorem dX10_branches_141 : decode cX10_branches 141 = .ok (.iconst 0, 1) := by decide +kernel
theorem dX10_branches_142 : decode cX10_branches 142 = .ok (.istore 8, 2) := by decide +kernel
theorem dX10_branches_144 : decode cX10_branches 144 = .ok (.iload 8, 2) := by decide +kernel
theorem dX10_branches_146 : decode cX10_branches 146 = .ok (.iconst 3, 1) := by decide +kernel
theorem dX10_branches_147 : decode cX10_branches 147 = .ok (.if_icmp .ge 61, 3) := by decide +kernel
theorem dX10_branches_150 : decode cX10_branches 150 = .ok (.aload_n 0, 1) := by decide +kernel
theorem dX10_branches_151 : decode cX10_branches 151 = .ok (.invokevirtual 253, 3) := by decide +kernel
theorem dX10_branches_154 : decode cX10_branches 154 = .ok (.aload_n 0, 1) := by decide +kernel
theorem dX10_branches_155 : decode cX10_branches 155 = .ok (.iload 7, 2) := by decide +kernel
theorem dX10_branches_157 : decode cX10_branches 157 = .ok (.aload_n 0, 1) := by decide +kernel
theorem dX10_branches_158 : decode cX10_branches 158 = .ok (.iload 7, 2) := by decide +kernel
theorem dX10_branches_160 : decode cX10_branches 160 = .ok (.iload 8, 2) := by decide +kernel
theorem dX10_branches_162 : decode cX10_branches 162 = .ok (.invokevirtual 201, 3) := by decide +kernel
theorem dX10_branches_165 : decode cX10_branches 165 = .ok (.iload_n 2, 1) := by decide +kernel
theorem dX10_branches_166 : decode cX10_branches 166 = .ok (.invokevirtual 204, 3) := by decide +kernel
theorem dX10_branches_169 : decode cX10_branches 169 = .ok (.aload_n 0, 1) := by decide +kernel
theorem dX10_branches_170 : decode cX10_branches 170 = .ok (.iload_n 1, 1) := by decide +kernel
theorem dX10_branches_171 : decode cX10_branches 171 = .ok (.iload_n 2, 1) := by decide +kernel
theorem dX10_branches_172 : decode cX10_branches 172 = .ok (.iload 7, 2) := by decide +kernel
theorem dX10_branches_174 : decode cX10_branches 174 = .ok (.iconst 1, 1) := by decide +kernel
theorem dX10_branches_175 : decode cX10_branches 175 = .ok (.iadd, 1) := by decide +kernel
theorem dX10_branches_176 : decode cX10_branches 176 = .ok (.iload 8, 2) := by decide +kernel
theorem dX10_branches_178 : decode cX10_branches 178 = .ok (.iconst 2, 1) := by decide +kernel
theorem dX10_branches_179 : decode cX10_branches 179 = .ok (.if_icmp .ge 8, 3) := by decide +kernel
theorem dX10_branches_182 : decode cX10_branches 182 = .ok (.lload 4, 2) := by decide +kernel
theorem dX10_branches_184 : decode cX10_branches 184 = .ok (.goto 9, 3) := by decide +kernel
theorem dX10_branches_187 : decode cX10_branches 187 = .ok (.ldc2_w 275, 3) := by decide +kernel
theorem dX10_branches_190 : decode cX10_branches 190 = .ok (.lload 4, 2) := by decide +kernel
theorem dX10_branches_192 : decode cX10_branches 192 = .ok (.lmul, 1) := by decide +kernel
theorem dX10_branches_193 : decode cX10_branches 193 = .ok (.iload 6, 2) := by decide +kernel
theorem dX10_branches_195 : decode cX10_branches 195 = .ok (.invokevirtual 277, 3) := by decide +kernel
theorem dX10_branches_198 : decode cX10_branches 198 = .ok (.aload_n 0, 1) := by decide +kernel
theorem dX10_branches_199 : decode cX10_branches 199 = .ok (.invokevirtual 259, 3) := by decide +kernel
theorem dX10_branches_202 : decode cX10_branches 202 = .ok (.iinc 8 1, 3) := by decide +kernel
theorem dX10_branches_205 : decode cX10_branches 205 = .ok (.goto (-61), 3) := by decide +kernel
theorem dX10_branches_208 : decode cX10_branches 208 = .ok (.return_, 1) := by decide +kernel
theorem dX10_branches_209 : decode cX10_branches 209 = .ok (.aload_n 0, 1) := by decide +kernel
theorem dX10_branches_210 : decode cX10_branches 210 = .ok (.invokevirtual 253, 3) := by decide +kernel
theorem dX10_branches_213 : decode cX10_branches 213 = .ok (.aload_n 0, 1) := by decide +kernel
theorem dX10_branches_214 : decode cX10_branches 214 = .ok (.iload 7, 2) := by decide +kernel
theorem dX10_branches_216 : decode cX10_branches 216 = .ok (.invokevirtual 183, 3) := by decide +kernel
theorem dX10_branches_219 : decode cX10_branches 219 = .ok (.ifCond .eq 32, 3) := by decide +kernel
theorem dX10_branches_222 : decode cX10_branches 222 = .ok (.iload_n 2, 1) := by decide +kernel
theorem dX10_branches_223 : decode cX10_branches 223 = .ok (.aload_n 0, 1) := by decide +kernel
theorem dX10_branches_224 : decode cX10_branches 224 = .ok (.iload 7, 2) := by decide +kernel
theorem dX10_branches_226 : decode cX10_branches 226 = .ok (.invokevirtual 180, 3) := by decide +kernel
theorem dX10_branches_229 : decode cX10_branches 229 = .ok (.if_icmp .lt 22, 3) := by decide +kernel
theorem dX10_branches_232 : decode cX10_branches 232 = .ok (.aload_n 0, 1) := by decide +kernel
theorem dX10_branches_233 : decode cX10_branches 233 = .ok (.iload 7, 2) := by decide +kernel
theorem dX10_branches_235 : decode cX10_branches 235 = .ok (.aload_n 0, 1) := by decide +kernel
theorem dX10_branches_236 : decode cX10_branches 236 = .ok (.getfield 34, 3) := by decide +kernel
theorem dX10_branches_239 : decode cX10_branches 239 = .ok (.iload 7, 2) := by decide +kernel
theorem dX10_branches_241 : decode cX10_branches 241 = .ok (.aaload, 1) := by decide +kernel
theorem dX10_branches_242 : decode cX10_branches 242 = .ok (.iconst 2, 1) := by decide +kernel
theorem dX10_branches_243 : decode cX10_branches 243 = .ok (.iaload, 1) := by decide +kernel
theorem dX10_branches_244 : decode cX10_branches 244 = .ok (.iload_n 2, 1) := by decide +kernel
theorem dX10_branches_245 : decode cX10_branches 245 = .ok (.invokevirtual 204, 3) := by decide +kernel
theorem dX10_branches_248 : decode cX10_branches 248 = .ok (.goto 22, 3) := by decide +kernel
theorem dX10_branches_251 : decode cX10_branches 251 = .ok (.aload_n 0, 1) := by decide +kernel
theorem dX10_branches_252 : decode cX10_branches 252 = .ok (.iload 7, 2) := by decide +kernel
theorem dX10_branches_254 : decode cX10_branches 254 = .ok (.invokevirtual 183, 3) := by decide +kernel
theorem dX10_branches_257 : decode cX10_branches 257 = .ok (.ifCond .eq 13, 3) := by decide +kernel
theorem dX10_branches_260 : decode cX10_branches 260 = .ok (.iload_n 2, 1) := by decide +kernel
theorem dX10_branches_261 : decode cX10_branches 261 = .ok (.ifCond .le 9, 3) := by decide +kernel
theorem dX10_branches_264 : decode cX10_branches 264 = .ok (.aload_n 0, 1) := by decide +kernel
theorem dX10_branches_265 : decode cX10_branches 265 = .ok (.iload 7, 2) := by decide +kernel
theorem dX10_branches_267 : decode cX10_branches 267 = .ok (.invokevirtual 208, 3) := by decide +kernel
theorem dX10_branches_270 : decode cX10_branches 270 = .ok (.aload_n 0, 1) := by decide +kernel
theorem dX10_branches_271 : decode cX10_branches 271 = .ok (.iload_n 1, 1) := by decide +kernel
theorem dX10_branches_272 : decode cX10_branches 272 = .ok (.iload_n 2, 1) := by decide +kernel
theorem dX10_branches_273 : decode cX10_branches 273 = .ok (.iload 7, 2) := by decide +kernel
theorem dX10_branches_275 : decode cX10_branches 275 = .ok (.iconst 1, 1) := by decide +kernel
theorem dX10_branches_276 : decode cX10_branches 276 = .ok (.iadd, 1) := by decide +kernel
theorem dX10_branches_277 : decode cX10_branches 277 = .ok (.ldc2_w 281, 3) := by decide +kernel
theorem dX10_branches_280 : decode cX10_branches 280 = .ok (.lload 4, 2) := by decide +kernel
theorem dX10_branches_282 : decode cX10_branches 282 = .ok (.lmul, 1) := by decide +kernel
theorem dX10_branches_283 : decode cX10_branches 283 = .ok (.iload 6, 2) := by decide +kernel
theorem dX10_branches_285 : decode cX10_branches 285 = .ok (.invokevirtual 277, 3) := by decide +kernel
theorem dX10_branches_288 : decode cX10_branches 288 = .ok (.aload_n 0, 1) := by decide +kernel
theorem dX10_branches_289 : decode cX10_branches 289 = .ok (.invokevirtual 259, 3) := by decide +kernel
theorem dX10_branches_292 : decode cX10_branches 292 = .ok (.return_, 1) := by decide +kernel
theorem dX10_byOdds_0 : decode cX10_byOdds 0 = .ok (.bipush 8, 2) := by decide +kernel
theorem dX10_byOdds_2 : decode cX10_byOdds 2 = .ok (.istore_n 2, 1) := by decide +kernel
theorem dX10_byOdds_3 : decode cX10_byOdds 3 = .ok (.aload_n 0, 1) := by decide +kernel
theorem dX10_byOdds_4 : decode cX10_byOdds 4 = .ok (.getfield 271, 3) := by decide +kernel
theorem dX10_byOdds_7 : decode cX10_byOdds 7 = .ok (.lstore_n 3, 1) := by decide +kernel
theorem dX10_byOdds_8 : decode cX10_byOdds 8 = .ok (.aload_n 0, 1) := by decide +kernel
theorem dX10_byOdds_9 : decode cX10_byOdds 9 = .ok (.lconst 0, 1) := by decide +kernel
theorem dX10_byOdds_10 : decode cX10_byOdds 10 = .ok (.putfield 271, 3) := by decide +kernel
theorem dX10_byOdds_13 : decode cX10_byOdds 13 = .ok (.iconst 0, 1) := by decide +kernel
theorem dX10_byOdds_14 : decode cX10_byOdds 14 = .ok (.istore 7, 2) := by decide +kernel
theorem dX10_byOdds_16 : decode cX10_byOdds 16 = .ok (.iload 7, 2) := by decide +kernel
theorem dX10_byOdds_18 : decode cX10_byOdds 18 = .ok (.aload_n 0, 1) := by decide +kernel
theorem dX10_byOdds_19 : decode cX10_byOdds 19 = .ok (.getfield 20, 3) := by decide +kernel
theorem dX10_byOdds_22 : decode cX10_byOdds 22 = .ok (.bipush 6, 2) := by decide +kernel
theorem dX10_byOdds_24 : decode cX10_byOdds 24 = .ok (.iaload, 1) := by decide +kernel
theorem dX10_byOdds_25 : decode cX10_byOdds 25 = .ok (.if_icmp .gt 123, 3) := by decide +kernel
theorem dX10_byOdds_28 : decode cX10_byOdds 28 = .ok (.iload 7, 2) := by decide +kernel
theorem dX10_byOdds_30 : decode cX10_byOdds 30 = .ok (.aload_n 0, 1) := by decide +kernel
theorem dX10_byOdds_31 : decode cX10_byOdds 31 = .ok (.getfield 20, 3) := by decide +kernel
theorem dX10_byOdds_34 : decode cX10_byOdds 34 = .ok (.bipush 6, 2) := by decide +kernel
theorem dX10_byOdds_36 : decode cX10_byOdds 36 = .ok (.iaload, 1) := by decide +kernel
theorem dX10_byOdds_37 : decode cX10_byOdds 37 = .ok (.if_icmp .ge 26, 3) := by decide +kernel
theorem dX10_byOdds_40 : decode cX10_byOdds 40 = .ok (.aload_n 0, 1) := by decide +kernel
theorem dX10_byOdds_41 : decode cX10_byOdds 41 = .ok (.getfield 46, 3) := by decide +kernel
theorem dX10_byOdds_44 : decode cX10_byOdds 44 = .ok (.iload 7, 2) := by decide +kernel
theorem dX10_byOdds_46 : decode cX10_byOdds 46 = .ok (.aaload, 1) := by decide +kernel
theorem dX10_byOdds_47 : decode cX10_byOdds 47 = .ok (.iconst 0, 1) := by decide +kernel
theorem dX10_byOdds_48 : decode cX10_byOdds 48 = .ok (.iaload, 1) := by decide +kernel
theorem dX10_byOdds_49 : decode cX10_byOdds 49 = .ok (.aload_n 0, 1) := by decide +kernel
theorem dX10_byOdds_50 : decode cX10_byOdds 50 = .ok (.getfield 49, 3) := by decide +kernel
theorem dX10_byOdds_53 : decode cX10_byOdds 53 = .ok (.sipush 155, 3) := by decide +kernel
theorem dX10_byOdds_56 : decode cX10_byOdds 56 = .ok (.iaload, 1) := by decide +kernel
theorem dX10_byOdds_57 : decode cX10_byOdds 57 = .ok (.if_icmp .eq 6, 3) := by decide +kernel
theorem dX10_byOdds_60 : decode cX10_byOdds 60 = .ok (.goto 82, 3) := by decide +kernel
theorem dX10_byOdds_63 : decode cX10_byOdds 63 = .ok (.iload 7, 2) := by decide +kernel
theorem dX10_byOdds_65 : decode cX10_byOdds 65 = .ok (.aload_n 0, 1) := by decide +kernel
theorem dX10_byOdds_66 : decode cX10_byOdds 66 = .ok (.getfield 20, 3) := by decide +kernel
theorem dX10_byOdds_69 : decode cX10_byOdds 69 = .ok (.bipush 6, 2) := by decide +kernel
theorem dX10_byOdds_71 : decode cX10_byOdds 71 = .ok (.iaload, 1) := by decide +kernel
theorem dX10_byOdds_72 : decode cX10_byOdds 72 = .ok (.if_icmp .ge 15, 3) := by decide +kernel
theorem dX10_byOdds_75 : decode cX10_byOdds 75 = .ok (.aload_n 0, 1) := by decide +kernel
theorem dX10_byOdds_76 : decode cX10_byOdds 76 = .ok (.getfield 46, 3) := by decide +kernel
theorem dX10_byOdds_79 : decode cX10_byOdds 79 = .ok (.iload 7, 2) := by decide +kernel
theorem dX10_byOdds_81 : decode cX10_byOdds 81 = .ok (.aaload, 1) := by decide +kernel
theorem dX10_byOdds_82 : decode cX10_byOdds 82 = .ok (.iconst 2, 1) := by decide +kernel
theorem dX10_byOdds_83 : decode cX10_byOdds 83 = .ok (.iaload, 1) := by decide +kernel
theorem dX10_byOdds_84 : decode cX10_byOdds 84 = .ok (.goto 4, 3) := by decide +kernel
theorem dX10_byOdds_87 : decode cX10_byOdds 87 = .ok (.iload_n 2, 1) := by decide +kernel
theorem dX10_byOdds_88 : decode cX10_byOdds 88 = .ok (.istore 8, 2) := by decide +kernel
theorem dX10_byOdds_90 : decode cX10_byOdds 90 = .ok (.iload_n 2, 1) := by decide +kernel
theorem dX10_byOdds_91 : decode cX10_byOdds 91 = .ok (.iload 8, 2) := by decide +kernel
theorem dX10_byOdds_93 : decode cX10_byOdds 93 = .ok (.isub, 1) := by decide +kernel
theorem dX10_byOdds_94 : decode cX10_byOdds 94 = .ok (.istore_n 2, 1) := by decide +kernel
theorem dX10_byOdds_95 : decode cX10_byOdds 95 = .ok (.iload 8, 2) := by decide +kernel
theorem dX10_byOdds_97 : decode cX10_byOdds 97 = .ok (.ifCond .le 45, 3) := by decide +kernel
theorem dX10_byOdds_100 : decode cX10_byOdds 100 = .ok (.aload_n 0, 1) := by decide +kernel
theorem dX10_byOdds_101 : decode cX10_byOdds 101 = .ok (.iload_n 1, 1) := by decide +kernel
theorem dX10_byOdds_102 : decode cX10_byOdds 102 = .ok (.iload 7, 2) := by decide +kernel
theorem dX10_byOdds_104 : decode cX10_byOdds 104 = .ok (.aload_n 0, 1) := by decide +kernel
theorem dX10_byOdds_105 : decode cX10_byOdds 105 = .ok (.getfield 20, 3) := by decide +kernel
theorem dX10_byOdds_108 : decode cX10_byOdds 108 = .ok (.bipush 6, 2) := by decide +kernel
theorem dX10_byOdds_110 : decode cX10_byOdds 110 = .ok (.iaload, 1) := by decide +kernel
theorem dX10_byOdds_111 : decode cX10_byOdds 111 = .ok (.if_icmp .ge 15, 3) := by decide +kernel
theorem dX10_byOdds_114 : decode cX10_byOdds 114 = .ok (.aload_n 0, 1) := by decide +kernel
theorem dX10_byOdds_115 : decode cX10_byOdds 115 = .ok (.getfield 46, 3) := by decide +kernel
theorem dX10_byOdds_118 : decode cX10_byOdds 118 = .ok (.iload 7, 2) := by decide +kernel
theorem dX10_byOdds_120 : decode cX10_byOdds 120 = .ok (.aaload, 1) := by decide +kernel
theorem dX10_byOdds_121 : decode cX10_byOdds 121 = .ok (.iconst 1, 1) := by decide +kernel
theorem dX10_byOdds_122 : decode cX10_byOdds 122 = .ok (.iaload, 1) := by decide +kernel
theorem dX10_byOdds_123 : decode cX10_byOdds 123 = .ok (.goto 4, 3) := by decide +kernel
theorem dX10_byOdds_126 : decode cX10_byOdds 126 = .ok (.iconst 0, 1) := by decide +kernel
theorem dX10_byOdds_127 : decode cX10_byOdds 127 = .ok (.iconst 0, 1) := by decide +kernel
theorem dX10_byOdds_128 : decode cX10_byOdds 128 = .ok (.iload 8, 2) := by decide +kernel
theorem dX10_byOdds_130 : decode cX10_byOdds 130 = .ok (.i2l, 1) := by decide +kernel
theorem dX10_byOdds_131 : decode cX10_byOdds 131 = .ok (.aload_n 0, 1) := by decide +kernel
theorem dX10_byOdds_132 : decode cX10_byOdds 132 = .ok (.getfield 49, 3) := by decide +kernel
theorem dX10_byOdds_135 : decode cX10_byOdds 135 = .ok (.sipush 151, 3) := by decide +kernel
theorem dX10_byOdds_138 : decode cX10_byOdds 138 = .ok (.iaload, 1) := by decide +kernel
theorem dX10_byOdds_139 : decode cX10_byOdds 139 = .ok (.invokevirtual 277, 3) := by decide +kernel
theorem dX10_byOdds_142 : decode cX10_byOdds 142 = .ok (.iinc 7 1, 3) := by decide +kernel
theorem dX10_byOdds_145 : decode cX10_byOdds 145 = .ok (.goto (-129), 3) := by decide +kernel
theorem dX10_byOdds_148 : decode cX10_byOdds 148 = .ok (.aload_n 0, 1) := by decide +kernel
theorem dX10_byOdds_149 : decode cX10_byOdds 149 = .ok (.getfield 271, 3) := by decide +kernel
theorem dX10_byOdds_152 : decode cX10_byOdds 152 = .ok (.lstore 5, 2) := by decide +kernel
theorem dX10_byOdds_154 : decode cX10_byOdds 154 = .ok (.aload_n 0, 1) := by decide +kernel
theorem dX10_byOdds_155 : decode cX10_byOdds 155 = .ok (.lload_n 3, 1) := by decide +kernel
theorem dX10_byOdds_156 : decode cX10_byOdds 156 = .ok (.putfield 271, 3) := by decide +kernel
theorem dX10_byOdds_159 : decode cX10_byOdds 159 = .ok (.lload 5, 2) := by decide +kernel
theorem dX10_byOdds_161 : decode cX10_byOdds 161 = .ok (.lreturn, 1) := by decide +kernel
theorem dX10_fours_0 : decode cX10_fours 0 = .ok (.lconst 1, 1) := by decide +kernel
theorem dX10_fours_1 : decode cX10_fours 1 = .ok (.iconst 2, 1) := by decide +kernel
theorem dX10_fours_2 : decode cX10_fours 2 = .ok (.iload_n 0, 1) := by decide +kernel
theorem dX10_fours_3 : decode cX10_fours 3 = .ok (.imul, 1) := by decide +kernel
theorem dX10_fours_4 : decode cX10_fours 4 = .ok (.lshl, 1) := by decide +kernel
theorem dX10_fours_5 : decode cX10_fours 5 = .ok (.lreturn, 1) := by decide +kernel
theorem dX10_setOf_0 : decode cX10_setOf 0 = .ok (.aload_n 0, 1) := by decide +kernel
theorem dX10_setOf_1 : decode cX10_setOf 1 = .ok (.invokevirtual 215, 3) := by decide +kernel
theorem dX10_setOf_4 : decode cX10_setOf 4 = .ok (.istore_n 2, 1) := by decide +kernel
theorem dX10_setOf_5 : decode cX10_setOf 5 = .ok (.iconst 0, 1) := by decide +kernel
theorem dX10_setOf_6 : decode cX10_setOf 6 = .ok (.istore_n 3, 1) := by decide +kernel
theorem dX10_setOf_7 : decode cX10_setOf 7 = .ok (.iconst 0, 1) := by decide +kernel
theorem dX10_setOf_8 : decode cX10_setOf 8 = .ok (.istore 4, 2) := by decide +kernel
theorem dX10_setOf_10 : decode cX10_setOf 10 = .ok (.iconst 0, 1) := by decide +kernel
theorem dX10_setOf_11 : decode cX10_setOf 11 = .ok (.istore 5, 2) := by decide +kernel
theorem dX10_setOf_13 : decode cX10_setOf 13 = .ok (.iload 5, 2) := by decide +kernel
theorem dX10_setOf_15 : decode cX10_setOf 15 = .ok (.aload_n 0, 1) := by decide +kernel
theorem dX10_setOf_16 : decode cX10_setOf 16 = .ok (.getfield 20, 3) := by decide +kernel
theorem dX10_setOf_19 : decode cX10_setOf 19 = .ok (.iconst 1, 1) := by decide +kernel
theorem dX10_setOf_20 : decode cX10_setOf 20 = .ok (.iaload, 1) := by decide +kernel
theorem dX10_setOf_21 : decode cX10_setOf 21 = .ok (.if_icmp .ge 47, 3) := by decide +kernel
theorem dX10_setOf_24 : decode cX10_setOf 24 = .ok (.iload_n 2, 1) := by decide +kernel
theorem dX10_setOf_25 : decode cX10_setOf 25 = .ok (.iload 5, 2) := by decide +kernel
theorem dX10_setOf_27 : decode cX10_setOf 27 = .ok (.ishr, 1) := by decide +kernel
theorem dX10_setOf_28 : decode cX10_setOf 28 = .ok (.iconst 1, 1) := by decide +kernel
theorem dX10_setOf_29 : decode cX10_setOf 29 = .ok (.iand, 1) := by decide +kernel
theorem dX10_setOf_30 : decode cX10_setOf 30 = .ok (.ifCond .ne 6, 3) := by decide +kernel
theorem dX10_setOf_33 : decode cX10_setOf 33 = .ok (.goto 29, 3) := by decide +kernel
theorem dX10_setOf_36 : decode cX10_setOf 36 = .ok (.iload 4, 2) := by decide +kernel
theorem dX10_setOf_38 : decode cX10_setOf 38 = .ok (.iconst 3, 1) := by decide +kernel
theorem dX10_setOf_39 : decode cX10_setOf 39 = .ok (.if_icmp .ge 20, 3) := by decide +kernel
theorem dX10_setOf_42 : decode cX10_setOf 42 = .ok (.iload_n 1, 1) := by decide +kernel
theorem dX10_setOf_43 : decode cX10_setOf 43 = .ok (.iload 4, 2) := by decide +kernel
theorem dX10_setOf_45 : decode cX10_setOf 45 = .ok (.ishr, 1) := by decide +kernel
theorem dX10_setOf_46 : decode cX10_setOf 46 = .ok (.iconst 1, 1) := by decide +kernel
theorem dX10_setOf_47 : decode cX10_setOf 47 = .ok (.iand, 1) := by decide +kernel
theorem dX10_setOf_48 : decode cX10_setOf 48 = .ok (.iconst 1, 1) := by decide +kernel
theorem dX10_setOf_49 : decode cX10_setOf 49 = .ok (.if_icmp .ne 10, 3) := by decide +kernel
theorem dX10_setOf_52 : decode cX10_setOf 52 = .ok (.iload_n 3, 1) := by decide +kernel
theorem dX10_setOf_53 : decode cX10_setOf 53 = .ok (.iconst 1, 1) := by decide +kernel
theorem dX10_setOf_54 : decode cX10_setOf 54 = .ok (.iload 5, 2) := by decide +kernel
theorem dX10_setOf_56 : decode cX10_setOf 56 = .ok (.ishl, 1) := by decide +kernel
theorem dX10_setOf_57 : decode cX10_setOf 57 = .ok (.ior, 1) := by decide +kernel
theorem dX10_setOf_58 : decode cX10_setOf 58 = .ok (.istore_n 3, 1) := by decide +kernel
theorem dX10_setOf_59 : decode cX10_setOf 59 = .ok (.iinc 4 1, 3) := by decide +kernel
theorem dX10_setOf_62 : decode cX10_setOf 62 = .ok (.iinc 5 1, 3) := by decide +kernel
theorem dX10_setOf_65 : decode cX10_setOf 65 = .ok (.goto (-52), 3) := by decide +kernel
theorem dX10_setOf_68 : decode cX10_setOf 68 = .ok (.iload_n 3, 1) := by decide +kernel
theorem dX10_setOf_69 : decode cX10_setOf 69 = .ok (.invokestatic 218, 3) := by decide +kernel
theorem dX10_setOf_72 : decode cX10_setOf 72 = .ok (.iload_n 1, 1) := by decide +kernel
theorem dX10_setOf_73 : decode cX10_setOf 73 = .ok (.invokestatic 218, 3) := by decide +kernel
theorem dX10_setOf_76 : decode cX10_setOf 76 = .ok (.if_icmp .ne 20, 3) := by decide +kernel
theorem dX10_setOf_79 : decode cX10_setOf 79 = .ok (.iload_n 3, 1) := by decide +kernel
theorem dX10_setOf_80 : decode cX10_setOf 80 = .ok (.invokestatic 218, 3) := by decide +kernel
theorem dX10_setOf_83 : decode cX10_setOf 83 = .ok (.aload_n 0, 1) := by decide +kernel
theorem dX10_setOf_84 : decode cX10_setOf 84 = .ok (.getfield 20, 3) := by decide +kernel
theorem dX10_setOf_87 : decode cX10_setOf 87 = .ok (.iconst 3, 1) := by decide +kernel
theorem dX10_setOf_88 : decode cX10_setOf 88 = .ok (.iaload, 1) := by decide +kernel
theorem dX10_setOf_89 : decode cX10_setOf 89 = .ok (.if_icmp .gt 7, 3) := by decide +kernel
theorem dX10_setOf_92 : decode cX10_setOf 92 = .ok (.iload_n 3, 1) := by decide +kernel
theorem dX10_setOf_93 : decode cX10_setOf 93 = .ok (.goto 4, 3) := by decide +kernel
theorem dX10_setOf_96 : decode cX10_setOf 96 = .ok (.iconst (-1), 1) := by decide +kernel
theorem dX10_setOf_97 : decode cX10_setOf 97 = .ok (.ireturn, 1) := by decide +kernel
theorem dX10_bestNext_0 : decode cX10_bestNext 0 = .ok (.lconst 0, 1) := by decide +kernel
theorem dX10_bestNext_1 : decode cX10_bestNext 1 = .ok (.lstore_n 1, 1) := by decide +kernel
theorem dX10_bestNext_2 : decode cX10_bestNext 2 = .ok (.aload_n 0, 1) := by decide +kernel
theorem dX10_bestNext_3 : decode cX10_bestNext 3 = .ok (.getfield 262, 3) := by decide +kernel
theorem dX10_bestNext_6 : decode cX10_bestNext 6 = .ok (.istore_n 3, 1) := by decide +kernel
theorem dX10_bestNext_7 : decode cX10_bestNext 7 = .ok (.aload_n 0, 1) := by decide +kernel
theorem dX10_bestNext_8 : decode cX10_bestNext 8 = .ok (.iconst 0, 1) := by decide +kernel
theorem dX10_bestNext_9 : decode cX10_bestNext 9 = .ok (.putfield 262, 3) := by decide +kernel
theorem dX10_bestNext_12 : decode cX10_bestNext 12 = .ok (.iconst 0, 1) := by decide +kernel
theorem dX10_bestNext_13 : decode cX10_bestNext 13 = .ok (.istore 4, 2) := by decide +kernel
theorem dX10_bestNext_15 : decode cX10_bestNext 15 = .ok (.iload 4, 2) := by decide +kernel
theorem dX10_bestNext_17 : decode cX10_bestNext 17 = .ok (.bipush 8, 2) := by decide +kernel
theorem dX10_bestNext_19 : decode cX10_bestNext 19 = .ok (.if_icmp .ge 59, 3) := by decide +kernel
theorem dX10_bestNext_22 : decode cX10_bestNext 22 = .ok (.aload_n 0, 1) := by decide +kernel
theorem dX10_bestNext_23 : decode cX10_bestNext 23 = .ok (.iload 4, 2) := by decide +kernel
theorem dX10_bestNext_25 : decode cX10_bestNext 25 = .ok (.invokevirtual 283, 3) := by decide +kernel
theorem dX10_bestNext_28 : decode cX10_bestNext 28 = .ok (.istore 5, 2) := by decide +kernel
theorem dX10_bestNext_30 : decode cX10_bestNext 30 = .ok (.iload 5, 2) := by decide +kernel
theorem dX10_bestNext_32 : decode cX10_bestNext 32 = .ok (.iconst (-1), 1) := by decide +kernel
theorem dX10_bestNext_33 : decode cX10_bestNext 33 = .ok (.if_icmp .ne 6, 3) := by decide +kernel
theorem dX10_bestNext_36 : decode cX10_bestNext 36 = .ok (.goto 36, 3) := by decide +kernel
theorem dX10_bestNext_39 : decode cX10_bestNext 39 = .ok (.aload_n 0, 1) := by decide +kernel
theorem dX10_bestNext_40 : decode cX10_bestNext 40 = .ok (.iload 5, 2) := by decide +kernel
theorem dX10_bestNext_42 : decode cX10_bestNext 42 = .ok (.invokevirtual 286, 3) := by decide +kernel
theorem dX10_bestNext_45 : decode cX10_bestNext 45 = .ok (.iconst 3, 1) := by decide +kernel
theorem dX10_bestNext_46 : decode cX10_bestNext 46 = .ok (.iload 5, 2) := by decide +kernel
theorem dX10_bestNext_48 : decode cX10_bestNext 48 = .ok (.invokestatic 218, 3) := by decide +kernel
theorem dX10_bestNext_51 : decode cX10_bestNext 51 = .ok (.isub, 1) := by decide +kernel
theorem dX10_bestNext_52 : decode cX10_bestNext 52 = .ok (.invokestatic 290, 3) := by decide +kernel
theorem dX10_bestNext_55 : decode cX10_bestNext 55 = .ok (.lmul, 1) := by decide +kernel
theorem dX10_bestNext_56 : decode cX10_bestNext 56 = .ok (.lstore 6, 2) := by decide +kernel
theorem dX10_bestNext_58 : decode cX10_bestNext 58 = .ok (.lload 6, 2) := by decide +kernel
theorem dX10_bestNext_60 : decode cX10_bestNext 60 = .ok (.lload_n 1, 1) := by decide +kernel
theorem dX10_bestNext_61 : decode cX10_bestNext 61 = .ok (.lcmp, 1) := by decide +kernel
theorem dX10_bestNext_62 : decode cX10_bestNext 62 = .ok (.ifCond .le 8, 3) := by decide +kernel
theorem dX10_bestNext_65 : decode cX10_bestNext 65 = .ok (.lload 6, 2) := by decide +kernel
theorem dX10_bestNext_67 : decode cX10_bestNext 67 = .ok (.goto 4, 3) := by decide +kernel
theorem dX10_bestNext_70 : decode cX10_bestNext 70 = .ok (.lload_n 1, 1) := by decide +kernel
theorem dX10_bestNext_71 : decode cX10_bestNext 71 = .ok (.lstore_n 1, 1) := by decide +kernel
theorem dX10_bestNext_72 : decode cX10_bestNext 72 = .ok (.iinc 4 1, 3) := by decide +kernel
theorem dX10_bestNext_75 : decode cX10_bestNext 75 = .ok (.goto (-60), 3) := by decide +kernel
theorem dX10_bestNext_78 : decode cX10_bestNext 78 = .ok (.aload_n 0, 1) := by decide +kernel
theorem dX10_bestNext_79 : decode cX10_bestNext 79 = .ok (.iload_n 3, 1) := by decide +kernel
theorem dX10_bestNext_80 : decode cX10_bestNext 80 = .ok (.putfield 262, 3) := by decide +kernel
theorem dX10_bestNext_83 : decode cX10_bestNext 83 = .ok (.lload_n 1, 1) := by decide +kernel
theorem dX10_bestNext_84 : decode cX10_bestNext 84 = .ok (.lreturn, 1) := by decide +kernel
theorem dX10_findTonight_0 : decode cX10_findTonight 0 = .ok (.ldc2_w 293, 3) := by decide +kernel
theorem dX10_findTonight_3 : decode cX10_findTonight 3 = .ok (.lstore_n 1, 1) := by decide +kernel
theorem dX10_findTonight_4 : decode cX10_findTonight 4 = .ok (.aload_n 0, 1) := by decide +kernel
theorem dX10_findTonight_5 : decode cX10_findTonight 5 = .ok (.iconst 0, 1) := by decide +kernel
theorem dX10_findTonight_6 : decode cX10_findTonight 6 = .ok (.putfield 295, 3) := by decide +kernel
theorem dX10_findTonight_9 : decode cX10_findTonight 9 = .ok (.aload_n 0, 1) := by decide +kernel
theorem dX10_findTonight_10 : decode cX10_findTonight 10 = .ok (.iconst 1, 1) := by decide +kernel
theorem dX10_findTonight_11 : decode cX10_findTonight 11 = .ok (.putfield 262, 3) := by decide +kernel
theorem dX10_findTonight_14 : decode cX10_findTonight 14 = .ok (.iconst 0, 1) := by decide +kernel
theorem dX10_findTonight_15 : decode cX10_findTonight 15 = .ok (.istore_n 3, 1) := by decide +kernel
theorem dX10_findTonight_16 : decode cX10_findTonight 16 = .ok (.iload_n 3, 1) := by decide +kernel
theorem dX10_findTonight_17 : decode cX10_findTonight 17 = .ok (.bipush 8, 2) := by decide +kernel
theorem dX10_findTonight_19 : decode cX10_findTonight 19 = .ok (.if_icmp .ge 63, 3) := by decide +kernel
theorem dX10_findTonight_22 : decode cX10_findTonight 22 = .ok (.aload_n 0, 1) := by decide +kernel
theorem dX10_findTonight_23 : decode cX10_findTonight 23 = .ok (.iload_n 3, 1) := by decide +kernel
theorem dX10_findTonight_24 : decode cX10_findTonight 24 = .ok (.invokevirtual 283, 3) := by decide +kernel
theorem dX10_findTonight_27 : decode cX10_findTonight 27 = .ok (.istore 4, 2) := by decide +kernel
theorem dX10_findTonight_29 : decode cX10_findTonight 29 = .ok (.iload 4, 2) := by decide +kernel
theorem dX10_findTonight_31 : decode cX10_findTonight 31 = .ok (.iconst (-1), 1) := by decide +kernel
theorem dX10_findTonight_32 : decode cX10_findTonight 32 = .ok (.if_icmp .ne 6, 3) := by decide +kernel
theorem dX10_findTonight_35 : decode cX10_findTonight 35 = .ok (.goto 41, 3) := by decide +kernel
theorem dX10_findTonight_38 : decode cX10_findTonight 38 = .ok (.aload_n 0, 1) := by decide +kernel
theorem dX10_findTonight_39 : decode cX10_findTonight 39 = .ok (.iload 4, 2) := by decide +kernel
theorem dX10_findTonight_41 : decode cX10_findTonight 41 = .ok (.invokevirtual 286, 3) := by decide +kernel
theorem dX10_findTonight_44 : decode cX10_findTonight 44 = .ok (.iconst 3, 1) := by decide +kernel
theorem dX10_findTonight_45 : decode cX10_findTonight 45 = .ok (.iload 4, 2) := by decide +kernel
theorem dX10_findTonight_47 : decode cX10_findTonight 47 = .ok (.invokestatic 218, 3) := by decide +kernel
theorem dX10_findTonight_50 : decode cX10_findTonight 50 = .ok (.isub, 1) := by decide +kernel
theorem dX10_findTonight_51 : decode cX10_findTonight 51 = .ok (.invokestatic 290, 3) := by decide +kernel
theorem dX10_findTonight_54 : decode cX10_findTonight 54 = .ok (.lmul, 1) := by decide +kernel
theorem dX10_findTonight_55 : decode cX10_findTonight 55 = .ok (.lstore 5, 2) := by decide +kernel
theorem dX10_findTonight_57 : decode cX10_findTonight 57 = .ok (.lload 5, 2) := by decide +kernel
theorem dX10_findTonight_59 : decode cX10_findTonight 59 = .ok (.lload_n 1, 1) := by decide +kernel
theorem dX10_findTonight_60 : decode cX10_findTonight 60 = .ok (.lcmp, 1) := by decide +kernel
theorem dX10_findTonight_61 : decode cX10_findTonight 61 = .ok (.ifCond .gt 6, 3) := by decide +kernel
theorem dX10_findTonight_64 : decode cX10_findTonight 64 = .ok (.goto 12, 3) := by decide +kernel
theorem dX10_findTonight_67 : decode cX10_findTonight 67 = .ok (.lload 5, 2) := by decide +kernel
theorem dX10_findTonight_69 : decode cX10_findTonight 69 = .ok (.lstore_n 1, 1) := by decide +kernel
theorem dX10_findTonight_70 : decode cX10_findTonight 70 = .ok (.aload_n 0, 1) := by decide +kernel
theorem dX10_findTonight_71 : decode cX10_findTonight 71 = .ok (.iload 4, 2) := by decide +kernel
theorem dX10_findTonight_73 : decode cX10_findTonight 73 = .ok (.putfield 295, 3) := by decide +kernel
theorem dX10_findTonight_76 : decode cX10_findTonight 76 = .ok (.iinc 3 1, 3) := by decide +kernel
theorem dX10_findTonight_79 : decode cX10_findTonight 79 = .ok (.goto (-63), 3) := by decide +kernel
theorem dX10_findTonight_82 : decode cX10_findTonight 82 = .ok (.aload_n 0, 1) := by decide +kernel
theorem dX10_findTonight_83 : decode cX10_findTonight 83 = .ok (.iconst 0, 1) := by decide +kernel
theorem dX10_findTonight_84 : decode cX10_findTonight 84 = .ok (.putfield 262, 3) := by decide +kernel
theorem dX10_findTonight_87 : decode cX10_findTonight 87 = .ok (.lload_n 1, 1) := by decide +kernel
theorem dX10_findTonight_88 : decode cX10_findTonight 88 = .ok (.lreturn, 1) := by decide +kernel
theorem dX10_tonight_0 : decode cX10_tonight 0 = .ok (.aload_n 0, 1) := by decide +kernel
theorem dX10_tonight_1 : decode cX10_tonight 1 = .ok (.iconst 0, 1) := by decide +kernel
theorem dX10_tonight_2 : decode cX10_tonight 2 = .ok (.putfield 76, 3) := by decide +kernel
theorem dX10_tonight_5 : decode cX10_tonight 5 = .ok (.aload_n 0, 1) := by decide +kernel
theorem dX10_tonight_6 : decode cX10_tonight 6 = .ok (.aload_n 0, 1) := by decide +kernel
theorem dX10_tonight_7 : decode cX10_tonight 7 = .ok (.invokevirtual 224, 3) := by decide +kernel
theorem dX10_tonight_10 : decode cX10_tonight 10 = .ok (.iconst 1, 1) := by decide +kernel
theorem dX10_tonight_11 : decode cX10_tonight 11 = .ok (.invokevirtual 148, 3) := by decide +kernel
theorem dX10_tonight_14 : decode cX10_tonight 14 = .ok (.ifCond .eq 5, 3) := by decide +kernel
theorem dX10_tonight_17 : decode cX10_tonight 17 = .ok (.iconst 0, 1) := by decide +kernel
theorem dX10_tonight_18 : decode cX10_tonight 18 = .ok (.ireturn, 1) := by decide +kernel
theorem dX10_tonight_19 : decode cX10_tonight 19 = .ok (.aload_n 0, 1) := by decide +kernel
theorem dX10_tonight_20 : decode cX10_tonight 20 = .ok (.invokevirtual 298, 3) := by decide +kernel
theorem dX10_tonight_23 : decode cX10_tonight 23 = .ok (.pop2, 1) := by decide +kernel
theorem dX10_tonight_24 : decode cX10_tonight 24 = .ok (.aload_n 0, 1) := by decide +kernel
theorem dX10_tonight_25 : decode cX10_tonight 25 = .ok (.getfield 295, 3) := by decide +kernel
theorem dX10_tonight_28 : decode cX10_tonight 28 = .ok (.ireturn, 1) := by decide +kernel
theorem dX10_least_0 : decode cX10_least 0 = .ok (.lload_n 0, 1) := by decide +kernel
theorem dX10_least_1 : decode cX10_least 1 = .ok (.lstore 5, 2) := by decide +kernel
theorem dX10_least_3 : decode cX10_least 3 = .ok (.lload_n 2, 1) := by decide +kernel
theorem dX10_least_4 : decode cX10_least 4 = .ok (.lstore 7, 2) := by decide +kernel
theorem dX10_least_6 : decode cX10_least 6 = .ok (.lload 7, 2) := by decide +kernel
theorem dX10_least_8 : decode cX10_least 8 = .ok (.lconst 0, 1) := by decide +kernel
theorem dX10_least_9 : decode cX10_least 9 = .ok (.lcmp, 1) := by decide +kernel
theorem dX10_least_10 : decode cX10_least 10 = .ok (.ifCond .eq 21, 3) := by decide +kernel
theorem dX10_least_13 : decode cX10_least 13 = .ok (.lload 5, 2) := by decide +kernel
theorem dX10_least_15 : decode cX10_least 15 = .ok (.lload 7, 2) := by decide +kernel
theorem dX10_least_17 : decode cX10_least 17 = .ok (.lrem, 1) := by decide +kernel
theorem dX10_least_18 : decode cX10_least 18 = .ok (.lstore 9, 2) := by decide +kernel
theorem dX10_least_20 : decode cX10_least 20 = .ok (.lload 7, 2) := by decide +kernel
theorem dX10_least_22 : decode cX10_least 22 = .ok (.lstore 5, 2) := by decide +kernel
theorem dX10_least_24 : decode cX10_least 24 = .ok (.lload 9, 2) := by decide +kernel
theorem dX10_least_26 : decode cX10_least 26 = .ok (.lstore 7, 2) := by decide +kernel
theorem dX10_least_28 : decode cX10_least 28 = .ok (.goto (-22), 3) := by decide +kernel
theorem dX10_least_31 : decode cX10_least 31 = .ok (.iload 4, 2) := by decide +kernel
theorem dX10_least_33 : decode cX10_least 33 = .ok (.ifCond .ne 10, 3) := by decide +kernel
theorem dX10_least_36 : decode cX10_least 36 = .ok (.lload_n 0, 1) := by decide +kernel
theorem dX10_least_37 : decode cX10_least 37 = .ok (.lload 5, 2) := by decide +kernel
theorem dX10_least_39 : decode cX10_least 39 = .ok (.ldiv, 1) := by decide +kernel
theorem dX10_least_40 : decode cX10_least 40 = .ok (.goto 7, 3) := by decide +kernel
theorem dX10_least_43 : decode cX10_least 43 = .ok (.lload_n 2, 1) := by decide +kernel
theorem dX10_least_44 : decode cX10_least 44 = .ok (.lload 5, 2) := by decide +kernel
theorem dX10_least_46 : decode cX10_least 46 = .ok (.ldiv, 1) := by decide +kernel
theorem dX10_least_47 : decode cX10_least 47 = .ok (.lreturn, 1) := by decide +kernel
theorem dX10_worth_0 : decode cX10_worth 0 = .ok (.aload_n 0, 1) := by decide +kernel
theorem dX10_worth_1 : decode cX10_worth 1 = .ok (.iconst 0, 1) := by decide +kernel
theorem dX10_worth_2 : decode cX10_worth 2 = .ok (.putfield 76, 3) := by decide +kernel
theorem dX10_worth_5 : decode cX10_worth 5 = .ok (.aload_n 0, 1) := by decide +kernel
theorem dX10_worth_6 : decode cX10_worth 6 = .ok (.iload_n 1, 1) := by decide +kernel
theorem dX10_worth_7 : decode cX10_worth 7 = .ok (.iconst 0, 1) := by decide +kernel
theorem dX10_worth_8 : decode cX10_worth 8 = .ok (.iconst 1, 1) := by decide +kernel
theorem dX10_worth_9 : decode cX10_worth 9 = .ok (.invokestatic 110, 3) := by decide +kernel
theorem dX10_worth_12 : decode cX10_worth 12 = .ok (.ifCond .ne 7, 3) := by decide +kernel
theorem dX10_worth_15 : decode cX10_worth 15 = .ok (.iconst 1, 1) := by decide +kernel
theorem dX10_worth_16 : decode cX10_worth 16 = .ok (.goto 4, 3) := by decide +kernel
theorem dX10_worth_19 : decode cX10_worth 19 = .ok (.iconst 0, 1) := by decide +kernel
theorem dX10_worth_20 : decode cX10_worth 20 = .ok (.iconst 1, 1) := by decide +kernel
theorem dX10_worth_21 : decode cX10_worth 21 = .ok (.invokevirtual 148, 3) := by decide +kernel
theorem dX10_worth_24 : decode cX10_worth 24 = .ok (.ifCond .ne 15, 3) := by decide +kernel
theorem dX10_worth_27 : decode cX10_worth 27 = .ok (.aload_n 0, 1) := by decide +kernel
theorem dX10_worth_28 : decode cX10_worth 28 = .ok (.aload_n 0, 1) := by decide +kernel
theorem dX10_worth_29 : decode cX10_worth 29 = .ok (.invokevirtual 224, 3) := by decide +kernel
theorem dX10_worth_32 : decode cX10_worth 32 = .ok (.iconst 2, 1) := by decide +kernel
theorem dX10_worth_33 : decode cX10_worth 33 = .ok (.invokevirtual 148, 3) := by decide +kernel
theorem dX10_worth_36 : decode cX10_worth 36 = .ok (.ifCond .eq 5, 3) := by decide +kernel
theorem dX10_worth_39 : decode cX10_worth 39 = .ok (.lconst 0, 1) := by decide +kernel
theorem dX10_worth_40 : decode cX10_worth 40 = .ok (.lreturn, 1) := by decide +kernel
theorem dX10_worth_41 : decode cX10_worth 41 = .ok (.aload_n 0, 1) := by decide +kernel
theorem dX10_worth_42 : decode cX10_worth 42 = .ok (.invokevirtual 298, 3) := by decide +kernel
theorem dX10_worth_45 : decode cX10_worth 45 = .ok (.ldc2_w 301, 3) := by decide +kernel
theorem dX10_worth_48 : decode cX10_worth 48 = .ok (.iload_n 1, 1) := by decide +kernel
theorem dX10_worth_49 : decode cX10_worth 49 = .ok (.invokestatic 303, 3) := by decide +kernel
theorem dX10_worth_52 : decode cX10_worth 52 = .ok (.lreturn, 1) := by decide +kernel
theorem dX10_now_0 : decode cX10_now 0 = .ok (.aload_n 0, 1) := by decide +kernel
theorem dX10_now_1 : decode cX10_now 1 = .ok (.iconst 0, 1) := by decide +kernel
theorem dX10_now_2 : decode cX10_now 2 = .ok (.putfield 76, 3) := by decide +kernel
theorem dX10_now_5 : decode cX10_now 5 = .ok (.aload_n 0, 1) := by decide +kernel
theorem dX10_now_6 : decode cX10_now 6 = .ok (.aload_n 0, 1) := by decide +kernel
theorem dX10_now_7 : decode cX10_now 7 = .ok (.iload_n 1, 1) := by decide +kernel
theorem dX10_now_8 : decode cX10_now 8 = .ok (.invokevirtual 221, 3) := by decide +kernel
theorem dX10_now_11 : decode cX10_now 11 = .ok (.ifCond .eq 21, 3) := by decide +kernel
theorem dX10_now_14 : decode cX10_now 14 = .ok (.iload_n 1, 1) := by decide +kernel
theorem dX10_now_15 : decode cX10_now 15 = .ok (.invokestatic 218, 3) := by decide +kernel
theorem dX10_now_18 : decode cX10_now 18 = .ok (.bipush 6, 2) := by decide +kernel
theorem dX10_now_20 : decode cX10_now 20 = .ok (.if_icmp .gt 12, 3) := by decide +kernel
theorem dX10_now_23 : decode cX10_now 23 = .ok (.iload_n 2, 1) := by decide +kernel
theorem dX10_now_24 : decode cX10_now 24 = .ok (.iconst 0, 1) := by decide +kernel
theorem dX10_now_25 : decode cX10_now 25 = .ok (.iconst 1, 1) := by decide +kernel
theorem dX10_now_26 : decode cX10_now 26 = .ok (.invokestatic 110, 3) := by decide +kernel
theorem dX10_now_29 : decode cX10_now 29 = .ok (.ifCond .ne 7, 3) := by decide +kernel
theorem dX10_now_32 : decode cX10_now 32 = .ok (.iconst 1, 1) := by decide +kernel
theorem dX10_now_33 : decode cX10_now 33 = .ok (.goto 4, 3) := by decide +kernel
theorem dX10_now_36 : decode cX10_now 36 = .ok (.iconst 0, 1) := by decide +kernel
theorem dX10_now_37 : decode cX10_now 37 = .ok (.iconst 1, 1) := by decide +kernel
theorem dX10_now_38 : decode cX10_now 38 = .ok (.invokevirtual 148, 3) := by decide +kernel
theorem dX10_now_41 : decode cX10_now 41 = .ok (.ifCond .ne 15, 3) := by decide +kernel
theorem dX10_now_44 : decode cX10_now 44 = .ok (.aload_n 0, 1) := by decide +kernel
theorem dX10_now_45 : decode cX10_now 45 = .ok (.aload_n 0, 1) := by decide +kernel
theorem dX10_now_46 : decode cX10_now 46 = .ok (.invokevirtual 224, 3) := by decide +kernel
theorem dX10_now_49 : decode cX10_now 49 = .ok (.iconst 2, 1) := by decide +kernel
theorem dX10_now_50 : decode cX10_now 50 = .ok (.invokevirtual 148, 3) := by decide +kernel
theorem dX10_now_53 : decode cX10_now 53 = .ok (.ifCond .eq 5, 3) := by decide +kernel
theorem dX10_now_56 : decode cX10_now 56 = .ok (.lconst 0, 1) := by decide +kernel
theorem dX10_now_57 : decode cX10_now 57 = .ok (.lreturn, 1) := by decide +kernel
theorem dX10_now_58 : decode cX10_now 58 = .ok (.aload_n 0, 1) := by decide +kernel
theorem dX10_now_59 : decode cX10_now 59 = .ok (.iload_n 1, 1) := by decide +kernel
theorem dX10_now_60 : decode cX10_now 60 = .ok (.invokevirtual 286, 3) := by decide +kernel
theorem dX10_now_63 : decode cX10_now 63 = .ok (.ldc2_w 307, 3) := by decide +kernel
theorem dX10_now_66 : decode cX10_now 66 = .ok (.iload_n 1, 1) := by decide +kernel
theorem dX10_now_67 : decode cX10_now 67 = .ok (.invokestatic 218, 3) := by decide +kernel
theorem dX10_now_70 : decode cX10_now 70 = .ok (.invokestatic 290, 3) := by decide +kernel
theorem dX10_now_73 : decode cX10_now 73 = .ok (.lmul, 1) := by decide +kernel
theorem dX10_now_74 : decode cX10_now 74 = .ok (.iload_n 2, 1) := by decide +kernel
theorem dX10_now_75 : decode cX10_now 75 = .ok (.invokestatic 303, 3) := by decide +kernel
theorem dX10_now_78 : decode cX10_now 78 = .ok (.lreturn, 1) := by decide +kernel
theorem dX10_deeper_0 : decode cX10_deeper 0 = .ok (.aload_n 0, 1) := by decide +kernel
theorem dX10_deeper_1 : decode cX10_deeper 1 = .ok (.iconst 0, 1) := by decide +kernel
theorem dX10_deeper_2 : decode cX10_deeper 2 = .ok (.putfield 76, 3) := by decide +kernel
theorem dX10_deeper_5 : decode cX10_deeper 5 = .ok (.aload_n 0, 1) := by decide +kernel
theorem dX10_deeper_6 : decode cX10_deeper 6 = .ok (.aload_n 0, 1) := by decide +kernel
theorem dX10_deeper_7 : decode cX10_deeper 7 = .ok (.invokevirtual 224, 3) := by decide +kernel
theorem dX10_deeper_10 : decode cX10_deeper 10 = .ok (.iconst 1, 1) := by decide +kernel
theorem dX10_deeper_11 : decode cX10_deeper 11 = .ok (.invokevirtual 148, 3) := by decide +kernel
theorem dX10_deeper_14 : decode cX10_deeper 14 = .ok (.ifCond .eq 5, 3) := by decide +kernel
theorem dX10_deeper_17 : decode cX10_deeper 17 = .ok (.iconst 0, 1) := by decide +kernel
theorem dX10_deeper_18 : decode cX10_deeper 18 = .ok (.ireturn, 1) := by decide +kernel
theorem dX10_deeper_19 : decode cX10_deeper 19 = .ok (.iconst (-1), 1) := by decide +kernel
theorem dX10_deeper_20 : decode cX10_deeper 20 = .ok (.istore_n 1, 1) := by decide +kernel
theorem dX10_deeper_21 : decode cX10_deeper 21 = .ok (.aload_n 0, 1) := by decide +kernel
theorem dX10_deeper_22 : decode cX10_deeper 22 = .ok (.invokevirtual 215, 3) := by decide +kernel
theorem dX10_deeper_25 : decode cX10_deeper 25 = .ok (.istore_n 2, 1) := by decide +kernel
theorem dX10_deeper_26 : decode cX10_deeper 26 = .ok (.ldc2_w 293, 3) := by decide +kernel
theorem dX10_deeper_29 : decode cX10_deeper 29 = .ok (.lstore_n 3, 1) := by decide +kernel
theorem dX10_deeper_30 : decode cX10_deeper 30 = .ok (.iconst 0, 1) := by decide +kernel
theorem dX10_deeper_31 : decode cX10_deeper 31 = .ok (.istore 5, 2) := by decide +kernel
theorem dX10_deeper_33 : decode cX10_deeper 33 = .ok (.iload 5, 2) := by decide +kernel
theorem dX10_deeper_35 : decode cX10_deeper 35 = .ok (.aload_n 0, 1) := by decide +kernel
theorem dX10_deeper_36 : decode cX10_deeper 36 = .ok (.getfield 20, 3) := by decide +kernel
theorem dX10_deeper_39 : decode cX10_deeper 39 = .ok (.iconst 1, 1) := by decide +kernel
theorem dX10_deeper_40 : decode cX10_deeper 40 = .ok (.iaload, 1) := by decide +kernel
theorem dX10_deeper_41 : decode cX10_deeper 41 = .ok (.if_icmp .ge 93, 3) := by decide +kernel
theorem dX10_deeper_44 : decode cX10_deeper 44 = .ok (.iload_n 2, 1) := by decide +kernel
theorem dX10_deeper_45 : decode cX10_deeper 45 = .ok (.iload 5, 2) := by decide +kernel
theorem dX10_deeper_47 : decode cX10_deeper 47 = .ok (.ishr, 1) := by decide +kernel
theorem dX10_deeper_48 : decode cX10_deeper 48 = .ok (.iconst 1, 1) := by decide +kernel
theorem dX10_deeper_49 : decode cX10_deeper 49 = .ok (.iand, 1) := by decide +kernel
theorem dX10_deeper_50 : decode cX10_deeper 50 = .ok (.ifCond .ne 6, 3) := by decide +kernel
theorem dX10_deeper_53 : decode cX10_deeper 53 = .ok (.goto 75, 3) := by decide +kernel
theorem dX10_deeper_56 : decode cX10_deeper 56 = .ok (.aload_n 0, 1) := by decide +kernel
theorem dX10_deeper_57 : decode cX10_deeper 57 = .ok (.getfield 49, 3) := by decide +kernel
theorem dX10_deeper_60 : decode cX10_deeper 60 = .ok (.bipush 121, 2) := by decide +kernel
theorem dX10_deeper_62 : decode cX10_deeper 62 = .ok (.iload 5, 2) := by decide +kernel
theorem dX10_deeper_64 : decode cX10_deeper 64 = .ok (.iadd, 1) := by decide +kernel
theorem dX10_deeper_65 : decode cX10_deeper 65 = .ok (.iaload, 1) := by decide +kernel
theorem dX10_deeper_66 : decode cX10_deeper 66 = .ok (.istore 6, 2) := by decide +kernel
theorem dX10_deeper_68 : decode cX10_deeper 68 = .ok (.aload_n 0, 1) := by decide +kernel
theorem dX10_deeper_69 : decode cX10_deeper 69 = .ok (.getfield 49, 3) := by decide +kernel
theorem dX10_deeper_72 : decode cX10_deeper 72 = .ok (.bipush 121, 2) := by decide +kernel
theorem dX10_deeper_74 : decode cX10_deeper 74 = .ok (.iload 5, 2) := by decide +kernel
theorem dX10_deeper_76 : decode cX10_deeper 76 = .ok (.iadd, 1) := by decide +kernel
theorem dX10_deeper_77 : decode cX10_deeper 77 = .ok (.iload 6, 2) := by decide +kernel
theorem dX10_deeper_79 : decode cX10_deeper 79 = .ok (.bipush 9, 2) := by decide +kernel
theorem dX10_deeper_81 : decode cX10_deeper 81 = .ok (.if_icmp .ge 10, 3) := by decide +kernel
theorem dX10_deeper_84 : decode cX10_deeper 84 = .ok (.iload 6, 2) := by decide +kernel
theorem dX10_deeper_86 : decode cX10_deeper 86 = .ok (.iconst 1, 1) := by decide +kernel
theorem dX10_deeper_87 : decode cX10_deeper 87 = .ok (.iadd, 1) := by decide +kernel
theorem dX10_deeper_88 : decode cX10_deeper 88 = .ok (.goto 5, 3) := by decide +kernel
theorem dX10_deeper_91 : decode cX10_deeper 91 = .ok (.bipush 9, 2) := by decide +kernel
theorem dX10_deeper_93 : decode cX10_deeper 93 = .ok (.iastore, 1) := by decide +kernel
theorem dX10_deeper_94 : decode cX10_deeper 94 = .ok (.aload_n 0, 1) := by decide +kernel
theorem dX10_deeper_95 : decode cX10_deeper 95 = .ok (.invokevirtual 298, 3) := by decide +kernel
theorem dX10_deeper_98 : decode cX10_deeper 98 = .ok (.lstore 7, 2) := by decide +kernel
theorem dX10_deeper_100 : decode cX10_deeper 100 = .ok (.aload_n 0, 1) := by decide +kernel
theorem dX10_deeper_101 : decode cX10_deeper 101 = .ok (.getfield 49, 3) := by decide +kernel
theorem dX10_deeper_104 : decode cX10_deeper 104 = .ok (.bipush 121, 2) := by decide +kernel
theorem dX10_deeper_106 : decode cX10_deeper 106 = .ok (.iload 5, 2) := by decide +kernel
theorem dX10_deeper_108 : decode cX10_deeper 108 = .ok (.iadd, 1) := by decide +kernel
theorem dX10_deeper_109 : decode cX10_deeper 109 = .ok (.iload 6, 2) := by decide +kernel
theorem dX10_deeper_111 : decode cX10_deeper 111 = .ok (.iastore, 1) := by decide +kernel
theorem dX10_deeper_112 : decode cX10_deeper 112 = .ok (.lload 7, 2) := by decide +kernel
theorem dX10_deeper_114 : decode cX10_deeper 114 = .ok (.lload_n 3, 1) := by decide +kernel
theorem dX10_deeper_115 : decode cX10_deeper 115 = .ok (.lcmp, 1) := by decide +kernel
theorem dX10_deeper_116 : decode cX10_deeper 116 = .ok (.ifCond .gt 6, 3) := by decide +kernel
theorem dX10_deeper_119 : decode cX10_deeper 119 = .ok (.goto 9, 3) := by decide +kernel
theorem dX10_deeper_122 : decode cX10_deeper 122 = .ok (.iload 5, 2) := by decide +kernel
theorem dX10_deeper_124 : decode cX10_deeper 124 = .ok (.istore_n 1, 1) := by decide +kernel
theorem dX10_deeper_125 : decode cX10_deeper 125 = .ok (.lload 7, 2) := by decide +kernel
theorem dX10_deeper_127 : decode cX10_deeper 127 = .ok (.lstore_n 3, 1) := by decide +kernel
theorem dX10_deeper_128 : decode cX10_deeper 128 = .ok (.iinc 5 1, 3) := by decide +kernel
theorem dX10_deeper_131 : decode cX10_deeper 131 = .ok (.goto (-98), 3) := by decide +kernel
theorem dX10_deeper_134 : decode cX10_deeper 134 = .ok (.iload_n 1, 1) := by decide +kernel
theorem dX10_deeper_135 : decode cX10_deeper 135 = .ok (.ireturn, 1) := by decide +kernel
theorem dX10_thumb_0 : decode cX10_thumb 0 = .ok (.aload_n 0, 1) := by decide +kernel
theorem dX10_thumb_1 : decode cX10_thumb 1 = .ok (.iconst 0, 1) := by decide +kernel
theorem dX10_thumb_2 : decode cX10_thumb 2 = .ok (.putfield 76, 3) := by decide +kernel
theorem dX10_thumb_5 : decode cX10_thumb 5 = .ok (.aload_n 0, 1) := by decide +kernel
theorem dX10_thumb_6 : decode cX10_thumb 6 = .ok (.getfield 162, 3) := by decide +kernel
theorem dX10_thumb_9 : decode cX10_thumb 9 = .ok (.bipush 60, 2) := by decide +kernel
theorem dX10_thumb_11 : decode cX10_thumb 11 = .ok (.if_icmp .ne 5, 3) := by decide +kernel
theorem dX10_thumb_14 : decode cX10_thumb 14 = .ok (.iconst (-1), 1) := by decide +kernel
theorem dX10_thumb_15 : decode cX10_thumb 15 = .ok (.ireturn, 1) := by decide +kernel
theorem dX10_thumb_16 : decode cX10_thumb 16 = .ok (.aload_n 0, 1) := by decide +kernel
theorem dX10_thumb_17 : decode cX10_thumb 17 = .ok (.getfield 61, 3) := by decide +kernel
theorem dX10_thumb_20 : decode cX10_thumb 20 = .ok (.aload_n 0, 1) := by decide +kernel
theorem dX10_thumb_21 : decode cX10_thumb 21 = .ok (.getfield 162, 3) := by decide +kernel
theorem dX10_thumb_24 : decode cX10_thumb 24 = .ok (.aaload, 1) := by decide +kernel
theorem dX10_thumb_25 : decode cX10_thumb 25 = .ok (.iconst 0, 1) := by decide +kernel
theorem dX10_thumb_26 : decode cX10_thumb 26 = .ok (.iload_n 1, 1) := by decide +kernel
theorem dX10_thumb_27 : decode cX10_thumb 27 = .ok (.ifCond .eq 7, 3) := by decide +kernel
theorem dX10_thumb_30 : decode cX10_thumb 30 = .ok (.iconst 1, 1) := by decide +kernel
theorem dX10_thumb_31 : decode cX10_thumb 31 = .ok (.goto 4, 3) := by decide +kernel
theorem dX10_thumb_34 : decode cX10_thumb 34 = .ok (.iconst 0, 1) := by decide +kernel
theorem dX10_thumb_35 : decode cX10_thumb 35 = .ok (.iastore, 1) := by decide +kernel
theorem dX10_thumb_36 : decode cX10_thumb 36 = .ok (.aload_n 0, 1) := by decide +kernel
theorem dX10_thumb_37 : decode cX10_thumb 37 = .ok (.getfield 61, 3) := by decide +kernel
theorem dX10_thumb_40 : decode cX10_thumb 40 = .ok (.aload_n 0, 1) := by decide +kernel
theorem dX10_thumb_41 : decode cX10_thumb 41 = .ok (.getfield 162, 3) := by decide +kernel
theorem dX10_thumb_44 : decode cX10_thumb 44 = .ok (.aaload, 1) := by decide +kernel
theorem dX10_thumb_45 : decode cX10_thumb 45 = .ok (.iconst 1, 1) := by decide +kernel
theorem dX10_thumb_46 : decode cX10_thumb 46 = .ok (.iload_n 2, 1) := by decide +kernel
theorem dX10_thumb_47 : decode cX10_thumb 47 = .ok (.ifCond .eq 7, 3) := by decide +kernel
theorem dX10_thumb_50 : decode cX10_thumb 50 = .ok (.iconst 1, 1) := by decide +kernel
theorem dX10_thumb_51 : decode cX10_thumb 51 = .ok (.goto 4, 3) := by decide +kernel
theorem dX10_thumb_54 : decode cX10_thumb 54 = .ok (.iconst 0, 1) := by decide +kernel
theorem dX10_thumb_55 : decode cX10_thumb 55 = .ok (.iastore, 1) := by decide +kernel
theorem dX10_thumb_56 : decode cX10_thumb 56 = .ok (.aload_n 0, 1) := by decide +kernel
theorem dX10_thumb_57 : decode cX10_thumb 57 = .ok (.dup, 1) := by decide +kernel
theorem dX10_thumb_58 : decode cX10_thumb 58 = .ok (.getfield 162, 3) := by decide +kernel
theorem dX10_thumb_61 : decode cX10_thumb 61 = .ok (.iconst 1, 1) := by decide +kernel
theorem dX10_thumb_62 : decode cX10_thumb 62 = .ok (.iadd, 1) := by decide +kernel
theorem dX10_thumb_63 : decode cX10_thumb 63 = .ok (.putfield 162, 3) := by decide +kernel
theorem dX10_thumb_66 : decode cX10_thumb 66 = .ok (.aload_n 0, 1) := by decide +kernel
theorem dX10_thumb_67 : decode cX10_thumb 67 = .ok (.getfield 162, 3) := by decide +kernel
theorem dX10_thumb_70 : decode cX10_thumb 70 = .ok (.ireturn, 1) := by decide +kernel
theorem dX10_trust_0 : decode cX10_trust 0 = .ok (.aload_n 0, 1) := by decide +kernel
theorem dX10_trust_1 : decode cX10_trust 1 = .ok (.iconst 0, 1) := by decide +kernel
theorem dX10_trust_2 : decode cX10_trust 2 = .ok (.putfield 76, 3) := by decide +kernel
theorem dX10_trust_5 : decode cX10_trust 5 = .ok (.aload_n 0, 1) := by decide +kernel
theorem dX10_trust_6 : decode cX10_trust 6 = .ok (.iload_n 2, 1) := by decide +kernel
theorem dX10_trust_7 : decode cX10_trust 7 = .ok (.iconst 0, 1) := by decide +kernel
theorem dX10_trust_8 : decode cX10_trust 8 = .ok (.iconst 1, 1) := by decide +kernel
theorem dX10_trust_9 : decode cX10_trust 9 = .ok (.invokestatic 110, 3) := by decide +kernel
theorem dX10_trust_12 : decode cX10_trust 12 = .ok (.ifCond .ne 7, 3) := by decide +kernel
theorem dX10_trust_15 : decode cX10_trust 15 = .ok (.iconst 1, 1) := by decide +kernel
theorem dX10_trust_16 : decode cX10_trust 16 = .ok (.goto 4, 3) := by decide +kernel
theorem dX10_trust_19 : decode cX10_trust 19 = .ok (.iconst 0, 1) := by decide +kernel
theorem dX10_trust_20 : decode cX10_trust 20 = .ok (.iconst 1, 1) := by decide +kernel
theorem dX10_trust_21 : decode cX10_trust 21 = .ok (.invokevirtual 148, 3) := by decide +kernel
theorem dX10_trust_24 : decode cX10_trust 24 = .ok (.ifCond .eq 5, 3) := by decide +kernel
theorem dX10_trust_27 : decode cX10_trust 27 = .ok (.iconst 0, 1) := by decide +kernel
theorem dX10_trust_28 : decode cX10_trust 28 = .ok (.ireturn, 1) := by decide +kernel
theorem dX10_trust_29 : decode cX10_trust 29 = .ok (.iconst 0, 1) := by decide +kernel
theorem dX10_trust_30 : decode cX10_trust 30 = .ok (.istore_n 3, 1) := by decide +kernel
theorem dX10_trust_31 : decode cX10_trust 31 = .ok (.iconst 0, 1) := by decide +kernel
theorem dX10_trust_32 : decode cX10_trust 32 = .ok (.istore 4, 2) := by decide +kernel
theorem dX10_trust_34 : decode cX10_trust 34 = .ok (.iconst 0, 1) := by decide +kernel
theorem dX10_trust_35 : decode cX10_trust 35 = .ok (.istore 5, 2) := by decide +kernel
theorem dX10_trust_37 : decode cX10_trust 37 = .ok (.iload 5, 2) := by decide +kernel
theorem dX10_trust_39 : decode cX10_trust 39 = .ok (.aload_n 0, 1) := by decide +kernel
theorem dX10_trust_40 : decode cX10_trust 40 = .ok (.getfield 162, 3) := by decide +kernel
theorem dX10_trust_43 : decode cX10_trust 43 = .ok (.if_icmp .ge 51, 3) := by decide +kernel
theorem dX10_trust_46 : decode cX10_trust 46 = .ok (.aload_n 0, 1) := by decide +kernel
theorem dX10_trust_47 : decode cX10_trust 47 = .ok (.getfield 61, 3) := by decide +kernel
theorem dX10_trust_50 : decode cX10_trust 50 = .ok (.iload 5, 2) := by decide +kernel
theorem dX10_trust_52 : decode cX10_trust 52 = .ok (.aaload, 1) := by decide +kernel
theorem dX10_trust_53 : decode cX10_trust 53 = .ok (.iconst 0, 1) := by decide +kernel
theorem dX10_trust_54 : decode cX10_trust 54 = .ok (.iaload, 1) := by decide +kernel
theorem dX10_trust_55 : decode cX10_trust 55 = .ok (.iconst 1, 1) := by decide +kernel
theorem dX10_trust_56 : decode cX10_trust 56 = .ok (.if_icmp .ne 7, 3) := by decide +kernel
theorem dX10_trust_59 : decode cX10_trust 59 = .ok (.iconst 1, 1) := by decide +kernel
theorem dX10_trust_60 : decode cX10_trust 60 = .ok (.goto 4, 3) := by decide +kernel
theorem dX10_trust_63 : decode cX10_trust 63 = .ok (.iconst 0, 1) := by decide +kernel
theorem dX10_trust_64 : decode cX10_trust 64 = .ok (.iload_n 1, 1) := by decide +kernel
theorem dX10_trust_65 : decode cX10_trust 65 = .ok (.if_icmp .eq 6, 3) := by decide +kernel
theorem dX10_trust_68 : decode cX10_trust 68 = .ok (.goto 20, 3) := by decide +kernel
theorem dX10_trust_71 : decode cX10_trust 71 = .ok (.iinc 3 1, 3) := by decide +kernel
theorem dX10_trust_74 : decode cX10_trust 74 = .ok (.iload 4, 2) := by decide +kernel
theorem dX10_trust_76 : decode cX10_trust 76 = .ok (.aload_n 0, 1) := by decide +kernel
theorem dX10_trust_77 : decode cX10_trust 77 = .ok (.getfield 61, 3) := by decide +kernel
theorem dX10_trust_80 : decode cX10_trust 80 = .ok (.iload 5, 2) := by decide +kernel
theorem dX10_trust_82 : decode cX10_trust 82 = .ok (.aaload, 1) := by decide +kernel
theorem dX10_trust_83 : decode cX10_trust 83 = .ok (.iconst 1, 1) := by decide +kernel
theorem dX10_trust_84 : decode cX10_trust 84 = .ok (.iaload, 1) := by decide +kernel
theorem dX10_trust_85 : decode cX10_trust 85 = .ok (.iadd, 1) := by decide +kernel
theorem dX10_trust_86 : decode cX10_trust 86 = .ok (.istore 4, 2) := by decide +kernel
theorem dX10_trust_88 : decode cX10_trust 88 = .ok (.iinc 5 1, 3) := by decide +kernel
theorem dX10_trust_91 : decode cX10_trust 91 = .ok (.goto (-54), 3) := by decide +kernel
theorem dX10_trust_94 : decode cX10_trust 94 = .ok (.iload_n 3, 1) := by decide +kernel
theorem dX10_trust_95 : decode cX10_trust 95 = .ok (.ifCond .ne 7, 3) := by decide +kernel
theorem dX10_trust_98 : decode cX10_trust 98 = .ok (.iload_n 2, 1) := by decide +kernel
theorem dX10_trust_99 : decode cX10_trust 99 = .ok (.goto 13, 3) := by decide +kernel
theorem dX10_trust_102 : decode cX10_trust 102 = .ok (.iload 4, 2) := by decide +kernel
theorem dX10_trust_104 : decode cX10_trust 104 = .ok (.i2l, 1) := by decide +kernel
theorem dX10_trust_105 : decode cX10_trust 105 = .ok (.iload_n 3, 1) := by decide +kernel
theorem dX10_trust_106 : decode cX10_trust 106 = .ok (.i2l, 1) := by decide +kernel
theorem dX10_trust_107 : decode cX10_trust 107 = .ok (.iload_n 2, 1) := by decide +kernel
theorem dX10_trust_108 : decode cX10_trust 108 = .ok (.invokestatic 303, 3) := by decide +kernel
theorem dX10_trust_111 : decode cX10_trust 111 = .ok (.l2i, 1) := by decide +kernel
theorem dX10_trust_112 : decode cX10_trust 112 = .ok (.ireturn, 1) := by decide +kernel
theorem dX10_listening_0 : decode cX10_listening 0 = .ok (.aload_n 0, 1) := by decide +kernel
theorem dX10_listening_1 : decode cX10_listening 1 = .ok (.iconst 0, 1) := by decide +kernel
theorem dX10_listening_2 : decode cX10_listening 2 = .ok (.putfield 76, 3) := by decide +kernel
theorem dX10_listening_5 : decode cX10_listening 5 = .ok (.iconst 0, 1) := by decide +kernel
theorem dX10_listening_6 : decode cX10_listening 6 = .ok (.istore_n 1, 1) := by decide +kernel
theorem dX10_listening_7 : decode cX10_listening 7 = .ok (.iconst 0, 1) := by decide +kernel
theorem dX10_listening_8 : decode cX10_listening 8 = .ok (.istore_n 2, 1) := by decide +kernel
theorem dX10_listening_9 : decode cX10_listening 9 = .ok (.iconst 0, 1) := by decide +kernel
theorem dX10_listening_10 : decode cX10_listening 10 = .ok (.istore_n 3, 1) := by decide +kernel
theorem dX10_listening_11 : decode cX10_listening 11 = .ok (.iload_n 3, 1) := by decide +kernel
theorem dX10_listening_12 : decode cX10_listening 12 = .ok (.aload_n 0, 1) := by decide +kernel
theorem dX10_listening_13 : decode cX10_listening 13 = .ok (.getfield 162, 3) := by decide +kernel
theorem dX10_listening_16 : decode cX10_listening 16 = .ok (.if_icmp .ge 47, 3) := by decide +kernel
theorem dX10_listening_19 : decode cX10_listening 19 = .ok (.iload_n 1, 1) := by decide +kernel
theorem dX10_listening_20 : decode cX10_listening 20 = .ok (.aload_n 0, 1) := by decide +kernel
theorem dX10_listening_21 : decode cX10_listening 21 = .ok (.getfield 61, 3) := by decide +kernel
theorem dX10_listening_24 : decode cX10_listening 24 = .ok (.iload_n 3, 1) := by decide +kernel
theorem dX10_listening_25 : decode cX10_listening 25 = .ok (.aaload, 1) := by decide +kernel
theorem dX10_listening_26 : decode cX10_listening 26 = .ok (.iconst 0, 1) := by decide +kernel
theorem dX10_listening_27 : decode cX10_listening 27 = .ok (.iaload, 1) := by decide +kernel
theorem dX10_listening_28 : decode cX10_listening 28 = .ok (.aload_n 0, 1) := by decide +kernel
theorem dX10_listening_29 : decode cX10_listening 29 = .ok (.getfield 61, 3) := by decide +kernel
theorem dX10_listening_32 : decode cX10_listening 32 = .ok (.iload_n 3, 1) := by decide +kernel
theorem dX10_listening_33 : decode cX10_listening 33 = .ok (.aaload, 1) := by decide +kernel
theorem dX10_listening_34 : decode cX10_listening 34 = .ok (.iconst 1, 1) := by decide +kernel
theorem dX10_listening_35 : decode cX10_listening 35 = .ok (.iaload, 1) := by decide +kernel
theorem dX10_listening_36 : decode cX10_listening 36 = .ok (.if_icmp .ne 7, 3) := by decide +kernel
theorem dX10_listening_39 : decode cX10_listening 39 = .ok (.iconst 1, 1) := by decide +kernel
theorem dX10_listening_40 : decode cX10_listening 40 = .ok (.goto 4, 3) := by decide +kernel
theorem dX10_listening_43 : decode cX10_listening 43 = .ok (.iconst 0, 1) := by decide +kernel
theorem dX10_listening_44 : decode cX10_listening 44 = .ok (.iadd, 1) := by decide +kernel
theorem dX10_listening_45 : decode cX10_listening 45 = .ok (.istore_n 1, 1) := by decide +kernel
theorem dX10_listening_46 : decode cX10_listening 46 = .ok (.iload_n 2, 1) := by decide +kernel
theorem dX10_listening_47 : decode cX10_listening 47 = .ok (.aload_n 0, 1) := by decide +kernel
theorem dX10_listening_48 : decode cX10_listening 48 = .ok (.getfield 61, 3) := by decide +kernel
theorem dX10_listening_51 : decode cX10_listening 51 = .ok (.iload_n 3, 1) := by decide +kernel
theorem dX10_listening_52 : decode cX10_listening 52 = .ok (.aaload, 1) := by decide +kernel
theorem dX10_listening_53 : decode cX10_listening 53 = .ok (.iconst 1, 1) := by decide +kernel
theorem dX10_listening_54 : decode cX10_listening 54 = .ok (.iaload, 1) := by decide +kernel
theorem dX10_listening_55 : decode cX10_listening 55 = .ok (.iadd, 1) := by decide +kernel
theorem dX10_listening_56 : decode cX10_listening 56 = .ok (.istore_n 2, 1) := by decide +kernel
theorem dX10_listening_57 : decode cX10_listening 57 = .ok (.iinc 3 1, 3) := by decide +kernel
theorem dX10_listening_60 : decode cX10_listening 60 = .ok (.goto (-49), 3) := by decide +kernel
theorem dX10_listening_63 : decode cX10_listening 63 = .ok (.iload_n 1, 1) := by decide +kernel
theorem dX10_listening_64 : decode cX10_listening 64 = .ok (.iconst 2, 1) := by decide +kernel
theorem dX10_listening_65 : decode cX10_listening 65 = .ok (.iload_n 2, 1) := by decide +kernel
theorem dX10_listening_66 : decode cX10_listening 66 = .ok (.imul, 1) := by decide +kernel
theorem dX10_listening_67 : decode cX10_listening 67 = .ok (.aload_n 0, 1) := by decide +kernel
theorem dX10_listening_68 : decode cX10_listening 68 = .ok (.getfield 162, 3) := by decide +kernel
theorem dX10_listening_71 : decode cX10_listening 71 = .ok (.if_icmp .lt 7, 3) := by decide +kernel
theorem dX10_listening_74 : decode cX10_listening 74 = .ok (.iload_n 2, 1) := by decide +kernel
theorem dX10_listening_75 : decode cX10_listening 75 = .ok (.goto 9, 3) := by decide +kernel
theorem dX10_listening_78 : decode cX10_listening 78 = .ok (.aload_n 0, 1) := by decide +kernel
theorem dX10_listening_79 : decode cX10_listening 79 = .ok (.getfield 162, 3) := by decide +kernel
theorem dX10_listening_82 : decode cX10_listening 82 = .ok (.iload_n 2, 1) := by decide +kernel
theorem dX10_listening_83 : decode cX10_listening 83 = .ok (.isub, 1) := by decide +kernel
theorem dX10_listening_84 : decode cX10_listening 84 = .ok (.isub, 1) := by decide +kernel
theorem dX10_listening_85 : decode cX10_listening 85 = .ok (.ireturn, 1) := by decide +kernel
theorem dX10_tower_0 : decode cX10_tower 0 = .ok (.aload_n 0, 1) := by decide +kernel
theorem dX10_tower_1 : decode cX10_tower 1 = .ok (.iconst 0, 1) := by decide +kernel
theorem dX10_tower_2 : decode cX10_tower 2 = .ok (.putfield 76, 3) := by decide +kernel
theorem dX10_tower_5 : decode cX10_tower 5 = .ok (.iconst 0, 1) := by decide +kernel
theorem dX10_tower_6 : decode cX10_tower 6 = .ok (.istore_n 1, 1) := by decide +kernel
theorem dX10_tower_7 : decode cX10_tower 7 = .ok (.iconst 0, 1) := by decide +kernel
theorem dX10_tower_8 : decode cX10_tower 8 = .ok (.istore_n 2, 1) := by decide +kernel
theorem dX10_tower_9 : decode cX10_tower 9 = .ok (.iload_n 2, 1) := by decide +kernel
theorem dX10_tower_10 : decode cX10_tower 10 = .ok (.aload_n 0, 1) := by decide +kernel
theorem dX10_tower_11 : decode cX10_tower 11 = .ok (.getfield 49, 3) := by decide +kernel
theorem dX10_tower_14 : decode cX10_tower 14 = .ok (.bipush 120, 2) := by decide +kernel
theorem dX10_tower_16 : decode cX10_tower 16 = .ok (.iaload, 1) := by decide +kernel
theorem dX10_tower_17 : decode cX10_tower 17 = .ok (.if_icmp .ge 16, 3) := by decide +kernel
theorem dX10_tower_20 : decode cX10_tower 20 = .ok (.aload_n 0, 1) := by decide +kernel
theorem dX10_tower_21 : decode cX10_tower 21 = .ok (.getfield 70, 3) := by decide +kernel
theorem dX10_tower_24 : decode cX10_tower 24 = .ok (.iload_n 2, 1) := by decide +kernel
theorem dX10_tower_25 : decode cX10_tower 25 = .ok (.iconst 0, 1) := by decide +kernel
theorem dX10_tower_26 : decode cX10_tower 26 = .ok (.iastore, 1) := by decide +kernel
theorem dX10_tower_27 : decode cX10_tower 27 = .ok (.iinc 2 1, 3) := by decide +kernel
theorem dX10_tower_30 : decode cX10_tower 30 = .ok (.goto (-21), 3) := by decide +kernel
theorem dX10_tower_33 : decode cX10_tower 33 = .ok (.iconst 1, 1) := by decide +kernel
theorem dX10_tower_34 : decode cX10_tower 34 = .ok (.istore_n 2, 1) := by decide +kernel
theorem dX10_tower_35 : decode cX10_tower 35 = .ok (.iload_n 2, 1) := by decide +kernel
theorem dX10_tower_36 : decode cX10_tower 36 = .ok (.ifCond .eq 173, 3) := by decide +kernel
theorem dX10_tower_39 : decode cX10_tower 39 = .ok (.iconst 0, 1) := by decide +kernel
theorem dX10_tower_40 : decode cX10_tower 40 = .ok (.istore_n 2, 1) := by decide +kernel
theorem dX10_tower_41 : decode cX10_tower 41 = .ok (.iconst 0, 1) := by decide +kernel
theorem dX10_tower_42 : decode cX10_tower 42 = .ok (.istore_n 3, 1) := by decide +kernel
theorem dX10_tower_43 : decode cX10_tower 43 = .ok (.iload_n 3, 1) := by decide +kernel
theorem dX10_tower_44 : decode cX10_tower 44 = .ok (.aload_n 0, 1) := by decide +kernel
theorem dX10_tower_45 : decode cX10_tower 45 = .ok (.getfield 49, 3) := by decide +kernel
theorem dX10_tower_48 : decode cX10_tower 48 = .ok (.bipush 120, 2) := by decide +kernel
theorem dX10_tower_50 : decode cX10_tower 50 = .ok (.iaload, 1) := by decide +kernel
theorem dX10_tower_51 : decode cX10_tower 51 = .ok (.if_icmp .ge 155, 3) := by decide +kernel
theorem dX10_tower_54 : decode cX10_tower 54 = .ok (.aload_n 0, 1) := by decide +kernel
theorem dX10_tower_55 : decode cX10_tower 55 = .ok (.getfield 49, 3) := by decide +kernel
theorem dX10_tower_58 : decode cX10_tower 58 = .ok (.bipush 6, 2) := by decide +kernel
theorem dX10_tower_60 : decode cX10_tower 60 = .ok (.iload_n 3, 1) := by decide +kernel
theorem dX10_tower_61 : decode cX10_tower 61 = .ok (.imul, 1) := by decide +kernel
theorem dX10_tower_62 : decode cX10_tower 62 = .ok (.iconst 5, 1) := by decide +kernel
theorem dX10_tower_63 : decode cX10_tower 63 = .ok (.iadd, 1) := by decide +kernel
theorem dX10_tower_64 : decode cX10_tower 64 = .ok (.iaload, 1) := by decide +kernel
theorem dX10_tower_65 : decode cX10_tower 65 = .ok (.ifCond .ne 6, 3) := by decide +kernel
theorem dX10_tower_68 : decode cX10_tower 68 = .ok (.goto 132, 3) := by decide +kernel
theorem dX10_tower_71 : decode cX10_tower 71 = .ok (.iconst 1, 1) := by decide +kernel
theorem dX10_tower_72 : decode cX10_tower 72 = .ok (.istore 4, 2) := by decide +kernel
theorem dX10_tower_74 : decode cX10_tower 74 = .ok (.iconst 0, 1) := by decide +kernel
theorem dX10_tower_75 : decode cX10_tower 75 = .ok (.istore 5, 2) := by decide +kernel
theorem dX10_tower_77 : decode cX10_tower 77 = .ok (.iload 5, 2) := by decide +kernel
theorem dX10_tower_79 : decode cX10_tower 79 = .ok (.aload_n 0, 1) := by decide +kernel
theorem dX10_tower_80 : decode cX10_tower 80 = .ok (.getfield 49, 3) := by decide +kernel
theorem dX10_tower_83 : decode cX10_tower 83 = .ok (.bipush 120, 2) := by decide +kernel
theorem dX10_tower_85 : decode cX10_tower 85 = .ok (.iaload, 1) := by decide +kernel
theorem dX10_tower_86 : decode cX10_tower 86 = .ok (.if_icmp .ge 44, 3) := by decide +kernel
theorem dX10_tower_89 : decode cX10_tower 89 = .ok (.aload_n 0, 1) := by decide +kernel
theorem dX10_tower_90 : decode cX10_tower 90 = .ok (.iload_n 3, 1) := by decide +kernel
theorem dX10_tower_91 : decode cX10_tower 91 = .ok (.iload 5, 2) := by decide +kernel
theorem dX10_tower_93 : decode cX10_tower 93 = .ok (.invokevirtual 309, 3) := by decide +kernel
theorem dX10_tower_96 : decode cX10_tower 96 = .ok (.ifCond .eq 28, 3) := by decide +kernel
theorem dX10_tower_99 : decode cX10_tower 99 = .ok (.aload_n 0, 1) := by decide +kernel
theorem dX10_tower_100 : decode cX10_tower 100 = .ok (.getfield 70, 3) := by decide +kernel
theorem dX10_tower_103 : decode cX10_tower 103 = .ok (.iload 5, 2) := by decide +kernel
theorem dX10_tower_105 : decode cX10_tower 105 = .ok (.iaload, 1) := by decide +kernel
theorem dX10_tower_106 : decode cX10_tower 106 = .ok (.iconst 1, 1) := by decide +kernel
theorem dX10_tower_107 : decode cX10_tower 107 = .ok (.iadd, 1) := by decide +kernel
theorem dX10_tower_108 : decode cX10_tower 108 = .ok (.iload 4, 2) := by decide +kernel
theorem dX10_tower_110 : decode cX10_tower 110 = .ok (.if_icmp .le 14, 3) := by decide +kernel
theorem dX10_tower_113 : decode cX10_tower 113 = .ok (.aload_n 0, 1) := by decide +kernel
theorem dX10_tower_114 : decode cX10_tower 114 = .ok (.getfield 70, 3) := by decide +kernel
theorem dX10_tower_117 : decode cX10_tower 117 = .ok (.iload 5, 2) := by decide +kernel
theorem dX10_tower_119 : decode cX10_tower 119 = .ok (.iaload, 1) := by decide +kernel
theorem dX10_tower_120 : decode cX10_tower 120 = .ok (.iconst 1, 1) := by decide +kernel
theorem dX10_tower_121 : decode cX10_tower 121 = .ok (.iadd, 1) := by decide +kernel
theorem dX10_tower_122 : decode cX10_tower 122 = .ok (.istore 4, 2) := by decide +kernel
theorem dX10_tower_124 : decode cX10_tower 124 = .ok (.iinc 5 1, 3) := by decide +kernel
theorem dX10_tower_127 : decode cX10_tower 127 = .ok (.goto (-50), 3) := by decide +kernel
theorem dX10_tower_130 : decode cX10_tower 130 = .ok (.iload_n 2, 1) := by decide +kernel
theorem dX10_tower_131 : decode cX10_tower 131 = .ok (.ifCond .ne 14, 3) := by decide +kernel
theorem dX10_tower_134 : decode cX10_tower 134 = .ok (.iload 4, 2) := by decide +kernel
theorem dX10_tower_136 : decode cX10_tower 136 = .ok (.aload_n 0, 1) := by decide +kernel
theorem dX10_tower_137 : decode cX10_tower 137 = .ok (.getfield 70, 3) := by decide +kernel
theorem dX10_tower_140 : decode cX10_tower 140 = .ok (.iload_n 3, 1) := by decide +kernel
theorem dX10_tower_141 : decode cX10_tower 141 = .ok (.iaload, 1) := by decide +kernel
theorem dX10_tower_142 : decode cX10_tower 142 = .ok (.if_icmp .le 7, 3) := by decide +kernel
theorem dX10_tower_145 : decode cX10_tower 145 = .ok (.iconst 1, 1) := by decide +kernel
theorem dX10_tower_146 : decode cX10_tower 146 = .ok (.goto 4, 3) := by decide +kernel
theorem dX10_tower_149 : decode cX10_tower 149 = .ok (.iconst 0, 1) := by decide +kernel
theorem dX10_tower_150 : decode cX10_tower 150 = .ok (.istore_n 2, 1) := by decide +kernel
theorem dX10_tower_151 : decode cX10_tower 151 = .ok (.aload_n 0, 1) := by decide +kernel
theorem dX10_tower_152 : decode cX10_tower 152 = .ok (.getfield 70, 3) := by decide +kernel
theorem dX10_tower_155 : decode cX10_tower 155 = .ok (.iload_n 3, 1) := by decide +kernel
theorem dX10_tower_156 : decode cX10_tower 156 = .ok (.iload 4, 2) := by decide +kernel
theorem dX10_tower_158 : decode cX10_tower 158 = .ok (.aload_n 0, 1) := by decide +kernel
theorem dX10_tower_159 : decode cX10_tower 159 = .ok (.getfield 70, 3) := by decide +kernel
theorem dX10_tower_162 : decode cX10_tower 162 = .ok (.iload_n 3, 1) := by decide +kernel
theorem dX10_tower_163 : decode cX10_tower 163 = .ok (.iaload, 1) := by decide +kernel
theorem dX10_tower_164 : decode cX10_tower 164 = .ok (.if_icmp .le 8, 3) := by decide +kernel
theorem dX10_tower_167 : decode cX10_tower 167 = .ok (.iload 4, 2) := by decide +kernel
theorem dX10_tower_169 : decode cX10_tower 169 = .ok (.goto 9, 3) := by decide +kernel
theorem dX10_tower_172 : decode cX10_tower 172 = .ok (.aload_n 0, 1) := by decide +kernel
theorem dX10_tower_173 : decode cX10_tower 173 = .ok (.getfield 70, 3) := by decide +kernel
theorem dX10_tower_176 : decode cX10_tower 176 = .ok (.iload_n 3, 1) := by decide +kernel
theorem dX10_tower_177 : decode cX10_tower 177 = .ok (.iaload, 1) := by decide +kernel
theorem dX10_tower_178 : decode cX10_tower 178 = .ok (.iastore, 1) := by decide +kernel
theorem dX10_tower_179 : decode cX10_tower 179 = .ok (.aload_n 0, 1) := by decide +kernel
theorem dX10_tower_180 : decode cX10_tower 180 = .ok (.getfield 70, 3) := by decide +kernel
theorem dX10_tower_183 : decode cX10_tower 183 = .ok (.iload_n 3, 1) := by decide +kernel
theorem dX10_tower_184 : decode cX10_tower 184 = .ok (.iaload, 1) := by decide +kernel
theorem dX10_tower_185 : decode cX10_tower 185 = .ok (.iload_n 1, 1) := by decide +kernel
theorem dX10_tower_186 : decode cX10_tower 186 = .ok (.if_icmp .le 12, 3) := by decide +kernel
theorem dX10_tower_189 : decode cX10_tower 189 = .ok (.aload_n 0, 1) := by decide +kernel
theorem dX10_tower_190 : decode cX10_tower 190 = .ok (.getfield 70, 3) := by decide +kernel
theorem dX10_tower_193 : decode cX10_tower 193 = .ok (.iload_n 3, 1) := by decide +kernel
theorem dX10_tower_194 : decode cX10_tower 194 = .ok (.iaload, 1) := by decide +kernel
theorem dX10_tower_195 : decode cX10_tower 195 = .ok (.goto 4, 3) := by decide +kernel
theorem dX10_tower_198 : decode cX10_tower 198 = .ok (.iload_n 1, 1) := by decide +kernel
theorem dX10_tower_199 : decode cX10_tower 199 = .ok (.istore_n 1, 1) := by decide +kernel
theorem dX10_tower_200 : decode cX10_tower 200 = .ok (.iinc 3 1, 3) := by decide +kernel
theorem dX10_tower_203 : decode cX10_tower 203 = .ok (.goto (-160), 3) := by decide +kernel
theorem dX10_tower_206 : decode cX10_tower 206 = .ok (.goto (-171), 3) := by decide +kernel
theorem dX10_tower_209 : decode cX10_tower 209 = .ok (.iload_n 1, 1) := by decide +kernel
theorem dX10_tower_210 : decode cX10_tower 210 = .ok (.ireturn, 1) := by decide +kernel
theorem dX10_side_0 : decode cX10_side 0 = .ok (.aload_n 0, 1) := by decide +kernel
theorem dX10_side_1 : decode cX10_side 1 = .ok (.getfield 49, 3) := by decide +kernel
theorem dX10_side_4 : decode cX10_side 4 = .ok (.bipush 6, 2) := by decide +kernel
theorem dX10_side_6 : decode cX10_side 6 = .ok (.iload_n 1, 1) := by decide +kernel
theorem dX10_side_7 : decode cX10_side 7 = .ok (.imul, 1) := by decide +kernel
theorem dX10_side_8 : decode cX10_side 8 = .ok (.iconst 2, 1) := by decide +kernel
theorem dX10_side_9 : decode cX10_side 9 = .ok (.iadd, 1) := by decide +kernel
theorem dX10_side_10 : decode cX10_side 10 = .ok (.iaload, 1) := by decide +kernel
theorem dX10_side_11 : decode cX10_side 11 = .ok (.aload_n 0, 1) := by decide +kernel
theorem dX10_side_12 : decode cX10_side 12 = .ok (.getfield 49, 3) := by decide +kernel
theorem dX10_side_15 : decode cX10_side 15 = .ok (.bipush 6, 2) := by decide +kernel
theorem dX10_side_17 : decode cX10_side 17 = .ok (.iload_n 1, 1) := by decide +kernel
theorem dX10_side_18 : decode cX10_side 18 = .ok (.imul, 1) := by decide +kernel
theorem dX10_side_19 : decode cX10_side 19 = .ok (.iconst 1, 1) := by decide +kernel
theorem dX10_side_20 : decode cX10_side 20 = .ok (.iadd, 1) := by decide +kernel
theorem dX10_side_21 : decode cX10_side 21 = .ok (.iaload, 1) := by decide +kernel
theorem dX10_side_22 : decode cX10_side 22 = .ok (.isub, 1) := by decide +kernel
theorem dX10_side_23 : decode cX10_side 23 = .ok (.istore_n 3, 1) := by decide +kernel
theorem dX10_side_24 : decode cX10_side 24 = .ok (.aload_n 0, 1) := by decide +kernel
theorem dX10_side_25 : decode cX10_side 25 = .ok (.getfield 49, 3) := by decide +kernel
theorem dX10_side_28 : decode cX10_side 28 = .ok (.bipush 6, 2) := by decide +kernel
theorem dX10_side_30 : decode cX10_side 30 = .ok (.iload_n 1, 1) := by decide +kernel
theorem dX10_side_31 : decode cX10_side 31 = .ok (.imul, 1) := by decide +kernel
theorem dX10_side_32 : decode cX10_side 32 = .ok (.iconst 4, 1) := by decide +kernel
theorem dX10_side_33 : decode cX10_side 33 = .ok (.iadd, 1) := by decide +kernel
theorem dX10_side_34 : decode cX10_side 34 = .ok (.iaload, 1) := by decide +kernel
theorem dX10_side_35 : decode cX10_side 35 = .ok (.aload_n 0, 1) := by decide +kernel
theorem dX10_side_36 : decode cX10_side 36 = .ok (.getfield 49, 3) := by decide +kernel
theorem dX10_side_39 : decode cX10_side 39 = .ok (.bipush 6, 2) := by decide +kernel
theorem dX10_side_41 : decode cX10_side 41 = .ok (.iload_n 1, 1) := by decide +kernel
theorem dX10_side_42 : decode cX10_side 42 = .ok (.imul, 1) := by decide +kernel
theorem dX10_side_43 : decode cX10_side 43 = .ok (.iconst 3, 1) := by decide +kernel
theorem dX10_side_44 : decode cX10_side 44 = .ok (.iadd, 1) := by decide +kernel
theorem dX10_side_45 : decode cX10_side 45 = .ok (.iaload, 1) := by decide +kernel
theorem dX10_side_46 : decode cX10_side 46 = .ok (.isub, 1) := by decide +kernel
theorem dX10_side_47 : decode cX10_side 47 = .ok (.istore 4, 2) := by decide +kernel
theorem dX10_side_49 : decode cX10_side 49 = .ok (.iload_n 3, 1) := by decide +kernel
theorem dX10_side_50 : decode cX10_side 50 = .ok (.iload 4, 2) := by decide +kernel
theorem dX10_side_52 : decode cX10_side 52 = .ok (.if_icmp .le 7, 3) := by decide +kernel
theorem dX10_side_55 : decode cX10_side 55 = .ok (.iconst 1, 1) := by decide +kernel
theorem dX10_side_56 : decode cX10_side 56 = .ok (.goto 4, 3) := by decide +kernel
theorem dX10_side_59 : decode cX10_side 59 = .ok (.iconst 0, 1) := by decide +kernel
theorem dX10_side_60 : decode cX10_side 60 = .ok (.iload_n 2, 1) := by decide +kernel
theorem dX10_side_61 : decode cX10_side 61 = .ok (.if_icmp .ne 7, 3) := by decide +kernel
theorem dX10_side_64 : decode cX10_side 64 = .ok (.iload_n 3, 1) := by decide +kernel
theorem dX10_side_65 : decode cX10_side 65 = .ok (.goto 5, 3) := by decide +kernel
theorem dX10_side_68 : decode cX10_side 68 = .ok (.iload 4, 2) := by decide +kernel
theorem dX10_side_70 : decode cX10_side 70 = .ok (.ireturn, 1) := by decide +kernel
theorem dX10_isOn_0 : decode cX10_isOn 0 = .ok (.iload_n 1, 1) := by decide +kernel
theorem dX10_isOn_1 : decode cX10_isOn 1 = .ok (.iload_n 2, 1) := by decide +kernel
theorem dX10_isOn_2 : decode cX10_isOn 2 = .ok (.if_icmp .eq 47, 3) := by decide +kernel
theorem dX10_isOn_5 : decode cX10_isOn 5 = .ok (.aload_n 0, 1) := by decide +kernel
theorem dX10_isOn_6 : decode cX10_isOn 6 = .ok (.getfield 49, 3) := by decide +kernel
theorem dX10_isOn_9 : decode cX10_isOn 9 = .ok (.bipush 6, 2) := by decide +kernel
theorem dX10_isOn_11 : decode cX10_isOn 11 = .ok (.iload_n 2, 1) := by decide +kernel
theorem dX10_isOn_12 : decode cX10_isOn 12 = .ok (.imul, 1) := by decide +kernel
theorem dX10_isOn_13 : decode cX10_isOn 13 = .ok (.iconst 5, 1) := by decide +kernel
theorem dX10_isOn_14 : decode cX10_isOn 14 = .ok (.iadd, 1) := by decide +kernel
theorem dX10_isOn_15 : decode cX10_isOn 15 = .ok (.iaload, 1) := by decide +kernel
theorem dX10_isOn_16 : decode cX10_isOn 16 = .ok (.ifCond .eq 33, 3) := by decide +kernel
theorem dX10_isOn_19 : decode cX10_isOn 19 = .ok (.aload_n 0, 1) := by decide +kernel
theorem dX10_isOn_20 : decode cX10_isOn 20 = .ok (.iload_n 1, 1) := by decide +kernel
theorem dX10_isOn_21 : decode cX10_isOn 21 = .ok (.iconst 1, 1) := by decide +kernel
theorem dX10_isOn_22 : decode cX10_isOn 22 = .ok (.invokevirtual 312, 3) := by decide +kernel
theorem dX10_isOn_25 : decode cX10_isOn 25 = .ok (.aload_n 0, 1) := by decide +kernel
theorem dX10_isOn_26 : decode cX10_isOn 26 = .ok (.iload_n 2, 1) := by decide +kernel
theorem dX10_isOn_27 : decode cX10_isOn 27 = .ok (.iconst 1, 1) := by decide +kernel
theorem dX10_isOn_28 : decode cX10_isOn 28 = .ok (.invokevirtual 312, 3) := by decide +kernel
theorem dX10_isOn_31 : decode cX10_isOn 31 = .ok (.if_icmp .gt 18, 3) := by decide +kernel
theorem dX10_isOn_34 : decode cX10_isOn 34 = .ok (.aload_n 0, 1) := by decide +kernel
theorem dX10_isOn_35 : decode cX10_isOn 35 = .ok (.iload_n 1, 1) := by decide +kernel
theorem dX10_isOn_36 : decode cX10_isOn 36 = .ok (.iconst 0, 1) := by decide +kernel
theorem dX10_isOn_37 : decode cX10_isOn 37 = .ok (.invokevirtual 312, 3) := by decide +kernel
theorem dX10_isOn_40 : decode cX10_isOn 40 = .ok (.aload_n 0, 1) := by decide +kernel
theorem dX10_isOn_41 : decode cX10_isOn 41 = .ok (.iload_n 2, 1) := by decide +kernel
theorem dX10_isOn_42 : decode cX10_isOn 42 = .ok (.iconst 0, 1) := by decide +kernel
theorem dX10_isOn_43 : decode cX10_isOn 43 = .ok (.invokevirtual 312, 3) := by decide +kernel
theorem dX10_isOn_46 : decode cX10_isOn 46 = .ok (.if_icmp .le 5, 3) := by decide +kernel
theorem dX10_isOn_49 : decode cX10_isOn 49 = .ok (.iconst 0, 1) := by decide +kernel
theorem dX10_isOn_50 : decode cX10_isOn 50 = .ok (.ireturn, 1) := by decide +kernel
theorem dX10_isOn_51 : decode cX10_isOn 51 = .ok (.aload_n 0, 1) := by decide +kernel
theorem dX10_isOn_52 : decode cX10_isOn 52 = .ok (.iload_n 1, 1) := by decide +kernel
theorem dX10_isOn_53 : decode cX10_isOn 53 = .ok (.iconst 1, 1) := by decide +kernel
theorem dX10_isOn_54 : decode cX10_isOn 54 = .ok (.invokevirtual 312, 3) := by decide +kernel
theorem dX10_isOn_57 : decode cX10_isOn 57 = .ok (.aload_n 0, 1) := by decide +kernel
theorem dX10_isOn_58 : decode cX10_isOn 58 = .ok (.iload_n 2, 1) := by decide +kernel
theorem dX10_isOn_59 : decode cX10_isOn 59 = .ok (.iconst 1, 1) := by decide +kernel
theorem dX10_isOn_60 : decode cX10_isOn 60 = .ok (.invokevirtual 312, 3) := by decide +kernel
theorem dX10_isOn_63 : decode cX10_isOn 63 = .ok (.if_icmp .lt 23, 3) := by decide +kernel
theorem dX10_isOn_66 : decode cX10_isOn 66 = .ok (.aload_n 0, 1) := by decide +kernel
theorem dX10_isOn_67 : decode cX10_isOn 67 = .ok (.iload_n 1, 1) := by decide +kernel
theorem dX10_isOn_68 : decode cX10_isOn 68 = .ok (.iconst 0, 1) := by decide +kernel
theorem dX10_isOn_69 : decode cX10_isOn 69 = .ok (.invokevirtual 312, 3) := by decide +kernel
theorem dX10_isOn_72 : decode cX10_isOn 72 = .ok (.aload_n 0, 1) := by decide +kernel
theorem dX10_isOn_73 : decode cX10_isOn 73 = .ok (.iload_n 2, 1) := by decide +kernel
theorem dX10_isOn_74 : decode cX10_isOn 74 = .ok (.iconst 0, 1) := by decide +kernel
theorem dX10_isOn_75 : decode cX10_isOn 75 = .ok (.invokevirtual 312, 3) := by decide +kernel
theorem dX10_isOn_78 : decode cX10_isOn 78 = .ok (.if_icmp .lt 8, 3) := by decide +kernel
theorem dX10_isOn_81 : decode cX10_isOn 81 = .ok (.iload_n 1, 1) := by decide +kernel
theorem dX10_isOn_82 : decode cX10_isOn 82 = .ok (.iload_n 2, 1) := by decide +kernel
theorem dX10_isOn_83 : decode cX10_isOn 83 = .ok (.if_icmp .ge 7, 3) := by decide +kernel
theorem dX10_isOn_86 : decode cX10_isOn 86 = .ok (.iconst 1, 1) := by decide +kernel
theorem dX10_isOn_87 : decode cX10_isOn 87 = .ok (.goto 4, 3) := by decide +kernel
theorem dX10_isOn_90 : decode cX10_isOn 90 = .ok (.iconst 0, 1) := by decide +kernel
theorem dX10_isOn_91 : decode cX10_isOn 91 = .ok (.ireturn, 1) := by decide +kernel
theorem dX10_face_0 : decode cX10_face 0 = .ok (.aload_n 0, 1) := by decide +kernel
theorem dX10_face_1 : decode cX10_face 1 = .ok (.iconst 0, 1) := by decide +kernel
theorem dX10_face_2 : decode cX10_face 2 = .ok (.putfield 76, 3) := by decide +kernel
theorem dX10_face_5 : decode cX10_face 5 = .ok (.aload_n 0, 1) := by decide +kernel
theorem dX10_face_6 : decode cX10_face 6 = .ok (.aload_n 0, 1) := by decide +kernel
theorem dX10_face_7 : decode cX10_face 7 = .ok (.iload_n 1, 1) := by decide +kernel
theorem dX10_face_8 : decode cX10_face 8 = .ok (.invokevirtual 177, 3) := by decide +kernel
theorem dX10_face_11 : decode cX10_face 11 = .ok (.ifCond .ne 7, 3) := by decide +kernel
theorem dX10_face_14 : decode cX10_face 14 = .ok (.iconst 1, 1) := by decide +kernel
theorem dX10_face_15 : decode cX10_face 15 = .ok (.goto 4, 3) := by decide +kernel
theorem dX10_face_18 : decode cX10_face 18 = .ok (.iconst 0, 1) := by decide +kernel
theorem dX10_face_19 : decode cX10_face 19 = .ok (.iconst 1, 1) := by decide +kernel
theorem dX10_face_20 : decode cX10_face 20 = .ok (.invokevirtual 148, 3) := by decide +kernel
theorem dX10_face_23 : decode cX10_face 23 = .ok (.ifCond .eq 5, 3) := by decide +kernel
theorem dX10_face_26 : decode cX10_face 26 = .ok (.iconst 0, 1) := by decide +kernel
theorem dX10_face_27 : decode cX10_face 27 = .ok (.ireturn, 1) := by decide +kernel
theorem dX10_face_28 : decode cX10_face 28 = .ok (.iconst 0, 1) := by decide +kernel
theorem dX10_face_29 : decode cX10_face 29 = .ok (.istore_n 2, 1) := by decide +kernel
theorem dX10_face_30 : decode cX10_face 30 = .ok (.iconst 0, 1) := by decide +kernel
theorem dX10_face_31 : decode cX10_face 31 = .ok (.istore_n 3, 1) := by decide +kernel
theorem dX10_face_32 : decode cX10_face 32 = .ok (.iload_n 3, 1) := by decide +kernel
theorem dX10_face_33 : decode cX10_face 33 = .ok (.aload_n 0, 1) := by decide +kernel
theorem dX10_face_34 : decode cX10_face 34 = .ok (.getfield 49, 3) := by decide +kernel
theorem dX10_face_37 : decode cX10_face 37 = .ok (.sipush 155, 3) := by decide +kernel
theorem dX10_face_40 : decode cX10_face 40 = .ok (.iaload, 1) := by decide +kernel
theorem dX10_face_41 : decode cX10_face 41 = .ok (.if_icmp .ge 33, 3) := by decide +kernel
theorem dX10_face_44 : decode cX10_face 44 = .ok (.iload_n 2, 1) := by decide +kernel
theorem dX10_face_45 : decode cX10_face 45 = .ok (.aload_n 0, 1) := by decide +kernel
theorem dX10_face_46 : decode cX10_face 46 = .ok (.getfield 58, 3) := by decide +kernel
theorem dX10_face_49 : decode cX10_face 49 = .ok (.iload_n 3, 1) := by decide +kernel
theorem dX10_face_50 : decode cX10_face 50 = .ok (.iaload, 1) := by decide +kernel
theorem dX10_face_51 : decode cX10_face 51 = .ok (.aload_n 0, 1) := by decide +kernel
theorem dX10_face_52 : decode cX10_face 52 = .ok (.iload_n 1, 1) := by decide +kernel
theorem dX10_face_53 : decode cX10_face 53 = .ok (.invokevirtual 180, 3) := by decide +kernel
theorem dX10_face_56 : decode cX10_face 56 = .ok (.if_icmp .lt 9, 3) := by decide +kernel
theorem dX10_face_59 : decode cX10_face 59 = .ok (.iconst 1, 1) := by decide +kernel
theorem dX10_face_60 : decode cX10_face 60 = .ok (.iload_n 3, 1) := by decide +kernel
theorem dX10_face_61 : decode cX10_face 61 = .ok (.ishl, 1) := by decide +kernel
theorem dX10_face_62 : decode cX10_face 62 = .ok (.goto 4, 3) := by decide +kernel
theorem dX10_face_65 : decode cX10_face 65 = .ok (.iconst 0, 1) := by decide +kernel
theorem dX10_face_66 : decode cX10_face 66 = .ok (.ior, 1) := by decide +kernel
theorem dX10_face_67 : decode cX10_face 67 = .ok (.istore_n 2, 1) := by decide +kernel
theorem dX10_face_68 : decode cX10_face 68 = .ok (.iinc 3 1, 3) := by decide +kernel
theorem dX10_face_71 : decode cX10_face 71 = .ok (.goto (-39), 3) := by decide +kernel
theorem dX10_face_74 : decode cX10_face 74 = .ok (.iload_n 2, 1) := by decide +kernel
theorem dX10_face_75 : decode cX10_face 75 = .ok (.ireturn, 1) := by decide +kernel
theorem dX10_moves_0 : decode cX10_moves 0 = .ok (.iload_n 3, 1) := by decide +kernel
theorem dX10_moves_1 : decode cX10_moves 1 = .ok (.ifCond .ne 10, 3) := by decide +kernel
theorem dX10_moves_4 : decode cX10_moves 4 = .ok (.aload_n 1, 1) := by decide +kernel
theorem dX10_moves_5 : decode cX10_moves 5 = .ok (.aload_n 0, 1) := by decide +kernel
theorem dX10_moves_6 : decode cX10_moves 6 = .ok (.getfield 316, 3) := by decide +kernel
theorem dX10_moves_9 : decode cX10_moves 9 = .ok (.iload_n 2, 1) := by decide +kernel
theorem dX10_moves_10 : decode cX10_moves 10 = .ok (.iastore, 1) := by decide +kernel
theorem dX10_moves_11 : decode cX10_moves 11 = .ok (.aload_n 0, 1) := by decide +kernel
theorem dX10_moves_12 : decode cX10_moves 12 = .ok (.dup, 1) := by decide +kernel
theorem dX10_moves_13 : decode cX10_moves 13 = .ok (.getfield 316, 3) := by decide +kernel
theorem dX10_moves_16 : decode cX10_moves 16 = .ok (.iconst 1, 1) := by decide +kernel
theorem dX10_moves_17 : decode cX10_moves 17 = .ok (.iadd, 1) := by decide +kernel
theorem dX10_moves_18 : decode cX10_moves 18 = .ok (.putfield 316, 3) := by decide +kernel
theorem dX10_moves_21 : decode cX10_moves 21 = .ok (.aload_n 1, 1) := by decide +kernel
theorem dX10_moves_22 : decode cX10_moves 22 = .ok (.aload_n 0, 1) := by decide +kernel
theorem dX10_moves_23 : decode cX10_moves 23 = .ok (.getfield 316, 3) := by decide +kernel
theorem dX10_moves_26 : decode cX10_moves 26 = .ok (.iconst 1, 1) := by decide +kernel
theorem dX10_moves_27 : decode cX10_moves 27 = .ok (.isub, 1) := by decide +kernel
theorem dX10_moves_28 : decode cX10_moves 28 = .ok (.iaload, 1) := by decide +kernel
theorem dX10_moves_29 : decode cX10_moves 29 = .ok (.ireturn, 1) := by decide +kernel
theorem dX10_movesAll_0 : decode cX10_movesAll 0 = .ok (.aload_n 0, 1) := by decide +kernel
theorem dX10_movesAll_1 : decode cX10_movesAll 1 = .ok (.iconst 0, 1) := by decide +kernel
theorem dX10_movesAll_2 : decode cX10_movesAll 2 = .ok (.putfield 316, 3) := by decide +kernel
theorem dX10_movesAll_5 : decode cX10_movesAll 5 = .ok (.iconst 0, 1) := by decide +kernel
theorem dX10_movesAll_6 : decode cX10_movesAll 6 = .ok (.istore_n 3, 1) := by decide +kernel
theorem dX10_movesAll_7 : decode cX10_movesAll 7 = .ok (.iload_n 3, 1) := by decide +kernel
theorem dX10_movesAll_8 : decode cX10_movesAll 8 = .ok (.sipush 157, 3) := by decide +kernel
theorem dX10_movesAll_11 : decode cX10_movesAll 11 = .ok (.if_icmp .ge 27, 3) := by decide +kernel
theorem dX10_movesAll_14 : decode cX10_movesAll 14 = .ok (.aload_n 0, 1) := by decide +kernel
theorem dX10_movesAll_15 : decode cX10_movesAll 15 = .ok (.getfield 49, 3) := by decide +kernel
theorem dX10_movesAll_18 : decode cX10_movesAll 18 = .ok (.iload_n 3, 1) := by decide +kernel
theorem dX10_movesAll_19 : decode cX10_movesAll 19 = .ok (.aload_n 0, 1) := by decide +kernel
theorem dX10_movesAll_20 : decode cX10_movesAll 20 = .ok (.aload_n 1, 1) := by decide +kernel
theorem dX10_movesAll_21 : decode cX10_movesAll 21 = .ok (.aload_n 0, 1) := by decide +kernel
theorem dX10_movesAll_22 : decode cX10_movesAll 22 = .ok (.getfield 49, 3) := by decide +kernel
theorem dX10_movesAll_25 : decode cX10_movesAll 25 = .ok (.iload_n 3, 1) := by decide +kernel
theorem dX10_movesAll_26 : decode cX10_movesAll 26 = .ok (.iaload, 1) := by decide +kernel
theorem dX10_movesAll_27 : decode cX10_movesAll 27 = .ok (.iload_n 2, 1) := by decide +kernel
theorem dX10_movesAll_28 : decode cX10_movesAll 28 = .ok (.invokevirtual 319, 3) := by decide +kernel
theorem dX10_movesAll_31 : decode cX10_movesAll 31 = .ok (.iastore, 1) := by decide +kernel
theorem dX10_movesAll_32 : decode cX10_movesAll 32 = .ok (.iinc 3 1, 3) := by decide +kernel
theorem dX10_movesAll_35 : decode cX10_movesAll 35 = .ok (.goto (-28), 3) := by decide +kernel
theorem dX10_movesAll_38 : decode cX10_movesAll 38 = .ok (.aload_n 0, 1) := by decide +kernel
theorem dX10_movesAll_39 : decode cX10_movesAll 39 = .ok (.aload_n 0, 1) := by decide +kernel
theorem dX10_movesAll_40 : decode cX10_movesAll 40 = .ok (.aload_n 1, 1) := by decide +kernel
theorem dX10_movesAll_41 : decode cX10_movesAll 41 = .ok (.aload_n 0, 1) := by decide +kernel
theorem dX10_movesAll_42 : decode cX10_movesAll 42 = .ok (.getfield 159, 3) := by decide +kernel
theorem dX10_movesAll_45 : decode cX10_movesAll 45 = .ok (.iload_n 2, 1) := by decide +kernel
theorem dX10_movesAll_46 : decode cX10_movesAll 46 = .ok (.invokevirtual 319, 3) := by decide +kernel
theorem dX10_movesAll_49 : decode cX10_movesAll 49 = .ok (.putfield 159, 3) := by decide +kernel
theorem dX10_movesAll_52 : decode cX10_movesAll 52 = .ok (.aload_n 0, 1) := by decide +kernel
theorem dX10_movesAll_53 : decode cX10_movesAll 53 = .ok (.aload_n 0, 1) := by decide +kernel
theorem dX10_movesAll_54 : decode cX10_movesAll 54 = .ok (.aload_n 1, 1) := by decide +kernel
theorem dX10_movesAll_55 : decode cX10_movesAll 55 = .ok (.aload_n 0, 1) := by decide +kernel
theorem dX10_movesAll_56 : decode cX10_movesAll 56 = .ok (.getfield 162, 3) := by decide +kernel
theorem dX10_movesAll_59 : decode cX10_movesAll 59 = .ok (.iload_n 2, 1) := by decide +kernel
theorem dX10_movesAll_60 : decode cX10_movesAll 60 = .ok (.invokevirtual 319, 3) := by decide +kernel
theorem dX10_movesAll_63 : decode cX10_movesAll 63 = .ok (.putfield 162, 3) := by decide +kernel
theorem dX10_movesAll_66 : decode cX10_movesAll 66 = .ok (.iconst 0, 1) := by decide +kernel
theorem dX10_movesAll_67 : decode cX10_movesAll 67 = .ok (.istore_n 3, 1) := by decide +kernel
theorem dX10_movesAll_68 : decode cX10_movesAll 68 = .ok (.iload_n 3, 1) := by decide +kernel
theorem dX10_movesAll_69 : decode cX10_movesAll 69 = .ok (.bipush 30, 2) := by decide +kernel
theorem dX10_movesAll_71 : decode cX10_movesAll 71 = .ok (.if_icmp .ge 45, 3) := by decide +kernel
theorem dX10_movesAll_74 : decode cX10_movesAll 74 = .ok (.aload_n 0, 1) := by decide +kernel
theorem dX10_movesAll_75 : decode cX10_movesAll 75 = .ok (.getfield 55, 3) := by decide +kernel
theorem dX10_movesAll_78 : decode cX10_movesAll 78 = .ok (.iload_n 3, 1) := by decide +kernel
theorem dX10_movesAll_79 : decode cX10_movesAll 79 = .ok (.aload_n 0, 1) := by decide +kernel
theorem dX10_movesAll_80 : decode cX10_movesAll 80 = .ok (.aload_n 1, 1) := by decide +kernel
theorem dX10_movesAll_81 : decode cX10_movesAll 81 = .ok (.aload_n 0, 1) := by decide +kernel
theorem dX10_movesAll_82 : decode cX10_movesAll 82 = .ok (.getfield 55, 3) := by decide +kernel
theorem dX10_movesAll_85 : decode cX10_movesAll 85 = .ok (.iload_n 3, 1) := by decide +kernel
theorem dX10_movesAll_86 : decode cX10_movesAll 86 = .ok (.iaload, 1) := by decide +kernel
theorem dX10_movesAll_87 : decode cX10_movesAll 87 = .ok (.iload_n 2, 1) := by decide +kernel
theorem dX10_movesAll_88 : decode cX10_movesAll 88 = .ok (.invokevirtual 319, 3) := by decide +kernel
theorem dX10_movesAll_91 : decode cX10_movesAll 91 = .ok (.iastore, 1) := by decide +kernel
theorem dX10_movesAll_92 : decode cX10_movesAll 92 = .ok (.aload_n 0, 1) := by decide +kernel
theorem dX10_movesAll_93 : decode cX10_movesAll 93 = .ok (.getfield 58, 3) := by decide +kernel
theorem dX10_movesAll_96 : decode cX10_movesAll 96 = .ok (.iload_n 3, 1) := by decide +kernel
theorem dX10_movesAll_97 : decode cX10_movesAll 97 = .ok (.aload_n 0, 1) := by decide +kernel
theorem dX10_movesAll_98 : decode cX10_movesAll 98 = .ok (.aload_n 1, 1) := by decide +kernel
theorem dX10_movesAll_99 : decode cX10_movesAll 99 = .ok (.aload_n 0, 1) := by decide +kernel
theorem dX10_movesAll_100 : decode cX10_movesAll 100 = .ok (.getfield 58, 3) := by decide +kernel
theorem dX10_movesAll_103 : decode cX10_movesAll 103 = .ok (.iload_n 3, 1) := by decide +kernel
theorem dX10_movesAll_104 : decode cX10_movesAll 104 = .ok (.iaload, 1) := by decide +kernel
theorem dX10_movesAll_105 : decode cX10_movesAll 105 = .ok (.iload_n 2, 1) := by decide +kernel
theorem dX10_movesAll_106 : decode cX10_movesAll 106 = .ok (.invokevirtual 319, 3) := by decide +kernel
theorem dX10_movesAll_109 : decode cX10_movesAll 109 = .ok (.iastore, 1) := by decide +kernel
theorem dX10_movesAll_110 : decode cX10_movesAll 110 = .ok (.iinc 3 1, 3) := by decide +kernel
theorem dX10_movesAll_113 : decode cX10_movesAll 113 = .ok (.goto (-45), 3) := by decide +kernel
theorem dX10_movesAll_116 : decode cX10_movesAll 116 = .ok (.iconst 0, 1) := by decide +kernel
theorem dX10_movesAll_117 : decode cX10_movesAll 117 = .ok (.istore_n 3, 1) := by decide +kernel
theorem dX10_movesAll_118 : decode cX10_movesAll 118 = .ok (.iload_n 3, 1) := by decide +kernel
theorem dX10_movesAll_119 : decode cX10_movesAll 119 = .ok (.bipush 60, 2) := by decide +kernel
theorem dX10_movesAll_121 : decode cX10_movesAll 121 = .ok (.if_icmp .ge 48, 3) := by decide +kernel
theorem dX10_movesAll_124 : decode cX10_movesAll 124 = .ok (.iconst 0, 1) := by decide +kernel
theorem dX10_movesAll_125 : decode cX10_movesAll 125 = .ok (.istore 4, 2) := by decide +kernel
theorem dX10_movesAll_127 : decode cX10_movesAll 127 = .ok (.iload 4, 2) := by decide +kernel
theorem dX10_movesAll_129 : decode cX10_movesAll 129 = .ok (.iconst 2, 1) := by decide +kernel
theorem dX10_movesAll_130 : decode cX10_movesAll 130 = .ok (.if_icmp .ge 33, 3) := by decide +kernel
theorem dX10_movesAll_133 : decode cX10_movesAll 133 = .ok (.aload_n 0, 1) := by decide +kernel
theorem dX10_movesAll_134 : decode cX10_movesAll 134 = .ok (.getfield 61, 3) := by decide +kernel
theorem dX10_movesAll_137 : decode cX10_movesAll 137 = .ok (.iload_n 3, 1) := by decide +kernel
theorem dX10_movesAll_138 : decode cX10_movesAll 138 = .ok (.aaload, 1) := by decide +kernel
theorem dX10_movesAll_139 : decode cX10_movesAll 139 = .ok (.iload 4, 2) := by decide +kernel
theorem dX10_movesAll_141 : decode cX10_movesAll 141 = .ok (.aload_n 0, 1) := by decide +kernel
theorem dX10_movesAll_142 : decode cX10_movesAll 142 = .ok (.aload_n 1, 1) := by decide +kernel
theorem dX10_movesAll_143 : decode cX10_movesAll 143 = .ok (.aload_n 0, 1) := by decide +kernel
theorem dX10_movesAll_144 : decode cX10_movesAll 144 = .ok (.getfield 61, 3) := by decide +kernel
theorem dX10_movesAll_147 : decode cX10_movesAll 147 = .ok (.iload_n 3, 1) := by decide +kernel
theorem dX10_movesAll_148 : decode cX10_movesAll 148 = .ok (.aaload, 1) := by decide +kernel
theorem dX10_movesAll_149 : decode cX10_movesAll 149 = .ok (.iload 4, 2) := by decide +kernel
theorem dX10_movesAll_151 : decode cX10_movesAll 151 = .ok (.iaload, 1) := by decide +kernel
theorem dX10_movesAll_152 : decode cX10_movesAll 152 = .ok (.iload_n 2, 1) := by decide +kernel
theorem dX10_movesAll_153 : decode cX10_movesAll 153 = .ok (.invokevirtual 319, 3) := by decide +kernel
theorem dX10_movesAll_156 : decode cX10_movesAll 156 = .ok (.iastore, 1) := by decide +kernel
theorem dX10_movesAll_157 : decode cX10_movesAll 157 = .ok (.iinc 4 1, 3) := by decide +kernel
theorem dX10_movesAll_160 : decode cX10_movesAll 160 = .ok (.goto (-33), 3) := by decide +kernel
theorem dX10_movesAll_163 : decode cX10_movesAll 163 = .ok (.iinc 3 1, 3) := by decide +kernel
theorem dX10_movesAll_166 : decode cX10_movesAll 166 = .ok (.goto (-48), 3) := by decide +kernel
theorem dX10_movesAll_169 : decode cX10_movesAll 169 = .ok (.iconst 0, 1) := by decide +kernel
theorem dX10_movesAll_170 : decode cX10_movesAll 170 = .ok (.istore_n 3, 1) := by decide +kernel
theorem dX10_movesAll_171 : decode cX10_movesAll 171 = .ok (.iload_n 3, 1) := by decide +kernel
theorem dX10_movesAll_172 : decode cX10_movesAll 172 = .ok (.bipush 12, 2) := by decide +kernel
theorem dX10_movesAll_174 : decode cX10_movesAll 174 = .ok (.if_icmp .ge 48, 3) := by decide +kernel
theorem dX10_movesAll_177 : decode cX10_movesAll 177 = .ok (.iconst 0, 1) := by decide +kernel
theorem dX10_movesAll_178 : decode cX10_movesAll 178 = .ok (.istore 4, 2) := by decide +kernel
theorem dX10_movesAll_180 : decode cX10_movesAll 180 = .ok (.iload 4, 2) := by decide +kernel
theorem dX10_movesAll_182 : decode cX10_movesAll 182 = .ok (.iconst 4, 1) := by decide +kernel
theorem dX10_movesAll_183 : decode cX10_movesAll 183 = .ok (.if_icmp .ge 33, 3) := by decide +kernel
theorem dX10_movesAll_186 : decode cX10_movesAll 186 = .ok (.aload_n 0, 1) := by decide +kernel
theorem dX10_movesAll_187 : decode cX10_movesAll 187 = .ok (.getfield 64, 3) := by decide +kernel
theorem dX10_movesAll_190 : decode cX10_movesAll 190 = .ok (.iload_n 3, 1) := by decide +kernel
theorem dX10_movesAll_191 : decode cX10_movesAll 191 = .ok (.aaload, 1) := by decide +kernel
theorem dX10_movesAll_192 : decode cX10_movesAll 192 = .ok (.iload 4, 2) := by decide +kernel
theorem dX10_movesAll_194 : decode cX10_movesAll 194 = .ok (.aload_n 0, 1) := by decide +kernel
theorem dX10_movesAll_195 : decode cX10_movesAll 195 = .ok (.aload_n 1, 1) := by decide +kernel
theorem dX10_movesAll_196 : decode cX10_movesAll 196 = .ok (.aload_n 0, 1) := by decide +kernel
theorem dX10_movesAll_197 : decode cX10_movesAll 197 = .ok (.getfield 64, 3) := by decide +kernel
theorem dX10_movesAll_200 : decode cX10_movesAll 200 = .ok (.iload_n 3, 1) := by decide +kernel
theorem dX10_movesAll_201 : decode cX10_movesAll 201 = .ok (.aaload, 1) := by decide +kernel
theorem dX10_movesAll_202 : decode cX10_movesAll 202 = .ok (.iload 4, 2) := by decide +kernel
theorem dX10_movesAll_204 : decode cX10_movesAll 204 = .ok (.iaload, 1) := by decide +kernel
theorem dX10_movesAll_205 : decode cX10_movesAll 205 = .ok (.iload_n 2, 1) := by decide +kernel
theorem dX10_movesAll_206 : decode cX10_movesAll 206 = .ok (.invokevirtual 319, 3) := by decide +kernel
theorem dX10_movesAll_209 : decode cX10_movesAll 209 = .ok (.iastore, 1) := by decide +kernel
theorem dX10_movesAll_210 : decode cX10_movesAll 210 = .ok (.iinc 4 1, 3) := by decide +kernel
theorem dX10_movesAll_213 : decode cX10_movesAll 213 = .ok (.goto (-33), 3) := by decide +kernel
theorem dX10_movesAll_216 : decode cX10_movesAll 216 = .ok (.iinc 3 1, 3) := by decide +kernel
theorem dX10_movesAll_219 : decode cX10_movesAll 219 = .ok (.goto (-48), 3) := by decide +kernel
theorem dX10_movesAll_222 : decode cX10_movesAll 222 = .ok (.return_, 1) := by decide +kernel
theorem dX10_image_0 : decode cX10_image 0 = .ok (.aload_n 0, 1) := by decide +kernel
theorem dX10_image_1 : decode cX10_image 1 = .ok (.iconst 0, 1) := by decide +kernel
theorem dX10_image_2 : decode cX10_image 2 = .ok (.putfield 76, 3) := by decide +kernel
theorem dX10_image_5 : decode cX10_image 5 = .ok (.aload_n 0, 1) := by decide +kernel
theorem dX10_image_6 : decode cX10_image 6 = .ok (.getfield 165, 3) := by decide +kernel
theorem dX10_image_9 : decode cX10_image 9 = .ok (.iconst 3, 1) := by decide +kernel
theorem dX10_image_10 : decode cX10_image 10 = .ok (.if_icmp .ne 5, 3) := by decide +kernel
theorem dX10_image_13 : decode cX10_image 13 = .ok (.iconst (-1), 1) := by decide +kernel
theorem dX10_image_14 : decode cX10_image 14 = .ok (.ireturn, 1) := by decide +kernel
theorem dX10_image_15 : decode cX10_image 15 = .ok (.aload_n 0, 1) := by decide +kernel
theorem dX10_image_16 : decode cX10_image 16 = .ok (.aload_n 0, 1) := by decide +kernel
theorem dX10_image_17 : decode cX10_image 17 = .ok (.getfield 67, 3) := by decide +kernel
theorem dX10_image_20 : decode cX10_image 20 = .ok (.aload_n 0, 1) := by decide +kernel
theorem dX10_image_21 : decode cX10_image 21 = .ok (.getfield 165, 3) := by decide +kernel
theorem dX10_image_24 : decode cX10_image 24 = .ok (.aaload, 1) := by decide +kernel
theorem dX10_image_25 : decode cX10_image 25 = .ok (.iconst 0, 1) := by decide +kernel
theorem dX10_image_26 : decode cX10_image 26 = .ok (.invokevirtual 323, 3) := by decide +kernel
theorem dX10_image_29 : decode cX10_image 29 = .ok (.aload_n 0, 1) := by decide +kernel
theorem dX10_image_30 : decode cX10_image 30 = .ok (.dup, 1) := by decide +kernel
theorem dX10_image_31 : decode cX10_image 31 = .ok (.getfield 165, 3) := by decide +kernel
theorem dX10_image_34 : decode cX10_image 34 = .ok (.iconst 1, 1) := by decide +kernel
theorem dX10_image_35 : decode cX10_image 35 = .ok (.iadd, 1) := by decide +kernel
theorem dX10_image_36 : decode cX10_image 36 = .ok (.putfield 165, 3) := by decide +kernel
theorem dX10_image_39 : decode cX10_image 39 = .ok (.aload_n 0, 1) := by decide +kernel
theorem dX10_image_40 : decode cX10_image 40 = .ok (.getfield 165, 3) := by decide +kernel
theorem dX10_image_43 : decode cX10_image 43 = .ok (.ireturn, 1) := by decide +kernel
theorem dX10_restore_0 : decode cX10_restore 0 = .ok (.aload_n 0, 1) := by decide +kernel
theorem dX10_restore_1 : decode cX10_restore 1 = .ok (.iconst 0, 1) := by decide +kernel
theorem dX10_restore_2 : decode cX10_restore 2 = .ok (.putfield 76, 3) := by decide +kernel
theorem dX10_restore_5 : decode cX10_restore 5 = .ok (.aload_n 0, 1) := by decide +kernel
theorem dX10_restore_6 : decode cX10_restore 6 = .ok (.getfield 165, 3) := by decide +kernel
theorem dX10_restore_9 : decode cX10_restore 9 = .ok (.ifCond .ne 5, 3) := by decide +kernel
theorem dX10_restore_12 : decode cX10_restore 12 = .ok (.iconst (-1), 1) := by decide +kernel
theorem dX10_restore_13 : decode cX10_restore 13 = .ok (.ireturn, 1) := by decide +kernel
theorem dX10_restore_14 : decode cX10_restore 14 = .ok (.aload_n 0, 1) := by decide +kernel
theorem dX10_restore_15 : decode cX10_restore 15 = .ok (.dup, 1) := by decide +kernel
theorem dX10_restore_16 : decode cX10_restore 16 = .ok (.getfield 165, 3) := by decide +kernel
theorem dX10_restore_19 : decode cX10_restore 19 = .ok (.iconst 1, 1) := by decide +kernel
theorem dX10_restore_20 : decode cX10_restore 20 = .ok (.isub, 1) := by decide +kernel
theorem dX10_restore_21 : decode cX10_restore 21 = .ok (.putfield 165, 3) := by decide +kernel
theorem dX10_restore_24 : decode cX10_restore 24 = .ok (.aload_n 0, 1) := by decide +kernel
theorem dX10_restore_25 : decode cX10_restore 25 = .ok (.aload_n 0, 1) := by decide +kernel
theorem dX10_restore_26 : decode cX10_restore 26 = .ok (.getfield 67, 3) := by decide +kernel
theorem dX10_restore_29 : decode cX10_restore 29 = .ok (.aload_n 0, 1) := by decide +kernel
theorem dX10_restore_30 : decode cX10_restore 30 = .ok (.getfield 165, 3) := by decide +kernel
theorem dX10_restore_33 : decode cX10_restore 33 = .ok (.aaload, 1) := by decide +kernel
theorem dX10_restore_34 : decode cX10_restore 34 = .ok (.iconst 1, 1) := by decide +kernel
theorem dX10_restore_35 : decode cX10_restore 35 = .ok (.invokevirtual 323, 3) := by decide +kernel
theorem dX10_restore_38 : decode cX10_restore 38 = .ok (.aload_n 0, 1) := by decide +kernel
theorem dX10_restore_39 : decode cX10_restore 39 = .ok (.getfield 165, 3) := by decide +kernel
theorem dX10_restore_42 : decode cX10_restore 42 = .ok (.ireturn, 1) := by decide +kernel
theorem dX10_count_0 : decode cX10_count 0 = .ok (.aload_n 0, 1) := by decide +kernel
theorem dX10_count_1 : decode cX10_count 1 = .ok (.iconst 0, 1) := by decide +kernel
theorem dX10_count_2 : decode cX10_count 2 = .ok (.putfield 76, 3) := by decide +kernel
theorem dX10_count_5 : decode cX10_count 5 = .ok (.iload_n 1, 1) := by decide +kernel
theorem dX10_count_6 : decode cX10_count 6 = .ok (.tableswitch 50 0 3 #[30, 35, 40, 45], 30) := by decide +kernel
theorem dX10_count_36 : decode cX10_count 36 = .ok (.aload_n 0, 1) := by decide +kernel
theorem dX10_count_37 : decode cX10_count 37 = .ok (.getfield 159, 3) := by decide +kernel
theorem dX10_count_40 : decode cX10_count 40 = .ok (.ireturn, 1) := by decide +kernel
theorem dX10_count_41 : decode cX10_count 41 = .ok (.aload_n 0, 1) := by decide +kernel
theorem dX10_count_42 : decode cX10_count 42 = .ok (.getfield 162, 3) := by decide +kernel
theorem dX10_count_45 : decode cX10_count 45 = .ok (.ireturn, 1) := by decide +kernel
theorem dX10_count_46 : decode cX10_count 46 = .ok (.aload_n 0, 1) := by decide +kernel
theorem dX10_count_47 : decode cX10_count 47 = .ok (.getfield 165, 3) := by decide +kernel
theorem dX10_count_50 : decode cX10_count 50 = .ok (.ireturn, 1) := by decide +kernel
theorem dX10_count_51 : decode cX10_count 51 = .ok (.aload_n 0, 1) := by decide +kernel
theorem dX10_count_52 : decode cX10_count 52 = .ok (.getfield 79, 3) := by decide +kernel
theorem dX10_count_55 : decode cX10_count 55 = .ok (.ireturn, 1) := by decide +kernel
theorem dX10_count_56 : decode cX10_count 56 = .ok (.iconst (-1), 1) := by decide +kernel
theorem dX10_count_57 : decode cX10_count 57 = .ok (.ireturn, 1) := by decide +kernel
theorem dJ6_bitCount_0f7a4_0 : decode cJ6_bitCount_0f7a4 0 = .ok (.iload_n 0, 1) := by decide +kernel
theorem dJ6_bitCount_0f7a4_1 : decode cJ6_bitCount_0f7a4 1 = .ok (.iload_n 0, 1) := by decide +kernel
theorem dJ6_bitCount_0f7a4_2 : decode cJ6_bitCount_0f7a4 2 = .ok (.iconst 1, 1) := by decide +kernel
theorem dJ6_bitCount_0f7a4_3 : decode cJ6_bitCount_0f7a4 3 = .ok (.iushr, 1) := by decide +kernel
theorem dJ6_bitCount_0f7a4_4 : decode cJ6_bitCount_0f7a4 4 = .ok (.ldc_w 265, 3) := by decide +kernel
theorem dJ6_bitCount_0f7a4_7 : decode cJ6_bitCount_0f7a4 7 = .ok (.iand, 1) := by decide +kernel
theorem dJ6_bitCount_0f7a4_8 : decode cJ6_bitCount_0f7a4 8 = .ok (.isub, 1) := by decide +kernel
theorem dJ6_bitCount_0f7a4_9 : decode cJ6_bitCount_0f7a4 9 = .ok (.istore_n 0, 1) := by decide +kernel
theorem dJ6_bitCount_0f7a4_10 : decode cJ6_bitCount_0f7a4 10 = .ok (.iload_n 0, 1) := by decide +kernel
theorem dJ6_bitCount_0f7a4_11 : decode cJ6_bitCount_0f7a4 11 = .ok (.ldc_w 266, 3) := by decide +kernel
theorem dJ6_bitCount_0f7a4_14 : decode cJ6_bitCount_0f7a4 14 = .ok (.iand, 1) := by decide +kernel
theorem dJ6_bitCount_0f7a4_15 : decode cJ6_bitCount_0f7a4 15 = .ok (.iload_n 0, 1) := by decide +kernel
theorem dJ6_bitCount_0f7a4_16 : decode cJ6_bitCount_0f7a4 16 = .ok (.iconst 2, 1) := by decide +kernel
theorem dJ6_bitCount_0f7a4_17 : decode cJ6_bitCount_0f7a4 17 = .ok (.iushr, 1) := by decide +kernel
theorem dJ6_bitCount_0f7a4_18 : decode cJ6_bitCount_0f7a4 18 = .ok (.ldc_w 266, 3) := by decide +kernel
theorem dJ6_bitCount_0f7a4_21 : decode cJ6_bitCount_0f7a4 21 = .ok (.iand, 1) := by decide +kernel
theorem dJ6_bitCount_0f7a4_22 : decode cJ6_bitCount_0f7a4 22 = .ok (.iadd, 1) := by decide +kernel
theorem dJ6_bitCount_0f7a4_23 : decode cJ6_bitCount_0f7a4 23 = .ok (.istore_n 0, 1) := by decide +kernel
theorem dJ6_bitCount_0f7a4_24 : decode cJ6_bitCount_0f7a4 24 = .ok (.iload_n 0, 1) := by decide +kernel
theorem dJ6_bitCount_0f7a4_25 : decode cJ6_bitCount_0f7a4 25 = .ok (.iload_n 0, 1) := by decide +kernel
theorem dJ6_bitCount_0f7a4_26 : decode cJ6_bitCount_0f7a4 26 = .ok (.iconst 4, 1) := by decide +kernel
theorem dJ6_bitCount_0f7a4_27 : decode cJ6_bitCount_0f7a4 27 = .ok (.iushr, 1) := by decide +kernel
theorem dJ6_bitCount_0f7a4_28 : decode cJ6_bitCount_0f7a4 28 = .ok (.iadd, 1) := by decide +kernel
theorem dJ6_bitCount_0f7a4_29 : decode cJ6_bitCount_0f7a4 29 = .ok (.ldc_w 267, 3) := by decide +kernel
theorem dJ6_bitCount_0f7a4_32 : decode cJ6_bitCount_0f7a4 32 = .ok (.iand, 1) := by decide +kernel
theorem dJ6_bitCount_0f7a4_33 : decode cJ6_bitCount_0f7a4 33 = .ok (.istore_n 0, 1) := by decide +kernel
theorem dJ6_bitCount_0f7a4_34 : decode cJ6_bitCount_0f7a4 34 = .ok (.iload_n 0, 1) := by decide +kernel
theorem dJ6_bitCount_0f7a4_35 : decode cJ6_bitCount_0f7a4 35 = .ok (.iload_n 0, 1) := by decide +kernel
theorem dJ6_bitCount_0f7a4_36 : decode cJ6_bitCount_0f7a4 36 = .ok (.bipush 8, 2) := by decide +kernel
theorem dJ6_bitCount_0f7a4_38 : decode cJ6_bitCount_0f7a4 38 = .ok (.iushr, 1) := by decide +kernel
theorem dJ6_bitCount_0f7a4_39 : decode cJ6_bitCount_0f7a4 39 = .ok (.iadd, 1) := by decide +kernel
theorem dJ6_bitCount_0f7a4_40 : decode cJ6_bitCount_0f7a4 40 = .ok (.istore_n 0, 1) := by decide +kernel
theorem dJ6_bitCount_0f7a4_41 : decode cJ6_bitCount_0f7a4 41 = .ok (.iload_n 0, 1) := by decide +kernel
theorem dJ6_bitCount_0f7a4_42 : decode cJ6_bitCount_0f7a4 42 = .ok (.iload_n 0, 1) := by decide +kernel
theorem dJ6_bitCount_0f7a4_43 : decode cJ6_bitCount_0f7a4 43 = .ok (.bipush 16, 2) := by decide +kernel
theorem dJ6_bitCount_0f7a4_45 : decode cJ6_bitCount_0f7a4 45 = .ok (.iushr, 1) := by decide +kernel
theorem dJ6_bitCount_0f7a4_46 : decode cJ6_bitCount_0f7a4 46 = .ok (.iadd, 1) := by decide +kernel
theorem dJ6_bitCount_0f7a4_47 : decode cJ6_bitCount_0f7a4 47 = .ok (.istore_n 0, 1) := by decide +kernel
theorem dJ6_bitCount_0f7a4_48 : decode cJ6_bitCount_0f7a4 48 = .ok (.iload_n 0, 1) := by decide +kernel
theorem dJ6_bitCount_0f7a4_49 : decode cJ6_bitCount_0f7a4 49 = .ok (.bipush 63, 2) := by decide +kernel
theorem dJ6_bitCount_0f7a4_51 : decode cJ6_bitCount_0f7a4 51 = .ok (.iand, 1) := by decide +kernel
theorem dJ6_bitCount_0f7a4_52 : decode cJ6_bitCount_0f7a4 52 = .ok (.ireturn, 1) := by decide +kernel
theorem dJ9_max_7cf53_0 : decode cJ9_max_7cf53 0 = .ok (.iload_n 0, 1) := by decide +kernel
theorem dJ9_max_7cf53_1 : decode cJ9_max_7cf53 1 = .ok (.iload_n 1, 1) := by decide +kernel
theorem dJ9_max_7cf53_2 : decode cJ9_max_7cf53 2 = .ok (.if_icmp .lt 7, 3) := by decide +kernel
theorem dJ9_max_7cf53_5 : decode cJ9_max_7cf53 5 = .ok (.iload_n 0, 1) := by decide +kernel
theorem dJ9_max_7cf53_6 : decode cJ9_max_7cf53 6 = .ok (.goto 4, 3) := by decide +kernel
theorem dJ9_max_7cf53_9 : decode cJ9_max_7cf53 9 = .ok (.iload_n 1, 1) := by decide +kernel
theorem dJ9_max_7cf53_10 : decode cJ9_max_7cf53 10 = .ok (.ireturn, 1) := by decide +kernel
theorem dJ9_min_7cf53_0 : decode cJ9_min_7cf53 0 = .ok (.iload_n 0, 1) := by decide +kernel
theorem dJ9_min_7cf53_1 : decode cJ9_min_7cf53 1 = .ok (.iload_n 1, 1) := by decide +kernel
theorem dJ9_min_7cf53_2 : decode cJ9_min_7cf53 2 = .ok (.if_icmp .gt 7, 3) := by decide +kernel
theorem dJ9_min_7cf53_5 : decode cJ9_min_7cf53 5 = .ok (.iload_n 0, 1) := by decide +kernel
theorem dJ9_min_7cf53_6 : decode cJ9_min_7cf53 6 = .ok (.goto 4, 3) := by decide +kernel
theorem dJ9_min_7cf53_9 : decode cJ9_min_7cf53 9 = .ok (.iload_n 1, 1) := by decide +kernel
theorem dJ9_min_7cf53_10 : decode cJ9_min_7cf53 10 = .ok (.ireturn, 1) := by decide +kernel
theorem dJ0_length_8abf5_0 : decode cJ0_length_8abf5 0 = .ok (.aload_n 0, 1) := by decide +kernel
theorem dJ0_length_8abf5_1 : decode cJ0_length_8abf5 1 = .ok (.getfield 9, 3) := by decide +kernel
theorem dJ0_length_8abf5_4 : decode cJ0_length_8abf5 4 = .ok (.arraylength, 1) := by decide +kernel
theorem dJ0_length_8abf5_5 : decode cJ0_length_8abf5 5 = .ok (.aload_n 0, 1) := by decide +kernel
theorem dJ0_length_8abf5_6 : decode cJ0_length_8abf5 6 = .ok (.invokevirtual 335, 3) := by decide +kernel
theorem dJ0_length_8abf5_9 : decode cJ0_length_8abf5 9 = .ok (.ishr, 1) := by decide +kernel
theorem dJ0_length_8abf5_10 : decode cJ0_length_8abf5 10 = .ok (.ireturn, 1) := by decide +kernel
theorem dJ0_charAt_5068e_0 : decode cJ0_charAt_5068e 0 = .ok (.aload_n 0, 1) := by decide +kernel
theorem dJ0_charAt_5068e_1 : decode cJ0_charAt_5068e 1 = .ok (.invokevirtual 492, 3) := by decide +kernel
theorem dJ0_charAt_5068e_4 : decode cJ0_charAt_5068e 4 = .ok (.ifCond .eq 12, 3) := by decide +kernel
theorem dJ0_charAt_5068e_7 : decode cJ0_charAt_5068e 7 = .ok (.aload_n 0, 1) := by decide +kernel
theorem dJ0_charAt_5068e_8 : decode cJ0_charAt_5068e 8 = .ok (.getfield 9, 3) := by decide +kernel
theorem dJ0_charAt_5068e_11 : decode cJ0_charAt_5068e 11 = .ok (.iload_n 1, 1) := by decide +kernel
theorem dJ0_charAt_5068e_12 : decode cJ0_charAt_5068e 12 = .ok (.invokestatic 495, 3) := by decide +kernel
theorem dJ0_charAt_5068e_15 : decode cJ0_charAt_5068e 15 = .ok (.ireturn, 1) := by decide +kernel
theorem dJ0_charAt_5068e_16 : decode cJ0_charAt_5068e 16 = .ok (.aload_n 0, 1) := by decide +kernel
theorem dJ0_charAt_5068e_17 : decode cJ0_charAt_5068e 17 = .ok (.getfield 9, 3) := by decide +kernel
theorem dJ0_charAt_5068e_20 : decode cJ0_charAt_5068e 20 = .ok (.iload_n 1, 1) := by decide +kernel
theorem dJ0_charAt_5068e_21 : decode cJ0_charAt_5068e 21 = .ok (.invokestatic 498, 3) := by decide +kernel
theorem dJ0_charAt_5068e_24 : decode cJ0_charAt_5068e 24 = .ok (.ireturn, 1) := by decide +kernel
theorem dJ0_coder_7d493_0 : decode cJ0_coder_7d493 0 = .ok (.getstatic 38, 3) := by decide +kernel
theorem dJ0_coder_7d493_3 : decode cJ0_coder_7d493 3 = .ok (.ifCond .eq 10, 3) := by decide +kernel
theorem dJ0_coder_7d493_6 : decode cJ0_coder_7d493 6 = .ok (.aload_n 0, 1) := by decide +kernel
theorem dJ0_coder_7d493_7 : decode cJ0_coder_7d493 7 = .ok (.getfield 15, 3) := by decide +kernel
theorem dJ0_coder_7d493_10 : decode cJ0_coder_7d493 10 = .ok (.goto 4, 3) := by decide +kernel
theorem dJ0_coder_7d493_13 : decode cJ0_coder_7d493 13 = .ok (.iconst 1, 1) := by decide +kernel
theorem dJ0_coder_7d493_14 : decode cJ0_coder_7d493 14 = .ok (.ireturn, 1) := by decide +kernel
theorem dJ0_isLatin1_aae02_0 : decode cJ0_isLatin1_aae02 0 = .ok (.getstatic 38, 3) := by decide +kernel
theorem dJ0_isLatin1_aae02_3 : decode cJ0_isLatin1_aae02 3 = .ok (.ifCond .eq 14, 3) := by decide +kernel
theorem dJ0_isLatin1_aae02_6 : decode cJ0_isLatin1_aae02 6 = .ok (.aload_n 0, 1) := by decide +kernel
theorem dJ0_isLatin1_aae02_7 : decode cJ0_isLatin1_aae02 7 = .ok (.getfield 15, 3) := by decide +kernel
theorem dJ0_isLatin1_aae02_10 : decode cJ0_isLatin1_aae02 10 = .ok (.ifCond .ne 7, 3) := by decide +kernel
theorem dJ0_isLatin1_aae02_13 : decode cJ0_isLatin1_aae02 13 = .ok (.iconst 1, 1) := by decide +kernel
theorem dJ0_isLatin1_aae02_14 : decode cJ0_isLatin1_aae02 14 = .ok (.goto 4, 3) := by decide +kernel
theorem dJ0_isLatin1_aae02_17 : decode cJ0_isLatin1_aae02 17 = .ok (.iconst 0, 1) := by decide +kernel
theorem dJ0_isLatin1_aae02_18 : decode cJ0_isLatin1_aae02 18 = .ok (.ireturn, 1) := by decide +kernel
theorem dJ0_checkIndex_df160_0 : decode cJ0_checkIndex_df160 0 = .ok (.iload_n 0, 1) := by decide +kernel
theorem dJ0_checkIndex_df160_1 : decode cJ0_checkIndex_df160 1 = .ok (.iload_n 1, 1) := by decide +kernel
theorem dJ0_checkIndex_df160_2 : decode cJ0_checkIndex_df160 2 = .ok (.getstatic 1053, 3) := by decide +kernel
theorem dJ0_checkIndex_df160_5 : decode cJ0_checkIndex_df160 5 = .ok (.invokestatic 1059, 3) := by decide +kernel
theorem dJ0_checkIndex_df160_8 : decode cJ0_checkIndex_df160 8 = .ok (.pop, 1) := by decide +kernel
theorem dJ0_checkIndex_df160_9 : decode cJ0_checkIndex_df160 9 = .ok (.return_, 1) := by decide +kernel
theorem dJ1_charAt_3b067_0 : decode cJ1_charAt_3b067 0 = .ok (.iload_n 1, 1) := by decide +kernel
theorem dJ1_charAt_3b067_1 : decode cJ1_charAt_3b067 1 = .ok (.aload_n 0, 1) := by decide +kernel
theorem dJ1_charAt_3b067_2 : decode cJ1_charAt_3b067 2 = .ok (.arraylength, 1) := by decide +kernel
theorem dJ1_charAt_3b067_3 : decode cJ1_charAt_3b067 3 = .ok (.invokestatic 9, 3) := by decide +kernel
theorem dJ1_charAt_3b067_6 : decode cJ1_charAt_3b067 6 = .ok (.aload_n 0, 1) := by decide +kernel
theorem dJ1_charAt_3b067_7 : decode cJ1_charAt_3b067 7 = .ok (.iload_n 1, 1) := by decide +kernel
theorem dJ1_charAt_3b067_8 : decode cJ1_charAt_3b067 8 = .ok (.baload, 1) := by decide +kernel
theorem dJ1_charAt_3b067_9 : decode cJ1_charAt_3b067 9 = .ok (.sipush 255, 3) := by decide +kernel
theorem dJ1_charAt_3b067_12 : decode cJ1_charAt_3b067 12 = .ok (.iand, 1) := by decide +kernel
theorem dJ1_charAt_3b067_13 : decode cJ1_charAt_3b067 13 = .ok (.i2c, 1) := by decide +kernel
theorem dJ1_charAt_3b067_14 : decode cJ1_charAt_3b067 14 = .ok (.ireturn, 1) := by decide +kernel
theorem dJ2_getChar_3b067_0 : decode cJ2_getChar_3b067 0 = .ok (.getstatic 44, 3) := by decide +kernel
theorem dJ2_getChar_3b067_3 : decode cJ2_getChar_3b067 3 = .ok (.ifCond .ne 25, 3) := by decide +kernel
theorem dJ2_getChar_3b067_6 : decode cJ2_getChar_3b067 6 = .ok (.iload_n 1, 1) := by decide +kernel
theorem dJ2_getChar_3b067_7 : decode cJ2_getChar_3b067 7 = .ok (.ifCond .lt 11, 3) := by decide +kernel
theorem dJ2_getChar_3b067_10 : decode cJ2_getChar_3b067 10 = .ok (.iload_n 1, 1) := by decide +kernel
theorem dJ2_getChar_3b067_11 : decode cJ2_getChar_3b067 11 = .ok (.aload_n 0, 1) := by decide +kernel
theorem dJ2_getChar_3b067_12 : decode cJ2_getChar_3b067 12 = .ok (.invokestatic 48, 3) := by decide +kernel
theorem dJ2_getChar_3b067_15 : decode cJ2_getChar_3b067 15 = .ok (.if_icmp .lt 13, 3) := by decide +kernel
theorem dJ2_getChar_3b067_18 : decode cJ2_getChar_3b067 18 = .ok (.new 52, 3) := by decide +kernel
theorem dJ2_getChar_3b067_21 : decode cJ2_getChar_3b067 21 = .ok (.dup, 1) := by decide +kernel
theorem dJ2_getChar_3b067_22 : decode cJ2_getChar_3b067 22 = .ok (.ldc 54, 2) := by decide +kernel
theorem dJ2_getChar_3b067_24 : decode cJ2_getChar_3b067 24 = .ok (.invokespecial 56, 3) := by decide +kernel
theorem dJ2_getChar_3b067_27 : decode cJ2_getChar_3b067 27 = .ok (.athrow, 1) := by decide +kernel
theorem dJ2_getChar_3b067_28 : decode cJ2_getChar_3b067 28 = .ok (.iload_n 1, 1) := by decide +kernel
theorem dJ2_getChar_3b067_29 : decode cJ2_getChar_3b067 29 = .ok (.iconst 1, 1) := by decide +kernel
theorem dJ2_getChar_3b067_30 : decode cJ2_getChar_3b067 30 = .ok (.ishl, 1) := by decide +kernel
theorem dJ2_getChar_3b067_31 : decode cJ2_getChar_3b067 31 = .ok (.istore_n 1, 1) := by decide +kernel
theorem dJ2_getChar_3b067_32 : decode cJ2_getChar_3b067 32 = .ok (.aload_n 0, 1) := by decide +kernel
theorem dJ2_getChar_3b067_33 : decode cJ2_getChar_3b067 33 = .ok (.iload_n 1, 1) := by decide +kernel
theorem dJ2_getChar_3b067_34 : decode cJ2_getChar_3b067 34 = .ok (.iinc 1 1, 3) := by decide +kernel
theorem dJ2_getChar_3b067_37 : decode cJ2_getChar_3b067 37 = .ok (.baload, 1) := by decide +kernel
theorem dJ2_getChar_3b067_38 : decode cJ2_getChar_3b067 38 = .ok (.sipush 255, 3) := by decide +kernel
theorem dJ2_getChar_3b067_41 : decode cJ2_getChar_3b067 41 = .ok (.iand, 1) := by decide +kernel
theorem dJ2_getChar_3b067_42 : decode cJ2_getChar_3b067 42 = .ok (.getstatic 59, 3) := by decide +kernel
theorem dJ2_getChar_3b067_45 : decode cJ2_getChar_3b067 45 = .ok (.ishl, 1) := by decide +kernel
theorem dJ2_getChar_3b067_46 : decode cJ2_getChar_3b067 46 = .ok (.aload_n 0, 1) := by decide +kernel
theorem dJ2_getChar_3b067_47 : decode cJ2_getChar_3b067 47 = .ok (.iload_n 1, 1) := by decide +kernel
theorem dJ2_getChar_3b067_48 : decode cJ2_getChar_3b067 48 = .ok (.baload, 1) := by decide +kernel
theorem dJ2_getChar_3b067_49 : decode cJ2_getChar_3b067 49 = .ok (.sipush 255, 3) := by decide +kernel
theorem dJ2_getChar_3b067_52 : decode cJ2_getChar_3b067 52 = .ok (.iand, 1) := by decide +kernel
theorem dJ2_getChar_3b067_53 : decode cJ2_getChar_3b067 53 = .ok (.getstatic 63, 3) := by decide +kernel
theorem dJ2_getChar_3b067_56 : decode cJ2_getChar_3b067 56 = .ok (.ishl, 1) := by decide +kernel
theorem dJ2_getChar_3b067_57 : decode cJ2_getChar_3b067 57 = .ok (.ior, 1) := by decide +kernel
theorem dJ2_getChar_3b067_58 : decode cJ2_getChar_3b067 58 = .ok (.i2c, 1) := by decide +kernel
theorem dJ2_getChar_3b067_59 : decode cJ2_getChar_3b067 59 = .ok (.ireturn, 1) := by decide +kernel
theorem dJ2_length_9d52b_0 : decode cJ2_length_9d52b 0 = .ok (.aload_n 0, 1) := by decide +kernel
theorem dJ2_length_9d52b_1 : decode cJ2_length_9d52b 1 = .ok (.arraylength, 1) := by decide +kernel
theorem dJ2_length_9d52b_2 : decode cJ2_length_9d52b 2 = .ok (.iconst 1, 1) := by decide +kernel
theorem dJ2_length_9d52b_3 : decode cJ2_length_9d52b 3 = .ok (.ishr, 1) := by decide +kernel
theorem dJ2_length_9d52b_4 : decode cJ2_length_9d52b 4 = .ok (.ireturn, 1) := by decide +kernel
theorem dJ2_charAt_3b067_0 : decode cJ2_charAt_3b067 0 = .ok (.iload_n 1, 1) := by decide +kernel
theorem dJ2_charAt_3b067_1 : decode cJ2_charAt_3b067 1 = .ok (.aload_n 0, 1) := by decide +kernel
theorem dJ2_charAt_3b067_2 : decode cJ2_charAt_3b067 2 = .ok (.invokestatic 67, 3) := by decide +kernel
theorem dJ2_charAt_3b067_5 : decode cJ2_charAt_3b067 5 = .ok (.aload_n 0, 1) := by decide +kernel
theorem dJ2_charAt_3b067_6 : decode cJ2_charAt_3b067 6 = .ok (.iload_n 1, 1) := by decide +kernel
theorem dJ2_charAt_3b067_7 : decode cJ2_charAt_3b067 7 = .ok (.invokestatic 71, 3) := by decide +kernel
theorem dJ2_charAt_3b067_10 : decode cJ2_charAt_3b067 10 = .ok (.ireturn, 1) := by decide +kernel
theorem dJ2_checkIndex_2214a_0 : decode cJ2_checkIndex_2214a 0 = .ok (.iload_n 0, 1) := by decide +kernel
theorem dJ2_checkIndex_2214a_1 : decode cJ2_checkIndex_2214a 1 = .ok (.aload_n 1, 1) := by decide +kernel
theorem dJ2_checkIndex_2214a_2 : decode cJ2_checkIndex_2214a 2 = .ok (.invokestatic 48, 3) := by decide +kernel
theorem dJ2_checkIndex_2214a_5 : decode cJ2_checkIndex_2214a 5 = .ok (.invokestatic 414, 3) := by decide +kernel
theorem dJ2_checkIndex_2214a_8 : decode cJ2_checkIndex_2214a 8 = .ok (.return_, 1) := by decide +kernel
theorem dJ7_fill_53178_0 : decode cJ7_fill_53178 0 = .ok (.iconst 0, 1) := by decide +kernel
theorem dJ7_fill_53178_1 : decode cJ7_fill_53178 1 = .ok (.istore_n 2, 1) := by decide +kernel
theorem dJ7_fill_53178_2 : decode cJ7_fill_53178 2 = .ok (.aload_n 0, 1) := by decide +kernel
theorem dJ7_fill_53178_3 : decode cJ7_fill_53178 3 = .ok (.arraylength, 1) := by decide +kernel
theorem dJ7_fill_53178_4 : decode cJ7_fill_53178 4 = .ok (.istore_n 3, 1) := by decide +kernel
theorem dJ7_fill_53178_5 : decode cJ7_fill_53178 5 = .ok (.iload_n 2, 1) := by decide +kernel
theorem dJ7_fill_53178_6 : decode cJ7_fill_53178 6 = .ok (.iload_n 3, 1) := by decide +kernel
theorem dJ7_fill_53178_7 : decode cJ7_fill_53178 7 = .ok (.if_icmp .ge 13, 3) := by decide +kernel
theorem dJ7_fill_53178_10 : decode cJ7_fill_53178 10 = .ok (.aload_n 0, 1) := by decide +kernel
theorem dJ7_fill_53178_11 : decode cJ7_fill_53178 11 = .ok (.iload_n 2, 1) := by decide +kernel
theorem dJ7_fill_53178_12 : decode cJ7_fill_53178 12 = .ok (.iload_n 1, 1) := by decide +kernel
theorem dJ7_fill_53178_13 : decode cJ7_fill_53178 13 = .ok (.iastore, 1) := by decide +kernel
theorem dJ7_fill_53178_14 : decode cJ7_fill_53178 14 = .ok (.iinc 2 1, 3) := by decide +kernel
theorem dJ7_fill_53178_17 : decode cJ7_fill_53178 17 = .ok (.goto (-12), 3) := by decide +kernel
theorem dJ7_fill_53178_20 : decode cJ7_fill_53178 20 = .ok (.return_, 1) := by decide +kernel
theorem dJ3_checkIndex_8e157_0 : decode cJ3_checkIndex_8e157 0 = .ok (.iload_n 0, 1) := by decide +kernel
theorem dJ3_checkIndex_8e157_1 : decode cJ3_checkIndex_8e157 1 = .ok (.ifCond .lt 8, 3) := by decide +kernel
theorem dJ3_checkIndex_8e157_4 : decode cJ3_checkIndex_8e157 4 = .ok (.iload_n 0, 1) := by decide +kernel
theorem dJ3_checkIndex_8e157_5 : decode cJ3_checkIndex_8e157 5 = .ok (.iload_n 1, 1) := by decide +kernel
theorem dJ3_checkIndex_8e157_6 : decode cJ3_checkIndex_8e157 6 = .ok (.if_icmp .lt 10, 3) := by decide +kernel
theorem dJ3_checkIndex_8e157_9 : decode cJ3_checkIndex_8e157 9 = .ok (.aload_n 2, 1) := by decide +kernel
theorem dJ3_checkIndex_8e157_10 : decode cJ3_checkIndex_8e157 10 = .ok (.iload_n 0, 1) := by decide +kernel
theorem dJ3_checkIndex_8e157_11 : decode cJ3_checkIndex_8e157 11 = .ok (.iload_n 1, 1) := by decide +kernel
theorem dJ3_checkIndex_8e157_12 : decode cJ3_checkIndex_8e157 12 = .ok (.invokestatic 95, 3) := by decide +kernel
theorem dJ3_checkIndex_8e157_15 : decode cJ3_checkIndex_8e157 15 = .ok (.athrow, 1) := by decide +kernel
theorem dJ3_checkIndex_8e157_16 : decode cJ3_checkIndex_8e157 16 = .ok (.iload_n 0, 1) := by decide +kernel
theorem dJ3_checkIndex_8e157_17 : decode cJ3_checkIndex_8e157 17 = .ok (.ireturn, 1) := by decide +kernel
