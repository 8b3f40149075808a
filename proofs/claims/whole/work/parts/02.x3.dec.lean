theorem dX7_in_0 : decode cX7_in 0 = .ok (.lload_n 0, 1) := by decide +kernel
theorem dX7_in_1 : decode cX7_in 1 = .ok (.lload_n 2, 1) := by decide +kernel
theorem dX7_in_2 : decode cX7_in 2 = .ok (.lcmp, 1) := by decide +kernel
theorem dX7_in_3 : decode cX7_in 3 = .ok (.ifCond .lt 14, 3) := by decide +kernel
theorem dX7_in_6 : decode cX7_in 6 = .ok (.lload_n 0, 1) := by decide +kernel
theorem dX7_in_7 : decode cX7_in 7 = .ok (.lload 4, 2) := by decide +kernel
theorem dX7_in_9 : decode cX7_in 9 = .ok (.lcmp, 1) := by decide +kernel
theorem dX7_in_10 : decode cX7_in 10 = .ok (.ifCond .gt 7, 3) := by decide +kernel
theorem dX7_in_13 : decode cX7_in 13 = .ok (.iconst 1, 1) := by decide +kernel
theorem dX7_in_14 : decode cX7_in 14 = .ok (.goto 4, 3) := by decide +kernel
theorem dX7_in_17 : decode cX7_in 17 = .ok (.iconst 0, 1) := by decide +kernel
theorem dX7_in_18 : decode cX7_in 18 = .ok (.ireturn, 1) := by decide +kernel
theorem dX7_init_0 : decode cX7_init 0 = .ok (.aload_n 0, 1) := by decide +kernel
theorem dX7_init_1 : decode cX7_init 1 = .ok (.invokespecial 1, 3) := by decide +kernel
theorem dX7_init_4 : decode cX7_init 4 = .ok (.aload_n 0, 1) := by decide +kernel
theorem dX7_init_5 : decode cX7_init 5 = .ok (.bipush 12, 2) := by decide +kernel
theorem dX7_init_7 : decode cX7_init 7 = .ok (.newarray .int, 2) := by decide +kernel
theorem dX7_init_9 : decode cX7_init 9 = .ok (.putfield 7, 3) := by decide +kernel
theorem dX7_init_12 : decode cX7_init 12 = .ok (.aload_n 0, 1) := by decide +kernel
theorem dX7_init_13 : decode cX7_init 13 = .ok (.bipush 12, 2) := by decide +kernel
theorem dX7_init_15 : decode cX7_init 15 = .ok (.newarray .int, 2) := by decide +kernel
theorem dX7_init_17 : decode cX7_init 17 = .ok (.putfield 13, 3) := by decide +kernel
theorem dX7_init_20 : decode cX7_init 20 = .ok (.aload_n 0, 1) := by decide +kernel
theorem dX7_init_21 : decode cX7_init 21 = .ok (.bipush 12, 2) := by decide +kernel
theorem dX7_init_23 : decode cX7_init 23 = .ok (.newarray .int, 2) := by decide +kernel
theorem dX7_init_25 : decode cX7_init 25 = .ok (.putfield 16, 3) := by decide +kernel
theorem dX7_init_28 : decode cX7_init 28 = .ok (.aload_n 0, 1) := by decide +kernel
theorem dX7_init_29 : decode cX7_init 29 = .ok (.bipush 12, 2) := by decide +kernel
theorem dX7_init_31 : decode cX7_init 31 = .ok (.newarray .int, 2) := by decide +kernel
theorem dX7_init_33 : decode cX7_init 33 = .ok (.putfield 19, 3) := by decide +kernel
theorem dX7_init_36 : decode cX7_init 36 = .ok (.aload_n 0, 1) := by decide +kernel
theorem dX7_init_37 : decode cX7_init 37 = .ok (.bipush 12, 2) := by decide +kernel
theorem dX7_init_39 : decode cX7_init 39 = .ok (.newarray .int, 2) := by decide +kernel
theorem dX7_init_41 : decode cX7_init 41 = .ok (.putfield 22, 3) := by decide +kernel
theorem dX7_init_44 : decode cX7_init 44 = .ok (.aload_n 0, 1) := by decide +kernel
theorem dX7_init_45 : decode cX7_init 45 = .ok (.bipush 48, 2) := by decide +kernel
theorem dX7_init_47 : decode cX7_init 47 = .ok (.newarray .int, 2) := by decide +kernel
theorem dX7_init_49 : decode cX7_init 49 = .ok (.putfield 25, 3) := by decide +kernel
theorem dX7_init_52 : decode cX7_init 52 = .ok (.aload_n 0, 1) := by decide +kernel
theorem dX7_init_53 : decode cX7_init 53 = .ok (.bipush 80, 2) := by decide +kernel
theorem dX7_init_55 : decode cX7_init 55 = .ok (.newarray .int, 2) := by decide +kernel
theorem dX7_init_57 : decode cX7_init 57 = .ok (.putfield 28, 3) := by decide +kernel
theorem dX7_init_60 : decode cX7_init 60 = .ok (.aload_n 0, 1) := by decide +kernel
theorem dX7_init_61 : decode cX7_init 61 = .ok (.bipush 12, 2) := by decide +kernel
theorem dX7_init_63 : decode cX7_init 63 = .ok (.newarray .int, 2) := by decide +kernel
theorem dX7_init_65 : decode cX7_init 65 = .ok (.putfield 31, 3) := by decide +kernel
theorem dX7_init_68 : decode cX7_init 68 = .ok (.aload_n 0, 1) := by decide +kernel
theorem dX7_init_69 : decode cX7_init 69 = .ok (.bipush 12, 2) := by decide +kernel
theorem dX7_init_71 : decode cX7_init 71 = .ok (.newarray .int, 2) := by decide +kernel
theorem dX7_init_73 : decode cX7_init 73 = .ok (.putfield 34, 3) := by decide +kernel
theorem dX7_init_76 : decode cX7_init 76 = .ok (.aload_n 0, 1) := by decide +kernel
theorem dX7_init_77 : decode cX7_init 77 = .ok (.bipush 12, 2) := by decide +kernel
theorem dX7_init_79 : decode cX7_init 79 = .ok (.newarray .int, 2) := by decide +kernel
theorem dX7_init_81 : decode cX7_init 81 = .ok (.putfield 37, 3) := by decide +kernel
theorem dX7_init_84 : decode cX7_init 84 = .ok (.aload_n 0, 1) := by decide +kernel
theorem dX7_init_85 : decode cX7_init 85 = .ok (.iconst 4, 1) := by decide +kernel
theorem dX7_init_86 : decode cX7_init 86 = .ok (.newarray .int, 2) := by decide +kernel
theorem dX7_init_88 : decode cX7_init 88 = .ok (.putfield 40, 3) := by decide +kernel
theorem dX7_init_91 : decode cX7_init 91 = .ok (.aload_n 0, 1) := by decide +kernel
theorem dX7_init_92 : decode cX7_init 92 = .ok (.iconst 4, 1) := by decide +kernel
theorem dX7_init_93 : decode cX7_init 93 = .ok (.newarray .int, 2) := by decide +kernel
theorem dX7_init_95 : decode cX7_init 95 = .ok (.putfield 43, 3) := by decide +kernel
theorem dX7_init_98 : decode cX7_init 98 = .ok (.aload_n 0, 1) := by decide +kernel
theorem dX7_init_99 : decode cX7_init 99 = .ok (.bipush 13, 2) := by decide +kernel
theorem dX7_init_101 : decode cX7_init 101 = .ok (.newarray .int, 2) := by decide +kernel
theorem dX7_init_103 : decode cX7_init 103 = .ok (.putfield 46, 3) := by decide +kernel
theorem dX7_init_106 : decode cX7_init 106 = .ok (.aload_n 0, 1) := by decide +kernel
theorem dX7_init_107 : decode cX7_init 107 = .ok (.bipush 13, 2) := by decide +kernel
theorem dX7_init_109 : decode cX7_init 109 = .ok (.newarray .int, 2) := by decide +kernel
theorem dX7_init_111 : decode cX7_init 111 = .ok (.putfield 49, 3) := by decide +kernel
theorem dX7_init_114 : decode cX7_init 114 = .ok (.aload_n 0, 1) := by decide +kernel
theorem dX7_init_115 : decode cX7_init 115 = .ok (.bipush 13, 2) := by decide +kernel
theorem dX7_init_117 : decode cX7_init 117 = .ok (.newarray .int, 2) := by decide +kernel
theorem dX7_init_119 : decode cX7_init 119 = .ok (.putfield 52, 3) := by decide +kernel
theorem dX7_init_122 : decode cX7_init 122 = .ok (.aload_n 0, 1) := by decide +kernel
theorem dX7_init_123 : decode cX7_init 123 = .ok (.iconst 4, 1) := by decide +kernel
theorem dX7_init_124 : decode cX7_init 124 = .ok (.newarray .int, 2) := by decide +kernel
theorem dX7_init_126 : decode cX7_init 126 = .ok (.putfield 55, 3) := by decide +kernel
theorem dX7_init_129 : decode cX7_init 129 = .ok (.aload_n 0, 1) := by decide +kernel
theorem dX7_init_130 : decode cX7_init 130 = .ok (.bipush 61, 2) := by decide +kernel
theorem dX7_init_132 : decode cX7_init 132 = .ok (.newarray .int, 2) := by decide +kernel
theorem dX7_init_134 : decode cX7_init 134 = .ok (.putfield 58, 3) := by decide +kernel
theorem dX7_init_137 : decode cX7_init 137 = .ok (.aload_n 0, 1) := by decide +kernel
theorem dX7_init_138 : decode cX7_init 138 = .ok (.bipush 114, 2) := by decide +kernel
theorem dX7_init_140 : decode cX7_init 140 = .ok (.newarray .int, 2) := by decide +kernel
theorem dX7_init_142 : decode cX7_init 142 = .ok (.putfield 61, 3) := by decide +kernel
theorem dX7_init_145 : decode cX7_init 145 = .ok (.aload_n 0, 1) := by decide +kernel
theorem dX7_init_146 : decode cX7_init 146 = .ok (.iconst 4, 1) := by decide +kernel
theorem dX7_init_147 : decode cX7_init 147 = .ok (.newarray .int, 2) := by decide +kernel
theorem dX7_init_149 : decode cX7_init 149 = .ok (.putfield 64, 3) := by decide +kernel
theorem dX7_init_152 : decode cX7_init 152 = .ok (.aload_n 0, 1) := by decide +kernel
theorem dX7_init_153 : decode cX7_init 153 = .ok (.iconst 4, 1) := by decide +kernel
theorem dX7_init_154 : decode cX7_init 154 = .ok (.newarray .int, 2) := by decide +kernel
theorem dX7_init_156 : decode cX7_init 156 = .ok (.putfield 67, 3) := by decide +kernel
theorem dX7_init_159 : decode cX7_init 159 = .ok (.aload_n 0, 1) := by decide +kernel
theorem dX7_init_160 : decode cX7_init 160 = .ok (.bipush 64, 2) := by decide +kernel
theorem dX7_init_162 : decode cX7_init 162 = .ok (.newarray .long, 2) := by decide +kernel
theorem dX7_init_164 : decode cX7_init 164 = .ok (.putfield 70, 3) := by decide +kernel
theorem dX7_init_167 : decode cX7_init 167 = .ok (.aload_n 0, 1) := by decide +kernel
theorem dX7_init_168 : decode cX7_init 168 = .ok (.bipush 16, 2) := by decide +kernel
theorem dX7_init_170 : decode cX7_init 170 = .ok (.newarray .long, 2) := by decide +kernel
theorem dX7_init_172 : decode cX7_init 172 = .ok (.putfield 74, 3) := by decide +kernel
theorem dX7_init_175 : decode cX7_init 175 = .ok (.aload_n 0, 1) := by decide +kernel
theorem dX7_init_176 : decode cX7_init 176 = .ok (.iconst 2, 1) := by decide +kernel
theorem dX7_init_177 : decode cX7_init 177 = .ok (.putfield 77, 3) := by decide +kernel
theorem dX7_init_180 : decode cX7_init 180 = .ok (.aload_n 0, 1) := by decide +kernel
theorem dX7_init_181 : decode cX7_init 181 = .ok (.bipush 11, 2) := by decide +kernel
theorem dX7_init_183 : decode cX7_init 183 = .ok (.putfield 81, 3) := by decide +kernel
theorem dX7_init_186 : decode cX7_init 186 = .ok (.iconst 0, 1) := by decide +kernel
theorem dX7_init_187 : decode cX7_init 187 = .ok (.istore_n 1, 1) := by decide +kernel
theorem dX7_init_188 : decode cX7_init 188 = .ok (.iload_n 1, 1) := by decide +kernel
theorem dX7_init_189 : decode cX7_init 189 = .ok (.iconst 4, 1) := by decide +kernel
theorem dX7_init_190 : decode cX7_init 190 = .ok (.if_icmp .ge 16, 3) := by decide +kernel
theorem dX7_init_193 : decode cX7_init 193 = .ok (.aload_n 0, 1) := by decide +kernel
theorem dX7_init_194 : decode cX7_init 194 = .ok (.getfield 64, 3) := by decide +kernel
theorem dX7_init_197 : decode cX7_init 197 = .ok (.iload_n 1, 1) := by decide +kernel
theorem dX7_init_198 : decode cX7_init 198 = .ok (.iconst (-1), 1) := by decide +kernel
theorem dX7_init_199 : decode cX7_init 199 = .ok (.iastore, 1) := by decide +kernel
theorem dX7_init_200 : decode cX7_init 200 = .ok (.iinc 1 1, 3) := by decide +kernel
theorem dX7_init_203 : decode cX7_init 203 = .ok (.goto (-15), 3) := by decide +kernel
theorem dX7_init_206 : decode cX7_init 206 = .ok (.return_, 1) := by decide +kernel
theorem dX7_isDeed_0 : decode cX7_isDeed 0 = .ok (.lload_n 1, 1) := by decide +kernel
theorem dX7_isDeed_1 : decode cX7_isDeed 1 = .ok (.lconst 0, 1) := by decide +kernel
theorem dX7_isDeed_2 : decode cX7_isDeed 2 = .ok (.aload_n 0, 1) := by decide +kernel
theorem dX7_isDeed_3 : decode cX7_isDeed 3 = .ok (.getfield 84, 3) := by decide +kernel
theorem dX7_isDeed_6 : decode cX7_isDeed 6 = .ok (.iconst 1, 1) := by decide +kernel
theorem dX7_isDeed_7 : decode cX7_isDeed 7 = .ok (.isub, 1) := by decide +kernel
theorem dX7_isDeed_8 : decode cX7_isDeed 8 = .ok (.i2l, 1) := by decide +kernel
theorem dX7_isDeed_9 : decode cX7_isDeed 9 = .ok (.invokestatic 87, 3) := by decide +kernel
theorem dX7_isDeed_12 : decode cX7_isDeed 12 = .ok (.ireturn, 1) := by decide +kernel
theorem dX7_isOne_0 : decode cX7_isOne 0 = .ok (.iload_n 1, 1) := by decide +kernel
theorem dX7_isOne_1 : decode cX7_isOne 1 = .ok (.i2l, 1) := by decide +kernel
theorem dX7_isOne_2 : decode cX7_isOne 2 = .ok (.lconst 0, 1) := by decide +kernel
theorem dX7_isOne_3 : decode cX7_isOne 3 = .ok (.aload_n 0, 1) := by decide +kernel
theorem dX7_isOne_4 : decode cX7_isOne 4 = .ok (.getfield 77, 3) := by decide +kernel
theorem dX7_isOne_7 : decode cX7_isOne 7 = .ok (.iconst 1, 1) := by decide +kernel
theorem dX7_isOne_8 : decode cX7_isOne 8 = .ok (.isub, 1) := by decide +kernel
theorem dX7_isOne_9 : decode cX7_isOne 9 = .ok (.i2l, 1) := by decide +kernel
theorem dX7_isOne_10 : decode cX7_isOne 10 = .ok (.invokestatic 87, 3) := by decide +kernel
theorem dX7_isOne_13 : decode cX7_isOne 13 = .ok (.ireturn, 1) := by decide +kernel
theorem dX7_areDeeds_0 : decode cX7_areDeeds 0 = .ok (.lload_n 1, 1) := by decide +kernel
theorem dX7_areDeeds_1 : decode cX7_areDeeds 1 = .ok (.lconst 0, 1) := by decide +kernel
theorem dX7_areDeeds_2 : decode cX7_areDeeds 2 = .ok (.iconst 1, 1) := by decide +kernel
theorem dX7_areDeeds_3 : decode cX7_areDeeds 3 = .ok (.aload_n 0, 1) := by decide +kernel
theorem dX7_areDeeds_4 : decode cX7_areDeeds 4 = .ok (.getfield 84, 3) := by decide +kernel
theorem dX7_areDeeds_7 : decode cX7_areDeeds 7 = .ok (.ishl, 1) := by decide +kernel
theorem dX7_areDeeds_8 : decode cX7_areDeeds 8 = .ok (.iconst 1, 1) := by decide +kernel
theorem dX7_areDeeds_9 : decode cX7_areDeeds 9 = .ok (.isub, 1) := by decide +kernel
theorem dX7_areDeeds_10 : decode cX7_areDeeds 10 = .ok (.i2l, 1) := by decide +kernel
theorem dX7_areDeeds_11 : decode cX7_areDeeds 11 = .ok (.invokestatic 87, 3) := by decide +kernel
theorem dX7_areDeeds_14 : decode cX7_areDeeds 14 = .ok (.ireturn, 1) := by decide +kernel
theorem dX7_people_0 : decode cX7_people 0 = .ok (.iload_n 1, 1) := by decide +kernel
theorem dX7_people_1 : decode cX7_people 1 = .ok (.i2l, 1) := by decide +kernel
theorem dX7_people_2 : decode cX7_people 2 = .ok (.lconst 1, 1) := by decide +kernel
theorem dX7_people_3 : decode cX7_people 3 = .ok (.ldc2_w 91, 3) := by decide +kernel
theorem dX7_people_6 : decode cX7_people 6 = .ok (.invokestatic 87, 3) := by decide +kernel
theorem dX7_people_9 : decode cX7_people 9 = .ok (.ifCond .ne 5, 3) := by decide +kernel
theorem dX7_people_12 : decode cX7_people 12 = .ok (.iconst (-1), 1) := by decide +kernel
theorem dX7_people_13 : decode cX7_people 13 = .ok (.ireturn, 1) := by decide +kernel
theorem dX7_people_14 : decode cX7_people 14 = .ok (.aload_n 0, 1) := by decide +kernel
theorem dX7_people_15 : decode cX7_people 15 = .ok (.getfield 77, 3) := by decide +kernel
theorem dX7_people_18 : decode cX7_people 18 = .ok (.istore_n 2, 1) := by decide +kernel
theorem dX7_people_19 : decode cX7_people 19 = .ok (.aload_n 0, 1) := by decide +kernel
theorem dX7_people_20 : decode cX7_people 20 = .ok (.iload_n 1, 1) := by decide +kernel
theorem dX7_people_21 : decode cX7_people 21 = .ok (.putfield 77, 3) := by decide +kernel
theorem dX7_people_24 : decode cX7_people 24 = .ok (.iload_n 2, 1) := by decide +kernel
theorem dX7_people_25 : decode cX7_people 25 = .ok (.ireturn, 1) := by decide +kernel
theorem dX7_ahead_0 : decode cX7_ahead 0 = .ok (.iconst 0, 1) := by decide +kernel
theorem dX7_ahead_1 : decode cX7_ahead 1 = .ok (.istore_n 3, 1) := by decide +kernel
theorem dX7_ahead_2 : decode cX7_ahead 2 = .ok (.iconst 0, 1) := by decide +kernel
theorem dX7_ahead_3 : decode cX7_ahead 3 = .ok (.istore 4, 2) := by decide +kernel
theorem dX7_ahead_5 : decode cX7_ahead 5 = .ok (.iload 4, 2) := by decide +kernel
theorem dX7_ahead_7 : decode cX7_ahead 7 = .ok (.iload_n 0, 1) := by decide +kernel
theorem dX7_ahead_8 : decode cX7_ahead 8 = .ok (.if_icmp .ge 28, 3) := by decide +kernel
theorem dX7_ahead_11 : decode cX7_ahead 11 = .ok (.iload_n 3, 1) := by decide +kernel
theorem dX7_ahead_12 : decode cX7_ahead 12 = .ok (.aload_n 2, 1) := by decide +kernel
theorem dX7_ahead_13 : decode cX7_ahead 13 = .ok (.iload 4, 2) := by decide +kernel
theorem dX7_ahead_15 : decode cX7_ahead 15 = .ok (.iaload, 1) := by decide +kernel
theorem dX7_ahead_16 : decode cX7_ahead 16 = .ok (.iload_n 1, 1) := by decide +kernel
theorem dX7_ahead_17 : decode cX7_ahead 17 = .ok (.if_icmp .gt 10, 3) := by decide +kernel
theorem dX7_ahead_20 : decode cX7_ahead 20 = .ok (.iconst 1, 1) := by decide +kernel
theorem dX7_ahead_21 : decode cX7_ahead 21 = .ok (.iload 4, 2) := by decide +kernel
theorem dX7_ahead_23 : decode cX7_ahead 23 = .ok (.ishl, 1) := by decide +kernel
theorem dX7_ahead_24 : decode cX7_ahead 24 = .ok (.goto 4, 3) := by decide +kernel
theorem dX7_ahead_27 : decode cX7_ahead 27 = .ok (.iconst 0, 1) := by decide +kernel
theorem dX7_ahead_28 : decode cX7_ahead 28 = .ok (.ior, 1) := by decide +kernel
theorem dX7_ahead_29 : decode cX7_ahead 29 = .ok (.istore_n 3, 1) := by decide +kernel
theorem dX7_ahead_30 : decode cX7_ahead 30 = .ok (.iinc 4 1, 3) := by decide +kernel
theorem dX7_ahead_33 : decode cX7_ahead 33 = .ok (.goto (-28), 3) := by decide +kernel
theorem dX7_ahead_36 : decode cX7_ahead 36 = .ok (.iload_n 3, 1) := by decide +kernel
theorem dX7_ahead_37 : decode cX7_ahead 37 = .ok (.ireturn, 1) := by decide +kernel
theorem dX7_adds_0 : decode cX7_adds 0 = .ok (.aload_n 0, 1) := by decide +kernel
theorem dX7_adds_1 : decode cX7_adds 1 = .ok (.getfield 7, 3) := by decide +kernel
theorem dX7_adds_4 : decode cX7_adds 4 = .ok (.aload_n 0, 1) := by decide +kernel
theorem dX7_adds_5 : decode cX7_adds 5 = .ok (.getfield 84, 3) := by decide +kernel
theorem dX7_adds_8 : decode cX7_adds 8 = .ok (.iload_n 1, 1) := by decide +kernel
theorem dX7_adds_9 : decode cX7_adds 9 = .ok (.iastore, 1) := by decide +kernel
theorem dX7_adds_10 : decode cX7_adds 10 = .ok (.aload_n 0, 1) := by decide +kernel
theorem dX7_adds_11 : decode cX7_adds 11 = .ok (.getfield 13, 3) := by decide +kernel
theorem dX7_adds_14 : decode cX7_adds 14 = .ok (.aload_n 0, 1) := by decide +kernel
theorem dX7_adds_15 : decode cX7_adds 15 = .ok (.getfield 84, 3) := by decide +kernel
theorem dX7_adds_18 : decode cX7_adds 18 = .ok (.iload_n 2, 1) := by decide +kernel
theorem dX7_adds_19 : decode cX7_adds 19 = .ok (.iastore, 1) := by decide +kernel
theorem dX7_adds_20 : decode cX7_adds 20 = .ok (.aload_n 0, 1) := by decide +kernel
theorem dX7_adds_21 : decode cX7_adds 21 = .ok (.getfield 16, 3) := by decide +kernel
theorem dX7_adds_24 : decode cX7_adds 24 = .ok (.aload_n 0, 1) := by decide +kernel
theorem dX7_adds_25 : decode cX7_adds 25 = .ok (.getfield 84, 3) := by decide +kernel
theorem dX7_adds_28 : decode cX7_adds 28 = .ok (.iload_n 3, 1) := by decide +kernel
theorem dX7_adds_29 : decode cX7_adds 29 = .ok (.iastore, 1) := by decide +kernel
theorem dX7_adds_30 : decode cX7_adds 30 = .ok (.aload_n 0, 1) := by decide +kernel
theorem dX7_adds_31 : decode cX7_adds 31 = .ok (.getfield 19, 3) := by decide +kernel
theorem dX7_adds_34 : decode cX7_adds 34 = .ok (.aload_n 0, 1) := by decide +kernel
theorem dX7_adds_35 : decode cX7_adds 35 = .ok (.getfield 84, 3) := by decide +kernel
theorem dX7_adds_38 : decode cX7_adds 38 = .ok (.iconst 1, 1) := by decide +kernel
theorem dX7_adds_39 : decode cX7_adds 39 = .ok (.iastore, 1) := by decide +kernel
theorem dX7_adds_40 : decode cX7_adds 40 = .ok (.aload_n 0, 1) := by decide +kernel
theorem dX7_adds_41 : decode cX7_adds 41 = .ok (.getfield 22, 3) := by decide +kernel
theorem dX7_adds_44 : decode cX7_adds 44 = .ok (.aload_n 0, 1) := by decide +kernel
theorem dX7_adds_45 : decode cX7_adds 45 = .ok (.getfield 84, 3) := by decide +kernel
theorem dX7_adds_48 : decode cX7_adds 48 = .ok (.iconst 4, 1) := by decide +kernel
theorem dX7_adds_49 : decode cX7_adds 49 = .ok (.iastore, 1) := by decide +kernel
theorem dX7_adds_50 : decode cX7_adds 50 = .ok (.iconst 0, 1) := by decide +kernel
theorem dX7_adds_51 : decode cX7_adds 51 = .ok (.istore 4, 2) := by decide +kernel
theorem dX7_adds_53 : decode cX7_adds 53 = .ok (.iload 4, 2) := by decide +kernel
theorem dX7_adds_55 : decode cX7_adds 55 = .ok (.iconst 4, 1) := by decide +kernel
theorem dX7_adds_56 : decode cX7_adds 56 = .ok (.if_icmp .ge 24, 3) := by decide +kernel
theorem dX7_adds_59 : decode cX7_adds 59 = .ok (.aload_n 0, 1) := by decide +kernel
theorem dX7_adds_60 : decode cX7_adds 60 = .ok (.getfield 25, 3) := by decide +kernel
theorem dX7_adds_63 : decode cX7_adds 63 = .ok (.iconst 4, 1) := by decide +kernel
theorem dX7_adds_64 : decode cX7_adds 64 = .ok (.aload_n 0, 1) := by decide +kernel
theorem dX7_adds_65 : decode cX7_adds 65 = .ok (.getfield 84, 3) := by decide +kernel
theorem dX7_adds_68 : decode cX7_adds 68 = .ok (.imul, 1) := by decide +kernel
theorem dX7_adds_69 : decode cX7_adds 69 = .ok (.iload 4, 2) := by decide +kernel
theorem dX7_adds_71 : decode cX7_adds 71 = .ok (.iadd, 1) := by decide +kernel
theorem dX7_adds_72 : decode cX7_adds 72 = .ok (.iconst 0, 1) := by decide +kernel
theorem dX7_adds_73 : decode cX7_adds 73 = .ok (.iastore, 1) := by decide +kernel
theorem dX7_adds_74 : decode cX7_adds 74 = .ok (.iinc 4 1, 3) := by decide +kernel
theorem dX7_adds_77 : decode cX7_adds 77 = .ok (.goto (-24), 3) := by decide +kernel
theorem dX7_adds_80 : decode cX7_adds 80 = .ok (.aload_n 0, 1) := by decide +kernel
theorem dX7_adds_81 : decode cX7_adds 81 = .ok (.dup, 1) := by decide +kernel
theorem dX7_adds_82 : decode cX7_adds 82 = .ok (.getfield 84, 3) := by decide +kernel
theorem dX7_adds_85 : decode cX7_adds 85 = .ok (.iconst 1, 1) := by decide +kernel
theorem dX7_adds_86 : decode cX7_adds 86 = .ok (.iadd, 1) := by decide +kernel
theorem dX7_adds_87 : decode cX7_adds 87 = .ok (.putfield 84, 3) := by decide +kernel
theorem dX7_adds_90 : decode cX7_adds 90 = .ok (.return_, 1) := by decide +kernel
theorem dX7_deed_0 : decode cX7_deed 0 = .ok (.iload_n 1, 1) := by decide +kernel
theorem dX7_deed_1 : decode cX7_deed 1 = .ok (.i2l, 1) := by decide +kernel
theorem dX7_deed_2 : decode cX7_deed 2 = .ok (.lconst 0, 1) := by decide +kernel
theorem dX7_deed_3 : decode cX7_deed 3 = .ok (.ldc2_w 93, 3) := by decide +kernel
theorem dX7_deed_6 : decode cX7_deed 6 = .ok (.invokestatic 87, 3) := by decide +kernel
theorem dX7_deed_9 : decode cX7_deed 9 = .ok (.ifCond .eq 34, 3) := by decide +kernel
theorem dX7_deed_12 : decode cX7_deed 12 = .ok (.iload_n 2, 1) := by decide +kernel
theorem dX7_deed_13 : decode cX7_deed 13 = .ok (.i2l, 1) := by decide +kernel
theorem dX7_deed_14 : decode cX7_deed 14 = .ok (.lconst 0, 1) := by decide +kernel
theorem dX7_deed_15 : decode cX7_deed 15 = .ok (.ldc2_w 95, 3) := by decide +kernel
theorem dX7_deed_18 : decode cX7_deed 18 = .ok (.invokestatic 87, 3) := by decide +kernel
theorem dX7_deed_21 : decode cX7_deed 21 = .ok (.ifCond .eq 22, 3) := by decide +kernel
theorem dX7_deed_24 : decode cX7_deed 24 = .ok (.iload_n 3, 1) := by decide +kernel
theorem dX7_deed_25 : decode cX7_deed 25 = .ok (.aload_n 0, 1) := by decide +kernel
theorem dX7_deed_26 : decode cX7_deed 26 = .ok (.getfield 84, 3) := by decide +kernel
theorem dX7_deed_29 : decode cX7_deed 29 = .ok (.iload_n 2, 1) := by decide +kernel
theorem dX7_deed_30 : decode cX7_deed 30 = .ok (.aload_n 0, 1) := by decide +kernel
theorem dX7_deed_31 : decode cX7_deed 31 = .ok (.getfield 13, 3) := by decide +kernel
theorem dX7_deed_34 : decode cX7_deed 34 = .ok (.invokestatic 97, 3) := by decide +kernel
theorem dX7_deed_37 : decode cX7_deed 37 = .ok (.iconst (-1), 1) := by decide +kernel
theorem dX7_deed_38 : decode cX7_deed 38 = .ok (.ixor, 1) := by decide +kernel
theorem dX7_deed_39 : decode cX7_deed 39 = .ok (.iand, 1) := by decide +kernel
theorem dX7_deed_40 : decode cX7_deed 40 = .ok (.ifCond .eq 5, 3) := by decide +kernel
theorem dX7_deed_43 : decode cX7_deed 43 = .ok (.iconst (-1), 1) := by decide +kernel
theorem dX7_deed_44 : decode cX7_deed 44 = .ok (.ireturn, 1) := by decide +kernel
theorem dX7_deed_45 : decode cX7_deed 45 = .ok (.aload_n 0, 1) := by decide +kernel
theorem dX7_deed_46 : decode cX7_deed 46 = .ok (.getfield 84, 3) := by decide +kernel
theorem dX7_deed_49 : decode cX7_deed 49 = .ok (.bipush 12, 2) := by decide +kernel
theorem dX7_deed_51 : decode cX7_deed 51 = .ok (.if_icmp .ne 6, 3) := by decide +kernel
theorem dX7_deed_54 : decode cX7_deed 54 = .ok (.bipush (-3), 2) := by decide +kernel
theorem dX7_deed_56 : decode cX7_deed 56 = .ok (.ireturn, 1) := by decide +kernel
theorem dX7_deed_57 : decode cX7_deed 57 = .ok (.aload_n 0, 1) := by decide +kernel
theorem dX7_deed_58 : decode cX7_deed 58 = .ok (.iload_n 1, 1) := by decide +kernel
theorem dX7_deed_59 : decode cX7_deed 59 = .ok (.iload_n 2, 1) := by decide +kernel
theorem dX7_deed_60 : decode cX7_deed 60 = .ok (.iload_n 3, 1) := by decide +kernel
theorem dX7_deed_61 : decode cX7_deed 61 = .ok (.invokevirtual 101, 3) := by decide +kernel
theorem dX7_deed_64 : decode cX7_deed 64 = .ok (.aload_n 0, 1) := by decide +kernel
theorem dX7_deed_65 : decode cX7_deed 65 = .ok (.getfield 84, 3) := by decide +kernel
theorem dX7_deed_68 : decode cX7_deed 68 = .ok (.iconst 1, 1) := by decide +kernel
theorem dX7_deed_69 : decode cX7_deed 69 = .ok (.isub, 1) := by decide +kernel
theorem dX7_deed_70 : decode cX7_deed 70 = .ok (.ireturn, 1) := by decide +kernel
theorem dX7_is_0 : decode cX7_is 0 = .ok (.aload_n 0, 1) := by decide +kernel
theorem dX7_is_1 : decode cX7_is 1 = .ok (.getfield 16, 3) := by decide +kernel
theorem dX7_is_4 : decode cX7_is 4 = .ok (.iload_n 1, 1) := by decide +kernel
theorem dX7_is_5 : decode cX7_is 5 = .ok (.iaload, 1) := by decide +kernel
theorem dX7_is_6 : decode cX7_is 6 = .ok (.ifCond .eq 14, 3) := by decide +kernel
theorem dX7_is_9 : decode cX7_is 9 = .ok (.aload_n 0, 1) := by decide +kernel
theorem dX7_is_10 : decode cX7_is 10 = .ok (.getfield 16, 3) := by decide +kernel
theorem dX7_is_13 : decode cX7_is 13 = .ok (.iload_n 1, 1) := by decide +kernel
theorem dX7_is_14 : decode cX7_is 14 = .ok (.iaload, 1) := by decide +kernel
theorem dX7_is_15 : decode cX7_is 15 = .ok (.iload_n 2, 1) := by decide +kernel
theorem dX7_is_16 : decode cX7_is 16 = .ok (.iand, 1) := by decide +kernel
theorem dX7_is_17 : decode cX7_is 17 = .ok (.ifCond .eq 7, 3) := by decide +kernel
theorem dX7_is_20 : decode cX7_is 20 = .ok (.iconst 1, 1) := by decide +kernel
theorem dX7_is_21 : decode cX7_is 21 = .ok (.goto 4, 3) := by decide +kernel
theorem dX7_is_24 : decode cX7_is 24 = .ok (.iconst 0, 1) := by decide +kernel
theorem dX7_is_25 : decode cX7_is 25 = .ok (.istore 4, 2) := by decide +kernel
theorem dX7_is_27 : decode cX7_is 27 = .ok (.aload_n 0, 1) := by decide +kernel
theorem dX7_is_28 : decode cX7_is 28 = .ok (.getfield 7, 3) := by decide +kernel
theorem dX7_is_31 : decode cX7_is 31 = .ok (.iload_n 1, 1) := by decide +kernel
theorem dX7_is_32 : decode cX7_is 32 = .ok (.iaload, 1) := by decide +kernel
theorem dX7_is_33 : decode cX7_is 33 = .ok (.tableswitch 66 0 2 #[27, 46, 49], 27) := by decide +kernel
theorem dX7_is_60 : decode cX7_is 60 = .ok (.aload_n 0, 1) := by decide +kernel
theorem dX7_is_61 : decode cX7_is 61 = .ok (.getfield 16, 3) := by decide +kernel
theorem dX7_is_64 : decode cX7_is 64 = .ok (.iload_n 1, 1) := by decide +kernel
theorem dX7_is_65 : decode cX7_is 65 = .ok (.iaload, 1) := by decide +kernel
theorem dX7_is_66 : decode cX7_is 66 = .ok (.iload_n 2, 1) := by decide +kernel
theorem dX7_is_67 : decode cX7_is 67 = .ok (.iconst (-1), 1) := by decide +kernel
theorem dX7_is_68 : decode cX7_is 68 = .ok (.ixor, 1) := by decide +kernel
theorem dX7_is_69 : decode cX7_is 69 = .ok (.iand, 1) := by decide +kernel
theorem dX7_is_70 : decode cX7_is 70 = .ok (.ifCond .ne 7, 3) := by decide +kernel
theorem dX7_is_73 : decode cX7_is 73 = .ok (.iconst 1, 1) := by decide +kernel
theorem dX7_is_74 : decode cX7_is 74 = .ok (.goto 4, 3) := by decide +kernel
theorem dX7_is_77 : decode cX7_is 77 = .ok (.iconst 0, 1) := by decide +kernel
theorem dX7_is_78 : decode cX7_is 78 = .ok (.ireturn, 1) := by decide +kernel
theorem dX7_is_79 : decode cX7_is 79 = .ok (.iload 4, 2) := by decide +kernel
theorem dX7_is_81 : decode cX7_is 81 = .ok (.ireturn, 1) := by decide +kernel
theorem dX7_is_82 : decode cX7_is 82 = .ok (.aload_n 0, 1) := by decide +kernel
theorem dX7_is_83 : decode cX7_is 83 = .ok (.getfield 16, 3) := by decide +kernel
theorem dX7_is_86 : decode cX7_is 86 = .ok (.iload_n 1, 1) := by decide +kernel
theorem dX7_is_87 : decode cX7_is 87 = .ok (.iaload, 1) := by decide +kernel
theorem dX7_is_88 : decode cX7_is 88 = .ok (.iload_n 2, 1) := by decide +kernel
theorem dX7_is_89 : decode cX7_is 89 = .ok (.iand, 1) := by decide +kernel
theorem dX7_is_90 : decode cX7_is 90 = .ok (.ifCond .ne 7, 3) := by decide +kernel
theorem dX7_is_93 : decode cX7_is 93 = .ok (.iconst 1, 1) := by decide +kernel
theorem dX7_is_94 : decode cX7_is 94 = .ok (.goto 4, 3) := by decide +kernel
theorem dX7_is_97 : decode cX7_is 97 = .ok (.iconst 0, 1) := by decide +kernel
theorem dX7_is_98 : decode cX7_is 98 = .ok (.ireturn, 1) := by decide +kernel
theorem dX7_is_99 : decode cX7_is 99 = .ok (.iload 4, 2) := by decide +kernel
theorem dX7_is_101 : decode cX7_is 101 = .ok (.ifCond .ne 12, 3) := by decide +kernel
theorem dX7_is_104 : decode cX7_is 104 = .ok (.iload_n 3, 1) := by decide +kernel
theorem dX7_is_105 : decode cX7_is 105 = .ok (.iload_n 1, 1) := by decide +kernel
theorem dX7_is_106 : decode cX7_is 106 = .ok (.ishr, 1) := by decide +kernel
theorem dX7_is_107 : decode cX7_is 107 = .ok (.iconst 1, 1) := by decide +kernel
theorem dX7_is_108 : decode cX7_is 108 = .ok (.iand, 1) := by decide +kernel
theorem dX7_is_109 : decode cX7_is 109 = .ok (.iconst 1, 1) := by decide +kernel
theorem dX7_is_110 : decode cX7_is 110 = .ok (.if_icmp .ne 7, 3) := by decide +kernel
theorem dX7_is_113 : decode cX7_is 113 = .ok (.iconst 1, 1) := by decide +kernel
theorem dX7_is_114 : decode cX7_is 114 = .ok (.goto 4, 3) := by decide +kernel
theorem dX7_is_117 : decode cX7_is 117 = .ok (.iconst 0, 1) := by decide +kernel
theorem dX7_is_118 : decode cX7_is 118 = .ok (.ireturn, 1) := by decide +kernel
theorem dX7_stands_0 : decode cX7_stands 0 = .ok (.iconst 0, 1) := by decide +kernel
theorem dX7_stands_1 : decode cX7_stands 1 = .ok (.istore_n 3, 1) := by decide +kernel
theorem dX7_stands_2 : decode cX7_stands 2 = .ok (.iconst 0, 1) := by decide +kernel
theorem dX7_stands_3 : decode cX7_stands 3 = .ok (.istore 4, 2) := by decide +kernel
theorem dX7_stands_5 : decode cX7_stands 5 = .ok (.iload 4, 2) := by decide +kernel
theorem dX7_stands_7 : decode cX7_stands 7 = .ok (.aload_n 0, 1) := by decide +kernel
theorem dX7_stands_8 : decode cX7_stands 8 = .ok (.getfield 84, 3) := by decide +kernel
theorem dX7_stands_11 : decode cX7_stands 11 = .ok (.if_icmp .ge 40, 3) := by decide +kernel
theorem dX7_stands_14 : decode cX7_stands 14 = .ok (.iload_n 3, 1) := by decide +kernel
theorem dX7_stands_15 : decode cX7_stands 15 = .ok (.iload_n 1, 1) := by decide +kernel
theorem dX7_stands_16 : decode cX7_stands 16 = .ok (.iload 4, 2) := by decide +kernel
theorem dX7_stands_18 : decode cX7_stands 18 = .ok (.ishr, 1) := by decide +kernel
theorem dX7_stands_19 : decode cX7_stands 19 = .ok (.iconst 1, 1) := by decide +kernel
theorem dX7_stands_20 : decode cX7_stands 20 = .ok (.iand, 1) := by decide +kernel
theorem dX7_stands_21 : decode cX7_stands 21 = .ok (.ifCond .ne 21, 3) := by decide +kernel
theorem dX7_stands_24 : decode cX7_stands 24 = .ok (.aload_n 0, 1) := by decide +kernel
theorem dX7_stands_25 : decode cX7_stands 25 = .ok (.iload 4, 2) := by decide +kernel
theorem dX7_stands_27 : decode cX7_stands 27 = .ok (.iload_n 3, 1) := by decide +kernel
theorem dX7_stands_28 : decode cX7_stands 28 = .ok (.iload_n 2, 1) := by decide +kernel
theorem dX7_stands_29 : decode cX7_stands 29 = .ok (.invokevirtual 105, 3) := by decide +kernel
theorem dX7_stands_32 : decode cX7_stands 32 = .ok (.ifCond .eq 10, 3) := by decide +kernel
theorem dX7_stands_35 : decode cX7_stands 35 = .ok (.iconst 1, 1) := by decide +kernel
theorem dX7_stands_36 : decode cX7_stands 36 = .ok (.iload 4, 2) := by decide +kernel
theorem dX7_stands_38 : decode cX7_stands 38 = .ok (.ishl, 1) := by decide +kernel
theorem dX7_stands_39 : decode cX7_stands 39 = .ok (.goto 4, 3) := by decide +kernel
theorem dX7_stands_42 : decode cX7_stands 42 = .ok (.iconst 0, 1) := by decide +kernel
theorem dX7_stands_43 : decode cX7_stands 43 = .ok (.ior, 1) := by decide +kernel
theorem dX7_stands_44 : decode cX7_stands 44 = .ok (.istore_n 3, 1) := by decide +kernel
theorem dX7_stands_45 : decode cX7_stands 45 = .ok (.iinc 4 1, 3) := by decide +kernel
theorem dX7_stands_48 : decode cX7_stands 48 = .ok (.goto (-43), 3) := by decide +kernel
theorem dX7_stands_51 : decode cX7_stands 51 = .ok (.iload_n 3, 1) := by decide +kernel
theorem dX7_stands_52 : decode cX7_stands 52 = .ok (.ireturn, 1) := by decide +kernel
theorem dX7_told_0 : decode cX7_told 0 = .ok (.aload_n 0, 1) := by decide +kernel
theorem dX7_told_1 : decode cX7_told 1 = .ok (.iload_n 1, 1) := by decide +kernel
theorem dX7_told_2 : decode cX7_told 2 = .ok (.i2l, 1) := by decide +kernel
theorem dX7_told_3 : decode cX7_told 3 = .ok (.invokevirtual 109, 3) := by decide +kernel
theorem dX7_told_6 : decode cX7_told 6 = .ok (.ifCond .ne 5, 3) := by decide +kernel
theorem dX7_told_9 : decode cX7_told 9 = .ok (.iconst (-1), 1) := by decide +kernel
theorem dX7_told_10 : decode cX7_told 10 = .ok (.ireturn, 1) := by decide +kernel
theorem dX7_told_11 : decode cX7_told 11 = .ok (.iload_n 2, 1) := by decide +kernel
theorem dX7_told_12 : decode cX7_told 12 = .ok (.tableswitch 105 0 6 #[44, 51, 58, 65, 72, 79, 96], 44) := by decide +kernel
theorem dX7_told_56 : decode cX7_told 56 = .ok (.aload_n 0, 1) := by decide +kernel
theorem dX7_told_57 : decode cX7_told 57 = .ok (.getfield 7, 3) := by decide +kernel
theorem dX7_told_60 : decode cX7_told 60 = .ok (.iload_n 1, 1) := by decide +kernel
theorem dX7_told_61 : decode cX7_told 61 = .ok (.iaload, 1) := by decide +kernel
theorem dX7_told_62 : decode cX7_told 62 = .ok (.ireturn, 1) := by decide +kernel
theorem dX7_told_63 : decode cX7_told 63 = .ok (.aload_n 0, 1) := by decide +kernel
theorem dX7_told_64 : decode cX7_told 64 = .ok (.getfield 13, 3) := by decide +kernel
theorem dX7_told_67 : decode cX7_told 67 = .ok (.iload_n 1, 1) := by decide +kernel
theorem dX7_told_68 : decode cX7_told 68 = .ok (.iaload, 1) := by decide +kernel
theorem dX7_told_69 : decode cX7_told 69 = .ok (.ireturn, 1) := by decide +kernel
theorem dX7_told_70 : decode cX7_told 70 = .ok (.aload_n 0, 1) := by decide +kernel
theorem dX7_told_71 : decode cX7_told 71 = .ok (.getfield 16, 3) := by decide +kernel
theorem dX7_told_74 : decode cX7_told 74 = .ok (.iload_n 1, 1) := by decide +kernel
theorem dX7_told_75 : decode cX7_told 75 = .ok (.iaload, 1) := by decide +kernel
theorem dX7_told_76 : decode cX7_told 76 = .ok (.ireturn, 1) := by decide +kernel
theorem dX7_told_77 : decode cX7_told 77 = .ok (.aload_n 0, 1) := by decide +kernel
theorem dX7_told_78 : decode cX7_told 78 = .ok (.getfield 19, 3) := by decide +kernel
theorem dX7_told_81 : decode cX7_told 81 = .ok (.iload_n 1, 1) := by decide +kernel
theorem dX7_told_82 : decode cX7_told 82 = .ok (.iaload, 1) := by decide +kernel
theorem dX7_told_83 : decode cX7_told 83 = .ok (.ireturn, 1) := by decide +kernel
theorem dX7_told_84 : decode cX7_told 84 = .ok (.aload_n 0, 1) := by decide +kernel
theorem dX7_told_85 : decode cX7_told 85 = .ok (.getfield 22, 3) := by decide +kernel
theorem dX7_told_88 : decode cX7_told 88 = .ok (.iload_n 1, 1) := by decide +kernel
theorem dX7_told_89 : decode cX7_told 89 = .ok (.iaload, 1) := by decide +kernel
theorem dX7_told_90 : decode cX7_told 90 = .ok (.ireturn, 1) := by decide +kernel
theorem dX7_told_91 : decode cX7_told 91 = .ok (.aload_n 0, 1) := by decide +kernel
theorem dX7_told_92 : decode cX7_told 92 = .ok (.aload_n 0, 1) := by decide +kernel
theorem dX7_told_93 : decode cX7_told 93 = .ok (.getfield 113, 3) := by decide +kernel
theorem dX7_told_96 : decode cX7_told 96 = .ok (.aload_n 0, 1) := by decide +kernel
theorem dX7_told_97 : decode cX7_told 97 = .ok (.getfield 116, 3) := by decide +kernel
theorem dX7_told_100 : decode cX7_told 100 = .ok (.invokevirtual 119, 3) := by decide +kernel
theorem dX7_told_103 : decode cX7_told 103 = .ok (.iload_n 1, 1) := by decide +kernel
theorem dX7_told_104 : decode cX7_told 104 = .ok (.ishr, 1) := by decide +kernel
theorem dX7_told_105 : decode cX7_told 105 = .ok (.iconst 1, 1) := by decide +kernel
theorem dX7_told_106 : decode cX7_told 106 = .ok (.iand, 1) := by decide +kernel
theorem dX7_told_107 : decode cX7_told 107 = .ok (.ireturn, 1) := by decide +kernel
theorem dX7_told_108 : decode cX7_told 108 = .ok (.aload_n 0, 1) := by decide +kernel
theorem dX7_told_109 : decode cX7_told 109 = .ok (.getfield 113, 3) := by decide +kernel
theorem dX7_told_112 : decode cX7_told 112 = .ok (.iload_n 1, 1) := by decide +kernel
theorem dX7_told_113 : decode cX7_told 113 = .ok (.ishr, 1) := by decide +kernel
theorem dX7_told_114 : decode cX7_told 114 = .ok (.iconst 1, 1) := by decide +kernel
theorem dX7_told_115 : decode cX7_told 115 = .ok (.iand, 1) := by decide +kernel
theorem dX7_told_116 : decode cX7_told 116 = .ok (.ireturn, 1) := by decide +kernel
theorem dX7_told_117 : decode cX7_told 117 = .ok (.iconst (-1), 1) := by decide +kernel
theorem dX7_told_118 : decode cX7_told 118 = .ok (.ireturn, 1) := by decide +kernel
theorem dX7_set_0 : decode cX7_set 0 = .ok (.aload_n 0, 1) := by decide +kernel
theorem dX7_set_1 : decode cX7_set 1 = .ok (.iload_n 1, 1) := by decide +kernel
theorem dX7_set_2 : decode cX7_set 2 = .ok (.i2l, 1) := by decide +kernel
theorem dX7_set_3 : decode cX7_set 3 = .ok (.invokevirtual 109, 3) := by decide +kernel
theorem dX7_set_6 : decode cX7_set 6 = .ok (.ifCond .eq 35, 3) := by decide +kernel
theorem dX7_set_9 : decode cX7_set 9 = .ok (.iload_n 2, 1) := by decide +kernel
theorem dX7_set_10 : decode cX7_set 10 = .ok (.i2l, 1) := by decide +kernel
theorem dX7_set_11 : decode cX7_set 11 = .ok (.lconst 0, 1) := by decide +kernel
theorem dX7_set_12 : decode cX7_set 12 = .ok (.lconst 1, 1) := by decide +kernel
theorem dX7_set_13 : decode cX7_set 13 = .ok (.invokestatic 87, 3) := by decide +kernel
theorem dX7_set_16 : decode cX7_set 16 = .ok (.ifCond .eq 25, 3) := by decide +kernel
theorem dX7_set_19 : decode cX7_set 19 = .ok (.iload_n 3, 1) := by decide +kernel
theorem dX7_set_20 : decode cX7_set 20 = .ok (.i2l, 1) := by decide +kernel
theorem dX7_set_21 : decode cX7_set 21 = .ok (.lconst 0, 1) := by decide +kernel
theorem dX7_set_22 : decode cX7_set 22 = .ok (.iload_n 2, 1) := by decide +kernel
theorem dX7_set_23 : decode cX7_set 23 = .ok (.ifCond .ne 9, 3) := by decide +kernel
theorem dX7_set_26 : decode cX7_set 26 = .ok (.ldc2_w 123, 3) := by decide +kernel
theorem dX7_set_29 : decode cX7_set 29 = .ok (.goto 6, 3) := by decide +kernel
theorem dX7_set_32 : decode cX7_set 32 = .ok (.ldc2_w 91, 3) := by decide +kernel
theorem dX7_set_35 : decode cX7_set 35 = .ok (.invokestatic 87, 3) := by decide +kernel
theorem dX7_set_38 : decode cX7_set 38 = .ok (.ifCond .ne 5, 3) := by decide +kernel
theorem dX7_set_41 : decode cX7_set 41 = .ok (.iconst (-1), 1) := by decide +kernel
theorem dX7_set_42 : decode cX7_set 42 = .ok (.ireturn, 1) := by decide +kernel
theorem dX7_set_43 : decode cX7_set 43 = .ok (.iload_n 2, 1) := by decide +kernel
theorem dX7_set_44 : decode cX7_set 44 = .ok (.ifCond .ne 12, 3) := by decide +kernel
theorem dX7_set_47 : decode cX7_set 47 = .ok (.aload_n 0, 1) := by decide +kernel
theorem dX7_set_48 : decode cX7_set 48 = .ok (.getfield 19, 3) := by decide +kernel
theorem dX7_set_51 : decode cX7_set 51 = .ok (.iload_n 1, 1) := by decide +kernel
theorem dX7_set_52 : decode cX7_set 52 = .ok (.iaload, 1) := by decide +kernel
theorem dX7_set_53 : decode cX7_set 53 = .ok (.goto 9, 3) := by decide +kernel
theorem dX7_set_56 : decode cX7_set 56 = .ok (.aload_n 0, 1) := by decide +kernel
theorem dX7_set_57 : decode cX7_set 57 = .ok (.getfield 22, 3) := by decide +kernel
theorem dX7_set_60 : decode cX7_set 60 = .ok (.iload_n 1, 1) := by decide +kernel
theorem dX7_set_61 : decode cX7_set 61 = .ok (.iaload, 1) := by decide +kernel
theorem dX7_set_62 : decode cX7_set 62 = .ok (.istore 4, 2) := by decide +kernel
theorem dX7_set_64 : decode cX7_set 64 = .ok (.aload_n 0, 1) := by decide +kernel
theorem dX7_set_65 : decode cX7_set 65 = .ok (.getfield 19, 3) := by decide +kernel
theorem dX7_set_68 : decode cX7_set 68 = .ok (.iload_n 1, 1) := by decide +kernel
theorem dX7_set_69 : decode cX7_set 69 = .ok (.iload_n 2, 1) := by decide +kernel
theorem dX7_set_70 : decode cX7_set 70 = .ok (.ifCond .ne 7, 3) := by decide +kernel
theorem dX7_set_73 : decode cX7_set 73 = .ok (.iload_n 3, 1) := by decide +kernel
theorem dX7_set_74 : decode cX7_set 74 = .ok (.goto 9, 3) := by decide +kernel
theorem dX7_set_77 : decode cX7_set 77 = .ok (.aload_n 0, 1) := by decide +kernel
theorem dX7_set_78 : decode cX7_set 78 = .ok (.getfield 19, 3) := by decide +kernel
theorem dX7_set_81 : decode cX7_set 81 = .ok (.iload_n 1, 1) := by decide +kernel
theorem dX7_set_82 : decode cX7_set 82 = .ok (.iaload, 1) := by decide +kernel
theorem dX7_set_83 : decode cX7_set 83 = .ok (.iastore, 1) := by decide +kernel
theorem dX7_set_84 : decode cX7_set 84 = .ok (.aload_n 0, 1) := by decide +kernel
theorem dX7_set_85 : decode cX7_set 85 = .ok (.getfield 22, 3) := by decide +kernel
theorem dX7_set_88 : decode cX7_set 88 = .ok (.iload_n 1, 1) := by decide +kernel
theorem dX7_set_89 : decode cX7_set 89 = .ok (.iload_n 2, 1) := by decide +kernel
theorem dX7_set_90 : decode cX7_set 90 = .ok (.ifCond .ne 12, 3) := by decide +kernel
theorem dX7_set_93 : decode cX7_set 93 = .ok (.aload_n 0, 1) := by decide +kernel
theorem dX7_set_94 : decode cX7_set 94 = .ok (.getfield 22, 3) := by decide +kernel
theorem dX7_set_97 : decode cX7_set 97 = .ok (.iload_n 1, 1) := by decide +kernel
theorem dX7_set_98 : decode cX7_set 98 = .ok (.iaload, 1) := by decide +kernel
theorem dX7_set_99 : decode cX7_set 99 = .ok (.goto 4, 3) := by decide +kernel
theorem dX7_set_102 : decode cX7_set 102 = .ok (.iload_n 3, 1) := by decide +kernel
theorem dX7_set_103 : decode cX7_set 103 = .ok (.iastore, 1) := by decide +kernel
theorem dX7_set_104 : decode cX7_set 104 = .ok (.iload 4, 2) := by decide +kernel
theorem dX7_set_106 : decode cX7_set 106 = .ok (.ireturn, 1) := by decide +kernel
theorem dX7_worth_0 : decode cX7_worth 0 = .ok (.aload_n 0, 1) := by decide +kernel
theorem dX7_worth_1 : decode cX7_worth 1 = .ok (.iload_n 1, 1) := by decide +kernel
theorem dX7_worth_2 : decode cX7_worth 2 = .ok (.i2l, 1) := by decide +kernel
theorem dX7_worth_3 : decode cX7_worth 3 = .ok (.invokevirtual 109, 3) := by decide +kernel
theorem dX7_worth_6 : decode cX7_worth 6 = .ok (.ifCond .eq 29, 3) := by decide +kernel
theorem dX7_worth_9 : decode cX7_worth 9 = .ok (.iload_n 2, 1) := by decide +kernel
theorem dX7_worth_10 : decode cX7_worth 10 = .ok (.i2l, 1) := by decide +kernel
theorem dX7_worth_11 : decode cX7_worth 11 = .ok (.lconst 0, 1) := by decide +kernel
theorem dX7_worth_12 : decode cX7_worth 12 = .ok (.ldc2_w 93, 3) := by decide +kernel
theorem dX7_worth_15 : decode cX7_worth 15 = .ok (.invokestatic 87, 3) := by decide +kernel
theorem dX7_worth_18 : decode cX7_worth 18 = .ok (.ifCond .eq 17, 3) := by decide +kernel
theorem dX7_worth_21 : decode cX7_worth 21 = .ok (.iload_n 3, 1) := by decide +kernel
theorem dX7_worth_22 : decode cX7_worth 22 = .ok (.i2l, 1) := by decide +kernel
theorem dX7_worth_23 : decode cX7_worth 23 = .ok (.ldc2_w 125, 3) := by decide +kernel
theorem dX7_worth_26 : decode cX7_worth 26 = .ok (.ldc2_w 123, 3) := by decide +kernel
theorem dX7_worth_29 : decode cX7_worth 29 = .ok (.invokestatic 87, 3) := by decide +kernel
theorem dX7_worth_32 : decode cX7_worth 32 = .ok (.ifCond .ne 6, 3) := by decide +kernel
theorem dX7_worth_35 : decode cX7_worth 35 = .ok (.ldc 127, 2) := by decide +kernel
theorem dX7_worth_37 : decode cX7_worth 37 = .ok (.ireturn, 1) := by decide +kernel
theorem dX7_worth_38 : decode cX7_worth 38 = .ok (.aload_n 0, 1) := by decide +kernel
theorem dX7_worth_39 : decode cX7_worth 39 = .ok (.getfield 25, 3) := by decide +kernel
theorem dX7_worth_42 : decode cX7_worth 42 = .ok (.iconst 4, 1) := by decide +kernel
theorem dX7_worth_43 : decode cX7_worth 43 = .ok (.iload_n 1, 1) := by decide +kernel
theorem dX7_worth_44 : decode cX7_worth 44 = .ok (.imul, 1) := by decide +kernel
theorem dX7_worth_45 : decode cX7_worth 45 = .ok (.iload_n 2, 1) := by decide +kernel
theorem dX7_worth_46 : decode cX7_worth 46 = .ok (.iadd, 1) := by decide +kernel
theorem dX7_worth_47 : decode cX7_worth 47 = .ok (.iaload, 1) := by decide +kernel
theorem dX7_worth_48 : decode cX7_worth 48 = .ok (.istore 4, 2) := by decide +kernel
theorem dX7_worth_50 : decode cX7_worth 50 = .ok (.aload_n 0, 1) := by decide +kernel
theorem dX7_worth_51 : decode cX7_worth 51 = .ok (.getfield 25, 3) := by decide +kernel
theorem dX7_worth_54 : decode cX7_worth 54 = .ok (.iconst 4, 1) := by decide +kernel
theorem dX7_worth_55 : decode cX7_worth 55 = .ok (.iload_n 1, 1) := by decide +kernel
theorem dX7_worth_56 : decode cX7_worth 56 = .ok (.imul, 1) := by decide +kernel
theorem dX7_worth_57 : decode cX7_worth 57 = .ok (.iload_n 2, 1) := by decide +kernel
theorem dX7_worth_58 : decode cX7_worth 58 = .ok (.iadd, 1) := by decide +kernel
theorem dX7_worth_59 : decode cX7_worth 59 = .ok (.iload_n 3, 1) := by decide +kernel
theorem dX7_worth_60 : decode cX7_worth 60 = .ok (.iastore, 1) := by decide +kernel
theorem dX7_worth_61 : decode cX7_worth 61 = .ok (.iload 4, 2) := by decide +kernel
theorem dX7_worth_63 : decode cX7_worth 63 = .ok (.ireturn, 1) := by decide +kernel
theorem dX7_worthOf_0 : decode cX7_worthOf 0 = .ok (.aload_n 0, 1) := by decide +kernel
theorem dX7_worthOf_1 : decode cX7_worthOf 1 = .ok (.iload_n 1, 1) := by decide +kernel
theorem dX7_worthOf_2 : decode cX7_worthOf 2 = .ok (.i2l, 1) := by decide +kernel
theorem dX7_worthOf_3 : decode cX7_worthOf 3 = .ok (.invokevirtual 109, 3) := by decide +kernel
theorem dX7_worthOf_6 : decode cX7_worthOf 6 = .ok (.ifCond .eq 28, 3) := by decide +kernel
theorem dX7_worthOf_9 : decode cX7_worthOf 9 = .ok (.iload_n 2, 1) := by decide +kernel
theorem dX7_worthOf_10 : decode cX7_worthOf 10 = .ok (.i2l, 1) := by decide +kernel
theorem dX7_worthOf_11 : decode cX7_worthOf 11 = .ok (.lconst 0, 1) := by decide +kernel
theorem dX7_worthOf_12 : decode cX7_worthOf 12 = .ok (.ldc2_w 93, 3) := by decide +kernel
theorem dX7_worthOf_15 : decode cX7_worthOf 15 = .ok (.invokestatic 87, 3) := by decide +kernel
theorem dX7_worthOf_18 : decode cX7_worthOf 18 = .ok (.ifCond .eq 16, 3) := by decide +kernel
theorem dX7_worthOf_21 : decode cX7_worthOf 21 = .ok (.aload_n 0, 1) := by decide +kernel
theorem dX7_worthOf_22 : decode cX7_worthOf 22 = .ok (.getfield 25, 3) := by decide +kernel
theorem dX7_worthOf_25 : decode cX7_worthOf 25 = .ok (.iconst 4, 1) := by decide +kernel
theorem dX7_worthOf_26 : decode cX7_worthOf 26 = .ok (.iload_n 1, 1) := by decide +kernel
theorem dX7_worthOf_27 : decode cX7_worthOf 27 = .ok (.imul, 1) := by decide +kernel
theorem dX7_worthOf_28 : decode cX7_worthOf 28 = .ok (.iload_n 2, 1) := by decide +kernel
theorem dX7_worthOf_29 : decode cX7_worthOf 29 = .ok (.iadd, 1) := by decide +kernel
theorem dX7_worthOf_30 : decode cX7_worthOf 30 = .ok (.iaload, 1) := by decide +kernel
theorem dX7_worthOf_31 : decode cX7_worthOf 31 = .ok (.goto 5, 3) := by decide +kernel
theorem dX7_worthOf_34 : decode cX7_worthOf 34 = .ok (.ldc 127, 2) := by decide +kernel
theorem dX7_worthOf_36 : decode cX7_worthOf 36 = .ok (.ireturn, 1) := by decide +kernel
theorem dX7_last_0 : decode cX7_last 0 = .ok (.aload_n 0, 1) := by decide +kernel
theorem dX7_last_1 : decode cX7_last 1 = .ok (.iload_n 1, 1) := by decide +kernel
theorem dX7_last_2 : decode cX7_last 2 = .ok (.i2l, 1) := by decide +kernel
theorem dX7_last_3 : decode cX7_last 3 = .ok (.invokevirtual 128, 3) := by decide +kernel
theorem dX7_last_6 : decode cX7_last 6 = .ok (.ifCond .ne 5, 3) := by decide +kernel
theorem dX7_last_9 : decode cX7_last 9 = .ok (.iconst (-1), 1) := by decide +kernel
theorem dX7_last_10 : decode cX7_last 10 = .ok (.ireturn, 1) := by decide +kernel
theorem dX7_last_11 : decode cX7_last 11 = .ok (.aload_n 0, 1) := by decide +kernel
theorem dX7_last_12 : decode cX7_last 12 = .ok (.getfield 116, 3) := by decide +kernel
theorem dX7_last_15 : decode cX7_last 15 = .ok (.istore_n 2, 1) := by decide +kernel
theorem dX7_last_16 : decode cX7_last 16 = .ok (.aload_n 0, 1) := by decide +kernel
theorem dX7_last_17 : decode cX7_last 17 = .ok (.iload_n 1, 1) := by decide +kernel
theorem dX7_last_18 : decode cX7_last 18 = .ok (.putfield 116, 3) := by decide +kernel
theorem dX7_last_21 : decode cX7_last 21 = .ok (.iload_n 2, 1) := by decide +kernel
theorem dX7_last_22 : decode cX7_last 22 = .ok (.ireturn, 1) := by decide +kernel
theorem dX7_count_0 : decode cX7_count 0 = .ok (.iload_n 1, 1) := by decide +kernel
theorem dX7_count_1 : decode cX7_count 1 = .ok (.tableswitch 88 0 6 #[43, 48, 53, 60, 65, 78, 83], 43) := by decide +kernel
theorem dX7_count_44 : decode cX7_count 44 = .ok (.aload_n 0, 1) := by decide +kernel
theorem dX7_count_45 : decode cX7_count 45 = .ok (.getfield 77, 3) := by decide +kernel
theorem dX7_count_48 : decode cX7_count 48 = .ok (.ireturn, 1) := by decide +kernel
theorem dX7_count_49 : decode cX7_count 49 = .ok (.aload_n 0, 1) := by decide +kernel
theorem dX7_count_50 : decode cX7_count 50 = .ok (.getfield 84, 3) := by decide +kernel
theorem dX7_count_53 : decode cX7_count 53 = .ok (.ireturn, 1) := by decide +kernel
theorem dX7_count_54 : decode cX7_count 54 = .ok (.aload_n 0, 1) := by decide +kernel
theorem dX7_count_55 : decode cX7_count 55 = .ok (.getfield 81, 3) := by decide +kernel
theorem dX7_count_58 : decode cX7_count 58 = .ok (.iconst 1, 1) := by decide +kernel
theorem dX7_count_59 : decode cX7_count 59 = .ok (.iadd, 1) := by decide +kernel
theorem dX7_count_60 : decode cX7_count 60 = .ok (.ireturn, 1) := by decide +kernel
theorem dX7_count_61 : decode cX7_count 61 = .ok (.aload_n 0, 1) := by decide +kernel
theorem dX7_count_62 : decode cX7_count 62 = .ok (.getfield 131, 3) := by decide +kernel
theorem dX7_count_65 : decode cX7_count 65 = .ok (.ireturn, 1) := by decide +kernel
theorem dX7_count_66 : decode cX7_count 66 = .ok (.aload_n 0, 1) := by decide +kernel
theorem dX7_count_67 : decode cX7_count 67 = .ok (.aload_n 0, 1) := by decide +kernel
theorem dX7_count_68 : decode cX7_count 68 = .ok (.getfield 113, 3) := by decide +kernel
theorem dX7_count_71 : decode cX7_count 71 = .ok (.aload_n 0, 1) := by decide +kernel
theorem dX7_count_72 : decode cX7_count 72 = .ok (.getfield 116, 3) := by decide +kernel
theorem dX7_count_75 : decode cX7_count 75 = .ok (.invokevirtual 119, 3) := by decide +kernel
theorem dX7_count_78 : decode cX7_count 78 = .ok (.ireturn, 1) := by decide +kernel
theorem dX7_count_79 : decode cX7_count 79 = .ok (.aload_n 0, 1) := by decide +kernel
theorem dX7_count_80 : decode cX7_count 80 = .ok (.getfield 113, 3) := by decide +kernel
theorem dX7_count_83 : decode cX7_count 83 = .ok (.ireturn, 1) := by decide +kernel
theorem dX7_count_84 : decode cX7_count 84 = .ok (.aload_n 0, 1) := by decide +kernel
theorem dX7_count_85 : decode cX7_count 85 = .ok (.getfield 116, 3) := by decide +kernel
theorem dX7_count_88 : decode cX7_count 88 = .ok (.ireturn, 1) := by decide +kernel
theorem dX7_count_89 : decode cX7_count 89 = .ok (.iconst (-1), 1) := by decide +kernel
theorem dX7_count_90 : decode cX7_count 90 = .ok (.ireturn, 1) := by decide +kernel
theorem dX7_type_0 : decode cX7_type 0 = .ok (.iload_n 1, 1) := by decide +kernel
theorem dX7_type_1 : decode cX7_type 1 = .ok (.i2l, 1) := by decide +kernel
theorem dX7_type_2 : decode cX7_type 2 = .ok (.ldc2_w 134, 3) := by decide +kernel
theorem dX7_type_5 : decode cX7_type 5 = .ok (.ldc2_w 136, 3) := by decide +kernel
theorem dX7_type_8 : decode cX7_type 8 = .ok (.invokestatic 87, 3) := by decide +kernel
theorem dX7_type_11 : decode cX7_type 11 = .ok (.ifCond .ne 5, 3) := by decide +kernel
theorem dX7_type_14 : decode cX7_type 14 = .ok (.iconst (-1), 1) := by decide +kernel
theorem dX7_type_15 : decode cX7_type 15 = .ok (.ireturn, 1) := by decide +kernel
theorem dX7_type_16 : decode cX7_type 16 = .ok (.aload_n 0, 1) := by decide +kernel
theorem dX7_type_17 : decode cX7_type 17 = .ok (.getfield 138, 3) := by decide +kernel
theorem dX7_type_20 : decode cX7_type 20 = .ok (.bipush 80, 2) := by decide +kernel
theorem dX7_type_22 : decode cX7_type 22 = .ok (.if_icmp .ne 6, 3) := by decide +kernel
theorem dX7_type_25 : decode cX7_type 25 = .ok (.bipush (-3), 2) := by decide +kernel
theorem dX7_type_27 : decode cX7_type 27 = .ok (.ireturn, 1) := by decide +kernel
theorem dX7_type_28 : decode cX7_type 28 = .ok (.aload_n 0, 1) := by decide +kernel
theorem dX7_type_29 : decode cX7_type 29 = .ok (.getfield 28, 3) := by decide +kernel
theorem dX7_type_32 : decode cX7_type 32 = .ok (.aload_n 0, 1) := by decide +kernel
theorem dX7_type_33 : decode cX7_type 33 = .ok (.getfield 138, 3) := by decide +kernel
theorem dX7_type_36 : decode cX7_type 36 = .ok (.iload_n 1, 1) := by decide +kernel
theorem dX7_type_37 : decode cX7_type 37 = .ok (.iastore, 1) := by decide +kernel
theorem dX7_type_38 : decode cX7_type 38 = .ok (.aload_n 0, 1) := by decide +kernel
theorem dX7_type_39 : decode cX7_type 39 = .ok (.dup, 1) := by decide +kernel
theorem dX7_type_40 : decode cX7_type 40 = .ok (.getfield 138, 3) := by decide +kernel
theorem dX7_type_43 : decode cX7_type 43 = .ok (.iconst 1, 1) := by decide +kernel
theorem dX7_type_44 : decode cX7_type 44 = .ok (.iadd, 1) := by decide +kernel
theorem dX7_type_45 : decode cX7_type 45 = .ok (.putfield 138, 3) := by decide +kernel
theorem dX7_type_48 : decode cX7_type 48 = .ok (.aload_n 0, 1) := by decide +kernel
theorem dX7_type_49 : decode cX7_type 49 = .ok (.getfield 138, 3) := by decide +kernel
theorem dX7_type_52 : decode cX7_type 52 = .ok (.ireturn, 1) := by decide +kernel
theorem dX7_here_0 : decode cX7_here 0 = .ok (.aload_n 0, 1) := by decide +kernel
theorem dX7_here_1 : decode cX7_here 1 = .ok (.getfield 141, 3) := by decide +kernel
theorem dX7_here_4 : decode cX7_here 4 = .ok (.aload_n 0, 1) := by decide +kernel
theorem dX7_here_5 : decode cX7_here 5 = .ok (.getfield 138, 3) := by decide +kernel
theorem dX7_here_8 : decode cX7_here 8 = .ok (.if_icmp .ge 30, 3) := by decide +kernel
theorem dX7_here_11 : decode cX7_here 11 = .ok (.aload_n 0, 1) := by decide +kernel
theorem dX7_here_12 : decode cX7_here 12 = .ok (.getfield 28, 3) := by decide +kernel
theorem dX7_here_15 : decode cX7_here 15 = .ok (.aload_n 0, 1) := by decide +kernel
theorem dX7_here_16 : decode cX7_here 16 = .ok (.getfield 141, 3) := by decide +kernel
theorem dX7_here_19 : decode cX7_here 19 = .ok (.iaload, 1) := by decide +kernel
theorem dX7_here_20 : decode cX7_here 20 = .ok (.bipush 32, 2) := by decide +kernel
theorem dX7_here_22 : decode cX7_here 22 = .ok (.if_icmp .ne 16, 3) := by decide +kernel
theorem dX7_here_25 : decode cX7_here 25 = .ok (.aload_n 0, 1) := by decide +kernel
theorem dX7_here_26 : decode cX7_here 26 = .ok (.dup, 1) := by decide +kernel
theorem dX7_here_27 : decode cX7_here 27 = .ok (.getfield 141, 3) := by decide +kernel
theorem dX7_here_30 : decode cX7_here 30 = .ok (.iconst 1, 1) := by decide +kernel
theorem dX7_here_31 : decode cX7_here 31 = .ok (.iadd, 1) := by decide +kernel
theorem dX7_here_32 : decode cX7_here 32 = .ok (.putfield 141, 3) := by decide +kernel
theorem dX7_here_35 : decode cX7_here 35 = .ok (.goto (-35), 3) := by decide +kernel
theorem dX7_here_38 : decode cX7_here 38 = .ok (.aload_n 0, 1) := by decide +kernel
theorem dX7_here_39 : decode cX7_here 39 = .ok (.getfield 141, 3) := by decide +kernel
theorem dX7_here_42 : decode cX7_here 42 = .ok (.aload_n 0, 1) := by decide +kernel
theorem dX7_here_43 : decode cX7_here 43 = .ok (.getfield 138, 3) := by decide +kernel
theorem dX7_here_46 : decode cX7_here 46 = .ok (.if_icmp .ge 15, 3) := by decide +kernel
theorem dX7_here_49 : decode cX7_here 49 = .ok (.aload_n 0, 1) := by decide +kernel
theorem dX7_here_50 : decode cX7_here 50 = .ok (.getfield 28, 3) := by decide +kernel
theorem dX7_here_53 : decode cX7_here 53 = .ok (.aload_n 0, 1) := by decide +kernel
theorem dX7_here_54 : decode cX7_here 54 = .ok (.getfield 141, 3) := by decide +kernel
theorem dX7_here_57 : decode cX7_here 57 = .ok (.iaload, 1) := by decide +kernel
theorem dX7_here_58 : decode cX7_here 58 = .ok (.goto 4, 3) := by decide +kernel
theorem dX7_here_61 : decode cX7_here 61 = .ok (.iconst 0, 1) := by decide +kernel
theorem dX7_here_62 : decode cX7_here 62 = .ok (.ireturn, 1) := by decide +kernel
theorem dX7_readDeed_0 : decode cX7_readDeed 0 = .ok (.aload_n 0, 1) := by decide +kernel
theorem dX7_readDeed_1 : decode cX7_readDeed 1 = .ok (.invokevirtual 144, 3) := by decide +kernel
theorem dX7_readDeed_4 : decode cX7_readDeed 4 = .ok (.istore_n 1, 1) := by decide +kernel
theorem dX7_readDeed_5 : decode cX7_readDeed 5 = .ok (.iload_n 1, 1) := by decide +kernel
theorem dX7_readDeed_6 : decode cX7_readDeed 6 = .ok (.bipush 112, 2) := by decide +kernel
theorem dX7_readDeed_8 : decode cX7_readDeed 8 = .ok (.if_icmp .ne 7, 3) := by decide +kernel
theorem dX7_readDeed_11 : decode cX7_readDeed 11 = .ok (.iconst 0, 1) := by decide +kernel
theorem dX7_readDeed_12 : decode cX7_readDeed 12 = .ok (.goto 35, 3) := by decide +kernel
theorem dX7_readDeed_15 : decode cX7_readDeed 15 = .ok (.iload_n 1, 1) := by decide +kernel
theorem dX7_readDeed_16 : decode cX7_readDeed 16 = .ok (.bipush 97, 2) := by decide +kernel
theorem dX7_readDeed_18 : decode cX7_readDeed 18 = .ok (.if_icmp .ne 7, 3) := by decide +kernel
theorem dX7_readDeed_21 : decode cX7_readDeed 21 = .ok (.iconst 1, 1) := by decide +kernel
theorem dX7_readDeed_22 : decode cX7_readDeed 22 = .ok (.goto 25, 3) := by decide +kernel
theorem dX7_readDeed_25 : decode cX7_readDeed 25 = .ok (.iload_n 1, 1) := by decide +kernel
theorem dX7_readDeed_26 : decode cX7_readDeed 26 = .ok (.bipush 115, 2) := by decide +kernel
theorem dX7_readDeed_28 : decode cX7_readDeed 28 = .ok (.if_icmp .ne 7, 3) := by decide +kernel
theorem dX7_readDeed_31 : decode cX7_readDeed 31 = .ok (.iconst 2, 1) := by decide +kernel
theorem dX7_readDeed_32 : decode cX7_readDeed 32 = .ok (.goto 15, 3) := by decide +kernel
theorem dX7_readDeed_35 : decode cX7_readDeed 35 = .ok (.iload_n 1, 1) := by decide +kernel
theorem dX7_readDeed_36 : decode cX7_readDeed 36 = .ok (.bipush 104, 2) := by decide +kernel
theorem dX7_readDeed_38 : decode cX7_readDeed 38 = .ok (.if_icmp .ne 7, 3) := by decide +kernel
theorem dX7_readDeed_41 : decode cX7_readDeed 41 = .ok (.iconst 3, 1) := by decide +kernel
theorem dX7_readDeed_42 : decode cX7_readDeed 42 = .ok (.goto 5, 3) := by decide +kernel
theorem dX7_readDeed_45 : decode cX7_readDeed 45 = .ok (.bipush (-4), 2) := by decide +kernel
theorem dX7_readDeed_47 : decode cX7_readDeed 47 = .ok (.istore_n 2, 1) := by decide +kernel
theorem dX7_readDeed_48 : decode cX7_readDeed 48 = .ok (.aload_n 0, 1) := by decide +kernel
theorem dX7_readDeed_49 : decode cX7_readDeed 49 = .ok (.iload_n 2, 1) := by decide +kernel
theorem dX7_readDeed_50 : decode cX7_readDeed 50 = .ok (.ifCond .ge 7, 3) := by decide +kernel
theorem dX7_readDeed_53 : decode cX7_readDeed 53 = .ok (.iconst 1, 1) := by decide +kernel
theorem dX7_readDeed_54 : decode cX7_readDeed 54 = .ok (.goto 4, 3) := by decide +kernel
theorem dX7_readDeed_57 : decode cX7_readDeed 57 = .ok (.iconst 0, 1) := by decide +kernel
theorem dX7_readDeed_58 : decode cX7_readDeed 58 = .ok (.putfield 148, 3) := by decide +kernel
theorem dX7_readDeed_61 : decode cX7_readDeed 61 = .ok (.aload_n 0, 1) := by decide +kernel
theorem dX7_readDeed_62 : decode cX7_readDeed 62 = .ok (.dup, 1) := by decide +kernel
theorem dX7_readDeed_63 : decode cX7_readDeed 63 = .ok (.getfield 141, 3) := by decide +kernel
theorem dX7_readDeed_66 : decode cX7_readDeed 66 = .ok (.aload_n 0, 1) := by decide +kernel
theorem dX7_readDeed_67 : decode cX7_readDeed 67 = .ok (.getfield 148, 3) := by decide +kernel
theorem dX7_readDeed_70 : decode cX7_readDeed 70 = .ok (.ifCond .eq 7, 3) := by decide +kernel
theorem dX7_readDeed_73 : decode cX7_readDeed 73 = .ok (.iconst 0, 1) := by decide +kernel
theorem dX7_readDeed_74 : decode cX7_readDeed 74 = .ok (.goto 4, 3) := by decide +kernel
theorem dX7_readDeed_77 : decode cX7_readDeed 77 = .ok (.iconst 1, 1) := by decide +kernel
theorem dX7_readDeed_78 : decode cX7_readDeed 78 = .ok (.iadd, 1) := by decide +kernel
theorem dX7_readDeed_79 : decode cX7_readDeed 79 = .ok (.putfield 141, 3) := by decide +kernel
theorem dX7_readDeed_82 : decode cX7_readDeed 82 = .ok (.aload_n 0, 1) := by decide +kernel
theorem dX7_readDeed_83 : decode cX7_readDeed 83 = .ok (.invokevirtual 144, 3) := by decide +kernel
theorem dX7_readDeed_86 : decode cX7_readDeed 86 = .ok (.bipush 65, 2) := by decide +kernel
theorem dX7_readDeed_88 : decode cX7_readDeed 88 = .ok (.isub, 1) := by decide +kernel
theorem dX7_readDeed_89 : decode cX7_readDeed 89 = .ok (.istore_n 3, 1) := by decide +kernel
theorem dX7_readDeed_90 : decode cX7_readDeed 90 = .ok (.aload_n 0, 1) := by decide +kernel
theorem dX7_readDeed_91 : decode cX7_readDeed 91 = .ok (.aload_n 0, 1) := by decide +kernel
theorem dX7_readDeed_92 : decode cX7_readDeed 92 = .ok (.getfield 148, 3) := by decide +kernel
theorem dX7_readDeed_95 : decode cX7_readDeed 95 = .ok (.ifCond .ne 15, 3) := by decide +kernel
theorem dX7_readDeed_98 : decode cX7_readDeed 98 = .ok (.iload_n 3, 1) := by decide +kernel
theorem dX7_readDeed_99 : decode cX7_readDeed 99 = .ok (.i2l, 1) := by decide +kernel
theorem dX7_readDeed_100 : decode cX7_readDeed 100 = .ok (.lconst 0, 1) := by decide +kernel
theorem dX7_readDeed_101 : decode cX7_readDeed 101 = .ok (.ldc2_w 95, 3) := by decide +kernel
theorem dX7_readDeed_104 : decode cX7_readDeed 104 = .ok (.invokestatic 87, 3) := by decide +kernel
theorem dX7_readDeed_107 : decode cX7_readDeed 107 = .ok (.ifCond .ne 7, 3) := by decide +kernel
theorem dX7_readDeed_110 : decode cX7_readDeed 110 = .ok (.iconst 1, 1) := by decide +kernel
theorem dX7_readDeed_111 : decode cX7_readDeed 111 = .ok (.goto 4, 3) := by decide +kernel
theorem dX7_readDeed_114 : decode cX7_readDeed 114 = .ok (.iconst 0, 1) := by decide +kernel
theorem dX7_readDeed_115 : decode cX7_readDeed 115 = .ok (.putfield 148, 3) := by decide +kernel
theorem dX7_readDeed_118 : decode cX7_readDeed 118 = .ok (.aload_n 0, 1) := by decide +kernel
theorem dX7_readDeed_119 : decode cX7_readDeed 119 = .ok (.dup, 1) := by decide +kernel
theorem dX7_readDeed_120 : decode cX7_readDeed 120 = .ok (.getfield 141, 3) := by decide +kernel
theorem dX7_readDeed_123 : decode cX7_readDeed 123 = .ok (.aload_n 0, 1) := by decide +kernel
theorem dX7_readDeed_124 : decode cX7_readDeed 124 = .ok (.getfield 148, 3) := by decide +kernel
theorem dX7_readDeed_127 : decode cX7_readDeed 127 = .ok (.ifCond .eq 7, 3) := by decide +kernel
theorem dX7_readDeed_130 : decode cX7_readDeed 130 = .ok (.iconst 0, 1) := by decide +kernel
theorem dX7_readDeed_131 : decode cX7_readDeed 131 = .ok (.goto 4, 3) := by decide +kernel
theorem dX7_readDeed_134 : decode cX7_readDeed 134 = .ok (.iconst 1, 1) := by decide +kernel
theorem dX7_readDeed_135 : decode cX7_readDeed 135 = .ok (.iadd, 1) := by decide +kernel
theorem dX7_readDeed_136 : decode cX7_readDeed 136 = .ok (.putfield 141, 3) := by decide +kernel
theorem dX7_readDeed_139 : decode cX7_readDeed 139 = .ok (.iconst 0, 1) := by decide +kernel
theorem dX7_readDeed_140 : decode cX7_readDeed 140 = .ok (.istore 4, 2) := by decide +kernel
theorem dX7_readDeed_142 : decode cX7_readDeed 142 = .ok (.aload_n 0, 1) := by decide +kernel
theorem dX7_readDeed_143 : decode cX7_readDeed 143 = .ok (.getfield 148, 3) := by decide +kernel
theorem dX7_readDeed_146 : decode cX7_readDeed 146 = .ok (.ifCond .ne 24, 3) := by decide +kernel
theorem dX7_readDeed_149 : decode cX7_readDeed 149 = .ok (.aload_n 0, 1) := by decide +kernel
theorem dX7_readDeed_150 : decode cX7_readDeed 150 = .ok (.invokevirtual 144, 3) := by decide +kernel
theorem dX7_readDeed_153 : decode cX7_readDeed 153 = .ok (.i2l, 1) := by decide +kernel
theorem dX7_readDeed_154 : decode cX7_readDeed 154 = .ok (.ldc2_w 152, 3) := by decide +kernel
theorem dX7_readDeed_157 : decode cX7_readDeed 157 = .ok (.ldc2_w 154, 3) := by decide +kernel
theorem dX7_readDeed_160 : decode cX7_readDeed 160 = .ok (.invokestatic 87, 3) := by decide +kernel
theorem dX7_readDeed_163 : decode cX7_readDeed 163 = .ok (.ifCond .eq 7, 3) := by decide +kernel
theorem dX7_readDeed_166 : decode cX7_readDeed 166 = .ok (.iconst 1, 1) := by decide +kernel
theorem dX7_readDeed_167 : decode cX7_readDeed 167 = .ok (.goto 4, 3) := by decide +kernel
theorem dX7_readDeed_170 : decode cX7_readDeed 170 = .ok (.iconst 0, 1) := by decide +kernel
theorem dX7_readDeed_171 : decode cX7_readDeed 171 = .ok (.istore 5, 2) := by decide +kernel
theorem dX7_readDeed_173 : decode cX7_readDeed 173 = .ok (.iload 5, 2) := by decide +kernel
theorem dX7_readDeed_175 : decode cX7_readDeed 175 = .ok (.ifCond .eq 116, 3) := by decide +kernel
theorem dX7_readDeed_178 : decode cX7_readDeed 178 = .ok (.aload_n 0, 1) := by decide +kernel
theorem dX7_readDeed_179 : decode cX7_readDeed 179 = .ok (.invokevirtual 144, 3) := by decide +kernel
theorem dX7_readDeed_182 : decode cX7_readDeed 182 = .ok (.bipush 97, 2) := by decide +kernel
theorem dX7_readDeed_184 : decode cX7_readDeed 184 = .ok (.isub, 1) := by decide +kernel
theorem dX7_readDeed_185 : decode cX7_readDeed 185 = .ok (.istore 6, 2) := by decide +kernel
theorem dX7_readDeed_187 : decode cX7_readDeed 187 = .ok (.aload_n 0, 1) := by decide +kernel
theorem dX7_readDeed_188 : decode cX7_readDeed 188 = .ok (.aload_n 0, 1) := by decide +kernel
theorem dX7_readDeed_189 : decode cX7_readDeed 189 = .ok (.getfield 156, 3) := by decide +kernel
theorem dX7_readDeed_192 : decode cX7_readDeed 192 = .ok (.iload_n 3, 1) := by decide +kernel
theorem dX7_readDeed_193 : decode cX7_readDeed 193 = .ok (.aload_n 0, 1) := by decide +kernel
theorem dX7_readDeed_194 : decode cX7_readDeed 194 = .ok (.getfield 34, 3) := by decide +kernel
theorem dX7_readDeed_197 : decode cX7_readDeed 197 = .ok (.invokestatic 97, 3) := by decide +kernel
theorem dX7_readDeed_200 : decode cX7_readDeed 200 = .ok (.iload 6, 2) := by decide +kernel
theorem dX7_readDeed_202 : decode cX7_readDeed 202 = .ok (.ishr, 1) := by decide +kernel
theorem dX7_readDeed_203 : decode cX7_readDeed 203 = .ok (.iconst 1, 1) := by decide +kernel
theorem dX7_readDeed_204 : decode cX7_readDeed 204 = .ok (.iand, 1) := by decide +kernel
theorem dX7_readDeed_205 : decode cX7_readDeed 205 = .ok (.ifCond .eq 14, 3) := by decide +kernel
theorem dX7_readDeed_208 : decode cX7_readDeed 208 = .ok (.iload 4, 2) := by decide +kernel
theorem dX7_readDeed_210 : decode cX7_readDeed 210 = .ok (.iload 6, 2) := by decide +kernel
theorem dX7_readDeed_212 : decode cX7_readDeed 212 = .ok (.ishr, 1) := by decide +kernel
theorem dX7_readDeed_213 : decode cX7_readDeed 213 = .ok (.iconst 1, 1) := by decide +kernel
theorem dX7_readDeed_214 : decode cX7_readDeed 214 = .ok (.iand, 1) := by decide +kernel
theorem dX7_readDeed_215 : decode cX7_readDeed 215 = .ok (.iconst 1, 1) := by decide +kernel
theorem dX7_readDeed_216 : decode cX7_readDeed 216 = .ok (.if_icmp .ne 7, 3) := by decide +kernel
theorem dX7_readDeed_219 : decode cX7_readDeed 219 = .ok (.iconst 1, 1) := by decide +kernel
theorem dX7_readDeed_220 : decode cX7_readDeed 220 = .ok (.goto 4, 3) := by decide +kernel
theorem dX7_readDeed_223 : decode cX7_readDeed 223 = .ok (.iconst 0, 1) := by decide +kernel
theorem dX7_readDeed_224 : decode cX7_readDeed 224 = .ok (.putfield 148, 3) := by decide +kernel
theorem dX7_readDeed_227 : decode cX7_readDeed 227 = .ok (.iload 4, 2) := by decide +kernel
theorem dX7_readDeed_229 : decode cX7_readDeed 229 = .ok (.iconst 1, 1) := by decide +kernel
theorem dX7_readDeed_230 : decode cX7_readDeed 230 = .ok (.iload 6, 2) := by decide +kernel
theorem dX7_readDeed_232 : decode cX7_readDeed 232 = .ok (.ishl, 1) := by decide +kernel
theorem dX7_readDeed_233 : decode cX7_readDeed 233 = .ok (.ior, 1) := by decide +kernel
theorem dX7_readDeed_234 : decode cX7_readDeed 234 = .ok (.istore 4, 2) := by decide +kernel
theorem dX7_readDeed_236 : decode cX7_readDeed 236 = .ok (.aload_n 0, 1) := by decide +kernel
theorem dX7_readDeed_237 : decode cX7_readDeed 237 = .ok (.dup, 1) := by decide +kernel
theorem dX7_readDeed_238 : decode cX7_readDeed 238 = .ok (.getfield 141, 3) := by decide +kernel
theorem dX7_readDeed_241 : decode cX7_readDeed 241 = .ok (.aload_n 0, 1) := by decide +kernel
theorem dX7_readDeed_242 : decode cX7_readDeed 242 = .ok (.getfield 148, 3) := by decide +kernel
theorem dX7_readDeed_245 : decode cX7_readDeed 245 = .ok (.ifCond .eq 7, 3) := by decide +kernel
theorem dX7_readDeed_248 : decode cX7_readDeed 248 = .ok (.iconst 0, 1) := by decide +kernel
theorem dX7_readDeed_249 : decode cX7_readDeed 249 = .ok (.goto 4, 3) := by decide +kernel
theorem dX7_readDeed_252 : decode cX7_readDeed 252 = .ok (.iconst 1, 1) := by decide +kernel
theorem dX7_readDeed_253 : decode cX7_readDeed 253 = .ok (.iadd, 1) := by decide +kernel
theorem dX7_readDeed_254 : decode cX7_readDeed 254 = .ok (.putfield 141, 3) := by decide +kernel
theorem dX7_readDeed_257 : decode cX7_readDeed 257 = .ok (.aload_n 0, 1) := by decide +kernel
theorem dX7_readDeed_258 : decode cX7_readDeed 258 = .ok (.getfield 148, 3) := by decide +kernel
theorem dX7_readDeed_261 : decode cX7_readDeed 261 = .ok (.ifCond .ne 24, 3) := by decide +kernel
theorem dX7_readDeed_264 : decode cX7_readDeed 264 = .ok (.aload_n 0, 1) := by decide +kernel
theorem dX7_readDeed_265 : decode cX7_readDeed 265 = .ok (.invokevirtual 144, 3) := by decide +kernel
theorem dX7_readDeed_268 : decode cX7_readDeed 268 = .ok (.i2l, 1) := by decide +kernel
theorem dX7_readDeed_269 : decode cX7_readDeed 269 = .ok (.ldc2_w 152, 3) := by decide +kernel
theorem dX7_readDeed_272 : decode cX7_readDeed 272 = .ok (.ldc2_w 154, 3) := by decide +kernel
theorem dX7_readDeed_275 : decode cX7_readDeed 275 = .ok (.invokestatic 87, 3) := by decide +kernel
theorem dX7_readDeed_278 : decode cX7_readDeed 278 = .ok (.ifCond .eq 7, 3) := by decide +kernel
theorem dX7_readDeed_281 : decode cX7_readDeed 281 = .ok (.iconst 1, 1) := by decide +kernel
theorem dX7_readDeed_282 : decode cX7_readDeed 282 = .ok (.goto 4, 3) := by decide +kernel
theorem dX7_readDeed_285 : decode cX7_readDeed 285 = .ok (.iconst 0, 1) := by decide +kernel
theorem dX7_readDeed_286 : decode cX7_readDeed 286 = .ok (.istore 5, 2) := by decide +kernel
theorem dX7_readDeed_288 : decode cX7_readDeed 288 = .ok (.goto (-115), 3) := by decide +kernel
theorem dX7_readDeed_291 : decode cX7_readDeed 291 = .ok (.aload_n 0, 1) := by decide +kernel
theorem dX7_readDeed_292 : decode cX7_readDeed 292 = .ok (.getfield 31, 3) := by decide +kernel
theorem dX7_readDeed_295 : decode cX7_readDeed 295 = .ok (.aload_n 0, 1) := by decide +kernel
theorem dX7_readDeed_296 : decode cX7_readDeed 296 = .ok (.getfield 156, 3) := by decide +kernel
theorem dX7_readDeed_299 : decode cX7_readDeed 299 = .ok (.iload_n 2, 1) := by decide +kernel
theorem dX7_readDeed_300 : decode cX7_readDeed 300 = .ok (.iastore, 1) := by decide +kernel
theorem dX7_readDeed_301 : decode cX7_readDeed 301 = .ok (.aload_n 0, 1) := by decide +kernel
theorem dX7_readDeed_302 : decode cX7_readDeed 302 = .ok (.getfield 34, 3) := by decide +kernel
theorem dX7_readDeed_305 : decode cX7_readDeed 305 = .ok (.aload_n 0, 1) := by decide +kernel
theorem dX7_readDeed_306 : decode cX7_readDeed 306 = .ok (.getfield 156, 3) := by decide +kernel
theorem dX7_readDeed_309 : decode cX7_readDeed 309 = .ok (.iload_n 3, 1) := by decide +kernel
theorem dX7_readDeed_310 : decode cX7_readDeed 310 = .ok (.iastore, 1) := by decide +kernel
theorem dX7_readDeed_311 : decode cX7_readDeed 311 = .ok (.aload_n 0, 1) := by decide +kernel
theorem dX7_readDeed_312 : decode cX7_readDeed 312 = .ok (.getfield 37, 3) := by decide +kernel
theorem dX7_readDeed_315 : decode cX7_readDeed 315 = .ok (.aload_n 0, 1) := by decide +kernel
theorem dX7_readDeed_316 : decode cX7_readDeed 316 = .ok (.getfield 156, 3) := by decide +kernel
theorem dX7_readDeed_319 : decode cX7_readDeed 319 = .ok (.iload 4, 2) := by decide +kernel
theorem dX7_readDeed_321 : decode cX7_readDeed 321 = .ok (.iastore, 1) := by decide +kernel
theorem dX7_readDeed_322 : decode cX7_readDeed 322 = .ok (.aload_n 0, 1) := by decide +kernel
theorem dX7_readDeed_323 : decode cX7_readDeed 323 = .ok (.dup, 1) := by decide +kernel
theorem dX7_readDeed_324 : decode cX7_readDeed 324 = .ok (.getfield 156, 3) := by decide +kernel
theorem dX7_readDeed_327 : decode cX7_readDeed 327 = .ok (.iconst 1, 1) := by decide +kernel
theorem dX7_readDeed_328 : decode cX7_readDeed 328 = .ok (.iadd, 1) := by decide +kernel
theorem dX7_readDeed_329 : decode cX7_readDeed 329 = .ok (.putfield 156, 3) := by decide +kernel
theorem dX7_readDeed_332 : decode cX7_readDeed 332 = .ok (.return_, 1) := by decide +kernel
theorem dX7_text_0 : decode cX7_text 0 = .ok (.aload_n 0, 1) := by decide +kernel
theorem dX7_text_1 : decode cX7_text 1 = .ok (.iconst 0, 1) := by decide +kernel
theorem dX7_text_2 : decode cX7_text 2 = .ok (.putfield 141, 3) := by decide +kernel
theorem dX7_text_5 : decode cX7_text 5 = .ok (.aload_n 0, 1) := by decide +kernel
theorem dX7_text_6 : decode cX7_text 6 = .ok (.iconst 0, 1) := by decide +kernel
theorem dX7_text_7 : decode cX7_text 7 = .ok (.putfield 148, 3) := by decide +kernel
theorem dX7_text_10 : decode cX7_text 10 = .ok (.aload_n 0, 1) := by decide +kernel
theorem dX7_text_11 : decode cX7_text 11 = .ok (.iconst 0, 1) := by decide +kernel
theorem dX7_text_12 : decode cX7_text 12 = .ok (.putfield 156, 3) := by decide +kernel
theorem dX7_text_15 : decode cX7_text 15 = .ok (.iconst 1, 1) := by decide +kernel
theorem dX7_text_16 : decode cX7_text 16 = .ok (.istore_n 1, 1) := by decide +kernel
theorem dX7_text_17 : decode cX7_text 17 = .ok (.iload_n 1, 1) := by decide +kernel
theorem dX7_text_18 : decode cX7_text 18 = .ok (.ifCond .eq 59, 3) := by decide +kernel
theorem dX7_text_21 : decode cX7_text 21 = .ok (.aload_n 0, 1) := by decide +kernel
theorem dX7_text_22 : decode cX7_text 22 = .ok (.invokevirtual 159, 3) := by decide +kernel
theorem dX7_text_25 : decode cX7_text 25 = .ok (.aload_n 0, 1) := by decide +kernel
theorem dX7_text_26 : decode cX7_text 26 = .ok (.getfield 148, 3) := by decide +kernel
theorem dX7_text_29 : decode cX7_text 29 = .ok (.ifCond .ne 25, 3) := by decide +kernel
theorem dX7_text_32 : decode cX7_text 32 = .ok (.aload_n 0, 1) := by decide +kernel
theorem dX7_text_33 : decode cX7_text 33 = .ok (.getfield 156, 3) := by decide +kernel
theorem dX7_text_36 : decode cX7_text 36 = .ok (.bipush 12, 2) := by decide +kernel
theorem dX7_text_38 : decode cX7_text 38 = .ok (.if_icmp .ge 16, 3) := by decide +kernel
theorem dX7_text_41 : decode cX7_text 41 = .ok (.aload_n 0, 1) := by decide +kernel
theorem dX7_text_42 : decode cX7_text 42 = .ok (.invokevirtual 144, 3) := by decide +kernel
theorem dX7_text_45 : decode cX7_text 45 = .ok (.bipush 44, 2) := by decide +kernel
theorem dX7_text_47 : decode cX7_text 47 = .ok (.if_icmp .ne 7, 3) := by decide +kernel
theorem dX7_text_50 : decode cX7_text 50 = .ok (.iconst 1, 1) := by decide +kernel
theorem dX7_text_51 : decode cX7_text 51 = .ok (.goto 4, 3) := by decide +kernel
theorem dX7_text_54 : decode cX7_text 54 = .ok (.iconst 0, 1) := by decide +kernel
theorem dX7_text_55 : decode cX7_text 55 = .ok (.istore_n 1, 1) := by decide +kernel
theorem dX7_text_56 : decode cX7_text 56 = .ok (.aload_n 0, 1) := by decide +kernel
theorem dX7_text_57 : decode cX7_text 57 = .ok (.dup, 1) := by decide +kernel
theorem dX7_text_58 : decode cX7_text 58 = .ok (.getfield 141, 3) := by decide +kernel
theorem dX7_text_61 : decode cX7_text 61 = .ok (.iload_n 1, 1) := by decide +kernel
theorem dX7_text_62 : decode cX7_text 62 = .ok (.ifCond .eq 7, 3) := by decide +kernel
theorem dX7_text_65 : decode cX7_text 65 = .ok (.iconst 1, 1) := by decide +kernel
theorem dX7_text_66 : decode cX7_text 66 = .ok (.goto 4, 3) := by decide +kernel
theorem dX7_text_69 : decode cX7_text 69 = .ok (.iconst 0, 1) := by decide +kernel
theorem dX7_text_70 : decode cX7_text 70 = .ok (.iadd, 1) := by decide +kernel
theorem dX7_text_71 : decode cX7_text 71 = .ok (.putfield 141, 3) := by decide +kernel
theorem dX7_text_74 : decode cX7_text 74 = .ok (.goto (-57), 3) := by decide +kernel
theorem dX7_text_77 : decode cX7_text 77 = .ok (.aload_n 0, 1) := by decide +kernel
theorem dX7_text_78 : decode cX7_text 78 = .ok (.aload_n 0, 1) := by decide +kernel
theorem dX7_text_79 : decode cX7_text 79 = .ok (.getfield 148, 3) := by decide +kernel
theorem dX7_text_82 : decode cX7_text 82 = .ok (.ifCond .ne 10, 3) := by decide +kernel
theorem dX7_text_85 : decode cX7_text 85 = .ok (.aload_n 0, 1) := by decide +kernel
theorem dX7_text_86 : decode cX7_text 86 = .ok (.invokevirtual 144, 3) := by decide +kernel
theorem dX7_text_89 : decode cX7_text 89 = .ok (.ifCond .eq 7, 3) := by decide +kernel
theorem dX7_text_92 : decode cX7_text 92 = .ok (.iconst 1, 1) := by decide +kernel
theorem dX7_text_93 : decode cX7_text 93 = .ok (.goto 4, 3) := by decide +kernel
theorem dX7_text_96 : decode cX7_text 96 = .ok (.iconst 0, 1) := by decide +kernel
theorem dX7_text_97 : decode cX7_text 97 = .ok (.putfield 148, 3) := by decide +kernel
theorem dX7_text_100 : decode cX7_text 100 = .ok (.aload_n 0, 1) := by decide +kernel
theorem dX7_text_101 : decode cX7_text 101 = .ok (.iconst 0, 1) := by decide +kernel
theorem dX7_text_102 : decode cX7_text 102 = .ok (.putfield 138, 3) := by decide +kernel
theorem dX7_text_105 : decode cX7_text 105 = .ok (.aload_n 0, 1) := by decide +kernel
theorem dX7_text_106 : decode cX7_text 106 = .ok (.getfield 148, 3) := by decide +kernel
theorem dX7_text_109 : decode cX7_text 109 = .ok (.ifCond .eq 11, 3) := by decide +kernel
theorem dX7_text_112 : decode cX7_text 112 = .ok (.bipush (-20), 2) := by decide +kernel
theorem dX7_text_114 : decode cX7_text 114 = .ok (.aload_n 0, 1) := by decide +kernel
theorem dX7_text_115 : decode cX7_text 115 = .ok (.getfield 141, 3) := by decide +kernel
theorem dX7_text_118 : decode cX7_text 118 = .ok (.isub, 1) := by decide +kernel
theorem dX7_text_119 : decode cX7_text 119 = .ok (.ireturn, 1) := by decide +kernel
theorem dX7_text_120 : decode cX7_text 120 = .ok (.aload_n 0, 1) := by decide +kernel
theorem dX7_text_121 : decode cX7_text 121 = .ok (.iconst 0, 1) := by decide +kernel
theorem dX7_text_122 : decode cX7_text 122 = .ok (.putfield 84, 3) := by decide +kernel
theorem dX7_text_125 : decode cX7_text 125 = .ok (.iconst 0, 1) := by decide +kernel
theorem dX7_text_126 : decode cX7_text 126 = .ok (.istore_n 2, 1) := by decide +kernel
theorem dX7_text_127 : decode cX7_text 127 = .ok (.iload_n 2, 1) := by decide +kernel
theorem dX7_text_128 : decode cX7_text 128 = .ok (.aload_n 0, 1) := by decide +kernel
theorem dX7_text_129 : decode cX7_text 129 = .ok (.getfield 156, 3) := by decide +kernel
theorem dX7_text_132 : decode cX7_text 132 = .ok (.if_icmp .ge 31, 3) := by decide +kernel
theorem dX7_text_135 : decode cX7_text 135 = .ok (.aload_n 0, 1) := by decide +kernel
theorem dX7_text_136 : decode cX7_text 136 = .ok (.aload_n 0, 1) := by decide +kernel
theorem dX7_text_137 : decode cX7_text 137 = .ok (.getfield 31, 3) := by decide +kernel
theorem dX7_text_140 : decode cX7_text 140 = .ok (.iload_n 2, 1) := by decide +kernel
theorem dX7_text_141 : decode cX7_text 141 = .ok (.iaload, 1) := by decide +kernel
theorem dX7_text_142 : decode cX7_text 142 = .ok (.aload_n 0, 1) := by decide +kernel
theorem dX7_text_143 : decode cX7_text 143 = .ok (.getfield 34, 3) := by decide +kernel
theorem dX7_text_146 : decode cX7_text 146 = .ok (.iload_n 2, 1) := by decide +kernel
theorem dX7_text_147 : decode cX7_text 147 = .ok (.iaload, 1) := by decide +kernel
theorem dX7_text_148 : decode cX7_text 148 = .ok (.aload_n 0, 1) := by decide +kernel
theorem dX7_text_149 : decode cX7_text 149 = .ok (.getfield 37, 3) := by decide +kernel
theorem dX7_text_152 : decode cX7_text 152 = .ok (.iload_n 2, 1) := by decide +kernel
theorem dX7_text_153 : decode cX7_text 153 = .ok (.iaload, 1) := by decide +kernel
theorem dX7_text_154 : decode cX7_text 154 = .ok (.invokevirtual 101, 3) := by decide +kernel
theorem dX7_text_157 : decode cX7_text 157 = .ok (.iinc 2 1, 3) := by decide +kernel
theorem dX7_text_160 : decode cX7_text 160 = .ok (.goto (-33), 3) := by decide +kernel
theorem dX7_text_163 : decode cX7_text 163 = .ok (.aload_n 0, 1) := by decide +kernel
theorem dX7_text_164 : decode cX7_text 164 = .ok (.iconst 0, 1) := by decide +kernel
theorem dX7_text_165 : decode cX7_text 165 = .ok (.putfield 116, 3) := by decide +kernel
theorem dX7_text_168 : decode cX7_text 168 = .ok (.aload_n 0, 1) := by decide +kernel
theorem dX7_text_169 : decode cX7_text 169 = .ok (.iconst 0, 1) := by decide +kernel
theorem dX7_text_170 : decode cX7_text 170 = .ok (.putfield 113, 3) := by decide +kernel
theorem dX7_text_173 : decode cX7_text 173 = .ok (.aload_n 0, 1) := by decide +kernel
theorem dX7_text_174 : decode cX7_text 174 = .ok (.bipush 11, 2) := by decide +kernel
theorem dX7_text_176 : decode cX7_text 176 = .ok (.putfield 81, 3) := by decide +kernel
theorem dX7_text_179 : decode cX7_text 179 = .ok (.aload_n 0, 1) := by decide +kernel
theorem dX7_text_180 : decode cX7_text 180 = .ok (.getfield 84, 3) := by decide +kernel
theorem dX7_text_183 : decode cX7_text 183 = .ok (.ireturn, 1) := by decide +kernel
theorem dX7_ofDay_0 : decode cX7_ofDay 0 = .ok (.iconst 0, 1) := by decide +kernel
theorem dX7_ofDay_1 : decode cX7_ofDay 1 = .ok (.istore_n 2, 1) := by decide +kernel
theorem dX7_ofDay_2 : decode cX7_ofDay 2 = .ok (.iconst 0, 1) := by decide +kernel
theorem dX7_ofDay_3 : decode cX7_ofDay 3 = .ok (.istore_n 3, 1) := by decide +kernel
theorem dX7_ofDay_4 : decode cX7_ofDay 4 = .ok (.iload_n 3, 1) := by decide +kernel
theorem dX7_ofDay_5 : decode cX7_ofDay 5 = .ok (.aload_n 0, 1) := by decide +kernel
theorem dX7_ofDay_6 : decode cX7_ofDay 6 = .ok (.getfield 84, 3) := by decide +kernel
theorem dX7_ofDay_9 : decode cX7_ofDay 9 = .ok (.if_icmp .ge 29, 3) := by decide +kernel
theorem dX7_ofDay_12 : decode cX7_ofDay 12 = .ok (.iload_n 2, 1) := by decide +kernel
theorem dX7_ofDay_13 : decode cX7_ofDay 13 = .ok (.aload_n 0, 1) := by decide +kernel
theorem dX7_ofDay_14 : decode cX7_ofDay 14 = .ok (.getfield 13, 3) := by decide +kernel
theorem dX7_ofDay_17 : decode cX7_ofDay 17 = .ok (.iload_n 3, 1) := by decide +kernel
theorem dX7_ofDay_18 : decode cX7_ofDay 18 = .ok (.iaload, 1) := by decide +kernel
theorem dX7_ofDay_19 : decode cX7_ofDay 19 = .ok (.iload_n 1, 1) := by decide +kernel
theorem dX7_ofDay_20 : decode cX7_ofDay 20 = .ok (.if_icmp .ne 9, 3) := by decide +kernel
theorem dX7_ofDay_23 : decode cX7_ofDay 23 = .ok (.iconst 1, 1) := by decide +kernel
theorem dX7_ofDay_24 : decode cX7_ofDay 24 = .ok (.iload_n 3, 1) := by decide +kernel
theorem dX7_ofDay_25 : decode cX7_ofDay 25 = .ok (.ishl, 1) := by decide +kernel
theorem dX7_ofDay_26 : decode cX7_ofDay 26 = .ok (.goto 4, 3) := by decide +kernel
theorem dX7_ofDay_29 : decode cX7_ofDay 29 = .ok (.iconst 0, 1) := by decide +kernel
theorem dX7_ofDay_30 : decode cX7_ofDay 30 = .ok (.ior, 1) := by decide +kernel
theorem dX7_ofDay_31 : decode cX7_ofDay 31 = .ok (.istore_n 2, 1) := by decide +kernel
theorem dX7_ofDay_32 : decode cX7_ofDay 32 = .ok (.iinc 3 1, 3) := by decide +kernel
theorem dX7_ofDay_35 : decode cX7_ofDay 35 = .ok (.goto (-31), 3) := by decide +kernel
theorem dX7_ofDay_38 : decode cX7_ofDay 38 = .ok (.iload_n 2, 1) := by decide +kernel
theorem dX7_ofDay_39 : decode cX7_ofDay 39 = .ok (.ireturn, 1) := by decide +kernel
theorem dX7_right_0 : decode cX7_right 0 = .ok (.aload_n 0, 1) := by decide +kernel
theorem dX7_right_1 : decode cX7_right 1 = .ok (.iload_n 1, 1) := by decide +kernel
theorem dX7_right_2 : decode cX7_right 2 = .ok (.i2l, 1) := by decide +kernel
theorem dX7_right_3 : decode cX7_right 3 = .ok (.invokevirtual 109, 3) := by decide +kernel
theorem dX7_right_6 : decode cX7_right 6 = .ok (.ifCond .ne 5, 3) := by decide +kernel
theorem dX7_right_9 : decode cX7_right 9 = .ok (.iconst (-1), 1) := by decide +kernel
theorem dX7_right_10 : decode cX7_right 10 = .ok (.ireturn, 1) := by decide +kernel
theorem dX7_right_11 : decode cX7_right 11 = .ok (.aload_n 0, 1) := by decide +kernel
theorem dX7_right_12 : decode cX7_right 12 = .ok (.aload_n 0, 1) := by decide +kernel
theorem dX7_right_13 : decode cX7_right 13 = .ok (.getfield 113, 3) := by decide +kernel
theorem dX7_right_16 : decode cX7_right 16 = .ok (.aload_n 0, 1) := by decide +kernel
theorem dX7_right_17 : decode cX7_right 17 = .ok (.getfield 116, 3) := by decide +kernel
theorem dX7_right_20 : decode cX7_right 20 = .ok (.invokevirtual 119, 3) := by decide +kernel
theorem dX7_right_23 : decode cX7_right 23 = .ok (.istore_n 2, 1) := by decide +kernel
theorem dX7_right_24 : decode cX7_right 24 = .ok (.aload_n 0, 1) := by decide +kernel
theorem dX7_right_25 : decode cX7_right 25 = .ok (.getfield 13, 3) := by decide +kernel
theorem dX7_right_28 : decode cX7_right 28 = .ok (.iload_n 1, 1) := by decide +kernel
theorem dX7_right_29 : decode cX7_right 29 = .ok (.iaload, 1) := by decide +kernel
theorem dX7_right_30 : decode cX7_right 30 = .ok (.aload_n 0, 1) := by decide +kernel
theorem dX7_right_31 : decode cX7_right 31 = .ok (.getfield 81, 3) := by decide +kernel
theorem dX7_right_34 : decode cX7_right 34 = .ok (.if_icmp .ne 27, 3) := by decide +kernel
theorem dX7_right_37 : decode cX7_right 37 = .ok (.iload_n 2, 1) := by decide +kernel
theorem dX7_right_38 : decode cX7_right 38 = .ok (.iload_n 1, 1) := by decide +kernel
theorem dX7_right_39 : decode cX7_right 39 = .ok (.ishr, 1) := by decide +kernel
theorem dX7_right_40 : decode cX7_right 40 = .ok (.iconst 1, 1) := by decide +kernel
theorem dX7_right_41 : decode cX7_right 41 = .ok (.iand, 1) := by decide +kernel
theorem dX7_right_42 : decode cX7_right 42 = .ok (.ifCond .eq 19, 3) := by decide +kernel
theorem dX7_right_45 : decode cX7_right 45 = .ok (.aload_n 0, 1) := by decide +kernel
theorem dX7_right_46 : decode cX7_right 46 = .ok (.aload_n 0, 1) := by decide +kernel
theorem dX7_right_47 : decode cX7_right 47 = .ok (.getfield 81, 3) := by decide +kernel
theorem dX7_right_50 : decode cX7_right 50 = .ok (.invokevirtual 162, 3) := by decide +kernel
theorem dX7_right_53 : decode cX7_right 53 = .ok (.aload_n 0, 1) := by decide +kernel
theorem dX7_right_54 : decode cX7_right 54 = .ok (.getfield 113, 3) := by decide +kernel
theorem dX7_right_57 : decode cX7_right 57 = .ok (.iand, 1) := by decide +kernel
theorem dX7_right_58 : decode cX7_right 58 = .ok (.ifCond .eq 6, 3) := by decide +kernel
theorem dX7_right_61 : decode cX7_right 61 = .ok (.bipush (-2), 2) := by decide +kernel
theorem dX7_right_63 : decode cX7_right 63 = .ok (.ireturn, 1) := by decide +kernel
theorem dX7_right_64 : decode cX7_right 64 = .ok (.aload_n 0, 1) := by decide +kernel
theorem dX7_right_65 : decode cX7_right 65 = .ok (.dup, 1) := by decide +kernel
theorem dX7_right_66 : decode cX7_right 66 = .ok (.getfield 113, 3) := by decide +kernel
theorem dX7_right_69 : decode cX7_right 69 = .ok (.iconst 1, 1) := by decide +kernel
theorem dX7_right_70 : decode cX7_right 70 = .ok (.iload_n 1, 1) := by decide +kernel
theorem dX7_right_71 : decode cX7_right 71 = .ok (.ishl, 1) := by decide +kernel
theorem dX7_right_72 : decode cX7_right 72 = .ok (.ior, 1) := by decide +kernel
theorem dX7_right_73 : decode cX7_right 73 = .ok (.putfield 113, 3) := by decide +kernel
theorem dX7_right_76 : decode cX7_right 76 = .ok (.iload_n 2, 1) := by decide +kernel
theorem dX7_right_77 : decode cX7_right 77 = .ok (.aload_n 0, 1) := by decide +kernel
theorem dX7_right_78 : decode cX7_right 78 = .ok (.aload_n 0, 1) := by decide +kernel
theorem dX7_right_79 : decode cX7_right 79 = .ok (.getfield 113, 3) := by decide +kernel
theorem dX7_right_82 : decode cX7_right 82 = .ok (.aload_n 0, 1) := by decide +kernel
theorem dX7_right_83 : decode cX7_right 83 = .ok (.getfield 116, 3) := by decide +kernel
theorem dX7_right_86 : decode cX7_right 86 = .ok (.invokevirtual 119, 3) := by decide +kernel
theorem dX7_right_89 : decode cX7_right 89 = .ok (.iconst (-1), 1) := by decide +kernel
theorem dX7_right_90 : decode cX7_right 90 = .ok (.ixor, 1) := by decide +kernel
theorem dX7_right_91 : decode cX7_right 91 = .ok (.iand, 1) := by decide +kernel
theorem dX7_right_92 : decode cX7_right 92 = .ok (.ireturn, 1) := by decide +kernel
theorem dX7_back_0 : decode cX7_back 0 = .ok (.aload_n 0, 1) := by decide +kernel
theorem dX7_back_1 : decode cX7_back 1 = .ok (.getfield 81, 3) := by decide +kernel
theorem dX7_back_4 : decode cX7_back 4 = .ok (.ifCond .ge 6, 3) := by decide +kernel
theorem dX7_back_7 : decode cX7_back 7 = .ok (.ldc 166, 2) := by decide +kernel
theorem dX7_back_9 : decode cX7_back 9 = .ok (.ireturn, 1) := by decide +kernel
theorem dX7_back_10 : decode cX7_back 10 = .ok (.aload_n 0, 1) := by decide +kernel
theorem dX7_back_11 : decode cX7_back 11 = .ok (.dup, 1) := by decide +kernel
theorem dX7_back_12 : decode cX7_back 12 = .ok (.getfield 81, 3) := by decide +kernel
theorem dX7_back_15 : decode cX7_back 15 = .ok (.iconst 1, 1) := by decide +kernel
theorem dX7_back_16 : decode cX7_back 16 = .ok (.isub, 1) := by decide +kernel
theorem dX7_back_17 : decode cX7_back 17 = .ok (.putfield 81, 3) := by decide +kernel
theorem dX7_back_20 : decode cX7_back 20 = .ok (.aload_n 0, 1) := by decide +kernel
theorem dX7_back_21 : decode cX7_back 21 = .ok (.getfield 81, 3) := by decide +kernel
theorem dX7_back_24 : decode cX7_back 24 = .ok (.ireturn, 1) := by decide +kernel
theorem dX7_size_0 : decode cX7_size 0 = .ok (.iconst 0, 1) := by decide +kernel
theorem dX7_size_1 : decode cX7_size 1 = .ok (.istore_n 1, 1) := by decide +kernel
theorem dX7_size_2 : decode cX7_size 2 = .ok (.iload_n 0, 1) := by decide +kernel
theorem dX7_size_3 : decode cX7_size 3 = .ok (.istore_n 2, 1) := by decide +kernel
theorem dX7_size_4 : decode cX7_size 4 = .ok (.iload_n 2, 1) := by decide +kernel
theorem dX7_size_5 : decode cX7_size 5 = .ok (.ifCond .eq 15, 3) := by decide +kernel
theorem dX7_size_8 : decode cX7_size 8 = .ok (.iinc 1 1, 3) := by decide +kernel
theorem dX7_size_11 : decode cX7_size 11 = .ok (.iload_n 2, 1) := by decide +kernel
theorem dX7_size_12 : decode cX7_size 12 = .ok (.iload_n 2, 1) := by decide +kernel
theorem dX7_size_13 : decode cX7_size 13 = .ok (.iconst 1, 1) := by decide +kernel
theorem dX7_size_14 : decode cX7_size 14 = .ok (.isub, 1) := by decide +kernel
theorem dX7_size_15 : decode cX7_size 15 = .ok (.iand, 1) := by decide +kernel
theorem dX7_size_16 : decode cX7_size 16 = .ok (.istore_n 2, 1) := by decide +kernel
theorem dX7_size_17 : decode cX7_size 17 = .ok (.goto (-13), 3) := by decide +kernel
theorem dX7_size_20 : decode cX7_size 20 = .ok (.iload_n 1, 1) := by decide +kernel
theorem dX7_size_21 : decode cX7_size 21 = .ok (.ireturn, 1) := by decide +kernel
theorem dX7_year_0 : decode cX7_year 0 = .ok (.aload_n 0, 1) := by decide +kernel
theorem dX7_year_1 : decode cX7_year 1 = .ok (.getfield 131, 3) := by decide +kernel
theorem dX7_year_4 : decode cX7_year 4 = .ok (.sipush 9999, 3) := by decide +kernel
theorem dX7_year_7 : decode cX7_year 7 = .ok (.if_icmp .ne 6, 3) := by decide +kernel
theorem dX7_year_10 : decode cX7_year 10 = .ok (.bipush (-3), 2) := by decide +kernel
theorem dX7_year_12 : decode cX7_year 12 = .ok (.ireturn, 1) := by decide +kernel
theorem dX7_year_13 : decode cX7_year 13 = .ok (.aload_n 0, 1) := by decide +kernel
theorem dX7_year_14 : decode cX7_year 14 = .ok (.aload_n 0, 1) := by decide +kernel
theorem dX7_year_15 : decode cX7_year 15 = .ok (.aload_n 0, 1) := by decide +kernel
theorem dX7_year_16 : decode cX7_year 16 = .ok (.getfield 113, 3) := by decide +kernel
theorem dX7_year_19 : decode cX7_year 19 = .ok (.aload_n 0, 1) := by decide +kernel
theorem dX7_year_20 : decode cX7_year 20 = .ok (.getfield 116, 3) := by decide +kernel
theorem dX7_year_23 : decode cX7_year 23 = .ok (.invokevirtual 119, 3) := by decide +kernel
theorem dX7_year_26 : decode cX7_year 26 = .ok (.putfield 116, 3) := by decide +kernel
theorem dX7_year_29 : decode cX7_year 29 = .ok (.aload_n 0, 1) := by decide +kernel
theorem dX7_year_30 : decode cX7_year 30 = .ok (.iconst 0, 1) := by decide +kernel
theorem dX7_year_31 : decode cX7_year 31 = .ok (.putfield 113, 3) := by decide +kernel
theorem dX7_year_34 : decode cX7_year 34 = .ok (.aload_n 0, 1) := by decide +kernel
theorem dX7_year_35 : decode cX7_year 35 = .ok (.bipush 11, 2) := by decide +kernel
theorem dX7_year_37 : decode cX7_year 37 = .ok (.putfield 81, 3) := by decide +kernel
theorem dX7_year_40 : decode cX7_year 40 = .ok (.aload_n 0, 1) := by decide +kernel
theorem dX7_year_41 : decode cX7_year 41 = .ok (.dup, 1) := by decide +kernel
theorem dX7_year_42 : decode cX7_year 42 = .ok (.getfield 131, 3) := by decide +kernel
theorem dX7_year_45 : decode cX7_year 45 = .ok (.iconst 1, 1) := by decide +kernel
theorem dX7_year_46 : decode cX7_year 46 = .ok (.iadd, 1) := by decide +kernel
theorem dX7_year_47 : decode cX7_year 47 = .ok (.putfield 131, 3) := by decide +kernel
theorem dX7_year_50 : decode cX7_year 50 = .ok (.aload_n 0, 1) := by decide +kernel
theorem dX7_year_51 : decode cX7_year 51 = .ok (.iconst 0, 1) := by decide +kernel
theorem dX7_year_52 : decode cX7_year 52 = .ok (.aload_n 0, 1) := by decide +kernel
theorem dX7_year_53 : decode cX7_year 53 = .ok (.getfield 116, 3) := by decide +kernel
theorem dX7_year_56 : decode cX7_year 56 = .ok (.invokevirtual 119, 3) := by decide +kernel
theorem dX7_year_59 : decode cX7_year 59 = .ok (.invokestatic 167, 3) := by decide +kernel
theorem dX7_year_62 : decode cX7_year 62 = .ok (.ireturn, 1) := by decide +kernel
theorem dX7_bearer_0 : decode cX7_bearer 0 = .ok (.iconst 0, 1) := by decide +kernel
theorem dX7_bearer_1 : decode cX7_bearer 1 = .ok (.istore_n 2, 1) := by decide +kernel
theorem dX7_bearer_2 : decode cX7_bearer 2 = .ok (.iconst 0, 1) := by decide +kernel
theorem dX7_bearer_3 : decode cX7_bearer 3 = .ok (.istore_n 3, 1) := by decide +kernel
theorem dX7_bearer_4 : decode cX7_bearer 4 = .ok (.iconst 1, 1) := by decide +kernel
theorem dX7_bearer_5 : decode cX7_bearer 5 = .ok (.istore 4, 2) := by decide +kernel
theorem dX7_bearer_7 : decode cX7_bearer 7 = .ok (.iload 4, 2) := by decide +kernel
theorem dX7_bearer_9 : decode cX7_bearer 9 = .ok (.aload_n 0, 1) := by decide +kernel
theorem dX7_bearer_10 : decode cX7_bearer 10 = .ok (.getfield 77, 3) := by decide +kernel
theorem dX7_bearer_13 : decode cX7_bearer 13 = .ok (.if_icmp .ge 71, 3) := by decide +kernel
theorem dX7_bearer_16 : decode cX7_bearer 16 = .ok (.aload_n 0, 1) := by decide +kernel
theorem dX7_bearer_17 : decode cX7_bearer 17 = .ok (.getfield 25, 3) := by decide +kernel
theorem dX7_bearer_20 : decode cX7_bearer 20 = .ok (.iconst 4, 1) := by decide +kernel
theorem dX7_bearer_21 : decode cX7_bearer 21 = .ok (.iload_n 1, 1) := by decide +kernel
theorem dX7_bearer_22 : decode cX7_bearer 22 = .ok (.imul, 1) := by decide +kernel
theorem dX7_bearer_23 : decode cX7_bearer 23 = .ok (.iload 4, 2) := by decide +kernel
theorem dX7_bearer_25 : decode cX7_bearer 25 = .ok (.iadd, 1) := by decide +kernel
theorem dX7_bearer_26 : decode cX7_bearer 26 = .ok (.iaload, 1) := by decide +kernel
theorem dX7_bearer_27 : decode cX7_bearer 27 = .ok (.aload_n 0, 1) := by decide +kernel
theorem dX7_bearer_28 : decode cX7_bearer 28 = .ok (.getfield 25, 3) := by decide +kernel
theorem dX7_bearer_31 : decode cX7_bearer 31 = .ok (.iconst 4, 1) := by decide +kernel
theorem dX7_bearer_32 : decode cX7_bearer 32 = .ok (.iload_n 1, 1) := by decide +kernel
theorem dX7_bearer_33 : decode cX7_bearer 33 = .ok (.imul, 1) := by decide +kernel
theorem dX7_bearer_34 : decode cX7_bearer 34 = .ok (.iload_n 2, 1) := by decide +kernel
theorem dX7_bearer_35 : decode cX7_bearer 35 = .ok (.iadd, 1) := by decide +kernel
theorem dX7_bearer_36 : decode cX7_bearer 36 = .ok (.iaload, 1) := by decide +kernel
theorem dX7_bearer_37 : decode cX7_bearer 37 = .ok (.if_icmp .le 8, 3) := by decide +kernel
theorem dX7_bearer_40 : decode cX7_bearer 40 = .ok (.iload 4, 2) := by decide +kernel
theorem dX7_bearer_42 : decode cX7_bearer 42 = .ok (.goto 4, 3) := by decide +kernel
theorem dX7_bearer_45 : decode cX7_bearer 45 = .ok (.iload_n 2, 1) := by decide +kernel
theorem dX7_bearer_46 : decode cX7_bearer 46 = .ok (.istore_n 2, 1) := by decide +kernel
theorem dX7_bearer_47 : decode cX7_bearer 47 = .ok (.aload_n 0, 1) := by decide +kernel
theorem dX7_bearer_48 : decode cX7_bearer 48 = .ok (.getfield 25, 3) := by decide +kernel
theorem dX7_bearer_51 : decode cX7_bearer 51 = .ok (.iconst 4, 1) := by decide +kernel
theorem dX7_bearer_52 : decode cX7_bearer 52 = .ok (.iload_n 1, 1) := by decide +kernel
theorem dX7_bearer_53 : decode cX7_bearer 53 = .ok (.imul, 1) := by decide +kernel
theorem dX7_bearer_54 : decode cX7_bearer 54 = .ok (.iload 4, 2) := by decide +kernel
theorem dX7_bearer_56 : decode cX7_bearer 56 = .ok (.iadd, 1) := by decide +kernel
theorem dX7_bearer_57 : decode cX7_bearer 57 = .ok (.iaload, 1) := by decide +kernel
theorem dX7_bearer_58 : decode cX7_bearer 58 = .ok (.aload_n 0, 1) := by decide +kernel
theorem dX7_bearer_59 : decode cX7_bearer 59 = .ok (.getfield 25, 3) := by decide +kernel
theorem dX7_bearer_62 : decode cX7_bearer 62 = .ok (.iconst 4, 1) := by decide +kernel
theorem dX7_bearer_63 : decode cX7_bearer 63 = .ok (.iload_n 1, 1) := by decide +kernel
theorem dX7_bearer_64 : decode cX7_bearer 64 = .ok (.imul, 1) := by decide +kernel
theorem dX7_bearer_65 : decode cX7_bearer 65 = .ok (.iload_n 3, 1) := by decide +kernel
theorem dX7_bearer_66 : decode cX7_bearer 66 = .ok (.iadd, 1) := by decide +kernel
theorem dX7_bearer_67 : decode cX7_bearer 67 = .ok (.iaload, 1) := by decide +kernel
theorem dX7_bearer_68 : decode cX7_bearer 68 = .ok (.if_icmp .ge 8, 3) := by decide +kernel
theorem dX7_bearer_71 : decode cX7_bearer 71 = .ok (.iload 4, 2) := by decide +kernel
theorem dX7_bearer_73 : decode cX7_bearer 73 = .ok (.goto 4, 3) := by decide +kernel
theorem dX7_bearer_76 : decode cX7_bearer 76 = .ok (.iload_n 3, 1) := by decide +kernel
theorem dX7_bearer_77 : decode cX7_bearer 77 = .ok (.istore_n 3, 1) := by decide +kernel
theorem dX7_bearer_78 : decode cX7_bearer 78 = .ok (.iinc 4 1, 3) := by decide +kernel
theorem dX7_bearer_81 : decode cX7_bearer 81 = .ok (.goto (-74), 3) := by decide +kernel
theorem dX7_bearer_84 : decode cX7_bearer 84 = .ok (.aload_n 0, 1) := by decide +kernel
theorem dX7_bearer_85 : decode cX7_bearer 85 = .ok (.getfield 25, 3) := by decide +kernel
theorem dX7_bearer_88 : decode cX7_bearer 88 = .ok (.iconst 4, 1) := by decide +kernel
theorem dX7_bearer_89 : decode cX7_bearer 89 = .ok (.iload_n 1, 1) := by decide +kernel
theorem dX7_bearer_90 : decode cX7_bearer 90 = .ok (.imul, 1) := by decide +kernel
theorem dX7_bearer_91 : decode cX7_bearer 91 = .ok (.iload_n 2, 1) := by decide +kernel
theorem dX7_bearer_92 : decode cX7_bearer 92 = .ok (.iadd, 1) := by decide +kernel
theorem dX7_bearer_93 : decode cX7_bearer 93 = .ok (.iaload, 1) := by decide +kernel
theorem dX7_bearer_94 : decode cX7_bearer 94 = .ok (.ifCond .le 7, 3) := by decide +kernel
theorem dX7_bearer_97 : decode cX7_bearer 97 = .ok (.iload_n 2, 1) := by decide +kernel
theorem dX7_bearer_98 : decode cX7_bearer 98 = .ok (.goto 4, 3) := by decide +kernel
theorem dX7_bearer_101 : decode cX7_bearer 101 = .ok (.iload_n 3, 1) := by decide +kernel
theorem dX7_bearer_102 : decode cX7_bearer 102 = .ok (.ireturn, 1) := by decide +kernel
theorem dX7_bears_0 : decode cX7_bears 0 = .ok (.aload_n 0, 1) := by decide +kernel
theorem dX7_bears_1 : decode cX7_bears 1 = .ok (.iload_n 1, 1) := by decide +kernel
theorem dX7_bears_2 : decode cX7_bears 2 = .ok (.i2l, 1) := by decide +kernel
theorem dX7_bears_3 : decode cX7_bears 3 = .ok (.invokevirtual 109, 3) := by decide +kernel
theorem dX7_bears_6 : decode cX7_bears 6 = .ok (.ifCond .eq 11, 3) := by decide +kernel
theorem dX7_bears_9 : decode cX7_bears 9 = .ok (.aload_n 0, 1) := by decide +kernel
theorem dX7_bears_10 : decode cX7_bears 10 = .ok (.iload_n 1, 1) := by decide +kernel
theorem dX7_bears_11 : decode cX7_bears 11 = .ok (.invokevirtual 170, 3) := by decide +kernel
theorem dX7_bears_14 : decode cX7_bears 14 = .ok (.goto 4, 3) := by decide +kernel
theorem dX7_bears_17 : decode cX7_bears 17 = .ok (.iconst (-1), 1) := by decide +kernel
theorem dX7_bears_18 : decode cX7_bears 18 = .ok (.ireturn, 1) := by decide +kernel
theorem dX7_counts_0 : decode cX7_counts 0 = .ok (.aload_n 0, 1) := by decide +kernel
theorem dX7_counts_1 : decode cX7_counts 1 = .ok (.iload_n 1, 1) := by decide +kernel
theorem dX7_counts_2 : decode cX7_counts 2 = .ok (.iload_n 2, 1) := by decide +kernel
theorem dX7_counts_3 : decode cX7_counts 3 = .ok (.invokevirtual 119, 3) := by decide +kernel
theorem dX7_counts_6 : decode cX7_counts 6 = .ok (.istore_n 3, 1) := by decide +kernel
theorem dX7_counts_7 : decode cX7_counts 7 = .ok (.aload_n 0, 1) := by decide +kernel
theorem dX7_counts_8 : decode cX7_counts 8 = .ok (.iconst 0, 1) := by decide +kernel
theorem dX7_counts_9 : decode cX7_counts 9 = .ok (.putfield 173, 3) := by decide +kernel
theorem dX7_counts_12 : decode cX7_counts 12 = .ok (.iconst 0, 1) := by decide +kernel
theorem dX7_counts_13 : decode cX7_counts 13 = .ok (.istore 4, 2) := by decide +kernel
theorem dX7_counts_15 : decode cX7_counts 15 = .ok (.iload 4, 2) := by decide +kernel
theorem dX7_counts_17 : decode cX7_counts 17 = .ok (.iconst 4, 1) := by decide +kernel
theorem dX7_counts_18 : decode cX7_counts 18 = .ok (.if_icmp .ge 17, 3) := by decide +kernel
theorem dX7_counts_21 : decode cX7_counts 21 = .ok (.aload_n 0, 1) := by decide +kernel
theorem dX7_counts_22 : decode cX7_counts 22 = .ok (.getfield 40, 3) := by decide +kernel
theorem dX7_counts_25 : decode cX7_counts 25 = .ok (.iload 4, 2) := by decide +kernel
theorem dX7_counts_27 : decode cX7_counts 27 = .ok (.iconst 0, 1) := by decide +kernel
theorem dX7_counts_28 : decode cX7_counts 28 = .ok (.iastore, 1) := by decide +kernel
theorem dX7_counts_29 : decode cX7_counts 29 = .ok (.iinc 4 1, 3) := by decide +kernel
theorem dX7_counts_32 : decode cX7_counts 32 = .ok (.goto (-17), 3) := by decide +kernel
theorem dX7_counts_35 : decode cX7_counts 35 = .ok (.iconst 0, 1) := by decide +kernel
theorem dX7_counts_36 : decode cX7_counts 36 = .ok (.istore 4, 2) := by decide +kernel
theorem dX7_counts_38 : decode cX7_counts 38 = .ok (.iload 4, 2) := by decide +kernel
theorem dX7_counts_40 : decode cX7_counts 40 = .ok (.aload_n 0, 1) := by decide +kernel
theorem dX7_counts_41 : decode cX7_counts 41 = .ok (.getfield 84, 3) := by decide +kernel
theorem dX7_counts_44 : decode cX7_counts 44 = .ok (.if_icmp .ge 90, 3) := by decide +kernel
theorem dX7_counts_47 : decode cX7_counts 47 = .ok (.iconst 0, 1) := by decide +kernel
theorem dX7_counts_48 : decode cX7_counts 48 = .ok (.istore 5, 2) := by decide +kernel
theorem dX7_counts_50 : decode cX7_counts 50 = .ok (.iload 5, 2) := by decide +kernel
theorem dX7_counts_52 : decode cX7_counts 52 = .ok (.aload_n 0, 1) := by decide +kernel
theorem dX7_counts_53 : decode cX7_counts 53 = .ok (.getfield 77, 3) := by decide +kernel
theorem dX7_counts_56 : decode cX7_counts 56 = .ok (.if_icmp .ge 41, 3) := by decide +kernel
theorem dX7_counts_59 : decode cX7_counts 59 = .ok (.iload_n 3, 1) := by decide +kernel
theorem dX7_counts_60 : decode cX7_counts 60 = .ok (.iload 4, 2) := by decide +kernel
theorem dX7_counts_62 : decode cX7_counts 62 = .ok (.ishr, 1) := by decide +kernel
theorem dX7_counts_63 : decode cX7_counts 63 = .ok (.iconst 1, 1) := by decide +kernel
theorem dX7_counts_64 : decode cX7_counts 64 = .ok (.iand, 1) := by decide +kernel
theorem dX7_counts_65 : decode cX7_counts 65 = .ok (.iconst 1, 1) := by decide +kernel
theorem dX7_counts_66 : decode cX7_counts 66 = .ok (.if_icmp .ne 31, 3) := by decide +kernel
theorem dX7_counts_69 : decode cX7_counts 69 = .ok (.aload_n 0, 1) := by decide +kernel
theorem dX7_counts_70 : decode cX7_counts 70 = .ok (.getfield 40, 3) := by decide +kernel
theorem dX7_counts_73 : decode cX7_counts 73 = .ok (.iload 5, 2) := by decide +kernel
theorem dX7_counts_75 : decode cX7_counts 75 = .ok (.dup2, 1) := by decide +kernel
theorem dX7_counts_76 : decode cX7_counts 76 = .ok (.iaload, 1) := by decide +kernel
theorem dX7_counts_77 : decode cX7_counts 77 = .ok (.aload_n 0, 1) := by decide +kernel
theorem dX7_counts_78 : decode cX7_counts 78 = .ok (.getfield 25, 3) := by decide +kernel
theorem dX7_counts_81 : decode cX7_counts 81 = .ok (.iconst 4, 1) := by decide +kernel
theorem dX7_counts_82 : decode cX7_counts 82 = .ok (.iload 4, 2) := by decide +kernel
theorem dX7_counts_84 : decode cX7_counts 84 = .ok (.imul, 1) := by decide +kernel
theorem dX7_counts_85 : decode cX7_counts 85 = .ok (.iload 5, 2) := by decide +kernel
theorem dX7_counts_87 : decode cX7_counts 87 = .ok (.iadd, 1) := by decide +kernel
theorem dX7_counts_88 : decode cX7_counts 88 = .ok (.iaload, 1) := by decide +kernel
theorem dX7_counts_89 : decode cX7_counts 89 = .ok (.iadd, 1) := by decide +kernel
theorem dX7_counts_90 : decode cX7_counts 90 = .ok (.iastore, 1) := by decide +kernel
theorem dX7_counts_91 : decode cX7_counts 91 = .ok (.iinc 5 1, 3) := by decide +kernel
theorem dX7_counts_94 : decode cX7_counts 94 = .ok (.goto (-44), 3) := by decide +kernel
theorem dX7_counts_97 : decode cX7_counts 97 = .ok (.iload_n 1, 1) := by decide +kernel
theorem dX7_counts_98 : decode cX7_counts 98 = .ok (.iload 4, 2) := by decide +kernel
theorem dX7_counts_100 : decode cX7_counts 100 = .ok (.ishr, 1) := by decide +kernel
theorem dX7_counts_101 : decode cX7_counts 101 = .ok (.iconst 1, 1) := by decide +kernel
theorem dX7_counts_102 : decode cX7_counts 102 = .ok (.iand, 1) := by decide +kernel
theorem dX7_counts_103 : decode cX7_counts 103 = .ok (.iconst 1, 1) := by decide +kernel
theorem dX7_counts_104 : decode cX7_counts 104 = .ok (.if_icmp .ne 24, 3) := by decide +kernel
theorem dX7_counts_107 : decode cX7_counts 107 = .ok (.aload_n 0, 1) := by decide +kernel
theorem dX7_counts_108 : decode cX7_counts 108 = .ok (.getfield 40, 3) := by decide +kernel
theorem dX7_counts_111 : decode cX7_counts 111 = .ok (.aload_n 0, 1) := by decide +kernel
theorem dX7_counts_112 : decode cX7_counts 112 = .ok (.iload 4, 2) := by decide +kernel
theorem dX7_counts_114 : decode cX7_counts 114 = .ok (.invokevirtual 170, 3) := by decide +kernel
theorem dX7_counts_117 : decode cX7_counts 117 = .ok (.dup2, 1) := by decide +kernel
theorem dX7_counts_118 : decode cX7_counts 118 = .ok (.iaload, 1) := by decide +kernel
theorem dX7_counts_119 : decode cX7_counts 119 = .ok (.aload_n 0, 1) := by decide +kernel
theorem dX7_counts_120 : decode cX7_counts 120 = .ok (.getfield 19, 3) := by decide +kernel
theorem dX7_counts_123 : decode cX7_counts 123 = .ok (.iload 4, 2) := by decide +kernel
theorem dX7_counts_125 : decode cX7_counts 125 = .ok (.iaload, 1) := by decide +kernel
theorem dX7_counts_126 : decode cX7_counts 126 = .ok (.isub, 1) := by decide +kernel
theorem dX7_counts_127 : decode cX7_counts 127 = .ok (.iastore, 1) := by decide +kernel
theorem dX7_counts_128 : decode cX7_counts 128 = .ok (.iinc 4 1, 3) := by decide +kernel
theorem dX7_counts_131 : decode cX7_counts 131 = .ok (.goto (-93), 3) := by decide +kernel
theorem dX7_counts_134 : decode cX7_counts 134 = .ok (.iconst 0, 1) := by decide +kernel
theorem dX7_counts_135 : decode cX7_counts 135 = .ok (.istore 4, 2) := by decide +kernel
theorem dX7_counts_137 : decode cX7_counts 137 = .ok (.iload 4, 2) := by decide +kernel
theorem dX7_counts_139 : decode cX7_counts 139 = .ok (.aload_n 0, 1) := by decide +kernel
theorem dX7_counts_140 : decode cX7_counts 140 = .ok (.getfield 77, 3) := by decide +kernel
theorem dX7_counts_143 : decode cX7_counts 143 = .ok (.if_icmp .ge 25, 3) := by decide +kernel
theorem dX7_counts_146 : decode cX7_counts 146 = .ok (.aload_n 0, 1) := by decide +kernel
theorem dX7_counts_147 : decode cX7_counts 147 = .ok (.dup, 1) := by decide +kernel
theorem dX7_counts_148 : decode cX7_counts 148 = .ok (.getfield 173, 3) := by decide +kernel
theorem dX7_counts_151 : decode cX7_counts 151 = .ok (.aload_n 0, 1) := by decide +kernel
theorem dX7_counts_152 : decode cX7_counts 152 = .ok (.getfield 40, 3) := by decide +kernel
theorem dX7_counts_155 : decode cX7_counts 155 = .ok (.iload 4, 2) := by decide +kernel
theorem dX7_counts_157 : decode cX7_counts 157 = .ok (.iaload, 1) := by decide +kernel
theorem dX7_counts_158 : decode cX7_counts 158 = .ok (.iadd, 1) := by decide +kernel
theorem dX7_counts_159 : decode cX7_counts 159 = .ok (.putfield 173, 3) := by decide +kernel
theorem dX7_counts_162 : decode cX7_counts 162 = .ok (.iinc 4 1, 3) := by decide +kernel
theorem dX7_counts_165 : decode cX7_counts 165 = .ok (.goto (-28), 3) := by decide +kernel
theorem dX7_counts_168 : decode cX7_counts 168 = .ok (.return_, 1) := by decide +kernel
theorem dX7_value_0 : decode cX7_value 0 = .ok (.iload_n 1, 1) := by decide +kernel
theorem dX7_value_1 : decode cX7_value 1 = .ok (.iconst (-1), 1) := by decide +kernel
theorem dX7_value_2 : decode cX7_value 2 = .ok (.if_icmp .eq 14, 3) := by decide +kernel
theorem dX7_value_5 : decode cX7_value 5 = .ok (.aload_n 0, 1) := by decide +kernel
theorem dX7_value_6 : decode cX7_value 6 = .ok (.iload_n 1, 1) := by decide +kernel
theorem dX7_value_7 : decode cX7_value 7 = .ok (.invokevirtual 176, 3) := by decide +kernel
theorem dX7_value_10 : decode cX7_value 10 = .ok (.ifCond .ne 6, 3) := by decide +kernel
theorem dX7_value_13 : decode cX7_value 13 = .ok (.ldc 127, 2) := by decide +kernel
theorem dX7_value_15 : decode cX7_value 15 = .ok (.ireturn, 1) := by decide +kernel
theorem dX7_value_16 : decode cX7_value 16 = .ok (.aload_n 0, 1) := by decide +kernel
theorem dX7_value_17 : decode cX7_value 17 = .ok (.aload_n 0, 1) := by decide +kernel
theorem dX7_value_18 : decode cX7_value 18 = .ok (.getfield 113, 3) := by decide +kernel
theorem dX7_value_21 : decode cX7_value 21 = .ok (.aload_n 0, 1) := by decide +kernel
theorem dX7_value_22 : decode cX7_value 22 = .ok (.getfield 116, 3) := by decide +kernel
theorem dX7_value_25 : decode cX7_value 25 = .ok (.invokevirtual 180, 3) := by decide +kernel
theorem dX7_value_28 : decode cX7_value 28 = .ok (.iload_n 1, 1) := by decide +kernel
theorem dX7_value_29 : decode cX7_value 29 = .ok (.ifCond .ge 10, 3) := by decide +kernel
theorem dX7_value_32 : decode cX7_value 32 = .ok (.aload_n 0, 1) := by decide +kernel
theorem dX7_value_33 : decode cX7_value 33 = .ok (.getfield 173, 3) := by decide +kernel
theorem dX7_value_36 : decode cX7_value 36 = .ok (.goto 9, 3) := by decide +kernel
theorem dX7_value_39 : decode cX7_value 39 = .ok (.aload_n 0, 1) := by decide +kernel
theorem dX7_value_40 : decode cX7_value 40 = .ok (.getfield 40, 3) := by decide +kernel
theorem dX7_value_43 : decode cX7_value 43 = .ok (.iload_n 1, 1) := by decide +kernel
theorem dX7_value_44 : decode cX7_value 44 = .ok (.iaload, 1) := by decide +kernel
theorem dX7_value_45 : decode cX7_value 45 = .ok (.ireturn, 1) := by decide +kernel
theorem dX7_isWalk_0 : decode cX7_isWalk 0 = .ok (.iconst 0, 1) := by decide +kernel
theorem dX7_isWalk_1 : decode cX7_isWalk 1 = .ok (.istore_n 3, 1) := by decide +kernel
theorem dX7_isWalk_2 : decode cX7_isWalk 2 = .ok (.iload_n 1, 1) := by decide +kernel
theorem dX7_isWalk_3 : decode cX7_isWalk 3 = .ok (.iload_n 2, 1) := by decide +kernel
theorem dX7_isWalk_4 : decode cX7_isWalk 4 = .ok (.iconst (-1), 1) := by decide +kernel
theorem dX7_isWalk_5 : decode cX7_isWalk 5 = .ok (.ixor, 1) := by decide +kernel
theorem dX7_isWalk_6 : decode cX7_isWalk 6 = .ok (.iand, 1) := by decide +kernel
theorem dX7_isWalk_7 : decode cX7_isWalk 7 = .ok (.ifCond .ne 7, 3) := by decide +kernel
theorem dX7_isWalk_10 : decode cX7_isWalk 10 = .ok (.iconst 1, 1) := by decide +kernel
theorem dX7_isWalk_11 : decode cX7_isWalk 11 = .ok (.goto 4, 3) := by decide +kernel
theorem dX7_isWalk_14 : decode cX7_isWalk 14 = .ok (.iconst 0, 1) := by decide +kernel
theorem dX7_isWalk_15 : decode cX7_isWalk 15 = .ok (.istore 4, 2) := by decide +kernel
theorem dX7_isWalk_17 : decode cX7_isWalk 17 = .ok (.iconst 0, 1) := by decide +kernel
theorem dX7_isWalk_18 : decode cX7_isWalk 18 = .ok (.istore 5, 2) := by decide +kernel
theorem dX7_isWalk_20 : decode cX7_isWalk 20 = .ok (.iload 5, 2) := by decide +kernel
theorem dX7_isWalk_22 : decode cX7_isWalk 22 = .ok (.aload_n 0, 1) := by decide +kernel
theorem dX7_isWalk_23 : decode cX7_isWalk 23 = .ok (.getfield 84, 3) := by decide +kernel
theorem dX7_isWalk_26 : decode cX7_isWalk 26 = .ok (.if_icmp .ge 57, 3) := by decide +kernel
theorem dX7_isWalk_29 : decode cX7_isWalk 29 = .ok (.iload_n 1, 1) := by decide +kernel
theorem dX7_isWalk_30 : decode cX7_isWalk 30 = .ok (.iload 5, 2) := by decide +kernel
theorem dX7_isWalk_32 : decode cX7_isWalk 32 = .ok (.ishr, 1) := by decide +kernel
theorem dX7_isWalk_33 : decode cX7_isWalk 33 = .ok (.iconst 1, 1) := by decide +kernel
theorem dX7_isWalk_34 : decode cX7_isWalk 34 = .ok (.iand, 1) := by decide +kernel
theorem dX7_isWalk_35 : decode cX7_isWalk 35 = .ok (.iconst 1, 1) := by decide +kernel
theorem dX7_isWalk_36 : decode cX7_isWalk 36 = .ok (.if_icmp .ne 41, 3) := by decide +kernel
theorem dX7_isWalk_39 : decode cX7_isWalk 39 = .ok (.iload 4, 2) := by decide +kernel
theorem dX7_isWalk_41 : decode cX7_isWalk 41 = .ok (.ifCond .eq 21, 3) := by decide +kernel
theorem dX7_isWalk_44 : decode cX7_isWalk 44 = .ok (.iload_n 3, 1) := by decide +kernel
theorem dX7_isWalk_45 : decode cX7_isWalk 45 = .ok (.aload_n 0, 1) := by decide +kernel
theorem dX7_isWalk_46 : decode cX7_isWalk 46 = .ok (.getfield 13, 3) := by decide +kernel
theorem dX7_isWalk_49 : decode cX7_isWalk 49 = .ok (.iload 5, 2) := by decide +kernel
theorem dX7_isWalk_51 : decode cX7_isWalk 51 = .ok (.iaload, 1) := by decide +kernel
theorem dX7_isWalk_52 : decode cX7_isWalk 52 = .ok (.ishr, 1) := by decide +kernel
theorem dX7_isWalk_53 : decode cX7_isWalk 53 = .ok (.iconst 1, 1) := by decide +kernel
theorem dX7_isWalk_54 : decode cX7_isWalk 54 = .ok (.iand, 1) := by decide +kernel
theorem dX7_isWalk_55 : decode cX7_isWalk 55 = .ok (.ifCond .ne 7, 3) := by decide +kernel
theorem dX7_isWalk_58 : decode cX7_isWalk 58 = .ok (.iconst 1, 1) := by decide +kernel
theorem dX7_isWalk_59 : decode cX7_isWalk 59 = .ok (.goto 4, 3) := by decide +kernel
theorem dX7_isWalk_62 : decode cX7_isWalk 62 = .ok (.iconst 0, 1) := by decide +kernel
theorem dX7_isWalk_63 : decode cX7_isWalk 63 = .ok (.istore 4, 2) := by decide +kernel
theorem dX7_isWalk_65 : decode cX7_isWalk 65 = .ok (.iload_n 3, 1) := by decide +kernel
theorem dX7_isWalk_66 : decode cX7_isWalk 66 = .ok (.iconst 1, 1) := by decide +kernel
theorem dX7_isWalk_67 : decode cX7_isWalk 67 = .ok (.aload_n 0, 1) := by decide +kernel
theorem dX7_isWalk_68 : decode cX7_isWalk 68 = .ok (.getfield 13, 3) := by decide +kernel
theorem dX7_isWalk_71 : decode cX7_isWalk 71 = .ok (.iload 5, 2) := by decide +kernel
theorem dX7_isWalk_73 : decode cX7_isWalk 73 = .ok (.iaload, 1) := by decide +kernel
theorem dX7_isWalk_74 : decode cX7_isWalk 74 = .ok (.ishl, 1) := by decide +kernel
theorem dX7_isWalk_75 : decode cX7_isWalk 75 = .ok (.ior, 1) := by decide +kernel
theorem dX7_isWalk_76 : decode cX7_isWalk 76 = .ok (.istore_n 3, 1) := by decide +kernel
theorem dX7_isWalk_77 : decode cX7_isWalk 77 = .ok (.iinc 5 1, 3) := by decide +kernel
theorem dX7_isWalk_80 : decode cX7_isWalk 80 = .ok (.goto (-60), 3) := by decide +kernel
theorem dX7_isWalk_83 : decode cX7_isWalk 83 = .ok (.iload 4, 2) := by decide +kernel
theorem dX7_isWalk_85 : decode cX7_isWalk 85 = .ok (.ireturn, 1) := by decide +kernel
theorem dX7_bestOf_0 : decode cX7_bestOf 0 = .ok (.aload_n 0, 1) := by decide +kernel
theorem dX7_bestOf_1 : decode cX7_bestOf 1 = .ok (.iconst 0, 1) := by decide +kernel
theorem dX7_bestOf_2 : decode cX7_bestOf 2 = .ok (.iload_n 3, 1) := by decide +kernel
theorem dX7_bestOf_3 : decode cX7_bestOf 3 = .ok (.invokevirtual 119, 3) := by decide +kernel
theorem dX7_bestOf_6 : decode cX7_bestOf 6 = .ok (.istore 4, 2) := by decide +kernel
theorem dX7_bestOf_8 : decode cX7_bestOf 8 = .ok (.aload_n 0, 1) := by decide +kernel
theorem dX7_bestOf_9 : decode cX7_bestOf 9 = .ok (.iconst 0, 1) := by decide +kernel
theorem dX7_bestOf_10 : decode cX7_bestOf 10 = .ok (.iload_n 3, 1) := by decide +kernel
theorem dX7_bestOf_11 : decode cX7_bestOf 11 = .ok (.invokevirtual 180, 3) := by decide +kernel
theorem dX7_bestOf_14 : decode cX7_bestOf 14 = .ok (.iconst 0, 1) := by decide +kernel
theorem dX7_bestOf_15 : decode cX7_bestOf 15 = .ok (.istore 5, 2) := by decide +kernel
theorem dX7_bestOf_17 : decode cX7_bestOf 17 = .ok (.iload 5, 2) := by decide +kernel
theorem dX7_bestOf_19 : decode cX7_bestOf 19 = .ok (.iconst 4, 1) := by decide +kernel
theorem dX7_bestOf_20 : decode cX7_bestOf 20 = .ok (.if_icmp .ge 23, 3) := by decide +kernel
theorem dX7_bestOf_23 : decode cX7_bestOf 23 = .ok (.aload_n 0, 1) := by decide +kernel
theorem dX7_bestOf_24 : decode cX7_bestOf 24 = .ok (.getfield 43, 3) := by decide +kernel
theorem dX7_bestOf_27 : decode cX7_bestOf 27 = .ok (.iload 5, 2) := by decide +kernel
theorem dX7_bestOf_29 : decode cX7_bestOf 29 = .ok (.aload_n 0, 1) := by decide +kernel
theorem dX7_bestOf_30 : decode cX7_bestOf 30 = .ok (.getfield 40, 3) := by decide +kernel
theorem dX7_bestOf_33 : decode cX7_bestOf 33 = .ok (.iload 5, 2) := by decide +kernel
theorem dX7_bestOf_35 : decode cX7_bestOf 35 = .ok (.iaload, 1) := by decide +kernel
theorem dX7_bestOf_36 : decode cX7_bestOf 36 = .ok (.iastore, 1) := by decide +kernel
theorem dX7_bestOf_37 : decode cX7_bestOf 37 = .ok (.iinc 5 1, 3) := by decide +kernel
theorem dX7_bestOf_40 : decode cX7_bestOf 40 = .ok (.goto (-23), 3) := by decide +kernel
theorem dX7_bestOf_43 : decode cX7_bestOf 43 = .ok (.iconst 0, 1) := by decide +kernel
theorem dX7_bestOf_44 : decode cX7_bestOf 44 = .ok (.istore 5, 2) := by decide +kernel
theorem dX7_bestOf_46 : decode cX7_bestOf 46 = .ok (.aload_n 0, 1) := by decide +kernel
theorem dX7_bestOf_47 : decode cX7_bestOf 47 = .ok (.aload_n 0, 1) := by decide +kernel
theorem dX7_bestOf_48 : decode cX7_bestOf 48 = .ok (.getfield 173, 3) := by decide +kernel
theorem dX7_bestOf_51 : decode cX7_bestOf 51 = .ok (.putfield 184, 3) := by decide +kernel
theorem dX7_bestOf_54 : decode cX7_bestOf 54 = .ok (.iconst 1, 1) := by decide +kernel
theorem dX7_bestOf_55 : decode cX7_bestOf 55 = .ok (.istore 6, 2) := by decide +kernel
theorem dX7_bestOf_57 : decode cX7_bestOf 57 = .ok (.iload 6, 2) := by decide +kernel
theorem dX7_bestOf_59 : decode cX7_bestOf 59 = .ok (.iconst 1, 1) := by decide +kernel
theorem dX7_bestOf_60 : decode cX7_bestOf 60 = .ok (.aload_n 0, 1) := by decide +kernel
theorem dX7_bestOf_61 : decode cX7_bestOf 61 = .ok (.getfield 84, 3) := by decide +kernel
theorem dX7_bestOf_64 : decode cX7_bestOf 64 = .ok (.ishl, 1) := by decide +kernel
theorem dX7_bestOf_65 : decode cX7_bestOf 65 = .ok (.if_icmp .ge 173, 3) := by decide +kernel
theorem dX7_bestOf_68 : decode cX7_bestOf 68 = .ok (.iload 6, 2) := by decide +kernel
theorem dX7_bestOf_70 : decode cX7_bestOf 70 = .ok (.iload 4, 2) := by decide +kernel
theorem dX7_bestOf_72 : decode cX7_bestOf 72 = .ok (.iconst (-1), 1) := by decide +kernel
theorem dX7_bestOf_73 : decode cX7_bestOf 73 = .ok (.ixor, 1) := by decide +kernel
theorem dX7_bestOf_74 : decode cX7_bestOf 74 = .ok (.iand, 1) := by decide +kernel
theorem dX7_bestOf_75 : decode cX7_bestOf 75 = .ok (.ifCond .ne 157, 3) := by decide +kernel
theorem dX7_bestOf_78 : decode cX7_bestOf 78 = .ok (.iload 6, 2) := by decide +kernel
theorem dX7_bestOf_80 : decode cX7_bestOf 80 = .ok (.invokestatic 167, 3) := by decide +kernel
theorem dX7_bestOf_83 : decode cX7_bestOf 83 = .ok (.iload_n 1, 1) := by decide +kernel
theorem dX7_bestOf_84 : decode cX7_bestOf 84 = .ok (.if_icmp .gt 148, 3) := by decide +kernel
theorem dX7_bestOf_87 : decode cX7_bestOf 87 = .ok (.aload_n 0, 1) := by decide +kernel
theorem dX7_bestOf_88 : decode cX7_bestOf 88 = .ok (.iload 6, 2) := by decide +kernel
theorem dX7_bestOf_90 : decode cX7_bestOf 90 = .ok (.iload 4, 2) := by decide +kernel
theorem dX7_bestOf_92 : decode cX7_bestOf 92 = .ok (.invokevirtual 187, 3) := by decide +kernel
theorem dX7_bestOf_95 : decode cX7_bestOf 95 = .ok (.ifCond .eq 137, 3) := by decide +kernel
theorem dX7_bestOf_98 : decode cX7_bestOf 98 = .ok (.aload_n 0, 1) := by decide +kernel
theorem dX7_bestOf_99 : decode cX7_bestOf 99 = .ok (.iload 6, 2) := by decide +kernel
theorem dX7_bestOf_101 : decode cX7_bestOf 101 = .ok (.iload_n 3, 1) := by decide +kernel
theorem dX7_bestOf_102 : decode cX7_bestOf 102 = .ok (.invokevirtual 180, 3) := by decide +kernel
theorem dX7_bestOf_105 : decode cX7_bestOf 105 = .ok (.aload_n 0, 1) := by decide +kernel
theorem dX7_bestOf_106 : decode cX7_bestOf 106 = .ok (.getfield 173, 3) := by decide +kernel
theorem dX7_bestOf_109 : decode cX7_bestOf 109 = .ok (.aload_n 0, 1) := by decide +kernel
theorem dX7_bestOf_110 : decode cX7_bestOf 110 = .ok (.getfield 184, 3) := by decide +kernel
theorem dX7_bestOf_113 : decode cX7_bestOf 113 = .ok (.if_icmp .gt 27, 3) := by decide +kernel
theorem dX7_bestOf_116 : decode cX7_bestOf 116 = .ok (.aload_n 0, 1) := by decide +kernel
theorem dX7_bestOf_117 : decode cX7_bestOf 117 = .ok (.getfield 173, 3) := by decide +kernel
theorem dX7_bestOf_120 : decode cX7_bestOf 120 = .ok (.aload_n 0, 1) := by decide +kernel
theorem dX7_bestOf_121 : decode cX7_bestOf 121 = .ok (.getfield 184, 3) := by decide +kernel
theorem dX7_bestOf_124 : decode cX7_bestOf 124 = .ok (.if_icmp .ne 20, 3) := by decide +kernel
theorem dX7_bestOf_127 : decode cX7_bestOf 127 = .ok (.iload 6, 2) := by decide +kernel
theorem dX7_bestOf_129 : decode cX7_bestOf 129 = .ok (.invokestatic 167, 3) := by decide +kernel
theorem dX7_bestOf_132 : decode cX7_bestOf 132 = .ok (.iload 5, 2) := by decide +kernel
theorem dX7_bestOf_134 : decode cX7_bestOf 134 = .ok (.invokestatic 167, 3) := by decide +kernel
theorem dX7_bestOf_137 : decode cX7_bestOf 137 = .ok (.if_icmp .ge 7, 3) := by decide +kernel
theorem dX7_bestOf_140 : decode cX7_bestOf 140 = .ok (.iconst 1, 1) := by decide +kernel
theorem dX7_bestOf_141 : decode cX7_bestOf 141 = .ok (.goto 4, 3) := by decide +kernel
theorem dX7_bestOf_144 : decode cX7_bestOf 144 = .ok (.iconst 0, 1) := by decide +kernel
theorem dX7_bestOf_145 : decode cX7_bestOf 145 = .ok (.istore 7, 2) := by decide +kernel
theorem dX7_bestOf_147 : decode cX7_bestOf 147 = .ok (.iconst 0, 1) := by decide +kernel
theorem dX7_bestOf_148 : decode cX7_bestOf 148 = .ok (.istore 8, 2) := by decide +kernel
theorem dX7_bestOf_150 : decode cX7_bestOf 150 = .ok (.iload 8, 2) := by decide +kernel
theorem dX7_bestOf_152 : decode cX7_bestOf 152 = .ok (.aload_n 0, 1) := by decide +kernel
theorem dX7_bestOf_153 : decode cX7_bestOf 153 = .ok (.getfield 77, 3) := by decide +kernel
theorem dX7_bestOf_156 : decode cX7_bestOf 156 = .ok (.if_icmp .ge 42, 3) := by decide +kernel
theorem dX7_bestOf_159 : decode cX7_bestOf 159 = .ok (.iload_n 2, 1) := by decide +kernel
theorem dX7_bestOf_160 : decode cX7_bestOf 160 = .ok (.ifCond .eq 38, 3) := by decide +kernel
theorem dX7_bestOf_163 : decode cX7_bestOf 163 = .ok (.iload 7, 2) := by decide +kernel
theorem dX7_bestOf_165 : decode cX7_bestOf 165 = .ok (.ifCond .eq 24, 3) := by decide +kernel
theorem dX7_bestOf_168 : decode cX7_bestOf 168 = .ok (.aload_n 0, 1) := by decide +kernel
theorem dX7_bestOf_169 : decode cX7_bestOf 169 = .ok (.getfield 40, 3) := by decide +kernel
theorem dX7_bestOf_172 : decode cX7_bestOf 172 = .ok (.iload 8, 2) := by decide +kernel
theorem dX7_bestOf_174 : decode cX7_bestOf 174 = .ok (.iaload, 1) := by decide +kernel
theorem dX7_bestOf_175 : decode cX7_bestOf 175 = .ok (.aload_n 0, 1) := by decide +kernel
theorem dX7_bestOf_176 : decode cX7_bestOf 176 = .ok (.getfield 43, 3) := by decide +kernel
theorem dX7_bestOf_179 : decode cX7_bestOf 179 = .ok (.iload 8, 2) := by decide +kernel
theorem dX7_bestOf_181 : decode cX7_bestOf 181 = .ok (.iaload, 1) := by decide +kernel
theorem dX7_bestOf_182 : decode cX7_bestOf 182 = .ok (.if_icmp .lt 7, 3) := by decide +kernel
theorem dX7_bestOf_185 : decode cX7_bestOf 185 = .ok (.iconst 1, 1) := by decide +kernel
theorem dX7_bestOf_186 : decode cX7_bestOf 186 = .ok (.goto 4, 3) := by decide +kernel
theorem dX7_bestOf_189 : decode cX7_bestOf 189 = .ok (.iconst 0, 1) := by decide +kernel
theorem dX7_bestOf_190 : decode cX7_bestOf 190 = .ok (.istore 7, 2) := by decide +kernel
theorem dX7_bestOf_192 : decode cX7_bestOf 192 = .ok (.iinc 8 1, 3) := by decide +kernel
theorem dX7_bestOf_195 : decode cX7_bestOf 195 = .ok (.goto (-45), 3) := by decide +kernel
theorem dX7_bestOf_198 : decode cX7_bestOf 198 = .ok (.iload 7, 2) := by decide +kernel
theorem dX7_bestOf_200 : decode cX7_bestOf 200 = .ok (.ifCond .eq 8, 3) := by decide +kernel
theorem dX7_bestOf_203 : decode cX7_bestOf 203 = .ok (.iload 6, 2) := by decide +kernel
theorem dX7_bestOf_205 : decode cX7_bestOf 205 = .ok (.goto 5, 3) := by decide +kernel
theorem dX7_bestOf_208 : decode cX7_bestOf 208 = .ok (.iload 5, 2) := by decide +kernel
theorem dX7_bestOf_210 : decode cX7_bestOf 210 = .ok (.istore 5, 2) := by decide +kernel
theorem dX7_bestOf_212 : decode cX7_bestOf 212 = .ok (.aload_n 0, 1) := by decide +kernel
theorem dX7_bestOf_213 : decode cX7_bestOf 213 = .ok (.iload 7, 2) := by decide +kernel
theorem dX7_bestOf_215 : decode cX7_bestOf 215 = .ok (.ifCond .eq 10, 3) := by decide +kernel
theorem dX7_bestOf_218 : decode cX7_bestOf 218 = .ok (.aload_n 0, 1) := by decide +kernel
theorem dX7_bestOf_219 : decode cX7_bestOf 219 = .ok (.getfield 173, 3) := by decide +kernel
theorem dX7_bestOf_222 : decode cX7_bestOf 222 = .ok (.goto 7, 3) := by decide +kernel
theorem dX7_bestOf_225 : decode cX7_bestOf 225 = .ok (.aload_n 0, 1) := by decide +kernel
theorem dX7_bestOf_226 : decode cX7_bestOf 226 = .ok (.getfield 184, 3) := by decide +kernel
theorem dX7_bestOf_229 : decode cX7_bestOf 229 = .ok (.putfield 184, 3) := by decide +kernel
theorem dX7_bestOf_232 : decode cX7_bestOf 232 = .ok (.iinc 6 1, 3) := by decide +kernel
theorem dX7_bestOf_235 : decode cX7_bestOf 235 = .ok (.goto (-178), 3) := by decide +kernel
theorem dX7_bestOf_238 : decode cX7_bestOf 238 = .ok (.iload 5, 2) := by decide +kernel
theorem dX7_bestOf_240 : decode cX7_bestOf 240 = .ok (.ireturn, 1) := by decide +kernel
theorem dX7_best_0 : decode cX7_best 0 = .ok (.iload_n 1, 1) := by decide +kernel
theorem dX7_best_1 : decode cX7_best 1 = .ok (.i2l, 1) := by decide +kernel
theorem dX7_best_2 : decode cX7_best 2 = .ok (.lconst 0, 1) := by decide +kernel
theorem dX7_best_3 : decode cX7_best 3 = .ok (.ldc2_w 91, 3) := by decide +kernel
theorem dX7_best_6 : decode cX7_best 6 = .ok (.invokestatic 87, 3) := by decide +kernel
theorem dX7_best_9 : decode cX7_best 9 = .ok (.ifCond .eq 23, 3) := by decide +kernel
theorem dX7_best_12 : decode cX7_best 12 = .ok (.iload_n 2, 1) := by decide +kernel
theorem dX7_best_13 : decode cX7_best 13 = .ok (.i2l, 1) := by decide +kernel
theorem dX7_best_14 : decode cX7_best 14 = .ok (.lconst 0, 1) := by decide +kernel
theorem dX7_best_15 : decode cX7_best 15 = .ok (.lconst 1, 1) := by decide +kernel
theorem dX7_best_16 : decode cX7_best 16 = .ok (.invokestatic 87, 3) := by decide +kernel
theorem dX7_best_19 : decode cX7_best 19 = .ok (.ifCond .eq 13, 3) := by decide +kernel
theorem dX7_best_22 : decode cX7_best 22 = .ok (.iload_n 3, 1) := by decide +kernel
theorem dX7_best_23 : decode cX7_best 23 = .ok (.i2l, 1) := by decide +kernel
theorem dX7_best_24 : decode cX7_best 24 = .ok (.lconst 0, 1) := by decide +kernel
theorem dX7_best_25 : decode cX7_best 25 = .ok (.lconst 1, 1) := by decide +kernel
theorem dX7_best_26 : decode cX7_best 26 = .ok (.invokestatic 87, 3) := by decide +kernel
theorem dX7_best_29 : decode cX7_best 29 = .ok (.ifCond .ne 6, 3) := by decide +kernel
theorem dX7_best_32 : decode cX7_best 32 = .ok (.ldc 127, 2) := by decide +kernel
theorem dX7_best_34 : decode cX7_best 34 = .ok (.ireturn, 1) := by decide +kernel
theorem dX7_best_35 : decode cX7_best 35 = .ok (.aload_n 0, 1) := by decide +kernel
theorem dX7_best_36 : decode cX7_best 36 = .ok (.iload_n 1, 1) := by decide +kernel
theorem dX7_best_37 : decode cX7_best 37 = .ok (.iload_n 2, 1) := by decide +kernel
theorem dX7_best_38 : decode cX7_best 38 = .ok (.iconst 1, 1) := by decide +kernel
theorem dX7_best_39 : decode cX7_best 39 = .ok (.if_icmp .ne 7, 3) := by decide +kernel
theorem dX7_best_42 : decode cX7_best 42 = .ok (.iconst 1, 1) := by decide +kernel
theorem dX7_best_43 : decode cX7_best 43 = .ok (.goto 4, 3) := by decide +kernel
theorem dX7_best_46 : decode cX7_best 46 = .ok (.iconst 0, 1) := by decide +kernel
theorem dX7_best_47 : decode cX7_best 47 = .ok (.aload_n 0, 1) := by decide +kernel
theorem dX7_best_48 : decode cX7_best 48 = .ok (.getfield 116, 3) := by decide +kernel
theorem dX7_best_51 : decode cX7_best 51 = .ok (.invokevirtual 191, 3) := by decide +kernel
theorem dX7_best_54 : decode cX7_best 54 = .ok (.istore 4, 2) := by decide +kernel
theorem dX7_best_56 : decode cX7_best 56 = .ok (.iload_n 3, 1) := by decide +kernel
theorem dX7_best_57 : decode cX7_best 57 = .ok (.ifCond .ne 10, 3) := by decide +kernel
theorem dX7_best_60 : decode cX7_best 60 = .ok (.aload_n 0, 1) := by decide +kernel
theorem dX7_best_61 : decode cX7_best 61 = .ok (.getfield 184, 3) := by decide +kernel
theorem dX7_best_64 : decode cX7_best 64 = .ok (.goto 5, 3) := by decide +kernel
theorem dX7_best_67 : decode cX7_best 67 = .ok (.iload 4, 2) := by decide +kernel
theorem dX7_best_69 : decode cX7_best 69 = .ok (.ireturn, 1) := by decide +kernel
theorem dX7_wanted_0 : decode cX7_wanted 0 = .ok (.aload_n 0, 1) := by decide +kernel
theorem dX7_wanted_1 : decode cX7_wanted 1 = .ok (.iload_n 1, 1) := by decide +kernel
theorem dX7_wanted_2 : decode cX7_wanted 2 = .ok (.i2l, 1) := by decide +kernel
theorem dX7_wanted_3 : decode cX7_wanted 3 = .ok (.invokevirtual 128, 3) := by decide +kernel
theorem dX7_wanted_6 : decode cX7_wanted 6 = .ok (.ifCond .eq 18, 3) := by decide +kernel
theorem dX7_wanted_9 : decode cX7_wanted 9 = .ok (.aload_n 0, 1) := by decide +kernel
theorem dX7_wanted_10 : decode cX7_wanted 10 = .ok (.iload_n 2, 1) := by decide +kernel
theorem dX7_wanted_11 : decode cX7_wanted 11 = .ok (.i2l, 1) := by decide +kernel
theorem dX7_wanted_12 : decode cX7_wanted 12 = .ok (.invokevirtual 128, 3) := by decide +kernel
theorem dX7_wanted_15 : decode cX7_wanted 15 = .ok (.ifCond .eq 9, 3) := by decide +kernel
theorem dX7_wanted_18 : decode cX7_wanted 18 = .ok (.iload_n 1, 1) := by decide +kernel
theorem dX7_wanted_19 : decode cX7_wanted 19 = .ok (.iload_n 2, 1) := by decide +kernel
theorem dX7_wanted_20 : decode cX7_wanted 20 = .ok (.iand, 1) := by decide +kernel
theorem dX7_wanted_21 : decode cX7_wanted 21 = .ok (.ifCond .eq 5, 3) := by decide +kernel
theorem dX7_wanted_24 : decode cX7_wanted 24 = .ok (.iconst (-1), 1) := by decide +kernel
theorem dX7_wanted_25 : decode cX7_wanted 25 = .ok (.ireturn, 1) := by decide +kernel
theorem dX7_wanted_26 : decode cX7_wanted 26 = .ok (.aload_n 0, 1) := by decide +kernel
theorem dX7_wanted_27 : decode cX7_wanted 27 = .ok (.iconst 0, 1) := by decide +kernel
theorem dX7_wanted_28 : decode cX7_wanted 28 = .ok (.aload_n 0, 1) := by decide +kernel
theorem dX7_wanted_29 : decode cX7_wanted 29 = .ok (.getfield 116, 3) := by decide +kernel
theorem dX7_wanted_32 : decode cX7_wanted 32 = .ok (.invokevirtual 119, 3) := by decide +kernel
theorem dX7_wanted_35 : decode cX7_wanted 35 = .ok (.istore_n 3, 1) := by decide +kernel
theorem dX7_wanted_36 : decode cX7_wanted 36 = .ok (.bipush (-4), 2) := by decide +kernel
theorem dX7_wanted_38 : decode cX7_wanted 38 = .ok (.istore 4, 2) := by decide +kernel
theorem dX7_wanted_40 : decode cX7_wanted 40 = .ok (.iconst 0, 1) := by decide +kernel
theorem dX7_wanted_41 : decode cX7_wanted 41 = .ok (.istore 5, 2) := by decide +kernel
theorem dX7_wanted_43 : decode cX7_wanted 43 = .ok (.iload 5, 2) := by decide +kernel
theorem dX7_wanted_45 : decode cX7_wanted 45 = .ok (.iconst 1, 1) := by decide +kernel
theorem dX7_wanted_46 : decode cX7_wanted 46 = .ok (.aload_n 0, 1) := by decide +kernel
theorem dX7_wanted_47 : decode cX7_wanted 47 = .ok (.getfield 84, 3) := by decide +kernel
theorem dX7_wanted_50 : decode cX7_wanted 50 = .ok (.ishl, 1) := by decide +kernel
theorem dX7_wanted_51 : decode cX7_wanted 51 = .ok (.if_icmp .ge 106, 3) := by decide +kernel
theorem dX7_wanted_54 : decode cX7_wanted 54 = .ok (.iload 5, 2) := by decide +kernel
theorem dX7_wanted_56 : decode cX7_wanted 56 = .ok (.iload_n 3, 1) := by decide +kernel
theorem dX7_wanted_57 : decode cX7_wanted 57 = .ok (.iconst (-1), 1) := by decide +kernel
theorem dX7_wanted_58 : decode cX7_wanted 58 = .ok (.ixor, 1) := by decide +kernel
theorem dX7_wanted_59 : decode cX7_wanted 59 = .ok (.iand, 1) := by decide +kernel
theorem dX7_wanted_60 : decode cX7_wanted 60 = .ok (.ifCond .ne 36, 3) := by decide +kernel
theorem dX7_wanted_63 : decode cX7_wanted 63 = .ok (.iload 5, 2) := by decide +kernel
theorem dX7_wanted_65 : decode cX7_wanted 65 = .ok (.invokestatic 167, 3) := by decide +kernel
theorem dX7_wanted_68 : decode cX7_wanted 68 = .ok (.iconst 4, 1) := by decide +kernel
theorem dX7_wanted_69 : decode cX7_wanted 69 = .ok (.if_icmp .gt 27, 3) := by decide +kernel
theorem dX7_wanted_72 : decode cX7_wanted 72 = .ok (.iload 4, 2) := by decide +kernel
theorem dX7_wanted_74 : decode cX7_wanted 74 = .ok (.bipush (-4), 2) := by decide +kernel
theorem dX7_wanted_76 : decode cX7_wanted 76 = .ok (.if_icmp .eq 16, 3) := by decide +kernel
theorem dX7_wanted_79 : decode cX7_wanted 79 = .ok (.iload 5, 2) := by decide +kernel
theorem dX7_wanted_81 : decode cX7_wanted 81 = .ok (.invokestatic 167, 3) := by decide +kernel
theorem dX7_wanted_84 : decode cX7_wanted 84 = .ok (.iload 4, 2) := by decide +kernel
theorem dX7_wanted_86 : decode cX7_wanted 86 = .ok (.invokestatic 167, 3) := by decide +kernel
theorem dX7_wanted_89 : decode cX7_wanted 89 = .ok (.if_icmp .ge 7, 3) := by decide +kernel
theorem dX7_wanted_92 : decode cX7_wanted 92 = .ok (.iconst 1, 1) := by decide +kernel
theorem dX7_wanted_93 : decode cX7_wanted 93 = .ok (.goto 4, 3) := by decide +kernel
theorem dX7_wanted_96 : decode cX7_wanted 96 = .ok (.iconst 0, 1) := by decide +kernel
theorem dX7_wanted_97 : decode cX7_wanted 97 = .ok (.istore 6, 2) := by decide +kernel
theorem dX7_wanted_99 : decode cX7_wanted 99 = .ok (.iload 6, 2) := by decide +kernel
theorem dX7_wanted_101 : decode cX7_wanted 101 = .ok (.ifCond .eq 50, 3) := by decide +kernel
theorem dX7_wanted_104 : decode cX7_wanted 104 = .ok (.aload_n 0, 1) := by decide +kernel
theorem dX7_wanted_105 : decode cX7_wanted 105 = .ok (.iload 5, 2) := by decide +kernel
theorem dX7_wanted_107 : decode cX7_wanted 107 = .ok (.iload_n 3, 1) := by decide +kernel
theorem dX7_wanted_108 : decode cX7_wanted 108 = .ok (.invokevirtual 187, 3) := by decide +kernel
theorem dX7_wanted_111 : decode cX7_wanted 111 = .ok (.ifCond .eq 40, 3) := by decide +kernel
theorem dX7_wanted_114 : decode cX7_wanted 114 = .ok (.aload_n 0, 1) := by decide +kernel
theorem dX7_wanted_115 : decode cX7_wanted 115 = .ok (.iload 5, 2) := by decide +kernel
theorem dX7_wanted_117 : decode cX7_wanted 117 = .ok (.aload_n 0, 1) := by decide +kernel
theorem dX7_wanted_118 : decode cX7_wanted 118 = .ok (.getfield 116, 3) := by decide +kernel
theorem dX7_wanted_121 : decode cX7_wanted 121 = .ok (.invokevirtual 119, 3) := by decide +kernel
theorem dX7_wanted_124 : decode cX7_wanted 124 = .ok (.istore 7, 2) := by decide +kernel
theorem dX7_wanted_126 : decode cX7_wanted 126 = .ok (.iload_n 1, 1) := by decide +kernel
theorem dX7_wanted_127 : decode cX7_wanted 127 = .ok (.iload 7, 2) := by decide +kernel
theorem dX7_wanted_129 : decode cX7_wanted 129 = .ok (.iconst (-1), 1) := by decide +kernel
theorem dX7_wanted_130 : decode cX7_wanted 130 = .ok (.ixor, 1) := by decide +kernel
theorem dX7_wanted_131 : decode cX7_wanted 131 = .ok (.iand, 1) := by decide +kernel
theorem dX7_wanted_132 : decode cX7_wanted 132 = .ok (.ifCond .ne 15, 3) := by decide +kernel
theorem dX7_wanted_135 : decode cX7_wanted 135 = .ok (.iload_n 2, 1) := by decide +kernel
theorem dX7_wanted_136 : decode cX7_wanted 136 = .ok (.iload 7, 2) := by decide +kernel
theorem dX7_wanted_138 : decode cX7_wanted 138 = .ok (.iand, 1) := by decide +kernel
theorem dX7_wanted_139 : decode cX7_wanted 139 = .ok (.ifCond .ne 8, 3) := by decide +kernel
theorem dX7_wanted_142 : decode cX7_wanted 142 = .ok (.iload 5, 2) := by decide +kernel
theorem dX7_wanted_144 : decode cX7_wanted 144 = .ok (.goto 5, 3) := by decide +kernel
theorem dX7_wanted_147 : decode cX7_wanted 147 = .ok (.iload 4, 2) := by decide +kernel
theorem dX7_wanted_149 : decode cX7_wanted 149 = .ok (.istore 4, 2) := by decide +kernel
theorem dX7_wanted_151 : decode cX7_wanted 151 = .ok (.iinc 5 1, 3) := by decide +kernel
theorem dX7_wanted_154 : decode cX7_wanted 154 = .ok (.goto (-111), 3) := by decide +kernel
theorem dX7_wanted_157 : decode cX7_wanted 157 = .ok (.iload 4, 2) := by decide +kernel
theorem dX7_wanted_159 : decode cX7_wanted 159 = .ok (.ireturn, 1) := by decide +kernel
theorem dX7_own_0 : decode cX7_own 0 = .ok (.aload_n 0, 1) := by decide +kernel
theorem dX7_own_1 : decode cX7_own 1 = .ok (.iload_n 1, 1) := by decide +kernel
theorem dX7_own_2 : decode cX7_own 2 = .ok (.aload_n 0, 1) := by decide +kernel
theorem dX7_own_3 : decode cX7_own 3 = .ok (.getfield 116, 3) := by decide +kernel
theorem dX7_own_6 : decode cX7_own 6 = .ok (.invokevirtual 180, 3) := by decide +kernel
theorem dX7_own_9 : decode cX7_own 9 = .ok (.aload_n 0, 1) := by decide +kernel
theorem dX7_own_10 : decode cX7_own 10 = .ok (.getfield 40, 3) := by decide +kernel
theorem dX7_own_13 : decode cX7_own 13 = .ok (.iload_n 2, 1) := by decide +kernel
theorem dX7_own_14 : decode cX7_own 14 = .ok (.iaload, 1) := by decide +kernel
theorem dX7_own_15 : decode cX7_own 15 = .ok (.ireturn, 1) := by decide +kernel
theorem dX7_plays_0 : decode cX7_plays 0 = .ok (.aload_n 0, 1) := by decide +kernel
theorem dX7_plays_1 : decode cX7_plays 1 = .ok (.iconst 0, 1) := by decide +kernel
theorem dX7_plays_2 : decode cX7_plays 2 = .ok (.aload_n 0, 1) := by decide +kernel
theorem dX7_plays_3 : decode cX7_plays 3 = .ok (.getfield 116, 3) := by decide +kernel
theorem dX7_plays_6 : decode cX7_plays 6 = .ok (.invokevirtual 119, 3) := by decide +kernel
theorem dX7_plays_9 : decode cX7_plays 9 = .ok (.istore_n 2, 1) := by decide +kernel
theorem dX7_plays_10 : decode cX7_plays 10 = .ok (.iconst 0, 1) := by decide +kernel
theorem dX7_plays_11 : decode cX7_plays 11 = .ok (.istore_n 3, 1) := by decide +kernel
theorem dX7_plays_12 : decode cX7_plays 12 = .ok (.iconst 0, 1) := by decide +kernel
theorem dX7_plays_13 : decode cX7_plays 13 = .ok (.istore 4, 2) := by decide +kernel
theorem dX7_plays_15 : decode cX7_plays 15 = .ok (.iconst 1, 1) := by decide +kernel
theorem dX7_plays_16 : decode cX7_plays 16 = .ok (.istore 5, 2) := by decide +kernel
theorem dX7_plays_18 : decode cX7_plays 18 = .ok (.aload_n 0, 1) := by decide +kernel
theorem dX7_plays_19 : decode cX7_plays 19 = .ok (.getfield 46, 3) := by decide +kernel
theorem dX7_plays_22 : decode cX7_plays 22 = .ok (.iconst 0, 1) := by decide +kernel
theorem dX7_plays_23 : decode cX7_plays 23 = .ok (.iconst 0, 1) := by decide +kernel
theorem dX7_plays_24 : decode cX7_plays 24 = .ok (.iastore, 1) := by decide +kernel
theorem dX7_plays_25 : decode cX7_plays 25 = .ok (.iload_n 3, 1) := by decide +kernel
theorem dX7_plays_26 : decode cX7_plays 26 = .ok (.ifCond .lt 279, 3) := by decide +kernel
theorem dX7_plays_29 : decode cX7_plays 29 = .ok (.bipush 11, 2) := by decide +kernel
theorem dX7_plays_31 : decode cX7_plays 31 = .ok (.iload_n 3, 1) := by decide +kernel
theorem dX7_plays_32 : decode cX7_plays 32 = .ok (.isub, 1) := by decide +kernel
theorem dX7_plays_33 : decode cX7_plays 33 = .ok (.istore 6, 2) := by decide +kernel
theorem dX7_plays_35 : decode cX7_plays 35 = .ok (.iload_n 3, 1) := by decide +kernel
theorem dX7_plays_36 : decode cX7_plays 36 = .ok (.bipush 12, 2) := by decide +kernel
theorem dX7_plays_38 : decode cX7_plays 38 = .ok (.if_icmp .ne 21, 3) := by decide +kernel
theorem dX7_plays_41 : decode cX7_plays 41 = .ok (.aload_n 0, 1) := by decide +kernel
theorem dX7_plays_42 : decode cX7_plays 42 = .ok (.getfield 46, 3) := by decide +kernel
theorem dX7_plays_45 : decode cX7_plays 45 = .ok (.bipush 12, 2) := by decide +kernel
theorem dX7_plays_47 : decode cX7_plays 47 = .ok (.iaload, 1) := by decide +kernel
theorem dX7_plays_48 : decode cX7_plays 48 = .ok (.istore 4, 2) := by decide +kernel
theorem dX7_plays_50 : decode cX7_plays 50 = .ok (.iinc 3 (-1), 3) := by decide +kernel
theorem dX7_plays_53 : decode cX7_plays 53 = .ok (.iconst 0, 1) := by decide +kernel
theorem dX7_plays_54 : decode cX7_plays 54 = .ok (.istore 5, 2) := by decide +kernel
theorem dX7_plays_56 : decode cX7_plays 56 = .ok (.goto 246, 3) := by decide +kernel
theorem dX7_plays_59 : decode cX7_plays 59 = .ok (.iload 6, 2) := by decide +kernel
theorem dX7_plays_61 : decode cX7_plays 61 = .ok (.aload_n 0, 1) := by decide +kernel
theorem dX7_plays_62 : decode cX7_plays 62 = .ok (.getfield 77, 3) := by decide +kernel
theorem dX7_plays_65 : decode cX7_plays 65 = .ok (.irem, 1) := by decide +kernel
theorem dX7_plays_66 : decode cX7_plays 66 = .ok (.istore 7, 2) := by decide +kernel
theorem dX7_plays_68 : decode cX7_plays 68 = .ok (.iload 5, 2) := by decide +kernel
theorem dX7_plays_70 : decode cX7_plays 70 = .ok (.ifCond .eq 20, 3) := by decide +kernel
theorem dX7_plays_73 : decode cX7_plays 73 = .ok (.aload_n 0, 1) := by decide +kernel
theorem dX7_plays_74 : decode cX7_plays 74 = .ok (.getfield 49, 3) := by decide +kernel
theorem dX7_plays_77 : decode cX7_plays 77 = .ok (.iload_n 3, 1) := by decide +kernel
theorem dX7_plays_78 : decode cX7_plays 78 = .ok (.iconst (-1), 1) := by decide +kernel
theorem dX7_plays_79 : decode cX7_plays 79 = .ok (.iastore, 1) := by decide +kernel
theorem dX7_plays_80 : decode cX7_plays 80 = .ok (.aload_n 0, 1) := by decide +kernel
theorem dX7_plays_81 : decode cX7_plays 81 = .ok (.getfield 52, 3) := by decide +kernel
theorem dX7_plays_84 : decode cX7_plays 84 = .ok (.iload_n 3, 1) := by decide +kernel
theorem dX7_plays_85 : decode cX7_plays 85 = .ok (.iconst (-1), 1) := by decide +kernel
theorem dX7_plays_86 : decode cX7_plays 86 = .ok (.iastore, 1) := by decide +kernel
theorem dX7_plays_87 : decode cX7_plays 87 = .ok (.goto 74, 3) := by decide +kernel
theorem dX7_plays_90 : decode cX7_plays 90 = .ok (.aload_n 0, 1) := by decide +kernel
theorem dX7_plays_91 : decode cX7_plays 91 = .ok (.getfield 52, 3) := by decide +kernel
theorem dX7_plays_94 : decode cX7_plays 94 = .ok (.iload_n 3, 1) := by decide +kernel
theorem dX7_plays_95 : decode cX7_plays 95 = .ok (.iaload, 1) := by decide +kernel
theorem dX7_plays_96 : decode cX7_plays 96 = .ok (.ifCond .lt 26, 3) := by decide +kernel
theorem dX7_plays_99 : decode cX7_plays 99 = .ok (.aload_n 0, 1) := by decide +kernel
theorem dX7_plays_100 : decode cX7_plays 100 = .ok (.iload 4, 2) := by decide +kernel
theorem dX7_plays_102 : decode cX7_plays 102 = .ok (.iload 7, 2) := by decide +kernel
theorem dX7_plays_104 : decode cX7_plays 104 = .ok (.invokevirtual 195, 3) := by decide +kernel
theorem dX7_plays_107 : decode cX7_plays 107 = .ok (.aload_n 0, 1) := by decide +kernel
theorem dX7_plays_108 : decode cX7_plays 108 = .ok (.aload_n 0, 1) := by decide +kernel
theorem dX7_plays_109 : decode cX7_plays 109 = .ok (.getfield 52, 3) := by decide +kernel
theorem dX7_plays_112 : decode cX7_plays 112 = .ok (.iload_n 3, 1) := by decide +kernel
theorem dX7_plays_113 : decode cX7_plays 113 = .ok (.iaload, 1) := by decide +kernel
theorem dX7_plays_114 : decode cX7_plays 114 = .ok (.iload 7, 2) := by decide +kernel
theorem dX7_plays_116 : decode cX7_plays 116 = .ok (.invokevirtual 195, 3) := by decide +kernel
theorem dX7_plays_119 : decode cX7_plays 119 = .ok (.if_icmp .le 7, 3) := by decide +kernel
theorem dX7_plays_122 : decode cX7_plays 122 = .ok (.iconst 1, 1) := by decide +kernel
theorem dX7_plays_123 : decode cX7_plays 123 = .ok (.goto 4, 3) := by decide +kernel
theorem dX7_plays_126 : decode cX7_plays 126 = .ok (.iconst 0, 1) := by decide +kernel
theorem dX7_plays_127 : decode cX7_plays 127 = .ok (.istore 8, 2) := by decide +kernel
theorem dX7_plays_129 : decode cX7_plays 129 = .ok (.aload_n 0, 1) := by decide +kernel
theorem dX7_plays_130 : decode cX7_plays 130 = .ok (.getfield 52, 3) := by decide +kernel
theorem dX7_plays_133 : decode cX7_plays 133 = .ok (.iload_n 3, 1) := by decide +kernel
theorem dX7_plays_134 : decode cX7_plays 134 = .ok (.iload 8, 2) := by decide +kernel
theorem dX7_plays_136 : decode cX7_plays 136 = .ok (.ifCond .eq 8, 3) := by decide +kernel
theorem dX7_plays_139 : decode cX7_plays 139 = .ok (.iload 4, 2) := by decide +kernel
theorem dX7_plays_141 : decode cX7_plays 141 = .ok (.goto 9, 3) := by decide +kernel
theorem dX7_plays_144 : decode cX7_plays 144 = .ok (.aload_n 0, 1) := by decide +kernel
theorem dX7_plays_145 : decode cX7_plays 145 = .ok (.getfield 52, 3) := by decide +kernel
theorem dX7_plays_148 : decode cX7_plays 148 = .ok (.iload_n 3, 1) := by decide +kernel
theorem dX7_plays_149 : decode cX7_plays 149 = .ok (.iaload, 1) := by decide +kernel
theorem dX7_plays_150 : decode cX7_plays 150 = .ok (.iastore, 1) := by decide +kernel
theorem dX7_plays_151 : decode cX7_plays 151 = .ok (.aload_n 0, 1) := by decide +kernel
theorem dX7_plays_152 : decode cX7_plays 152 = .ok (.getfield 49, 3) := by decide +kernel
theorem dX7_plays_155 : decode cX7_plays 155 = .ok (.iload_n 3, 1) := by decide +kernel
theorem dX7_plays_156 : decode cX7_plays 156 = .ok (.dup2, 1) := by decide +kernel
theorem dX7_plays_157 : decode cX7_plays 157 = .ok (.iaload, 1) := by decide +kernel
theorem dX7_plays_158 : decode cX7_plays 158 = .ok (.iconst 1, 1) := by decide +kernel
theorem dX7_plays_159 : decode cX7_plays 159 = .ok (.iadd, 1) := by decide +kernel
theorem dX7_plays_160 : decode cX7_plays 160 = .ok (.iastore, 1) := by decide +kernel
theorem dX7_plays_161 : decode cX7_plays 161 = .ok (.iload 7, 2) := by decide +kernel
theorem dX7_plays_163 : decode cX7_plays 163 = .ok (.iload_n 1, 1) := by decide +kernel
theorem dX7_plays_164 : decode cX7_plays 164 = .ok (.if_icmp .ne 7, 3) := by decide +kernel
theorem dX7_plays_167 : decode cX7_plays 167 = .ok (.iconst 0, 1) := by decide +kernel
theorem dX7_plays_168 : decode cX7_plays 168 = .ok (.goto 11, 3) := by decide +kernel
theorem dX7_plays_171 : decode cX7_plays 171 = .ok (.aload_n 0, 1) := by decide +kernel
theorem dX7_plays_172 : decode cX7_plays 172 = .ok (.iload 6, 2) := by decide +kernel
theorem dX7_plays_174 : decode cX7_plays 174 = .ok (.invokevirtual 162, 3) := by decide +kernel
theorem dX7_plays_177 : decode cX7_plays 177 = .ok (.iload_n 2, 1) := by decide +kernel
theorem dX7_plays_178 : decode cX7_plays 178 = .ok (.iand, 1) := by decide +kernel
theorem dX7_plays_179 : decode cX7_plays 179 = .ok (.istore 8, 2) := by decide +kernel
theorem dX7_plays_181 : decode cX7_plays 181 = .ok (.aload_n 0, 1) := by decide +kernel
theorem dX7_plays_182 : decode cX7_plays 182 = .ok (.getfield 49, 3) := by decide +kernel
theorem dX7_plays_185 : decode cX7_plays 185 = .ok (.iload_n 3, 1) := by decide +kernel
theorem dX7_plays_186 : decode cX7_plays 186 = .ok (.iaload, 1) := by decide +kernel
theorem dX7_plays_187 : decode cX7_plays 187 = .ok (.ifCond .lt 43, 3) := by decide +kernel
theorem dX7_plays_190 : decode cX7_plays 190 = .ok (.aload_n 0, 1) := by decide +kernel
theorem dX7_plays_191 : decode cX7_plays 191 = .ok (.getfield 49, 3) := by decide +kernel
theorem dX7_plays_194 : decode cX7_plays 194 = .ok (.iload_n 3, 1) := by decide +kernel
theorem dX7_plays_195 : decode cX7_plays 195 = .ok (.iaload, 1) := by decide +kernel
theorem dX7_plays_196 : decode cX7_plays 196 = .ok (.aload_n 0, 1) := by decide +kernel
theorem dX7_plays_197 : decode cX7_plays 197 = .ok (.getfield 84, 3) := by decide +kernel
theorem dX7_plays_200 : decode cX7_plays 200 = .ok (.if_icmp .ge 30, 3) := by decide +kernel
theorem dX7_plays_203 : decode cX7_plays 203 = .ok (.iload 8, 2) := by decide +kernel
theorem dX7_plays_205 : decode cX7_plays 205 = .ok (.aload_n 0, 1) := by decide +kernel
theorem dX7_plays_206 : decode cX7_plays 206 = .ok (.getfield 49, 3) := by decide +kernel
theorem dX7_plays_209 : decode cX7_plays 209 = .ok (.iload_n 3, 1) := by decide +kernel
theorem dX7_plays_210 : decode cX7_plays 210 = .ok (.iaload, 1) := by decide +kernel
theorem dX7_plays_211 : decode cX7_plays 211 = .ok (.ishr, 1) := by decide +kernel
theorem dX7_plays_212 : decode cX7_plays 212 = .ok (.iconst 1, 1) := by decide +kernel
theorem dX7_plays_213 : decode cX7_plays 213 = .ok (.iand, 1) := by decide +kernel
theorem dX7_plays_214 : decode cX7_plays 214 = .ok (.ifCond .ne 16, 3) := by decide +kernel
theorem dX7_plays_217 : decode cX7_plays 217 = .ok (.aload_n 0, 1) := by decide +kernel
theorem dX7_plays_218 : decode cX7_plays 218 = .ok (.getfield 49, 3) := by decide +kernel
theorem dX7_plays_221 : decode cX7_plays 221 = .ok (.iload_n 3, 1) := by decide +kernel
theorem dX7_plays_222 : decode cX7_plays 222 = .ok (.dup2, 1) := by decide +kernel
theorem dX7_plays_223 : decode cX7_plays 223 = .ok (.iaload, 1) := by decide +kernel
theorem dX7_plays_224 : decode cX7_plays 224 = .ok (.iconst 1, 1) := by decide +kernel
theorem dX7_plays_225 : decode cX7_plays 225 = .ok (.iadd, 1) := by decide +kernel
theorem dX7_plays_226 : decode cX7_plays 226 = .ok (.iastore, 1) := by decide +kernel
theorem dX7_plays_227 : decode cX7_plays 227 = .ok (.goto (-46), 3) := by decide +kernel
theorem dX7_plays_230 : decode cX7_plays 230 = .ok (.aload_n 0, 1) := by decide +kernel
theorem dX7_plays_231 : decode cX7_plays 231 = .ok (.getfield 49, 3) := by decide +kernel
theorem dX7_plays_234 : decode cX7_plays 234 = .ok (.iload_n 3, 1) := by decide +kernel
theorem dX7_plays_235 : decode cX7_plays 235 = .ok (.iaload, 1) := by decide +kernel
theorem dX7_plays_236 : decode cX7_plays 236 = .ok (.aload_n 0, 1) := by decide +kernel
theorem dX7_plays_237 : decode cX7_plays 237 = .ok (.getfield 84, 3) := by decide +kernel
theorem dX7_plays_240 : decode cX7_plays 240 = .ok (.if_icmp .lt 20, 3) := by decide +kernel
theorem dX7_plays_243 : decode cX7_plays 243 = .ok (.aload_n 0, 1) := by decide +kernel
theorem dX7_plays_244 : decode cX7_plays 244 = .ok (.getfield 52, 3) := by decide +kernel
theorem dX7_plays_247 : decode cX7_plays 247 = .ok (.iload_n 3, 1) := by decide +kernel
theorem dX7_plays_248 : decode cX7_plays 248 = .ok (.iaload, 1) := by decide +kernel
theorem dX7_plays_249 : decode cX7_plays 249 = .ok (.istore 4, 2) := by decide +kernel
theorem dX7_plays_251 : decode cX7_plays 251 = .ok (.iinc 3 (-1), 3) := by decide +kernel
theorem dX7_plays_254 : decode cX7_plays 254 = .ok (.iconst 0, 1) := by decide +kernel
theorem dX7_plays_255 : decode cX7_plays 255 = .ok (.istore 5, 2) := by decide +kernel
theorem dX7_plays_257 : decode cX7_plays 257 = .ok (.goto 45, 3) := by decide +kernel
theorem dX7_plays_260 : decode cX7_plays 260 = .ok (.aload_n 0, 1) := by decide +kernel
theorem dX7_plays_261 : decode cX7_plays 261 = .ok (.getfield 46, 3) := by decide +kernel
theorem dX7_plays_264 : decode cX7_plays 264 = .ok (.iload_n 3, 1) := by decide +kernel
theorem dX7_plays_265 : decode cX7_plays 265 = .ok (.iconst 1, 1) := by decide +kernel
theorem dX7_plays_266 : decode cX7_plays 266 = .ok (.iadd, 1) := by decide +kernel
theorem dX7_plays_267 : decode cX7_plays 267 = .ok (.aload_n 0, 1) := by decide +kernel
theorem dX7_plays_268 : decode cX7_plays 268 = .ok (.getfield 46, 3) := by decide +kernel
theorem dX7_plays_271 : decode cX7_plays 271 = .ok (.iload_n 3, 1) := by decide +kernel
theorem dX7_plays_272 : decode cX7_plays 272 = .ok (.iaload, 1) := by decide +kernel
theorem dX7_plays_273 : decode cX7_plays 273 = .ok (.aload_n 0, 1) := by decide +kernel
theorem dX7_plays_274 : decode cX7_plays 274 = .ok (.getfield 49, 3) := by decide +kernel
theorem dX7_plays_277 : decode cX7_plays 277 = .ok (.iload_n 3, 1) := by decide +kernel
theorem dX7_plays_278 : decode cX7_plays 278 = .ok (.iaload, 1) := by decide +kernel
theorem dX7_plays_279 : decode cX7_plays 279 = .ok (.ifCond .ge 7, 3) := by decide +kernel
theorem dX7_plays_282 : decode cX7_plays 282 = .ok (.iconst 0, 1) := by decide +kernel
theorem dX7_plays_283 : decode cX7_plays 283 = .ok (.goto 11, 3) := by decide +kernel
theorem dX7_plays_286 : decode cX7_plays 286 = .ok (.iconst 1, 1) := by decide +kernel
theorem dX7_plays_287 : decode cX7_plays 287 = .ok (.aload_n 0, 1) := by decide +kernel
theorem dX7_plays_288 : decode cX7_plays 288 = .ok (.getfield 49, 3) := by decide +kernel
theorem dX7_plays_291 : decode cX7_plays 291 = .ok (.iload_n 3, 1) := by decide +kernel
theorem dX7_plays_292 : decode cX7_plays 292 = .ok (.iaload, 1) := by decide +kernel
theorem dX7_plays_293 : decode cX7_plays 293 = .ok (.ishl, 1) := by decide +kernel
theorem dX7_plays_294 : decode cX7_plays 294 = .ok (.ior, 1) := by decide +kernel
theorem dX7_plays_295 : decode cX7_plays 295 = .ok (.iastore, 1) := by decide +kernel
theorem dX7_plays_296 : decode cX7_plays 296 = .ok (.iinc 3 1, 3) := by decide +kernel
theorem dX7_plays_299 : decode cX7_plays 299 = .ok (.iconst 1, 1) := by decide +kernel
theorem dX7_plays_300 : decode cX7_plays 300 = .ok (.istore 5, 2) := by decide +kernel
theorem dX7_plays_302 : decode cX7_plays 302 = .ok (.goto (-277), 3) := by decide +kernel
theorem dX7_plays_305 : decode cX7_plays 305 = .ok (.iload 4, 2) := by decide +kernel
theorem dX7_plays_307 : decode cX7_plays 307 = .ok (.ireturn, 1) := by decide +kernel
theorem dX7_self_0 : decode cX7_self 0 = .ok (.aload_n 0, 1) := by decide +kernel
theorem dX7_self_1 : decode cX7_self 1 = .ok (.iconst (-1), 1) := by decide +kernel
theorem dX7_self_2 : decode cX7_self 2 = .ok (.invokevirtual 198, 3) := by decide +kernel
theorem dX7_self_5 : decode cX7_self 5 = .ok (.ireturn, 1) := by decide +kernel
theorem dX7_turn_0 : decode cX7_turn 0 = .ok (.aload_n 0, 1) := by decide +kernel
theorem dX7_turn_1 : decode cX7_turn 1 = .ok (.iload_n 1, 1) := by decide +kernel
theorem dX7_turn_2 : decode cX7_turn 2 = .ok (.invokevirtual 176, 3) := by decide +kernel
theorem dX7_turn_5 : decode cX7_turn 5 = .ok (.ifCond .ne 6, 3) := by decide +kernel
theorem dX7_turn_8 : decode cX7_turn 8 = .ok (.ldc 127, 2) := by decide +kernel
theorem dX7_turn_10 : decode cX7_turn 10 = .ok (.ireturn, 1) := by decide +kernel
theorem dX7_turn_11 : decode cX7_turn 11 = .ok (.aload_n 0, 1) := by decide +kernel
theorem dX7_turn_12 : decode cX7_turn 12 = .ok (.aload_n 0, 1) := by decide +kernel
theorem dX7_turn_13 : decode cX7_turn 13 = .ok (.iconst (-1), 1) := by decide +kernel
theorem dX7_turn_14 : decode cX7_turn 14 = .ok (.invokevirtual 198, 3) := by decide +kernel
theorem dX7_turn_17 : decode cX7_turn 17 = .ok (.iload_n 1, 1) := by decide +kernel
theorem dX7_turn_18 : decode cX7_turn 18 = .ok (.invokevirtual 195, 3) := by decide +kernel
theorem dX7_turn_21 : decode cX7_turn 21 = .ok (.istore_n 2, 1) := by decide +kernel
theorem dX7_turn_22 : decode cX7_turn 22 = .ok (.iload_n 2, 1) := by decide +kernel
theorem dX7_turn_23 : decode cX7_turn 23 = .ok (.aload_n 0, 1) := by decide +kernel
theorem dX7_turn_24 : decode cX7_turn 24 = .ok (.aload_n 0, 1) := by decide +kernel
theorem dX7_turn_25 : decode cX7_turn 25 = .ok (.iload_n 1, 1) := by decide +kernel
theorem dX7_turn_26 : decode cX7_turn 26 = .ok (.invokevirtual 198, 3) := by decide +kernel
theorem dX7_turn_29 : decode cX7_turn 29 = .ok (.iload_n 1, 1) := by decide +kernel
theorem dX7_turn_30 : decode cX7_turn 30 = .ok (.invokevirtual 195, 3) := by decide +kernel
theorem dX7_turn_33 : decode cX7_turn 33 = .ok (.isub, 1) := by decide +kernel
theorem dX7_turn_34 : decode cX7_turn 34 = .ok (.ireturn, 1) := by decide +kernel
theorem dX7_bargain_0 : decode cX7_bargain 0 = .ok (.aload_n 0, 1) := by decide +kernel
theorem dX7_bargain_1 : decode cX7_bargain 1 = .ok (.iload_n 1, 1) := by decide +kernel
theorem dX7_bargain_2 : decode cX7_bargain 2 = .ok (.i2l, 1) := by decide +kernel
theorem dX7_bargain_3 : decode cX7_bargain 3 = .ok (.invokevirtual 109, 3) := by decide +kernel
theorem dX7_bargain_6 : decode cX7_bargain 6 = .ok (.ifCond .eq 35, 3) := by decide +kernel
theorem dX7_bargain_9 : decode cX7_bargain 9 = .ok (.aload_n 0, 1) := by decide +kernel
theorem dX7_bargain_10 : decode cX7_bargain 10 = .ok (.iload_n 2, 1) := by decide +kernel
theorem dX7_bargain_11 : decode cX7_bargain 11 = .ok (.invokevirtual 176, 3) := by decide +kernel
theorem dX7_bargain_14 : decode cX7_bargain 14 = .ok (.ifCond .eq 27, 3) := by decide +kernel
theorem dX7_bargain_17 : decode cX7_bargain 17 = .ok (.aload_n 0, 1) := by decide +kernel
theorem dX7_bargain_18 : decode cX7_bargain 18 = .ok (.iload_n 3, 1) := by decide +kernel
theorem dX7_bargain_19 : decode cX7_bargain 19 = .ok (.invokevirtual 176, 3) := by decide +kernel
theorem dX7_bargain_22 : decode cX7_bargain 22 = .ok (.ifCond .eq 19, 3) := by decide +kernel
theorem dX7_bargain_25 : decode cX7_bargain 25 = .ok (.iload_n 2, 1) := by decide +kernel
theorem dX7_bargain_26 : decode cX7_bargain 26 = .ok (.iload_n 3, 1) := by decide +kernel
theorem dX7_bargain_27 : decode cX7_bargain 27 = .ok (.if_icmp .eq 14, 3) := by decide +kernel
theorem dX7_bargain_30 : decode cX7_bargain 30 = .ok (.iload 4, 2) := by decide +kernel
theorem dX7_bargain_32 : decode cX7_bargain 32 = .ok (.i2l, 1) := by decide +kernel
theorem dX7_bargain_33 : decode cX7_bargain 33 = .ok (.lconst 0, 1) := by decide +kernel
theorem dX7_bargain_34 : decode cX7_bargain 34 = .ok (.lconst 1, 1) := by decide +kernel
theorem dX7_bargain_35 : decode cX7_bargain 35 = .ok (.invokestatic 87, 3) := by decide +kernel
theorem dX7_bargain_38 : decode cX7_bargain 38 = .ok (.ifCond .ne 5, 3) := by decide +kernel
theorem dX7_bargain_41 : decode cX7_bargain 41 = .ok (.iconst (-1), 1) := by decide +kernel
theorem dX7_bargain_42 : decode cX7_bargain 42 = .ok (.ireturn, 1) := by decide +kernel
theorem dX7_bargain_43 : decode cX7_bargain 43 = .ok (.aload_n 0, 1) := by decide +kernel
theorem dX7_bargain_44 : decode cX7_bargain 44 = .ok (.aload_n 0, 1) := by decide +kernel
theorem dX7_bargain_45 : decode cX7_bargain 45 = .ok (.getfield 113, 3) := by decide +kernel
theorem dX7_bargain_48 : decode cX7_bargain 48 = .ok (.aload_n 0, 1) := by decide +kernel
theorem dX7_bargain_49 : decode cX7_bargain 49 = .ok (.getfield 116, 3) := by decide +kernel
theorem dX7_bargain_52 : decode cX7_bargain 52 = .ok (.invokevirtual 119, 3) := by decide +kernel
theorem dX7_bargain_55 : decode cX7_bargain 55 = .ok (.iload_n 1, 1) := by decide +kernel
theorem dX7_bargain_56 : decode cX7_bargain 56 = .ok (.ishr, 1) := by decide +kernel
theorem dX7_bargain_57 : decode cX7_bargain 57 = .ok (.iconst 1, 1) := by decide +kernel
theorem dX7_bargain_58 : decode cX7_bargain 58 = .ok (.iand, 1) := by decide +kernel
theorem dX7_bargain_59 : decode cX7_bargain 59 = .ok (.ifCond .ne 6, 3) := by decide +kernel
theorem dX7_bargain_62 : decode cX7_bargain 62 = .ok (.bipush (-2), 2) := by decide +kernel
theorem dX7_bargain_64 : decode cX7_bargain 64 = .ok (.ireturn, 1) := by decide +kernel
theorem dX7_bargain_65 : decode cX7_bargain 65 = .ok (.aload_n 0, 1) := by decide +kernel
theorem dX7_bargain_66 : decode cX7_bargain 66 = .ok (.getfield 113, 3) := by decide +kernel
theorem dX7_bargain_69 : decode cX7_bargain 69 = .ok (.iconst 1, 1) := by decide +kernel
theorem dX7_bargain_70 : decode cX7_bargain 70 = .ok (.iload_n 1, 1) := by decide +kernel
theorem dX7_bargain_71 : decode cX7_bargain 71 = .ok (.ishl, 1) := by decide +kernel
theorem dX7_bargain_72 : decode cX7_bargain 72 = .ok (.ior, 1) := by decide +kernel
theorem dX7_bargain_73 : decode cX7_bargain 73 = .ok (.istore 5, 2) := by decide +kernel
theorem dX7_bargain_75 : decode cX7_bargain 75 = .ok (.aload_n 0, 1) := by decide +kernel
theorem dX7_bargain_76 : decode cX7_bargain 76 = .ok (.iload 5, 2) := by decide +kernel
theorem dX7_bargain_78 : decode cX7_bargain 78 = .ok (.iload_n 2, 1) := by decide +kernel
theorem dX7_bargain_79 : decode cX7_bargain 79 = .ok (.invokevirtual 195, 3) := by decide +kernel
theorem dX7_bargain_82 : decode cX7_bargain 82 = .ok (.aload_n 0, 1) := by decide +kernel
theorem dX7_bargain_83 : decode cX7_bargain 83 = .ok (.aload_n 0, 1) := by decide +kernel
theorem dX7_bargain_84 : decode cX7_bargain 84 = .ok (.getfield 113, 3) := by decide +kernel
theorem dX7_bargain_87 : decode cX7_bargain 87 = .ok (.iload_n 2, 1) := by decide +kernel
theorem dX7_bargain_88 : decode cX7_bargain 88 = .ok (.invokevirtual 195, 3) := by decide +kernel
theorem dX7_bargain_91 : decode cX7_bargain 91 = .ok (.isub, 1) := by decide +kernel
theorem dX7_bargain_92 : decode cX7_bargain 92 = .ok (.istore 6, 2) := by decide +kernel
theorem dX7_bargain_94 : decode cX7_bargain 94 = .ok (.aload_n 0, 1) := by decide +kernel
theorem dX7_bargain_95 : decode cX7_bargain 95 = .ok (.aload_n 0, 1) := by decide +kernel
theorem dX7_bargain_96 : decode cX7_bargain 96 = .ok (.getfield 113, 3) := by decide +kernel
theorem dX7_bargain_99 : decode cX7_bargain 99 = .ok (.iload_n 3, 1) := by decide +kernel
theorem dX7_bargain_100 : decode cX7_bargain 100 = .ok (.invokevirtual 195, 3) := by decide +kernel
theorem dX7_bargain_103 : decode cX7_bargain 103 = .ok (.aload_n 0, 1) := by decide +kernel
theorem dX7_bargain_104 : decode cX7_bargain 104 = .ok (.iload 5, 2) := by decide +kernel
theorem dX7_bargain_106 : decode cX7_bargain 106 = .ok (.iload_n 3, 1) := by decide +kernel
theorem dX7_bargain_107 : decode cX7_bargain 107 = .ok (.invokevirtual 195, 3) := by decide +kernel
theorem dX7_bargain_110 : decode cX7_bargain 110 = .ok (.isub, 1) := by decide +kernel
theorem dX7_bargain_111 : decode cX7_bargain 111 = .ok (.istore 7, 2) := by decide +kernel
theorem dX7_bargain_113 : decode cX7_bargain 113 = .ok (.iload 7, 2) := by decide +kernel
theorem dX7_bargain_115 : decode cX7_bargain 115 = .ok (.ifCond .ge 7, 3) := by decide +kernel
theorem dX7_bargain_118 : decode cX7_bargain 118 = .ok (.iconst 0, 1) := by decide +kernel
theorem dX7_bargain_119 : decode cX7_bargain 119 = .ok (.goto 5, 3) := by decide +kernel
theorem dX7_bargain_122 : decode cX7_bargain 122 = .ok (.iload 7, 2) := by decide +kernel
theorem dX7_bargain_124 : decode cX7_bargain 124 = .ok (.istore 7, 2) := by decide +kernel
theorem dX7_bargain_126 : decode cX7_bargain 126 = .ok (.iload 6, 2) := by decide +kernel
theorem dX7_bargain_128 : decode cX7_bargain 128 = .ok (.iload 7, 2) := by decide +kernel
theorem dX7_bargain_130 : decode cX7_bargain 130 = .ok (.if_icmp .lt 8, 3) := by decide +kernel
theorem dX7_bargain_133 : decode cX7_bargain 133 = .ok (.iload 6, 2) := by decide +kernel
theorem dX7_bargain_135 : decode cX7_bargain 135 = .ok (.ifCond .gt 6, 3) := by decide +kernel
theorem dX7_bargain_138 : decode cX7_bargain 138 = .ok (.bipush (-4), 2) := by decide +kernel
theorem dX7_bargain_140 : decode cX7_bargain 140 = .ok (.ireturn, 1) := by decide +kernel
theorem dX7_bargain_141 : decode cX7_bargain 141 = .ok (.iload 4, 2) := by decide +kernel
theorem dX7_bargain_143 : decode cX7_bargain 143 = .ok (.ifCond .ne 8, 3) := by decide +kernel
theorem dX7_bargain_146 : decode cX7_bargain 146 = .ok (.iload 7, 2) := by decide +kernel
theorem dX7_bargain_148 : decode cX7_bargain 148 = .ok (.goto 5, 3) := by decide +kernel
theorem dX7_bargain_151 : decode cX7_bargain 151 = .ok (.iload 6, 2) := by decide +kernel
theorem dX7_bargain_153 : decode cX7_bargain 153 = .ok (.ireturn, 1) := by decide +kernel
theorem dX7_owes_0 : decode cX7_owes 0 = .ok (.iconst 0, 1) := by decide +kernel
theorem dX7_owes_1 : decode cX7_owes 1 = .ok (.istore_n 1, 1) := by decide +kernel
theorem dX7_owes_2 : decode cX7_owes 2 = .ok (.iload_n 1, 1) := by decide +kernel
theorem dX7_owes_3 : decode cX7_owes 3 = .ok (.iconst 4, 1) := by decide +kernel
theorem dX7_owes_4 : decode cX7_owes 4 = .ok (.if_icmp .ge 16, 3) := by decide +kernel
theorem dX7_owes_7 : decode cX7_owes 7 = .ok (.aload_n 0, 1) := by decide +kernel
theorem dX7_owes_8 : decode cX7_owes 8 = .ok (.getfield 55, 3) := by decide +kernel
theorem dX7_owes_11 : decode cX7_owes 11 = .ok (.iload_n 1, 1) := by decide +kernel
theorem dX7_owes_12 : decode cX7_owes 12 = .ok (.iconst 0, 1) := by decide +kernel
theorem dX7_owes_13 : decode cX7_owes 13 = .ok (.iastore, 1) := by decide +kernel
theorem dX7_owes_14 : decode cX7_owes 14 = .ok (.iinc 1 1, 3) := by decide +kernel
theorem dX7_owes_17 : decode cX7_owes 17 = .ok (.goto (-15), 3) := by decide +kernel
theorem dX7_owes_20 : decode cX7_owes 20 = .ok (.iconst 0, 1) := by decide +kernel
theorem dX7_owes_21 : decode cX7_owes 21 = .ok (.istore_n 1, 1) := by decide +kernel
theorem dX7_owes_22 : decode cX7_owes 22 = .ok (.iload_n 1, 1) := by decide +kernel
theorem dX7_owes_23 : decode cX7_owes 23 = .ok (.aload_n 0, 1) := by decide +kernel
theorem dX7_owes_24 : decode cX7_owes 24 = .ok (.getfield 84, 3) := by decide +kernel
theorem dX7_owes_27 : decode cX7_owes 27 = .ok (.if_icmp .ge 173, 3) := by decide +kernel
theorem dX7_owes_30 : decode cX7_owes 30 = .ok (.aload_n 0, 1) := by decide +kernel
theorem dX7_owes_31 : decode cX7_owes 31 = .ok (.iload_n 1, 1) := by decide +kernel
theorem dX7_owes_32 : decode cX7_owes 32 = .ok (.invokevirtual 170, 3) := by decide +kernel
theorem dX7_owes_35 : decode cX7_owes 35 = .ok (.istore_n 2, 1) := by decide +kernel
theorem dX7_owes_36 : decode cX7_owes 36 = .ok (.iconst 0, 1) := by decide +kernel
theorem dX7_owes_37 : decode cX7_owes 37 = .ok (.istore_n 3, 1) := by decide +kernel
theorem dX7_owes_38 : decode cX7_owes 38 = .ok (.iconst 0, 1) := by decide +kernel
theorem dX7_owes_39 : decode cX7_owes 39 = .ok (.istore 4, 2) := by decide +kernel
theorem dX7_owes_41 : decode cX7_owes 41 = .ok (.iload 4, 2) := by decide +kernel
theorem dX7_owes_43 : decode cX7_owes 43 = .ok (.aload_n 0, 1) := by decide +kernel
theorem dX7_owes_44 : decode cX7_owes 44 = .ok (.getfield 77, 3) := by decide +kernel
theorem dX7_owes_47 : decode cX7_owes 47 = .ok (.if_icmp .ge 37, 3) := by decide +kernel
theorem dX7_owes_50 : decode cX7_owes 50 = .ok (.iload_n 3, 1) := by decide +kernel
theorem dX7_owes_51 : decode cX7_owes 51 = .ok (.iload 4, 2) := by decide +kernel
theorem dX7_owes_53 : decode cX7_owes 53 = .ok (.iload_n 2, 1) := by decide +kernel
theorem dX7_owes_54 : decode cX7_owes 54 = .ok (.if_icmp .eq 21, 3) := by decide +kernel
theorem dX7_owes_57 : decode cX7_owes 57 = .ok (.aload_n 0, 1) := by decide +kernel
theorem dX7_owes_58 : decode cX7_owes 58 = .ok (.getfield 25, 3) := by decide +kernel
theorem dX7_owes_61 : decode cX7_owes 61 = .ok (.iconst 4, 1) := by decide +kernel
theorem dX7_owes_62 : decode cX7_owes 62 = .ok (.iload_n 1, 1) := by decide +kernel
theorem dX7_owes_63 : decode cX7_owes 63 = .ok (.imul, 1) := by decide +kernel
theorem dX7_owes_64 : decode cX7_owes 64 = .ok (.iload 4, 2) := by decide +kernel
theorem dX7_owes_66 : decode cX7_owes 66 = .ok (.iadd, 1) := by decide +kernel
theorem dX7_owes_67 : decode cX7_owes 67 = .ok (.iaload, 1) := by decide +kernel
theorem dX7_owes_68 : decode cX7_owes 68 = .ok (.ifCond .ge 7, 3) := by decide +kernel
theorem dX7_owes_71 : decode cX7_owes 71 = .ok (.iconst 1, 1) := by decide +kernel
theorem dX7_owes_72 : decode cX7_owes 72 = .ok (.goto 4, 3) := by decide +kernel
theorem dX7_owes_75 : decode cX7_owes 75 = .ok (.iconst 0, 1) := by decide +kernel
theorem dX7_owes_76 : decode cX7_owes 76 = .ok (.iadd, 1) := by decide +kernel
theorem dX7_owes_77 : decode cX7_owes 77 = .ok (.istore_n 3, 1) := by decide +kernel
theorem dX7_owes_78 : decode cX7_owes 78 = .ok (.iinc 4 1, 3) := by decide +kernel
theorem dX7_owes_81 : decode cX7_owes 81 = .ok (.goto (-40), 3) := by decide +kernel
theorem dX7_owes_84 : decode cX7_owes 84 = .ok (.aload_n 0, 1) := by decide +kernel
theorem dX7_owes_85 : decode cX7_owes 85 = .ok (.getfield 113, 3) := by decide +kernel
theorem dX7_owes_88 : decode cX7_owes 88 = .ok (.iload_n 1, 1) := by decide +kernel
theorem dX7_owes_89 : decode cX7_owes 89 = .ok (.ishr, 1) := by decide +kernel
theorem dX7_owes_90 : decode cX7_owes 90 = .ok (.iconst 1, 1) := by decide +kernel
theorem dX7_owes_91 : decode cX7_owes 91 = .ok (.iand, 1) := by decide +kernel
theorem dX7_owes_92 : decode cX7_owes 92 = .ok (.iconst 1, 1) := by decide +kernel
theorem dX7_owes_93 : decode cX7_owes 93 = .ok (.if_icmp .ne 101, 3) := by decide +kernel
theorem dX7_owes_96 : decode cX7_owes 96 = .ok (.iload_n 3, 1) := by decide +kernel
theorem dX7_owes_97 : decode cX7_owes 97 = .ok (.ifCond .le 97, 3) := by decide +kernel
theorem dX7_owes_100 : decode cX7_owes 100 = .ok (.aload_n 0, 1) := by decide +kernel
theorem dX7_owes_101 : decode cX7_owes 101 = .ok (.getfield 19, 3) := by decide +kernel
theorem dX7_owes_104 : decode cX7_owes 104 = .ok (.iload_n 1, 1) := by decide +kernel
theorem dX7_owes_105 : decode cX7_owes 105 = .ok (.iaload, 1) := by decide +kernel
theorem dX7_owes_106 : decode cX7_owes 106 = .ok (.iload_n 3, 1) := by decide +kernel
theorem dX7_owes_107 : decode cX7_owes 107 = .ok (.idiv, 1) := by decide +kernel
theorem dX7_owes_108 : decode cX7_owes 108 = .ok (.istore 4, 2) := by decide +kernel
theorem dX7_owes_110 : decode cX7_owes 110 = .ok (.aload_n 0, 1) := by decide +kernel
theorem dX7_owes_111 : decode cX7_owes 111 = .ok (.getfield 19, 3) := by decide +kernel
theorem dX7_owes_114 : decode cX7_owes 114 = .ok (.iload_n 1, 1) := by decide +kernel
theorem dX7_owes_115 : decode cX7_owes 115 = .ok (.iaload, 1) := by decide +kernel
theorem dX7_owes_116 : decode cX7_owes 116 = .ok (.iload 4, 2) := by decide +kernel
theorem dX7_owes_118 : decode cX7_owes 118 = .ok (.iload_n 3, 1) := by decide +kernel
theorem dX7_owes_119 : decode cX7_owes 119 = .ok (.imul, 1) := by decide +kernel
theorem dX7_owes_120 : decode cX7_owes 120 = .ok (.isub, 1) := by decide +kernel
theorem dX7_owes_121 : decode cX7_owes 121 = .ok (.istore 5, 2) := by decide +kernel
theorem dX7_owes_123 : decode cX7_owes 123 = .ok (.aload_n 0, 1) := by decide +kernel
theorem dX7_owes_124 : decode cX7_owes 124 = .ok (.getfield 55, 3) := by decide +kernel
theorem dX7_owes_127 : decode cX7_owes 127 = .ok (.iload_n 2, 1) := by decide +kernel
theorem dX7_owes_128 : decode cX7_owes 128 = .ok (.dup2, 1) := by decide +kernel
theorem dX7_owes_129 : decode cX7_owes 129 = .ok (.iaload, 1) := by decide +kernel
theorem dX7_owes_130 : decode cX7_owes 130 = .ok (.aload_n 0, 1) := by decide +kernel
theorem dX7_owes_131 : decode cX7_owes 131 = .ok (.getfield 19, 3) := by decide +kernel
theorem dX7_owes_134 : decode cX7_owes 134 = .ok (.iload_n 1, 1) := by decide +kernel
theorem dX7_owes_135 : decode cX7_owes 135 = .ok (.iaload, 1) := by decide +kernel
theorem dX7_owes_136 : decode cX7_owes 136 = .ok (.isub, 1) := by decide +kernel
theorem dX7_owes_137 : decode cX7_owes 137 = .ok (.iastore, 1) := by decide +kernel
theorem dX7_owes_138 : decode cX7_owes 138 = .ok (.iconst 0, 1) := by decide +kernel
theorem dX7_owes_139 : decode cX7_owes 139 = .ok (.istore 6, 2) := by decide +kernel
theorem dX7_owes_141 : decode cX7_owes 141 = .ok (.iload 6, 2) := by decide +kernel
theorem dX7_owes_143 : decode cX7_owes 143 = .ok (.aload_n 0, 1) := by decide +kernel
theorem dX7_owes_144 : decode cX7_owes 144 = .ok (.getfield 77, 3) := by decide +kernel
theorem dX7_owes_147 : decode cX7_owes 147 = .ok (.if_icmp .ge 47, 3) := by decide +kernel
theorem dX7_owes_150 : decode cX7_owes 150 = .ok (.iload 6, 2) := by decide +kernel
theorem dX7_owes_152 : decode cX7_owes 152 = .ok (.iload_n 2, 1) := by decide +kernel
theorem dX7_owes_153 : decode cX7_owes 153 = .ok (.if_icmp .eq 35, 3) := by decide +kernel
theorem dX7_owes_156 : decode cX7_owes 156 = .ok (.aload_n 0, 1) := by decide +kernel
theorem dX7_owes_157 : decode cX7_owes 157 = .ok (.getfield 25, 3) := by decide +kernel
theorem dX7_owes_160 : decode cX7_owes 160 = .ok (.iconst 4, 1) := by decide +kernel
theorem dX7_owes_161 : decode cX7_owes 161 = .ok (.iload_n 1, 1) := by decide +kernel
theorem dX7_owes_162 : decode cX7_owes 162 = .ok (.imul, 1) := by decide +kernel
theorem dX7_owes_163 : decode cX7_owes 163 = .ok (.iload 6, 2) := by decide +kernel
theorem dX7_owes_165 : decode cX7_owes 165 = .ok (.iadd, 1) := by decide +kernel
theorem dX7_owes_166 : decode cX7_owes 166 = .ok (.iaload, 1) := by decide +kernel
theorem dX7_owes_167 : decode cX7_owes 167 = .ok (.ifCond .ge 21, 3) := by decide +kernel
theorem dX7_owes_170 : decode cX7_owes 170 = .ok (.aload_n 0, 1) := by decide +kernel
theorem dX7_owes_171 : decode cX7_owes 171 = .ok (.getfield 55, 3) := by decide +kernel
theorem dX7_owes_174 : decode cX7_owes 174 = .ok (.iload 6, 2) := by decide +kernel
theorem dX7_owes_176 : decode cX7_owes 176 = .ok (.dup2, 1) := by decide +kernel
theorem dX7_owes_177 : decode cX7_owes 177 = .ok (.iaload, 1) := by decide +kernel
theorem dX7_owes_178 : decode cX7_owes 178 = .ok (.iload 4, 2) := by decide +kernel
theorem dX7_owes_180 : decode cX7_owes 180 = .ok (.iload 5, 2) := by decide +kernel
theorem dX7_owes_182 : decode cX7_owes 182 = .ok (.iadd, 1) := by decide +kernel
theorem dX7_owes_183 : decode cX7_owes 183 = .ok (.iadd, 1) := by decide +kernel
theorem dX7_owes_184 : decode cX7_owes 184 = .ok (.iastore, 1) := by decide +kernel
theorem dX7_owes_185 : decode cX7_owes 185 = .ok (.iconst 0, 1) := by decide +kernel
theorem dX7_owes_186 : decode cX7_owes 186 = .ok (.istore 5, 2) := by decide +kernel
theorem dX7_owes_188 : decode cX7_owes 188 = .ok (.iinc 6 1, 3) := by decide +kernel
theorem dX7_owes_191 : decode cX7_owes 191 = .ok (.goto (-50), 3) := by decide +kernel
theorem dX7_owes_194 : decode cX7_owes 194 = .ok (.iinc 1 1, 3) := by decide +kernel
theorem dX7_owes_197 : decode cX7_owes 197 = .ok (.goto (-175), 3) := by decide +kernel
theorem dX7_owes_200 : decode cX7_owes 200 = .ok (.return_, 1) := by decide +kernel
theorem dX7_due_0 : decode cX7_due 0 = .ok (.aload_n 0, 1) := by decide +kernel
theorem dX7_due_1 : decode cX7_due 1 = .ok (.iload_n 1, 1) := by decide +kernel
theorem dX7_due_2 : decode cX7_due 2 = .ok (.invokevirtual 176, 3) := by decide +kernel
theorem dX7_due_5 : decode cX7_due 5 = .ok (.ifCond .ne 6, 3) := by decide +kernel
theorem dX7_due_8 : decode cX7_due 8 = .ok (.ldc 127, 2) := by decide +kernel
theorem dX7_due_10 : decode cX7_due 10 = .ok (.ireturn, 1) := by decide +kernel
theorem dX7_due_11 : decode cX7_due 11 = .ok (.aload_n 0, 1) := by decide +kernel
theorem dX7_due_12 : decode cX7_due 12 = .ok (.invokevirtual 201, 3) := by decide +kernel
theorem dX7_due_15 : decode cX7_due 15 = .ok (.aload_n 0, 1) := by decide +kernel
theorem dX7_due_16 : decode cX7_due 16 = .ok (.getfield 55, 3) := by decide +kernel
theorem dX7_due_19 : decode cX7_due 19 = .ok (.iload_n 1, 1) := by decide +kernel
theorem dX7_due_20 : decode cX7_due 20 = .ok (.iaload, 1) := by decide +kernel
theorem dX7_due_21 : decode cX7_due 21 = .ok (.ireturn, 1) := by decide +kernel
theorem dX7_isZero_0 : decode cX7_isZero 0 = .ok (.iconst 0, 1) := by decide +kernel
theorem dX7_isZero_1 : decode cX7_isZero 1 = .ok (.istore_n 2, 1) := by decide +kernel
theorem dX7_isZero_2 : decode cX7_isZero 2 = .ok (.iconst 0, 1) := by decide +kernel
theorem dX7_isZero_3 : decode cX7_isZero 3 = .ok (.istore_n 3, 1) := by decide +kernel
theorem dX7_isZero_4 : decode cX7_isZero 4 = .ok (.iload_n 3, 1) := by decide +kernel
theorem dX7_isZero_5 : decode cX7_isZero 5 = .ok (.iconst 4, 1) := by decide +kernel
theorem dX7_isZero_6 : decode cX7_isZero 6 = .ok (.if_icmp .ge 31, 3) := by decide +kernel
theorem dX7_isZero_9 : decode cX7_isZero 9 = .ok (.iload_n 2, 1) := by decide +kernel
theorem dX7_isZero_10 : decode cX7_isZero 10 = .ok (.iload_n 1, 1) := by decide +kernel
theorem dX7_isZero_11 : decode cX7_isZero 11 = .ok (.iload_n 3, 1) := by decide +kernel
theorem dX7_isZero_12 : decode cX7_isZero 12 = .ok (.ishr, 1) := by decide +kernel
theorem dX7_isZero_13 : decode cX7_isZero 13 = .ok (.iconst 1, 1) := by decide +kernel
theorem dX7_isZero_14 : decode cX7_isZero 14 = .ok (.iand, 1) := by decide +kernel
theorem dX7_isZero_15 : decode cX7_isZero 15 = .ok (.iconst 1, 1) := by decide +kernel
theorem dX7_isZero_16 : decode cX7_isZero 16 = .ok (.if_icmp .ne 12, 3) := by decide +kernel
theorem dX7_isZero_19 : decode cX7_isZero 19 = .ok (.aload_n 0, 1) := by decide +kernel
theorem dX7_isZero_20 : decode cX7_isZero 20 = .ok (.getfield 55, 3) := by decide +kernel
theorem dX7_isZero_23 : decode cX7_isZero 23 = .ok (.iload_n 3, 1) := by decide +kernel
theorem dX7_isZero_24 : decode cX7_isZero 24 = .ok (.iaload, 1) := by decide +kernel
theorem dX7_isZero_25 : decode cX7_isZero 25 = .ok (.goto 4, 3) := by decide +kernel
theorem dX7_isZero_28 : decode cX7_isZero 28 = .ok (.iconst 0, 1) := by decide +kernel
theorem dX7_isZero_29 : decode cX7_isZero 29 = .ok (.iadd, 1) := by decide +kernel
theorem dX7_isZero_30 : decode cX7_isZero 30 = .ok (.istore_n 2, 1) := by decide +kernel
theorem dX7_isZero_31 : decode cX7_isZero 31 = .ok (.iinc 3 1, 3) := by decide +kernel
theorem dX7_isZero_34 : decode cX7_isZero 34 = .ok (.goto (-30), 3) := by decide +kernel
theorem dX7_isZero_37 : decode cX7_isZero 37 = .ok (.iload_n 2, 1) := by decide +kernel
theorem dX7_isZero_38 : decode cX7_isZero 38 = .ok (.ifCond .ne 7, 3) := by decide +kernel
theorem dX7_isZero_41 : decode cX7_isZero 41 = .ok (.iconst 1, 1) := by decide +kernel
theorem dX7_isZero_42 : decode cX7_isZero 42 = .ok (.goto 4, 3) := by decide +kernel
theorem dX7_isZero_45 : decode cX7_isZero 45 = .ok (.iconst 0, 1) := by decide +kernel
theorem dX7_isZero_46 : decode cX7_isZero 46 = .ok (.ireturn, 1) := by decide +kernel
theorem dX7_payments_0 : decode cX7_payments 0 = .ok (.aload_n 0, 1) := by decide +kernel
theorem dX7_payments_1 : decode cX7_payments 1 = .ok (.invokevirtual 201, 3) := by decide +kernel
theorem dX7_payments_4 : decode cX7_payments 4 = .ok (.iconst 0, 1) := by decide +kernel
theorem dX7_payments_5 : decode cX7_payments 5 = .ok (.istore_n 1, 1) := by decide +kernel
theorem dX7_payments_6 : decode cX7_payments 6 = .ok (.iconst 0, 1) := by decide +kernel
theorem dX7_payments_7 : decode cX7_payments 7 = .ok (.istore_n 2, 1) := by decide +kernel
theorem dX7_payments_8 : decode cX7_payments 8 = .ok (.iload_n 2, 1) := by decide +kernel
theorem dX7_payments_9 : decode cX7_payments 9 = .ok (.aload_n 0, 1) := by decide +kernel
theorem dX7_payments_10 : decode cX7_payments 10 = .ok (.getfield 77, 3) := by decide +kernel
theorem dX7_payments_13 : decode cX7_payments 13 = .ok (.if_icmp .ge 28, 3) := by decide +kernel
theorem dX7_payments_16 : decode cX7_payments 16 = .ok (.iload_n 1, 1) := by decide +kernel
theorem dX7_payments_17 : decode cX7_payments 17 = .ok (.aload_n 0, 1) := by decide +kernel
theorem dX7_payments_18 : decode cX7_payments 18 = .ok (.getfield 55, 3) := by decide +kernel
theorem dX7_payments_21 : decode cX7_payments 21 = .ok (.iload_n 2, 1) := by decide +kernel
theorem dX7_payments_22 : decode cX7_payments 22 = .ok (.iaload, 1) := by decide +kernel
theorem dX7_payments_23 : decode cX7_payments 23 = .ok (.ifCond .ne 7, 3) := by decide +kernel
theorem dX7_payments_26 : decode cX7_payments 26 = .ok (.iconst 0, 1) := by decide +kernel
theorem dX7_payments_27 : decode cX7_payments 27 = .ok (.goto 6, 3) := by decide +kernel
theorem dX7_payments_30 : decode cX7_payments 30 = .ok (.iconst 1, 1) := by decide +kernel
theorem dX7_payments_31 : decode cX7_payments 31 = .ok (.iload_n 2, 1) := by decide +kernel
theorem dX7_payments_32 : decode cX7_payments 32 = .ok (.ishl, 1) := by decide +kernel
theorem dX7_payments_33 : decode cX7_payments 33 = .ok (.ior, 1) := by decide +kernel
theorem dX7_payments_34 : decode cX7_payments 34 = .ok (.istore_n 1, 1) := by decide +kernel
theorem dX7_payments_35 : decode cX7_payments 35 = .ok (.iinc 2 1, 3) := by decide +kernel
theorem dX7_payments_38 : decode cX7_payments 38 = .ok (.goto (-30), 3) := by decide +kernel
theorem dX7_payments_41 : decode cX7_payments 41 = .ok (.iload_n 1, 1) := by decide +kernel
theorem dX7_payments_42 : decode cX7_payments 42 = .ok (.ifCond .ne 5, 3) := by decide +kernel
theorem dX7_payments_45 : decode cX7_payments 45 = .ok (.iconst 0, 1) := by decide +kernel
theorem dX7_payments_46 : decode cX7_payments 46 = .ok (.ireturn, 1) := by decide +kernel
theorem dX7_payments_47 : decode cX7_payments 47 = .ok (.iconst 1, 1) := by decide +kernel
theorem dX7_payments_48 : decode cX7_payments 48 = .ok (.istore_n 2, 1) := by decide +kernel
theorem dX7_payments_49 : decode cX7_payments 49 = .ok (.iload_n 2, 1) := by decide +kernel
theorem dX7_payments_50 : decode cX7_payments 50 = .ok (.iload_n 1, 1) := by decide +kernel
theorem dX7_payments_51 : decode cX7_payments 51 = .ok (.if_icmp .ge 32, 3) := by decide +kernel
theorem dX7_payments_54 : decode cX7_payments 54 = .ok (.iload_n 2, 1) := by decide +kernel
theorem dX7_payments_55 : decode cX7_payments 55 = .ok (.iload_n 1, 1) := by decide +kernel
theorem dX7_payments_56 : decode cX7_payments 56 = .ok (.iconst (-1), 1) := by decide +kernel
theorem dX7_payments_57 : decode cX7_payments 57 = .ok (.ixor, 1) := by decide +kernel
theorem dX7_payments_58 : decode cX7_payments 58 = .ok (.iand, 1) := by decide +kernel
theorem dX7_payments_59 : decode cX7_payments 59 = .ok (.ifCond .ne 18, 3) := by decide +kernel
theorem dX7_payments_62 : decode cX7_payments 62 = .ok (.aload_n 0, 1) := by decide +kernel
theorem dX7_payments_63 : decode cX7_payments 63 = .ok (.iload_n 2, 1) := by decide +kernel
theorem dX7_payments_64 : decode cX7_payments 64 = .ok (.invokevirtual 204, 3) := by decide +kernel
theorem dX7_payments_67 : decode cX7_payments 67 = .ok (.ifCond .eq 10, 3) := by decide +kernel
theorem dX7_payments_70 : decode cX7_payments 70 = .ok (.iload_n 1, 1) := by decide +kernel
theorem dX7_payments_71 : decode cX7_payments 71 = .ok (.invokestatic 167, 3) := by decide +kernel
theorem dX7_payments_74 : decode cX7_payments 74 = .ok (.iconst 2, 1) := by decide +kernel
theorem dX7_payments_75 : decode cX7_payments 75 = .ok (.isub, 1) := by decide +kernel
theorem dX7_payments_76 : decode cX7_payments 76 = .ok (.ireturn, 1) := by decide +kernel
theorem dX7_payments_77 : decode cX7_payments 77 = .ok (.iinc 2 1, 3) := by decide +kernel
theorem dX7_payments_80 : decode cX7_payments 80 = .ok (.goto (-31), 3) := by decide +kernel
theorem dX7_payments_83 : decode cX7_payments 83 = .ok (.iload_n 1, 1) := by decide +kernel
theorem dX7_payments_84 : decode cX7_payments 84 = .ok (.invokestatic 167, 3) := by decide +kernel
theorem dX7_payments_87 : decode cX7_payments 87 = .ok (.iconst 1, 1) := by decide +kernel
theorem dX7_payments_88 : decode cX7_payments 88 = .ok (.isub, 1) := by decide +kernel
theorem dX7_payments_89 : decode cX7_payments 89 = .ok (.ireturn, 1) := by decide +kernel
theorem dX7_forgotten_0 : decode cX7_forgotten 0 = .ok (.iload_n 1, 1) := by decide +kernel
theorem dX7_forgotten_1 : decode cX7_forgotten 1 = .ok (.i2l, 1) := by decide +kernel
theorem dX7_forgotten_2 : decode cX7_forgotten 2 = .ok (.lconst 0, 1) := by decide +kernel
theorem dX7_forgotten_3 : decode cX7_forgotten 3 = .ok (.ldc2_w 95, 3) := by decide +kernel
theorem dX7_forgotten_6 : decode cX7_forgotten 6 = .ok (.invokestatic 87, 3) := by decide +kernel
theorem dX7_forgotten_9 : decode cX7_forgotten 9 = .ok (.ifCond .eq 32, 3) := by decide +kernel
theorem dX7_forgotten_12 : decode cX7_forgotten 12 = .ok (.aload_n 0, 1) := by decide +kernel
theorem dX7_forgotten_13 : decode cX7_forgotten 13 = .ok (.iload_n 2, 1) := by decide +kernel
theorem dX7_forgotten_14 : decode cX7_forgotten 14 = .ok (.i2l, 1) := by decide +kernel
theorem dX7_forgotten_15 : decode cX7_forgotten 15 = .ok (.invokevirtual 128, 3) := by decide +kernel
theorem dX7_forgotten_18 : decode cX7_forgotten 18 = .ok (.ifCond .eq 23, 3) := by decide +kernel
theorem dX7_forgotten_21 : decode cX7_forgotten 21 = .ok (.iload_n 2, 1) := by decide +kernel
theorem dX7_forgotten_22 : decode cX7_forgotten 22 = .ok (.aload_n 0, 1) := by decide +kernel
theorem dX7_forgotten_23 : decode cX7_forgotten 23 = .ok (.iload_n 1, 1) := by decide +kernel
theorem dX7_forgotten_24 : decode cX7_forgotten 24 = .ok (.invokevirtual 162, 3) := by decide +kernel
theorem dX7_forgotten_27 : decode cX7_forgotten 27 = .ok (.iand, 1) := by decide +kernel
theorem dX7_forgotten_28 : decode cX7_forgotten 28 = .ok (.ifCond .ne 13, 3) := by decide +kernel
theorem dX7_forgotten_31 : decode cX7_forgotten 31 = .ok (.iload_n 3, 1) := by decide +kernel
theorem dX7_forgotten_32 : decode cX7_forgotten 32 = .ok (.i2l, 1) := by decide +kernel
theorem dX7_forgotten_33 : decode cX7_forgotten 33 = .ok (.lconst 0, 1) := by decide +kernel
theorem dX7_forgotten_34 : decode cX7_forgotten 34 = .ok (.lconst 1, 1) := by decide +kernel
theorem dX7_forgotten_35 : decode cX7_forgotten 35 = .ok (.invokestatic 87, 3) := by decide +kernel
theorem dX7_forgotten_38 : decode cX7_forgotten 38 = .ok (.ifCond .ne 5, 3) := by decide +kernel
theorem dX7_forgotten_41 : decode cX7_forgotten 41 = .ok (.iconst (-1), 1) := by decide +kernel
theorem dX7_forgotten_42 : decode cX7_forgotten 42 = .ok (.ireturn, 1) := by decide +kernel
theorem dX7_forgotten_43 : decode cX7_forgotten 43 = .ok (.aload_n 0, 1) := by decide +kernel
theorem dX7_forgotten_44 : decode cX7_forgotten 44 = .ok (.iload_n 1, 1) := by decide +kernel
theorem dX7_forgotten_45 : decode cX7_forgotten 45 = .ok (.invokevirtual 162, 3) := by decide +kernel
theorem dX7_forgotten_48 : decode cX7_forgotten 48 = .ok (.istore 4, 2) := by decide +kernel
theorem dX7_forgotten_50 : decode cX7_forgotten 50 = .ok (.iconst 0, 1) := by decide +kernel
theorem dX7_forgotten_51 : decode cX7_forgotten 51 = .ok (.istore 5, 2) := by decide +kernel
theorem dX7_forgotten_53 : decode cX7_forgotten 53 = .ok (.iload 4, 2) := by decide +kernel
theorem dX7_forgotten_55 : decode cX7_forgotten 55 = .ok (.istore 6, 2) := by decide +kernel
theorem dX7_forgotten_57 : decode cX7_forgotten 57 = .ok (.iconst 0, 1) := by decide +kernel
theorem dX7_forgotten_58 : decode cX7_forgotten 58 = .ok (.istore 7, 2) := by decide +kernel
theorem dX7_forgotten_60 : decode cX7_forgotten 60 = .ok (.iload 7, 2) := by decide +kernel
theorem dX7_forgotten_62 : decode cX7_forgotten 62 = .ok (.iconst 1, 1) := by decide +kernel
theorem dX7_forgotten_63 : decode cX7_forgotten 63 = .ok (.aload_n 0, 1) := by decide +kernel
theorem dX7_forgotten_64 : decode cX7_forgotten 64 = .ok (.getfield 84, 3) := by decide +kernel
theorem dX7_forgotten_67 : decode cX7_forgotten 67 = .ok (.ishl, 1) := by decide +kernel
theorem dX7_forgotten_68 : decode cX7_forgotten 68 = .ok (.if_icmp .ge 130, 3) := by decide +kernel
theorem dX7_forgotten_71 : decode cX7_forgotten 71 = .ok (.iload 7, 2) := by decide +kernel
theorem dX7_forgotten_73 : decode cX7_forgotten 73 = .ok (.iload 4, 2) := by decide +kernel
theorem dX7_forgotten_75 : decode cX7_forgotten 75 = .ok (.iconst (-1), 1) := by decide +kernel
theorem dX7_forgotten_76 : decode cX7_forgotten 76 = .ok (.ixor, 1) := by decide +kernel
theorem dX7_forgotten_77 : decode cX7_forgotten 77 = .ok (.iand, 1) := by decide +kernel
theorem dX7_forgotten_78 : decode cX7_forgotten 78 = .ok (.ifCond .ne 114, 3) := by decide +kernel
theorem dX7_forgotten_81 : decode cX7_forgotten 81 = .ok (.iconst 1, 1) := by decide +kernel
theorem dX7_forgotten_82 : decode cX7_forgotten 82 = .ok (.istore 8, 2) := by decide +kernel
theorem dX7_forgotten_84 : decode cX7_forgotten 84 = .ok (.iconst 0, 1) := by decide +kernel
theorem dX7_forgotten_85 : decode cX7_forgotten 85 = .ok (.istore 9, 2) := by decide +kernel
theorem dX7_forgotten_87 : decode cX7_forgotten 87 = .ok (.iload 9, 2) := by decide +kernel
theorem dX7_forgotten_89 : decode cX7_forgotten 89 = .ok (.aload_n 0, 1) := by decide +kernel
theorem dX7_forgotten_90 : decode cX7_forgotten 90 = .ok (.getfield 84, 3) := by decide +kernel
theorem dX7_forgotten_93 : decode cX7_forgotten 93 = .ok (.if_icmp .ge 68, 3) := by decide +kernel
theorem dX7_forgotten_96 : decode cX7_forgotten 96 = .ok (.iload_n 2, 1) := by decide +kernel
theorem dX7_forgotten_97 : decode cX7_forgotten 97 = .ok (.iload 9, 2) := by decide +kernel
theorem dX7_forgotten_99 : decode cX7_forgotten 99 = .ok (.ishr, 1) := by decide +kernel
theorem dX7_forgotten_100 : decode cX7_forgotten 100 = .ok (.iconst 1, 1) := by decide +kernel
theorem dX7_forgotten_101 : decode cX7_forgotten 101 = .ok (.iand, 1) := by decide +kernel
theorem dX7_forgotten_102 : decode cX7_forgotten 102 = .ok (.iconst 1, 1) := by decide +kernel
theorem dX7_forgotten_103 : decode cX7_forgotten 103 = .ok (.if_icmp .ne 7, 3) := by decide +kernel
theorem dX7_forgotten_106 : decode cX7_forgotten 106 = .ok (.iconst 1, 1) := by decide +kernel
theorem dX7_forgotten_107 : decode cX7_forgotten 107 = .ok (.goto 4, 3) := by decide +kernel
theorem dX7_forgotten_110 : decode cX7_forgotten 110 = .ok (.iconst 0, 1) := by decide +kernel
theorem dX7_forgotten_111 : decode cX7_forgotten 111 = .ok (.istore 10, 2) := by decide +kernel
theorem dX7_forgotten_113 : decode cX7_forgotten 113 = .ok (.iload 8, 2) := by decide +kernel
theorem dX7_forgotten_115 : decode cX7_forgotten 115 = .ok (.ifCond .eq 37, 3) := by decide +kernel
theorem dX7_forgotten_118 : decode cX7_forgotten 118 = .ok (.iload 4, 2) := by decide +kernel
theorem dX7_forgotten_120 : decode cX7_forgotten 120 = .ok (.iload 9, 2) := by decide +kernel
theorem dX7_forgotten_122 : decode cX7_forgotten 122 = .ok (.ishr, 1) := by decide +kernel
theorem dX7_forgotten_123 : decode cX7_forgotten 123 = .ok (.iconst 1, 1) := by decide +kernel
theorem dX7_forgotten_124 : decode cX7_forgotten 124 = .ok (.iand, 1) := by decide +kernel
theorem dX7_forgotten_125 : decode cX7_forgotten 125 = .ok (.iconst 1, 1) := by decide +kernel
theorem dX7_forgotten_126 : decode cX7_forgotten 126 = .ok (.if_icmp .eq 22, 3) := by decide +kernel
theorem dX7_forgotten_129 : decode cX7_forgotten 129 = .ok (.aload_n 0, 1) := by decide +kernel
theorem dX7_forgotten_130 : decode cX7_forgotten 130 = .ok (.iload 9, 2) := by decide +kernel
theorem dX7_forgotten_132 : decode cX7_forgotten 132 = .ok (.iload_n 2, 1) := by decide +kernel
theorem dX7_forgotten_133 : decode cX7_forgotten 133 = .ok (.iload 7, 2) := by decide +kernel
theorem dX7_forgotten_135 : decode cX7_forgotten 135 = .ok (.ior, 1) := by decide +kernel
theorem dX7_forgotten_136 : decode cX7_forgotten 136 = .ok (.aload_n 0, 1) := by decide +kernel
theorem dX7_forgotten_137 : decode cX7_forgotten 137 = .ok (.getfield 116, 3) := by decide +kernel
theorem dX7_forgotten_140 : decode cX7_forgotten 140 = .ok (.invokevirtual 105, 3) := by decide +kernel
theorem dX7_forgotten_143 : decode cX7_forgotten 143 = .ok (.iload 10, 2) := by decide +kernel
theorem dX7_forgotten_145 : decode cX7_forgotten 145 = .ok (.if_icmp .ne 7, 3) := by decide +kernel
theorem dX7_forgotten_148 : decode cX7_forgotten 148 = .ok (.iconst 1, 1) := by decide +kernel
theorem dX7_forgotten_149 : decode cX7_forgotten 149 = .ok (.goto 4, 3) := by decide +kernel
theorem dX7_forgotten_152 : decode cX7_forgotten 152 = .ok (.iconst 0, 1) := by decide +kernel
theorem dX7_forgotten_153 : decode cX7_forgotten 153 = .ok (.istore 8, 2) := by decide +kernel
theorem dX7_forgotten_155 : decode cX7_forgotten 155 = .ok (.iinc 9 1, 3) := by decide +kernel
theorem dX7_forgotten_158 : decode cX7_forgotten 158 = .ok (.goto (-71), 3) := by decide +kernel
theorem dX7_forgotten_161 : decode cX7_forgotten 161 = .ok (.iload 5, 2) := by decide +kernel
theorem dX7_forgotten_163 : decode cX7_forgotten 163 = .ok (.iload 8, 2) := by decide +kernel
theorem dX7_forgotten_165 : decode cX7_forgotten 165 = .ok (.ifCond .eq 7, 3) := by decide +kernel
theorem dX7_forgotten_168 : decode cX7_forgotten 168 = .ok (.iconst 1, 1) := by decide +kernel
theorem dX7_forgotten_169 : decode cX7_forgotten 169 = .ok (.goto 4, 3) := by decide +kernel
theorem dX7_forgotten_172 : decode cX7_forgotten 172 = .ok (.iconst 0, 1) := by decide +kernel
theorem dX7_forgotten_173 : decode cX7_forgotten 173 = .ok (.iadd, 1) := by decide +kernel
theorem dX7_forgotten_174 : decode cX7_forgotten 174 = .ok (.istore 5, 2) := by decide +kernel
theorem dX7_forgotten_176 : decode cX7_forgotten 176 = .ok (.iload 6, 2) := by decide +kernel
theorem dX7_forgotten_178 : decode cX7_forgotten 178 = .ok (.iload 8, 2) := by decide +kernel
theorem dX7_forgotten_180 : decode cX7_forgotten 180 = .ok (.ifCond .eq 8, 3) := by decide +kernel
theorem dX7_forgotten_183 : decode cX7_forgotten 183 = .ok (.iload 7, 2) := by decide +kernel
theorem dX7_forgotten_185 : decode cX7_forgotten 185 = .ok (.goto 4, 3) := by decide +kernel
theorem dX7_forgotten_188 : decode cX7_forgotten 188 = .ok (.iconst (-1), 1) := by decide +kernel
theorem dX7_forgotten_189 : decode cX7_forgotten 189 = .ok (.iand, 1) := by decide +kernel
theorem dX7_forgotten_190 : decode cX7_forgotten 190 = .ok (.istore 6, 2) := by decide +kernel
theorem dX7_forgotten_192 : decode cX7_forgotten 192 = .ok (.iinc 7 1, 3) := by decide +kernel
theorem dX7_forgotten_195 : decode cX7_forgotten 195 = .ok (.goto (-135), 3) := by decide +kernel
theorem dX7_forgotten_198 : decode cX7_forgotten 198 = .ok (.iload_n 3, 1) := by decide +kernel
theorem dX7_forgotten_199 : decode cX7_forgotten 199 = .ok (.ifCond .ne 8, 3) := by decide +kernel
theorem dX7_forgotten_202 : decode cX7_forgotten 202 = .ok (.iload 5, 2) := by decide +kernel
theorem dX7_forgotten_204 : decode cX7_forgotten 204 = .ok (.goto 15, 3) := by decide +kernel
theorem dX7_forgotten_207 : decode cX7_forgotten 207 = .ok (.iload 5, 2) := by decide +kernel
theorem dX7_forgotten_209 : decode cX7_forgotten 209 = .ok (.ifCond .ne 8, 3) := by decide +kernel
theorem dX7_forgotten_212 : decode cX7_forgotten 212 = .ok (.bipush (-4), 2) := by decide +kernel
theorem dX7_forgotten_214 : decode cX7_forgotten 214 = .ok (.goto 5, 3) := by decide +kernel
theorem dX7_forgotten_217 : decode cX7_forgotten 217 = .ok (.iload 6, 2) := by decide +kernel
theorem dX7_forgotten_219 : decode cX7_forgotten 219 = .ok (.ireturn, 1) := by decide +kernel
theorem dX7_expects_0 : decode cX7_expects 0 = .ok (.lconst 0, 1) := by decide +kernel
theorem dX7_expects_1 : decode cX7_expects 1 = .ok (.lstore_n 1, 1) := by decide +kernel
theorem dX7_expects_2 : decode cX7_expects 2 = .ok (.lconst 1, 1) := by decide +kernel
theorem dX7_expects_3 : decode cX7_expects 3 = .ok (.lstore_n 3, 1) := by decide +kernel
theorem dX7_expects_4 : decode cX7_expects 4 = .ok (.iconst 0, 1) := by decide +kernel
theorem dX7_expects_5 : decode cX7_expects 5 = .ok (.istore 5, 2) := by decide +kernel
theorem dX7_expects_7 : decode cX7_expects 7 = .ok (.iload 5, 2) := by decide +kernel
theorem dX7_expects_9 : decode cX7_expects 9 = .ok (.aload_n 0, 1) := by decide +kernel
theorem dX7_expects_10 : decode cX7_expects 10 = .ok (.getfield 84, 3) := by decide +kernel
theorem dX7_expects_13 : decode cX7_expects 13 = .ok (.if_icmp .ge 15, 3) := by decide +kernel
theorem dX7_expects_16 : decode cX7_expects 16 = .ok (.lload_n 3, 1) := by decide +kernel
theorem dX7_expects_17 : decode cX7_expects 17 = .ok (.ldc2_w 91, 3) := by decide +kernel
theorem dX7_expects_20 : decode cX7_expects 20 = .ok (.lmul, 1) := by decide +kernel
theorem dX7_expects_21 : decode cX7_expects 21 = .ok (.lstore_n 3, 1) := by decide +kernel
theorem dX7_expects_22 : decode cX7_expects 22 = .ok (.iinc 5 1, 3) := by decide +kernel
theorem dX7_expects_25 : decode cX7_expects 25 = .ok (.goto (-18), 3) := by decide +kernel
theorem dX7_expects_28 : decode cX7_expects 28 = .ok (.iconst 0, 1) := by decide +kernel
theorem dX7_expects_29 : decode cX7_expects 29 = .ok (.istore 5, 2) := by decide +kernel
theorem dX7_expects_31 : decode cX7_expects 31 = .ok (.iload 5, 2) := by decide +kernel
theorem dX7_expects_33 : decode cX7_expects 33 = .ok (.iconst 1, 1) := by decide +kernel
theorem dX7_expects_34 : decode cX7_expects 34 = .ok (.aload_n 0, 1) := by decide +kernel
theorem dX7_expects_35 : decode cX7_expects 35 = .ok (.getfield 84, 3) := by decide +kernel
theorem dX7_expects_38 : decode cX7_expects 38 = .ok (.ishl, 1) := by decide +kernel
theorem dX7_expects_39 : decode cX7_expects 39 = .ok (.if_icmp .ge 168, 3) := by decide +kernel
theorem dX7_expects_42 : decode cX7_expects 42 = .ok (.lconst 1, 1) := by decide +kernel
theorem dX7_expects_43 : decode cX7_expects 43 = .ok (.lstore 6, 2) := by decide +kernel
theorem dX7_expects_45 : decode cX7_expects 45 = .ok (.iconst 0, 1) := by decide +kernel
theorem dX7_expects_46 : decode cX7_expects 46 = .ok (.istore 8, 2) := by decide +kernel
theorem dX7_expects_48 : decode cX7_expects 48 = .ok (.iconst 0, 1) := by decide +kernel
theorem dX7_expects_49 : decode cX7_expects 49 = .ok (.istore 9, 2) := by decide +kernel
theorem dX7_expects_51 : decode cX7_expects 51 = .ok (.iload 9, 2) := by decide +kernel
theorem dX7_expects_53 : decode cX7_expects 53 = .ok (.aload_n 0, 1) := by decide +kernel
theorem dX7_expects_54 : decode cX7_expects 54 = .ok (.getfield 84, 3) := by decide +kernel
theorem dX7_expects_57 : decode cX7_expects 57 = .ok (.if_icmp .ge 135, 3) := by decide +kernel
theorem dX7_expects_60 : decode cX7_expects 60 = .ok (.iload 5, 2) := by decide +kernel
theorem dX7_expects_62 : decode cX7_expects 62 = .ok (.iload 9, 2) := by decide +kernel
theorem dX7_expects_64 : decode cX7_expects 64 = .ok (.ishr, 1) := by decide +kernel
theorem dX7_expects_65 : decode cX7_expects 65 = .ok (.iconst 1, 1) := by decide +kernel
theorem dX7_expects_66 : decode cX7_expects 66 = .ok (.iand, 1) := by decide +kernel
theorem dX7_expects_67 : decode cX7_expects 67 = .ok (.iconst 1, 1) := by decide +kernel
theorem dX7_expects_68 : decode cX7_expects 68 = .ok (.if_icmp .ne 7, 3) := by decide +kernel
theorem dX7_expects_71 : decode cX7_expects 71 = .ok (.iconst 1, 1) := by decide +kernel
theorem dX7_expects_72 : decode cX7_expects 72 = .ok (.goto 4, 3) := by decide +kernel
theorem dX7_expects_75 : decode cX7_expects 75 = .ok (.iconst 0, 1) := by decide +kernel
theorem dX7_expects_76 : decode cX7_expects 76 = .ok (.istore 10, 2) := by decide +kernel
theorem dX7_expects_78 : decode cX7_expects 78 = .ok (.lload 6, 2) := by decide +kernel
theorem dX7_expects_80 : decode cX7_expects 80 = .ok (.aload_n 0, 1) := by decide +kernel
theorem dX7_expects_81 : decode cX7_expects 81 = .ok (.iload 9, 2) := by decide +kernel
theorem dX7_expects_83 : decode cX7_expects 83 = .ok (.iload 5, 2) := by decide +kernel
theorem dX7_expects_85 : decode cX7_expects 85 = .ok (.iconst 1, 1) := by decide +kernel
theorem dX7_expects_86 : decode cX7_expects 86 = .ok (.iload 9, 2) := by decide +kernel
theorem dX7_expects_88 : decode cX7_expects 88 = .ok (.ishl, 1) := by decide +kernel
theorem dX7_expects_89 : decode cX7_expects 89 = .ok (.iconst 1, 1) := by decide +kernel
theorem dX7_expects_90 : decode cX7_expects 90 = .ok (.isub, 1) := by decide +kernel
theorem dX7_expects_91 : decode cX7_expects 91 = .ok (.iand, 1) := by decide +kernel
theorem dX7_expects_92 : decode cX7_expects 92 = .ok (.aload_n 0, 1) := by decide +kernel
theorem dX7_expects_93 : decode cX7_expects 93 = .ok (.getfield 116, 3) := by decide +kernel
theorem dX7_expects_96 : decode cX7_expects 96 = .ok (.invokevirtual 105, 3) := by decide +kernel
theorem dX7_expects_99 : decode cX7_expects 99 = .ok (.ifCond .eq 32, 3) := by decide +kernel
theorem dX7_expects_102 : decode cX7_expects 102 = .ok (.iload 10, 2) := by decide +kernel
theorem dX7_expects_104 : decode cX7_expects 104 = .ok (.ifCond .eq 14, 3) := by decide +kernel
theorem dX7_expects_107 : decode cX7_expects 107 = .ok (.aload_n 0, 1) := by decide +kernel
theorem dX7_expects_108 : decode cX7_expects 108 = .ok (.getfield 22, 3) := by decide +kernel
theorem dX7_expects_111 : decode cX7_expects 111 = .ok (.iload 9, 2) := by decide +kernel
theorem dX7_expects_113 : decode cX7_expects 113 = .ok (.iaload, 1) := by decide +kernel
theorem dX7_expects_114 : decode cX7_expects 114 = .ok (.i2l, 1) := by decide +kernel
theorem dX7_expects_115 : decode cX7_expects 115 = .ok (.goto 28, 3) := by decide +kernel
theorem dX7_expects_118 : decode cX7_expects 118 = .ok (.iconst 4, 1) := by decide +kernel
theorem dX7_expects_119 : decode cX7_expects 119 = .ok (.aload_n 0, 1) := by decide +kernel
theorem dX7_expects_120 : decode cX7_expects 120 = .ok (.getfield 22, 3) := by decide +kernel
theorem dX7_expects_123 : decode cX7_expects 123 = .ok (.iload 9, 2) := by decide +kernel
theorem dX7_expects_125 : decode cX7_expects 125 = .ok (.iaload, 1) := by decide +kernel
theorem dX7_expects_126 : decode cX7_expects 126 = .ok (.isub, 1) := by decide +kernel
theorem dX7_expects_127 : decode cX7_expects 127 = .ok (.i2l, 1) := by decide +kernel
theorem dX7_expects_128 : decode cX7_expects 128 = .ok (.goto 15, 3) := by decide +kernel
theorem dX7_expects_131 : decode cX7_expects 131 = .ok (.iload 10, 2) := by decide +kernel
theorem dX7_expects_133 : decode cX7_expects 133 = .ok (.ifCond .eq 7, 3) := by decide +kernel
theorem dX7_expects_136 : decode cX7_expects 136 = .ok (.lconst 0, 1) := by decide +kernel
theorem dX7_expects_137 : decode cX7_expects 137 = .ok (.goto 6, 3) := by decide +kernel
theorem dX7_expects_140 : decode cX7_expects 140 = .ok (.ldc2_w 91, 3) := by decide +kernel
theorem dX7_expects_143 : decode cX7_expects 143 = .ok (.lmul, 1) := by decide +kernel
theorem dX7_expects_144 : decode cX7_expects 144 = .ok (.lstore 6, 2) := by decide +kernel
theorem dX7_expects_146 : decode cX7_expects 146 = .ok (.iconst 0, 1) := by decide +kernel
theorem dX7_expects_147 : decode cX7_expects 147 = .ok (.istore 11, 2) := by decide +kernel
theorem dX7_expects_149 : decode cX7_expects 149 = .ok (.iload 11, 2) := by decide +kernel
theorem dX7_expects_151 : decode cX7_expects 151 = .ok (.aload_n 0, 1) := by decide +kernel
theorem dX7_expects_152 : decode cX7_expects 152 = .ok (.getfield 77, 3) := by decide +kernel
theorem dX7_expects_155 : decode cX7_expects 155 = .ok (.if_icmp .ge 31, 3) := by decide +kernel
theorem dX7_expects_158 : decode cX7_expects 158 = .ok (.iload 10, 2) := by decide +kernel
theorem dX7_expects_160 : decode cX7_expects 160 = .ok (.ifCond .eq 26, 3) := by decide +kernel
theorem dX7_expects_163 : decode cX7_expects 163 = .ok (.iload 8, 2) := by decide +kernel
theorem dX7_expects_165 : decode cX7_expects 165 = .ok (.aload_n 0, 1) := by decide +kernel
theorem dX7_expects_166 : decode cX7_expects 166 = .ok (.getfield 25, 3) := by decide +kernel
theorem dX7_expects_169 : decode cX7_expects 169 = .ok (.iconst 4, 1) := by decide +kernel
theorem dX7_expects_170 : decode cX7_expects 170 = .ok (.iload 9, 2) := by decide +kernel
theorem dX7_expects_172 : decode cX7_expects 172 = .ok (.imul, 1) := by decide +kernel
theorem dX7_expects_173 : decode cX7_expects 173 = .ok (.iload 11, 2) := by decide +kernel
theorem dX7_expects_175 : decode cX7_expects 175 = .ok (.iadd, 1) := by decide +kernel
theorem dX7_expects_176 : decode cX7_expects 176 = .ok (.iaload, 1) := by decide +kernel
theorem dX7_expects_177 : decode cX7_expects 177 = .ok (.iadd, 1) := by decide +kernel
theorem dX7_expects_178 : decode cX7_expects 178 = .ok (.istore 8, 2) := by decide +kernel
theorem dX7_expects_180 : decode cX7_expects 180 = .ok (.iinc 11 1, 3) := by decide +kernel
theorem dX7_expects_183 : decode cX7_expects 183 = .ok (.goto (-34), 3) := by decide +kernel
theorem dX7_expects_186 : decode cX7_expects 186 = .ok (.iinc 9 1, 3) := by decide +kernel
theorem dX7_expects_189 : decode cX7_expects 189 = .ok (.goto (-138), 3) := by decide +kernel
theorem dX7_expects_192 : decode cX7_expects 192 = .ok (.lload_n 1, 1) := by decide +kernel
theorem dX7_expects_193 : decode cX7_expects 193 = .ok (.lload 6, 2) := by decide +kernel
theorem dX7_expects_195 : decode cX7_expects 195 = .ok (.iload 8, 2) := by decide +kernel
theorem dX7_expects_197 : decode cX7_expects 197 = .ok (.i2l, 1) := by decide +kernel
theorem dX7_expects_198 : decode cX7_expects 198 = .ok (.lmul, 1) := by decide +kernel
theorem dX7_expects_199 : decode cX7_expects 199 = .ok (.ladd, 1) := by decide +kernel
theorem dX7_expects_200 : decode cX7_expects 200 = .ok (.lstore_n 1, 1) := by decide +kernel
theorem dX7_expects_201 : decode cX7_expects 201 = .ok (.iinc 5 1, 3) := by decide +kernel
theorem dX7_expects_204 : decode cX7_expects 204 = .ok (.goto (-173), 3) := by decide +kernel
theorem dX7_expects_207 : decode cX7_expects 207 = .ok (.lload_n 1, 1) := by decide +kernel
theorem dX7_expects_208 : decode cX7_expects 208 = .ok (.lconst 0, 1) := by decide +kernel
theorem dX7_expects_209 : decode cX7_expects 209 = .ok (.lcmp, 1) := by decide +kernel
theorem dX7_expects_210 : decode cX7_expects 210 = .ok (.ifCond .ge 8, 3) := by decide +kernel
theorem dX7_expects_213 : decode cX7_expects 213 = .ok (.lload_n 1, 1) := by decide +kernel
theorem dX7_expects_214 : decode cX7_expects 214 = .ok (.lneg, 1) := by decide +kernel
theorem dX7_expects_215 : decode cX7_expects 215 = .ok (.goto 4, 3) := by decide +kernel
theorem dX7_expects_218 : decode cX7_expects 218 = .ok (.lload_n 1, 1) := by decide +kernel
theorem dX7_expects_219 : decode cX7_expects 219 = .ok (.lstore 5, 2) := by decide +kernel
theorem dX7_expects_221 : decode cX7_expects 221 = .ok (.lload_n 3, 1) := by decide +kernel
theorem dX7_expects_222 : decode cX7_expects 222 = .ok (.lstore 7, 2) := by decide +kernel
theorem dX7_expects_224 : decode cX7_expects 224 = .ok (.lload 5, 2) := by decide +kernel
theorem dX7_expects_226 : decode cX7_expects 226 = .ok (.lconst 0, 1) := by decide +kernel
theorem dX7_expects_227 : decode cX7_expects 227 = .ok (.lcmp, 1) := by decide +kernel
theorem dX7_expects_228 : decode cX7_expects 228 = .ok (.ifCond .le 21, 3) := by decide +kernel
theorem dX7_expects_231 : decode cX7_expects 231 = .ok (.lload 7, 2) := by decide +kernel
theorem dX7_expects_233 : decode cX7_expects 233 = .ok (.lload 5, 2) := by decide +kernel
theorem dX7_expects_235 : decode cX7_expects 235 = .ok (.lrem, 1) := by decide +kernel
theorem dX7_expects_236 : decode cX7_expects 236 = .ok (.lstore 9, 2) := by decide +kernel
theorem dX7_expects_238 : decode cX7_expects 238 = .ok (.lload 5, 2) := by decide +kernel
theorem dX7_expects_240 : decode cX7_expects 240 = .ok (.lstore 7, 2) := by decide +kernel
theorem dX7_expects_242 : decode cX7_expects 242 = .ok (.lload 9, 2) := by decide +kernel
theorem dX7_expects_244 : decode cX7_expects 244 = .ok (.lstore 5, 2) := by decide +kernel
theorem dX7_expects_246 : decode cX7_expects 246 = .ok (.goto (-22), 3) := by decide +kernel
theorem dX7_expects_249 : decode cX7_expects 249 = .ok (.aload_n 0, 1) := by decide +kernel
theorem dX7_expects_250 : decode cX7_expects 250 = .ok (.lload_n 1, 1) := by decide +kernel
theorem dX7_expects_251 : decode cX7_expects 251 = .ok (.lload 7, 2) := by decide +kernel
theorem dX7_expects_253 : decode cX7_expects 253 = .ok (.ldiv, 1) := by decide +kernel
theorem dX7_expects_254 : decode cX7_expects 254 = .ok (.putfield 207, 3) := by decide +kernel
theorem dX7_expects_257 : decode cX7_expects 257 = .ok (.aload_n 0, 1) := by decide +kernel
theorem dX7_expects_258 : decode cX7_expects 258 = .ok (.lload_n 3, 1) := by decide +kernel
theorem dX7_expects_259 : decode cX7_expects 259 = .ok (.lload 7, 2) := by decide +kernel
theorem dX7_expects_261 : decode cX7_expects 261 = .ok (.ldiv, 1) := by decide +kernel
theorem dX7_expects_262 : decode cX7_expects 262 = .ok (.putfield 211, 3) := by decide +kernel
theorem dX7_expects_265 : decode cX7_expects 265 = .ok (.return_, 1) := by decide +kernel
theorem dX7_upper_0 : decode cX7_upper 0 = .ok (.aload_n 0, 1) := by decide +kernel
theorem dX7_upper_1 : decode cX7_upper 1 = .ok (.invokevirtual 214, 3) := by decide +kernel
theorem dX7_upper_4 : decode cX7_upper 4 = .ok (.aload_n 0, 1) := by decide +kernel
theorem dX7_upper_5 : decode cX7_upper 5 = .ok (.getfield 207, 3) := by decide +kernel
theorem dX7_upper_8 : decode cX7_upper 8 = .ok (.lreturn, 1) := by decide +kernel
theorem dX7_lower_0 : decode cX7_lower 0 = .ok (.aload_n 0, 1) := by decide +kernel
theorem dX7_lower_1 : decode cX7_lower 1 = .ok (.invokevirtual 214, 3) := by decide +kernel
theorem dX7_lower_4 : decode cX7_lower 4 = .ok (.aload_n 0, 1) := by decide +kernel
theorem dX7_lower_5 : decode cX7_lower 5 = .ok (.getfield 211, 3) := by decide +kernel
theorem dX7_lower_8 : decode cX7_lower 8 = .ok (.lreturn, 1) := by decide +kernel
theorem dX7_comes_0 : decode cX7_comes 0 = .ok (.iload_n 1, 1) := by decide +kernel
theorem dX7_comes_1 : decode cX7_comes 1 = .ok (.i2l, 1) := by decide +kernel
theorem dX7_comes_2 : decode cX7_comes 2 = .ok (.lconst 0, 1) := by decide +kernel
theorem dX7_comes_3 : decode cX7_comes 3 = .ok (.ldc2_w 91, 3) := by decide +kernel
theorem dX7_comes_6 : decode cX7_comes 6 = .ok (.invokestatic 87, 3) := by decide +kernel
theorem dX7_comes_9 : decode cX7_comes 9 = .ok (.ifCond .eq 13, 3) := by decide +kernel
theorem dX7_comes_12 : decode cX7_comes 12 = .ok (.iload_n 2, 1) := by decide +kernel
theorem dX7_comes_13 : decode cX7_comes 13 = .ok (.i2l, 1) := by decide +kernel
theorem dX7_comes_14 : decode cX7_comes 14 = .ok (.lconst 0, 1) := by decide +kernel
theorem dX7_comes_15 : decode cX7_comes 15 = .ok (.lconst 1, 1) := by decide +kernel
theorem dX7_comes_16 : decode cX7_comes 16 = .ok (.invokestatic 87, 3) := by decide +kernel
theorem dX7_comes_19 : decode cX7_comes 19 = .ok (.ifCond .ne 5, 3) := by decide +kernel
theorem dX7_comes_22 : decode cX7_comes 22 = .ok (.iconst (-1), 1) := by decide +kernel
theorem dX7_comes_23 : decode cX7_comes 23 = .ok (.ireturn, 1) := by decide +kernel
theorem dX7_comes_24 : decode cX7_comes 24 = .ok (.aload_n 0, 1) := by decide +kernel
theorem dX7_comes_25 : decode cX7_comes 25 = .ok (.getfield 58, 3) := by decide +kernel
theorem dX7_comes_28 : decode cX7_comes 28 = .ok (.iconst 0, 1) := by decide +kernel
theorem dX7_comes_29 : decode cX7_comes 29 = .ok (.aload_n 0, 1) := by decide +kernel
theorem dX7_comes_30 : decode cX7_comes 30 = .ok (.getfield 116, 3) := by decide +kernel
theorem dX7_comes_33 : decode cX7_comes 33 = .ok (.iastore, 1) := by decide +kernel
theorem dX7_comes_34 : decode cX7_comes 34 = .ok (.iconst 1, 1) := by decide +kernel
theorem dX7_comes_35 : decode cX7_comes 35 = .ok (.istore_n 3, 1) := by decide +kernel
theorem dX7_comes_36 : decode cX7_comes 36 = .ok (.iload_n 3, 1) := by decide +kernel
theorem dX7_comes_37 : decode cX7_comes 37 = .ok (.bipush 60, 2) := by decide +kernel
theorem dX7_comes_39 : decode cX7_comes 39 = .ok (.if_icmp .gt 85, 3) := by decide +kernel
theorem dX7_comes_42 : decode cX7_comes 42 = .ok (.aload_n 0, 1) := by decide +kernel
theorem dX7_comes_43 : decode cX7_comes 43 = .ok (.getfield 58, 3) := by decide +kernel
theorem dX7_comes_46 : decode cX7_comes 46 = .ok (.iload_n 3, 1) := by decide +kernel
theorem dX7_comes_47 : decode cX7_comes 47 = .ok (.aload_n 0, 1) := by decide +kernel
theorem dX7_comes_48 : decode cX7_comes 48 = .ok (.aload_n 0, 1) := by decide +kernel
theorem dX7_comes_49 : decode cX7_comes 49 = .ok (.iload_n 1, 1) := by decide +kernel
theorem dX7_comes_50 : decode cX7_comes 50 = .ok (.iconst 0, 1) := by decide +kernel
theorem dX7_comes_51 : decode cX7_comes 51 = .ok (.aload_n 0, 1) := by decide +kernel
theorem dX7_comes_52 : decode cX7_comes 52 = .ok (.getfield 58, 3) := by decide +kernel
theorem dX7_comes_55 : decode cX7_comes 55 = .ok (.iload_n 3, 1) := by decide +kernel
theorem dX7_comes_56 : decode cX7_comes 56 = .ok (.iconst 1, 1) := by decide +kernel
theorem dX7_comes_57 : decode cX7_comes 57 = .ok (.isub, 1) := by decide +kernel
theorem dX7_comes_58 : decode cX7_comes 58 = .ok (.iaload, 1) := by decide +kernel
theorem dX7_comes_59 : decode cX7_comes 59 = .ok (.invokevirtual 191, 3) := by decide +kernel
theorem dX7_comes_62 : decode cX7_comes 62 = .ok (.aload_n 0, 1) := by decide +kernel
theorem dX7_comes_63 : decode cX7_comes 63 = .ok (.getfield 58, 3) := by decide +kernel
theorem dX7_comes_66 : decode cX7_comes 66 = .ok (.iload_n 3, 1) := by decide +kernel
theorem dX7_comes_67 : decode cX7_comes 67 = .ok (.iconst 1, 1) := by decide +kernel
theorem dX7_comes_68 : decode cX7_comes 68 = .ok (.isub, 1) := by decide +kernel
theorem dX7_comes_69 : decode cX7_comes 69 = .ok (.iaload, 1) := by decide +kernel
theorem dX7_comes_70 : decode cX7_comes 70 = .ok (.invokevirtual 119, 3) := by decide +kernel
theorem dX7_comes_73 : decode cX7_comes 73 = .ok (.iastore, 1) := by decide +kernel
theorem dX7_comes_74 : decode cX7_comes 74 = .ok (.iconst 0, 1) := by decide +kernel
theorem dX7_comes_75 : decode cX7_comes 75 = .ok (.istore 4, 2) := by decide +kernel
theorem dX7_comes_77 : decode cX7_comes 77 = .ok (.iload 4, 2) := by decide +kernel
theorem dX7_comes_79 : decode cX7_comes 79 = .ok (.iload_n 3, 1) := by decide +kernel
theorem dX7_comes_80 : decode cX7_comes 80 = .ok (.if_icmp .ge 38, 3) := by decide +kernel
theorem dX7_comes_83 : decode cX7_comes 83 = .ok (.aload_n 0, 1) := by decide +kernel
theorem dX7_comes_84 : decode cX7_comes 84 = .ok (.getfield 58, 3) := by decide +kernel
theorem dX7_comes_87 : decode cX7_comes 87 = .ok (.iload 4, 2) := by decide +kernel
theorem dX7_comes_89 : decode cX7_comes 89 = .ok (.iaload, 1) := by decide +kernel
theorem dX7_comes_90 : decode cX7_comes 90 = .ok (.aload_n 0, 1) := by decide +kernel
theorem dX7_comes_91 : decode cX7_comes 91 = .ok (.getfield 58, 3) := by decide +kernel
theorem dX7_comes_94 : decode cX7_comes 94 = .ok (.iload_n 3, 1) := by decide +kernel
theorem dX7_comes_95 : decode cX7_comes 95 = .ok (.iaload, 1) := by decide +kernel
theorem dX7_comes_96 : decode cX7_comes 96 = .ok (.if_icmp .ne 16, 3) := by decide +kernel
theorem dX7_comes_99 : decode cX7_comes 99 = .ok (.iload_n 2, 1) := by decide +kernel
theorem dX7_comes_100 : decode cX7_comes 100 = .ok (.ifCond .ne 7, 3) := by decide +kernel
theorem dX7_comes_103 : decode cX7_comes 103 = .ok (.iload_n 3, 1) := by decide +kernel
theorem dX7_comes_104 : decode cX7_comes 104 = .ok (.goto 7, 3) := by decide +kernel
theorem dX7_comes_107 : decode cX7_comes 107 = .ok (.iload_n 3, 1) := by decide +kernel
theorem dX7_comes_108 : decode cX7_comes 108 = .ok (.iload 4, 2) := by decide +kernel
theorem dX7_comes_110 : decode cX7_comes 110 = .ok (.isub, 1) := by decide +kernel
theorem dX7_comes_111 : decode cX7_comes 111 = .ok (.ireturn, 1) := by decide +kernel
theorem dX7_comes_112 : decode cX7_comes 112 = .ok (.iinc 4 1, 3) := by decide +kernel
theorem dX7_comes_115 : decode cX7_comes 115 = .ok (.goto (-38), 3) := by decide +kernel
theorem dX7_comes_118 : decode cX7_comes 118 = .ok (.iinc 3 1, 3) := by decide +kernel
theorem dX7_comes_121 : decode cX7_comes 121 = .ok (.goto (-85), 3) := by decide +kernel
theorem dX7_comes_124 : decode cX7_comes 124 = .ok (.bipush (-4), 2) := by decide +kernel
theorem dX7_comes_126 : decode cX7_comes 126 = .ok (.ireturn, 1) := by decide +kernel
theorem dX7_notes_0 : decode cX7_notes 0 = .ok (.iconst 0, 1) := by decide +kernel
theorem dX7_notes_1 : decode cX7_notes 1 = .ok (.istore_n 3, 1) := by decide +kernel
theorem dX7_notes_2 : decode cX7_notes 2 = .ok (.iload_n 3, 1) := by decide +kernel
theorem dX7_notes_3 : decode cX7_notes 3 = .ok (.aload_n 1, 1) := by decide +kernel
theorem dX7_notes_4 : decode cX7_notes 4 = .ok (.arraylength, 1) := by decide +kernel
theorem dX7_notes_5 : decode cX7_notes 5 = .ok (.if_icmp .ge 20, 3) := by decide +kernel
theorem dX7_notes_8 : decode cX7_notes 8 = .ok (.aload_n 0, 1) := by decide +kernel
theorem dX7_notes_9 : decode cX7_notes 9 = .ok (.getfield 61, 3) := by decide +kernel
theorem dX7_notes_12 : decode cX7_notes 12 = .ok (.iload_n 2, 1) := by decide +kernel
theorem dX7_notes_13 : decode cX7_notes 13 = .ok (.iload_n 3, 1) := by decide +kernel
theorem dX7_notes_14 : decode cX7_notes 14 = .ok (.iadd, 1) := by decide +kernel
theorem dX7_notes_15 : decode cX7_notes 15 = .ok (.aload_n 1, 1) := by decide +kernel
theorem dX7_notes_16 : decode cX7_notes 16 = .ok (.iload_n 3, 1) := by decide +kernel
theorem dX7_notes_17 : decode cX7_notes 17 = .ok (.iaload, 1) := by decide +kernel
theorem dX7_notes_18 : decode cX7_notes 18 = .ok (.iastore, 1) := by decide +kernel
theorem dX7_notes_19 : decode cX7_notes 19 = .ok (.iinc 3 1, 3) := by decide +kernel
theorem dX7_notes_22 : decode cX7_notes 22 = .ok (.goto (-20), 3) := by decide +kernel
theorem dX7_notes_25 : decode cX7_notes 25 = .ok (.iload_n 2, 1) := by decide +kernel
theorem dX7_notes_26 : decode cX7_notes 26 = .ok (.aload_n 1, 1) := by decide +kernel
theorem dX7_notes_27 : decode cX7_notes 27 = .ok (.arraylength, 1) := by decide +kernel
theorem dX7_notes_28 : decode cX7_notes 28 = .ok (.iadd, 1) := by decide +kernel
theorem dX7_notes_29 : decode cX7_notes 29 = .ok (.ireturn, 1) := by decide +kernel
theorem dX7_gives_0 : decode cX7_gives 0 = .ok (.iconst 0, 1) := by decide +kernel
theorem dX7_gives_1 : decode cX7_gives 1 = .ok (.istore_n 3, 1) := by decide +kernel
theorem dX7_gives_2 : decode cX7_gives 2 = .ok (.iload_n 3, 1) := by decide +kernel
theorem dX7_gives_3 : decode cX7_gives 3 = .ok (.aload_n 2, 1) := by decide +kernel
theorem dX7_gives_4 : decode cX7_gives 4 = .ok (.arraylength, 1) := by decide +kernel
theorem dX7_gives_5 : decode cX7_gives 5 = .ok (.if_icmp .ge 20, 3) := by decide +kernel
theorem dX7_gives_8 : decode cX7_gives 8 = .ok (.aload_n 2, 1) := by decide +kernel
theorem dX7_gives_9 : decode cX7_gives 9 = .ok (.iload_n 3, 1) := by decide +kernel
theorem dX7_gives_10 : decode cX7_gives 10 = .ok (.aload_n 0, 1) := by decide +kernel
theorem dX7_gives_11 : decode cX7_gives 11 = .ok (.getfield 61, 3) := by decide +kernel
theorem dX7_gives_14 : decode cX7_gives 14 = .ok (.iload_n 1, 1) := by decide +kernel
theorem dX7_gives_15 : decode cX7_gives 15 = .ok (.iload_n 3, 1) := by decide +kernel
theorem dX7_gives_16 : decode cX7_gives 16 = .ok (.iadd, 1) := by decide +kernel
theorem dX7_gives_17 : decode cX7_gives 17 = .ok (.iaload, 1) := by decide +kernel
theorem dX7_gives_18 : decode cX7_gives 18 = .ok (.iastore, 1) := by decide +kernel
theorem dX7_gives_19 : decode cX7_gives 19 = .ok (.iinc 3 1, 3) := by decide +kernel
theorem dX7_gives_22 : decode cX7_gives 22 = .ok (.goto (-20), 3) := by decide +kernel
theorem dX7_gives_25 : decode cX7_gives 25 = .ok (.iload_n 1, 1) := by decide +kernel
theorem dX7_gives_26 : decode cX7_gives 26 = .ok (.aload_n 2, 1) := by decide +kernel
theorem dX7_gives_27 : decode cX7_gives 27 = .ok (.arraylength, 1) := by decide +kernel
theorem dX7_gives_28 : decode cX7_gives 28 = .ok (.iadd, 1) := by decide +kernel
theorem dX7_gives_29 : decode cX7_gives 29 = .ok (.ireturn, 1) := by decide +kernel
theorem dX7_image_0 : decode cX7_image 0 = .ok (.aload_n 0, 1) := by decide +kernel
theorem dX7_image_1 : decode cX7_image 1 = .ok (.getfield 61, 3) := by decide +kernel
theorem dX7_image_4 : decode cX7_image 4 = .ok (.iconst 0, 1) := by decide +kernel
theorem dX7_image_5 : decode cX7_image 5 = .ok (.aload_n 0, 1) := by decide +kernel
theorem dX7_image_6 : decode cX7_image 6 = .ok (.getfield 77, 3) := by decide +kernel
theorem dX7_image_9 : decode cX7_image 9 = .ok (.iastore, 1) := by decide +kernel
theorem dX7_image_10 : decode cX7_image 10 = .ok (.aload_n 0, 1) := by decide +kernel
theorem dX7_image_11 : decode cX7_image 11 = .ok (.getfield 61, 3) := by decide +kernel
theorem dX7_image_14 : decode cX7_image 14 = .ok (.iconst 1, 1) := by decide +kernel
theorem dX7_image_15 : decode cX7_image 15 = .ok (.aload_n 0, 1) := by decide +kernel
theorem dX7_image_16 : decode cX7_image 16 = .ok (.getfield 84, 3) := by decide +kernel
theorem dX7_image_19 : decode cX7_image 19 = .ok (.iastore, 1) := by decide +kernel
theorem dX7_image_20 : decode cX7_image 20 = .ok (.aload_n 0, 1) := by decide +kernel
theorem dX7_image_21 : decode cX7_image 21 = .ok (.getfield 61, 3) := by decide +kernel
theorem dX7_image_24 : decode cX7_image 24 = .ok (.iconst 2, 1) := by decide +kernel
theorem dX7_image_25 : decode cX7_image 25 = .ok (.aload_n 0, 1) := by decide +kernel
theorem dX7_image_26 : decode cX7_image 26 = .ok (.getfield 116, 3) := by decide +kernel
theorem dX7_image_29 : decode cX7_image 29 = .ok (.iastore, 1) := by decide +kernel
theorem dX7_image_30 : decode cX7_image 30 = .ok (.aload_n 0, 1) := by decide +kernel
theorem dX7_image_31 : decode cX7_image 31 = .ok (.getfield 61, 3) := by decide +kernel
theorem dX7_image_34 : decode cX7_image 34 = .ok (.iconst 3, 1) := by decide +kernel
theorem dX7_image_35 : decode cX7_image 35 = .ok (.aload_n 0, 1) := by decide +kernel
theorem dX7_image_36 : decode cX7_image 36 = .ok (.getfield 113, 3) := by decide +kernel
theorem dX7_image_39 : decode cX7_image 39 = .ok (.iastore, 1) := by decide +kernel
theorem dX7_image_40 : decode cX7_image 40 = .ok (.aload_n 0, 1) := by decide +kernel
theorem dX7_image_41 : decode cX7_image 41 = .ok (.getfield 61, 3) := by decide +kernel
theorem dX7_image_44 : decode cX7_image 44 = .ok (.iconst 4, 1) := by decide +kernel
theorem dX7_image_45 : decode cX7_image 45 = .ok (.aload_n 0, 1) := by decide +kernel
theorem dX7_image_46 : decode cX7_image 46 = .ok (.getfield 81, 3) := by decide +kernel
theorem dX7_image_49 : decode cX7_image 49 = .ok (.iastore, 1) := by decide +kernel
theorem dX7_image_50 : decode cX7_image 50 = .ok (.aload_n 0, 1) := by decide +kernel
theorem dX7_image_51 : decode cX7_image 51 = .ok (.getfield 61, 3) := by decide +kernel
theorem dX7_image_54 : decode cX7_image 54 = .ok (.iconst 5, 1) := by decide +kernel
theorem dX7_image_55 : decode cX7_image 55 = .ok (.aload_n 0, 1) := by decide +kernel
theorem dX7_image_56 : decode cX7_image 56 = .ok (.getfield 131, 3) := by decide +kernel
theorem dX7_image_59 : decode cX7_image 59 = .ok (.iastore, 1) := by decide +kernel
theorem dX7_image_60 : decode cX7_image 60 = .ok (.aload_n 0, 1) := by decide +kernel
theorem dX7_image_61 : decode cX7_image 61 = .ok (.aload_n 0, 1) := by decide +kernel
theorem dX7_image_62 : decode cX7_image 62 = .ok (.getfield 7, 3) := by decide +kernel
theorem dX7_image_65 : decode cX7_image 65 = .ok (.bipush 6, 2) := by decide +kernel
theorem dX7_image_67 : decode cX7_image 67 = .ok (.invokevirtual 217, 3) := by decide +kernel
theorem dX7_image_70 : decode cX7_image 70 = .ok (.istore_n 1, 1) := by decide +kernel
theorem dX7_image_71 : decode cX7_image 71 = .ok (.aload_n 0, 1) := by decide +kernel
theorem dX7_image_72 : decode cX7_image 72 = .ok (.aload_n 0, 1) := by decide +kernel
theorem dX7_image_73 : decode cX7_image 73 = .ok (.getfield 13, 3) := by decide +kernel
theorem dX7_image_76 : decode cX7_image 76 = .ok (.iload_n 1, 1) := by decide +kernel
theorem dX7_image_77 : decode cX7_image 77 = .ok (.invokevirtual 217, 3) := by decide +kernel
theorem dX7_image_80 : decode cX7_image 80 = .ok (.istore_n 1, 1) := by decide +kernel
theorem dX7_image_81 : decode cX7_image 81 = .ok (.aload_n 0, 1) := by decide +kernel
theorem dX7_image_82 : decode cX7_image 82 = .ok (.aload_n 0, 1) := by decide +kernel
theorem dX7_image_83 : decode cX7_image 83 = .ok (.getfield 16, 3) := by decide +kernel
theorem dX7_image_86 : decode cX7_image 86 = .ok (.iload_n 1, 1) := by decide +kernel
theorem dX7_image_87 : decode cX7_image 87 = .ok (.invokevirtual 217, 3) := by decide +kernel
theorem dX7_image_90 : decode cX7_image 90 = .ok (.istore_n 1, 1) := by decide +kernel
theorem dX7_image_91 : decode cX7_image 91 = .ok (.aload_n 0, 1) := by decide +kernel
theorem dX7_image_92 : decode cX7_image 92 = .ok (.aload_n 0, 1) := by decide +kernel
theorem dX7_image_93 : decode cX7_image 93 = .ok (.getfield 19, 3) := by decide +kernel
theorem dX7_image_96 : decode cX7_image 96 = .ok (.iload_n 1, 1) := by decide +kernel
theorem dX7_image_97 : decode cX7_image 97 = .ok (.invokevirtual 217, 3) := by decide +kernel
theorem dX7_image_100 : decode cX7_image 100 = .ok (.istore_n 1, 1) := by decide +kernel
theorem dX7_image_101 : decode cX7_image 101 = .ok (.aload_n 0, 1) := by decide +kernel
theorem dX7_image_102 : decode cX7_image 102 = .ok (.aload_n 0, 1) := by decide +kernel
theorem dX7_image_103 : decode cX7_image 103 = .ok (.getfield 22, 3) := by decide +kernel
theorem dX7_image_106 : decode cX7_image 106 = .ok (.iload_n 1, 1) := by decide +kernel
theorem dX7_image_107 : decode cX7_image 107 = .ok (.invokevirtual 217, 3) := by decide +kernel
theorem dX7_image_110 : decode cX7_image 110 = .ok (.istore_n 1, 1) := by decide +kernel
theorem dX7_image_111 : decode cX7_image 111 = .ok (.aload_n 0, 1) := by decide +kernel
theorem dX7_image_112 : decode cX7_image 112 = .ok (.aload_n 0, 1) := by decide +kernel
theorem dX7_image_113 : decode cX7_image 113 = .ok (.getfield 25, 3) := by decide +kernel
theorem dX7_image_116 : decode cX7_image 116 = .ok (.iload_n 1, 1) := by decide +kernel
theorem dX7_image_117 : decode cX7_image 117 = .ok (.invokevirtual 217, 3) := by decide +kernel
theorem dX7_image_120 : decode cX7_image 120 = .ok (.pop, 1) := by decide +kernel
theorem dX7_image_121 : decode cX7_image 121 = .ok (.aload_n 0, 1) := by decide +kernel
theorem dX7_image_122 : decode cX7_image 122 = .ok (.iconst 1, 1) := by decide +kernel
theorem dX7_image_123 : decode cX7_image 123 = .ok (.putfield 221, 3) := by decide +kernel
theorem dX7_image_126 : decode cX7_image 126 = .ok (.iconst 1, 1) := by decide +kernel
theorem dX7_image_127 : decode cX7_image 127 = .ok (.ireturn, 1) := by decide +kernel
theorem dX7_restore_0 : decode cX7_restore 0 = .ok (.aload_n 0, 1) := by decide +kernel
theorem dX7_restore_1 : decode cX7_restore 1 = .ok (.getfield 221, 3) := by decide +kernel
theorem dX7_restore_4 : decode cX7_restore 4 = .ok (.ifCond .ne 6, 3) := by decide +kernel
theorem dX7_restore_7 : decode cX7_restore 7 = .ok (.bipush (-4), 2) := by decide +kernel
theorem dX7_restore_9 : decode cX7_restore 9 = .ok (.ireturn, 1) := by decide +kernel
theorem dX7_restore_10 : decode cX7_restore 10 = .ok (.aload_n 0, 1) := by decide +kernel
theorem dX7_restore_11 : decode cX7_restore 11 = .ok (.aload_n 0, 1) := by decide +kernel
theorem dX7_restore_12 : decode cX7_restore 12 = .ok (.getfield 61, 3) := by decide +kernel
theorem dX7_restore_15 : decode cX7_restore 15 = .ok (.iconst 0, 1) := by decide +kernel
theorem dX7_restore_16 : decode cX7_restore 16 = .ok (.iaload, 1) := by decide +kernel
theorem dX7_restore_17 : decode cX7_restore 17 = .ok (.putfield 77, 3) := by decide +kernel
theorem dX7_restore_20 : decode cX7_restore 20 = .ok (.aload_n 0, 1) := by decide +kernel
theorem dX7_restore_21 : decode cX7_restore 21 = .ok (.aload_n 0, 1) := by decide +kernel
theorem dX7_restore_22 : decode cX7_restore 22 = .ok (.getfield 61, 3) := by decide +kernel
theorem dX7_restore_25 : decode cX7_restore 25 = .ok (.iconst 1, 1) := by decide +kernel
theorem dX7_restore_26 : decode cX7_restore 26 = .ok (.iaload, 1) := by decide +kernel
theorem dX7_restore_27 : decode cX7_restore 27 = .ok (.putfield 84, 3) := by decide +kernel
theorem dX7_restore_30 : decode cX7_restore 30 = .ok (.aload_n 0, 1) := by decide +kernel
theorem dX7_restore_31 : decode cX7_restore 31 = .ok (.aload_n 0, 1) := by decide +kernel
theorem dX7_restore_32 : decode cX7_restore 32 = .ok (.getfield 61, 3) := by decide +kernel
theorem dX7_restore_35 : decode cX7_restore 35 = .ok (.iconst 2, 1) := by decide +kernel
theorem dX7_restore_36 : decode cX7_restore 36 = .ok (.iaload, 1) := by decide +kernel
theorem dX7_restore_37 : decode cX7_restore 37 = .ok (.putfield 116, 3) := by decide +kernel
theorem dX7_restore_40 : decode cX7_restore 40 = .ok (.aload_n 0, 1) := by decide +kernel
theorem dX7_restore_41 : decode cX7_restore 41 = .ok (.aload_n 0, 1) := by decide +kernel
theorem dX7_restore_42 : decode cX7_restore 42 = .ok (.getfield 61, 3) := by decide +kernel
theorem dX7_restore_45 : decode cX7_restore 45 = .ok (.iconst 3, 1) := by decide +kernel
theorem dX7_restore_46 : decode cX7_restore 46 = .ok (.iaload, 1) := by decide +kernel
theorem dX7_restore_47 : decode cX7_restore 47 = .ok (.putfield 113, 3) := by decide +kernel
theorem dX7_restore_50 : decode cX7_restore 50 = .ok (.aload_n 0, 1) := by decide +kernel
theorem dX7_restore_51 : decode cX7_restore 51 = .ok (.aload_n 0, 1) := by decide +kernel
theorem dX7_restore_52 : decode cX7_restore 52 = .ok (.getfield 61, 3) := by decide +kernel
theorem dX7_restore_55 : decode cX7_restore 55 = .ok (.iconst 4, 1) := by decide +kernel
theorem dX7_restore_56 : decode cX7_restore 56 = .ok (.iaload, 1) := by decide +kernel
theorem dX7_restore_57 : decode cX7_restore 57 = .ok (.putfield 81, 3) := by decide +kernel
theorem dX7_restore_60 : decode cX7_restore 60 = .ok (.aload_n 0, 1) := by decide +kernel
theorem dX7_restore_61 : decode cX7_restore 61 = .ok (.aload_n 0, 1) := by decide +kernel
theorem dX7_restore_62 : decode cX7_restore 62 = .ok (.getfield 61, 3) := by decide +kernel
theorem dX7_restore_65 : decode cX7_restore 65 = .ok (.iconst 5, 1) := by decide +kernel
theorem dX7_restore_66 : decode cX7_restore 66 = .ok (.iaload, 1) := by decide +kernel
theorem dX7_restore_67 : decode cX7_restore 67 = .ok (.putfield 131, 3) := by decide +kernel
theorem dX7_restore_70 : decode cX7_restore 70 = .ok (.aload_n 0, 1) := by decide +kernel
theorem dX7_restore_71 : decode cX7_restore 71 = .ok (.bipush 6, 2) := by decide +kernel
theorem dX7_restore_73 : decode cX7_restore 73 = .ok (.aload_n 0, 1) := by decide +kernel
theorem dX7_restore_74 : decode cX7_restore 74 = .ok (.getfield 7, 3) := by decide +kernel
theorem dX7_restore_77 : decode cX7_restore 77 = .ok (.invokevirtual 224, 3) := by decide +kernel
theorem dX7_restore_80 : decode cX7_restore 80 = .ok (.istore_n 1, 1) := by decide +kernel
theorem dX7_restore_81 : decode cX7_restore 81 = .ok (.aload_n 0, 1) := by decide +kernel
theorem dX7_restore_82 : decode cX7_restore 82 = .ok (.iload_n 1, 1) := by decide +kernel
theorem dX7_restore_83 : decode cX7_restore 83 = .ok (.aload_n 0, 1) := by decide +kernel
theorem dX7_restore_84 : decode cX7_restore 84 = .ok (.getfield 13, 3) := by decide +kernel
theorem dX7_restore_87 : decode cX7_restore 87 = .ok (.invokevirtual 224, 3) := by decide +kernel
theorem dX7_restore_90 : decode cX7_restore 90 = .ok (.istore_n 1, 1) := by decide +kernel
theorem dX7_restore_91 : decode cX7_restore 91 = .ok (.aload_n 0, 1) := by decide +kernel
theorem dX7_restore_92 : decode cX7_restore 92 = .ok (.iload_n 1, 1) := by decide +kernel
theorem dX7_restore_93 : decode cX7_restore 93 = .ok (.aload_n 0, 1) := by decide +kernel
theorem dX7_restore_94 : decode cX7_restore 94 = .ok (.getfield 16, 3) := by decide +kernel
theorem dX7_restore_97 : decode cX7_restore 97 = .ok (.invokevirtual 224, 3) := by decide +kernel
theorem dX7_restore_100 : decode cX7_restore 100 = .ok (.istore_n 1, 1) := by decide +kernel
theorem dX7_restore_101 : decode cX7_restore 101 = .ok (.aload_n 0, 1) := by decide +kernel
theorem dX7_restore_102 : decode cX7_restore 102 = .ok (.iload_n 1, 1) := by decide +kernel
theorem dX7_restore_103 : decode cX7_restore 103 = .ok (.aload_n 0, 1) := by decide +kernel
theorem dX7_restore_104 : decode cX7_restore 104 = .ok (.getfield 19, 3) := by decide +kernel
theorem dX7_restore_107 : decode cX7_restore 107 = .ok (.invokevirtual 224, 3) := by decide +kernel
theorem dX7_restore_110 : decode cX7_restore 110 = .ok (.istore_n 1, 1) := by decide +kernel
theorem dX7_restore_111 : decode cX7_restore 111 = .ok (.aload_n 0, 1) := by decide +kernel
theorem dX7_restore_112 : decode cX7_restore 112 = .ok (.iload_n 1, 1) := by decide +kernel
theorem dX7_restore_113 : decode cX7_restore 113 = .ok (.aload_n 0, 1) := by decide +kernel
theorem dX7_restore_114 : decode cX7_restore 114 = .ok (.getfield 22, 3) := by decide +kernel
theorem dX7_restore_117 : decode cX7_restore 117 = .ok (.invokevirtual 224, 3) := by decide +kernel
theorem dX7_restore_120 : decode cX7_restore 120 = .ok (.istore_n 1, 1) := by decide +kernel
theorem dX7_restore_121 : decode cX7_restore 121 = .ok (.aload_n 0, 1) := by decide +kernel
theorem dX7_restore_122 : decode cX7_restore 122 = .ok (.iload_n 1, 1) := by decide +kernel
theorem dX7_restore_123 : decode cX7_restore 123 = .ok (.aload_n 0, 1) := by decide +kernel
theorem dX7_restore_124 : decode cX7_restore 124 = .ok (.getfield 25, 3) := by decide +kernel
theorem dX7_restore_127 : decode cX7_restore 127 = .ok (.invokevirtual 224, 3) := by decide +kernel
theorem dX7_restore_130 : decode cX7_restore 130 = .ok (.pop, 1) := by decide +kernel
theorem dX7_restore_131 : decode cX7_restore 131 = .ok (.iconst 1, 1) := by decide +kernel
theorem dX7_restore_132 : decode cX7_restore 132 = .ok (.ireturn, 1) := by decide +kernel
theorem dX7_isSheet_0 : decode cX7_isSheet 0 = .ok (.iload_n 0, 1) := by decide +kernel
theorem dX7_isSheet_1 : decode cX7_isSheet 1 = .ok (.i2l, 1) := by decide +kernel
theorem dX7_isSheet_2 : decode cX7_isSheet 2 = .ok (.lconst 0, 1) := by decide +kernel
theorem dX7_isSheet_3 : decode cX7_isSheet 3 = .ok (.ldc2_w 93, 3) := by decide +kernel
theorem dX7_isSheet_6 : decode cX7_isSheet 6 = .ok (.invokestatic 87, 3) := by decide +kernel
theorem dX7_isSheet_9 : decode cX7_isSheet 9 = .ok (.ireturn, 1) := by decide +kernel
theorem dX7_isLane_0 : decode cX7_isLane 0 = .ok (.iload_n 0, 1) := by decide +kernel
theorem dX7_isLane_1 : decode cX7_isLane 1 = .ok (.i2l, 1) := by decide +kernel
theorem dX7_isLane_2 : decode cX7_isLane 2 = .ok (.lconst 0, 1) := by decide +kernel
theorem dX7_isLane_3 : decode cX7_isLane 3 = .ok (.ldc2_w 93, 3) := by decide +kernel
theorem dX7_isLane_6 : decode cX7_isLane 6 = .ok (.invokestatic 87, 3) := by decide +kernel
theorem dX7_isLane_9 : decode cX7_isLane 9 = .ok (.ireturn, 1) := by decide +kernel
theorem dX7_why_0 : decode cX7_why 0 = .ok (.aload_n 0, 1) := by decide +kernel
theorem dX7_why_1 : decode cX7_why 1 = .ok (.getfield 64, 3) := by decide +kernel
theorem dX7_why_4 : decode cX7_why 4 = .ok (.iload_n 1, 1) := by decide +kernel
theorem dX7_why_5 : decode cX7_why 5 = .ok (.iaload, 1) := by decide +kernel
theorem dX7_why_6 : decode cX7_why 6 = .ok (.ifCond .ge 6, 3) := by decide +kernel
theorem dX7_why_9 : decode cX7_why 9 = .ok (.bipush (-11), 2) := by decide +kernel
theorem dX7_why_11 : decode cX7_why 11 = .ok (.ireturn, 1) := by decide +kernel
theorem dX7_why_12 : decode cX7_why 12 = .ok (.aload_n 0, 1) := by decide +kernel
theorem dX7_why_13 : decode cX7_why 13 = .ok (.getfield 64, 3) := by decide +kernel
theorem dX7_why_16 : decode cX7_why 16 = .ok (.iload_n 1, 1) := by decide +kernel
theorem dX7_why_17 : decode cX7_why 17 = .ok (.iaload, 1) := by decide +kernel
theorem dX7_why_18 : decode cX7_why 18 = .ok (.iload_n 2, 1) := by decide +kernel
theorem dX7_why_19 : decode cX7_why 19 = .ok (.if_icmp .eq 6, 3) := by decide +kernel
theorem dX7_why_22 : decode cX7_why 22 = .ok (.bipush (-12), 2) := by decide +kernel
theorem dX7_why_24 : decode cX7_why 24 = .ok (.ireturn, 1) := by decide +kernel
theorem dX7_why_25 : decode cX7_why 25 = .ok (.iload_n 3, 1) := by decide +kernel
theorem dX7_why_26 : decode cX7_why 26 = .ok (.ifCond .lt 20, 3) := by decide +kernel
theorem dX7_why_29 : decode cX7_why 29 = .ok (.iload_n 3, 1) := by decide +kernel
theorem dX7_why_30 : decode cX7_why 30 = .ok (.i2l, 1) := by decide +kernel
theorem dX7_why_31 : decode cX7_why 31 = .ok (.iload 4, 2) := by decide +kernel
theorem dX7_why_33 : decode cX7_why 33 = .ok (.i2l, 1) := by decide +kernel
theorem dX7_why_34 : decode cX7_why 34 = .ok (.ladd, 1) := by decide +kernel
theorem dX7_why_35 : decode cX7_why 35 = .ok (.aload_n 0, 1) := by decide +kernel
theorem dX7_why_36 : decode cX7_why 36 = .ok (.getfield 67, 3) := by decide +kernel
theorem dX7_why_39 : decode cX7_why 39 = .ok (.iload_n 1, 1) := by decide +kernel
theorem dX7_why_40 : decode cX7_why 40 = .ok (.iaload, 1) := by decide +kernel
theorem dX7_why_41 : decode cX7_why 41 = .ok (.i2l, 1) := by decide +kernel
theorem dX7_why_42 : decode cX7_why 42 = .ok (.lcmp, 1) := by decide +kernel
theorem dX7_why_43 : decode cX7_why 43 = .ok (.ifCond .le 8, 3) := by decide +kernel
theorem dX7_why_46 : decode cX7_why 46 = .ok (.bipush (-13), 2) := by decide +kernel
theorem dX7_why_48 : decode cX7_why 48 = .ok (.goto 4, 3) := by decide +kernel
theorem dX7_why_51 : decode cX7_why 51 = .ok (.iconst 0, 1) := by decide +kernel
theorem dX7_why_52 : decode cX7_why 52 = .ok (.ireturn, 1) := by decide +kernel
theorem dX7_judged_0 : decode cX7_judged 0 = .ok (.iload_n 1, 1) := by decide +kernel
theorem dX7_judged_1 : decode cX7_judged 1 = .ok (.invokestatic 228, 3) := by decide +kernel
theorem dX7_judged_4 : decode cX7_judged 4 = .ok (.ifCond .eq 10, 3) := by decide +kernel
theorem dX7_judged_7 : decode cX7_judged 7 = .ok (.iload_n 2, 1) := by decide +kernel
theorem dX7_judged_8 : decode cX7_judged 8 = .ok (.invokestatic 231, 3) := by decide +kernel
theorem dX7_judged_11 : decode cX7_judged 11 = .ok (.ifCond .ne 5, 3) := by decide +kernel
theorem dX7_judged_14 : decode cX7_judged 14 = .ok (.iconst (-1), 1) := by decide +kernel
theorem dX7_judged_15 : decode cX7_judged 15 = .ok (.ireturn, 1) := by decide +kernel
theorem dX7_judged_16 : decode cX7_judged 16 = .ok (.aload_n 0, 1) := by decide +kernel
theorem dX7_judged_17 : decode cX7_judged 17 = .ok (.iload_n 1, 1) := by decide +kernel
theorem dX7_judged_18 : decode cX7_judged 18 = .ok (.iload_n 2, 1) := by decide +kernel
theorem dX7_judged_19 : decode cX7_judged 19 = .ok (.iload_n 3, 1) := by decide +kernel
theorem dX7_judged_20 : decode cX7_judged 20 = .ok (.bipush 12, 2) := by decide +kernel
theorem dX7_judged_22 : decode cX7_judged 22 = .ok (.invokevirtual 234, 3) := by decide +kernel
theorem dX7_judged_25 : decode cX7_judged 25 = .ok (.istore 4, 2) := by decide +kernel
theorem dX7_judged_27 : decode cX7_judged 27 = .ok (.iload 4, 2) := by decide +kernel
theorem dX7_judged_29 : decode cX7_judged 29 = .ok (.ifCond .ge 6, 3) := by decide +kernel
theorem dX7_judged_32 : decode cX7_judged 32 = .ok (.iload 4, 2) := by decide +kernel
theorem dX7_judged_34 : decode cX7_judged 34 = .ok (.ireturn, 1) := by decide +kernel
theorem dX7_judged_35 : decode cX7_judged 35 = .ok (.aload_n 0, 1) := by decide +kernel
theorem dX7_judged_36 : decode cX7_judged 36 = .ok (.iconst 0, 1) := by decide +kernel
theorem dX7_judged_37 : decode cX7_judged 37 = .ok (.aload_n 0, 1) := by decide +kernel
theorem dX7_judged_38 : decode cX7_judged 38 = .ok (.getfield 116, 3) := by decide +kernel
theorem dX7_judged_41 : decode cX7_judged 41 = .ok (.invokevirtual 119, 3) := by decide +kernel
theorem dX7_judged_44 : decode cX7_judged 44 = .ok (.istore 5, 2) := by decide +kernel
theorem dX7_judged_46 : decode cX7_judged 46 = .ok (.iconst 0, 1) := by decide +kernel
theorem dX7_judged_47 : decode cX7_judged 47 = .ok (.istore 6, 2) := by decide +kernel
theorem dX7_judged_49 : decode cX7_judged 49 = .ok (.iload 6, 2) := by decide +kernel
theorem dX7_judged_51 : decode cX7_judged 51 = .ok (.bipush 12, 2) := by decide +kernel
theorem dX7_judged_53 : decode cX7_judged 53 = .ok (.if_icmp .ge 79, 3) := by decide +kernel
theorem dX7_judged_56 : decode cX7_judged 56 = .ok (.aload_n 0, 1) := by decide +kernel
theorem dX7_judged_57 : decode cX7_judged 57 = .ok (.getfield 70, 3) := by decide +kernel
theorem dX7_judged_60 : decode cX7_judged 60 = .ok (.bipush 16, 2) := by decide +kernel
theorem dX7_judged_62 : decode cX7_judged 62 = .ok (.iload_n 1, 1) := by decide +kernel
theorem dX7_judged_63 : decode cX7_judged 63 = .ok (.imul, 1) := by decide +kernel
theorem dX7_judged_64 : decode cX7_judged 64 = .ok (.iload_n 3, 1) := by decide +kernel
theorem dX7_judged_65 : decode cX7_judged 65 = .ok (.iadd, 1) := by decide +kernel
theorem dX7_judged_66 : decode cX7_judged 66 = .ok (.iload 6, 2) := by decide +kernel
theorem dX7_judged_68 : decode cX7_judged 68 = .ok (.iadd, 1) := by decide +kernel
theorem dX7_judged_69 : decode cX7_judged 69 = .ok (.laload, 1) := by decide +kernel
theorem dX7_judged_70 : decode cX7_judged 70 = .ok (.lstore 7, 2) := by decide +kernel
theorem dX7_judged_72 : decode cX7_judged 72 = .ok (.lload 7, 2) := by decide +kernel
theorem dX7_judged_74 : decode cX7_judged 74 = .ok (.ldc2_w 238, 3) := by decide +kernel
theorem dX7_judged_77 : decode cX7_judged 77 = .ok (.lcmp, 1) := by decide +kernel
theorem dX7_judged_78 : decode cX7_judged 78 = .ok (.ifCond .eq 33, 3) := by decide +kernel
theorem dX7_judged_81 : decode cX7_judged 81 = .ok (.aload_n 0, 1) := by decide +kernel
theorem dX7_judged_82 : decode cX7_judged 82 = .ok (.lload 7, 2) := by decide +kernel
theorem dX7_judged_84 : decode cX7_judged 84 = .ok (.invokevirtual 109, 3) := by decide +kernel
theorem dX7_judged_87 : decode cX7_judged 87 = .ok (.ifCond .eq 28, 3) := by decide +kernel
theorem dX7_judged_90 : decode cX7_judged 90 = .ok (.aload_n 0, 1) := by decide +kernel
theorem dX7_judged_91 : decode cX7_judged 91 = .ok (.bipush 11, 2) := by decide +kernel
theorem dX7_judged_93 : decode cX7_judged 93 = .ok (.iload 6, 2) := by decide +kernel
theorem dX7_judged_95 : decode cX7_judged 95 = .ok (.isub, 1) := by decide +kernel
theorem dX7_judged_96 : decode cX7_judged 96 = .ok (.invokevirtual 162, 3) := by decide +kernel
theorem dX7_judged_99 : decode cX7_judged 99 = .ok (.iload 5, 2) := by decide +kernel
theorem dX7_judged_101 : decode cX7_judged 101 = .ok (.iand, 1) := by decide +kernel
theorem dX7_judged_102 : decode cX7_judged 102 = .ok (.iconst 1, 1) := by decide +kernel
theorem dX7_judged_103 : decode cX7_judged 103 = .ok (.lload 7, 2) := by decide +kernel
theorem dX7_judged_105 : decode cX7_judged 105 = .ok (.l2i, 1) := by decide +kernel
theorem dX7_judged_106 : decode cX7_judged 106 = .ok (.ishl, 1) := by decide +kernel
theorem dX7_judged_107 : decode cX7_judged 107 = .ok (.iand, 1) := by decide +kernel
theorem dX7_judged_108 : decode cX7_judged 108 = .ok (.ifCond .eq 7, 3) := by decide +kernel
theorem dX7_judged_111 : decode cX7_judged 111 = .ok (.iconst 1, 1) := by decide +kernel
theorem dX7_judged_112 : decode cX7_judged 112 = .ok (.goto 4, 3) := by decide +kernel
theorem dX7_judged_115 : decode cX7_judged 115 = .ok (.iconst 0, 1) := by decide +kernel
theorem dX7_judged_116 : decode cX7_judged 116 = .ok (.istore 9, 2) := by decide +kernel
theorem dX7_judged_118 : decode cX7_judged 118 = .ok (.iload 9, 2) := by decide +kernel
theorem dX7_judged_120 : decode cX7_judged 120 = .ok (.ifCond .ne 6, 3) := by decide +kernel
theorem dX7_judged_123 : decode cX7_judged 123 = .ok (.iload 6, 2) := by decide +kernel
theorem dX7_judged_125 : decode cX7_judged 125 = .ok (.ireturn, 1) := by decide +kernel
theorem dX7_judged_126 : decode cX7_judged 126 = .ok (.iinc 6 1, 3) := by decide +kernel
theorem dX7_judged_129 : decode cX7_judged 129 = .ok (.goto (-80), 3) := by decide +kernel
theorem dX7_judged_132 : decode cX7_judged 132 = .ok (.bipush (-4), 2) := by decide +kernel
theorem dX7_judged_134 : decode cX7_judged 134 = .ok (.ireturn, 1) := by decide +kernel
theorem dX7_net_0 : decode cX7_net 0 = .ok (.aload_n 0, 1) := by decide +kernel
theorem dX7_net_1 : decode cX7_net 1 = .ok (.iload_n 1, 1) := by decide +kernel
theorem dX7_net_2 : decode cX7_net 2 = .ok (.i2l, 1) := by decide +kernel
theorem dX7_net_3 : decode cX7_net 3 = .ok (.invokevirtual 109, 3) := by decide +kernel
theorem dX7_net_6 : decode cX7_net 6 = .ok (.ifCond .eq 41, 3) := by decide +kernel
theorem dX7_net_9 : decode cX7_net 9 = .ok (.iload_n 2, 1) := by decide +kernel
theorem dX7_net_10 : decode cX7_net 10 = .ok (.invokestatic 228, 3) := by decide +kernel
theorem dX7_net_13 : decode cX7_net 13 = .ok (.ifCond .eq 34, 3) := by decide +kernel
theorem dX7_net_16 : decode cX7_net 16 = .ok (.iload_n 3, 1) := by decide +kernel
theorem dX7_net_17 : decode cX7_net 17 = .ok (.invokestatic 231, 3) := by decide +kernel
theorem dX7_net_20 : decode cX7_net 20 = .ok (.ifCond .eq 27, 3) := by decide +kernel
theorem dX7_net_23 : decode cX7_net 23 = .ok (.iload 5, 2) := by decide +kernel
theorem dX7_net_25 : decode cX7_net 25 = .ok (.i2l, 1) := by decide +kernel
theorem dX7_net_26 : decode cX7_net 26 = .ok (.lconst 1, 1) := by decide +kernel
theorem dX7_net_27 : decode cX7_net 27 = .ok (.ldc2_w 240, 3) := by decide +kernel
theorem dX7_net_30 : decode cX7_net 30 = .ok (.invokestatic 87, 3) := by decide +kernel
theorem dX7_net_33 : decode cX7_net 33 = .ok (.ifCond .eq 14, 3) := by decide +kernel
theorem dX7_net_36 : decode cX7_net 36 = .ok (.iload 6, 2) := by decide +kernel
theorem dX7_net_38 : decode cX7_net 38 = .ok (.i2l, 1) := by decide +kernel
theorem dX7_net_39 : decode cX7_net 39 = .ok (.lconst 0, 1) := by decide +kernel
theorem dX7_net_40 : decode cX7_net 40 = .ok (.lconst 1, 1) := by decide +kernel
theorem dX7_net_41 : decode cX7_net 41 = .ok (.invokestatic 87, 3) := by decide +kernel
theorem dX7_net_44 : decode cX7_net 44 = .ok (.ifCond .ne 5, 3) := by decide +kernel
theorem dX7_net_47 : decode cX7_net 47 = .ok (.iconst (-1), 1) := by decide +kernel
theorem dX7_net_48 : decode cX7_net 48 = .ok (.ireturn, 1) := by decide +kernel
theorem dX7_net_49 : decode cX7_net 49 = .ok (.aload_n 0, 1) := by decide +kernel
theorem dX7_net_50 : decode cX7_net 50 = .ok (.iload_n 2, 1) := by decide +kernel
theorem dX7_net_51 : decode cX7_net 51 = .ok (.iload_n 3, 1) := by decide +kernel
theorem dX7_net_52 : decode cX7_net 52 = .ok (.iload 4, 2) := by decide +kernel
theorem dX7_net_54 : decode cX7_net 54 = .ok (.iload 5, 2) := by decide +kernel
theorem dX7_net_56 : decode cX7_net 56 = .ok (.invokevirtual 234, 3) := by decide +kernel
theorem dX7_net_59 : decode cX7_net 59 = .ok (.istore 7, 2) := by decide +kernel
theorem dX7_net_61 : decode cX7_net 61 = .ok (.iload 7, 2) := by decide +kernel
theorem dX7_net_63 : decode cX7_net 63 = .ok (.ifCond .ge 6, 3) := by decide +kernel
theorem dX7_net_66 : decode cX7_net 66 = .ok (.iload 7, 2) := by decide +kernel
theorem dX7_net_68 : decode cX7_net 68 = .ok (.ireturn, 1) := by decide +kernel
theorem dX7_net_69 : decode cX7_net 69 = .ok (.iconst 0, 1) := by decide +kernel
theorem dX7_net_70 : decode cX7_net 70 = .ok (.istore 8, 2) := by decide +kernel
theorem dX7_net_72 : decode cX7_net 72 = .ok (.iload 8, 2) := by decide +kernel
theorem dX7_net_74 : decode cX7_net 74 = .ok (.iload 5, 2) := by decide +kernel
theorem dX7_net_76 : decode cX7_net 76 = .ok (.if_icmp .ge 34, 3) := by decide +kernel
theorem dX7_net_79 : decode cX7_net 79 = .ok (.aload_n 0, 1) := by decide +kernel
theorem dX7_net_80 : decode cX7_net 80 = .ok (.aload_n 0, 1) := by decide +kernel
theorem dX7_net_81 : decode cX7_net 81 = .ok (.getfield 70, 3) := by decide +kernel
theorem dX7_net_84 : decode cX7_net 84 = .ok (.bipush 16, 2) := by decide +kernel
theorem dX7_net_86 : decode cX7_net 86 = .ok (.iload_n 2, 1) := by decide +kernel
theorem dX7_net_87 : decode cX7_net 87 = .ok (.imul, 1) := by decide +kernel
theorem dX7_net_88 : decode cX7_net 88 = .ok (.iload 4, 2) := by decide +kernel
theorem dX7_net_90 : decode cX7_net 90 = .ok (.iadd, 1) := by decide +kernel
theorem dX7_net_91 : decode cX7_net 91 = .ok (.iload 8, 2) := by decide +kernel
theorem dX7_net_93 : decode cX7_net 93 = .ok (.iadd, 1) := by decide +kernel
theorem dX7_net_94 : decode cX7_net 94 = .ok (.laload, 1) := by decide +kernel
theorem dX7_net_95 : decode cX7_net 95 = .ok (.invokevirtual 128, 3) := by decide +kernel
theorem dX7_net_98 : decode cX7_net 98 = .ok (.ifCond .ne 6, 3) := by decide +kernel
theorem dX7_net_101 : decode cX7_net 101 = .ok (.bipush (-2), 2) := by decide +kernel
theorem dX7_net_103 : decode cX7_net 103 = .ok (.ireturn, 1) := by decide +kernel
theorem dX7_net_104 : decode cX7_net 104 = .ok (.iinc 8 1, 3) := by decide +kernel
theorem dX7_net_107 : decode cX7_net 107 = .ok (.goto (-35), 3) := by decide +kernel
theorem dX7_net_110 : decode cX7_net 110 = .ok (.iload_n 1, 1) := by decide +kernel
theorem dX7_net_111 : decode cX7_net 111 = .ok (.aload_n 0, 1) := by decide +kernel
theorem dX7_net_112 : decode cX7_net 112 = .ok (.getfield 13, 3) := by decide +kernel
theorem dX7_net_115 : decode cX7_net 115 = .ok (.iload_n 1, 1) := by decide +kernel
theorem dX7_net_116 : decode cX7_net 116 = .ok (.iaload, 1) := by decide +kernel
theorem dX7_net_117 : decode cX7_net 117 = .ok (.aload_n 0, 1) := by decide +kernel
theorem dX7_net_118 : decode cX7_net 118 = .ok (.getfield 13, 3) := by decide +kernel
theorem dX7_net_121 : decode cX7_net 121 = .ok (.invokestatic 97, 3) := by decide +kernel
theorem dX7_net_124 : decode cX7_net 124 = .ok (.istore 8, 2) := by decide +kernel
theorem dX7_net_126 : decode cX7_net 126 = .ok (.aload_n 0, 1) := by decide +kernel
theorem dX7_net_127 : decode cX7_net 127 = .ok (.getfield 16, 3) := by decide +kernel
theorem dX7_net_130 : decode cX7_net 130 = .ok (.iload_n 1, 1) := by decide +kernel
theorem dX7_net_131 : decode cX7_net 131 = .ok (.iaload, 1) := by decide +kernel
theorem dX7_net_132 : decode cX7_net 132 = .ok (.istore 9, 2) := by decide +kernel
theorem dX7_net_134 : decode cX7_net 134 = .ok (.iconst 0, 1) := by decide +kernel
theorem dX7_net_135 : decode cX7_net 135 = .ok (.istore 10, 2) := by decide +kernel
theorem dX7_net_137 : decode cX7_net 137 = .ok (.bipush (-4), 2) := by decide +kernel
theorem dX7_net_139 : decode cX7_net 139 = .ok (.istore 11, 2) := by decide +kernel
theorem dX7_net_141 : decode cX7_net 141 = .ok (.iconst 0, 1) := by decide +kernel
theorem dX7_net_142 : decode cX7_net 142 = .ok (.istore 12, 2) := by decide +kernel
theorem dX7_net_144 : decode cX7_net 144 = .ok (.iload 12, 2) := by decide +kernel
theorem dX7_net_146 : decode cX7_net 146 = .ok (.iconst 1, 1) := by decide +kernel
theorem dX7_net_147 : decode cX7_net 147 = .ok (.iload_n 1, 1) := by decide +kernel
theorem dX7_net_148 : decode cX7_net 148 = .ok (.ishl, 1) := by decide +kernel
theorem dX7_net_149 : decode cX7_net 149 = .ok (.if_icmp .ge 140, 3) := by decide +kernel
theorem dX7_net_152 : decode cX7_net 152 = .ok (.iload 12, 2) := by decide +kernel
theorem dX7_net_154 : decode cX7_net 154 = .ok (.iload 8, 2) := by decide +kernel
theorem dX7_net_156 : decode cX7_net 156 = .ok (.iconst (-1), 1) := by decide +kernel
theorem dX7_net_157 : decode cX7_net 157 = .ok (.ixor, 1) := by decide +kernel
theorem dX7_net_158 : decode cX7_net 158 = .ok (.iand, 1) := by decide +kernel
theorem dX7_net_159 : decode cX7_net 159 = .ok (.ifCond .ne 7, 3) := by decide +kernel
theorem dX7_net_162 : decode cX7_net 162 = .ok (.iconst 1, 1) := by decide +kernel
theorem dX7_net_163 : decode cX7_net 163 = .ok (.goto 4, 3) := by decide +kernel
theorem dX7_net_166 : decode cX7_net 166 = .ok (.iconst 0, 1) := by decide +kernel
theorem dX7_net_167 : decode cX7_net 167 = .ok (.istore 13, 2) := by decide +kernel
theorem dX7_net_169 : decode cX7_net 169 = .ok (.aload_n 0, 1) := by decide +kernel
theorem dX7_net_170 : decode cX7_net 170 = .ok (.getfield 16, 3) := by decide +kernel
theorem dX7_net_173 : decode cX7_net 173 = .ok (.iload_n 1, 1) := by decide +kernel
theorem dX7_net_174 : decode cX7_net 174 = .ok (.iload 12, 2) := by decide +kernel
theorem dX7_net_176 : decode cX7_net 176 = .ok (.iastore, 1) := by decide +kernel
theorem dX7_net_177 : decode cX7_net 177 = .ok (.iconst 0, 1) := by decide +kernel
theorem dX7_net_178 : decode cX7_net 178 = .ok (.istore 14, 2) := by decide +kernel
theorem dX7_net_180 : decode cX7_net 180 = .ok (.iload 14, 2) := by decide +kernel
theorem dX7_net_182 : decode cX7_net 182 = .ok (.iload 5, 2) := by decide +kernel
theorem dX7_net_184 : decode cX7_net 184 = .ok (.if_icmp .ge 65, 3) := by decide +kernel
theorem dX7_net_187 : decode cX7_net 187 = .ok (.iload 13, 2) := by decide +kernel
theorem dX7_net_189 : decode cX7_net 189 = .ok (.ifCond .eq 60, 3) := by decide +kernel
theorem dX7_net_192 : decode cX7_net 192 = .ok (.aload_n 0, 1) := by decide +kernel
theorem dX7_net_193 : decode cX7_net 193 = .ok (.getfield 70, 3) := by decide +kernel
theorem dX7_net_196 : decode cX7_net 196 = .ok (.bipush 16, 2) := by decide +kernel
theorem dX7_net_198 : decode cX7_net 198 = .ok (.iload_n 2, 1) := by decide +kernel
theorem dX7_net_199 : decode cX7_net 199 = .ok (.imul, 1) := by decide +kernel
theorem dX7_net_200 : decode cX7_net 200 = .ok (.iload 4, 2) := by decide +kernel
theorem dX7_net_202 : decode cX7_net 202 = .ok (.iadd, 1) := by decide +kernel
theorem dX7_net_203 : decode cX7_net 203 = .ok (.iload 14, 2) := by decide +kernel
theorem dX7_net_205 : decode cX7_net 205 = .ok (.iadd, 1) := by decide +kernel
theorem dX7_net_206 : decode cX7_net 206 = .ok (.laload, 1) := by decide +kernel
theorem dX7_net_207 : decode cX7_net 207 = .ok (.l2i, 1) := by decide +kernel
theorem dX7_net_208 : decode cX7_net 208 = .ok (.istore 15, 2) := by decide +kernel
theorem dX7_net_210 : decode cX7_net 210 = .ok (.aload_n 0, 1) := by decide +kernel
theorem dX7_net_211 : decode cX7_net 211 = .ok (.iload_n 1, 1) := by decide +kernel
theorem dX7_net_212 : decode cX7_net 212 = .ok (.iload 15, 2) := by decide +kernel
theorem dX7_net_214 : decode cX7_net 214 = .ok (.iconst 0, 1) := by decide +kernel
theorem dX7_net_215 : decode cX7_net 215 = .ok (.invokevirtual 105, 3) := by decide +kernel
theorem dX7_net_218 : decode cX7_net 218 = .ok (.iload 15, 2) := by decide +kernel
theorem dX7_net_220 : decode cX7_net 220 = .ok (.iload_n 1, 1) := by decide +kernel
theorem dX7_net_221 : decode cX7_net 221 = .ok (.ishr, 1) := by decide +kernel
theorem dX7_net_222 : decode cX7_net 222 = .ok (.iconst 1, 1) := by decide +kernel
theorem dX7_net_223 : decode cX7_net 223 = .ok (.iand, 1) := by decide +kernel
theorem dX7_net_224 : decode cX7_net 224 = .ok (.iconst 1, 1) := by decide +kernel
theorem dX7_net_225 : decode cX7_net 225 = .ok (.if_icmp .ne 7, 3) := by decide +kernel
theorem dX7_net_228 : decode cX7_net 228 = .ok (.iconst 1, 1) := by decide +kernel
theorem dX7_net_229 : decode cX7_net 229 = .ok (.goto 4, 3) := by decide +kernel
theorem dX7_net_232 : decode cX7_net 232 = .ok (.iconst 0, 1) := by decide +kernel
theorem dX7_net_233 : decode cX7_net 233 = .ok (.if_icmp .ne 7, 3) := by decide +kernel
theorem dX7_net_236 : decode cX7_net 236 = .ok (.iconst 1, 1) := by decide +kernel
theorem dX7_net_237 : decode cX7_net 237 = .ok (.goto 4, 3) := by decide +kernel
theorem dX7_net_240 : decode cX7_net 240 = .ok (.iconst 0, 1) := by decide +kernel
theorem dX7_net_241 : decode cX7_net 241 = .ok (.istore 13, 2) := by decide +kernel
theorem dX7_net_243 : decode cX7_net 243 = .ok (.iinc 14 1, 3) := by decide +kernel
theorem dX7_net_246 : decode cX7_net 246 = .ok (.goto (-66), 3) := by decide +kernel
theorem dX7_net_249 : decode cX7_net 249 = .ok (.iload 13, 2) := by decide +kernel
theorem dX7_net_251 : decode cX7_net 251 = .ok (.ifCond .eq 13, 3) := by decide +kernel
theorem dX7_net_254 : decode cX7_net 254 = .ok (.iload 10, 2) := by decide +kernel
theorem dX7_net_256 : decode cX7_net 256 = .ok (.ifCond .ne 8, 3) := by decide +kernel
theorem dX7_net_259 : decode cX7_net 259 = .ok (.iload 12, 2) := by decide +kernel
theorem dX7_net_261 : decode cX7_net 261 = .ok (.goto 5, 3) := by decide +kernel
theorem dX7_net_264 : decode cX7_net 264 = .ok (.iload 11, 2) := by decide +kernel
theorem dX7_net_266 : decode cX7_net 266 = .ok (.istore 11, 2) := by decide +kernel
theorem dX7_net_268 : decode cX7_net 268 = .ok (.iload 10, 2) := by decide +kernel
theorem dX7_net_270 : decode cX7_net 270 = .ok (.iload 13, 2) := by decide +kernel
theorem dX7_net_272 : decode cX7_net 272 = .ok (.ifCond .eq 7, 3) := by decide +kernel
theorem dX7_net_275 : decode cX7_net 275 = .ok (.iconst 1, 1) := by decide +kernel
theorem dX7_net_276 : decode cX7_net 276 = .ok (.goto 4, 3) := by decide +kernel
theorem dX7_net_279 : decode cX7_net 279 = .ok (.iconst 0, 1) := by decide +kernel
theorem dX7_net_280 : decode cX7_net 280 = .ok (.iadd, 1) := by decide +kernel
theorem dX7_net_281 : decode cX7_net 281 = .ok (.istore 10, 2) := by decide +kernel
theorem dX7_net_283 : decode cX7_net 283 = .ok (.iinc 12 1, 3) := by decide +kernel
theorem dX7_net_286 : decode cX7_net 286 = .ok (.goto (-142), 3) := by decide +kernel
theorem dX7_net_289 : decode cX7_net 289 = .ok (.aload_n 0, 1) := by decide +kernel
theorem dX7_net_290 : decode cX7_net 290 = .ok (.getfield 16, 3) := by decide +kernel
theorem dX7_net_293 : decode cX7_net 293 = .ok (.iload_n 1, 1) := by decide +kernel
theorem dX7_net_294 : decode cX7_net 294 = .ok (.iload 9, 2) := by decide +kernel
theorem dX7_net_296 : decode cX7_net 296 = .ok (.iastore, 1) := by decide +kernel
theorem dX7_net_297 : decode cX7_net 297 = .ok (.iload 6, 2) := by decide +kernel
theorem dX7_net_299 : decode cX7_net 299 = .ok (.ifCond .ne 8, 3) := by decide +kernel
theorem dX7_net_302 : decode cX7_net 302 = .ok (.iload 10, 2) := by decide +kernel
theorem dX7_net_304 : decode cX7_net 304 = .ok (.goto 5, 3) := by decide +kernel
theorem dX7_net_307 : decode cX7_net 307 = .ok (.iload 11, 2) := by decide +kernel
theorem dX7_net_309 : decode cX7_net 309 = .ok (.ireturn, 1) := by decide +kernel
theorem dX7_puts_0 : decode cX7_puts 0 = .ok (.aload_n 0, 1) := by decide +kernel
theorem dX7_puts_1 : decode cX7_puts 1 = .ok (.getfield 64, 3) := by decide +kernel
theorem dX7_puts_4 : decode cX7_puts 4 = .ok (.iload_n 1, 1) := by decide +kernel
theorem dX7_puts_5 : decode cX7_puts 5 = .ok (.iaload, 1) := by decide +kernel
theorem dX7_puts_6 : decode cX7_puts 6 = .ok (.istore 5, 2) := by decide +kernel
theorem dX7_puts_8 : decode cX7_puts 8 = .ok (.aload_n 0, 1) := by decide +kernel
theorem dX7_puts_9 : decode cX7_puts 9 = .ok (.getfield 70, 3) := by decide +kernel
theorem dX7_puts_12 : decode cX7_puts 12 = .ok (.bipush 16, 2) := by decide +kernel
theorem dX7_puts_14 : decode cX7_puts 14 = .ok (.iload_n 1, 1) := by decide +kernel
theorem dX7_puts_15 : decode cX7_puts 15 = .ok (.imul, 1) := by decide +kernel
theorem dX7_puts_16 : decode cX7_puts 16 = .ok (.iload_n 2, 1) := by decide +kernel
theorem dX7_puts_17 : decode cX7_puts 17 = .ok (.iadd, 1) := by decide +kernel
theorem dX7_puts_18 : decode cX7_puts 18 = .ok (.iload 5, 2) := by decide +kernel
theorem dX7_puts_20 : decode cX7_puts 20 = .ok (.ifCond .ne 10, 3) := by decide +kernel
theorem dX7_puts_23 : decode cX7_puts 23 = .ok (.lload_n 3, 1) := by decide +kernel
theorem dX7_puts_24 : decode cX7_puts 24 = .ok (.l2i, 1) := by decide +kernel
theorem dX7_puts_25 : decode cX7_puts 25 = .ok (.i2b, 1) := by decide +kernel
theorem dX7_puts_26 : decode cX7_puts 26 = .ok (.i2l, 1) := by decide +kernel
theorem dX7_puts_27 : decode cX7_puts 27 = .ok (.goto 29, 3) := by decide +kernel
theorem dX7_puts_30 : decode cX7_puts 30 = .ok (.iload 5, 2) := by decide +kernel
theorem dX7_puts_32 : decode cX7_puts 32 = .ok (.iconst 1, 1) := by decide +kernel
theorem dX7_puts_33 : decode cX7_puts 33 = .ok (.if_icmp .ne 10, 3) := by decide +kernel
theorem dX7_puts_36 : decode cX7_puts 36 = .ok (.lload_n 3, 1) := by decide +kernel
theorem dX7_puts_37 : decode cX7_puts 37 = .ok (.l2i, 1) := by decide +kernel
theorem dX7_puts_38 : decode cX7_puts 38 = .ok (.i2s, 1) := by decide +kernel
theorem dX7_puts_39 : decode cX7_puts 39 = .ok (.i2l, 1) := by decide +kernel
theorem dX7_puts_40 : decode cX7_puts 40 = .ok (.goto 16, 3) := by decide +kernel
theorem dX7_puts_43 : decode cX7_puts 43 = .ok (.iload 5, 2) := by decide +kernel
theorem dX7_puts_45 : decode cX7_puts 45 = .ok (.iconst 2, 1) := by decide +kernel
theorem dX7_puts_46 : decode cX7_puts 46 = .ok (.if_icmp .ne 9, 3) := by decide +kernel
theorem dX7_puts_49 : decode cX7_puts 49 = .ok (.lload_n 3, 1) := by decide +kernel
theorem dX7_puts_50 : decode cX7_puts 50 = .ok (.l2i, 1) := by decide +kernel
theorem dX7_puts_51 : decode cX7_puts 51 = .ok (.i2l, 1) := by decide +kernel
theorem dX7_puts_52 : decode cX7_puts 52 = .ok (.goto 4, 3) := by decide +kernel
theorem dX7_puts_55 : decode cX7_puts 55 = .ok (.lload_n 3, 1) := by decide +kernel
theorem dX7_puts_56 : decode cX7_puts 56 = .ok (.lastore, 1) := by decide +kernel
theorem dX7_puts_57 : decode cX7_puts 57 = .ok (.return_, 1) := by decide +kernel
theorem dX7_film_0 : decode cX7_film 0 = .ok (.iload_n 1, 1) := by decide +kernel
theorem dX7_film_1 : decode cX7_film 1 = .ok (.invokestatic 228, 3) := by decide +kernel
theorem dX7_film_4 : decode cX7_film 4 = .ok (.ifCond .eq 10, 3) := by decide +kernel
theorem dX7_film_7 : decode cX7_film 7 = .ok (.iload_n 2, 1) := by decide +kernel
theorem dX7_film_8 : decode cX7_film 8 = .ok (.invokestatic 231, 3) := by decide +kernel
theorem dX7_film_11 : decode cX7_film 11 = .ok (.ifCond .ne 5, 3) := by decide +kernel
theorem dX7_film_14 : decode cX7_film 14 = .ok (.iconst (-1), 1) := by decide +kernel
theorem dX7_film_15 : decode cX7_film 15 = .ok (.ireturn, 1) := by decide +kernel
theorem dX7_film_16 : decode cX7_film 16 = .ok (.aload_n 0, 1) := by decide +kernel
theorem dX7_film_17 : decode cX7_film 17 = .ok (.iload_n 1, 1) := by decide +kernel
theorem dX7_film_18 : decode cX7_film 18 = .ok (.iload_n 2, 1) := by decide +kernel
theorem dX7_film_19 : decode cX7_film 19 = .ok (.iload_n 3, 1) := by decide +kernel
theorem dX7_film_20 : decode cX7_film 20 = .ok (.aload_n 0, 1) := by decide +kernel
theorem dX7_film_21 : decode cX7_film 21 = .ok (.getfield 77, 3) := by decide +kernel
theorem dX7_film_24 : decode cX7_film 24 = .ok (.invokevirtual 234, 3) := by decide +kernel
theorem dX7_film_27 : decode cX7_film 27 = .ok (.istore 4, 2) := by decide +kernel
theorem dX7_film_29 : decode cX7_film 29 = .ok (.iload 4, 2) := by decide +kernel
theorem dX7_film_31 : decode cX7_film 31 = .ok (.ifCond .ge 6, 3) := by decide +kernel
theorem dX7_film_34 : decode cX7_film 34 = .ok (.iload 4, 2) := by decide +kernel
theorem dX7_film_36 : decode cX7_film 36 = .ok (.ireturn, 1) := by decide +kernel
theorem dX7_film_37 : decode cX7_film 37 = .ok (.aload_n 0, 1) := by decide +kernel
theorem dX7_film_38 : decode cX7_film 38 = .ok (.aload_n 0, 1) := by decide +kernel
theorem dX7_film_39 : decode cX7_film 39 = .ok (.getfield 113, 3) := by decide +kernel
theorem dX7_film_42 : decode cX7_film 42 = .ok (.aload_n 0, 1) := by decide +kernel
theorem dX7_film_43 : decode cX7_film 43 = .ok (.getfield 116, 3) := by decide +kernel
theorem dX7_film_46 : decode cX7_film 46 = .ok (.invokevirtual 180, 3) := by decide +kernel
theorem dX7_film_49 : decode cX7_film 49 = .ok (.iconst 0, 1) := by decide +kernel
theorem dX7_film_50 : decode cX7_film 50 = .ok (.istore 5, 2) := by decide +kernel
theorem dX7_film_52 : decode cX7_film 52 = .ok (.iload 5, 2) := by decide +kernel
theorem dX7_film_54 : decode cX7_film 54 = .ok (.aload_n 0, 1) := by decide +kernel
theorem dX7_film_55 : decode cX7_film 55 = .ok (.getfield 77, 3) := by decide +kernel
theorem dX7_film_58 : decode cX7_film 58 = .ok (.if_icmp .ge 26, 3) := by decide +kernel
theorem dX7_film_61 : decode cX7_film 61 = .ok (.aload_n 0, 1) := by decide +kernel
theorem dX7_film_62 : decode cX7_film 62 = .ok (.iload_n 1, 1) := by decide +kernel
theorem dX7_film_63 : decode cX7_film 63 = .ok (.iload_n 3, 1) := by decide +kernel
theorem dX7_film_64 : decode cX7_film 64 = .ok (.iload 5, 2) := by decide +kernel
theorem dX7_film_66 : decode cX7_film 66 = .ok (.iadd, 1) := by decide +kernel
theorem dX7_film_67 : decode cX7_film 67 = .ok (.aload_n 0, 1) := by decide +kernel
theorem dX7_film_68 : decode cX7_film 68 = .ok (.getfield 40, 3) := by decide +kernel
theorem dX7_film_71 : decode cX7_film 71 = .ok (.iload 5, 2) := by decide +kernel
theorem dX7_film_73 : decode cX7_film 73 = .ok (.iaload, 1) := by decide +kernel
theorem dX7_film_74 : decode cX7_film 74 = .ok (.i2l, 1) := by decide +kernel
theorem dX7_film_75 : decode cX7_film 75 = .ok (.invokevirtual 242, 3) := by decide +kernel
theorem dX7_film_78 : decode cX7_film 78 = .ok (.iinc 5 1, 3) := by decide +kernel
theorem dX7_film_81 : decode cX7_film 81 = .ok (.goto (-29), 3) := by decide +kernel
theorem dX7_film_84 : decode cX7_film 84 = .ok (.aload_n 0, 1) := by decide +kernel
theorem dX7_film_85 : decode cX7_film 85 = .ok (.getfield 77, 3) := by decide +kernel
theorem dX7_film_88 : decode cX7_film 88 = .ok (.ireturn, 1) := by decide +kernel
theorem dX7_sheet_0 : decode cX7_sheet 0 = .ok (.iload_n 1, 1) := by decide +kernel
theorem dX7_sheet_1 : decode cX7_sheet 1 = .ok (.invokestatic 228, 3) := by decide +kernel
theorem dX7_sheet_4 : decode cX7_sheet 4 = .ok (.ifCond .eq 16, 3) := by decide +kernel
theorem dX7_sheet_7 : decode cX7_sheet 7 = .ok (.iload_n 2, 1) := by decide +kernel
theorem dX7_sheet_8 : decode cX7_sheet 8 = .ok (.invokestatic 231, 3) := by decide +kernel
theorem dX7_sheet_11 : decode cX7_sheet 11 = .ok (.ifCond .eq 9, 3) := by decide +kernel
theorem dX7_sheet_14 : decode cX7_sheet 14 = .ok (.iload_n 3, 1) := by decide +kernel
theorem dX7_sheet_15 : decode cX7_sheet 15 = .ok (.bipush 16, 2) := by decide +kernel
theorem dX7_sheet_17 : decode cX7_sheet 17 = .ok (.if_icmp .le 5, 3) := by decide +kernel
theorem dX7_sheet_20 : decode cX7_sheet 20 = .ok (.iconst (-1), 1) := by decide +kernel
theorem dX7_sheet_21 : decode cX7_sheet 21 = .ok (.ireturn, 1) := by decide +kernel
theorem dX7_sheet_22 : decode cX7_sheet 22 = .ok (.iload_n 3, 1) := by decide +kernel
theorem dX7_sheet_23 : decode cX7_sheet 23 = .ok (.ifCond .ge 6, 3) := by decide +kernel
theorem dX7_sheet_26 : decode cX7_sheet 26 = .ok (.bipush (-14), 2) := by decide +kernel
theorem dX7_sheet_28 : decode cX7_sheet 28 = .ok (.ireturn, 1) := by decide +kernel
theorem dX7_sheet_29 : decode cX7_sheet 29 = .ok (.aload_n 0, 1) := by decide +kernel
theorem dX7_sheet_30 : decode cX7_sheet 30 = .ok (.getfield 64, 3) := by decide +kernel
theorem dX7_sheet_33 : decode cX7_sheet 33 = .ok (.iload_n 1, 1) := by decide +kernel
theorem dX7_sheet_34 : decode cX7_sheet 34 = .ok (.iload_n 2, 1) := by decide +kernel
theorem dX7_sheet_35 : decode cX7_sheet 35 = .ok (.iastore, 1) := by decide +kernel
theorem dX7_sheet_36 : decode cX7_sheet 36 = .ok (.aload_n 0, 1) := by decide +kernel
theorem dX7_sheet_37 : decode cX7_sheet 37 = .ok (.getfield 67, 3) := by decide +kernel
theorem dX7_sheet_40 : decode cX7_sheet 40 = .ok (.iload_n 1, 1) := by decide +kernel
theorem dX7_sheet_41 : decode cX7_sheet 41 = .ok (.iload_n 3, 1) := by decide +kernel
theorem dX7_sheet_42 : decode cX7_sheet 42 = .ok (.iastore, 1) := by decide +kernel
theorem dX7_sheet_43 : decode cX7_sheet 43 = .ok (.iconst 0, 1) := by decide +kernel
theorem dX7_sheet_44 : decode cX7_sheet 44 = .ok (.istore 4, 2) := by decide +kernel
theorem dX7_sheet_46 : decode cX7_sheet 46 = .ok (.iload 4, 2) := by decide +kernel
theorem dX7_sheet_48 : decode cX7_sheet 48 = .ok (.bipush 16, 2) := by decide +kernel
theorem dX7_sheet_50 : decode cX7_sheet 50 = .ok (.if_icmp .ge 22, 3) := by decide +kernel
theorem dX7_sheet_53 : decode cX7_sheet 53 = .ok (.aload_n 0, 1) := by decide +kernel
theorem dX7_sheet_54 : decode cX7_sheet 54 = .ok (.getfield 70, 3) := by decide +kernel
theorem dX7_sheet_57 : decode cX7_sheet 57 = .ok (.bipush 16, 2) := by decide +kernel
theorem dX7_sheet_59 : decode cX7_sheet 59 = .ok (.iload_n 1, 1) := by decide +kernel
theorem dX7_sheet_60 : decode cX7_sheet 60 = .ok (.imul, 1) := by decide +kernel
theorem dX7_sheet_61 : decode cX7_sheet 61 = .ok (.iload 4, 2) := by decide +kernel
theorem dX7_sheet_63 : decode cX7_sheet 63 = .ok (.iadd, 1) := by decide +kernel
theorem dX7_sheet_64 : decode cX7_sheet 64 = .ok (.lconst 0, 1) := by decide +kernel
theorem dX7_sheet_65 : decode cX7_sheet 65 = .ok (.lastore, 1) := by decide +kernel
theorem dX7_sheet_66 : decode cX7_sheet 66 = .ok (.iinc 4 1, 3) := by decide +kernel
theorem dX7_sheet_69 : decode cX7_sheet 69 = .ok (.goto (-23), 3) := by decide +kernel
theorem dX7_sheet_72 : decode cX7_sheet 72 = .ok (.iload_n 3, 1) := by decide +kernel
theorem dX7_sheet_73 : decode cX7_sheet 73 = .ok (.ireturn, 1) := by decide +kernel
theorem dX7_drop_0 : decode cX7_drop 0 = .ok (.iload_n 1, 1) := by decide +kernel
theorem dX7_drop_1 : decode cX7_drop 1 = .ok (.invokestatic 228, 3) := by decide +kernel
theorem dX7_drop_4 : decode cX7_drop 4 = .ok (.ifCond .ne 5, 3) := by decide +kernel
theorem dX7_drop_7 : decode cX7_drop 7 = .ok (.iconst (-1), 1) := by decide +kernel
theorem dX7_drop_8 : decode cX7_drop 8 = .ok (.ireturn, 1) := by decide +kernel
theorem dX7_drop_9 : decode cX7_drop 9 = .ok (.aload_n 0, 1) := by decide +kernel
theorem dX7_drop_10 : decode cX7_drop 10 = .ok (.getfield 64, 3) := by decide +kernel
theorem dX7_drop_13 : decode cX7_drop 13 = .ok (.iload_n 1, 1) := by decide +kernel
theorem dX7_drop_14 : decode cX7_drop 14 = .ok (.iaload, 1) := by decide +kernel
theorem dX7_drop_15 : decode cX7_drop 15 = .ok (.ifCond .ge 6, 3) := by decide +kernel
theorem dX7_drop_18 : decode cX7_drop 18 = .ok (.bipush (-11), 2) := by decide +kernel
theorem dX7_drop_20 : decode cX7_drop 20 = .ok (.ireturn, 1) := by decide +kernel
theorem dX7_drop_21 : decode cX7_drop 21 = .ok (.aload_n 0, 1) := by decide +kernel
theorem dX7_drop_22 : decode cX7_drop 22 = .ok (.getfield 64, 3) := by decide +kernel
theorem dX7_drop_25 : decode cX7_drop 25 = .ok (.iload_n 1, 1) := by decide +kernel
theorem dX7_drop_26 : decode cX7_drop 26 = .ok (.iconst (-1), 1) := by decide +kernel
theorem dX7_drop_27 : decode cX7_drop 27 = .ok (.iastore, 1) := by decide +kernel
theorem dX7_drop_28 : decode cX7_drop 28 = .ok (.aload_n 0, 1) := by decide +kernel
theorem dX7_drop_29 : decode cX7_drop 29 = .ok (.getfield 67, 3) := by decide +kernel
theorem dX7_drop_32 : decode cX7_drop 32 = .ok (.iload_n 1, 1) := by decide +kernel
theorem dX7_drop_33 : decode cX7_drop 33 = .ok (.iaload, 1) := by decide +kernel
theorem dX7_drop_34 : decode cX7_drop 34 = .ok (.ireturn, 1) := by decide +kernel
theorem dX7_item_0 : decode cX7_item 0 = .ok (.iload_n 1, 1) := by decide +kernel
theorem dX7_item_1 : decode cX7_item 1 = .ok (.invokestatic 228, 3) := by decide +kernel
theorem dX7_item_4 : decode cX7_item 4 = .ok (.ifCond .eq 10, 3) := by decide +kernel
theorem dX7_item_7 : decode cX7_item 7 = .ok (.iload_n 2, 1) := by decide +kernel
theorem dX7_item_8 : decode cX7_item 8 = .ok (.invokestatic 231, 3) := by decide +kernel
theorem dX7_item_11 : decode cX7_item 11 = .ok (.ifCond .ne 5, 3) := by decide +kernel
theorem dX7_item_14 : decode cX7_item 14 = .ok (.iconst (-1), 1) := by decide +kernel
theorem dX7_item_15 : decode cX7_item 15 = .ok (.ireturn, 1) := by decide +kernel
theorem dX7_item_16 : decode cX7_item 16 = .ok (.aload_n 0, 1) := by decide +kernel
theorem dX7_item_17 : decode cX7_item 17 = .ok (.iload_n 1, 1) := by decide +kernel
theorem dX7_item_18 : decode cX7_item 18 = .ok (.iload_n 2, 1) := by decide +kernel
theorem dX7_item_19 : decode cX7_item 19 = .ok (.iload_n 3, 1) := by decide +kernel
theorem dX7_item_20 : decode cX7_item 20 = .ok (.iconst 1, 1) := by decide +kernel
theorem dX7_item_21 : decode cX7_item 21 = .ok (.invokevirtual 234, 3) := by decide +kernel
theorem dX7_item_24 : decode cX7_item 24 = .ok (.istore 6, 2) := by decide +kernel
theorem dX7_item_26 : decode cX7_item 26 = .ok (.iload 6, 2) := by decide +kernel
theorem dX7_item_28 : decode cX7_item 28 = .ok (.ifCond .ge 6, 3) := by decide +kernel
theorem dX7_item_31 : decode cX7_item 31 = .ok (.iload 6, 2) := by decide +kernel
theorem dX7_item_33 : decode cX7_item 33 = .ok (.ireturn, 1) := by decide +kernel
theorem dX7_item_34 : decode cX7_item 34 = .ok (.aload_n 0, 1) := by decide +kernel
theorem dX7_item_35 : decode cX7_item 35 = .ok (.iload_n 1, 1) := by decide +kernel
theorem dX7_item_36 : decode cX7_item 36 = .ok (.iload_n 3, 1) := by decide +kernel
theorem dX7_item_37 : decode cX7_item 37 = .ok (.lload 4, 2) := by decide +kernel
theorem dX7_item_39 : decode cX7_item 39 = .ok (.invokevirtual 242, 3) := by decide +kernel
theorem dX7_item_42 : decode cX7_item 42 = .ok (.iconst 1, 1) := by decide +kernel
theorem dX7_item_43 : decode cX7_item 43 = .ok (.ireturn, 1) := by decide +kernel
theorem dX7_copy_0 : decode cX7_copy 0 = .ok (.iload_n 1, 1) := by decide +kernel
theorem dX7_copy_1 : decode cX7_copy 1 = .ok (.invokestatic 228, 3) := by decide +kernel
theorem dX7_copy_4 : decode cX7_copy 4 = .ok (.ifCond .eq 10, 3) := by decide +kernel
theorem dX7_copy_7 : decode cX7_copy 7 = .ok (.iload_n 3, 1) := by decide +kernel
theorem dX7_copy_8 : decode cX7_copy 8 = .ok (.invokestatic 228, 3) := by decide +kernel
theorem dX7_copy_11 : decode cX7_copy 11 = .ok (.ifCond .ne 5, 3) := by decide +kernel
theorem dX7_copy_14 : decode cX7_copy 14 = .ok (.iconst (-1), 1) := by decide +kernel
theorem dX7_copy_15 : decode cX7_copy 15 = .ok (.ireturn, 1) := by decide +kernel
theorem dX7_copy_16 : decode cX7_copy 16 = .ok (.aload_n 0, 1) := by decide +kernel
theorem dX7_copy_17 : decode cX7_copy 17 = .ok (.getfield 64, 3) := by decide +kernel
theorem dX7_copy_20 : decode cX7_copy 20 = .ok (.iload_n 1, 1) := by decide +kernel
theorem dX7_copy_21 : decode cX7_copy 21 = .ok (.iaload, 1) := by decide +kernel
theorem dX7_copy_22 : decode cX7_copy 22 = .ok (.ifCond .lt 12, 3) := by decide +kernel
theorem dX7_copy_25 : decode cX7_copy 25 = .ok (.aload_n 0, 1) := by decide +kernel
theorem dX7_copy_26 : decode cX7_copy 26 = .ok (.getfield 64, 3) := by decide +kernel
theorem dX7_copy_29 : decode cX7_copy 29 = .ok (.iload_n 3, 1) := by decide +kernel
theorem dX7_copy_30 : decode cX7_copy 30 = .ok (.iaload, 1) := by decide +kernel
theorem dX7_copy_31 : decode cX7_copy 31 = .ok (.ifCond .ge 6, 3) := by decide +kernel
theorem dX7_copy_34 : decode cX7_copy 34 = .ok (.bipush (-11), 2) := by decide +kernel
theorem dX7_copy_36 : decode cX7_copy 36 = .ok (.ireturn, 1) := by decide +kernel
theorem dX7_copy_37 : decode cX7_copy 37 = .ok (.aload_n 0, 1) := by decide +kernel
theorem dX7_copy_38 : decode cX7_copy 38 = .ok (.getfield 64, 3) := by decide +kernel
theorem dX7_copy_41 : decode cX7_copy 41 = .ok (.iload_n 1, 1) := by decide +kernel
theorem dX7_copy_42 : decode cX7_copy 42 = .ok (.iaload, 1) := by decide +kernel
theorem dX7_copy_43 : decode cX7_copy 43 = .ok (.aload_n 0, 1) := by decide +kernel
theorem dX7_copy_44 : decode cX7_copy 44 = .ok (.getfield 64, 3) := by decide +kernel
theorem dX7_copy_47 : decode cX7_copy 47 = .ok (.iload_n 3, 1) := by decide +kernel
theorem dX7_copy_48 : decode cX7_copy 48 = .ok (.iaload, 1) := by decide +kernel
theorem dX7_copy_49 : decode cX7_copy 49 = .ok (.if_icmp .eq 6, 3) := by decide +kernel
theorem dX7_copy_52 : decode cX7_copy 52 = .ok (.bipush (-12), 2) := by decide +kernel
theorem dX7_copy_54 : decode cX7_copy 54 = .ok (.ireturn, 1) := by decide +kernel
theorem dX7_copy_55 : decode cX7_copy 55 = .ok (.iload 5, 2) := by decide +kernel
theorem dX7_copy_57 : decode cX7_copy 57 = .ok (.ifCond .lt 38, 3) := by decide +kernel
theorem dX7_copy_60 : decode cX7_copy 60 = .ok (.aload_n 0, 1) := by decide +kernel
theorem dX7_copy_61 : decode cX7_copy 61 = .ok (.iload_n 1, 1) := by decide +kernel
theorem dX7_copy_62 : decode cX7_copy 62 = .ok (.aload_n 0, 1) := by decide +kernel
theorem dX7_copy_63 : decode cX7_copy 63 = .ok (.getfield 64, 3) := by decide +kernel
theorem dX7_copy_66 : decode cX7_copy 66 = .ok (.iload_n 1, 1) := by decide +kernel
theorem dX7_copy_67 : decode cX7_copy 67 = .ok (.iaload, 1) := by decide +kernel
theorem dX7_copy_68 : decode cX7_copy 68 = .ok (.iload_n 2, 1) := by decide +kernel
theorem dX7_copy_69 : decode cX7_copy 69 = .ok (.iload 5, 2) := by decide +kernel
theorem dX7_copy_71 : decode cX7_copy 71 = .ok (.invokevirtual 234, 3) := by decide +kernel
theorem dX7_copy_74 : decode cX7_copy 74 = .ok (.ifCond .lt 21, 3) := by decide +kernel
theorem dX7_copy_77 : decode cX7_copy 77 = .ok (.aload_n 0, 1) := by decide +kernel
theorem dX7_copy_78 : decode cX7_copy 78 = .ok (.iload_n 3, 1) := by decide +kernel
theorem dX7_copy_79 : decode cX7_copy 79 = .ok (.aload_n 0, 1) := by decide +kernel
theorem dX7_copy_80 : decode cX7_copy 80 = .ok (.getfield 64, 3) := by decide +kernel
theorem dX7_copy_83 : decode cX7_copy 83 = .ok (.iload_n 3, 1) := by decide +kernel
theorem dX7_copy_84 : decode cX7_copy 84 = .ok (.iaload, 1) := by decide +kernel
theorem dX7_copy_85 : decode cX7_copy 85 = .ok (.iload 4, 2) := by decide +kernel
theorem dX7_copy_87 : decode cX7_copy 87 = .ok (.iload 5, 2) := by decide +kernel
theorem dX7_copy_89 : decode cX7_copy 89 = .ok (.invokevirtual 234, 3) := by decide +kernel
theorem dX7_copy_92 : decode cX7_copy 92 = .ok (.ifCond .ge 6, 3) := by decide +kernel
theorem dX7_copy_95 : decode cX7_copy 95 = .ok (.bipush (-13), 2) := by decide +kernel
theorem dX7_copy_97 : decode cX7_copy 97 = .ok (.ireturn, 1) := by decide +kernel
theorem dX7_copy_98 : decode cX7_copy 98 = .ok (.iconst 0, 1) := by decide +kernel
theorem dX7_copy_99 : decode cX7_copy 99 = .ok (.istore 6, 2) := by decide +kernel
theorem dX7_copy_101 : decode cX7_copy 101 = .ok (.iload 6, 2) := by decide +kernel
theorem dX7_copy_103 : decode cX7_copy 103 = .ok (.iload 5, 2) := by decide +kernel
theorem dX7_copy_105 : decode cX7_copy 105 = .ok (.if_icmp .ge 30, 3) := by decide +kernel
theorem dX7_copy_108 : decode cX7_copy 108 = .ok (.aload_n 0, 1) := by decide +kernel
theorem dX7_copy_109 : decode cX7_copy 109 = .ok (.getfield 74, 3) := by decide +kernel
theorem dX7_copy_112 : decode cX7_copy 112 = .ok (.iload 6, 2) := by decide +kernel
theorem dX7_copy_114 : decode cX7_copy 114 = .ok (.aload_n 0, 1) := by decide +kernel
theorem dX7_copy_115 : decode cX7_copy 115 = .ok (.getfield 70, 3) := by decide +kernel
theorem dX7_copy_118 : decode cX7_copy 118 = .ok (.bipush 16, 2) := by decide +kernel
theorem dX7_copy_120 : decode cX7_copy 120 = .ok (.iload_n 1, 1) := by decide +kernel
theorem dX7_copy_121 : decode cX7_copy 121 = .ok (.imul, 1) := by decide +kernel
theorem dX7_copy_122 : decode cX7_copy 122 = .ok (.iload_n 2, 1) := by decide +kernel
theorem dX7_copy_123 : decode cX7_copy 123 = .ok (.iadd, 1) := by decide +kernel
theorem dX7_copy_124 : decode cX7_copy 124 = .ok (.iload 6, 2) := by decide +kernel
theorem dX7_copy_126 : decode cX7_copy 126 = .ok (.iadd, 1) := by decide +kernel
theorem dX7_copy_127 : decode cX7_copy 127 = .ok (.laload, 1) := by decide +kernel
theorem dX7_copy_128 : decode cX7_copy 128 = .ok (.lastore, 1) := by decide +kernel
theorem dX7_copy_129 : decode cX7_copy 129 = .ok (.iinc 6 1, 3) := by decide +kernel
theorem dX7_copy_132 : decode cX7_copy 132 = .ok (.goto (-31), 3) := by decide +kernel
theorem dX7_copy_135 : decode cX7_copy 135 = .ok (.iconst 0, 1) := by decide +kernel
theorem dX7_copy_136 : decode cX7_copy 136 = .ok (.istore 6, 2) := by decide +kernel
theorem dX7_copy_138 : decode cX7_copy 138 = .ok (.iload 6, 2) := by decide +kernel
theorem dX7_copy_140 : decode cX7_copy 140 = .ok (.iload 5, 2) := by decide +kernel
theorem dX7_copy_142 : decode cX7_copy 142 = .ok (.if_icmp .ge 31, 3) := by decide +kernel
theorem dX7_copy_145 : decode cX7_copy 145 = .ok (.aload_n 0, 1) := by decide +kernel
theorem dX7_copy_146 : decode cX7_copy 146 = .ok (.getfield 70, 3) := by decide +kernel
theorem dX7_copy_149 : decode cX7_copy 149 = .ok (.bipush 16, 2) := by decide +kernel
theorem dX7_copy_151 : decode cX7_copy 151 = .ok (.iload_n 3, 1) := by decide +kernel
theorem dX7_copy_152 : decode cX7_copy 152 = .ok (.imul, 1) := by decide +kernel
theorem dX7_copy_153 : decode cX7_copy 153 = .ok (.iload 4, 2) := by decide +kernel
theorem dX7_copy_155 : decode cX7_copy 155 = .ok (.iadd, 1) := by decide +kernel
theorem dX7_copy_156 : decode cX7_copy 156 = .ok (.iload 6, 2) := by decide +kernel
theorem dX7_copy_158 : decode cX7_copy 158 = .ok (.iadd, 1) := by decide +kernel
theorem dX7_copy_159 : decode cX7_copy 159 = .ok (.aload_n 0, 1) := by decide +kernel
theorem dX7_copy_160 : decode cX7_copy 160 = .ok (.getfield 74, 3) := by decide +kernel
theorem dX7_copy_163 : decode cX7_copy 163 = .ok (.iload 6, 2) := by decide +kernel
theorem dX7_copy_165 : decode cX7_copy 165 = .ok (.laload, 1) := by decide +kernel
theorem dX7_copy_166 : decode cX7_copy 166 = .ok (.lastore, 1) := by decide +kernel
theorem dX7_copy_167 : decode cX7_copy 167 = .ok (.iinc 6 1, 3) := by decide +kernel
theorem dX7_copy_170 : decode cX7_copy 170 = .ok (.goto (-32), 3) := by decide +kernel
theorem dX7_copy_173 : decode cX7_copy 173 = .ok (.iload 5, 2) := by decide +kernel
theorem dX7_copy_175 : decode cX7_copy 175 = .ok (.ireturn, 1) := by decide +kernel
