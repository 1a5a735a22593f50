theorem dX7_init_0 : decode cX7_init 0 = .ok (.aload_n 0, 1) := by decide +kernel
theorem dX7_init_1 : decode cX7_init 1 = .ok (.invokespecial 1, 3) := by decide +kernel
theorem dX7_init_4 : decode cX7_init 4 = .ok (.aload_n 0, 1) := by decide +kernel
theorem dX7_init_5 : decode cX7_init 5 = .ok (.bipush 12, 2) := by decide +kernel
theorem dX7_init_7 : decode cX7_init 7 = .ok (.newarray .int, 2) := by decide +kernel
theorem dX7_init_9 : decode cX7_init 9 = .ok (.putfield 7, 3) := by decide +kernel
theorem dX7_init_12 : decode cX7_init 12 = .ok (.aload_n 0, 1) := by decide +kernel
theorem dX7_init_13 : decode cX7_init 13 = .ok (.sipush 4800, 3) := by decide +kernel
theorem dX7_init_16 : decode cX7_init 16 = .ok (.newarray .int, 2) := by decide +kernel
theorem dX7_init_18 : decode cX7_init 18 = .ok (.putfield 13, 3) := by decide +kernel
theorem dX7_init_21 : decode cX7_init 21 = .ok (.aload_n 0, 1) := by decide +kernel
theorem dX7_init_22 : decode cX7_init 22 = .ok (.sipush 4800, 3) := by decide +kernel
theorem dX7_init_25 : decode cX7_init 25 = .ok (.newarray .int, 2) := by decide +kernel
theorem dX7_init_27 : decode cX7_init 27 = .ok (.putfield 16, 3) := by decide +kernel
theorem dX7_init_30 : decode cX7_init 30 = .ok (.aload_n 0, 1) := by decide +kernel
theorem dX7_init_31 : decode cX7_init 31 = .ok (.sipush 4800, 3) := by decide +kernel
theorem dX7_init_34 : decode cX7_init 34 = .ok (.newarray .int, 2) := by decide +kernel
theorem dX7_init_36 : decode cX7_init 36 = .ok (.putfield 19, 3) := by decide +kernel
theorem dX7_init_39 : decode cX7_init 39 = .ok (.aload_n 0, 1) := by decide +kernel
theorem dX7_init_40 : decode cX7_init 40 = .ok (.sipush 4800, 3) := by decide +kernel
theorem dX7_init_43 : decode cX7_init 43 = .ok (.newarray .int, 2) := by decide +kernel
theorem dX7_init_45 : decode cX7_init 45 = .ok (.putfield 22, 3) := by decide +kernel
theorem dX7_init_48 : decode cX7_init 48 = .ok (.aload_n 0, 1) := by decide +kernel
theorem dX7_init_49 : decode cX7_init 49 = .ok (.bipush 16, 2) := by decide +kernel
theorem dX7_init_51 : decode cX7_init 51 = .ok (.newarray .int, 2) := by decide +kernel
theorem dX7_init_53 : decode cX7_init 53 = .ok (.putfield 25, 3) := by decide +kernel
theorem dX7_init_56 : decode cX7_init 56 = .ok (.aload_n 0, 1) := by decide +kernel
theorem dX7_init_57 : decode cX7_init 57 = .ok (.bipush 16, 2) := by decide +kernel
theorem dX7_init_59 : decode cX7_init 59 = .ok (.newarray .int, 2) := by decide +kernel
theorem dX7_init_61 : decode cX7_init 61 = .ok (.putfield 28, 3) := by decide +kernel
theorem dX7_init_64 : decode cX7_init 64 = .ok (.aload_n 0, 1) := by decide +kernel
theorem dX7_init_65 : decode cX7_init 65 = .ok (.bipush 16, 2) := by decide +kernel
theorem dX7_init_67 : decode cX7_init 67 = .ok (.newarray .int, 2) := by decide +kernel
theorem dX7_init_69 : decode cX7_init 69 = .ok (.putfield 31, 3) := by decide +kernel
theorem dX7_init_72 : decode cX7_init 72 = .ok (.aload_n 0, 1) := by decide +kernel
theorem dX7_init_73 : decode cX7_init 73 = .ok (.bipush 16, 2) := by decide +kernel
theorem dX7_init_75 : decode cX7_init 75 = .ok (.newarray .int, 2) := by decide +kernel
theorem dX7_init_77 : decode cX7_init 77 = .ok (.putfield 34, 3) := by decide +kernel
theorem dX7_init_80 : decode cX7_init 80 = .ok (.aload_n 0, 1) := by decide +kernel
theorem dX7_init_81 : decode cX7_init 81 = .ok (.bipush 16, 2) := by decide +kernel
theorem dX7_init_83 : decode cX7_init 83 = .ok (.newarray .int, 2) := by decide +kernel
theorem dX7_init_85 : decode cX7_init 85 = .ok (.putfield 37, 3) := by decide +kernel
theorem dX7_init_88 : decode cX7_init 88 = .ok (.aload_n 0, 1) := by decide +kernel
theorem dX7_init_89 : decode cX7_init 89 = .ok (.bipush 48, 2) := by decide +kernel
theorem dX7_init_91 : decode cX7_init 91 = .ok (.newarray .int, 2) := by decide +kernel
theorem dX7_init_93 : decode cX7_init 93 = .ok (.putfield 40, 3) := by decide +kernel
theorem dX7_init_96 : decode cX7_init 96 = .ok (.aload_n 0, 1) := by decide +kernel
theorem dX7_init_97 : decode cX7_init 97 = .ok (.sipush 2880, 3) := by decide +kernel
theorem dX7_init_100 : decode cX7_init 100 = .ok (.newarray .int, 2) := by decide +kernel
theorem dX7_init_102 : decode cX7_init 102 = .ok (.putfield 43, 3) := by decide +kernel
theorem dX7_init_105 : decode cX7_init 105 = .ok (.aload_n 0, 1) := by decide +kernel
theorem dX7_init_106 : decode cX7_init 106 = .ok (.bipush 48, 2) := by decide +kernel
theorem dX7_init_108 : decode cX7_init 108 = .ok (.newarray .int, 2) := by decide +kernel
theorem dX7_init_110 : decode cX7_init 110 = .ok (.putfield 46, 3) := by decide +kernel
theorem dX7_init_113 : decode cX7_init 113 = .ok (.aload_n 0, 1) := by decide +kernel
theorem dX7_init_114 : decode cX7_init 114 = .ok (.sipush 384, 3) := by decide +kernel
theorem dX7_init_117 : decode cX7_init 117 = .ok (.newarray .int, 2) := by decide +kernel
theorem dX7_init_119 : decode cX7_init 119 = .ok (.putfield 49, 3) := by decide +kernel
theorem dX7_init_122 : decode cX7_init 122 = .ok (.aload_n 0, 1) := by decide +kernel
theorem dX7_init_123 : decode cX7_init 123 = .ok (.iconst 2, 1) := by decide +kernel
theorem dX7_init_124 : decode cX7_init 124 = .ok (.newarray .int, 2) := by decide +kernel
theorem dX7_init_126 : decode cX7_init 126 = .ok (.putfield 52, 3) := by decide +kernel
theorem dX7_init_129 : decode cX7_init 129 = .ok (.aload_n 0, 1) := by decide +kernel
theorem dX7_init_130 : decode cX7_init 130 = .ok (.bipush 18, 2) := by decide +kernel
theorem dX7_init_132 : decode cX7_init 132 = .ok (.newarray .int, 2) := by decide +kernel
theorem dX7_init_134 : decode cX7_init 134 = .ok (.putfield 55, 3) := by decide +kernel
theorem dX7_init_137 : decode cX7_init 137 = .ok (.aload_n 0, 1) := by decide +kernel
theorem dX7_init_138 : decode cX7_init 138 = .ok (.sipush 1080, 3) := by decide +kernel
theorem dX7_init_141 : decode cX7_init 141 = .ok (.newarray .int, 2) := by decide +kernel
theorem dX7_init_143 : decode cX7_init 143 = .ok (.putfield 58, 3) := by decide +kernel
theorem dX7_init_146 : decode cX7_init 146 = .ok (.aload_n 0, 1) := by decide +kernel
theorem dX7_init_147 : decode cX7_init 147 = .ok (.bipush 18, 2) := by decide +kernel
theorem dX7_init_149 : decode cX7_init 149 = .ok (.newarray .int, 2) := by decide +kernel
theorem dX7_init_151 : decode cX7_init 151 = .ok (.putfield 61, 3) := by decide +kernel
theorem dX7_init_154 : decode cX7_init 154 = .ok (.aload_n 0, 1) := by decide +kernel
theorem dX7_init_155 : decode cX7_init 155 = .ok (.sipush 1080, 3) := by decide +kernel
theorem dX7_init_158 : decode cX7_init 158 = .ok (.newarray .int, 2) := by decide +kernel
theorem dX7_init_160 : decode cX7_init 160 = .ok (.putfield 64, 3) := by decide +kernel
theorem dX7_init_163 : decode cX7_init 163 = .ok (.aload_n 0, 1) := by decide +kernel
theorem dX7_init_164 : decode cX7_init 164 = .ok (.bipush 18, 2) := by decide +kernel
theorem dX7_init_166 : decode cX7_init 166 = .ok (.newarray .int, 2) := by decide +kernel
theorem dX7_init_168 : decode cX7_init 168 = .ok (.putfield 67, 3) := by decide +kernel
theorem dX7_init_171 : decode cX7_init 171 = .ok (.aload_n 0, 1) := by decide +kernel
theorem dX7_init_172 : decode cX7_init 172 = .ok (.bipush 32, 2) := by decide +kernel
theorem dX7_init_174 : decode cX7_init 174 = .ok (.putfield 70, 3) := by decide +kernel
theorem dX7_init_177 : decode cX7_init 177 = .ok (.aload_n 0, 1) := by decide +kernel
theorem dX7_init_178 : decode cX7_init 178 = .ok (.bipush 15, 2) := by decide +kernel
theorem dX7_init_180 : decode cX7_init 180 = .ok (.putfield 74, 3) := by decide +kernel
theorem dX7_init_183 : decode cX7_init 183 = .ok (.aload_n 0, 1) := by decide +kernel
theorem dX7_init_184 : decode cX7_init 184 = .ok (.bipush 64, 2) := by decide +kernel
theorem dX7_init_186 : decode cX7_init 186 = .ok (.newarray .int, 2) := by decide +kernel
theorem dX7_init_188 : decode cX7_init 188 = .ok (.putfield 77, 3) := by decide +kernel
theorem dX7_init_191 : decode cX7_init 191 = .ok (.aload_n 0, 1) := by decide +kernel
theorem dX7_init_192 : decode cX7_init 192 = .ok (.bipush 64, 2) := by decide +kernel
theorem dX7_init_194 : decode cX7_init 194 = .ok (.newarray .int, 2) := by decide +kernel
theorem dX7_init_196 : decode cX7_init 196 = .ok (.putfield 80, 3) := by decide +kernel
theorem dX7_init_199 : decode cX7_init 199 = .ok (.aload_n 0, 1) := by decide +kernel
theorem dX7_init_200 : decode cX7_init 200 = .ok (.sipush 6000, 3) := by decide +kernel
theorem dX7_init_203 : decode cX7_init 203 = .ok (.newarray .char, 2) := by decide +kernel
theorem dX7_init_205 : decode cX7_init 205 = .ok (.putfield 83, 3) := by decide +kernel
theorem dX7_init_208 : decode cX7_init 208 = .ok (.return_, 1) := by decide +kernel
theorem dX7_thrown_0 : decode cX7_thrown 0 = .ok (.aload_n 0, 1) := by decide +kernel
theorem dX7_thrown_1 : decode cX7_thrown 1 = .ok (.getfield 87, 3) := by decide +kernel
theorem dX7_thrown_4 : decode cX7_thrown 4 = .ok (.ireturn, 1) := by decide +kernel
theorem dX7_in_0 : decode cX7_in 0 = .ok (.iload_n 0, 1) := by decide +kernel
theorem dX7_in_1 : decode cX7_in 1 = .ok (.iload_n 1, 1) := by decide +kernel
theorem dX7_in_2 : decode cX7_in 2 = .ok (.if_icmp .lt 12, 3) := by decide +kernel
theorem dX7_in_5 : decode cX7_in 5 = .ok (.iload_n 0, 1) := by decide +kernel
theorem dX7_in_6 : decode cX7_in 6 = .ok (.iload_n 2, 1) := by decide +kernel
theorem dX7_in_7 : decode cX7_in 7 = .ok (.if_icmp .gt 7, 3) := by decide +kernel
theorem dX7_in_10 : decode cX7_in 10 = .ok (.iconst 1, 1) := by decide +kernel
theorem dX7_in_11 : decode cX7_in 11 = .ok (.goto 4, 3) := by decide +kernel
theorem dX7_in_14 : decode cX7_in 14 = .ok (.iconst 0, 1) := by decide +kernel
theorem dX7_in_15 : decode cX7_in 15 = .ok (.ireturn, 1) := by decide +kernel
theorem dX7_isFrame_0 : decode cX7_isFrame 0 = .ok (.iload_n 1, 1) := by decide +kernel
theorem dX7_isFrame_1 : decode cX7_isFrame 1 = .ok (.iconst 0, 1) := by decide +kernel
theorem dX7_isFrame_2 : decode cX7_isFrame 2 = .ok (.aload_n 0, 1) := by decide +kernel
theorem dX7_isFrame_3 : decode cX7_isFrame 3 = .ok (.getfield 90, 3) := by decide +kernel
theorem dX7_isFrame_6 : decode cX7_isFrame 6 = .ok (.iconst 1, 1) := by decide +kernel
theorem dX7_isFrame_7 : decode cX7_isFrame 7 = .ok (.isub, 1) := by decide +kernel
theorem dX7_isFrame_8 : decode cX7_isFrame 8 = .ok (.invokestatic 93, 3) := by decide +kernel
theorem dX7_isFrame_11 : decode cX7_isFrame 11 = .ok (.ifCond .eq 23, 3) := by decide +kernel
theorem dX7_isFrame_14 : decode cX7_isFrame 14 = .ok (.iload_n 2, 1) := by decide +kernel
theorem dX7_isFrame_15 : decode cX7_isFrame 15 = .ok (.iconst 0, 1) := by decide +kernel
theorem dX7_isFrame_16 : decode cX7_isFrame 16 = .ok (.aload_n 0, 1) := by decide +kernel
theorem dX7_isFrame_17 : decode cX7_isFrame 17 = .ok (.getfield 7, 3) := by decide +kernel
theorem dX7_isFrame_20 : decode cX7_isFrame 20 = .ok (.iload_n 1, 1) := by decide +kernel
theorem dX7_isFrame_21 : decode cX7_isFrame 21 = .ok (.iaload, 1) := by decide +kernel
theorem dX7_isFrame_22 : decode cX7_isFrame 22 = .ok (.iconst 1, 1) := by decide +kernel
theorem dX7_isFrame_23 : decode cX7_isFrame 23 = .ok (.isub, 1) := by decide +kernel
theorem dX7_isFrame_24 : decode cX7_isFrame 24 = .ok (.invokestatic 93, 3) := by decide +kernel
theorem dX7_isFrame_27 : decode cX7_isFrame 27 = .ok (.ifCond .eq 7, 3) := by decide +kernel
theorem dX7_isFrame_30 : decode cX7_isFrame 30 = .ok (.iconst 1, 1) := by decide +kernel
theorem dX7_isFrame_31 : decode cX7_isFrame 31 = .ok (.goto 4, 3) := by decide +kernel
theorem dX7_isFrame_34 : decode cX7_isFrame 34 = .ok (.iconst 0, 1) := by decide +kernel
theorem dX7_isFrame_35 : decode cX7_isFrame 35 = .ok (.ireturn, 1) := by decide +kernel
theorem dX7_isPlace_0 : decode cX7_isPlace 0 = .ok (.iload_n 1, 1) := by decide +kernel
theorem dX7_isPlace_1 : decode cX7_isPlace 1 = .ok (.iconst 0, 1) := by decide +kernel
theorem dX7_isPlace_2 : decode cX7_isPlace 2 = .ok (.aload_n 0, 1) := by decide +kernel
theorem dX7_isPlace_3 : decode cX7_isPlace 3 = .ok (.getfield 97, 3) := by decide +kernel
theorem dX7_isPlace_6 : decode cX7_isPlace 6 = .ok (.iconst 1, 1) := by decide +kernel
theorem dX7_isPlace_7 : decode cX7_isPlace 7 = .ok (.isub, 1) := by decide +kernel
theorem dX7_isPlace_8 : decode cX7_isPlace 8 = .ok (.invokestatic 93, 3) := by decide +kernel
theorem dX7_isPlace_11 : decode cX7_isPlace 11 = .ok (.ireturn, 1) := by decide +kernel
theorem dX7_isCaption_0 : decode cX7_isCaption 0 = .ok (.iload_n 1, 1) := by decide +kernel
theorem dX7_isCaption_1 : decode cX7_isCaption 1 = .ok (.iconst 0, 1) := by decide +kernel
theorem dX7_isCaption_2 : decode cX7_isCaption 2 = .ok (.aload_n 0, 1) := by decide +kernel
theorem dX7_isCaption_3 : decode cX7_isCaption 3 = .ok (.getfield 100, 3) := by decide +kernel
theorem dX7_isCaption_6 : decode cX7_isCaption 6 = .ok (.iconst 1, 1) := by decide +kernel
theorem dX7_isCaption_7 : decode cX7_isCaption 7 = .ok (.isub, 1) := by decide +kernel
theorem dX7_isCaption_8 : decode cX7_isCaption 8 = .ok (.invokestatic 93, 3) := by decide +kernel
theorem dX7_isCaption_11 : decode cX7_isCaption 11 = .ok (.ireturn, 1) := by decide +kernel
theorem dX7_isText_0 : decode cX7_isText 0 = .ok (.aload_n 0, 1) := by decide +kernel
theorem dX7_isText_1 : decode cX7_isText 1 = .ok (.iload_n 1, 1) := by decide +kernel
theorem dX7_isText_2 : decode cX7_isText 2 = .ok (.invokevirtual 103, 3) := by decide +kernel
theorem dX7_isText_5 : decode cX7_isText 5 = .ok (.ifCond .eq 16, 3) := by decide +kernel
theorem dX7_isText_8 : decode cX7_isText 8 = .ok (.iload_n 2, 1) := by decide +kernel
theorem dX7_isText_9 : decode cX7_isText 9 = .ok (.iconst 0, 1) := by decide +kernel
theorem dX7_isText_10 : decode cX7_isText 10 = .ok (.iconst 2, 1) := by decide +kernel
theorem dX7_isText_11 : decode cX7_isText 11 = .ok (.invokestatic 93, 3) := by decide +kernel
theorem dX7_isText_14 : decode cX7_isText 14 = .ok (.ifCond .eq 7, 3) := by decide +kernel
theorem dX7_isText_17 : decode cX7_isText 17 = .ok (.iconst 1, 1) := by decide +kernel
theorem dX7_isText_18 : decode cX7_isText 18 = .ok (.goto 4, 3) := by decide +kernel
theorem dX7_isText_21 : decode cX7_isText 21 = .ok (.iconst 0, 1) := by decide +kernel
theorem dX7_isText_22 : decode cX7_isText 22 = .ok (.ireturn, 1) := by decide +kernel
theorem dX7_findsPlaces_0 : decode cX7_findsPlaces 0 = .ok (.iconst 0, 1) := by decide +kernel
theorem dX7_findsPlaces_1 : decode cX7_findsPlaces 1 = .ok (.istore_n 1, 1) := by decide +kernel
theorem dX7_findsPlaces_2 : decode cX7_findsPlaces 2 = .ok (.iload_n 1, 1) := by decide +kernel
theorem dX7_findsPlaces_3 : decode cX7_findsPlaces 3 = .ok (.sipush 400, 3) := by decide +kernel
theorem dX7_findsPlaces_6 : decode cX7_findsPlaces 6 = .ok (.aload_n 0, 1) := by decide +kernel
theorem dX7_findsPlaces_7 : decode cX7_findsPlaces 7 = .ok (.getfield 90, 3) := by decide +kernel
theorem dX7_findsPlaces_10 : decode cX7_findsPlaces 10 = .ok (.imul, 1) := by decide +kernel
theorem dX7_findsPlaces_11 : decode cX7_findsPlaces 11 = .ok (.if_icmp .ge 16, 3) := by decide +kernel
theorem dX7_findsPlaces_14 : decode cX7_findsPlaces 14 = .ok (.aload_n 0, 1) := by decide +kernel
theorem dX7_findsPlaces_15 : decode cX7_findsPlaces 15 = .ok (.getfield 13, 3) := by decide +kernel
theorem dX7_findsPlaces_18 : decode cX7_findsPlaces 18 = .ok (.iload_n 1, 1) := by decide +kernel
theorem dX7_findsPlaces_19 : decode cX7_findsPlaces 19 = .ok (.iconst (-1), 1) := by decide +kernel
theorem dX7_findsPlaces_20 : decode cX7_findsPlaces 20 = .ok (.iastore, 1) := by decide +kernel
theorem dX7_findsPlaces_21 : decode cX7_findsPlaces 21 = .ok (.iinc 1 1, 3) := by decide +kernel
theorem dX7_findsPlaces_24 : decode cX7_findsPlaces 24 = .ok (.goto (-22), 3) := by decide +kernel
theorem dX7_findsPlaces_27 : decode cX7_findsPlaces 27 = .ok (.iconst 0, 1) := by decide +kernel
theorem dX7_findsPlaces_28 : decode cX7_findsPlaces 28 = .ok (.istore_n 1, 1) := by decide +kernel
theorem dX7_findsPlaces_29 : decode cX7_findsPlaces 29 = .ok (.iload_n 1, 1) := by decide +kernel
theorem dX7_findsPlaces_30 : decode cX7_findsPlaces 30 = .ok (.aload_n 0, 1) := by decide +kernel
theorem dX7_findsPlaces_31 : decode cX7_findsPlaces 31 = .ok (.getfield 97, 3) := by decide +kernel
theorem dX7_findsPlaces_34 : decode cX7_findsPlaces 34 = .ok (.if_icmp .ge 21, 3) := by decide +kernel
theorem dX7_findsPlaces_37 : decode cX7_findsPlaces 37 = .ok (.aload_n 0, 1) := by decide +kernel
theorem dX7_findsPlaces_38 : decode cX7_findsPlaces 38 = .ok (.getfield 13, 3) := by decide +kernel
theorem dX7_findsPlaces_41 : decode cX7_findsPlaces 41 = .ok (.aload_n 0, 1) := by decide +kernel
theorem dX7_findsPlaces_42 : decode cX7_findsPlaces 42 = .ok (.getfield 19, 3) := by decide +kernel
theorem dX7_findsPlaces_45 : decode cX7_findsPlaces 45 = .ok (.iload_n 1, 1) := by decide +kernel
theorem dX7_findsPlaces_46 : decode cX7_findsPlaces 46 = .ok (.iaload, 1) := by decide +kernel
theorem dX7_findsPlaces_47 : decode cX7_findsPlaces 47 = .ok (.iload_n 1, 1) := by decide +kernel
theorem dX7_findsPlaces_48 : decode cX7_findsPlaces 48 = .ok (.iastore, 1) := by decide +kernel
theorem dX7_findsPlaces_49 : decode cX7_findsPlaces 49 = .ok (.iinc 1 1, 3) := by decide +kernel
theorem dX7_findsPlaces_52 : decode cX7_findsPlaces 52 = .ok (.goto (-23), 3) := by decide +kernel
theorem dX7_findsPlaces_55 : decode cX7_findsPlaces 55 = .ok (.return_, 1) := by decide +kernel
theorem dX7_findsTime_0 : decode cX7_findsTime 0 = .ok (.aload_n 0, 1) := by decide +kernel
theorem dX7_findsTime_1 : decode cX7_findsTime 1 = .ok (.getfield 28, 3) := by decide +kernel
theorem dX7_findsTime_4 : decode cX7_findsTime 4 = .ok (.iload_n 1, 1) := by decide +kernel
theorem dX7_findsTime_5 : decode cX7_findsTime 5 = .ok (.iconst (-1), 1) := by decide +kernel
theorem dX7_findsTime_6 : decode cX7_findsTime 6 = .ok (.iastore, 1) := by decide +kernel
theorem dX7_findsTime_7 : decode cX7_findsTime 7 = .ok (.aload_n 0, 1) := by decide +kernel
theorem dX7_findsTime_8 : decode cX7_findsTime 8 = .ok (.getfield 31, 3) := by decide +kernel
theorem dX7_findsTime_11 : decode cX7_findsTime 11 = .ok (.iload_n 1, 1) := by decide +kernel
theorem dX7_findsTime_12 : decode cX7_findsTime 12 = .ok (.iconst 0, 1) := by decide +kernel
theorem dX7_findsTime_13 : decode cX7_findsTime 13 = .ok (.iastore, 1) := by decide +kernel
theorem dX7_findsTime_14 : decode cX7_findsTime 14 = .ok (.iconst 0, 1) := by decide +kernel
theorem dX7_findsTime_15 : decode cX7_findsTime 15 = .ok (.istore_n 2, 1) := by decide +kernel
theorem dX7_findsTime_16 : decode cX7_findsTime 16 = .ok (.iconst 0, 1) := by decide +kernel
theorem dX7_findsTime_17 : decode cX7_findsTime 17 = .ok (.istore_n 3, 1) := by decide +kernel
theorem dX7_findsTime_18 : decode cX7_findsTime 18 = .ok (.iload_n 3, 1) := by decide +kernel
theorem dX7_findsTime_19 : decode cX7_findsTime 19 = .ok (.aload_n 0, 1) := by decide +kernel
theorem dX7_findsTime_20 : decode cX7_findsTime 20 = .ok (.getfield 97, 3) := by decide +kernel
theorem dX7_findsTime_23 : decode cX7_findsTime 23 = .ok (.if_icmp .ge 64, 3) := by decide +kernel
theorem dX7_findsTime_26 : decode cX7_findsTime 26 = .ok (.aload_n 0, 1) := by decide +kernel
theorem dX7_findsTime_27 : decode cX7_findsTime 27 = .ok (.getfield 16, 3) := by decide +kernel
theorem dX7_findsTime_30 : decode cX7_findsTime 30 = .ok (.aload_n 0, 1) := by decide +kernel
theorem dX7_findsTime_31 : decode cX7_findsTime 31 = .ok (.getfield 19, 3) := by decide +kernel
theorem dX7_findsTime_34 : decode cX7_findsTime 34 = .ok (.iload_n 3, 1) := by decide +kernel
theorem dX7_findsTime_35 : decode cX7_findsTime 35 = .ok (.iaload, 1) := by decide +kernel
theorem dX7_findsTime_36 : decode cX7_findsTime 36 = .ok (.iaload, 1) := by decide +kernel
theorem dX7_findsTime_37 : decode cX7_findsTime 37 = .ok (.iload_n 1, 1) := by decide +kernel
theorem dX7_findsTime_38 : decode cX7_findsTime 38 = .ok (.ishr, 1) := by decide +kernel
theorem dX7_findsTime_39 : decode cX7_findsTime 39 = .ok (.iconst 1, 1) := by decide +kernel
theorem dX7_findsTime_40 : decode cX7_findsTime 40 = .ok (.iand, 1) := by decide +kernel
theorem dX7_findsTime_41 : decode cX7_findsTime 41 = .ok (.iconst 1, 1) := by decide +kernel
theorem dX7_findsTime_42 : decode cX7_findsTime 42 = .ok (.if_icmp .ne 9, 3) := by decide +kernel
theorem dX7_findsTime_45 : decode cX7_findsTime 45 = .ok (.iload_n 2, 1) := by decide +kernel
theorem dX7_findsTime_46 : decode cX7_findsTime 46 = .ok (.iconst 1, 1) := by decide +kernel
theorem dX7_findsTime_47 : decode cX7_findsTime 47 = .ok (.iadd, 1) := by decide +kernel
theorem dX7_findsTime_48 : decode cX7_findsTime 48 = .ok (.goto 4, 3) := by decide +kernel
theorem dX7_findsTime_51 : decode cX7_findsTime 51 = .ok (.iconst 0, 1) := by decide +kernel
theorem dX7_findsTime_52 : decode cX7_findsTime 52 = .ok (.istore_n 2, 1) := by decide +kernel
theorem dX7_findsTime_53 : decode cX7_findsTime 53 = .ok (.iload_n 2, 1) := by decide +kernel
theorem dX7_findsTime_54 : decode cX7_findsTime 54 = .ok (.aload_n 0, 1) := by decide +kernel
theorem dX7_findsTime_55 : decode cX7_findsTime 55 = .ok (.getfield 31, 3) := by decide +kernel
theorem dX7_findsTime_58 : decode cX7_findsTime 58 = .ok (.iload_n 1, 1) := by decide +kernel
theorem dX7_findsTime_59 : decode cX7_findsTime 59 = .ok (.iaload, 1) := by decide +kernel
theorem dX7_findsTime_60 : decode cX7_findsTime 60 = .ok (.if_icmp .le 21, 3) := by decide +kernel
theorem dX7_findsTime_63 : decode cX7_findsTime 63 = .ok (.aload_n 0, 1) := by decide +kernel
theorem dX7_findsTime_64 : decode cX7_findsTime 64 = .ok (.getfield 31, 3) := by decide +kernel
theorem dX7_findsTime_67 : decode cX7_findsTime 67 = .ok (.iload_n 1, 1) := by decide +kernel
theorem dX7_findsTime_68 : decode cX7_findsTime 68 = .ok (.iload_n 2, 1) := by decide +kernel
theorem dX7_findsTime_69 : decode cX7_findsTime 69 = .ok (.iastore, 1) := by decide +kernel
theorem dX7_findsTime_70 : decode cX7_findsTime 70 = .ok (.aload_n 0, 1) := by decide +kernel
theorem dX7_findsTime_71 : decode cX7_findsTime 71 = .ok (.getfield 28, 3) := by decide +kernel
theorem dX7_findsTime_74 : decode cX7_findsTime 74 = .ok (.iload_n 1, 1) := by decide +kernel
theorem dX7_findsTime_75 : decode cX7_findsTime 75 = .ok (.iload_n 3, 1) := by decide +kernel
theorem dX7_findsTime_76 : decode cX7_findsTime 76 = .ok (.iload_n 2, 1) := by decide +kernel
theorem dX7_findsTime_77 : decode cX7_findsTime 77 = .ok (.isub, 1) := by decide +kernel
theorem dX7_findsTime_78 : decode cX7_findsTime 78 = .ok (.iconst 1, 1) := by decide +kernel
theorem dX7_findsTime_79 : decode cX7_findsTime 79 = .ok (.iadd, 1) := by decide +kernel
theorem dX7_findsTime_80 : decode cX7_findsTime 80 = .ok (.iastore, 1) := by decide +kernel
theorem dX7_findsTime_81 : decode cX7_findsTime 81 = .ok (.iinc 3 1, 3) := by decide +kernel
theorem dX7_findsTime_84 : decode cX7_findsTime 84 = .ok (.goto (-66), 3) := by decide +kernel
theorem dX7_findsTime_87 : decode cX7_findsTime 87 = .ok (.return_, 1) := by decide +kernel
theorem dX7_settles_0 : decode cX7_settles 0 = .ok (.aload_n 0, 1) := by decide +kernel
theorem dX7_settles_1 : decode cX7_settles 1 = .ok (.invokevirtual 107, 3) := by decide +kernel
theorem dX7_settles_4 : decode cX7_settles 4 = .ok (.iconst 0, 1) := by decide +kernel
theorem dX7_settles_5 : decode cX7_settles 5 = .ok (.istore_n 1, 1) := by decide +kernel
theorem dX7_settles_6 : decode cX7_settles 6 = .ok (.iload_n 1, 1) := by decide +kernel
theorem dX7_settles_7 : decode cX7_settles 7 = .ok (.aload_n 0, 1) := by decide +kernel
theorem dX7_settles_8 : decode cX7_settles 8 = .ok (.getfield 100, 3) := by decide +kernel
theorem dX7_settles_11 : decode cX7_settles 11 = .ok (.if_icmp .ge 14, 3) := by decide +kernel
theorem dX7_settles_14 : decode cX7_settles 14 = .ok (.aload_n 0, 1) := by decide +kernel
theorem dX7_settles_15 : decode cX7_settles 15 = .ok (.iload_n 1, 1) := by decide +kernel
theorem dX7_settles_16 : decode cX7_settles 16 = .ok (.invokevirtual 110, 3) := by decide +kernel
theorem dX7_settles_19 : decode cX7_settles 19 = .ok (.iinc 1 1, 3) := by decide +kernel
theorem dX7_settles_22 : decode cX7_settles 22 = .ok (.goto (-16), 3) := by decide +kernel
theorem dX7_settles_25 : decode cX7_settles 25 = .ok (.return_, 1) := by decide +kernel
theorem dX7_addShot_0 : decode cX7_addShot 0 = .ok (.aload_n 0, 1) := by decide +kernel
theorem dX7_addShot_1 : decode cX7_addShot 1 = .ok (.iload_n 1, 1) := by decide +kernel
theorem dX7_addShot_2 : decode cX7_addShot 2 = .ok (.iconst 1, 1) := by decide +kernel
theorem dX7_addShot_3 : decode cX7_addShot 3 = .ok (.sipush 400, 3) := by decide +kernel
theorem dX7_addShot_6 : decode cX7_addShot 6 = .ok (.invokestatic 93, 3) := by decide +kernel
theorem dX7_addShot_9 : decode cX7_addShot 9 = .ok (.ifCond .ne 7, 3) := by decide +kernel
theorem dX7_addShot_12 : decode cX7_addShot 12 = .ok (.iconst 1, 1) := by decide +kernel
theorem dX7_addShot_13 : decode cX7_addShot 13 = .ok (.goto 17, 3) := by decide +kernel
theorem dX7_addShot_16 : decode cX7_addShot 16 = .ok (.aload_n 0, 1) := by decide +kernel
theorem dX7_addShot_17 : decode cX7_addShot 17 = .ok (.getfield 90, 3) := by decide +kernel
theorem dX7_addShot_20 : decode cX7_addShot 20 = .ok (.bipush 12, 2) := by decide +kernel
theorem dX7_addShot_22 : decode cX7_addShot 22 = .ok (.if_icmp .ne 7, 3) := by decide +kernel
theorem dX7_addShot_25 : decode cX7_addShot 25 = .ok (.iconst 2, 1) := by decide +kernel
theorem dX7_addShot_26 : decode cX7_addShot 26 = .ok (.goto 4, 3) := by decide +kernel
theorem dX7_addShot_29 : decode cX7_addShot 29 = .ok (.iconst 0, 1) := by decide +kernel
theorem dX7_addShot_30 : decode cX7_addShot 30 = .ok (.putfield 87, 3) := by decide +kernel
theorem dX7_addShot_33 : decode cX7_addShot 33 = .ok (.aload_n 0, 1) := by decide +kernel
theorem dX7_addShot_34 : decode cX7_addShot 34 = .ok (.getfield 87, 3) := by decide +kernel
theorem dX7_addShot_37 : decode cX7_addShot 37 = .ok (.ifCond .le 5, 3) := by decide +kernel
theorem dX7_addShot_40 : decode cX7_addShot 40 = .ok (.iconst 0, 1) := by decide +kernel
theorem dX7_addShot_41 : decode cX7_addShot 41 = .ok (.ireturn, 1) := by decide +kernel
theorem dX7_addShot_42 : decode cX7_addShot 42 = .ok (.aload_n 0, 1) := by decide +kernel
theorem dX7_addShot_43 : decode cX7_addShot 43 = .ok (.getfield 7, 3) := by decide +kernel
theorem dX7_addShot_46 : decode cX7_addShot 46 = .ok (.aload_n 0, 1) := by decide +kernel
theorem dX7_addShot_47 : decode cX7_addShot 47 = .ok (.getfield 90, 3) := by decide +kernel
theorem dX7_addShot_50 : decode cX7_addShot 50 = .ok (.iload_n 1, 1) := by decide +kernel
theorem dX7_addShot_51 : decode cX7_addShot 51 = .ok (.iastore, 1) := by decide +kernel
theorem dX7_addShot_52 : decode cX7_addShot 52 = .ok (.iconst 0, 1) := by decide +kernel
theorem dX7_addShot_53 : decode cX7_addShot 53 = .ok (.istore_n 2, 1) := by decide +kernel
theorem dX7_addShot_54 : decode cX7_addShot 54 = .ok (.iload_n 2, 1) := by decide +kernel
theorem dX7_addShot_55 : decode cX7_addShot 55 = .ok (.iload_n 1, 1) := by decide +kernel
theorem dX7_addShot_56 : decode cX7_addShot 56 = .ok (.if_icmp .ge 54, 3) := by decide +kernel
theorem dX7_addShot_59 : decode cX7_addShot 59 = .ok (.aload_n 0, 1) := by decide +kernel
theorem dX7_addShot_60 : decode cX7_addShot 60 = .ok (.getfield 16, 3) := by decide +kernel
theorem dX7_addShot_63 : decode cX7_addShot 63 = .ok (.sipush 400, 3) := by decide +kernel
theorem dX7_addShot_66 : decode cX7_addShot 66 = .ok (.aload_n 0, 1) := by decide +kernel
theorem dX7_addShot_67 : decode cX7_addShot 67 = .ok (.getfield 90, 3) := by decide +kernel
theorem dX7_addShot_70 : decode cX7_addShot 70 = .ok (.imul, 1) := by decide +kernel
theorem dX7_addShot_71 : decode cX7_addShot 71 = .ok (.iload_n 2, 1) := by decide +kernel
theorem dX7_addShot_72 : decode cX7_addShot 72 = .ok (.iadd, 1) := by decide +kernel
theorem dX7_addShot_73 : decode cX7_addShot 73 = .ok (.iconst 0, 1) := by decide +kernel
theorem dX7_addShot_74 : decode cX7_addShot 74 = .ok (.iastore, 1) := by decide +kernel
theorem dX7_addShot_75 : decode cX7_addShot 75 = .ok (.aload_n 0, 1) := by decide +kernel
theorem dX7_addShot_76 : decode cX7_addShot 76 = .ok (.getfield 19, 3) := by decide +kernel
theorem dX7_addShot_79 : decode cX7_addShot 79 = .ok (.aload_n 0, 1) := by decide +kernel
theorem dX7_addShot_80 : decode cX7_addShot 80 = .ok (.getfield 97, 3) := by decide +kernel
theorem dX7_addShot_83 : decode cX7_addShot 83 = .ok (.sipush 400, 3) := by decide +kernel
theorem dX7_addShot_86 : decode cX7_addShot 86 = .ok (.aload_n 0, 1) := by decide +kernel
theorem dX7_addShot_87 : decode cX7_addShot 87 = .ok (.getfield 90, 3) := by decide +kernel
theorem dX7_addShot_90 : decode cX7_addShot 90 = .ok (.imul, 1) := by decide +kernel
theorem dX7_addShot_91 : decode cX7_addShot 91 = .ok (.iload_n 2, 1) := by decide +kernel
theorem dX7_addShot_92 : decode cX7_addShot 92 = .ok (.iadd, 1) := by decide +kernel
theorem dX7_addShot_93 : decode cX7_addShot 93 = .ok (.iastore, 1) := by decide +kernel
theorem dX7_addShot_94 : decode cX7_addShot 94 = .ok (.aload_n 0, 1) := by decide +kernel
theorem dX7_addShot_95 : decode cX7_addShot 95 = .ok (.dup, 1) := by decide +kernel
theorem dX7_addShot_96 : decode cX7_addShot 96 = .ok (.getfield 97, 3) := by decide +kernel
theorem dX7_addShot_99 : decode cX7_addShot 99 = .ok (.iconst 1, 1) := by decide +kernel
theorem dX7_addShot_100 : decode cX7_addShot 100 = .ok (.iadd, 1) := by decide +kernel
theorem dX7_addShot_101 : decode cX7_addShot 101 = .ok (.putfield 97, 3) := by decide +kernel
theorem dX7_addShot_104 : decode cX7_addShot 104 = .ok (.iinc 2 1, 3) := by decide +kernel
theorem dX7_addShot_107 : decode cX7_addShot 107 = .ok (.goto (-53), 3) := by decide +kernel
theorem dX7_addShot_110 : decode cX7_addShot 110 = .ok (.aload_n 0, 1) := by decide +kernel
theorem dX7_addShot_111 : decode cX7_addShot 111 = .ok (.dup, 1) := by decide +kernel
theorem dX7_addShot_112 : decode cX7_addShot 112 = .ok (.getfield 90, 3) := by decide +kernel
theorem dX7_addShot_115 : decode cX7_addShot 115 = .ok (.iconst 1, 1) := by decide +kernel
theorem dX7_addShot_116 : decode cX7_addShot 116 = .ok (.iadd, 1) := by decide +kernel
theorem dX7_addShot_117 : decode cX7_addShot 117 = .ok (.putfield 90, 3) := by decide +kernel
theorem dX7_addShot_120 : decode cX7_addShot 120 = .ok (.aload_n 0, 1) := by decide +kernel
theorem dX7_addShot_121 : decode cX7_addShot 121 = .ok (.invokevirtual 114, 3) := by decide +kernel
theorem dX7_addShot_124 : decode cX7_addShot 124 = .ok (.aload_n 0, 1) := by decide +kernel
theorem dX7_addShot_125 : decode cX7_addShot 125 = .ok (.getfield 90, 3) := by decide +kernel
theorem dX7_addShot_128 : decode cX7_addShot 128 = .ok (.iconst 1, 1) := by decide +kernel
theorem dX7_addShot_129 : decode cX7_addShot 129 = .ok (.isub, 1) := by decide +kernel
theorem dX7_addShot_130 : decode cX7_addShot 130 = .ok (.ireturn, 1) := by decide +kernel
theorem dX7_areFrames_0 : decode cX7_areFrames 0 = .ok (.iload_n 2, 1) := by decide +kernel
theorem dX7_areFrames_1 : decode cX7_areFrames 1 = .ok (.aload_n 0, 1) := by decide +kernel
theorem dX7_areFrames_2 : decode cX7_areFrames 2 = .ok (.getfield 97, 3) := by decide +kernel
theorem dX7_areFrames_5 : decode cX7_areFrames 5 = .ok (.iload_n 1, 1) := by decide +kernel
theorem dX7_areFrames_6 : decode cX7_areFrames 6 = .ok (.isub, 1) := by decide +kernel
theorem dX7_areFrames_7 : decode cX7_areFrames 7 = .ok (.if_icmp .gt 7, 3) := by decide +kernel
theorem dX7_areFrames_10 : decode cX7_areFrames 10 = .ok (.iconst 1, 1) := by decide +kernel
theorem dX7_areFrames_11 : decode cX7_areFrames 11 = .ok (.goto 4, 3) := by decide +kernel
theorem dX7_areFrames_14 : decode cX7_areFrames 14 = .ok (.iconst 0, 1) := by decide +kernel
theorem dX7_areFrames_15 : decode cX7_areFrames 15 = .ok (.ireturn, 1) := by decide +kernel
theorem dX7_takes_0 : decode cX7_takes 0 = .ok (.iconst 0, 1) := by decide +kernel
theorem dX7_takes_1 : decode cX7_takes 1 = .ok (.istore_n 3, 1) := by decide +kernel
theorem dX7_takes_2 : decode cX7_takes 2 = .ok (.iload_n 3, 1) := by decide +kernel
theorem dX7_takes_3 : decode cX7_takes 3 = .ok (.iload_n 2, 1) := by decide +kernel
theorem dX7_takes_4 : decode cX7_takes 4 = .ok (.if_icmp .ge 23, 3) := by decide +kernel
theorem dX7_takes_7 : decode cX7_takes 7 = .ok (.aload_n 0, 1) := by decide +kernel
theorem dX7_takes_8 : decode cX7_takes 8 = .ok (.getfield 22, 3) := by decide +kernel
theorem dX7_takes_11 : decode cX7_takes 11 = .ok (.iload_n 3, 1) := by decide +kernel
theorem dX7_takes_12 : decode cX7_takes 12 = .ok (.aload_n 0, 1) := by decide +kernel
theorem dX7_takes_13 : decode cX7_takes 13 = .ok (.getfield 19, 3) := by decide +kernel
theorem dX7_takes_16 : decode cX7_takes 16 = .ok (.iload_n 1, 1) := by decide +kernel
theorem dX7_takes_17 : decode cX7_takes 17 = .ok (.iload_n 3, 1) := by decide +kernel
theorem dX7_takes_18 : decode cX7_takes 18 = .ok (.iadd, 1) := by decide +kernel
theorem dX7_takes_19 : decode cX7_takes 19 = .ok (.iaload, 1) := by decide +kernel
theorem dX7_takes_20 : decode cX7_takes 20 = .ok (.iastore, 1) := by decide +kernel
theorem dX7_takes_21 : decode cX7_takes 21 = .ok (.iinc 3 1, 3) := by decide +kernel
theorem dX7_takes_24 : decode cX7_takes 24 = .ok (.goto (-22), 3) := by decide +kernel
theorem dX7_takes_27 : decode cX7_takes 27 = .ok (.aload_n 0, 1) := by decide +kernel
theorem dX7_takes_28 : decode cX7_takes 28 = .ok (.dup, 1) := by decide +kernel
theorem dX7_takes_29 : decode cX7_takes 29 = .ok (.getfield 97, 3) := by decide +kernel
theorem dX7_takes_32 : decode cX7_takes 32 = .ok (.iload_n 2, 1) := by decide +kernel
theorem dX7_takes_33 : decode cX7_takes 33 = .ok (.isub, 1) := by decide +kernel
theorem dX7_takes_34 : decode cX7_takes 34 = .ok (.putfield 97, 3) := by decide +kernel
theorem dX7_takes_37 : decode cX7_takes 37 = .ok (.iload_n 1, 1) := by decide +kernel
theorem dX7_takes_38 : decode cX7_takes 38 = .ok (.istore_n 3, 1) := by decide +kernel
theorem dX7_takes_39 : decode cX7_takes 39 = .ok (.iload_n 3, 1) := by decide +kernel
theorem dX7_takes_40 : decode cX7_takes 40 = .ok (.aload_n 0, 1) := by decide +kernel
theorem dX7_takes_41 : decode cX7_takes 41 = .ok (.getfield 97, 3) := by decide +kernel
theorem dX7_takes_44 : decode cX7_takes 44 = .ok (.if_icmp .ge 23, 3) := by decide +kernel
theorem dX7_takes_47 : decode cX7_takes 47 = .ok (.aload_n 0, 1) := by decide +kernel
theorem dX7_takes_48 : decode cX7_takes 48 = .ok (.getfield 19, 3) := by decide +kernel
theorem dX7_takes_51 : decode cX7_takes 51 = .ok (.iload_n 3, 1) := by decide +kernel
theorem dX7_takes_52 : decode cX7_takes 52 = .ok (.aload_n 0, 1) := by decide +kernel
theorem dX7_takes_53 : decode cX7_takes 53 = .ok (.getfield 19, 3) := by decide +kernel
theorem dX7_takes_56 : decode cX7_takes 56 = .ok (.iload_n 3, 1) := by decide +kernel
theorem dX7_takes_57 : decode cX7_takes 57 = .ok (.iload_n 2, 1) := by decide +kernel
theorem dX7_takes_58 : decode cX7_takes 58 = .ok (.iadd, 1) := by decide +kernel
theorem dX7_takes_59 : decode cX7_takes 59 = .ok (.iaload, 1) := by decide +kernel
theorem dX7_takes_60 : decode cX7_takes 60 = .ok (.iastore, 1) := by decide +kernel
theorem dX7_takes_61 : decode cX7_takes 61 = .ok (.iinc 3 1, 3) := by decide +kernel
theorem dX7_takes_64 : decode cX7_takes 64 = .ok (.goto (-25), 3) := by decide +kernel
theorem dX7_takes_67 : decode cX7_takes 67 = .ok (.return_, 1) := by decide +kernel
theorem dX7_puts_0 : decode cX7_puts 0 = .ok (.aload_n 0, 1) := by decide +kernel
theorem dX7_puts_1 : decode cX7_puts 1 = .ok (.getfield 97, 3) := by decide +kernel
theorem dX7_puts_4 : decode cX7_puts 4 = .ok (.iconst 1, 1) := by decide +kernel
theorem dX7_puts_5 : decode cX7_puts 5 = .ok (.isub, 1) := by decide +kernel
theorem dX7_puts_6 : decode cX7_puts 6 = .ok (.istore_n 3, 1) := by decide +kernel
theorem dX7_puts_7 : decode cX7_puts 7 = .ok (.iload_n 3, 1) := by decide +kernel
theorem dX7_puts_8 : decode cX7_puts 8 = .ok (.iload_n 1, 1) := by decide +kernel
theorem dX7_puts_9 : decode cX7_puts 9 = .ok (.if_icmp .lt 23, 3) := by decide +kernel
theorem dX7_puts_12 : decode cX7_puts 12 = .ok (.aload_n 0, 1) := by decide +kernel
theorem dX7_puts_13 : decode cX7_puts 13 = .ok (.getfield 19, 3) := by decide +kernel
theorem dX7_puts_16 : decode cX7_puts 16 = .ok (.iload_n 3, 1) := by decide +kernel
theorem dX7_puts_17 : decode cX7_puts 17 = .ok (.iload_n 2, 1) := by decide +kernel
theorem dX7_puts_18 : decode cX7_puts 18 = .ok (.iadd, 1) := by decide +kernel
theorem dX7_puts_19 : decode cX7_puts 19 = .ok (.aload_n 0, 1) := by decide +kernel
theorem dX7_puts_20 : decode cX7_puts 20 = .ok (.getfield 19, 3) := by decide +kernel
theorem dX7_puts_23 : decode cX7_puts 23 = .ok (.iload_n 3, 1) := by decide +kernel
theorem dX7_puts_24 : decode cX7_puts 24 = .ok (.iaload, 1) := by decide +kernel
theorem dX7_puts_25 : decode cX7_puts 25 = .ok (.iastore, 1) := by decide +kernel
theorem dX7_puts_26 : decode cX7_puts 26 = .ok (.iinc 3 (-1), 3) := by decide +kernel
theorem dX7_puts_29 : decode cX7_puts 29 = .ok (.goto (-22), 3) := by decide +kernel
theorem dX7_puts_32 : decode cX7_puts 32 = .ok (.iconst 0, 1) := by decide +kernel
theorem dX7_puts_33 : decode cX7_puts 33 = .ok (.istore_n 3, 1) := by decide +kernel
theorem dX7_puts_34 : decode cX7_puts 34 = .ok (.iload_n 3, 1) := by decide +kernel
theorem dX7_puts_35 : decode cX7_puts 35 = .ok (.iload_n 2, 1) := by decide +kernel
theorem dX7_puts_36 : decode cX7_puts 36 = .ok (.if_icmp .ge 23, 3) := by decide +kernel
theorem dX7_puts_39 : decode cX7_puts 39 = .ok (.aload_n 0, 1) := by decide +kernel
theorem dX7_puts_40 : decode cX7_puts 40 = .ok (.getfield 19, 3) := by decide +kernel
theorem dX7_puts_43 : decode cX7_puts 43 = .ok (.iload_n 1, 1) := by decide +kernel
theorem dX7_puts_44 : decode cX7_puts 44 = .ok (.iload_n 3, 1) := by decide +kernel
theorem dX7_puts_45 : decode cX7_puts 45 = .ok (.iadd, 1) := by decide +kernel
theorem dX7_puts_46 : decode cX7_puts 46 = .ok (.aload_n 0, 1) := by decide +kernel
theorem dX7_puts_47 : decode cX7_puts 47 = .ok (.getfield 22, 3) := by decide +kernel
theorem dX7_puts_50 : decode cX7_puts 50 = .ok (.iload_n 3, 1) := by decide +kernel
theorem dX7_puts_51 : decode cX7_puts 51 = .ok (.iaload, 1) := by decide +kernel
theorem dX7_puts_52 : decode cX7_puts 52 = .ok (.iastore, 1) := by decide +kernel
theorem dX7_puts_53 : decode cX7_puts 53 = .ok (.iinc 3 1, 3) := by decide +kernel
theorem dX7_puts_56 : decode cX7_puts 56 = .ok (.goto (-22), 3) := by decide +kernel
theorem dX7_puts_59 : decode cX7_puts 59 = .ok (.aload_n 0, 1) := by decide +kernel
theorem dX7_puts_60 : decode cX7_puts 60 = .ok (.dup, 1) := by decide +kernel
theorem dX7_puts_61 : decode cX7_puts 61 = .ok (.getfield 97, 3) := by decide +kernel
theorem dX7_puts_64 : decode cX7_puts 64 = .ok (.iload_n 2, 1) := by decide +kernel
theorem dX7_puts_65 : decode cX7_puts 65 = .ok (.iadd, 1) := by decide +kernel
theorem dX7_puts_66 : decode cX7_puts 66 = .ok (.putfield 97, 3) := by decide +kernel
theorem dX7_puts_69 : decode cX7_puts 69 = .ok (.return_, 1) := by decide +kernel
theorem dX7_cut_0 : decode cX7_cut 0 = .ok (.aload_n 0, 1) := by decide +kernel
theorem dX7_cut_1 : decode cX7_cut 1 = .ok (.aload_n 0, 1) := by decide +kernel
theorem dX7_cut_2 : decode cX7_cut 2 = .ok (.iload_n 1, 1) := by decide +kernel
theorem dX7_cut_3 : decode cX7_cut 3 = .ok (.invokevirtual 117, 3) := by decide +kernel
theorem dX7_cut_6 : decode cX7_cut 6 = .ok (.ifCond .ne 7, 3) := by decide +kernel
theorem dX7_cut_9 : decode cX7_cut 9 = .ok (.iconst 1, 1) := by decide +kernel
theorem dX7_cut_10 : decode cX7_cut 10 = .ok (.goto 26, 3) := by decide +kernel
theorem dX7_cut_13 : decode cX7_cut 13 = .ok (.iload_n 2, 1) := by decide +kernel
theorem dX7_cut_14 : decode cX7_cut 14 = .ok (.iconst 1, 1) := by decide +kernel
theorem dX7_cut_15 : decode cX7_cut 15 = .ok (.if_icmp .ge 7, 3) := by decide +kernel
theorem dX7_cut_18 : decode cX7_cut 18 = .ok (.iconst 2, 1) := by decide +kernel
theorem dX7_cut_19 : decode cX7_cut 19 = .ok (.goto 17, 3) := by decide +kernel
theorem dX7_cut_22 : decode cX7_cut 22 = .ok (.aload_n 0, 1) := by decide +kernel
theorem dX7_cut_23 : decode cX7_cut 23 = .ok (.iload_n 1, 1) := by decide +kernel
theorem dX7_cut_24 : decode cX7_cut 24 = .ok (.iload_n 2, 1) := by decide +kernel
theorem dX7_cut_25 : decode cX7_cut 25 = .ok (.invokevirtual 120, 3) := by decide +kernel
theorem dX7_cut_28 : decode cX7_cut 28 = .ok (.ifCond .eq 7, 3) := by decide +kernel
theorem dX7_cut_31 : decode cX7_cut 31 = .ok (.iconst 0, 1) := by decide +kernel
theorem dX7_cut_32 : decode cX7_cut 32 = .ok (.goto 4, 3) := by decide +kernel
theorem dX7_cut_35 : decode cX7_cut 35 = .ok (.iconst 1, 1) := by decide +kernel
theorem dX7_cut_36 : decode cX7_cut 36 = .ok (.putfield 87, 3) := by decide +kernel
theorem dX7_cut_39 : decode cX7_cut 39 = .ok (.aload_n 0, 1) := by decide +kernel
theorem dX7_cut_40 : decode cX7_cut 40 = .ok (.getfield 87, 3) := by decide +kernel
theorem dX7_cut_43 : decode cX7_cut 43 = .ok (.ifCond .le 5, 3) := by decide +kernel
theorem dX7_cut_46 : decode cX7_cut 46 = .ok (.iconst 0, 1) := by decide +kernel
theorem dX7_cut_47 : decode cX7_cut 47 = .ok (.ireturn, 1) := by decide +kernel
theorem dX7_cut_48 : decode cX7_cut 48 = .ok (.aload_n 0, 1) := by decide +kernel
theorem dX7_cut_49 : decode cX7_cut 49 = .ok (.iload_n 1, 1) := by decide +kernel
theorem dX7_cut_50 : decode cX7_cut 50 = .ok (.iload_n 2, 1) := by decide +kernel
theorem dX7_cut_51 : decode cX7_cut 51 = .ok (.invokevirtual 124, 3) := by decide +kernel
theorem dX7_cut_54 : decode cX7_cut 54 = .ok (.aload_n 0, 1) := by decide +kernel
theorem dX7_cut_55 : decode cX7_cut 55 = .ok (.invokevirtual 114, 3) := by decide +kernel
theorem dX7_cut_58 : decode cX7_cut 58 = .ok (.aload_n 0, 1) := by decide +kernel
theorem dX7_cut_59 : decode cX7_cut 59 = .ok (.getfield 97, 3) := by decide +kernel
theorem dX7_cut_62 : decode cX7_cut 62 = .ok (.ireturn, 1) := by decide +kernel
theorem dX7_move_0 : decode cX7_move 0 = .ok (.aload_n 0, 1) := by decide +kernel
theorem dX7_move_1 : decode cX7_move 1 = .ok (.aload_n 0, 1) := by decide +kernel
theorem dX7_move_2 : decode cX7_move 2 = .ok (.iload_n 1, 1) := by decide +kernel
theorem dX7_move_3 : decode cX7_move 3 = .ok (.invokevirtual 117, 3) := by decide +kernel
theorem dX7_move_6 : decode cX7_move 6 = .ok (.ifCond .ne 7, 3) := by decide +kernel
theorem dX7_move_9 : decode cX7_move 9 = .ok (.iconst 1, 1) := by decide +kernel
theorem dX7_move_10 : decode cX7_move 10 = .ok (.goto 40, 3) := by decide +kernel
theorem dX7_move_13 : decode cX7_move 13 = .ok (.iload_n 2, 1) := by decide +kernel
theorem dX7_move_14 : decode cX7_move 14 = .ok (.iconst 1, 1) := by decide +kernel
theorem dX7_move_15 : decode cX7_move 15 = .ok (.if_icmp .ge 7, 3) := by decide +kernel
theorem dX7_move_18 : decode cX7_move 18 = .ok (.iconst 2, 1) := by decide +kernel
theorem dX7_move_19 : decode cX7_move 19 = .ok (.goto 31, 3) := by decide +kernel
theorem dX7_move_22 : decode cX7_move 22 = .ok (.aload_n 0, 1) := by decide +kernel
theorem dX7_move_23 : decode cX7_move 23 = .ok (.iload_n 1, 1) := by decide +kernel
theorem dX7_move_24 : decode cX7_move 24 = .ok (.iload_n 2, 1) := by decide +kernel
theorem dX7_move_25 : decode cX7_move 25 = .ok (.invokevirtual 120, 3) := by decide +kernel
theorem dX7_move_28 : decode cX7_move 28 = .ok (.ifCond .eq 21, 3) := by decide +kernel
theorem dX7_move_31 : decode cX7_move 31 = .ok (.iload_n 3, 1) := by decide +kernel
theorem dX7_move_32 : decode cX7_move 32 = .ok (.iconst 0, 1) := by decide +kernel
theorem dX7_move_33 : decode cX7_move 33 = .ok (.aload_n 0, 1) := by decide +kernel
theorem dX7_move_34 : decode cX7_move 34 = .ok (.getfield 97, 3) := by decide +kernel
theorem dX7_move_37 : decode cX7_move 37 = .ok (.iload_n 2, 1) := by decide +kernel
theorem dX7_move_38 : decode cX7_move 38 = .ok (.isub, 1) := by decide +kernel
theorem dX7_move_39 : decode cX7_move 39 = .ok (.invokestatic 93, 3) := by decide +kernel
theorem dX7_move_42 : decode cX7_move 42 = .ok (.ifCond .eq 7, 3) := by decide +kernel
theorem dX7_move_45 : decode cX7_move 45 = .ok (.iconst 0, 1) := by decide +kernel
theorem dX7_move_46 : decode cX7_move 46 = .ok (.goto 4, 3) := by decide +kernel
theorem dX7_move_49 : decode cX7_move 49 = .ok (.iconst 1, 1) := by decide +kernel
theorem dX7_move_50 : decode cX7_move 50 = .ok (.putfield 87, 3) := by decide +kernel
theorem dX7_move_53 : decode cX7_move 53 = .ok (.aload_n 0, 1) := by decide +kernel
theorem dX7_move_54 : decode cX7_move 54 = .ok (.getfield 87, 3) := by decide +kernel
theorem dX7_move_57 : decode cX7_move 57 = .ok (.ifCond .le 5, 3) := by decide +kernel
theorem dX7_move_60 : decode cX7_move 60 = .ok (.iconst 0, 1) := by decide +kernel
theorem dX7_move_61 : decode cX7_move 61 = .ok (.ireturn, 1) := by decide +kernel
theorem dX7_move_62 : decode cX7_move 62 = .ok (.iconst 0, 1) := by decide +kernel
theorem dX7_move_63 : decode cX7_move 63 = .ok (.istore 4, 2) := by decide +kernel
theorem dX7_move_65 : decode cX7_move 65 = .ok (.iload 4, 2) := by decide +kernel
theorem dX7_move_67 : decode cX7_move 67 = .ok (.aload_n 0, 1) := by decide +kernel
theorem dX7_move_68 : decode cX7_move 68 = .ok (.getfield 100, 3) := by decide +kernel
theorem dX7_move_71 : decode cX7_move 71 = .ok (.if_icmp .ge 37, 3) := by decide +kernel
theorem dX7_move_74 : decode cX7_move 74 = .ok (.aload_n 0, 1) := by decide +kernel
theorem dX7_move_75 : decode cX7_move 75 = .ok (.getfield 34, 3) := by decide +kernel
theorem dX7_move_78 : decode cX7_move 78 = .ok (.iload 4, 2) := by decide +kernel
theorem dX7_move_80 : decode cX7_move 80 = .ok (.aload_n 0, 1) := by decide +kernel
theorem dX7_move_81 : decode cX7_move 81 = .ok (.getfield 28, 3) := by decide +kernel
theorem dX7_move_84 : decode cX7_move 84 = .ok (.iload 4, 2) := by decide +kernel
theorem dX7_move_86 : decode cX7_move 86 = .ok (.iaload, 1) := by decide +kernel
theorem dX7_move_87 : decode cX7_move 87 = .ok (.iastore, 1) := by decide +kernel
theorem dX7_move_88 : decode cX7_move 88 = .ok (.aload_n 0, 1) := by decide +kernel
theorem dX7_move_89 : decode cX7_move 89 = .ok (.getfield 37, 3) := by decide +kernel
theorem dX7_move_92 : decode cX7_move 92 = .ok (.iload 4, 2) := by decide +kernel
theorem dX7_move_94 : decode cX7_move 94 = .ok (.aload_n 0, 1) := by decide +kernel
theorem dX7_move_95 : decode cX7_move 95 = .ok (.getfield 31, 3) := by decide +kernel
theorem dX7_move_98 : decode cX7_move 98 = .ok (.iload 4, 2) := by decide +kernel
theorem dX7_move_100 : decode cX7_move 100 = .ok (.iaload, 1) := by decide +kernel
theorem dX7_move_101 : decode cX7_move 101 = .ok (.iastore, 1) := by decide +kernel
theorem dX7_move_102 : decode cX7_move 102 = .ok (.iinc 4 1, 3) := by decide +kernel
theorem dX7_move_105 : decode cX7_move 105 = .ok (.goto (-40), 3) := by decide +kernel
theorem dX7_move_108 : decode cX7_move 108 = .ok (.aload_n 0, 1) := by decide +kernel
theorem dX7_move_109 : decode cX7_move 109 = .ok (.iload_n 1, 1) := by decide +kernel
theorem dX7_move_110 : decode cX7_move 110 = .ok (.iload_n 2, 1) := by decide +kernel
theorem dX7_move_111 : decode cX7_move 111 = .ok (.invokevirtual 124, 3) := by decide +kernel
theorem dX7_move_114 : decode cX7_move 114 = .ok (.aload_n 0, 1) := by decide +kernel
theorem dX7_move_115 : decode cX7_move 115 = .ok (.iload_n 3, 1) := by decide +kernel
theorem dX7_move_116 : decode cX7_move 116 = .ok (.iload_n 2, 1) := by decide +kernel
theorem dX7_move_117 : decode cX7_move 117 = .ok (.invokevirtual 128, 3) := by decide +kernel
theorem dX7_move_120 : decode cX7_move 120 = .ok (.aload_n 0, 1) := by decide +kernel
theorem dX7_move_121 : decode cX7_move 121 = .ok (.invokevirtual 114, 3) := by decide +kernel
theorem dX7_move_124 : decode cX7_move 124 = .ok (.iconst 0, 1) := by decide +kernel
theorem dX7_move_125 : decode cX7_move 125 = .ok (.istore 4, 2) := by decide +kernel
theorem dX7_move_127 : decode cX7_move 127 = .ok (.iconst 0, 1) := by decide +kernel
theorem dX7_move_128 : decode cX7_move 128 = .ok (.istore 5, 2) := by decide +kernel
theorem dX7_move_130 : decode cX7_move 130 = .ok (.iload 5, 2) := by decide +kernel
theorem dX7_move_132 : decode cX7_move 132 = .ok (.aload_n 0, 1) := by decide +kernel
theorem dX7_move_133 : decode cX7_move 133 = .ok (.getfield 100, 3) := by decide +kernel
theorem dX7_move_136 : decode cX7_move 136 = .ok (.if_icmp .ge 53, 3) := by decide +kernel
theorem dX7_move_139 : decode cX7_move 139 = .ok (.iload 4, 2) := by decide +kernel
theorem dX7_move_141 : decode cX7_move 141 = .ok (.aload_n 0, 1) := by decide +kernel
theorem dX7_move_142 : decode cX7_move 142 = .ok (.getfield 28, 3) := by decide +kernel
theorem dX7_move_145 : decode cX7_move 145 = .ok (.iload 5, 2) := by decide +kernel
theorem dX7_move_147 : decode cX7_move 147 = .ok (.iaload, 1) := by decide +kernel
theorem dX7_move_148 : decode cX7_move 148 = .ok (.aload_n 0, 1) := by decide +kernel
theorem dX7_move_149 : decode cX7_move 149 = .ok (.getfield 34, 3) := by decide +kernel
theorem dX7_move_152 : decode cX7_move 152 = .ok (.iload 5, 2) := by decide +kernel
theorem dX7_move_154 : decode cX7_move 154 = .ok (.iaload, 1) := by decide +kernel
theorem dX7_move_155 : decode cX7_move 155 = .ok (.if_icmp .ne 20, 3) := by decide +kernel
theorem dX7_move_158 : decode cX7_move 158 = .ok (.aload_n 0, 1) := by decide +kernel
theorem dX7_move_159 : decode cX7_move 159 = .ok (.getfield 31, 3) := by decide +kernel
theorem dX7_move_162 : decode cX7_move 162 = .ok (.iload 5, 2) := by decide +kernel
theorem dX7_move_164 : decode cX7_move 164 = .ok (.iaload, 1) := by decide +kernel
theorem dX7_move_165 : decode cX7_move 165 = .ok (.aload_n 0, 1) := by decide +kernel
theorem dX7_move_166 : decode cX7_move 166 = .ok (.getfield 37, 3) := by decide +kernel
theorem dX7_move_169 : decode cX7_move 169 = .ok (.iload 5, 2) := by decide +kernel
theorem dX7_move_171 : decode cX7_move 171 = .ok (.iaload, 1) := by decide +kernel
theorem dX7_move_172 : decode cX7_move 172 = .ok (.if_icmp .eq 7, 3) := by decide +kernel
theorem dX7_move_175 : decode cX7_move 175 = .ok (.iconst 1, 1) := by decide +kernel
theorem dX7_move_176 : decode cX7_move 176 = .ok (.goto 4, 3) := by decide +kernel
theorem dX7_move_179 : decode cX7_move 179 = .ok (.iconst 0, 1) := by decide +kernel
theorem dX7_move_180 : decode cX7_move 180 = .ok (.iadd, 1) := by decide +kernel
theorem dX7_move_181 : decode cX7_move 181 = .ok (.istore 4, 2) := by decide +kernel
theorem dX7_move_183 : decode cX7_move 183 = .ok (.iinc 5 1, 3) := by decide +kernel
theorem dX7_move_186 : decode cX7_move 186 = .ok (.goto (-56), 3) := by decide +kernel
theorem dX7_move_189 : decode cX7_move 189 = .ok (.iload 4, 2) := by decide +kernel
theorem dX7_move_191 : decode cX7_move 191 = .ok (.ireturn, 1) := by decide +kernel
theorem dX7_putBack_0 : decode cX7_putBack 0 = .ok (.aload_n 0, 1) := by decide +kernel
theorem dX7_putBack_1 : decode cX7_putBack 1 = .ok (.aload_n 0, 1) := by decide +kernel
theorem dX7_putBack_2 : decode cX7_putBack 2 = .ok (.iload_n 1, 1) := by decide +kernel
theorem dX7_putBack_3 : decode cX7_putBack 3 = .ok (.iload_n 2, 1) := by decide +kernel
theorem dX7_putBack_4 : decode cX7_putBack 4 = .ok (.invokevirtual 131, 3) := by decide +kernel
theorem dX7_putBack_7 : decode cX7_putBack 7 = .ok (.ifCond .ne 7, 3) := by decide +kernel
theorem dX7_putBack_10 : decode cX7_putBack 10 = .ok (.iconst 1, 1) := by decide +kernel
theorem dX7_putBack_11 : decode cX7_putBack 11 = .ok (.goto 42, 3) := by decide +kernel
theorem dX7_putBack_14 : decode cX7_putBack 14 = .ok (.iload_n 3, 1) := by decide +kernel
theorem dX7_putBack_15 : decode cX7_putBack 15 = .ok (.iconst 1, 1) := by decide +kernel
theorem dX7_putBack_16 : decode cX7_putBack 16 = .ok (.if_icmp .ge 7, 3) := by decide +kernel
theorem dX7_putBack_19 : decode cX7_putBack 19 = .ok (.iconst 2, 1) := by decide +kernel
theorem dX7_putBack_20 : decode cX7_putBack 20 = .ok (.goto 33, 3) := by decide +kernel
theorem dX7_putBack_23 : decode cX7_putBack 23 = .ok (.iload_n 3, 1) := by decide +kernel
theorem dX7_putBack_24 : decode cX7_putBack 24 = .ok (.aload_n 0, 1) := by decide +kernel
theorem dX7_putBack_25 : decode cX7_putBack 25 = .ok (.getfield 7, 3) := by decide +kernel
theorem dX7_putBack_28 : decode cX7_putBack 28 = .ok (.iload_n 1, 1) := by decide +kernel
theorem dX7_putBack_29 : decode cX7_putBack 29 = .ok (.iaload, 1) := by decide +kernel
theorem dX7_putBack_30 : decode cX7_putBack 30 = .ok (.iload_n 2, 1) := by decide +kernel
theorem dX7_putBack_31 : decode cX7_putBack 31 = .ok (.isub, 1) := by decide +kernel
theorem dX7_putBack_32 : decode cX7_putBack 32 = .ok (.if_icmp .gt 20, 3) := by decide +kernel
theorem dX7_putBack_35 : decode cX7_putBack 35 = .ok (.iload 4, 2) := by decide +kernel
theorem dX7_putBack_37 : decode cX7_putBack 37 = .ok (.iconst 0, 1) := by decide +kernel
theorem dX7_putBack_38 : decode cX7_putBack 38 = .ok (.aload_n 0, 1) := by decide +kernel
theorem dX7_putBack_39 : decode cX7_putBack 39 = .ok (.getfield 97, 3) := by decide +kernel
theorem dX7_putBack_42 : decode cX7_putBack 42 = .ok (.invokestatic 93, 3) := by decide +kernel
theorem dX7_putBack_45 : decode cX7_putBack 45 = .ok (.ifCond .eq 7, 3) := by decide +kernel
theorem dX7_putBack_48 : decode cX7_putBack 48 = .ok (.iconst 0, 1) := by decide +kernel
theorem dX7_putBack_49 : decode cX7_putBack 49 = .ok (.goto 4, 3) := by decide +kernel
theorem dX7_putBack_52 : decode cX7_putBack 52 = .ok (.iconst 1, 1) := by decide +kernel
theorem dX7_putBack_53 : decode cX7_putBack 53 = .ok (.putfield 87, 3) := by decide +kernel
theorem dX7_putBack_56 : decode cX7_putBack 56 = .ok (.iconst 0, 1) := by decide +kernel
theorem dX7_putBack_57 : decode cX7_putBack 57 = .ok (.istore 5, 2) := by decide +kernel
theorem dX7_putBack_59 : decode cX7_putBack 59 = .ok (.aload_n 0, 1) := by decide +kernel
theorem dX7_putBack_60 : decode cX7_putBack 60 = .ok (.getfield 87, 3) := by decide +kernel
theorem dX7_putBack_63 : decode cX7_putBack 63 = .ok (.ifCond .ne 43, 3) := by decide +kernel
theorem dX7_putBack_66 : decode cX7_putBack 66 = .ok (.iload 5, 2) := by decide +kernel
theorem dX7_putBack_68 : decode cX7_putBack 68 = .ok (.iload_n 3, 1) := by decide +kernel
theorem dX7_putBack_69 : decode cX7_putBack 69 = .ok (.if_icmp .ge 37, 3) := by decide +kernel
theorem dX7_putBack_72 : decode cX7_putBack 72 = .ok (.aload_n 0, 1) := by decide +kernel
theorem dX7_putBack_73 : decode cX7_putBack 73 = .ok (.aload_n 0, 1) := by decide +kernel
theorem dX7_putBack_74 : decode cX7_putBack 74 = .ok (.getfield 13, 3) := by decide +kernel
theorem dX7_putBack_77 : decode cX7_putBack 77 = .ok (.sipush 400, 3) := by decide +kernel
theorem dX7_putBack_80 : decode cX7_putBack 80 = .ok (.iload_n 1, 1) := by decide +kernel
theorem dX7_putBack_81 : decode cX7_putBack 81 = .ok (.imul, 1) := by decide +kernel
theorem dX7_putBack_82 : decode cX7_putBack 82 = .ok (.iload_n 2, 1) := by decide +kernel
theorem dX7_putBack_83 : decode cX7_putBack 83 = .ok (.iadd, 1) := by decide +kernel
theorem dX7_putBack_84 : decode cX7_putBack 84 = .ok (.iload 5, 2) := by decide +kernel
theorem dX7_putBack_86 : decode cX7_putBack 86 = .ok (.iadd, 1) := by decide +kernel
theorem dX7_putBack_87 : decode cX7_putBack 87 = .ok (.iaload, 1) := by decide +kernel
theorem dX7_putBack_88 : decode cX7_putBack 88 = .ok (.iconst (-1), 1) := by decide +kernel
theorem dX7_putBack_89 : decode cX7_putBack 89 = .ok (.if_icmp .ne 7, 3) := by decide +kernel
theorem dX7_putBack_92 : decode cX7_putBack 92 = .ok (.iconst 0, 1) := by decide +kernel
theorem dX7_putBack_93 : decode cX7_putBack 93 = .ok (.goto 4, 3) := by decide +kernel
theorem dX7_putBack_96 : decode cX7_putBack 96 = .ok (.iconst 3, 1) := by decide +kernel
theorem dX7_putBack_97 : decode cX7_putBack 97 = .ok (.putfield 87, 3) := by decide +kernel
theorem dX7_putBack_100 : decode cX7_putBack 100 = .ok (.iinc 5 1, 3) := by decide +kernel
theorem dX7_putBack_103 : decode cX7_putBack 103 = .ok (.goto (-44), 3) := by decide +kernel
theorem dX7_putBack_106 : decode cX7_putBack 106 = .ok (.aload_n 0, 1) := by decide +kernel
theorem dX7_putBack_107 : decode cX7_putBack 107 = .ok (.getfield 87, 3) := by decide +kernel
theorem dX7_putBack_110 : decode cX7_putBack 110 = .ok (.ifCond .le 5, 3) := by decide +kernel
theorem dX7_putBack_113 : decode cX7_putBack 113 = .ok (.iconst 0, 1) := by decide +kernel
theorem dX7_putBack_114 : decode cX7_putBack 114 = .ok (.ireturn, 1) := by decide +kernel
theorem dX7_putBack_115 : decode cX7_putBack 115 = .ok (.iconst 0, 1) := by decide +kernel
theorem dX7_putBack_116 : decode cX7_putBack 116 = .ok (.istore 5, 2) := by decide +kernel
theorem dX7_putBack_118 : decode cX7_putBack 118 = .ok (.iload 5, 2) := by decide +kernel
theorem dX7_putBack_120 : decode cX7_putBack 120 = .ok (.iload_n 3, 1) := by decide +kernel
theorem dX7_putBack_121 : decode cX7_putBack 121 = .ok (.if_icmp .ge 26, 3) := by decide +kernel
theorem dX7_putBack_124 : decode cX7_putBack 124 = .ok (.aload_n 0, 1) := by decide +kernel
theorem dX7_putBack_125 : decode cX7_putBack 125 = .ok (.getfield 22, 3) := by decide +kernel
theorem dX7_putBack_128 : decode cX7_putBack 128 = .ok (.iload 5, 2) := by decide +kernel
theorem dX7_putBack_130 : decode cX7_putBack 130 = .ok (.sipush 400, 3) := by decide +kernel
theorem dX7_putBack_133 : decode cX7_putBack 133 = .ok (.iload_n 1, 1) := by decide +kernel
theorem dX7_putBack_134 : decode cX7_putBack 134 = .ok (.imul, 1) := by decide +kernel
theorem dX7_putBack_135 : decode cX7_putBack 135 = .ok (.iload_n 2, 1) := by decide +kernel
theorem dX7_putBack_136 : decode cX7_putBack 136 = .ok (.iadd, 1) := by decide +kernel
theorem dX7_putBack_137 : decode cX7_putBack 137 = .ok (.iload 5, 2) := by decide +kernel
theorem dX7_putBack_139 : decode cX7_putBack 139 = .ok (.iadd, 1) := by decide +kernel
theorem dX7_putBack_140 : decode cX7_putBack 140 = .ok (.iastore, 1) := by decide +kernel
theorem dX7_putBack_141 : decode cX7_putBack 141 = .ok (.iinc 5 1, 3) := by decide +kernel
theorem dX7_putBack_144 : decode cX7_putBack 144 = .ok (.goto (-26), 3) := by decide +kernel
theorem dX7_putBack_147 : decode cX7_putBack 147 = .ok (.aload_n 0, 1) := by decide +kernel
theorem dX7_putBack_148 : decode cX7_putBack 148 = .ok (.iload 4, 2) := by decide +kernel
theorem dX7_putBack_150 : decode cX7_putBack 150 = .ok (.iload_n 3, 1) := by decide +kernel
theorem dX7_putBack_151 : decode cX7_putBack 151 = .ok (.invokevirtual 128, 3) := by decide +kernel
theorem dX7_putBack_154 : decode cX7_putBack 154 = .ok (.aload_n 0, 1) := by decide +kernel
theorem dX7_putBack_155 : decode cX7_putBack 155 = .ok (.invokevirtual 114, 3) := by decide +kernel
theorem dX7_putBack_158 : decode cX7_putBack 158 = .ok (.aload_n 0, 1) := by decide +kernel
theorem dX7_putBack_159 : decode cX7_putBack 159 = .ok (.getfield 97, 3) := by decide +kernel
theorem dX7_putBack_162 : decode cX7_putBack 162 = .ok (.ireturn, 1) := by decide +kernel
theorem dX7_frames_0 : decode cX7_frames 0 = .ok (.aload_n 0, 1) := by decide +kernel
theorem dX7_frames_1 : decode cX7_frames 1 = .ok (.iconst 0, 1) := by decide +kernel
theorem dX7_frames_2 : decode cX7_frames 2 = .ok (.putfield 87, 3) := by decide +kernel
theorem dX7_frames_5 : decode cX7_frames 5 = .ok (.aload_n 0, 1) := by decide +kernel
theorem dX7_frames_6 : decode cX7_frames 6 = .ok (.getfield 97, 3) := by decide +kernel
theorem dX7_frames_9 : decode cX7_frames 9 = .ok (.ireturn, 1) := by decide +kernel
theorem dX7_frameAt_0 : decode cX7_frameAt 0 = .ok (.aload_n 0, 1) := by decide +kernel
theorem dX7_frameAt_1 : decode cX7_frameAt 1 = .ok (.aload_n 0, 1) := by decide +kernel
theorem dX7_frameAt_2 : decode cX7_frameAt 2 = .ok (.iload_n 1, 1) := by decide +kernel
theorem dX7_frameAt_3 : decode cX7_frameAt 3 = .ok (.invokevirtual 117, 3) := by decide +kernel
theorem dX7_frameAt_6 : decode cX7_frameAt 6 = .ok (.ifCond .eq 7, 3) := by decide +kernel
theorem dX7_frameAt_9 : decode cX7_frameAt 9 = .ok (.iconst 0, 1) := by decide +kernel
theorem dX7_frameAt_10 : decode cX7_frameAt 10 = .ok (.goto 4, 3) := by decide +kernel
theorem dX7_frameAt_13 : decode cX7_frameAt 13 = .ok (.iconst 1, 1) := by decide +kernel
theorem dX7_frameAt_14 : decode cX7_frameAt 14 = .ok (.putfield 87, 3) := by decide +kernel
theorem dX7_frameAt_17 : decode cX7_frameAt 17 = .ok (.aload_n 0, 1) := by decide +kernel
theorem dX7_frameAt_18 : decode cX7_frameAt 18 = .ok (.getfield 87, 3) := by decide +kernel
theorem dX7_frameAt_21 : decode cX7_frameAt 21 = .ok (.ifCond .le 7, 3) := by decide +kernel
theorem dX7_frameAt_24 : decode cX7_frameAt 24 = .ok (.iconst 0, 1) := by decide +kernel
theorem dX7_frameAt_25 : decode cX7_frameAt 25 = .ok (.goto 28, 3) := by decide +kernel
theorem dX7_frameAt_28 : decode cX7_frameAt 28 = .ok (.sipush 1000, 3) := by decide +kernel
theorem dX7_frameAt_31 : decode cX7_frameAt 31 = .ok (.aload_n 0, 1) := by decide +kernel
theorem dX7_frameAt_32 : decode cX7_frameAt 32 = .ok (.getfield 19, 3) := by decide +kernel
theorem dX7_frameAt_35 : decode cX7_frameAt 35 = .ok (.iload_n 1, 1) := by decide +kernel
theorem dX7_frameAt_36 : decode cX7_frameAt 36 = .ok (.iaload, 1) := by decide +kernel
theorem dX7_frameAt_37 : decode cX7_frameAt 37 = .ok (.sipush 400, 3) := by decide +kernel
theorem dX7_frameAt_40 : decode cX7_frameAt 40 = .ok (.idiv, 1) := by decide +kernel
theorem dX7_frameAt_41 : decode cX7_frameAt 41 = .ok (.imul, 1) := by decide +kernel
theorem dX7_frameAt_42 : decode cX7_frameAt 42 = .ok (.aload_n 0, 1) := by decide +kernel
theorem dX7_frameAt_43 : decode cX7_frameAt 43 = .ok (.getfield 19, 3) := by decide +kernel
theorem dX7_frameAt_46 : decode cX7_frameAt 46 = .ok (.iload_n 1, 1) := by decide +kernel
theorem dX7_frameAt_47 : decode cX7_frameAt 47 = .ok (.iaload, 1) := by decide +kernel
theorem dX7_frameAt_48 : decode cX7_frameAt 48 = .ok (.sipush 400, 3) := by decide +kernel
theorem dX7_frameAt_51 : decode cX7_frameAt 51 = .ok (.irem, 1) := by decide +kernel
theorem dX7_frameAt_52 : decode cX7_frameAt 52 = .ok (.iadd, 1) := by decide +kernel
theorem dX7_frameAt_53 : decode cX7_frameAt 53 = .ok (.ireturn, 1) := by decide +kernel
theorem dX7_placeOf_0 : decode cX7_placeOf 0 = .ok (.aload_n 0, 1) := by decide +kernel
theorem dX7_placeOf_1 : decode cX7_placeOf 1 = .ok (.aload_n 0, 1) := by decide +kernel
theorem dX7_placeOf_2 : decode cX7_placeOf 2 = .ok (.iload_n 1, 1) := by decide +kernel
theorem dX7_placeOf_3 : decode cX7_placeOf 3 = .ok (.iload_n 2, 1) := by decide +kernel
theorem dX7_placeOf_4 : decode cX7_placeOf 4 = .ok (.invokevirtual 131, 3) := by decide +kernel
theorem dX7_placeOf_7 : decode cX7_placeOf 7 = .ok (.ifCond .eq 7, 3) := by decide +kernel
theorem dX7_placeOf_10 : decode cX7_placeOf 10 = .ok (.iconst 0, 1) := by decide +kernel
theorem dX7_placeOf_11 : decode cX7_placeOf 11 = .ok (.goto 4, 3) := by decide +kernel
theorem dX7_placeOf_14 : decode cX7_placeOf 14 = .ok (.iconst 1, 1) := by decide +kernel
theorem dX7_placeOf_15 : decode cX7_placeOf 15 = .ok (.putfield 87, 3) := by decide +kernel
theorem dX7_placeOf_18 : decode cX7_placeOf 18 = .ok (.aload_n 0, 1) := by decide +kernel
theorem dX7_placeOf_19 : decode cX7_placeOf 19 = .ok (.getfield 87, 3) := by decide +kernel
theorem dX7_placeOf_22 : decode cX7_placeOf 22 = .ok (.ifCond .le 7, 3) := by decide +kernel
theorem dX7_placeOf_25 : decode cX7_placeOf 25 = .ok (.iconst 0, 1) := by decide +kernel
theorem dX7_placeOf_26 : decode cX7_placeOf 26 = .ok (.goto 15, 3) := by decide +kernel
theorem dX7_placeOf_29 : decode cX7_placeOf 29 = .ok (.aload_n 0, 1) := by decide +kernel
theorem dX7_placeOf_30 : decode cX7_placeOf 30 = .ok (.getfield 13, 3) := by decide +kernel
theorem dX7_placeOf_33 : decode cX7_placeOf 33 = .ok (.sipush 400, 3) := by decide +kernel
theorem dX7_placeOf_36 : decode cX7_placeOf 36 = .ok (.iload_n 1, 1) := by decide +kernel
theorem dX7_placeOf_37 : decode cX7_placeOf 37 = .ok (.imul, 1) := by decide +kernel
theorem dX7_placeOf_38 : decode cX7_placeOf 38 = .ok (.iload_n 2, 1) := by decide +kernel
theorem dX7_placeOf_39 : decode cX7_placeOf 39 = .ok (.iadd, 1) := by decide +kernel
theorem dX7_placeOf_40 : decode cX7_placeOf 40 = .ok (.iaload, 1) := by decide +kernel
theorem dX7_placeOf_41 : decode cX7_placeOf 41 = .ok (.ireturn, 1) := by decide +kernel
theorem dX7_isBoundaryAt_0 : decode cX7_isBoundaryAt 0 = .ok (.iload_n 1, 1) := by decide +kernel
theorem dX7_isBoundaryAt_1 : decode cX7_isBoundaryAt 1 = .ok (.ifCond .le 39, 3) := by decide +kernel
theorem dX7_isBoundaryAt_4 : decode cX7_isBoundaryAt 4 = .ok (.aload_n 0, 1) := by decide +kernel
theorem dX7_isBoundaryAt_5 : decode cX7_isBoundaryAt 5 = .ok (.getfield 19, 3) := by decide +kernel
theorem dX7_isBoundaryAt_8 : decode cX7_isBoundaryAt 8 = .ok (.iload_n 1, 1) := by decide +kernel
theorem dX7_isBoundaryAt_9 : decode cX7_isBoundaryAt 9 = .ok (.iaload, 1) := by decide +kernel
theorem dX7_isBoundaryAt_10 : decode cX7_isBoundaryAt 10 = .ok (.aload_n 0, 1) := by decide +kernel
theorem dX7_isBoundaryAt_11 : decode cX7_isBoundaryAt 11 = .ok (.getfield 19, 3) := by decide +kernel
theorem dX7_isBoundaryAt_14 : decode cX7_isBoundaryAt 14 = .ok (.iload_n 1, 1) := by decide +kernel
theorem dX7_isBoundaryAt_15 : decode cX7_isBoundaryAt 15 = .ok (.iconst 1, 1) := by decide +kernel
theorem dX7_isBoundaryAt_16 : decode cX7_isBoundaryAt 16 = .ok (.isub, 1) := by decide +kernel
theorem dX7_isBoundaryAt_17 : decode cX7_isBoundaryAt 17 = .ok (.iaload, 1) := by decide +kernel
theorem dX7_isBoundaryAt_18 : decode cX7_isBoundaryAt 18 = .ok (.iconst 1, 1) := by decide +kernel
theorem dX7_isBoundaryAt_19 : decode cX7_isBoundaryAt 19 = .ok (.iadd, 1) := by decide +kernel
theorem dX7_isBoundaryAt_20 : decode cX7_isBoundaryAt 20 = .ok (.if_icmp .ne 16, 3) := by decide +kernel
theorem dX7_isBoundaryAt_23 : decode cX7_isBoundaryAt 23 = .ok (.aload_n 0, 1) := by decide +kernel
theorem dX7_isBoundaryAt_24 : decode cX7_isBoundaryAt 24 = .ok (.getfield 19, 3) := by decide +kernel
theorem dX7_isBoundaryAt_27 : decode cX7_isBoundaryAt 27 = .ok (.iload_n 1, 1) := by decide +kernel
theorem dX7_isBoundaryAt_28 : decode cX7_isBoundaryAt 28 = .ok (.iaload, 1) := by decide +kernel
theorem dX7_isBoundaryAt_29 : decode cX7_isBoundaryAt 29 = .ok (.sipush 400, 3) := by decide +kernel
theorem dX7_isBoundaryAt_32 : decode cX7_isBoundaryAt 32 = .ok (.irem, 1) := by decide +kernel
theorem dX7_isBoundaryAt_33 : decode cX7_isBoundaryAt 33 = .ok (.ifCond .ne 7, 3) := by decide +kernel
theorem dX7_isBoundaryAt_36 : decode cX7_isBoundaryAt 36 = .ok (.iconst 1, 1) := by decide +kernel
theorem dX7_isBoundaryAt_37 : decode cX7_isBoundaryAt 37 = .ok (.goto 4, 3) := by decide +kernel
theorem dX7_isBoundaryAt_40 : decode cX7_isBoundaryAt 40 = .ok (.iconst 0, 1) := by decide +kernel
theorem dX7_isBoundaryAt_41 : decode cX7_isBoundaryAt 41 = .ok (.ireturn, 1) := by decide +kernel
theorem dX7_isBoundary_0 : decode cX7_isBoundary 0 = .ok (.aload_n 0, 1) := by decide +kernel
theorem dX7_isBoundary_1 : decode cX7_isBoundary 1 = .ok (.aload_n 0, 1) := by decide +kernel
theorem dX7_isBoundary_2 : decode cX7_isBoundary 2 = .ok (.iload_n 1, 1) := by decide +kernel
theorem dX7_isBoundary_3 : decode cX7_isBoundary 3 = .ok (.invokevirtual 117, 3) := by decide +kernel
theorem dX7_isBoundary_6 : decode cX7_isBoundary 6 = .ok (.ifCond .eq 7, 3) := by decide +kernel
theorem dX7_isBoundary_9 : decode cX7_isBoundary 9 = .ok (.iconst 0, 1) := by decide +kernel
theorem dX7_isBoundary_10 : decode cX7_isBoundary 10 = .ok (.goto 4, 3) := by decide +kernel
theorem dX7_isBoundary_13 : decode cX7_isBoundary 13 = .ok (.iconst 1, 1) := by decide +kernel
theorem dX7_isBoundary_14 : decode cX7_isBoundary 14 = .ok (.putfield 87, 3) := by decide +kernel
theorem dX7_isBoundary_17 : decode cX7_isBoundary 17 = .ok (.aload_n 0, 1) := by decide +kernel
theorem dX7_isBoundary_18 : decode cX7_isBoundary 18 = .ok (.getfield 87, 3) := by decide +kernel
theorem dX7_isBoundary_21 : decode cX7_isBoundary 21 = .ok (.ifCond .ne 15, 3) := by decide +kernel
theorem dX7_isBoundary_24 : decode cX7_isBoundary 24 = .ok (.aload_n 0, 1) := by decide +kernel
theorem dX7_isBoundary_25 : decode cX7_isBoundary 25 = .ok (.iload_n 1, 1) := by decide +kernel
theorem dX7_isBoundary_26 : decode cX7_isBoundary 26 = .ok (.invokevirtual 134, 3) := by decide +kernel
theorem dX7_isBoundary_29 : decode cX7_isBoundary 29 = .ok (.ifCond .eq 7, 3) := by decide +kernel
theorem dX7_isBoundary_32 : decode cX7_isBoundary 32 = .ok (.iconst 1, 1) := by decide +kernel
theorem dX7_isBoundary_33 : decode cX7_isBoundary 33 = .ok (.goto 4, 3) := by decide +kernel
theorem dX7_isBoundary_36 : decode cX7_isBoundary 36 = .ok (.iconst 0, 1) := by decide +kernel
theorem dX7_isBoundary_37 : decode cX7_isBoundary 37 = .ok (.ireturn, 1) := by decide +kernel
theorem dX7_lays_0 : decode cX7_lays 0 = .ok (.iconst 0, 1) := by decide +kernel
theorem dX7_lays_1 : decode cX7_lays 1 = .ok (.istore 4, 2) := by decide +kernel
theorem dX7_lays_3 : decode cX7_lays 3 = .ok (.iload 4, 2) := by decide +kernel
theorem dX7_lays_5 : decode cX7_lays 5 = .ok (.sipush 400, 3) := by decide +kernel
theorem dX7_lays_8 : decode cX7_lays 8 = .ok (.aload_n 0, 1) := by decide +kernel
theorem dX7_lays_9 : decode cX7_lays 9 = .ok (.getfield 90, 3) := by decide +kernel
theorem dX7_lays_12 : decode cX7_lays 12 = .ok (.imul, 1) := by decide +kernel
theorem dX7_lays_13 : decode cX7_lays 13 = .ok (.if_icmp .ge 24, 3) := by decide +kernel
theorem dX7_lays_16 : decode cX7_lays 16 = .ok (.aload_n 0, 1) := by decide +kernel
theorem dX7_lays_17 : decode cX7_lays 17 = .ok (.getfield 16, 3) := by decide +kernel
theorem dX7_lays_20 : decode cX7_lays 20 = .ok (.iload 4, 2) := by decide +kernel
theorem dX7_lays_22 : decode cX7_lays 22 = .ok (.dup2, 1) := by decide +kernel
theorem dX7_lays_23 : decode cX7_lays 23 = .ok (.iaload, 1) := by decide +kernel
theorem dX7_lays_24 : decode cX7_lays 24 = .ok (.iconst 1, 1) := by decide +kernel
theorem dX7_lays_25 : decode cX7_lays 25 = .ok (.iload_n 1, 1) := by decide +kernel
theorem dX7_lays_26 : decode cX7_lays 26 = .ok (.ishl, 1) := by decide +kernel
theorem dX7_lays_27 : decode cX7_lays 27 = .ok (.iconst (-1), 1) := by decide +kernel
theorem dX7_lays_28 : decode cX7_lays 28 = .ok (.ixor, 1) := by decide +kernel
theorem dX7_lays_29 : decode cX7_lays 29 = .ok (.iand, 1) := by decide +kernel
theorem dX7_lays_30 : decode cX7_lays 30 = .ok (.iastore, 1) := by decide +kernel
theorem dX7_lays_31 : decode cX7_lays 31 = .ok (.iinc 4 1, 3) := by decide +kernel
theorem dX7_lays_34 : decode cX7_lays 34 = .ok (.goto (-31), 3) := by decide +kernel
theorem dX7_lays_37 : decode cX7_lays 37 = .ok (.iload_n 2, 1) := by decide +kernel
theorem dX7_lays_38 : decode cX7_lays 38 = .ok (.istore 4, 2) := by decide +kernel
theorem dX7_lays_40 : decode cX7_lays 40 = .ok (.iload 4, 2) := by decide +kernel
theorem dX7_lays_42 : decode cX7_lays 42 = .ok (.iload_n 2, 1) := by decide +kernel
theorem dX7_lays_43 : decode cX7_lays 43 = .ok (.iload_n 3, 1) := by decide +kernel
theorem dX7_lays_44 : decode cX7_lays 44 = .ok (.iadd, 1) := by decide +kernel
theorem dX7_lays_45 : decode cX7_lays 45 = .ok (.if_icmp .ge 27, 3) := by decide +kernel
theorem dX7_lays_48 : decode cX7_lays 48 = .ok (.aload_n 0, 1) := by decide +kernel
theorem dX7_lays_49 : decode cX7_lays 49 = .ok (.getfield 16, 3) := by decide +kernel
theorem dX7_lays_52 : decode cX7_lays 52 = .ok (.aload_n 0, 1) := by decide +kernel
theorem dX7_lays_53 : decode cX7_lays 53 = .ok (.getfield 19, 3) := by decide +kernel
theorem dX7_lays_56 : decode cX7_lays 56 = .ok (.iload 4, 2) := by decide +kernel
theorem dX7_lays_58 : decode cX7_lays 58 = .ok (.iaload, 1) := by decide +kernel
theorem dX7_lays_59 : decode cX7_lays 59 = .ok (.dup2, 1) := by decide +kernel
theorem dX7_lays_60 : decode cX7_lays 60 = .ok (.iaload, 1) := by decide +kernel
theorem dX7_lays_61 : decode cX7_lays 61 = .ok (.iconst 1, 1) := by decide +kernel
theorem dX7_lays_62 : decode cX7_lays 62 = .ok (.iload_n 1, 1) := by decide +kernel
theorem dX7_lays_63 : decode cX7_lays 63 = .ok (.ishl, 1) := by decide +kernel
theorem dX7_lays_64 : decode cX7_lays 64 = .ok (.ior, 1) := by decide +kernel
theorem dX7_lays_65 : decode cX7_lays 65 = .ok (.iastore, 1) := by decide +kernel
theorem dX7_lays_66 : decode cX7_lays 66 = .ok (.iinc 4 1, 3) := by decide +kernel
theorem dX7_lays_69 : decode cX7_lays 69 = .ok (.goto (-29), 3) := by decide +kernel
theorem dX7_lays_72 : decode cX7_lays 72 = .ok (.aload_n 0, 1) := by decide +kernel
theorem dX7_lays_73 : decode cX7_lays 73 = .ok (.iload_n 1, 1) := by decide +kernel
theorem dX7_lays_74 : decode cX7_lays 74 = .ok (.invokevirtual 110, 3) := by decide +kernel
theorem dX7_lays_77 : decode cX7_lays 77 = .ok (.return_, 1) := by decide +kernel
theorem dX7_forgets_0 : decode cX7_forgets 0 = .ok (.iconst 0, 1) := by decide +kernel
theorem dX7_forgets_1 : decode cX7_forgets 1 = .ok (.istore_n 3, 1) := by decide +kernel
theorem dX7_forgets_2 : decode cX7_forgets 2 = .ok (.iload_n 3, 1) := by decide +kernel
theorem dX7_forgets_3 : decode cX7_forgets 3 = .ok (.bipush 8, 2) := by decide +kernel
theorem dX7_forgets_5 : decode cX7_forgets 5 = .ok (.if_icmp .ge 25, 3) := by decide +kernel
theorem dX7_forgets_8 : decode cX7_forgets 8 = .ok (.aload_n 0, 1) := by decide +kernel
theorem dX7_forgets_9 : decode cX7_forgets 9 = .ok (.getfield 49, 3) := by decide +kernel
theorem dX7_forgets_12 : decode cX7_forgets 12 = .ok (.bipush 8, 2) := by decide +kernel
theorem dX7_forgets_14 : decode cX7_forgets 14 = .ok (.iconst 3, 1) := by decide +kernel
theorem dX7_forgets_15 : decode cX7_forgets 15 = .ok (.iload_n 1, 1) := by decide +kernel
theorem dX7_forgets_16 : decode cX7_forgets 16 = .ok (.imul, 1) := by decide +kernel
theorem dX7_forgets_17 : decode cX7_forgets 17 = .ok (.iload_n 2, 1) := by decide +kernel
theorem dX7_forgets_18 : decode cX7_forgets 18 = .ok (.iadd, 1) := by decide +kernel
theorem dX7_forgets_19 : decode cX7_forgets 19 = .ok (.imul, 1) := by decide +kernel
theorem dX7_forgets_20 : decode cX7_forgets 20 = .ok (.iload_n 3, 1) := by decide +kernel
theorem dX7_forgets_21 : decode cX7_forgets 21 = .ok (.iadd, 1) := by decide +kernel
theorem dX7_forgets_22 : decode cX7_forgets 22 = .ok (.iconst 0, 1) := by decide +kernel
theorem dX7_forgets_23 : decode cX7_forgets 23 = .ok (.iastore, 1) := by decide +kernel
theorem dX7_forgets_24 : decode cX7_forgets 24 = .ok (.iinc 3 1, 3) := by decide +kernel
theorem dX7_forgets_27 : decode cX7_forgets 27 = .ok (.goto (-25), 3) := by decide +kernel
theorem dX7_forgets_30 : decode cX7_forgets 30 = .ok (.return_, 1) := by decide +kernel
theorem dX7_forgetsAll_0 : decode cX7_forgetsAll 0 = .ok (.iconst 0, 1) := by decide +kernel
theorem dX7_forgetsAll_1 : decode cX7_forgetsAll 1 = .ok (.istore_n 2, 1) := by decide +kernel
theorem dX7_forgetsAll_2 : decode cX7_forgetsAll 2 = .ok (.iload_n 2, 1) := by decide +kernel
theorem dX7_forgetsAll_3 : decode cX7_forgetsAll 3 = .ok (.iconst 3, 1) := by decide +kernel
theorem dX7_forgetsAll_4 : decode cX7_forgetsAll 4 = .ok (.if_icmp .ge 15, 3) := by decide +kernel
theorem dX7_forgetsAll_7 : decode cX7_forgetsAll 7 = .ok (.aload_n 0, 1) := by decide +kernel
theorem dX7_forgetsAll_8 : decode cX7_forgetsAll 8 = .ok (.iload_n 1, 1) := by decide +kernel
theorem dX7_forgetsAll_9 : decode cX7_forgetsAll 9 = .ok (.iload_n 2, 1) := by decide +kernel
theorem dX7_forgetsAll_10 : decode cX7_forgetsAll 10 = .ok (.invokevirtual 137, 3) := by decide +kernel
theorem dX7_forgetsAll_13 : decode cX7_forgetsAll 13 = .ok (.iinc 2 1, 3) := by decide +kernel
theorem dX7_forgetsAll_16 : decode cX7_forgetsAll 16 = .ok (.goto (-14), 3) := by decide +kernel
theorem dX7_forgetsAll_19 : decode cX7_forgetsAll 19 = .ok (.return_, 1) := by decide +kernel
theorem dX7_add_0 : decode cX7_add 0 = .ok (.aload_n 0, 1) := by decide +kernel
theorem dX7_add_1 : decode cX7_add 1 = .ok (.aload_n 0, 1) := by decide +kernel
theorem dX7_add_2 : decode cX7_add 2 = .ok (.iload_n 1, 1) := by decide +kernel
theorem dX7_add_3 : decode cX7_add 3 = .ok (.invokevirtual 117, 3) := by decide +kernel
theorem dX7_add_6 : decode cX7_add 6 = .ok (.ifCond .ne 7, 3) := by decide +kernel
theorem dX7_add_9 : decode cX7_add 9 = .ok (.iconst 1, 1) := by decide +kernel
theorem dX7_add_10 : decode cX7_add 10 = .ok (.goto 45, 3) := by decide +kernel
theorem dX7_add_13 : decode cX7_add 13 = .ok (.iload_n 2, 1) := by decide +kernel
theorem dX7_add_14 : decode cX7_add 14 = .ok (.iconst 1, 1) := by decide +kernel
theorem dX7_add_15 : decode cX7_add 15 = .ok (.sipush 250, 3) := by decide +kernel
theorem dX7_add_18 : decode cX7_add 18 = .ok (.invokestatic 93, 3) := by decide +kernel
theorem dX7_add_21 : decode cX7_add 21 = .ok (.ifCond .ne 7, 3) := by decide +kernel
theorem dX7_add_24 : decode cX7_add 24 = .ok (.iconst 2, 1) := by decide +kernel
theorem dX7_add_25 : decode cX7_add 25 = .ok (.goto 30, 3) := by decide +kernel
theorem dX7_add_28 : decode cX7_add 28 = .ok (.aload_n 0, 1) := by decide +kernel
theorem dX7_add_29 : decode cX7_add 29 = .ok (.iload_n 1, 1) := by decide +kernel
theorem dX7_add_30 : decode cX7_add 30 = .ok (.iload_n 2, 1) := by decide +kernel
theorem dX7_add_31 : decode cX7_add 31 = .ok (.invokevirtual 120, 3) := by decide +kernel
theorem dX7_add_34 : decode cX7_add 34 = .ok (.ifCond .ne 7, 3) := by decide +kernel
theorem dX7_add_37 : decode cX7_add 37 = .ok (.iconst 1, 1) := by decide +kernel
theorem dX7_add_38 : decode cX7_add 38 = .ok (.goto 17, 3) := by decide +kernel
theorem dX7_add_41 : decode cX7_add 41 = .ok (.aload_n 0, 1) := by decide +kernel
theorem dX7_add_42 : decode cX7_add 42 = .ok (.getfield 100, 3) := by decide +kernel
theorem dX7_add_45 : decode cX7_add 45 = .ok (.bipush 16, 2) := by decide +kernel
theorem dX7_add_47 : decode cX7_add 47 = .ok (.if_icmp .ne 7, 3) := by decide +kernel
theorem dX7_add_50 : decode cX7_add 50 = .ok (.iconst 3, 1) := by decide +kernel
theorem dX7_add_51 : decode cX7_add 51 = .ok (.goto 4, 3) := by decide +kernel
theorem dX7_add_54 : decode cX7_add 54 = .ok (.iconst 0, 1) := by decide +kernel
theorem dX7_add_55 : decode cX7_add 55 = .ok (.putfield 87, 3) := by decide +kernel
theorem dX7_add_58 : decode cX7_add 58 = .ok (.aload_n 0, 1) := by decide +kernel
theorem dX7_add_59 : decode cX7_add 59 = .ok (.getfield 87, 3) := by decide +kernel
theorem dX7_add_62 : decode cX7_add 62 = .ok (.ifCond .le 5, 3) := by decide +kernel
theorem dX7_add_65 : decode cX7_add 65 = .ok (.iconst 0, 1) := by decide +kernel
theorem dX7_add_66 : decode cX7_add 66 = .ok (.ireturn, 1) := by decide +kernel
theorem dX7_add_67 : decode cX7_add 67 = .ok (.aload_n 0, 1) := by decide +kernel
theorem dX7_add_68 : decode cX7_add 68 = .ok (.dup, 1) := by decide +kernel
theorem dX7_add_69 : decode cX7_add 69 = .ok (.getfield 100, 3) := by decide +kernel
theorem dX7_add_72 : decode cX7_add 72 = .ok (.iconst 1, 1) := by decide +kernel
theorem dX7_add_73 : decode cX7_add 73 = .ok (.iadd, 1) := by decide +kernel
theorem dX7_add_74 : decode cX7_add 74 = .ok (.putfield 100, 3) := by decide +kernel
theorem dX7_add_77 : decode cX7_add 77 = .ok (.aload_n 0, 1) := by decide +kernel
theorem dX7_add_78 : decode cX7_add 78 = .ok (.aload_n 0, 1) := by decide +kernel
theorem dX7_add_79 : decode cX7_add 79 = .ok (.getfield 100, 3) := by decide +kernel
theorem dX7_add_82 : decode cX7_add 82 = .ok (.iconst 1, 1) := by decide +kernel
theorem dX7_add_83 : decode cX7_add 83 = .ok (.isub, 1) := by decide +kernel
theorem dX7_add_84 : decode cX7_add 84 = .ok (.iload_n 1, 1) := by decide +kernel
theorem dX7_add_85 : decode cX7_add 85 = .ok (.iload_n 2, 1) := by decide +kernel
theorem dX7_add_86 : decode cX7_add 86 = .ok (.invokevirtual 140, 3) := by decide +kernel
theorem dX7_add_89 : decode cX7_add 89 = .ok (.aload_n 0, 1) := by decide +kernel
theorem dX7_add_90 : decode cX7_add 90 = .ok (.getfield 100, 3) := by decide +kernel
theorem dX7_add_93 : decode cX7_add 93 = .ok (.iconst 1, 1) := by decide +kernel
theorem dX7_add_94 : decode cX7_add 94 = .ok (.isub, 1) := by decide +kernel
theorem dX7_add_95 : decode cX7_add 95 = .ok (.ireturn, 1) := by decide +kernel
theorem dX7_lay_0 : decode cX7_lay 0 = .ok (.aload_n 0, 1) := by decide +kernel
theorem dX7_lay_1 : decode cX7_lay 1 = .ok (.aload_n 0, 1) := by decide +kernel
theorem dX7_lay_2 : decode cX7_lay 2 = .ok (.iload_n 1, 1) := by decide +kernel
theorem dX7_lay_3 : decode cX7_lay 3 = .ok (.invokevirtual 103, 3) := by decide +kernel
theorem dX7_lay_6 : decode cX7_lay 6 = .ok (.ifCond .eq 11, 3) := by decide +kernel
theorem dX7_lay_9 : decode cX7_lay 9 = .ok (.aload_n 0, 1) := by decide +kernel
theorem dX7_lay_10 : decode cX7_lay 10 = .ok (.iload_n 2, 1) := by decide +kernel
theorem dX7_lay_11 : decode cX7_lay 11 = .ok (.invokevirtual 117, 3) := by decide +kernel
theorem dX7_lay_14 : decode cX7_lay 14 = .ok (.ifCond .ne 7, 3) := by decide +kernel
theorem dX7_lay_17 : decode cX7_lay 17 = .ok (.iconst 1, 1) := by decide +kernel
theorem dX7_lay_18 : decode cX7_lay 18 = .ok (.goto 32, 3) := by decide +kernel
theorem dX7_lay_21 : decode cX7_lay 21 = .ok (.iload_n 3, 1) := by decide +kernel
theorem dX7_lay_22 : decode cX7_lay 22 = .ok (.iconst 1, 1) := by decide +kernel
theorem dX7_lay_23 : decode cX7_lay 23 = .ok (.sipush 250, 3) := by decide +kernel
theorem dX7_lay_26 : decode cX7_lay 26 = .ok (.invokestatic 93, 3) := by decide +kernel
theorem dX7_lay_29 : decode cX7_lay 29 = .ok (.ifCond .ne 7, 3) := by decide +kernel
theorem dX7_lay_32 : decode cX7_lay 32 = .ok (.iconst 2, 1) := by decide +kernel
theorem dX7_lay_33 : decode cX7_lay 33 = .ok (.goto 17, 3) := by decide +kernel
theorem dX7_lay_36 : decode cX7_lay 36 = .ok (.aload_n 0, 1) := by decide +kernel
theorem dX7_lay_37 : decode cX7_lay 37 = .ok (.iload_n 2, 1) := by decide +kernel
theorem dX7_lay_38 : decode cX7_lay 38 = .ok (.iload_n 3, 1) := by decide +kernel
theorem dX7_lay_39 : decode cX7_lay 39 = .ok (.invokevirtual 120, 3) := by decide +kernel
theorem dX7_lay_42 : decode cX7_lay 42 = .ok (.ifCond .eq 7, 3) := by decide +kernel
theorem dX7_lay_45 : decode cX7_lay 45 = .ok (.iconst 0, 1) := by decide +kernel
theorem dX7_lay_46 : decode cX7_lay 46 = .ok (.goto 4, 3) := by decide +kernel
theorem dX7_lay_49 : decode cX7_lay 49 = .ok (.iconst 1, 1) := by decide +kernel
theorem dX7_lay_50 : decode cX7_lay 50 = .ok (.putfield 87, 3) := by decide +kernel
theorem dX7_lay_53 : decode cX7_lay 53 = .ok (.aload_n 0, 1) := by decide +kernel
theorem dX7_lay_54 : decode cX7_lay 54 = .ok (.getfield 87, 3) := by decide +kernel
theorem dX7_lay_57 : decode cX7_lay 57 = .ok (.ifCond .le 5, 3) := by decide +kernel
theorem dX7_lay_60 : decode cX7_lay 60 = .ok (.iconst 0, 1) := by decide +kernel
theorem dX7_lay_61 : decode cX7_lay 61 = .ok (.ireturn, 1) := by decide +kernel
theorem dX7_lay_62 : decode cX7_lay 62 = .ok (.aload_n 0, 1) := by decide +kernel
theorem dX7_lay_63 : decode cX7_lay 63 = .ok (.getfield 28, 3) := by decide +kernel
theorem dX7_lay_66 : decode cX7_lay 66 = .ok (.iload_n 1, 1) := by decide +kernel
theorem dX7_lay_67 : decode cX7_lay 67 = .ok (.iaload, 1) := by decide +kernel
theorem dX7_lay_68 : decode cX7_lay 68 = .ok (.istore 4, 2) := by decide +kernel
theorem dX7_lay_70 : decode cX7_lay 70 = .ok (.aload_n 0, 1) := by decide +kernel
theorem dX7_lay_71 : decode cX7_lay 71 = .ok (.iload_n 1, 1) := by decide +kernel
theorem dX7_lay_72 : decode cX7_lay 72 = .ok (.iload_n 2, 1) := by decide +kernel
theorem dX7_lay_73 : decode cX7_lay 73 = .ok (.iload_n 3, 1) := by decide +kernel
theorem dX7_lay_74 : decode cX7_lay 74 = .ok (.invokevirtual 140, 3) := by decide +kernel
theorem dX7_lay_77 : decode cX7_lay 77 = .ok (.aload_n 0, 1) := by decide +kernel
theorem dX7_lay_78 : decode cX7_lay 78 = .ok (.iload_n 1, 1) := by decide +kernel
theorem dX7_lay_79 : decode cX7_lay 79 = .ok (.invokevirtual 144, 3) := by decide +kernel
theorem dX7_lay_82 : decode cX7_lay 82 = .ok (.iload 4, 2) := by decide +kernel
theorem dX7_lay_84 : decode cX7_lay 84 = .ok (.ireturn, 1) := by decide +kernel
theorem dX7_setLook_0 : decode cX7_setLook 0 = .ok (.aload_n 0, 1) := by decide +kernel
theorem dX7_setLook_1 : decode cX7_setLook 1 = .ok (.aload_n 0, 1) := by decide +kernel
theorem dX7_setLook_2 : decode cX7_setLook 2 = .ok (.iload_n 1, 1) := by decide +kernel
theorem dX7_setLook_3 : decode cX7_setLook 3 = .ok (.invokevirtual 103, 3) := by decide +kernel
theorem dX7_setLook_6 : decode cX7_setLook 6 = .ok (.ifCond .ne 7, 3) := by decide +kernel
theorem dX7_setLook_9 : decode cX7_setLook 9 = .ok (.iconst 1, 1) := by decide +kernel
theorem dX7_setLook_10 : decode cX7_setLook 10 = .ok (.goto 17, 3) := by decide +kernel
theorem dX7_setLook_13 : decode cX7_setLook 13 = .ok (.iload_n 2, 1) := by decide +kernel
theorem dX7_setLook_14 : decode cX7_setLook 14 = .ok (.iconst 0, 1) := by decide +kernel
theorem dX7_setLook_15 : decode cX7_setLook 15 = .ok (.iconst 3, 1) := by decide +kernel
theorem dX7_setLook_16 : decode cX7_setLook 16 = .ok (.invokestatic 93, 3) := by decide +kernel
theorem dX7_setLook_19 : decode cX7_setLook 19 = .ok (.ifCond .eq 7, 3) := by decide +kernel
theorem dX7_setLook_22 : decode cX7_setLook 22 = .ok (.iconst 0, 1) := by decide +kernel
theorem dX7_setLook_23 : decode cX7_setLook 23 = .ok (.goto 4, 3) := by decide +kernel
theorem dX7_setLook_26 : decode cX7_setLook 26 = .ok (.iconst 2, 1) := by decide +kernel
theorem dX7_setLook_27 : decode cX7_setLook 27 = .ok (.putfield 87, 3) := by decide +kernel
theorem dX7_setLook_30 : decode cX7_setLook 30 = .ok (.aload_n 0, 1) := by decide +kernel
theorem dX7_setLook_31 : decode cX7_setLook 31 = .ok (.getfield 87, 3) := by decide +kernel
theorem dX7_setLook_34 : decode cX7_setLook 34 = .ok (.ifCond .le 5, 3) := by decide +kernel
theorem dX7_setLook_37 : decode cX7_setLook 37 = .ok (.iconst 0, 1) := by decide +kernel
theorem dX7_setLook_38 : decode cX7_setLook 38 = .ok (.ireturn, 1) := by decide +kernel
theorem dX7_setLook_39 : decode cX7_setLook 39 = .ok (.aload_n 0, 1) := by decide +kernel
theorem dX7_setLook_40 : decode cX7_setLook 40 = .ok (.getfield 25, 3) := by decide +kernel
theorem dX7_setLook_43 : decode cX7_setLook 43 = .ok (.iload_n 1, 1) := by decide +kernel
theorem dX7_setLook_44 : decode cX7_setLook 44 = .ok (.iaload, 1) := by decide +kernel
theorem dX7_setLook_45 : decode cX7_setLook 45 = .ok (.istore_n 3, 1) := by decide +kernel
theorem dX7_setLook_46 : decode cX7_setLook 46 = .ok (.aload_n 0, 1) := by decide +kernel
theorem dX7_setLook_47 : decode cX7_setLook 47 = .ok (.getfield 25, 3) := by decide +kernel
theorem dX7_setLook_50 : decode cX7_setLook 50 = .ok (.iload_n 1, 1) := by decide +kernel
theorem dX7_setLook_51 : decode cX7_setLook 51 = .ok (.iload_n 2, 1) := by decide +kernel
theorem dX7_setLook_52 : decode cX7_setLook 52 = .ok (.iastore, 1) := by decide +kernel
theorem dX7_setLook_53 : decode cX7_setLook 53 = .ok (.iload_n 3, 1) := by decide +kernel
theorem dX7_setLook_54 : decode cX7_setLook 54 = .ok (.iload_n 2, 1) := by decide +kernel
theorem dX7_setLook_55 : decode cX7_setLook 55 = .ok (.if_icmp .eq 8, 3) := by decide +kernel
theorem dX7_setLook_58 : decode cX7_setLook 58 = .ok (.aload_n 0, 1) := by decide +kernel
theorem dX7_setLook_59 : decode cX7_setLook 59 = .ok (.iload_n 1, 1) := by decide +kernel
theorem dX7_setLook_60 : decode cX7_setLook 60 = .ok (.invokevirtual 144, 3) := by decide +kernel
theorem dX7_setLook_63 : decode cX7_setLook 63 = .ok (.iload_n 3, 1) := by decide +kernel
theorem dX7_setLook_64 : decode cX7_setLook 64 = .ok (.ireturn, 1) := by decide +kernel
theorem dX7_captions_0 : decode cX7_captions 0 = .ok (.aload_n 0, 1) := by decide +kernel
theorem dX7_captions_1 : decode cX7_captions 1 = .ok (.iconst 0, 1) := by decide +kernel
theorem dX7_captions_2 : decode cX7_captions 2 = .ok (.putfield 87, 3) := by decide +kernel
theorem dX7_captions_5 : decode cX7_captions 5 = .ok (.aload_n 0, 1) := by decide +kernel
theorem dX7_captions_6 : decode cX7_captions 6 = .ok (.getfield 100, 3) := by decide +kernel
theorem dX7_captions_9 : decode cX7_captions 9 = .ok (.ireturn, 1) := by decide +kernel
theorem dX7_asksCaption_0 : decode cX7_asksCaption 0 = .ok (.aload_n 0, 1) := by decide +kernel
theorem dX7_asksCaption_1 : decode cX7_asksCaption 1 = .ok (.aload_n 0, 1) := by decide +kernel
theorem dX7_asksCaption_2 : decode cX7_asksCaption 2 = .ok (.iload_n 1, 1) := by decide +kernel
theorem dX7_asksCaption_3 : decode cX7_asksCaption 3 = .ok (.invokevirtual 103, 3) := by decide +kernel
theorem dX7_asksCaption_6 : decode cX7_asksCaption 6 = .ok (.ifCond .eq 7, 3) := by decide +kernel
theorem dX7_asksCaption_9 : decode cX7_asksCaption 9 = .ok (.iconst 0, 1) := by decide +kernel
theorem dX7_asksCaption_10 : decode cX7_asksCaption 10 = .ok (.goto 4, 3) := by decide +kernel
theorem dX7_asksCaption_13 : decode cX7_asksCaption 13 = .ok (.iconst 1, 1) := by decide +kernel
theorem dX7_asksCaption_14 : decode cX7_asksCaption 14 = .ok (.putfield 87, 3) := by decide +kernel
theorem dX7_asksCaption_17 : decode cX7_asksCaption 17 = .ok (.aload_n 0, 1) := by decide +kernel
theorem dX7_asksCaption_18 : decode cX7_asksCaption 18 = .ok (.getfield 87, 3) := by decide +kernel
theorem dX7_asksCaption_21 : decode cX7_asksCaption 21 = .ok (.ifCond .ne 7, 3) := by decide +kernel
theorem dX7_asksCaption_24 : decode cX7_asksCaption 24 = .ok (.iconst 1, 1) := by decide +kernel
theorem dX7_asksCaption_25 : decode cX7_asksCaption 25 = .ok (.goto 4, 3) := by decide +kernel
theorem dX7_asksCaption_28 : decode cX7_asksCaption 28 = .ok (.iconst 0, 1) := by decide +kernel
theorem dX7_asksCaption_29 : decode cX7_asksCaption 29 = .ok (.ireturn, 1) := by decide +kernel
theorem dX7_startOf_0 : decode cX7_startOf 0 = .ok (.aload_n 0, 1) := by decide +kernel
theorem dX7_startOf_1 : decode cX7_startOf 1 = .ok (.iload_n 1, 1) := by decide +kernel
theorem dX7_startOf_2 : decode cX7_startOf 2 = .ok (.invokevirtual 147, 3) := by decide +kernel
theorem dX7_startOf_5 : decode cX7_startOf 5 = .ok (.ifCond .eq 12, 3) := by decide +kernel
theorem dX7_startOf_8 : decode cX7_startOf 8 = .ok (.aload_n 0, 1) := by decide +kernel
theorem dX7_startOf_9 : decode cX7_startOf 9 = .ok (.getfield 28, 3) := by decide +kernel
theorem dX7_startOf_12 : decode cX7_startOf 12 = .ok (.iload_n 1, 1) := by decide +kernel
theorem dX7_startOf_13 : decode cX7_startOf 13 = .ok (.iaload, 1) := by decide +kernel
theorem dX7_startOf_14 : decode cX7_startOf 14 = .ok (.goto 4, 3) := by decide +kernel
theorem dX7_startOf_17 : decode cX7_startOf 17 = .ok (.iconst 0, 1) := by decide +kernel
theorem dX7_startOf_18 : decode cX7_startOf 18 = .ok (.ireturn, 1) := by decide +kernel
theorem dX7_lengthOf_0 : decode cX7_lengthOf 0 = .ok (.aload_n 0, 1) := by decide +kernel
theorem dX7_lengthOf_1 : decode cX7_lengthOf 1 = .ok (.iload_n 1, 1) := by decide +kernel
theorem dX7_lengthOf_2 : decode cX7_lengthOf 2 = .ok (.invokevirtual 147, 3) := by decide +kernel
theorem dX7_lengthOf_5 : decode cX7_lengthOf 5 = .ok (.ifCond .eq 12, 3) := by decide +kernel
theorem dX7_lengthOf_8 : decode cX7_lengthOf 8 = .ok (.aload_n 0, 1) := by decide +kernel
theorem dX7_lengthOf_9 : decode cX7_lengthOf 9 = .ok (.getfield 31, 3) := by decide +kernel
theorem dX7_lengthOf_12 : decode cX7_lengthOf 12 = .ok (.iload_n 1, 1) := by decide +kernel
theorem dX7_lengthOf_13 : decode cX7_lengthOf 13 = .ok (.iaload, 1) := by decide +kernel
theorem dX7_lengthOf_14 : decode cX7_lengthOf 14 = .ok (.goto 4, 3) := by decide +kernel
theorem dX7_lengthOf_17 : decode cX7_lengthOf 17 = .ok (.iconst 0, 1) := by decide +kernel
theorem dX7_lengthOf_18 : decode cX7_lengthOf 18 = .ok (.ireturn, 1) := by decide +kernel
theorem dX7_startByFrames_0 : decode cX7_startByFrames 0 = .ok (.aload_n 0, 1) := by decide +kernel
theorem dX7_startByFrames_1 : decode cX7_startByFrames 1 = .ok (.iload_n 1, 1) := by decide +kernel
theorem dX7_startByFrames_2 : decode cX7_startByFrames 2 = .ok (.invokevirtual 147, 3) := by decide +kernel
theorem dX7_startByFrames_5 : decode cX7_startByFrames 5 = .ok (.ifCond .eq 12, 3) := by decide +kernel
theorem dX7_startByFrames_8 : decode cX7_startByFrames 8 = .ok (.aload_n 0, 1) := by decide +kernel
theorem dX7_startByFrames_9 : decode cX7_startByFrames 9 = .ok (.getfield 28, 3) := by decide +kernel
theorem dX7_startByFrames_12 : decode cX7_startByFrames 12 = .ok (.iload_n 1, 1) := by decide +kernel
theorem dX7_startByFrames_13 : decode cX7_startByFrames 13 = .ok (.iaload, 1) := by decide +kernel
theorem dX7_startByFrames_14 : decode cX7_startByFrames 14 = .ok (.goto 4, 3) := by decide +kernel
theorem dX7_startByFrames_17 : decode cX7_startByFrames 17 = .ok (.iconst 0, 1) := by decide +kernel
theorem dX7_startByFrames_18 : decode cX7_startByFrames 18 = .ok (.ireturn, 1) := by decide +kernel
theorem dX7_isAhead_0 : decode cX7_isAhead 0 = .ok (.aload_n 0, 1) := by decide +kernel
theorem dX7_isAhead_1 : decode cX7_isAhead 1 = .ok (.getfield 28, 3) := by decide +kernel
theorem dX7_isAhead_4 : decode cX7_isAhead 4 = .ok (.iload_n 1, 1) := by decide +kernel
theorem dX7_isAhead_5 : decode cX7_isAhead 5 = .ok (.iaload, 1) := by decide +kernel
theorem dX7_isAhead_6 : decode cX7_isAhead 6 = .ok (.aload_n 0, 1) := by decide +kernel
theorem dX7_isAhead_7 : decode cX7_isAhead 7 = .ok (.getfield 28, 3) := by decide +kernel
theorem dX7_isAhead_10 : decode cX7_isAhead 10 = .ok (.iload_n 2, 1) := by decide +kernel
theorem dX7_isAhead_11 : decode cX7_isAhead 11 = .ok (.iaload, 1) := by decide +kernel
theorem dX7_isAhead_12 : decode cX7_isAhead 12 = .ok (.if_icmp .lt 23, 3) := by decide +kernel
theorem dX7_isAhead_15 : decode cX7_isAhead 15 = .ok (.aload_n 0, 1) := by decide +kernel
theorem dX7_isAhead_16 : decode cX7_isAhead 16 = .ok (.getfield 28, 3) := by decide +kernel
theorem dX7_isAhead_19 : decode cX7_isAhead 19 = .ok (.iload_n 1, 1) := by decide +kernel
theorem dX7_isAhead_20 : decode cX7_isAhead 20 = .ok (.iaload, 1) := by decide +kernel
theorem dX7_isAhead_21 : decode cX7_isAhead 21 = .ok (.aload_n 0, 1) := by decide +kernel
theorem dX7_isAhead_22 : decode cX7_isAhead 22 = .ok (.getfield 28, 3) := by decide +kernel
theorem dX7_isAhead_25 : decode cX7_isAhead 25 = .ok (.iload_n 2, 1) := by decide +kernel
theorem dX7_isAhead_26 : decode cX7_isAhead 26 = .ok (.iaload, 1) := by decide +kernel
theorem dX7_isAhead_27 : decode cX7_isAhead 27 = .ok (.if_icmp .ne 12, 3) := by decide +kernel
theorem dX7_isAhead_30 : decode cX7_isAhead 30 = .ok (.iload_n 1, 1) := by decide +kernel
theorem dX7_isAhead_31 : decode cX7_isAhead 31 = .ok (.iload_n 2, 1) := by decide +kernel
theorem dX7_isAhead_32 : decode cX7_isAhead 32 = .ok (.if_icmp .ge 7, 3) := by decide +kernel
theorem dX7_isAhead_35 : decode cX7_isAhead 35 = .ok (.iconst 1, 1) := by decide +kernel
theorem dX7_isAhead_36 : decode cX7_isAhead 36 = .ok (.goto 4, 3) := by decide +kernel
theorem dX7_isAhead_39 : decode cX7_isAhead 39 = .ok (.iconst 0, 1) := by decide +kernel
theorem dX7_isAhead_40 : decode cX7_isAhead 40 = .ok (.ireturn, 1) := by decide +kernel
theorem dX7_captionAt_0 : decode cX7_captionAt 0 = .ok (.iconst (-1), 1) := by decide +kernel
theorem dX7_captionAt_1 : decode cX7_captionAt 1 = .ok (.istore_n 2, 1) := by decide +kernel
theorem dX7_captionAt_2 : decode cX7_captionAt 2 = .ok (.iconst 0, 1) := by decide +kernel
theorem dX7_captionAt_3 : decode cX7_captionAt 3 = .ok (.istore_n 3, 1) := by decide +kernel
theorem dX7_captionAt_4 : decode cX7_captionAt 4 = .ok (.iload_n 3, 1) := by decide +kernel
theorem dX7_captionAt_5 : decode cX7_captionAt 5 = .ok (.aload_n 0, 1) := by decide +kernel
theorem dX7_captionAt_6 : decode cX7_captionAt 6 = .ok (.getfield 100, 3) := by decide +kernel
theorem dX7_captionAt_9 : decode cX7_captionAt 9 = .ok (.if_icmp .ge 83, 3) := by decide +kernel
theorem dX7_captionAt_12 : decode cX7_captionAt 12 = .ok (.iconst 0, 1) := by decide +kernel
theorem dX7_captionAt_13 : decode cX7_captionAt 13 = .ok (.istore 4, 2) := by decide +kernel
theorem dX7_captionAt_15 : decode cX7_captionAt 15 = .ok (.iconst 0, 1) := by decide +kernel
theorem dX7_captionAt_16 : decode cX7_captionAt 16 = .ok (.istore 5, 2) := by decide +kernel
theorem dX7_captionAt_18 : decode cX7_captionAt 18 = .ok (.iload 5, 2) := by decide +kernel
theorem dX7_captionAt_20 : decode cX7_captionAt 20 = .ok (.aload_n 0, 1) := by decide +kernel
theorem dX7_captionAt_21 : decode cX7_captionAt 21 = .ok (.getfield 100, 3) := by decide +kernel
theorem dX7_captionAt_24 : decode cX7_captionAt 24 = .ok (.if_icmp .ge 40, 3) := by decide +kernel
theorem dX7_captionAt_27 : decode cX7_captionAt 27 = .ok (.iload 4, 2) := by decide +kernel
theorem dX7_captionAt_29 : decode cX7_captionAt 29 = .ok (.aload_n 0, 1) := by decide +kernel
theorem dX7_captionAt_30 : decode cX7_captionAt 30 = .ok (.getfield 28, 3) := by decide +kernel
theorem dX7_captionAt_33 : decode cX7_captionAt 33 = .ok (.iload 5, 2) := by decide +kernel
theorem dX7_captionAt_35 : decode cX7_captionAt 35 = .ok (.iaload, 1) := by decide +kernel
theorem dX7_captionAt_36 : decode cX7_captionAt 36 = .ok (.iconst (-1), 1) := by decide +kernel
theorem dX7_captionAt_37 : decode cX7_captionAt 37 = .ok (.if_icmp .eq 17, 3) := by decide +kernel
theorem dX7_captionAt_40 : decode cX7_captionAt 40 = .ok (.aload_n 0, 1) := by decide +kernel
theorem dX7_captionAt_41 : decode cX7_captionAt 41 = .ok (.iload 5, 2) := by decide +kernel
theorem dX7_captionAt_43 : decode cX7_captionAt 43 = .ok (.iload_n 3, 1) := by decide +kernel
theorem dX7_captionAt_44 : decode cX7_captionAt 44 = .ok (.invokevirtual 150, 3) := by decide +kernel
theorem dX7_captionAt_47 : decode cX7_captionAt 47 = .ok (.ifCond .eq 7, 3) := by decide +kernel
theorem dX7_captionAt_50 : decode cX7_captionAt 50 = .ok (.iconst 1, 1) := by decide +kernel
theorem dX7_captionAt_51 : decode cX7_captionAt 51 = .ok (.goto 4, 3) := by decide +kernel
theorem dX7_captionAt_54 : decode cX7_captionAt 54 = .ok (.iconst 0, 1) := by decide +kernel
theorem dX7_captionAt_55 : decode cX7_captionAt 55 = .ok (.iadd, 1) := by decide +kernel
theorem dX7_captionAt_56 : decode cX7_captionAt 56 = .ok (.istore 4, 2) := by decide +kernel
theorem dX7_captionAt_58 : decode cX7_captionAt 58 = .ok (.iinc 5 1, 3) := by decide +kernel
theorem dX7_captionAt_61 : decode cX7_captionAt 61 = .ok (.goto (-43), 3) := by decide +kernel
theorem dX7_captionAt_64 : decode cX7_captionAt 64 = .ok (.aload_n 0, 1) := by decide +kernel
theorem dX7_captionAt_65 : decode cX7_captionAt 65 = .ok (.getfield 28, 3) := by decide +kernel
theorem dX7_captionAt_68 : decode cX7_captionAt 68 = .ok (.iload_n 3, 1) := by decide +kernel
theorem dX7_captionAt_69 : decode cX7_captionAt 69 = .ok (.iaload, 1) := by decide +kernel
theorem dX7_captionAt_70 : decode cX7_captionAt 70 = .ok (.iconst (-1), 1) := by decide +kernel
theorem dX7_captionAt_71 : decode cX7_captionAt 71 = .ok (.if_icmp .eq 13, 3) := by decide +kernel
theorem dX7_captionAt_74 : decode cX7_captionAt 74 = .ok (.iload 4, 2) := by decide +kernel
theorem dX7_captionAt_76 : decode cX7_captionAt 76 = .ok (.iload_n 1, 1) := by decide +kernel
theorem dX7_captionAt_77 : decode cX7_captionAt 77 = .ok (.if_icmp .ne 7, 3) := by decide +kernel
theorem dX7_captionAt_80 : decode cX7_captionAt 80 = .ok (.iload_n 3, 1) := by decide +kernel
theorem dX7_captionAt_81 : decode cX7_captionAt 81 = .ok (.goto 4, 3) := by decide +kernel
theorem dX7_captionAt_84 : decode cX7_captionAt 84 = .ok (.iload_n 2, 1) := by decide +kernel
theorem dX7_captionAt_85 : decode cX7_captionAt 85 = .ok (.istore_n 2, 1) := by decide +kernel
theorem dX7_captionAt_86 : decode cX7_captionAt 86 = .ok (.iinc 3 1, 3) := by decide +kernel
theorem dX7_captionAt_89 : decode cX7_captionAt 89 = .ok (.goto (-85), 3) := by decide +kernel
theorem dX7_captionAt_92 : decode cX7_captionAt 92 = .ok (.iload_n 2, 1) := by decide +kernel
theorem dX7_captionAt_93 : decode cX7_captionAt 93 = .ok (.ireturn, 1) := by decide +kernel
theorem dX7_inOrder_0 : decode cX7_inOrder 0 = .ok (.aload_n 0, 1) := by decide +kernel
theorem dX7_inOrder_1 : decode cX7_inOrder 1 = .ok (.iload_n 1, 1) := by decide +kernel
theorem dX7_inOrder_2 : decode cX7_inOrder 2 = .ok (.ifCond .ge 7, 3) := by decide +kernel
theorem dX7_inOrder_5 : decode cX7_inOrder 5 = .ok (.iconst 1, 1) := by decide +kernel
theorem dX7_inOrder_6 : decode cX7_inOrder 6 = .ok (.goto 4, 3) := by decide +kernel
theorem dX7_inOrder_9 : decode cX7_inOrder 9 = .ok (.iconst 0, 1) := by decide +kernel
theorem dX7_inOrder_10 : decode cX7_inOrder 10 = .ok (.putfield 87, 3) := by decide +kernel
theorem dX7_inOrder_13 : decode cX7_inOrder 13 = .ok (.aload_n 0, 1) := by decide +kernel
theorem dX7_inOrder_14 : decode cX7_inOrder 14 = .ok (.getfield 87, 3) := by decide +kernel
theorem dX7_inOrder_17 : decode cX7_inOrder 17 = .ok (.ifCond .le 7, 3) := by decide +kernel
theorem dX7_inOrder_20 : decode cX7_inOrder 20 = .ok (.iconst 0, 1) := by decide +kernel
theorem dX7_inOrder_21 : decode cX7_inOrder 21 = .ok (.goto 8, 3) := by decide +kernel
theorem dX7_inOrder_24 : decode cX7_inOrder 24 = .ok (.aload_n 0, 1) := by decide +kernel
theorem dX7_inOrder_25 : decode cX7_inOrder 25 = .ok (.iload_n 1, 1) := by decide +kernel
theorem dX7_inOrder_26 : decode cX7_inOrder 26 = .ok (.invokevirtual 153, 3) := by decide +kernel
theorem dX7_inOrder_29 : decode cX7_inOrder 29 = .ok (.ireturn, 1) := by decide +kernel
theorem dX7_asks_0 : decode cX7_asks 0 = .ok (.aload_n 0, 1) := by decide +kernel
theorem dX7_asks_1 : decode cX7_asks 1 = .ok (.aload_n 0, 1) := by decide +kernel
theorem dX7_asks_2 : decode cX7_asks 2 = .ok (.iload_n 1, 1) := by decide +kernel
theorem dX7_asks_3 : decode cX7_asks 3 = .ok (.iload_n 2, 1) := by decide +kernel
theorem dX7_asks_4 : decode cX7_asks 4 = .ok (.invokevirtual 157, 3) := by decide +kernel
theorem dX7_asks_7 : decode cX7_asks 7 = .ok (.ifCond .eq 7, 3) := by decide +kernel
theorem dX7_asks_10 : decode cX7_asks 10 = .ok (.iconst 0, 1) := by decide +kernel
theorem dX7_asks_11 : decode cX7_asks 11 = .ok (.goto 4, 3) := by decide +kernel
theorem dX7_asks_14 : decode cX7_asks 14 = .ok (.iconst 1, 1) := by decide +kernel
theorem dX7_asks_15 : decode cX7_asks 15 = .ok (.putfield 87, 3) := by decide +kernel
theorem dX7_asks_18 : decode cX7_asks 18 = .ok (.aload_n 0, 1) := by decide +kernel
theorem dX7_asks_19 : decode cX7_asks 19 = .ok (.getfield 87, 3) := by decide +kernel
theorem dX7_asks_22 : decode cX7_asks 22 = .ok (.ifCond .ne 7, 3) := by decide +kernel
theorem dX7_asks_25 : decode cX7_asks 25 = .ok (.iconst 1, 1) := by decide +kernel
theorem dX7_asks_26 : decode cX7_asks 26 = .ok (.goto 4, 3) := by decide +kernel
theorem dX7_asks_29 : decode cX7_asks 29 = .ok (.iconst 0, 1) := by decide +kernel
theorem dX7_asks_30 : decode cX7_asks 30 = .ok (.ireturn, 1) := by decide +kernel
theorem dX7_isSign_0 : decode cX7_isSign 0 = .ok (.iload_n 0, 1) := by decide +kernel
theorem dX7_isSign_1 : decode cX7_isSign 1 = .ok (.bipush 10, 2) := by decide +kernel
theorem dX7_isSign_3 : decode cX7_isSign 3 = .ok (.if_icmp .eq 25, 3) := by decide +kernel
theorem dX7_isSign_6 : decode cX7_isSign 6 = .ok (.iload_n 0, 1) := by decide +kernel
theorem dX7_isSign_7 : decode cX7_isSign 7 = .ok (.bipush 32, 2) := by decide +kernel
theorem dX7_isSign_9 : decode cX7_isSign 9 = .ok (.ldc 160, 2) := by decide +kernel
theorem dX7_isSign_11 : decode cX7_isSign 11 = .ok (.invokestatic 93, 3) := by decide +kernel
theorem dX7_isSign_14 : decode cX7_isSign 14 = .ok (.ifCond .ne 14, 3) := by decide +kernel
theorem dX7_isSign_17 : decode cX7_isSign 17 = .ok (.iload_n 0, 1) := by decide +kernel
theorem dX7_isSign_18 : decode cX7_isSign 18 = .ok (.ldc 161, 2) := by decide +kernel
theorem dX7_isSign_20 : decode cX7_isSign 20 = .ok (.ldc 162, 2) := by decide +kernel
theorem dX7_isSign_22 : decode cX7_isSign 22 = .ok (.invokestatic 93, 3) := by decide +kernel
theorem dX7_isSign_25 : decode cX7_isSign 25 = .ok (.ifCond .eq 7, 3) := by decide +kernel
theorem dX7_isSign_28 : decode cX7_isSign 28 = .ok (.iconst 1, 1) := by decide +kernel
theorem dX7_isSign_29 : decode cX7_isSign 29 = .ok (.goto 4, 3) := by decide +kernel
theorem dX7_isSign_32 : decode cX7_isSign 32 = .ok (.iconst 0, 1) := by decide +kernel
theorem dX7_isSign_33 : decode cX7_isSign 33 = .ok (.ireturn, 1) := by decide +kernel
theorem dX7_marks_0 : decode cX7_marks 0 = .ok (.aload_n 0, 1) := by decide +kernel
theorem dX7_marks_1 : decode cX7_marks 1 = .ok (.dup, 1) := by decide +kernel
theorem dX7_marks_2 : decode cX7_marks 2 = .ok (.getfield 163, 3) := by decide +kernel
theorem dX7_marks_5 : decode cX7_marks 5 = .ok (.iconst 1, 1) := by decide +kernel
theorem dX7_marks_6 : decode cX7_marks 6 = .ok (.iadd, 1) := by decide +kernel
theorem dX7_marks_7 : decode cX7_marks 7 = .ok (.putfield 163, 3) := by decide +kernel
theorem dX7_marks_10 : decode cX7_marks 10 = .ok (.aload_n 0, 1) := by decide +kernel
theorem dX7_marks_11 : decode cX7_marks 11 = .ok (.getfield 46, 3) := by decide +kernel
theorem dX7_marks_14 : decode cX7_marks 14 = .ok (.iconst 3, 1) := by decide +kernel
theorem dX7_marks_15 : decode cX7_marks 15 = .ok (.iload_n 1, 1) := by decide +kernel
theorem dX7_marks_16 : decode cX7_marks 16 = .ok (.imul, 1) := by decide +kernel
theorem dX7_marks_17 : decode cX7_marks 17 = .ok (.iload_n 2, 1) := by decide +kernel
theorem dX7_marks_18 : decode cX7_marks 18 = .ok (.iadd, 1) := by decide +kernel
theorem dX7_marks_19 : decode cX7_marks 19 = .ok (.aload_n 0, 1) := by decide +kernel
theorem dX7_marks_20 : decode cX7_marks 20 = .ok (.getfield 163, 3) := by decide +kernel
theorem dX7_marks_23 : decode cX7_marks 23 = .ok (.iastore, 1) := by decide +kernel
theorem dX7_marks_24 : decode cX7_marks 24 = .ok (.return_, 1) := by decide +kernel
theorem dX7_type_0 : decode cX7_type 0 = .ok (.aload_n 0, 1) := by decide +kernel
theorem dX7_type_1 : decode cX7_type 1 = .ok (.aload_n 0, 1) := by decide +kernel
theorem dX7_type_2 : decode cX7_type 2 = .ok (.iload_n 1, 1) := by decide +kernel
theorem dX7_type_3 : decode cX7_type 3 = .ok (.iload_n 2, 1) := by decide +kernel
theorem dX7_type_4 : decode cX7_type 4 = .ok (.invokevirtual 157, 3) := by decide +kernel
theorem dX7_type_7 : decode cX7_type 7 = .ok (.ifCond .ne 7, 3) := by decide +kernel
theorem dX7_type_10 : decode cX7_type 10 = .ok (.iconst 1, 1) := by decide +kernel
theorem dX7_type_11 : decode cX7_type 11 = .ok (.goto 34, 3) := by decide +kernel
theorem dX7_type_14 : decode cX7_type 14 = .ok (.iload_n 3, 1) := by decide +kernel
theorem dX7_type_15 : decode cX7_type 15 = .ok (.invokestatic 166, 3) := by decide +kernel
theorem dX7_type_18 : decode cX7_type 18 = .ok (.ifCond .ne 7, 3) := by decide +kernel
theorem dX7_type_21 : decode cX7_type 21 = .ok (.iconst 2, 1) := by decide +kernel
theorem dX7_type_22 : decode cX7_type 22 = .ok (.goto 23, 3) := by decide +kernel
theorem dX7_type_25 : decode cX7_type 25 = .ok (.aload_n 0, 1) := by decide +kernel
theorem dX7_type_26 : decode cX7_type 26 = .ok (.getfield 40, 3) := by decide +kernel
theorem dX7_type_29 : decode cX7_type 29 = .ok (.iconst 3, 1) := by decide +kernel
theorem dX7_type_30 : decode cX7_type 30 = .ok (.iload_n 1, 1) := by decide +kernel
theorem dX7_type_31 : decode cX7_type 31 = .ok (.imul, 1) := by decide +kernel
theorem dX7_type_32 : decode cX7_type 32 = .ok (.iload_n 2, 1) := by decide +kernel
theorem dX7_type_33 : decode cX7_type 33 = .ok (.iadd, 1) := by decide +kernel
theorem dX7_type_34 : decode cX7_type 34 = .ok (.iaload, 1) := by decide +kernel
theorem dX7_type_35 : decode cX7_type 35 = .ok (.bipush 60, 2) := by decide +kernel
theorem dX7_type_37 : decode cX7_type 37 = .ok (.if_icmp .ne 7, 3) := by decide +kernel
theorem dX7_type_40 : decode cX7_type 40 = .ok (.iconst 3, 1) := by decide +kernel
theorem dX7_type_41 : decode cX7_type 41 = .ok (.goto 4, 3) := by decide +kernel
theorem dX7_type_44 : decode cX7_type 44 = .ok (.iconst 0, 1) := by decide +kernel
theorem dX7_type_45 : decode cX7_type 45 = .ok (.putfield 87, 3) := by decide +kernel
theorem dX7_type_48 : decode cX7_type 48 = .ok (.aload_n 0, 1) := by decide +kernel
theorem dX7_type_49 : decode cX7_type 49 = .ok (.getfield 87, 3) := by decide +kernel
theorem dX7_type_52 : decode cX7_type 52 = .ok (.ifCond .le 5, 3) := by decide +kernel
theorem dX7_type_55 : decode cX7_type 55 = .ok (.iconst 0, 1) := by decide +kernel
theorem dX7_type_56 : decode cX7_type 56 = .ok (.ireturn, 1) := by decide +kernel
theorem dX7_type_57 : decode cX7_type 57 = .ok (.iconst 3, 1) := by decide +kernel
theorem dX7_type_58 : decode cX7_type 58 = .ok (.iload_n 1, 1) := by decide +kernel
theorem dX7_type_59 : decode cX7_type 59 = .ok (.imul, 1) := by decide +kernel
theorem dX7_type_60 : decode cX7_type 60 = .ok (.iload_n 2, 1) := by decide +kernel
theorem dX7_type_61 : decode cX7_type 61 = .ok (.iadd, 1) := by decide +kernel
theorem dX7_type_62 : decode cX7_type 62 = .ok (.istore 4, 2) := by decide +kernel
theorem dX7_type_64 : decode cX7_type 64 = .ok (.aload_n 0, 1) := by decide +kernel
theorem dX7_type_65 : decode cX7_type 65 = .ok (.getfield 43, 3) := by decide +kernel
theorem dX7_type_68 : decode cX7_type 68 = .ok (.bipush 60, 2) := by decide +kernel
theorem dX7_type_70 : decode cX7_type 70 = .ok (.iload 4, 2) := by decide +kernel
theorem dX7_type_72 : decode cX7_type 72 = .ok (.imul, 1) := by decide +kernel
theorem dX7_type_73 : decode cX7_type 73 = .ok (.aload_n 0, 1) := by decide +kernel
theorem dX7_type_74 : decode cX7_type 74 = .ok (.getfield 40, 3) := by decide +kernel
theorem dX7_type_77 : decode cX7_type 77 = .ok (.iload 4, 2) := by decide +kernel
theorem dX7_type_79 : decode cX7_type 79 = .ok (.iaload, 1) := by decide +kernel
theorem dX7_type_80 : decode cX7_type 80 = .ok (.iadd, 1) := by decide +kernel
theorem dX7_type_81 : decode cX7_type 81 = .ok (.iload_n 3, 1) := by decide +kernel
theorem dX7_type_82 : decode cX7_type 82 = .ok (.iastore, 1) := by decide +kernel
theorem dX7_type_83 : decode cX7_type 83 = .ok (.aload_n 0, 1) := by decide +kernel
theorem dX7_type_84 : decode cX7_type 84 = .ok (.getfield 40, 3) := by decide +kernel
theorem dX7_type_87 : decode cX7_type 87 = .ok (.iload 4, 2) := by decide +kernel
theorem dX7_type_89 : decode cX7_type 89 = .ok (.dup2, 1) := by decide +kernel
theorem dX7_type_90 : decode cX7_type 90 = .ok (.iaload, 1) := by decide +kernel
theorem dX7_type_91 : decode cX7_type 91 = .ok (.iconst 1, 1) := by decide +kernel
theorem dX7_type_92 : decode cX7_type 92 = .ok (.iadd, 1) := by decide +kernel
theorem dX7_type_93 : decode cX7_type 93 = .ok (.iastore, 1) := by decide +kernel
theorem dX7_type_94 : decode cX7_type 94 = .ok (.aload_n 0, 1) := by decide +kernel
theorem dX7_type_95 : decode cX7_type 95 = .ok (.iload_n 1, 1) := by decide +kernel
theorem dX7_type_96 : decode cX7_type 96 = .ok (.iload_n 2, 1) := by decide +kernel
theorem dX7_type_97 : decode cX7_type 97 = .ok (.invokevirtual 169, 3) := by decide +kernel
theorem dX7_type_100 : decode cX7_type 100 = .ok (.aload_n 0, 1) := by decide +kernel
theorem dX7_type_101 : decode cX7_type 101 = .ok (.iload_n 1, 1) := by decide +kernel
theorem dX7_type_102 : decode cX7_type 102 = .ok (.iload_n 2, 1) := by decide +kernel
theorem dX7_type_103 : decode cX7_type 103 = .ok (.invokevirtual 137, 3) := by decide +kernel
theorem dX7_type_106 : decode cX7_type 106 = .ok (.aload_n 0, 1) := by decide +kernel
theorem dX7_type_107 : decode cX7_type 107 = .ok (.getfield 40, 3) := by decide +kernel
theorem dX7_type_110 : decode cX7_type 110 = .ok (.iload 4, 2) := by decide +kernel
theorem dX7_type_112 : decode cX7_type 112 = .ok (.iaload, 1) := by decide +kernel
theorem dX7_type_113 : decode cX7_type 113 = .ok (.ireturn, 1) := by decide +kernel
theorem dX7_erase_0 : decode cX7_erase 0 = .ok (.aload_n 0, 1) := by decide +kernel
theorem dX7_erase_1 : decode cX7_erase 1 = .ok (.aload_n 0, 1) := by decide +kernel
theorem dX7_erase_2 : decode cX7_erase 2 = .ok (.iload_n 1, 1) := by decide +kernel
theorem dX7_erase_3 : decode cX7_erase 3 = .ok (.iload_n 2, 1) := by decide +kernel
theorem dX7_erase_4 : decode cX7_erase 4 = .ok (.invokevirtual 157, 3) := by decide +kernel
theorem dX7_erase_7 : decode cX7_erase 7 = .ok (.ifCond .ne 7, 3) := by decide +kernel
theorem dX7_erase_10 : decode cX7_erase 10 = .ok (.iconst 1, 1) := by decide +kernel
theorem dX7_erase_11 : decode cX7_erase 11 = .ok (.goto 21, 3) := by decide +kernel
theorem dX7_erase_14 : decode cX7_erase 14 = .ok (.aload_n 0, 1) := by decide +kernel
theorem dX7_erase_15 : decode cX7_erase 15 = .ok (.getfield 40, 3) := by decide +kernel
theorem dX7_erase_18 : decode cX7_erase 18 = .ok (.iconst 3, 1) := by decide +kernel
theorem dX7_erase_19 : decode cX7_erase 19 = .ok (.iload_n 1, 1) := by decide +kernel
theorem dX7_erase_20 : decode cX7_erase 20 = .ok (.imul, 1) := by decide +kernel
theorem dX7_erase_21 : decode cX7_erase 21 = .ok (.iload_n 2, 1) := by decide +kernel
theorem dX7_erase_22 : decode cX7_erase 22 = .ok (.iadd, 1) := by decide +kernel
theorem dX7_erase_23 : decode cX7_erase 23 = .ok (.iaload, 1) := by decide +kernel
theorem dX7_erase_24 : decode cX7_erase 24 = .ok (.ifCond .ne 7, 3) := by decide +kernel
theorem dX7_erase_27 : decode cX7_erase 27 = .ok (.iconst 2, 1) := by decide +kernel
theorem dX7_erase_28 : decode cX7_erase 28 = .ok (.goto 4, 3) := by decide +kernel
theorem dX7_erase_31 : decode cX7_erase 31 = .ok (.iconst 0, 1) := by decide +kernel
theorem dX7_erase_32 : decode cX7_erase 32 = .ok (.putfield 87, 3) := by decide +kernel
theorem dX7_erase_35 : decode cX7_erase 35 = .ok (.aload_n 0, 1) := by decide +kernel
theorem dX7_erase_36 : decode cX7_erase 36 = .ok (.getfield 87, 3) := by decide +kernel
theorem dX7_erase_39 : decode cX7_erase 39 = .ok (.ifCond .le 5, 3) := by decide +kernel
theorem dX7_erase_42 : decode cX7_erase 42 = .ok (.iconst 0, 1) := by decide +kernel
theorem dX7_erase_43 : decode cX7_erase 43 = .ok (.ireturn, 1) := by decide +kernel
theorem dX7_erase_44 : decode cX7_erase 44 = .ok (.iconst 3, 1) := by decide +kernel
theorem dX7_erase_45 : decode cX7_erase 45 = .ok (.iload_n 1, 1) := by decide +kernel
theorem dX7_erase_46 : decode cX7_erase 46 = .ok (.imul, 1) := by decide +kernel
theorem dX7_erase_47 : decode cX7_erase 47 = .ok (.iload_n 2, 1) := by decide +kernel
theorem dX7_erase_48 : decode cX7_erase 48 = .ok (.iadd, 1) := by decide +kernel
theorem dX7_erase_49 : decode cX7_erase 49 = .ok (.istore_n 3, 1) := by decide +kernel
theorem dX7_erase_50 : decode cX7_erase 50 = .ok (.aload_n 0, 1) := by decide +kernel
theorem dX7_erase_51 : decode cX7_erase 51 = .ok (.getfield 40, 3) := by decide +kernel
theorem dX7_erase_54 : decode cX7_erase 54 = .ok (.iload_n 3, 1) := by decide +kernel
theorem dX7_erase_55 : decode cX7_erase 55 = .ok (.dup2, 1) := by decide +kernel
theorem dX7_erase_56 : decode cX7_erase 56 = .ok (.iaload, 1) := by decide +kernel
theorem dX7_erase_57 : decode cX7_erase 57 = .ok (.iconst 1, 1) := by decide +kernel
theorem dX7_erase_58 : decode cX7_erase 58 = .ok (.isub, 1) := by decide +kernel
theorem dX7_erase_59 : decode cX7_erase 59 = .ok (.iastore, 1) := by decide +kernel
theorem dX7_erase_60 : decode cX7_erase 60 = .ok (.aload_n 0, 1) := by decide +kernel
theorem dX7_erase_61 : decode cX7_erase 61 = .ok (.iload_n 1, 1) := by decide +kernel
theorem dX7_erase_62 : decode cX7_erase 62 = .ok (.iload_n 2, 1) := by decide +kernel
theorem dX7_erase_63 : decode cX7_erase 63 = .ok (.invokevirtual 169, 3) := by decide +kernel
theorem dX7_erase_66 : decode cX7_erase 66 = .ok (.aload_n 0, 1) := by decide +kernel
theorem dX7_erase_67 : decode cX7_erase 67 = .ok (.iload_n 1, 1) := by decide +kernel
theorem dX7_erase_68 : decode cX7_erase 68 = .ok (.iload_n 2, 1) := by decide +kernel
theorem dX7_erase_69 : decode cX7_erase 69 = .ok (.invokevirtual 137, 3) := by decide +kernel
theorem dX7_erase_72 : decode cX7_erase 72 = .ok (.aload_n 0, 1) := by decide +kernel
theorem dX7_erase_73 : decode cX7_erase 73 = .ok (.getfield 43, 3) := by decide +kernel
theorem dX7_erase_76 : decode cX7_erase 76 = .ok (.bipush 60, 2) := by decide +kernel
theorem dX7_erase_78 : decode cX7_erase 78 = .ok (.iload_n 3, 1) := by decide +kernel
theorem dX7_erase_79 : decode cX7_erase 79 = .ok (.imul, 1) := by decide +kernel
theorem dX7_erase_80 : decode cX7_erase 80 = .ok (.aload_n 0, 1) := by decide +kernel
theorem dX7_erase_81 : decode cX7_erase 81 = .ok (.getfield 40, 3) := by decide +kernel
theorem dX7_erase_84 : decode cX7_erase 84 = .ok (.iload_n 3, 1) := by decide +kernel
theorem dX7_erase_85 : decode cX7_erase 85 = .ok (.iaload, 1) := by decide +kernel
theorem dX7_erase_86 : decode cX7_erase 86 = .ok (.iadd, 1) := by decide +kernel
theorem dX7_erase_87 : decode cX7_erase 87 = .ok (.iaload, 1) := by decide +kernel
theorem dX7_erase_88 : decode cX7_erase 88 = .ok (.ireturn, 1) := by decide +kernel
theorem dX7_signs_0 : decode cX7_signs 0 = .ok (.aload_n 0, 1) := by decide +kernel
theorem dX7_signs_1 : decode cX7_signs 1 = .ok (.iload_n 1, 1) := by decide +kernel
theorem dX7_signs_2 : decode cX7_signs 2 = .ok (.iload_n 2, 1) := by decide +kernel
theorem dX7_signs_3 : decode cX7_signs 3 = .ok (.invokevirtual 172, 3) := by decide +kernel
theorem dX7_signs_6 : decode cX7_signs 6 = .ok (.ifCond .eq 16, 3) := by decide +kernel
theorem dX7_signs_9 : decode cX7_signs 9 = .ok (.aload_n 0, 1) := by decide +kernel
theorem dX7_signs_10 : decode cX7_signs 10 = .ok (.getfield 40, 3) := by decide +kernel
theorem dX7_signs_13 : decode cX7_signs 13 = .ok (.iconst 3, 1) := by decide +kernel
theorem dX7_signs_14 : decode cX7_signs 14 = .ok (.iload_n 1, 1) := by decide +kernel
theorem dX7_signs_15 : decode cX7_signs 15 = .ok (.imul, 1) := by decide +kernel
theorem dX7_signs_16 : decode cX7_signs 16 = .ok (.iload_n 2, 1) := by decide +kernel
theorem dX7_signs_17 : decode cX7_signs 17 = .ok (.iadd, 1) := by decide +kernel
theorem dX7_signs_18 : decode cX7_signs 18 = .ok (.iaload, 1) := by decide +kernel
theorem dX7_signs_19 : decode cX7_signs 19 = .ok (.goto 4, 3) := by decide +kernel
theorem dX7_signs_22 : decode cX7_signs 22 = .ok (.iconst 0, 1) := by decide +kernel
theorem dX7_signs_23 : decode cX7_signs 23 = .ok (.ireturn, 1) := by decide +kernel
theorem dX7_signAt_0 : decode cX7_signAt 0 = .ok (.aload_n 0, 1) := by decide +kernel
theorem dX7_signAt_1 : decode cX7_signAt 1 = .ok (.aload_n 0, 1) := by decide +kernel
theorem dX7_signAt_2 : decode cX7_signAt 2 = .ok (.iload_n 1, 1) := by decide +kernel
theorem dX7_signAt_3 : decode cX7_signAt 3 = .ok (.iload_n 2, 1) := by decide +kernel
theorem dX7_signAt_4 : decode cX7_signAt 4 = .ok (.invokevirtual 157, 3) := by decide +kernel
theorem dX7_signAt_7 : decode cX7_signAt 7 = .ok (.ifCond .eq 27, 3) := by decide +kernel
theorem dX7_signAt_10 : decode cX7_signAt 10 = .ok (.iload_n 3, 1) := by decide +kernel
theorem dX7_signAt_11 : decode cX7_signAt 11 = .ok (.iconst 0, 1) := by decide +kernel
theorem dX7_signAt_12 : decode cX7_signAt 12 = .ok (.aload_n 0, 1) := by decide +kernel
theorem dX7_signAt_13 : decode cX7_signAt 13 = .ok (.getfield 40, 3) := by decide +kernel
theorem dX7_signAt_16 : decode cX7_signAt 16 = .ok (.iconst 3, 1) := by decide +kernel
theorem dX7_signAt_17 : decode cX7_signAt 17 = .ok (.iload_n 1, 1) := by decide +kernel
theorem dX7_signAt_18 : decode cX7_signAt 18 = .ok (.imul, 1) := by decide +kernel
theorem dX7_signAt_19 : decode cX7_signAt 19 = .ok (.iload_n 2, 1) := by decide +kernel
theorem dX7_signAt_20 : decode cX7_signAt 20 = .ok (.iadd, 1) := by decide +kernel
theorem dX7_signAt_21 : decode cX7_signAt 21 = .ok (.iaload, 1) := by decide +kernel
theorem dX7_signAt_22 : decode cX7_signAt 22 = .ok (.iconst 1, 1) := by decide +kernel
theorem dX7_signAt_23 : decode cX7_signAt 23 = .ok (.isub, 1) := by decide +kernel
theorem dX7_signAt_24 : decode cX7_signAt 24 = .ok (.invokestatic 93, 3) := by decide +kernel
theorem dX7_signAt_27 : decode cX7_signAt 27 = .ok (.ifCond .eq 7, 3) := by decide +kernel
theorem dX7_signAt_30 : decode cX7_signAt 30 = .ok (.iconst 0, 1) := by decide +kernel
theorem dX7_signAt_31 : decode cX7_signAt 31 = .ok (.goto 4, 3) := by decide +kernel
theorem dX7_signAt_34 : decode cX7_signAt 34 = .ok (.iconst 1, 1) := by decide +kernel
theorem dX7_signAt_35 : decode cX7_signAt 35 = .ok (.putfield 87, 3) := by decide +kernel
theorem dX7_signAt_38 : decode cX7_signAt 38 = .ok (.aload_n 0, 1) := by decide +kernel
theorem dX7_signAt_39 : decode cX7_signAt 39 = .ok (.getfield 87, 3) := by decide +kernel
theorem dX7_signAt_42 : decode cX7_signAt 42 = .ok (.ifCond .le 7, 3) := by decide +kernel
theorem dX7_signAt_45 : decode cX7_signAt 45 = .ok (.iconst 0, 1) := by decide +kernel
theorem dX7_signAt_46 : decode cX7_signAt 46 = .ok (.goto 18, 3) := by decide +kernel
theorem dX7_signAt_49 : decode cX7_signAt 49 = .ok (.aload_n 0, 1) := by decide +kernel
theorem dX7_signAt_50 : decode cX7_signAt 50 = .ok (.getfield 43, 3) := by decide +kernel
theorem dX7_signAt_53 : decode cX7_signAt 53 = .ok (.bipush 60, 2) := by decide +kernel
theorem dX7_signAt_55 : decode cX7_signAt 55 = .ok (.iconst 3, 1) := by decide +kernel
theorem dX7_signAt_56 : decode cX7_signAt 56 = .ok (.iload_n 1, 1) := by decide +kernel
theorem dX7_signAt_57 : decode cX7_signAt 57 = .ok (.imul, 1) := by decide +kernel
theorem dX7_signAt_58 : decode cX7_signAt 58 = .ok (.iload_n 2, 1) := by decide +kernel
theorem dX7_signAt_59 : decode cX7_signAt 59 = .ok (.iadd, 1) := by decide +kernel
theorem dX7_signAt_60 : decode cX7_signAt 60 = .ok (.imul, 1) := by decide +kernel
theorem dX7_signAt_61 : decode cX7_signAt 61 = .ok (.iload_n 3, 1) := by decide +kernel
theorem dX7_signAt_62 : decode cX7_signAt 62 = .ok (.iadd, 1) := by decide +kernel
theorem dX7_signAt_63 : decode cX7_signAt 63 = .ok (.iaload, 1) := by decide +kernel
theorem dX7_signAt_64 : decode cX7_signAt 64 = .ok (.ireturn, 1) := by decide +kernel
theorem dX7_widthOf_0 : decode cX7_widthOf 0 = .ok (.iload_n 0, 1) := by decide +kernel
theorem dX7_widthOf_1 : decode cX7_widthOf 1 = .ok (.bipush 10, 2) := by decide +kernel
theorem dX7_widthOf_3 : decode cX7_widthOf 3 = .ok (.if_icmp .eq 16, 3) := by decide +kernel
theorem dX7_widthOf_6 : decode cX7_widthOf 6 = .ok (.iload_n 0, 1) := by decide +kernel
theorem dX7_widthOf_7 : decode cX7_widthOf 7 = .ok (.sipush 768, 3) := by decide +kernel
theorem dX7_widthOf_10 : decode cX7_widthOf 10 = .ok (.sipush 879, 3) := by decide +kernel
theorem dX7_widthOf_13 : decode cX7_widthOf 13 = .ok (.invokestatic 93, 3) := by decide +kernel
theorem dX7_widthOf_16 : decode cX7_widthOf 16 = .ok (.ifCond .eq 7, 3) := by decide +kernel
theorem dX7_widthOf_19 : decode cX7_widthOf 19 = .ok (.iconst 0, 1) := by decide +kernel
theorem dX7_widthOf_20 : decode cX7_widthOf 20 = .ok (.goto 26, 3) := by decide +kernel
theorem dX7_widthOf_23 : decode cX7_widthOf 23 = .ok (.iload_n 0, 1) := by decide +kernel
theorem dX7_widthOf_24 : decode cX7_widthOf 24 = .ok (.sipush 11904, 3) := by decide +kernel
theorem dX7_widthOf_27 : decode cX7_widthOf 27 = .ok (.ldc 175, 2) := by decide +kernel
theorem dX7_widthOf_29 : decode cX7_widthOf 29 = .ok (.invokestatic 93, 3) := by decide +kernel
theorem dX7_widthOf_32 : decode cX7_widthOf 32 = .ok (.ifCond .ne 9, 3) := by decide +kernel
theorem dX7_widthOf_35 : decode cX7_widthOf 35 = .ok (.iload_n 0, 1) := by decide +kernel
theorem dX7_widthOf_36 : decode cX7_widthOf 36 = .ok (.ldc 176, 2) := by decide +kernel
theorem dX7_widthOf_38 : decode cX7_widthOf 38 = .ok (.if_icmp .lt 7, 3) := by decide +kernel
theorem dX7_widthOf_41 : decode cX7_widthOf 41 = .ok (.iconst 2, 1) := by decide +kernel
theorem dX7_widthOf_42 : decode cX7_widthOf 42 = .ok (.goto 4, 3) := by decide +kernel
theorem dX7_widthOf_45 : decode cX7_widthOf 45 = .ok (.iconst 1, 1) := by decide +kernel
theorem dX7_widthOf_46 : decode cX7_widthOf 46 = .ok (.ireturn, 1) := by decide +kernel
theorem dX7_widthFrom_0 : decode cX7_widthFrom 0 = .ok (.iconst 0, 1) := by decide +kernel
theorem dX7_widthFrom_1 : decode cX7_widthFrom 1 = .ok (.istore 4, 2) := by decide +kernel
theorem dX7_widthFrom_3 : decode cX7_widthFrom 3 = .ok (.iload_n 2, 1) := by decide +kernel
theorem dX7_widthFrom_4 : decode cX7_widthFrom 4 = .ok (.istore 5, 2) := by decide +kernel
theorem dX7_widthFrom_6 : decode cX7_widthFrom 6 = .ok (.iload 5, 2) := by decide +kernel
theorem dX7_widthFrom_8 : decode cX7_widthFrom 8 = .ok (.iload_n 3, 1) := by decide +kernel
theorem dX7_widthFrom_9 : decode cX7_widthFrom 9 = .ok (.if_icmp .ge 29, 3) := by decide +kernel
theorem dX7_widthFrom_12 : decode cX7_widthFrom 12 = .ok (.iload 4, 2) := by decide +kernel
theorem dX7_widthFrom_14 : decode cX7_widthFrom 14 = .ok (.aload_n 0, 1) := by decide +kernel
theorem dX7_widthFrom_15 : decode cX7_widthFrom 15 = .ok (.getfield 43, 3) := by decide +kernel
theorem dX7_widthFrom_18 : decode cX7_widthFrom 18 = .ok (.bipush 60, 2) := by decide +kernel
theorem dX7_widthFrom_20 : decode cX7_widthFrom 20 = .ok (.iload_n 1, 1) := by decide +kernel
theorem dX7_widthFrom_21 : decode cX7_widthFrom 21 = .ok (.imul, 1) := by decide +kernel
theorem dX7_widthFrom_22 : decode cX7_widthFrom 22 = .ok (.iload 5, 2) := by decide +kernel
theorem dX7_widthFrom_24 : decode cX7_widthFrom 24 = .ok (.iadd, 1) := by decide +kernel
theorem dX7_widthFrom_25 : decode cX7_widthFrom 25 = .ok (.iaload, 1) := by decide +kernel
theorem dX7_widthFrom_26 : decode cX7_widthFrom 26 = .ok (.invokestatic 177, 3) := by decide +kernel
theorem dX7_widthFrom_29 : decode cX7_widthFrom 29 = .ok (.iadd, 1) := by decide +kernel
theorem dX7_widthFrom_30 : decode cX7_widthFrom 30 = .ok (.istore 4, 2) := by decide +kernel
theorem dX7_widthFrom_32 : decode cX7_widthFrom 32 = .ok (.iinc 5 1, 3) := by decide +kernel
theorem dX7_widthFrom_35 : decode cX7_widthFrom 35 = .ok (.goto (-29), 3) := by decide +kernel
theorem dX7_widthFrom_38 : decode cX7_widthFrom 38 = .ok (.iload 4, 2) := by decide +kernel
theorem dX7_widthFrom_40 : decode cX7_widthFrom 40 = .ok (.ireturn, 1) := by decide +kernel
theorem dX7_width_0 : decode cX7_width 0 = .ok (.iconst 3, 1) := by decide +kernel
theorem dX7_width_1 : decode cX7_width 1 = .ok (.iload_n 1, 1) := by decide +kernel
theorem dX7_width_2 : decode cX7_width 2 = .ok (.imul, 1) := by decide +kernel
theorem dX7_width_3 : decode cX7_width 3 = .ok (.iload_n 2, 1) := by decide +kernel
theorem dX7_width_4 : decode cX7_width 4 = .ok (.iadd, 1) := by decide +kernel
theorem dX7_width_5 : decode cX7_width 5 = .ok (.istore_n 3, 1) := by decide +kernel
theorem dX7_width_6 : decode cX7_width 6 = .ok (.aload_n 0, 1) := by decide +kernel
theorem dX7_width_7 : decode cX7_width 7 = .ok (.iload_n 1, 1) := by decide +kernel
theorem dX7_width_8 : decode cX7_width 8 = .ok (.iload_n 2, 1) := by decide +kernel
theorem dX7_width_9 : decode cX7_width 9 = .ok (.invokevirtual 172, 3) := by decide +kernel
theorem dX7_width_12 : decode cX7_width 12 = .ok (.ifCond .eq 18, 3) := by decide +kernel
theorem dX7_width_15 : decode cX7_width 15 = .ok (.aload_n 0, 1) := by decide +kernel
theorem dX7_width_16 : decode cX7_width 16 = .ok (.iload_n 3, 1) := by decide +kernel
theorem dX7_width_17 : decode cX7_width 17 = .ok (.iconst 0, 1) := by decide +kernel
theorem dX7_width_18 : decode cX7_width 18 = .ok (.aload_n 0, 1) := by decide +kernel
theorem dX7_width_19 : decode cX7_width 19 = .ok (.getfield 40, 3) := by decide +kernel
theorem dX7_width_22 : decode cX7_width 22 = .ok (.iload_n 3, 1) := by decide +kernel
theorem dX7_width_23 : decode cX7_width 23 = .ok (.iaload, 1) := by decide +kernel
theorem dX7_width_24 : decode cX7_width 24 = .ok (.invokevirtual 180, 3) := by decide +kernel
theorem dX7_width_27 : decode cX7_width 27 = .ok (.goto 4, 3) := by decide +kernel
theorem dX7_width_30 : decode cX7_width 30 = .ok (.iconst 0, 1) := by decide +kernel
theorem dX7_width_31 : decode cX7_width 31 = .ok (.ireturn, 1) := by decide +kernel
theorem dX7_isMark_0 : decode cX7_isMark 0 = .ok (.iload_n 0, 1) := by decide +kernel
theorem dX7_isMark_1 : decode cX7_isMark 1 = .ok (.bipush 46, 2) := by decide +kernel
theorem dX7_isMark_3 : decode cX7_isMark 3 = .ok (.if_icmp .eq 33, 3) := by decide +kernel
theorem dX7_isMark_6 : decode cX7_isMark 6 = .ok (.iload_n 0, 1) := by decide +kernel
theorem dX7_isMark_7 : decode cX7_isMark 7 = .ok (.bipush 44, 2) := by decide +kernel
theorem dX7_isMark_9 : decode cX7_isMark 9 = .ok (.if_icmp .eq 27, 3) := by decide +kernel
theorem dX7_isMark_12 : decode cX7_isMark 12 = .ok (.iload_n 0, 1) := by decide +kernel
theorem dX7_isMark_13 : decode cX7_isMark 13 = .ok (.bipush 59, 2) := by decide +kernel
theorem dX7_isMark_15 : decode cX7_isMark 15 = .ok (.if_icmp .eq 21, 3) := by decide +kernel
theorem dX7_isMark_18 : decode cX7_isMark 18 = .ok (.iload_n 0, 1) := by decide +kernel
theorem dX7_isMark_19 : decode cX7_isMark 19 = .ok (.bipush 58, 2) := by decide +kernel
theorem dX7_isMark_21 : decode cX7_isMark 21 = .ok (.if_icmp .eq 15, 3) := by decide +kernel
theorem dX7_isMark_24 : decode cX7_isMark 24 = .ok (.iload_n 0, 1) := by decide +kernel
theorem dX7_isMark_25 : decode cX7_isMark 25 = .ok (.bipush 33, 2) := by decide +kernel
theorem dX7_isMark_27 : decode cX7_isMark 27 = .ok (.if_icmp .eq 9, 3) := by decide +kernel
theorem dX7_isMark_30 : decode cX7_isMark 30 = .ok (.iload_n 0, 1) := by decide +kernel
theorem dX7_isMark_31 : decode cX7_isMark 31 = .ok (.bipush 63, 2) := by decide +kernel
theorem dX7_isMark_33 : decode cX7_isMark 33 = .ok (.if_icmp .ne 7, 3) := by decide +kernel
theorem dX7_isMark_36 : decode cX7_isMark 36 = .ok (.iconst 1, 1) := by decide +kernel
theorem dX7_isMark_37 : decode cX7_isMark 37 = .ok (.goto 4, 3) := by decide +kernel
theorem dX7_isMark_40 : decode cX7_isMark 40 = .ok (.iconst 0, 1) := by decide +kernel
theorem dX7_isMark_41 : decode cX7_isMark 41 = .ok (.ireturn, 1) := by decide +kernel
theorem dX7_addsRow_0 : decode cX7_addsRow 0 = .ok (.aload_n 0, 1) := by decide +kernel
theorem dX7_addsRow_1 : decode cX7_addsRow 1 = .ok (.getfield 77, 3) := by decide +kernel
theorem dX7_addsRow_4 : decode cX7_addsRow 4 = .ok (.aload_n 0, 1) := by decide +kernel
theorem dX7_addsRow_5 : decode cX7_addsRow 5 = .ok (.getfield 184, 3) := by decide +kernel
theorem dX7_addsRow_8 : decode cX7_addsRow 8 = .ok (.iload_n 1, 1) := by decide +kernel
theorem dX7_addsRow_9 : decode cX7_addsRow 9 = .ok (.iastore, 1) := by decide +kernel
theorem dX7_addsRow_10 : decode cX7_addsRow 10 = .ok (.aload_n 0, 1) := by decide +kernel
theorem dX7_addsRow_11 : decode cX7_addsRow 11 = .ok (.getfield 80, 3) := by decide +kernel
theorem dX7_addsRow_14 : decode cX7_addsRow 14 = .ok (.aload_n 0, 1) := by decide +kernel
theorem dX7_addsRow_15 : decode cX7_addsRow 15 = .ok (.getfield 184, 3) := by decide +kernel
theorem dX7_addsRow_18 : decode cX7_addsRow 18 = .ok (.iload_n 2, 1) := by decide +kernel
theorem dX7_addsRow_19 : decode cX7_addsRow 19 = .ok (.iastore, 1) := by decide +kernel
theorem dX7_addsRow_20 : decode cX7_addsRow 20 = .ok (.aload_n 0, 1) := by decide +kernel
theorem dX7_addsRow_21 : decode cX7_addsRow 21 = .ok (.dup, 1) := by decide +kernel
theorem dX7_addsRow_22 : decode cX7_addsRow 22 = .ok (.getfield 184, 3) := by decide +kernel
theorem dX7_addsRow_25 : decode cX7_addsRow 25 = .ok (.iconst 1, 1) := by decide +kernel
theorem dX7_addsRow_26 : decode cX7_addsRow 26 = .ok (.iadd, 1) := by decide +kernel
theorem dX7_addsRow_27 : decode cX7_addsRow 27 = .ok (.putfield 184, 3) := by decide +kernel
theorem dX7_addsRow_30 : decode cX7_addsRow 30 = .ok (.return_, 1) := by decide +kernel
theorem dX7_spaceOf_0 : decode cX7_spaceOf 0 = .ok (.iconst (-1), 1) := by decide +kernel
theorem dX7_spaceOf_1 : decode cX7_spaceOf 1 = .ok (.istore 4, 2) := by decide +kernel
theorem dX7_spaceOf_3 : decode cX7_spaceOf 3 = .ok (.iconst 0, 1) := by decide +kernel
theorem dX7_spaceOf_4 : decode cX7_spaceOf 4 = .ok (.istore 5, 2) := by decide +kernel
theorem dX7_spaceOf_6 : decode cX7_spaceOf 6 = .ok (.iload_n 2, 1) := by decide +kernel
theorem dX7_spaceOf_7 : decode cX7_spaceOf 7 = .ok (.iconst 1, 1) := by decide +kernel
theorem dX7_spaceOf_8 : decode cX7_spaceOf 8 = .ok (.iadd, 1) := by decide +kernel
theorem dX7_spaceOf_9 : decode cX7_spaceOf 9 = .ok (.istore 6, 2) := by decide +kernel
theorem dX7_spaceOf_11 : decode cX7_spaceOf 11 = .ok (.iload 6, 2) := by decide +kernel
theorem dX7_spaceOf_13 : decode cX7_spaceOf 13 = .ok (.iload_n 3, 1) := by decide +kernel
theorem dX7_spaceOf_14 : decode cX7_spaceOf 14 = .ok (.iconst 1, 1) := by decide +kernel
theorem dX7_spaceOf_15 : decode cX7_spaceOf 15 = .ok (.isub, 1) := by decide +kernel
theorem dX7_spaceOf_16 : decode cX7_spaceOf 16 = .ok (.if_icmp .ge 147, 3) := by decide +kernel
theorem dX7_spaceOf_19 : decode cX7_spaceOf 19 = .ok (.aload_n 0, 1) := by decide +kernel
theorem dX7_spaceOf_20 : decode cX7_spaceOf 20 = .ok (.iload_n 1, 1) := by decide +kernel
theorem dX7_spaceOf_21 : decode cX7_spaceOf 21 = .ok (.iload_n 2, 1) := by decide +kernel
theorem dX7_spaceOf_22 : decode cX7_spaceOf 22 = .ok (.iload 6, 2) := by decide +kernel
theorem dX7_spaceOf_24 : decode cX7_spaceOf 24 = .ok (.invokevirtual 180, 3) := by decide +kernel
theorem dX7_spaceOf_27 : decode cX7_spaceOf 27 = .ok (.istore 7, 2) := by decide +kernel
theorem dX7_spaceOf_29 : decode cX7_spaceOf 29 = .ok (.aload_n 0, 1) := by decide +kernel
theorem dX7_spaceOf_30 : decode cX7_spaceOf 30 = .ok (.iload_n 1, 1) := by decide +kernel
theorem dX7_spaceOf_31 : decode cX7_spaceOf 31 = .ok (.iload 6, 2) := by decide +kernel
theorem dX7_spaceOf_33 : decode cX7_spaceOf 33 = .ok (.iconst 1, 1) := by decide +kernel
theorem dX7_spaceOf_34 : decode cX7_spaceOf 34 = .ok (.iadd, 1) := by decide +kernel
theorem dX7_spaceOf_35 : decode cX7_spaceOf 35 = .ok (.iload_n 3, 1) := by decide +kernel
theorem dX7_spaceOf_36 : decode cX7_spaceOf 36 = .ok (.invokevirtual 180, 3) := by decide +kernel
theorem dX7_spaceOf_39 : decode cX7_spaceOf 39 = .ok (.istore 8, 2) := by decide +kernel
theorem dX7_spaceOf_41 : decode cX7_spaceOf 41 = .ok (.iload 7, 2) := by decide +kernel
theorem dX7_spaceOf_43 : decode cX7_spaceOf 43 = .ok (.iload 8, 2) := by decide +kernel
theorem dX7_spaceOf_45 : decode cX7_spaceOf 45 = .ok (.if_icmp .le 11, 3) := by decide +kernel
theorem dX7_spaceOf_48 : decode cX7_spaceOf 48 = .ok (.iload 7, 2) := by decide +kernel
theorem dX7_spaceOf_50 : decode cX7_spaceOf 50 = .ok (.iload 8, 2) := by decide +kernel
theorem dX7_spaceOf_52 : decode cX7_spaceOf 52 = .ok (.isub, 1) := by decide +kernel
theorem dX7_spaceOf_53 : decode cX7_spaceOf 53 = .ok (.goto 8, 3) := by decide +kernel
theorem dX7_spaceOf_56 : decode cX7_spaceOf 56 = .ok (.iload 8, 2) := by decide +kernel
theorem dX7_spaceOf_58 : decode cX7_spaceOf 58 = .ok (.iload 7, 2) := by decide +kernel
theorem dX7_spaceOf_60 : decode cX7_spaceOf 60 = .ok (.isub, 1) := by decide +kernel
theorem dX7_spaceOf_61 : decode cX7_spaceOf 61 = .ok (.aload_n 0, 1) := by decide +kernel
theorem dX7_spaceOf_62 : decode cX7_spaceOf 62 = .ok (.getfield 43, 3) := by decide +kernel
theorem dX7_spaceOf_65 : decode cX7_spaceOf 65 = .ok (.bipush 60, 2) := by decide +kernel
theorem dX7_spaceOf_67 : decode cX7_spaceOf 67 = .ok (.iload_n 1, 1) := by decide +kernel
theorem dX7_spaceOf_68 : decode cX7_spaceOf 68 = .ok (.imul, 1) := by decide +kernel
theorem dX7_spaceOf_69 : decode cX7_spaceOf 69 = .ok (.iload 6, 2) := by decide +kernel
theorem dX7_spaceOf_71 : decode cX7_spaceOf 71 = .ok (.iadd, 1) := by decide +kernel
theorem dX7_spaceOf_72 : decode cX7_spaceOf 72 = .ok (.iconst 1, 1) := by decide +kernel
theorem dX7_spaceOf_73 : decode cX7_spaceOf 73 = .ok (.isub, 1) := by decide +kernel
theorem dX7_spaceOf_74 : decode cX7_spaceOf 74 = .ok (.iaload, 1) := by decide +kernel
theorem dX7_spaceOf_75 : decode cX7_spaceOf 75 = .ok (.invokestatic 187, 3) := by decide +kernel
theorem dX7_spaceOf_78 : decode cX7_spaceOf 78 = .ok (.ifCond .eq 7, 3) := by decide +kernel
theorem dX7_spaceOf_81 : decode cX7_spaceOf 81 = .ok (.iconst 0, 1) := by decide +kernel
theorem dX7_spaceOf_82 : decode cX7_spaceOf 82 = .ok (.goto 4, 3) := by decide +kernel
theorem dX7_spaceOf_85 : decode cX7_spaceOf 85 = .ok (.iconst 5, 1) := by decide +kernel
theorem dX7_spaceOf_86 : decode cX7_spaceOf 86 = .ok (.iadd, 1) := by decide +kernel
theorem dX7_spaceOf_87 : decode cX7_spaceOf 87 = .ok (.istore 9, 2) := by decide +kernel
theorem dX7_spaceOf_89 : decode cX7_spaceOf 89 = .ok (.aload_n 0, 1) := by decide +kernel
theorem dX7_spaceOf_90 : decode cX7_spaceOf 90 = .ok (.getfield 43, 3) := by decide +kernel
theorem dX7_spaceOf_93 : decode cX7_spaceOf 93 = .ok (.bipush 60, 2) := by decide +kernel
theorem dX7_spaceOf_95 : decode cX7_spaceOf 95 = .ok (.iload_n 1, 1) := by decide +kernel
theorem dX7_spaceOf_96 : decode cX7_spaceOf 96 = .ok (.imul, 1) := by decide +kernel
theorem dX7_spaceOf_97 : decode cX7_spaceOf 97 = .ok (.iload 6, 2) := by decide +kernel
theorem dX7_spaceOf_99 : decode cX7_spaceOf 99 = .ok (.iadd, 1) := by decide +kernel
theorem dX7_spaceOf_100 : decode cX7_spaceOf 100 = .ok (.iaload, 1) := by decide +kernel
theorem dX7_spaceOf_101 : decode cX7_spaceOf 101 = .ok (.bipush 32, 2) := by decide +kernel
theorem dX7_spaceOf_103 : decode cX7_spaceOf 103 = .ok (.if_icmp .ne 25, 3) := by decide +kernel
theorem dX7_spaceOf_106 : decode cX7_spaceOf 106 = .ok (.iload 7, 2) := by decide +kernel
theorem dX7_spaceOf_108 : decode cX7_spaceOf 108 = .ok (.aload_n 0, 1) := by decide +kernel
theorem dX7_spaceOf_109 : decode cX7_spaceOf 109 = .ok (.getfield 70, 3) := by decide +kernel
theorem dX7_spaceOf_112 : decode cX7_spaceOf 112 = .ok (.if_icmp .gt 16, 3) := by decide +kernel
theorem dX7_spaceOf_115 : decode cX7_spaceOf 115 = .ok (.iload 8, 2) := by decide +kernel
theorem dX7_spaceOf_117 : decode cX7_spaceOf 117 = .ok (.aload_n 0, 1) := by decide +kernel
theorem dX7_spaceOf_118 : decode cX7_spaceOf 118 = .ok (.getfield 70, 3) := by decide +kernel
theorem dX7_spaceOf_121 : decode cX7_spaceOf 121 = .ok (.if_icmp .gt 7, 3) := by decide +kernel
theorem dX7_spaceOf_124 : decode cX7_spaceOf 124 = .ok (.iconst 1, 1) := by decide +kernel
theorem dX7_spaceOf_125 : decode cX7_spaceOf 125 = .ok (.goto 4, 3) := by decide +kernel
theorem dX7_spaceOf_128 : decode cX7_spaceOf 128 = .ok (.iconst 0, 1) := by decide +kernel
theorem dX7_spaceOf_129 : decode cX7_spaceOf 129 = .ok (.istore 10, 2) := by decide +kernel
theorem dX7_spaceOf_131 : decode cX7_spaceOf 131 = .ok (.iload 10, 2) := by decide +kernel
theorem dX7_spaceOf_133 : decode cX7_spaceOf 133 = .ok (.ifCond .eq 24, 3) := by decide +kernel
theorem dX7_spaceOf_136 : decode cX7_spaceOf 136 = .ok (.iload 4, 2) := by decide +kernel
theorem dX7_spaceOf_138 : decode cX7_spaceOf 138 = .ok (.iconst (-1), 1) := by decide +kernel
theorem dX7_spaceOf_139 : decode cX7_spaceOf 139 = .ok (.if_icmp .eq 10, 3) := by decide +kernel
theorem dX7_spaceOf_142 : decode cX7_spaceOf 142 = .ok (.iload 9, 2) := by decide +kernel
theorem dX7_spaceOf_144 : decode cX7_spaceOf 144 = .ok (.iload 5, 2) := by decide +kernel
theorem dX7_spaceOf_146 : decode cX7_spaceOf 146 = .ok (.if_icmp .ge 11, 3) := by decide +kernel
theorem dX7_spaceOf_149 : decode cX7_spaceOf 149 = .ok (.iload 6, 2) := by decide +kernel
theorem dX7_spaceOf_151 : decode cX7_spaceOf 151 = .ok (.istore 4, 2) := by decide +kernel
theorem dX7_spaceOf_153 : decode cX7_spaceOf 153 = .ok (.iload 9, 2) := by decide +kernel
theorem dX7_spaceOf_155 : decode cX7_spaceOf 155 = .ok (.istore 5, 2) := by decide +kernel
theorem dX7_spaceOf_157 : decode cX7_spaceOf 157 = .ok (.iinc 6 1, 3) := by decide +kernel
theorem dX7_spaceOf_160 : decode cX7_spaceOf 160 = .ok (.goto (-149), 3) := by decide +kernel
theorem dX7_spaceOf_163 : decode cX7_spaceOf 163 = .ok (.iload 4, 2) := by decide +kernel
theorem dX7_spaceOf_165 : decode cX7_spaceOf 165 = .ok (.ireturn, 1) := by decide +kernel
theorem dX7_laysPart_0 : decode cX7_laysPart 0 = .ok (.aload_n 0, 1) := by decide +kernel
theorem dX7_laysPart_1 : decode cX7_laysPart 1 = .ok (.iload_n 1, 1) := by decide +kernel
theorem dX7_laysPart_2 : decode cX7_laysPart 2 = .ok (.iload_n 2, 1) := by decide +kernel
theorem dX7_laysPart_3 : decode cX7_laysPart 3 = .ok (.iload_n 3, 1) := by decide +kernel
theorem dX7_laysPart_4 : decode cX7_laysPart 4 = .ok (.invokevirtual 180, 3) := by decide +kernel
theorem dX7_laysPart_7 : decode cX7_laysPart 7 = .ok (.aload_n 0, 1) := by decide +kernel
theorem dX7_laysPart_8 : decode cX7_laysPart 8 = .ok (.getfield 70, 3) := by decide +kernel
theorem dX7_laysPart_11 : decode cX7_laysPart 11 = .ok (.if_icmp .gt 7, 3) := by decide +kernel
theorem dX7_laysPart_14 : decode cX7_laysPart 14 = .ok (.iconst (-1), 1) := by decide +kernel
theorem dX7_laysPart_15 : decode cX7_laysPart 15 = .ok (.goto 10, 3) := by decide +kernel
theorem dX7_laysPart_18 : decode cX7_laysPart 18 = .ok (.aload_n 0, 1) := by decide +kernel
theorem dX7_laysPart_19 : decode cX7_laysPart 19 = .ok (.iload_n 1, 1) := by decide +kernel
theorem dX7_laysPart_20 : decode cX7_laysPart 20 = .ok (.iload_n 2, 1) := by decide +kernel
theorem dX7_laysPart_21 : decode cX7_laysPart 21 = .ok (.iload_n 3, 1) := by decide +kernel
theorem dX7_laysPart_22 : decode cX7_laysPart 22 = .ok (.invokevirtual 190, 3) := by decide +kernel
theorem dX7_laysPart_25 : decode cX7_laysPart 25 = .ok (.istore 4, 2) := by decide +kernel
theorem dX7_laysPart_27 : decode cX7_laysPart 27 = .ok (.iload 4, 2) := by decide +kernel
theorem dX7_laysPart_29 : decode cX7_laysPart 29 = .ok (.iconst (-1), 1) := by decide +kernel
theorem dX7_laysPart_30 : decode cX7_laysPart 30 = .ok (.if_icmp .ne 12, 3) := by decide +kernel
theorem dX7_laysPart_33 : decode cX7_laysPart 33 = .ok (.aload_n 0, 1) := by decide +kernel
theorem dX7_laysPart_34 : decode cX7_laysPart 34 = .ok (.iload_n 2, 1) := by decide +kernel
theorem dX7_laysPart_35 : decode cX7_laysPart 35 = .ok (.iload_n 3, 1) := by decide +kernel
theorem dX7_laysPart_36 : decode cX7_laysPart 36 = .ok (.invokevirtual 193, 3) := by decide +kernel
theorem dX7_laysPart_39 : decode cX7_laysPart 39 = .ok (.goto 19, 3) := by decide +kernel
theorem dX7_laysPart_42 : decode cX7_laysPart 42 = .ok (.aload_n 0, 1) := by decide +kernel
theorem dX7_laysPart_43 : decode cX7_laysPart 43 = .ok (.iload_n 2, 1) := by decide +kernel
theorem dX7_laysPart_44 : decode cX7_laysPart 44 = .ok (.iload 4, 2) := by decide +kernel
theorem dX7_laysPart_46 : decode cX7_laysPart 46 = .ok (.invokevirtual 193, 3) := by decide +kernel
theorem dX7_laysPart_49 : decode cX7_laysPart 49 = .ok (.aload_n 0, 1) := by decide +kernel
theorem dX7_laysPart_50 : decode cX7_laysPart 50 = .ok (.iload 4, 2) := by decide +kernel
theorem dX7_laysPart_52 : decode cX7_laysPart 52 = .ok (.iconst 1, 1) := by decide +kernel
theorem dX7_laysPart_53 : decode cX7_laysPart 53 = .ok (.iadd, 1) := by decide +kernel
theorem dX7_laysPart_54 : decode cX7_laysPart 54 = .ok (.iload_n 3, 1) := by decide +kernel
theorem dX7_laysPart_55 : decode cX7_laysPart 55 = .ok (.invokevirtual 193, 3) := by decide +kernel
theorem dX7_laysPart_58 : decode cX7_laysPart 58 = .ok (.return_, 1) := by decide +kernel
theorem dX7_laysRows_0 : decode cX7_laysRows 0 = .ok (.aload_n 0, 1) := by decide +kernel
theorem dX7_laysRows_1 : decode cX7_laysRows 1 = .ok (.iconst 0, 1) := by decide +kernel
theorem dX7_laysRows_2 : decode cX7_laysRows 2 = .ok (.putfield 184, 3) := by decide +kernel
theorem dX7_laysRows_5 : decode cX7_laysRows 5 = .ok (.iconst 0, 1) := by decide +kernel
theorem dX7_laysRows_6 : decode cX7_laysRows 6 = .ok (.istore_n 2, 1) := by decide +kernel
theorem dX7_laysRows_7 : decode cX7_laysRows 7 = .ok (.iconst 0, 1) := by decide +kernel
theorem dX7_laysRows_8 : decode cX7_laysRows 8 = .ok (.istore_n 3, 1) := by decide +kernel
theorem dX7_laysRows_9 : decode cX7_laysRows 9 = .ok (.iload_n 3, 1) := by decide +kernel
theorem dX7_laysRows_10 : decode cX7_laysRows 10 = .ok (.aload_n 0, 1) := by decide +kernel
theorem dX7_laysRows_11 : decode cX7_laysRows 11 = .ok (.getfield 40, 3) := by decide +kernel
theorem dX7_laysRows_14 : decode cX7_laysRows 14 = .ok (.iload_n 1, 1) := by decide +kernel
theorem dX7_laysRows_15 : decode cX7_laysRows 15 = .ok (.iaload, 1) := by decide +kernel
theorem dX7_laysRows_16 : decode cX7_laysRows 16 = .ok (.if_icmp .ge 36, 3) := by decide +kernel
theorem dX7_laysRows_19 : decode cX7_laysRows 19 = .ok (.aload_n 0, 1) := by decide +kernel
theorem dX7_laysRows_20 : decode cX7_laysRows 20 = .ok (.getfield 43, 3) := by decide +kernel
theorem dX7_laysRows_23 : decode cX7_laysRows 23 = .ok (.bipush 60, 2) := by decide +kernel
theorem dX7_laysRows_25 : decode cX7_laysRows 25 = .ok (.iload_n 1, 1) := by decide +kernel
theorem dX7_laysRows_26 : decode cX7_laysRows 26 = .ok (.imul, 1) := by decide +kernel
theorem dX7_laysRows_27 : decode cX7_laysRows 27 = .ok (.iload_n 3, 1) := by decide +kernel
theorem dX7_laysRows_28 : decode cX7_laysRows 28 = .ok (.iadd, 1) := by decide +kernel
theorem dX7_laysRows_29 : decode cX7_laysRows 29 = .ok (.iaload, 1) := by decide +kernel
theorem dX7_laysRows_30 : decode cX7_laysRows 30 = .ok (.bipush 10, 2) := by decide +kernel
theorem dX7_laysRows_32 : decode cX7_laysRows 32 = .ok (.if_icmp .ne 14, 3) := by decide +kernel
theorem dX7_laysRows_35 : decode cX7_laysRows 35 = .ok (.aload_n 0, 1) := by decide +kernel
theorem dX7_laysRows_36 : decode cX7_laysRows 36 = .ok (.iload_n 1, 1) := by decide +kernel
theorem dX7_laysRows_37 : decode cX7_laysRows 37 = .ok (.iload_n 2, 1) := by decide +kernel
theorem dX7_laysRows_38 : decode cX7_laysRows 38 = .ok (.iload_n 3, 1) := by decide +kernel
theorem dX7_laysRows_39 : decode cX7_laysRows 39 = .ok (.invokevirtual 196, 3) := by decide +kernel
theorem dX7_laysRows_42 : decode cX7_laysRows 42 = .ok (.iload_n 3, 1) := by decide +kernel
theorem dX7_laysRows_43 : decode cX7_laysRows 43 = .ok (.iconst 1, 1) := by decide +kernel
theorem dX7_laysRows_44 : decode cX7_laysRows 44 = .ok (.iadd, 1) := by decide +kernel
theorem dX7_laysRows_45 : decode cX7_laysRows 45 = .ok (.istore_n 2, 1) := by decide +kernel
theorem dX7_laysRows_46 : decode cX7_laysRows 46 = .ok (.iinc 3 1, 3) := by decide +kernel
theorem dX7_laysRows_49 : decode cX7_laysRows 49 = .ok (.goto (-40), 3) := by decide +kernel
theorem dX7_laysRows_52 : decode cX7_laysRows 52 = .ok (.aload_n 0, 1) := by decide +kernel
theorem dX7_laysRows_53 : decode cX7_laysRows 53 = .ok (.getfield 40, 3) := by decide +kernel
theorem dX7_laysRows_56 : decode cX7_laysRows 56 = .ok (.iload_n 1, 1) := by decide +kernel
theorem dX7_laysRows_57 : decode cX7_laysRows 57 = .ok (.iaload, 1) := by decide +kernel
theorem dX7_laysRows_58 : decode cX7_laysRows 58 = .ok (.ifCond .le 15, 3) := by decide +kernel
theorem dX7_laysRows_61 : decode cX7_laysRows 61 = .ok (.aload_n 0, 1) := by decide +kernel
theorem dX7_laysRows_62 : decode cX7_laysRows 62 = .ok (.iload_n 1, 1) := by decide +kernel
theorem dX7_laysRows_63 : decode cX7_laysRows 63 = .ok (.iload_n 2, 1) := by decide +kernel
theorem dX7_laysRows_64 : decode cX7_laysRows 64 = .ok (.aload_n 0, 1) := by decide +kernel
theorem dX7_laysRows_65 : decode cX7_laysRows 65 = .ok (.getfield 40, 3) := by decide +kernel
theorem dX7_laysRows_68 : decode cX7_laysRows 68 = .ok (.iload_n 1, 1) := by decide +kernel
theorem dX7_laysRows_69 : decode cX7_laysRows 69 = .ok (.iaload, 1) := by decide +kernel
theorem dX7_laysRows_70 : decode cX7_laysRows 70 = .ok (.invokevirtual 196, 3) := by decide +kernel
theorem dX7_laysRows_73 : decode cX7_laysRows 73 = .ok (.return_, 1) := by decide +kernel
theorem dX7_rows_0 : decode cX7_rows 0 = .ok (.aload_n 0, 1) := by decide +kernel
theorem dX7_rows_1 : decode cX7_rows 1 = .ok (.iload_n 1, 1) := by decide +kernel
theorem dX7_rows_2 : decode cX7_rows 2 = .ok (.iload_n 2, 1) := by decide +kernel
theorem dX7_rows_3 : decode cX7_rows 3 = .ok (.invokevirtual 172, 3) := by decide +kernel
theorem dX7_rows_6 : decode cX7_rows 6 = .ok (.ifCond .ne 5, 3) := by decide +kernel
theorem dX7_rows_9 : decode cX7_rows 9 = .ok (.iconst 0, 1) := by decide +kernel
theorem dX7_rows_10 : decode cX7_rows 10 = .ok (.ireturn, 1) := by decide +kernel
theorem dX7_rows_11 : decode cX7_rows 11 = .ok (.aload_n 0, 1) := by decide +kernel
theorem dX7_rows_12 : decode cX7_rows 12 = .ok (.iconst 3, 1) := by decide +kernel
theorem dX7_rows_13 : decode cX7_rows 13 = .ok (.iload_n 1, 1) := by decide +kernel
theorem dX7_rows_14 : decode cX7_rows 14 = .ok (.imul, 1) := by decide +kernel
theorem dX7_rows_15 : decode cX7_rows 15 = .ok (.iload_n 2, 1) := by decide +kernel
theorem dX7_rows_16 : decode cX7_rows 16 = .ok (.iadd, 1) := by decide +kernel
theorem dX7_rows_17 : decode cX7_rows 17 = .ok (.invokevirtual 199, 3) := by decide +kernel
theorem dX7_rows_20 : decode cX7_rows 20 = .ok (.aload_n 0, 1) := by decide +kernel
theorem dX7_rows_21 : decode cX7_rows 21 = .ok (.getfield 184, 3) := by decide +kernel
theorem dX7_rows_24 : decode cX7_rows 24 = .ok (.ireturn, 1) := by decide +kernel
theorem dX7_row_0 : decode cX7_row 0 = .ok (.aload_n 0, 1) := by decide +kernel
theorem dX7_row_1 : decode cX7_row 1 = .ok (.iload_n 1, 1) := by decide +kernel
theorem dX7_row_2 : decode cX7_row 2 = .ok (.iload_n 2, 1) := by decide +kernel
theorem dX7_row_3 : decode cX7_row 3 = .ok (.invokevirtual 172, 3) := by decide +kernel
theorem dX7_row_6 : decode cX7_row 6 = .ok (.ifCond .ne 5, 3) := by decide +kernel
theorem dX7_row_9 : decode cX7_row 9 = .ok (.iconst 0, 1) := by decide +kernel
theorem dX7_row_10 : decode cX7_row 10 = .ok (.ireturn, 1) := by decide +kernel
theorem dX7_row_11 : decode cX7_row 11 = .ok (.aload_n 0, 1) := by decide +kernel
theorem dX7_row_12 : decode cX7_row 12 = .ok (.iconst 3, 1) := by decide +kernel
theorem dX7_row_13 : decode cX7_row 13 = .ok (.iload_n 1, 1) := by decide +kernel
theorem dX7_row_14 : decode cX7_row 14 = .ok (.imul, 1) := by decide +kernel
theorem dX7_row_15 : decode cX7_row 15 = .ok (.iload_n 2, 1) := by decide +kernel
theorem dX7_row_16 : decode cX7_row 16 = .ok (.iadd, 1) := by decide +kernel
theorem dX7_row_17 : decode cX7_row 17 = .ok (.invokevirtual 199, 3) := by decide +kernel
theorem dX7_row_20 : decode cX7_row 20 = .ok (.aload_n 0, 1) := by decide +kernel
theorem dX7_row_21 : decode cX7_row 21 = .ok (.iload_n 3, 1) := by decide +kernel
theorem dX7_row_22 : decode cX7_row 22 = .ok (.iconst 0, 1) := by decide +kernel
theorem dX7_row_23 : decode cX7_row 23 = .ok (.aload_n 0, 1) := by decide +kernel
theorem dX7_row_24 : decode cX7_row 24 = .ok (.getfield 184, 3) := by decide +kernel
theorem dX7_row_27 : decode cX7_row 27 = .ok (.iconst 1, 1) := by decide +kernel
theorem dX7_row_28 : decode cX7_row 28 = .ok (.isub, 1) := by decide +kernel
theorem dX7_row_29 : decode cX7_row 29 = .ok (.invokestatic 93, 3) := by decide +kernel
theorem dX7_row_32 : decode cX7_row 32 = .ok (.ifCond .eq 7, 3) := by decide +kernel
theorem dX7_row_35 : decode cX7_row 35 = .ok (.iconst 0, 1) := by decide +kernel
theorem dX7_row_36 : decode cX7_row 36 = .ok (.goto 4, 3) := by decide +kernel
theorem dX7_row_39 : decode cX7_row 39 = .ok (.iconst 1, 1) := by decide +kernel
theorem dX7_row_40 : decode cX7_row 40 = .ok (.putfield 87, 3) := by decide +kernel
theorem dX7_row_43 : decode cX7_row 43 = .ok (.aload_n 0, 1) := by decide +kernel
theorem dX7_row_44 : decode cX7_row 44 = .ok (.getfield 87, 3) := by decide +kernel
theorem dX7_row_47 : decode cX7_row 47 = .ok (.ifCond .le 7, 3) := by decide +kernel
theorem dX7_row_50 : decode cX7_row 50 = .ok (.iconst 0, 1) := by decide +kernel
theorem dX7_row_51 : decode cX7_row 51 = .ok (.goto 19, 3) := by decide +kernel
theorem dX7_row_54 : decode cX7_row 54 = .ok (.bipush 100, 2) := by decide +kernel
theorem dX7_row_56 : decode cX7_row 56 = .ok (.aload_n 0, 1) := by decide +kernel
theorem dX7_row_57 : decode cX7_row 57 = .ok (.getfield 77, 3) := by decide +kernel
theorem dX7_row_60 : decode cX7_row 60 = .ok (.iload_n 3, 1) := by decide +kernel
theorem dX7_row_61 : decode cX7_row 61 = .ok (.iaload, 1) := by decide +kernel
theorem dX7_row_62 : decode cX7_row 62 = .ok (.imul, 1) := by decide +kernel
theorem dX7_row_63 : decode cX7_row 63 = .ok (.aload_n 0, 1) := by decide +kernel
theorem dX7_row_64 : decode cX7_row 64 = .ok (.getfield 80, 3) := by decide +kernel
theorem dX7_row_67 : decode cX7_row 67 = .ok (.iload_n 3, 1) := by decide +kernel
theorem dX7_row_68 : decode cX7_row 68 = .ok (.iaload, 1) := by decide +kernel
theorem dX7_row_69 : decode cX7_row 69 = .ok (.iadd, 1) := by decide +kernel
theorem dX7_row_70 : decode cX7_row 70 = .ok (.ireturn, 1) := by decide +kernel
theorem dX7_setLimits_0 : decode cX7_setLimits 0 = .ok (.aload_n 0, 1) := by decide +kernel
theorem dX7_setLimits_1 : decode cX7_setLimits 1 = .ok (.iload_n 1, 1) := by decide +kernel
theorem dX7_setLimits_2 : decode cX7_setLimits 2 = .ok (.iconst 5, 1) := by decide +kernel
theorem dX7_setLimits_3 : decode cX7_setLimits 3 = .ok (.bipush 60, 2) := by decide +kernel
theorem dX7_setLimits_5 : decode cX7_setLimits 5 = .ok (.invokestatic 93, 3) := by decide +kernel
theorem dX7_setLimits_8 : decode cX7_setLimits 8 = .ok (.ifCond .eq 17, 3) := by decide +kernel
theorem dX7_setLimits_11 : decode cX7_setLimits 11 = .ok (.iload_n 2, 1) := by decide +kernel
theorem dX7_setLimits_12 : decode cX7_setLimits 12 = .ok (.iconst 5, 1) := by decide +kernel
theorem dX7_setLimits_13 : decode cX7_setLimits 13 = .ok (.bipush 50, 2) := by decide +kernel
theorem dX7_setLimits_15 : decode cX7_setLimits 15 = .ok (.invokestatic 93, 3) := by decide +kernel
theorem dX7_setLimits_18 : decode cX7_setLimits 18 = .ok (.ifCond .eq 7, 3) := by decide +kernel
theorem dX7_setLimits_21 : decode cX7_setLimits 21 = .ok (.iconst 0, 1) := by decide +kernel
theorem dX7_setLimits_22 : decode cX7_setLimits 22 = .ok (.goto 4, 3) := by decide +kernel
theorem dX7_setLimits_25 : decode cX7_setLimits 25 = .ok (.iconst 1, 1) := by decide +kernel
theorem dX7_setLimits_26 : decode cX7_setLimits 26 = .ok (.putfield 87, 3) := by decide +kernel
theorem dX7_setLimits_29 : decode cX7_setLimits 29 = .ok (.aload_n 0, 1) := by decide +kernel
theorem dX7_setLimits_30 : decode cX7_setLimits 30 = .ok (.getfield 87, 3) := by decide +kernel
theorem dX7_setLimits_33 : decode cX7_setLimits 33 = .ok (.ifCond .le 5, 3) := by decide +kernel
theorem dX7_setLimits_36 : decode cX7_setLimits 36 = .ok (.iconst 0, 1) := by decide +kernel
theorem dX7_setLimits_37 : decode cX7_setLimits 37 = .ok (.ireturn, 1) := by decide +kernel
theorem dX7_setLimits_38 : decode cX7_setLimits 38 = .ok (.aload_n 0, 1) := by decide +kernel
theorem dX7_setLimits_39 : decode cX7_setLimits 39 = .ok (.getfield 70, 3) := by decide +kernel
theorem dX7_setLimits_42 : decode cX7_setLimits 42 = .ok (.istore_n 3, 1) := by decide +kernel
theorem dX7_setLimits_43 : decode cX7_setLimits 43 = .ok (.aload_n 0, 1) := by decide +kernel
theorem dX7_setLimits_44 : decode cX7_setLimits 44 = .ok (.iload_n 1, 1) := by decide +kernel
theorem dX7_setLimits_45 : decode cX7_setLimits 45 = .ok (.putfield 70, 3) := by decide +kernel
theorem dX7_setLimits_48 : decode cX7_setLimits 48 = .ok (.aload_n 0, 1) := by decide +kernel
theorem dX7_setLimits_49 : decode cX7_setLimits 49 = .ok (.iload_n 2, 1) := by decide +kernel
theorem dX7_setLimits_50 : decode cX7_setLimits 50 = .ok (.putfield 74, 3) := by decide +kernel
theorem dX7_setLimits_53 : decode cX7_setLimits 53 = .ok (.iload_n 3, 1) := by decide +kernel
theorem dX7_setLimits_54 : decode cX7_setLimits 54 = .ok (.ireturn, 1) := by decide +kernel
theorem dX7_keptFor_0 : decode cX7_keptFor 0 = .ok (.iconst (-1), 1) := by decide +kernel
theorem dX7_keptFor_1 : decode cX7_keptFor 1 = .ok (.istore_n 3, 1) := by decide +kernel
theorem dX7_keptFor_2 : decode cX7_keptFor 2 = .ok (.bipush 9, 2) := by decide +kernel
theorem dX7_keptFor_4 : decode cX7_keptFor 4 = .ok (.iload_n 1, 1) := by decide +kernel
theorem dX7_keptFor_5 : decode cX7_keptFor 5 = .ok (.imul, 1) := by decide +kernel
theorem dX7_keptFor_6 : decode cX7_keptFor 6 = .ok (.istore 4, 2) := by decide +kernel
theorem dX7_keptFor_8 : decode cX7_keptFor 8 = .ok (.iload 4, 2) := by decide +kernel
theorem dX7_keptFor_10 : decode cX7_keptFor 10 = .ok (.bipush 9, 2) := by decide +kernel
theorem dX7_keptFor_12 : decode cX7_keptFor 12 = .ok (.iload_n 1, 1) := by decide +kernel
theorem dX7_keptFor_13 : decode cX7_keptFor 13 = .ok (.imul, 1) := by decide +kernel
theorem dX7_keptFor_14 : decode cX7_keptFor 14 = .ok (.aload_n 0, 1) := by decide +kernel
theorem dX7_keptFor_15 : decode cX7_keptFor 15 = .ok (.getfield 52, 3) := by decide +kernel
theorem dX7_keptFor_18 : decode cX7_keptFor 18 = .ok (.iload_n 1, 1) := by decide +kernel
theorem dX7_keptFor_19 : decode cX7_keptFor 19 = .ok (.iaload, 1) := by decide +kernel
theorem dX7_keptFor_20 : decode cX7_keptFor 20 = .ok (.iadd, 1) := by decide +kernel
theorem dX7_keptFor_21 : decode cX7_keptFor 21 = .ok (.if_icmp .ge 104, 3) := by decide +kernel
theorem dX7_keptFor_24 : decode cX7_keptFor 24 = .ok (.aload_n 0, 1) := by decide +kernel
theorem dX7_keptFor_25 : decode cX7_keptFor 25 = .ok (.getfield 55, 3) := by decide +kernel
theorem dX7_keptFor_28 : decode cX7_keptFor 28 = .ok (.iload 4, 2) := by decide +kernel
theorem dX7_keptFor_30 : decode cX7_keptFor 30 = .ok (.iaload, 1) := by decide +kernel
theorem dX7_keptFor_31 : decode cX7_keptFor 31 = .ok (.aload_n 0, 1) := by decide +kernel
theorem dX7_keptFor_32 : decode cX7_keptFor 32 = .ok (.getfield 40, 3) := by decide +kernel
theorem dX7_keptFor_35 : decode cX7_keptFor 35 = .ok (.iload_n 2, 1) := by decide +kernel
theorem dX7_keptFor_36 : decode cX7_keptFor 36 = .ok (.iaload, 1) := by decide +kernel
theorem dX7_keptFor_37 : decode cX7_keptFor 37 = .ok (.if_icmp .ne 7, 3) := by decide +kernel
theorem dX7_keptFor_40 : decode cX7_keptFor 40 = .ok (.iconst 1, 1) := by decide +kernel
theorem dX7_keptFor_41 : decode cX7_keptFor 41 = .ok (.goto 4, 3) := by decide +kernel
theorem dX7_keptFor_44 : decode cX7_keptFor 44 = .ok (.iconst 0, 1) := by decide +kernel
theorem dX7_keptFor_45 : decode cX7_keptFor 45 = .ok (.istore 5, 2) := by decide +kernel
theorem dX7_keptFor_47 : decode cX7_keptFor 47 = .ok (.iconst 0, 1) := by decide +kernel
theorem dX7_keptFor_48 : decode cX7_keptFor 48 = .ok (.istore 6, 2) := by decide +kernel
theorem dX7_keptFor_50 : decode cX7_keptFor 50 = .ok (.iload 6, 2) := by decide +kernel
theorem dX7_keptFor_52 : decode cX7_keptFor 52 = .ok (.aload_n 0, 1) := by decide +kernel
theorem dX7_keptFor_53 : decode cX7_keptFor 53 = .ok (.getfield 40, 3) := by decide +kernel
theorem dX7_keptFor_56 : decode cX7_keptFor 56 = .ok (.iload_n 2, 1) := by decide +kernel
theorem dX7_keptFor_57 : decode cX7_keptFor 57 = .ok (.iaload, 1) := by decide +kernel
theorem dX7_keptFor_58 : decode cX7_keptFor 58 = .ok (.if_icmp .ge 49, 3) := by decide +kernel
theorem dX7_keptFor_61 : decode cX7_keptFor 61 = .ok (.iload 5, 2) := by decide +kernel
theorem dX7_keptFor_63 : decode cX7_keptFor 63 = .ok (.ifCond .eq 44, 3) := by decide +kernel
theorem dX7_keptFor_66 : decode cX7_keptFor 66 = .ok (.aload_n 0, 1) := by decide +kernel
theorem dX7_keptFor_67 : decode cX7_keptFor 67 = .ok (.getfield 58, 3) := by decide +kernel
theorem dX7_keptFor_70 : decode cX7_keptFor 70 = .ok (.bipush 60, 2) := by decide +kernel
theorem dX7_keptFor_72 : decode cX7_keptFor 72 = .ok (.iload 4, 2) := by decide +kernel
theorem dX7_keptFor_74 : decode cX7_keptFor 74 = .ok (.imul, 1) := by decide +kernel
theorem dX7_keptFor_75 : decode cX7_keptFor 75 = .ok (.iload 6, 2) := by decide +kernel
theorem dX7_keptFor_77 : decode cX7_keptFor 77 = .ok (.iadd, 1) := by decide +kernel
theorem dX7_keptFor_78 : decode cX7_keptFor 78 = .ok (.iaload, 1) := by decide +kernel
theorem dX7_keptFor_79 : decode cX7_keptFor 79 = .ok (.aload_n 0, 1) := by decide +kernel
theorem dX7_keptFor_80 : decode cX7_keptFor 80 = .ok (.getfield 43, 3) := by decide +kernel
theorem dX7_keptFor_83 : decode cX7_keptFor 83 = .ok (.bipush 60, 2) := by decide +kernel
theorem dX7_keptFor_85 : decode cX7_keptFor 85 = .ok (.iload_n 2, 1) := by decide +kernel
theorem dX7_keptFor_86 : decode cX7_keptFor 86 = .ok (.imul, 1) := by decide +kernel
theorem dX7_keptFor_87 : decode cX7_keptFor 87 = .ok (.iload 6, 2) := by decide +kernel
theorem dX7_keptFor_89 : decode cX7_keptFor 89 = .ok (.iadd, 1) := by decide +kernel
theorem dX7_keptFor_90 : decode cX7_keptFor 90 = .ok (.iaload, 1) := by decide +kernel
theorem dX7_keptFor_91 : decode cX7_keptFor 91 = .ok (.if_icmp .ne 7, 3) := by decide +kernel
theorem dX7_keptFor_94 : decode cX7_keptFor 94 = .ok (.iconst 1, 1) := by decide +kernel
theorem dX7_keptFor_95 : decode cX7_keptFor 95 = .ok (.goto 4, 3) := by decide +kernel
theorem dX7_keptFor_98 : decode cX7_keptFor 98 = .ok (.iconst 0, 1) := by decide +kernel
theorem dX7_keptFor_99 : decode cX7_keptFor 99 = .ok (.istore 5, 2) := by decide +kernel
theorem dX7_keptFor_101 : decode cX7_keptFor 101 = .ok (.iinc 6 1, 3) := by decide +kernel
theorem dX7_keptFor_104 : decode cX7_keptFor 104 = .ok (.goto (-54), 3) := by decide +kernel
theorem dX7_keptFor_107 : decode cX7_keptFor 107 = .ok (.iload 5, 2) := by decide +kernel
theorem dX7_keptFor_109 : decode cX7_keptFor 109 = .ok (.ifCond .eq 8, 3) := by decide +kernel
theorem dX7_keptFor_112 : decode cX7_keptFor 112 = .ok (.iload 4, 2) := by decide +kernel
theorem dX7_keptFor_114 : decode cX7_keptFor 114 = .ok (.goto 4, 3) := by decide +kernel
theorem dX7_keptFor_117 : decode cX7_keptFor 117 = .ok (.iload_n 3, 1) := by decide +kernel
theorem dX7_keptFor_118 : decode cX7_keptFor 118 = .ok (.istore_n 3, 1) := by decide +kernel
theorem dX7_keptFor_119 : decode cX7_keptFor 119 = .ok (.iinc 4 1, 3) := by decide +kernel
theorem dX7_keptFor_122 : decode cX7_keptFor 122 = .ok (.goto (-114), 3) := by decide +kernel
theorem dX7_keptFor_125 : decode cX7_keptFor 125 = .ok (.iload_n 3, 1) := by decide +kernel
theorem dX7_keptFor_126 : decode cX7_keptFor 126 = .ok (.ireturn, 1) := by decide +kernel
theorem dX7_movesDown_0 : decode cX7_movesDown 0 = .ok (.aload_n 0, 1) := by decide +kernel
theorem dX7_movesDown_1 : decode cX7_movesDown 1 = .ok (.getfield 52, 3) := by decide +kernel
theorem dX7_movesDown_4 : decode cX7_movesDown 4 = .ok (.iload_n 1, 1) := by decide +kernel
theorem dX7_movesDown_5 : decode cX7_movesDown 5 = .ok (.dup2, 1) := by decide +kernel
theorem dX7_movesDown_6 : decode cX7_movesDown 6 = .ok (.iaload, 1) := by decide +kernel
theorem dX7_movesDown_7 : decode cX7_movesDown 7 = .ok (.iconst 1, 1) := by decide +kernel
theorem dX7_movesDown_8 : decode cX7_movesDown 8 = .ok (.isub, 1) := by decide +kernel
theorem dX7_movesDown_9 : decode cX7_movesDown 9 = .ok (.iastore, 1) := by decide +kernel
theorem dX7_movesDown_10 : decode cX7_movesDown 10 = .ok (.iload_n 2, 1) := by decide +kernel
theorem dX7_movesDown_11 : decode cX7_movesDown 11 = .ok (.istore_n 3, 1) := by decide +kernel
theorem dX7_movesDown_12 : decode cX7_movesDown 12 = .ok (.iload_n 3, 1) := by decide +kernel
theorem dX7_movesDown_13 : decode cX7_movesDown 13 = .ok (.bipush 9, 2) := by decide +kernel
theorem dX7_movesDown_15 : decode cX7_movesDown 15 = .ok (.iload_n 1, 1) := by decide +kernel
theorem dX7_movesDown_16 : decode cX7_movesDown 16 = .ok (.imul, 1) := by decide +kernel
theorem dX7_movesDown_17 : decode cX7_movesDown 17 = .ok (.aload_n 0, 1) := by decide +kernel
theorem dX7_movesDown_18 : decode cX7_movesDown 18 = .ok (.getfield 52, 3) := by decide +kernel
theorem dX7_movesDown_21 : decode cX7_movesDown 21 = .ok (.iload_n 1, 1) := by decide +kernel
theorem dX7_movesDown_22 : decode cX7_movesDown 22 = .ok (.iaload, 1) := by decide +kernel
theorem dX7_movesDown_23 : decode cX7_movesDown 23 = .ok (.iadd, 1) := by decide +kernel
theorem dX7_movesDown_24 : decode cX7_movesDown 24 = .ok (.if_icmp .ge 119, 3) := by decide +kernel
theorem dX7_movesDown_27 : decode cX7_movesDown 27 = .ok (.aload_n 0, 1) := by decide +kernel
theorem dX7_movesDown_28 : decode cX7_movesDown 28 = .ok (.getfield 55, 3) := by decide +kernel
theorem dX7_movesDown_31 : decode cX7_movesDown 31 = .ok (.iload_n 3, 1) := by decide +kernel
theorem dX7_movesDown_32 : decode cX7_movesDown 32 = .ok (.aload_n 0, 1) := by decide +kernel
theorem dX7_movesDown_33 : decode cX7_movesDown 33 = .ok (.getfield 55, 3) := by decide +kernel
theorem dX7_movesDown_36 : decode cX7_movesDown 36 = .ok (.iload_n 3, 1) := by decide +kernel
theorem dX7_movesDown_37 : decode cX7_movesDown 37 = .ok (.iconst 1, 1) := by decide +kernel
theorem dX7_movesDown_38 : decode cX7_movesDown 38 = .ok (.iadd, 1) := by decide +kernel
theorem dX7_movesDown_39 : decode cX7_movesDown 39 = .ok (.iaload, 1) := by decide +kernel
theorem dX7_movesDown_40 : decode cX7_movesDown 40 = .ok (.iastore, 1) := by decide +kernel
theorem dX7_movesDown_41 : decode cX7_movesDown 41 = .ok (.aload_n 0, 1) := by decide +kernel
theorem dX7_movesDown_42 : decode cX7_movesDown 42 = .ok (.getfield 61, 3) := by decide +kernel
theorem dX7_movesDown_45 : decode cX7_movesDown 45 = .ok (.iload_n 3, 1) := by decide +kernel
theorem dX7_movesDown_46 : decode cX7_movesDown 46 = .ok (.aload_n 0, 1) := by decide +kernel
theorem dX7_movesDown_47 : decode cX7_movesDown 47 = .ok (.getfield 61, 3) := by decide +kernel
theorem dX7_movesDown_50 : decode cX7_movesDown 50 = .ok (.iload_n 3, 1) := by decide +kernel
theorem dX7_movesDown_51 : decode cX7_movesDown 51 = .ok (.iconst 1, 1) := by decide +kernel
theorem dX7_movesDown_52 : decode cX7_movesDown 52 = .ok (.iadd, 1) := by decide +kernel
theorem dX7_movesDown_53 : decode cX7_movesDown 53 = .ok (.iaload, 1) := by decide +kernel
theorem dX7_movesDown_54 : decode cX7_movesDown 54 = .ok (.iastore, 1) := by decide +kernel
theorem dX7_movesDown_55 : decode cX7_movesDown 55 = .ok (.aload_n 0, 1) := by decide +kernel
theorem dX7_movesDown_56 : decode cX7_movesDown 56 = .ok (.getfield 67, 3) := by decide +kernel
theorem dX7_movesDown_59 : decode cX7_movesDown 59 = .ok (.iload_n 3, 1) := by decide +kernel
theorem dX7_movesDown_60 : decode cX7_movesDown 60 = .ok (.aload_n 0, 1) := by decide +kernel
theorem dX7_movesDown_61 : decode cX7_movesDown 61 = .ok (.getfield 67, 3) := by decide +kernel
theorem dX7_movesDown_64 : decode cX7_movesDown 64 = .ok (.iload_n 3, 1) := by decide +kernel
theorem dX7_movesDown_65 : decode cX7_movesDown 65 = .ok (.iconst 1, 1) := by decide +kernel
theorem dX7_movesDown_66 : decode cX7_movesDown 66 = .ok (.iadd, 1) := by decide +kernel
theorem dX7_movesDown_67 : decode cX7_movesDown 67 = .ok (.iaload, 1) := by decide +kernel
theorem dX7_movesDown_68 : decode cX7_movesDown 68 = .ok (.iastore, 1) := by decide +kernel
theorem dX7_movesDown_69 : decode cX7_movesDown 69 = .ok (.iconst 0, 1) := by decide +kernel
theorem dX7_movesDown_70 : decode cX7_movesDown 70 = .ok (.istore 4, 2) := by decide +kernel
theorem dX7_movesDown_72 : decode cX7_movesDown 72 = .ok (.iload 4, 2) := by decide +kernel
theorem dX7_movesDown_74 : decode cX7_movesDown 74 = .ok (.bipush 60, 2) := by decide +kernel
theorem dX7_movesDown_76 : decode cX7_movesDown 76 = .ok (.if_icmp .ge 61, 3) := by decide +kernel
theorem dX7_movesDown_79 : decode cX7_movesDown 79 = .ok (.aload_n 0, 1) := by decide +kernel
theorem dX7_movesDown_80 : decode cX7_movesDown 80 = .ok (.getfield 58, 3) := by decide +kernel
theorem dX7_movesDown_83 : decode cX7_movesDown 83 = .ok (.bipush 60, 2) := by decide +kernel
theorem dX7_movesDown_85 : decode cX7_movesDown 85 = .ok (.iload_n 3, 1) := by decide +kernel
theorem dX7_movesDown_86 : decode cX7_movesDown 86 = .ok (.imul, 1) := by decide +kernel
theorem dX7_movesDown_87 : decode cX7_movesDown 87 = .ok (.iload 4, 2) := by decide +kernel
theorem dX7_movesDown_89 : decode cX7_movesDown 89 = .ok (.iadd, 1) := by decide +kernel
theorem dX7_movesDown_90 : decode cX7_movesDown 90 = .ok (.aload_n 0, 1) := by decide +kernel
theorem dX7_movesDown_91 : decode cX7_movesDown 91 = .ok (.getfield 58, 3) := by decide +kernel
theorem dX7_movesDown_94 : decode cX7_movesDown 94 = .ok (.bipush 60, 2) := by decide +kernel
theorem dX7_movesDown_96 : decode cX7_movesDown 96 = .ok (.iload_n 3, 1) := by decide +kernel
theorem dX7_movesDown_97 : decode cX7_movesDown 97 = .ok (.iconst 1, 1) := by decide +kernel
theorem dX7_movesDown_98 : decode cX7_movesDown 98 = .ok (.iadd, 1) := by decide +kernel
theorem dX7_movesDown_99 : decode cX7_movesDown 99 = .ok (.imul, 1) := by decide +kernel
theorem dX7_movesDown_100 : decode cX7_movesDown 100 = .ok (.iload 4, 2) := by decide +kernel
theorem dX7_movesDown_102 : decode cX7_movesDown 102 = .ok (.iadd, 1) := by decide +kernel
theorem dX7_movesDown_103 : decode cX7_movesDown 103 = .ok (.iaload, 1) := by decide +kernel
theorem dX7_movesDown_104 : decode cX7_movesDown 104 = .ok (.iastore, 1) := by decide +kernel
theorem dX7_movesDown_105 : decode cX7_movesDown 105 = .ok (.aload_n 0, 1) := by decide +kernel
theorem dX7_movesDown_106 : decode cX7_movesDown 106 = .ok (.getfield 64, 3) := by decide +kernel
theorem dX7_movesDown_109 : decode cX7_movesDown 109 = .ok (.bipush 60, 2) := by decide +kernel
theorem dX7_movesDown_111 : decode cX7_movesDown 111 = .ok (.iload_n 3, 1) := by decide +kernel
theorem dX7_movesDown_112 : decode cX7_movesDown 112 = .ok (.imul, 1) := by decide +kernel
theorem dX7_movesDown_113 : decode cX7_movesDown 113 = .ok (.iload 4, 2) := by decide +kernel
theorem dX7_movesDown_115 : decode cX7_movesDown 115 = .ok (.iadd, 1) := by decide +kernel
theorem dX7_movesDown_116 : decode cX7_movesDown 116 = .ok (.aload_n 0, 1) := by decide +kernel
theorem dX7_movesDown_117 : decode cX7_movesDown 117 = .ok (.getfield 64, 3) := by decide +kernel
theorem dX7_movesDown_120 : decode cX7_movesDown 120 = .ok (.bipush 60, 2) := by decide +kernel
theorem dX7_movesDown_122 : decode cX7_movesDown 122 = .ok (.iload_n 3, 1) := by decide +kernel
theorem dX7_movesDown_123 : decode cX7_movesDown 123 = .ok (.iconst 1, 1) := by decide +kernel
theorem dX7_movesDown_124 : decode cX7_movesDown 124 = .ok (.iadd, 1) := by decide +kernel
theorem dX7_movesDown_125 : decode cX7_movesDown 125 = .ok (.imul, 1) := by decide +kernel
theorem dX7_movesDown_126 : decode cX7_movesDown 126 = .ok (.iload 4, 2) := by decide +kernel
theorem dX7_movesDown_128 : decode cX7_movesDown 128 = .ok (.iadd, 1) := by decide +kernel
theorem dX7_movesDown_129 : decode cX7_movesDown 129 = .ok (.iaload, 1) := by decide +kernel
theorem dX7_movesDown_130 : decode cX7_movesDown 130 = .ok (.iastore, 1) := by decide +kernel
theorem dX7_movesDown_131 : decode cX7_movesDown 131 = .ok (.iinc 4 1, 3) := by decide +kernel
theorem dX7_movesDown_134 : decode cX7_movesDown 134 = .ok (.goto (-62), 3) := by decide +kernel
theorem dX7_movesDown_137 : decode cX7_movesDown 137 = .ok (.iinc 3 1, 3) := by decide +kernel
theorem dX7_movesDown_140 : decode cX7_movesDown 140 = .ok (.goto (-128), 3) := by decide +kernel
theorem dX7_movesDown_143 : decode cX7_movesDown 143 = .ok (.return_, 1) := by decide +kernel
theorem dX7_oldest_0 : decode cX7_oldest 0 = .ok (.bipush 9, 2) := by decide +kernel
theorem dX7_oldest_2 : decode cX7_oldest 2 = .ok (.iload_n 1, 1) := by decide +kernel
theorem dX7_oldest_3 : decode cX7_oldest 3 = .ok (.imul, 1) := by decide +kernel
theorem dX7_oldest_4 : decode cX7_oldest 4 = .ok (.istore_n 2, 1) := by decide +kernel
theorem dX7_oldest_5 : decode cX7_oldest 5 = .ok (.bipush 9, 2) := by decide +kernel
theorem dX7_oldest_7 : decode cX7_oldest 7 = .ok (.iload_n 1, 1) := by decide +kernel
theorem dX7_oldest_8 : decode cX7_oldest 8 = .ok (.imul, 1) := by decide +kernel
theorem dX7_oldest_9 : decode cX7_oldest 9 = .ok (.istore_n 3, 1) := by decide +kernel
theorem dX7_oldest_10 : decode cX7_oldest 10 = .ok (.iload_n 3, 1) := by decide +kernel
theorem dX7_oldest_11 : decode cX7_oldest 11 = .ok (.bipush 9, 2) := by decide +kernel
theorem dX7_oldest_13 : decode cX7_oldest 13 = .ok (.iload_n 1, 1) := by decide +kernel
theorem dX7_oldest_14 : decode cX7_oldest 14 = .ok (.imul, 1) := by decide +kernel
theorem dX7_oldest_15 : decode cX7_oldest 15 = .ok (.aload_n 0, 1) := by decide +kernel
theorem dX7_oldest_16 : decode cX7_oldest 16 = .ok (.getfield 52, 3) := by decide +kernel
theorem dX7_oldest_19 : decode cX7_oldest 19 = .ok (.iload_n 1, 1) := by decide +kernel
theorem dX7_oldest_20 : decode cX7_oldest 20 = .ok (.iaload, 1) := by decide +kernel
theorem dX7_oldest_21 : decode cX7_oldest 21 = .ok (.iadd, 1) := by decide +kernel
theorem dX7_oldest_22 : decode cX7_oldest 22 = .ok (.if_icmp .ge 30, 3) := by decide +kernel
theorem dX7_oldest_25 : decode cX7_oldest 25 = .ok (.aload_n 0, 1) := by decide +kernel
theorem dX7_oldest_26 : decode cX7_oldest 26 = .ok (.getfield 67, 3) := by decide +kernel
theorem dX7_oldest_29 : decode cX7_oldest 29 = .ok (.iload_n 3, 1) := by decide +kernel
theorem dX7_oldest_30 : decode cX7_oldest 30 = .ok (.iaload, 1) := by decide +kernel
theorem dX7_oldest_31 : decode cX7_oldest 31 = .ok (.aload_n 0, 1) := by decide +kernel
theorem dX7_oldest_32 : decode cX7_oldest 32 = .ok (.getfield 67, 3) := by decide +kernel
theorem dX7_oldest_35 : decode cX7_oldest 35 = .ok (.iload_n 2, 1) := by decide +kernel
theorem dX7_oldest_36 : decode cX7_oldest 36 = .ok (.iaload, 1) := by decide +kernel
theorem dX7_oldest_37 : decode cX7_oldest 37 = .ok (.if_icmp .ge 7, 3) := by decide +kernel
theorem dX7_oldest_40 : decode cX7_oldest 40 = .ok (.iload_n 3, 1) := by decide +kernel
theorem dX7_oldest_41 : decode cX7_oldest 41 = .ok (.goto 4, 3) := by decide +kernel
theorem dX7_oldest_44 : decode cX7_oldest 44 = .ok (.iload_n 2, 1) := by decide +kernel
theorem dX7_oldest_45 : decode cX7_oldest 45 = .ok (.istore_n 2, 1) := by decide +kernel
theorem dX7_oldest_46 : decode cX7_oldest 46 = .ok (.iinc 3 1, 3) := by decide +kernel
theorem dX7_oldest_49 : decode cX7_oldest 49 = .ok (.goto (-39), 3) := by decide +kernel
theorem dX7_oldest_52 : decode cX7_oldest 52 = .ok (.iload_n 2, 1) := by decide +kernel
theorem dX7_oldest_53 : decode cX7_oldest 53 = .ok (.ireturn, 1) := by decide +kernel
theorem dX7_keeps_0 : decode cX7_keeps 0 = .ok (.aload_n 0, 1) := by decide +kernel
theorem dX7_keeps_1 : decode cX7_keeps 1 = .ok (.iload_n 1, 1) := by decide +kernel
theorem dX7_keeps_2 : decode cX7_keeps 2 = .ok (.iload_n 2, 1) := by decide +kernel
theorem dX7_keeps_3 : decode cX7_keeps 3 = .ok (.invokevirtual 202, 3) := by decide +kernel
theorem dX7_keeps_6 : decode cX7_keeps 6 = .ok (.istore 4, 2) := by decide +kernel
theorem dX7_keeps_8 : decode cX7_keeps 8 = .ok (.iload 4, 2) := by decide +kernel
theorem dX7_keeps_10 : decode cX7_keeps 10 = .ok (.iconst (-1), 1) := by decide +kernel
theorem dX7_keeps_11 : decode cX7_keeps 11 = .ok (.if_icmp .ne 26, 3) := by decide +kernel
theorem dX7_keeps_14 : decode cX7_keeps 14 = .ok (.bipush 9, 2) := by decide +kernel
theorem dX7_keeps_16 : decode cX7_keeps 16 = .ok (.iload_n 1, 1) := by decide +kernel
theorem dX7_keeps_17 : decode cX7_keeps 17 = .ok (.imul, 1) := by decide +kernel
theorem dX7_keeps_18 : decode cX7_keeps 18 = .ok (.aload_n 0, 1) := by decide +kernel
theorem dX7_keeps_19 : decode cX7_keeps 19 = .ok (.getfield 52, 3) := by decide +kernel
theorem dX7_keeps_22 : decode cX7_keeps 22 = .ok (.iload_n 1, 1) := by decide +kernel
theorem dX7_keeps_23 : decode cX7_keeps 23 = .ok (.iaload, 1) := by decide +kernel
theorem dX7_keeps_24 : decode cX7_keeps 24 = .ok (.iadd, 1) := by decide +kernel
theorem dX7_keeps_25 : decode cX7_keeps 25 = .ok (.istore 4, 2) := by decide +kernel
theorem dX7_keeps_27 : decode cX7_keeps 27 = .ok (.aload_n 0, 1) := by decide +kernel
theorem dX7_keeps_28 : decode cX7_keeps 28 = .ok (.getfield 52, 3) := by decide +kernel
theorem dX7_keeps_31 : decode cX7_keeps 31 = .ok (.iload_n 1, 1) := by decide +kernel
theorem dX7_keeps_32 : decode cX7_keeps 32 = .ok (.dup2, 1) := by decide +kernel
theorem dX7_keeps_33 : decode cX7_keeps 33 = .ok (.iaload, 1) := by decide +kernel
theorem dX7_keeps_34 : decode cX7_keeps 34 = .ok (.iconst 1, 1) := by decide +kernel
theorem dX7_keeps_35 : decode cX7_keeps 35 = .ok (.iadd, 1) := by decide +kernel
theorem dX7_keeps_36 : decode cX7_keeps 36 = .ok (.iastore, 1) := by decide +kernel
theorem dX7_keeps_37 : decode cX7_keeps 37 = .ok (.aload_n 0, 1) := by decide +kernel
theorem dX7_keeps_38 : decode cX7_keeps 38 = .ok (.getfield 55, 3) := by decide +kernel
theorem dX7_keeps_41 : decode cX7_keeps 41 = .ok (.iload 4, 2) := by decide +kernel
theorem dX7_keeps_43 : decode cX7_keeps 43 = .ok (.aload_n 0, 1) := by decide +kernel
theorem dX7_keeps_44 : decode cX7_keeps 44 = .ok (.getfield 40, 3) := by decide +kernel
theorem dX7_keeps_47 : decode cX7_keeps 47 = .ok (.iload_n 2, 1) := by decide +kernel
theorem dX7_keeps_48 : decode cX7_keeps 48 = .ok (.iaload, 1) := by decide +kernel
theorem dX7_keeps_49 : decode cX7_keeps 49 = .ok (.iastore, 1) := by decide +kernel
theorem dX7_keeps_50 : decode cX7_keeps 50 = .ok (.aload_n 0, 1) := by decide +kernel
theorem dX7_keeps_51 : decode cX7_keeps 51 = .ok (.getfield 61, 3) := by decide +kernel
theorem dX7_keeps_54 : decode cX7_keeps 54 = .ok (.iload 4, 2) := by decide +kernel
theorem dX7_keeps_56 : decode cX7_keeps 56 = .ok (.aload_n 0, 1) := by decide +kernel
theorem dX7_keeps_57 : decode cX7_keeps 57 = .ok (.getfield 40, 3) := by decide +kernel
theorem dX7_keeps_60 : decode cX7_keeps 60 = .ok (.iload_n 3, 1) := by decide +kernel
theorem dX7_keeps_61 : decode cX7_keeps 61 = .ok (.iaload, 1) := by decide +kernel
theorem dX7_keeps_62 : decode cX7_keeps 62 = .ok (.iastore, 1) := by decide +kernel
theorem dX7_keeps_63 : decode cX7_keeps 63 = .ok (.iconst 0, 1) := by decide +kernel
theorem dX7_keeps_64 : decode cX7_keeps 64 = .ok (.istore 5, 2) := by decide +kernel
theorem dX7_keeps_66 : decode cX7_keeps 66 = .ok (.iload 5, 2) := by decide +kernel
theorem dX7_keeps_68 : decode cX7_keeps 68 = .ok (.bipush 60, 2) := by decide +kernel
theorem dX7_keeps_70 : decode cX7_keeps 70 = .ok (.if_icmp .ge 59, 3) := by decide +kernel
theorem dX7_keeps_73 : decode cX7_keeps 73 = .ok (.aload_n 0, 1) := by decide +kernel
theorem dX7_keeps_74 : decode cX7_keeps 74 = .ok (.getfield 58, 3) := by decide +kernel
theorem dX7_keeps_77 : decode cX7_keeps 77 = .ok (.bipush 60, 2) := by decide +kernel
theorem dX7_keeps_79 : decode cX7_keeps 79 = .ok (.iload 4, 2) := by decide +kernel
theorem dX7_keeps_81 : decode cX7_keeps 81 = .ok (.imul, 1) := by decide +kernel
theorem dX7_keeps_82 : decode cX7_keeps 82 = .ok (.iload 5, 2) := by decide +kernel
theorem dX7_keeps_84 : decode cX7_keeps 84 = .ok (.iadd, 1) := by decide +kernel
theorem dX7_keeps_85 : decode cX7_keeps 85 = .ok (.aload_n 0, 1) := by decide +kernel
theorem dX7_keeps_86 : decode cX7_keeps 86 = .ok (.getfield 43, 3) := by decide +kernel
theorem dX7_keeps_89 : decode cX7_keeps 89 = .ok (.bipush 60, 2) := by decide +kernel
theorem dX7_keeps_91 : decode cX7_keeps 91 = .ok (.iload_n 2, 1) := by decide +kernel
theorem dX7_keeps_92 : decode cX7_keeps 92 = .ok (.imul, 1) := by decide +kernel
theorem dX7_keeps_93 : decode cX7_keeps 93 = .ok (.iload 5, 2) := by decide +kernel
theorem dX7_keeps_95 : decode cX7_keeps 95 = .ok (.iadd, 1) := by decide +kernel
theorem dX7_keeps_96 : decode cX7_keeps 96 = .ok (.iaload, 1) := by decide +kernel
theorem dX7_keeps_97 : decode cX7_keeps 97 = .ok (.iastore, 1) := by decide +kernel
theorem dX7_keeps_98 : decode cX7_keeps 98 = .ok (.aload_n 0, 1) := by decide +kernel
theorem dX7_keeps_99 : decode cX7_keeps 99 = .ok (.getfield 64, 3) := by decide +kernel
theorem dX7_keeps_102 : decode cX7_keeps 102 = .ok (.bipush 60, 2) := by decide +kernel
theorem dX7_keeps_104 : decode cX7_keeps 104 = .ok (.iload 4, 2) := by decide +kernel
theorem dX7_keeps_106 : decode cX7_keeps 106 = .ok (.imul, 1) := by decide +kernel
theorem dX7_keeps_107 : decode cX7_keeps 107 = .ok (.iload 5, 2) := by decide +kernel
theorem dX7_keeps_109 : decode cX7_keeps 109 = .ok (.iadd, 1) := by decide +kernel
theorem dX7_keeps_110 : decode cX7_keeps 110 = .ok (.aload_n 0, 1) := by decide +kernel
theorem dX7_keeps_111 : decode cX7_keeps 111 = .ok (.getfield 43, 3) := by decide +kernel
theorem dX7_keeps_114 : decode cX7_keeps 114 = .ok (.bipush 60, 2) := by decide +kernel
theorem dX7_keeps_116 : decode cX7_keeps 116 = .ok (.iload_n 3, 1) := by decide +kernel
theorem dX7_keeps_117 : decode cX7_keeps 117 = .ok (.imul, 1) := by decide +kernel
theorem dX7_keeps_118 : decode cX7_keeps 118 = .ok (.iload 5, 2) := by decide +kernel
theorem dX7_keeps_120 : decode cX7_keeps 120 = .ok (.iadd, 1) := by decide +kernel
theorem dX7_keeps_121 : decode cX7_keeps 121 = .ok (.iaload, 1) := by decide +kernel
theorem dX7_keeps_122 : decode cX7_keeps 122 = .ok (.iastore, 1) := by decide +kernel
theorem dX7_keeps_123 : decode cX7_keeps 123 = .ok (.iinc 5 1, 3) := by decide +kernel
theorem dX7_keeps_126 : decode cX7_keeps 126 = .ok (.goto (-60), 3) := by decide +kernel
theorem dX7_keeps_129 : decode cX7_keeps 129 = .ok (.aload_n 0, 1) := by decide +kernel
theorem dX7_keeps_130 : decode cX7_keeps 130 = .ok (.dup, 1) := by decide +kernel
theorem dX7_keeps_131 : decode cX7_keeps 131 = .ok (.getfield 163, 3) := by decide +kernel
theorem dX7_keeps_134 : decode cX7_keeps 134 = .ok (.iconst 1, 1) := by decide +kernel
theorem dX7_keeps_135 : decode cX7_keeps 135 = .ok (.iadd, 1) := by decide +kernel
theorem dX7_keeps_136 : decode cX7_keeps 136 = .ok (.putfield 163, 3) := by decide +kernel
theorem dX7_keeps_139 : decode cX7_keeps 139 = .ok (.aload_n 0, 1) := by decide +kernel
theorem dX7_keeps_140 : decode cX7_keeps 140 = .ok (.getfield 67, 3) := by decide +kernel
theorem dX7_keeps_143 : decode cX7_keeps 143 = .ok (.iload 4, 2) := by decide +kernel
theorem dX7_keeps_145 : decode cX7_keeps 145 = .ok (.aload_n 0, 1) := by decide +kernel
theorem dX7_keeps_146 : decode cX7_keeps 146 = .ok (.getfield 163, 3) := by decide +kernel
theorem dX7_keeps_149 : decode cX7_keeps 149 = .ok (.iastore, 1) := by decide +kernel
theorem dX7_keeps_150 : decode cX7_keeps 150 = .ok (.aload_n 0, 1) := by decide +kernel
theorem dX7_keeps_151 : decode cX7_keeps 151 = .ok (.getfield 52, 3) := by decide +kernel
theorem dX7_keeps_154 : decode cX7_keeps 154 = .ok (.iload_n 1, 1) := by decide +kernel
theorem dX7_keeps_155 : decode cX7_keeps 155 = .ok (.iaload, 1) := by decide +kernel
theorem dX7_keeps_156 : decode cX7_keeps 156 = .ok (.bipush 8, 2) := by decide +kernel
theorem dX7_keeps_158 : decode cX7_keeps 158 = .ok (.if_icmp .le 13, 3) := by decide +kernel
theorem dX7_keeps_161 : decode cX7_keeps 161 = .ok (.aload_n 0, 1) := by decide +kernel
theorem dX7_keeps_162 : decode cX7_keeps 162 = .ok (.iload_n 1, 1) := by decide +kernel
theorem dX7_keeps_163 : decode cX7_keeps 163 = .ok (.aload_n 0, 1) := by decide +kernel
theorem dX7_keeps_164 : decode cX7_keeps 164 = .ok (.iload_n 1, 1) := by decide +kernel
theorem dX7_keeps_165 : decode cX7_keeps 165 = .ok (.invokevirtual 206, 3) := by decide +kernel
theorem dX7_keeps_168 : decode cX7_keeps 168 = .ok (.invokevirtual 209, 3) := by decide +kernel
theorem dX7_keeps_171 : decode cX7_keeps 171 = .ok (.return_, 1) := by decide +kernel
theorem dX7_confirm_0 : decode cX7_confirm 0 = .ok (.aload_n 0, 1) := by decide +kernel
theorem dX7_confirm_1 : decode cX7_confirm 1 = .ok (.aload_n 0, 1) := by decide +kernel
theorem dX7_confirm_2 : decode cX7_confirm 2 = .ok (.iload_n 1, 1) := by decide +kernel
theorem dX7_confirm_3 : decode cX7_confirm 3 = .ok (.invokevirtual 103, 3) := by decide +kernel
theorem dX7_confirm_6 : decode cX7_confirm 6 = .ok (.ifCond .eq 16, 3) := by decide +kernel
theorem dX7_confirm_9 : decode cX7_confirm 9 = .ok (.iload_n 2, 1) := by decide +kernel
theorem dX7_confirm_10 : decode cX7_confirm 10 = .ok (.iconst 1, 1) := by decide +kernel
theorem dX7_confirm_11 : decode cX7_confirm 11 = .ok (.iconst 2, 1) := by decide +kernel
theorem dX7_confirm_12 : decode cX7_confirm 12 = .ok (.invokestatic 93, 3) := by decide +kernel
theorem dX7_confirm_15 : decode cX7_confirm 15 = .ok (.ifCond .eq 7, 3) := by decide +kernel
theorem dX7_confirm_18 : decode cX7_confirm 18 = .ok (.iconst 0, 1) := by decide +kernel
theorem dX7_confirm_19 : decode cX7_confirm 19 = .ok (.goto 4, 3) := by decide +kernel
theorem dX7_confirm_22 : decode cX7_confirm 22 = .ok (.iconst 1, 1) := by decide +kernel
theorem dX7_confirm_23 : decode cX7_confirm 23 = .ok (.putfield 87, 3) := by decide +kernel
theorem dX7_confirm_26 : decode cX7_confirm 26 = .ok (.aload_n 0, 1) := by decide +kernel
theorem dX7_confirm_27 : decode cX7_confirm 27 = .ok (.getfield 87, 3) := by decide +kernel
theorem dX7_confirm_30 : decode cX7_confirm 30 = .ok (.ifCond .ne 36, 3) := by decide +kernel
theorem dX7_confirm_33 : decode cX7_confirm 33 = .ok (.aload_n 0, 1) := by decide +kernel
theorem dX7_confirm_34 : decode cX7_confirm 34 = .ok (.aload_n 0, 1) := by decide +kernel
theorem dX7_confirm_35 : decode cX7_confirm 35 = .ok (.getfield 40, 3) := by decide +kernel
theorem dX7_confirm_38 : decode cX7_confirm 38 = .ok (.iconst 3, 1) := by decide +kernel
theorem dX7_confirm_39 : decode cX7_confirm 39 = .ok (.iload_n 1, 1) := by decide +kernel
theorem dX7_confirm_40 : decode cX7_confirm 40 = .ok (.imul, 1) := by decide +kernel
theorem dX7_confirm_41 : decode cX7_confirm 41 = .ok (.iaload, 1) := by decide +kernel
theorem dX7_confirm_42 : decode cX7_confirm 42 = .ok (.ifCond .eq 16, 3) := by decide +kernel
theorem dX7_confirm_45 : decode cX7_confirm 45 = .ok (.aload_n 0, 1) := by decide +kernel
theorem dX7_confirm_46 : decode cX7_confirm 46 = .ok (.getfield 40, 3) := by decide +kernel
theorem dX7_confirm_49 : decode cX7_confirm 49 = .ok (.iconst 3, 1) := by decide +kernel
theorem dX7_confirm_50 : decode cX7_confirm 50 = .ok (.iload_n 1, 1) := by decide +kernel
theorem dX7_confirm_51 : decode cX7_confirm 51 = .ok (.imul, 1) := by decide +kernel
theorem dX7_confirm_52 : decode cX7_confirm 52 = .ok (.iload_n 2, 1) := by decide +kernel
theorem dX7_confirm_53 : decode cX7_confirm 53 = .ok (.iadd, 1) := by decide +kernel
theorem dX7_confirm_54 : decode cX7_confirm 54 = .ok (.iaload, 1) := by decide +kernel
theorem dX7_confirm_55 : decode cX7_confirm 55 = .ok (.ifCond .ne 7, 3) := by decide +kernel
theorem dX7_confirm_58 : decode cX7_confirm 58 = .ok (.iconst 2, 1) := by decide +kernel
theorem dX7_confirm_59 : decode cX7_confirm 59 = .ok (.goto 4, 3) := by decide +kernel
theorem dX7_confirm_62 : decode cX7_confirm 62 = .ok (.iconst 0, 1) := by decide +kernel
theorem dX7_confirm_63 : decode cX7_confirm 63 = .ok (.putfield 87, 3) := by decide +kernel
theorem dX7_confirm_66 : decode cX7_confirm 66 = .ok (.aload_n 0, 1) := by decide +kernel
theorem dX7_confirm_67 : decode cX7_confirm 67 = .ok (.getfield 87, 3) := by decide +kernel
theorem dX7_confirm_70 : decode cX7_confirm 70 = .ok (.ifCond .le 5, 3) := by decide +kernel
theorem dX7_confirm_73 : decode cX7_confirm 73 = .ok (.iconst 0, 1) := by decide +kernel
theorem dX7_confirm_74 : decode cX7_confirm 74 = .ok (.ireturn, 1) := by decide +kernel
theorem dX7_confirm_75 : decode cX7_confirm 75 = .ok (.aload_n 0, 1) := by decide +kernel
theorem dX7_confirm_76 : decode cX7_confirm 76 = .ok (.iload_n 2, 1) := by decide +kernel
theorem dX7_confirm_77 : decode cX7_confirm 77 = .ok (.iconst 1, 1) := by decide +kernel
theorem dX7_confirm_78 : decode cX7_confirm 78 = .ok (.isub, 1) := by decide +kernel
theorem dX7_confirm_79 : decode cX7_confirm 79 = .ok (.iconst 3, 1) := by decide +kernel
theorem dX7_confirm_80 : decode cX7_confirm 80 = .ok (.iload_n 1, 1) := by decide +kernel
theorem dX7_confirm_81 : decode cX7_confirm 81 = .ok (.imul, 1) := by decide +kernel
theorem dX7_confirm_82 : decode cX7_confirm 82 = .ok (.iconst 3, 1) := by decide +kernel
theorem dX7_confirm_83 : decode cX7_confirm 83 = .ok (.iload_n 1, 1) := by decide +kernel
theorem dX7_confirm_84 : decode cX7_confirm 84 = .ok (.imul, 1) := by decide +kernel
theorem dX7_confirm_85 : decode cX7_confirm 85 = .ok (.iload_n 2, 1) := by decide +kernel
theorem dX7_confirm_86 : decode cX7_confirm 86 = .ok (.iadd, 1) := by decide +kernel
theorem dX7_confirm_87 : decode cX7_confirm 87 = .ok (.invokevirtual 212, 3) := by decide +kernel
theorem dX7_confirm_90 : decode cX7_confirm 90 = .ok (.aload_n 0, 1) := by decide +kernel
theorem dX7_confirm_91 : decode cX7_confirm 91 = .ok (.iload_n 1, 1) := by decide +kernel
theorem dX7_confirm_92 : decode cX7_confirm 92 = .ok (.iload_n 2, 1) := by decide +kernel
theorem dX7_confirm_93 : decode cX7_confirm 93 = .ok (.invokevirtual 169, 3) := by decide +kernel
theorem dX7_confirm_96 : decode cX7_confirm 96 = .ok (.aload_n 0, 1) := by decide +kernel
theorem dX7_confirm_97 : decode cX7_confirm 97 = .ok (.getfield 52, 3) := by decide +kernel
theorem dX7_confirm_100 : decode cX7_confirm 100 = .ok (.iload_n 2, 1) := by decide +kernel
theorem dX7_confirm_101 : decode cX7_confirm 101 = .ok (.iconst 1, 1) := by decide +kernel
theorem dX7_confirm_102 : decode cX7_confirm 102 = .ok (.isub, 1) := by decide +kernel
theorem dX7_confirm_103 : decode cX7_confirm 103 = .ok (.iaload, 1) := by decide +kernel
theorem dX7_confirm_104 : decode cX7_confirm 104 = .ok (.ireturn, 1) := by decide +kernel
theorem dX7_isStaleNow_0 : decode cX7_isStaleNow 0 = .ok (.iconst 3, 1) := by decide +kernel
theorem dX7_isStaleNow_1 : decode cX7_isStaleNow 1 = .ok (.iload_n 1, 1) := by decide +kernel
theorem dX7_isStaleNow_2 : decode cX7_isStaleNow 2 = .ok (.imul, 1) := by decide +kernel
theorem dX7_isStaleNow_3 : decode cX7_isStaleNow 3 = .ok (.iload_n 2, 1) := by decide +kernel
theorem dX7_isStaleNow_4 : decode cX7_isStaleNow 4 = .ok (.iadd, 1) := by decide +kernel
theorem dX7_isStaleNow_5 : decode cX7_isStaleNow 5 = .ok (.istore_n 3, 1) := by decide +kernel
theorem dX7_isStaleNow_6 : decode cX7_isStaleNow 6 = .ok (.iload_n 2, 1) := by decide +kernel
theorem dX7_isStaleNow_7 : decode cX7_isStaleNow 7 = .ok (.ifCond .le 33, 3) := by decide +kernel
theorem dX7_isStaleNow_10 : decode cX7_isStaleNow 10 = .ok (.aload_n 0, 1) := by decide +kernel
theorem dX7_isStaleNow_11 : decode cX7_isStaleNow 11 = .ok (.getfield 40, 3) := by decide +kernel
theorem dX7_isStaleNow_14 : decode cX7_isStaleNow 14 = .ok (.iload_n 3, 1) := by decide +kernel
theorem dX7_isStaleNow_15 : decode cX7_isStaleNow 15 = .ok (.iaload, 1) := by decide +kernel
theorem dX7_isStaleNow_16 : decode cX7_isStaleNow 16 = .ok (.ifCond .le 24, 3) := by decide +kernel
theorem dX7_isStaleNow_19 : decode cX7_isStaleNow 19 = .ok (.aload_n 0, 1) := by decide +kernel
theorem dX7_isStaleNow_20 : decode cX7_isStaleNow 20 = .ok (.getfield 46, 3) := by decide +kernel
theorem dX7_isStaleNow_23 : decode cX7_isStaleNow 23 = .ok (.iconst 3, 1) := by decide +kernel
theorem dX7_isStaleNow_24 : decode cX7_isStaleNow 24 = .ok (.iload_n 1, 1) := by decide +kernel
theorem dX7_isStaleNow_25 : decode cX7_isStaleNow 25 = .ok (.imul, 1) := by decide +kernel
theorem dX7_isStaleNow_26 : decode cX7_isStaleNow 26 = .ok (.iaload, 1) := by decide +kernel
theorem dX7_isStaleNow_27 : decode cX7_isStaleNow 27 = .ok (.aload_n 0, 1) := by decide +kernel
theorem dX7_isStaleNow_28 : decode cX7_isStaleNow 28 = .ok (.getfield 46, 3) := by decide +kernel
theorem dX7_isStaleNow_31 : decode cX7_isStaleNow 31 = .ok (.iload_n 3, 1) := by decide +kernel
theorem dX7_isStaleNow_32 : decode cX7_isStaleNow 32 = .ok (.iaload, 1) := by decide +kernel
theorem dX7_isStaleNow_33 : decode cX7_isStaleNow 33 = .ok (.if_icmp .le 7, 3) := by decide +kernel
theorem dX7_isStaleNow_36 : decode cX7_isStaleNow 36 = .ok (.iconst 1, 1) := by decide +kernel
theorem dX7_isStaleNow_37 : decode cX7_isStaleNow 37 = .ok (.goto 4, 3) := by decide +kernel
theorem dX7_isStaleNow_40 : decode cX7_isStaleNow 40 = .ok (.iconst 0, 1) := by decide +kernel
theorem dX7_isStaleNow_41 : decode cX7_isStaleNow 41 = .ok (.ireturn, 1) := by decide +kernel
theorem dX7_gets_0 : decode cX7_gets 0 = .ok (.iconst 3, 1) := by decide +kernel
theorem dX7_gets_1 : decode cX7_gets 1 = .ok (.iload_n 1, 1) := by decide +kernel
theorem dX7_gets_2 : decode cX7_gets 2 = .ok (.imul, 1) := by decide +kernel
theorem dX7_gets_3 : decode cX7_gets 3 = .ok (.iload_n 2, 1) := by decide +kernel
theorem dX7_gets_4 : decode cX7_gets 4 = .ok (.iadd, 1) := by decide +kernel
theorem dX7_gets_5 : decode cX7_gets 5 = .ok (.istore 4, 2) := by decide +kernel
theorem dX7_gets_7 : decode cX7_gets 7 = .ok (.aload_n 0, 1) := by decide +kernel
theorem dX7_gets_8 : decode cX7_gets 8 = .ok (.getfield 40, 3) := by decide +kernel
theorem dX7_gets_11 : decode cX7_gets 11 = .ok (.iload 4, 2) := by decide +kernel
theorem dX7_gets_13 : decode cX7_gets 13 = .ok (.aload_n 0, 1) := by decide +kernel
theorem dX7_gets_14 : decode cX7_gets 14 = .ok (.getfield 61, 3) := by decide +kernel
theorem dX7_gets_17 : decode cX7_gets 17 = .ok (.iload_n 3, 1) := by decide +kernel
theorem dX7_gets_18 : decode cX7_gets 18 = .ok (.iaload, 1) := by decide +kernel
theorem dX7_gets_19 : decode cX7_gets 19 = .ok (.iastore, 1) := by decide +kernel
theorem dX7_gets_20 : decode cX7_gets 20 = .ok (.iconst 0, 1) := by decide +kernel
theorem dX7_gets_21 : decode cX7_gets 21 = .ok (.istore 5, 2) := by decide +kernel
theorem dX7_gets_23 : decode cX7_gets 23 = .ok (.iload 5, 2) := by decide +kernel
theorem dX7_gets_25 : decode cX7_gets 25 = .ok (.bipush 60, 2) := by decide +kernel
theorem dX7_gets_27 : decode cX7_gets 27 = .ok (.if_icmp .ge 34, 3) := by decide +kernel
theorem dX7_gets_30 : decode cX7_gets 30 = .ok (.aload_n 0, 1) := by decide +kernel
theorem dX7_gets_31 : decode cX7_gets 31 = .ok (.getfield 43, 3) := by decide +kernel
theorem dX7_gets_34 : decode cX7_gets 34 = .ok (.bipush 60, 2) := by decide +kernel
theorem dX7_gets_36 : decode cX7_gets 36 = .ok (.iload 4, 2) := by decide +kernel
theorem dX7_gets_38 : decode cX7_gets 38 = .ok (.imul, 1) := by decide +kernel
theorem dX7_gets_39 : decode cX7_gets 39 = .ok (.iload 5, 2) := by decide +kernel
theorem dX7_gets_41 : decode cX7_gets 41 = .ok (.iadd, 1) := by decide +kernel
theorem dX7_gets_42 : decode cX7_gets 42 = .ok (.aload_n 0, 1) := by decide +kernel
theorem dX7_gets_43 : decode cX7_gets 43 = .ok (.getfield 64, 3) := by decide +kernel
theorem dX7_gets_46 : decode cX7_gets 46 = .ok (.bipush 60, 2) := by decide +kernel
theorem dX7_gets_48 : decode cX7_gets 48 = .ok (.iload_n 3, 1) := by decide +kernel
theorem dX7_gets_49 : decode cX7_gets 49 = .ok (.imul, 1) := by decide +kernel
theorem dX7_gets_50 : decode cX7_gets 50 = .ok (.iload 5, 2) := by decide +kernel
theorem dX7_gets_52 : decode cX7_gets 52 = .ok (.iadd, 1) := by decide +kernel
theorem dX7_gets_53 : decode cX7_gets 53 = .ok (.iaload, 1) := by decide +kernel
theorem dX7_gets_54 : decode cX7_gets 54 = .ok (.iastore, 1) := by decide +kernel
theorem dX7_gets_55 : decode cX7_gets 55 = .ok (.iinc 5 1, 3) := by decide +kernel
theorem dX7_gets_58 : decode cX7_gets 58 = .ok (.goto (-35), 3) := by decide +kernel
theorem dX7_gets_61 : decode cX7_gets 61 = .ok (.aload_n 0, 1) := by decide +kernel
theorem dX7_gets_62 : decode cX7_gets 62 = .ok (.iload_n 1, 1) := by decide +kernel
theorem dX7_gets_63 : decode cX7_gets 63 = .ok (.iload_n 2, 1) := by decide +kernel
theorem dX7_gets_64 : decode cX7_gets 64 = .ok (.invokevirtual 169, 3) := by decide +kernel
theorem dX7_gets_67 : decode cX7_gets 67 = .ok (.aload_n 0, 1) := by decide +kernel
theorem dX7_gets_68 : decode cX7_gets 68 = .ok (.getfield 67, 3) := by decide +kernel
theorem dX7_gets_71 : decode cX7_gets 71 = .ok (.iload_n 3, 1) := by decide +kernel
theorem dX7_gets_72 : decode cX7_gets 72 = .ok (.aload_n 0, 1) := by decide +kernel
theorem dX7_gets_73 : decode cX7_gets 73 = .ok (.getfield 163, 3) := by decide +kernel
theorem dX7_gets_76 : decode cX7_gets 76 = .ok (.iastore, 1) := by decide +kernel
theorem dX7_gets_77 : decode cX7_gets 77 = .ok (.aload_n 0, 1) := by decide +kernel
theorem dX7_gets_78 : decode cX7_gets 78 = .ok (.iload_n 1, 1) := by decide +kernel
theorem dX7_gets_79 : decode cX7_gets 79 = .ok (.iload_n 2, 1) := by decide +kernel
theorem dX7_gets_80 : decode cX7_gets 80 = .ok (.invokevirtual 137, 3) := by decide +kernel
theorem dX7_gets_83 : decode cX7_gets 83 = .ok (.return_, 1) := by decide +kernel
theorem dX7_fill_0 : decode cX7_fill 0 = .ok (.aload_n 0, 1) := by decide +kernel
theorem dX7_fill_1 : decode cX7_fill 1 = .ok (.iload_n 1, 1) := by decide +kernel
theorem dX7_fill_2 : decode cX7_fill 2 = .ok (.iconst 1, 1) := by decide +kernel
theorem dX7_fill_3 : decode cX7_fill 3 = .ok (.iconst 2, 1) := by decide +kernel
theorem dX7_fill_4 : decode cX7_fill 4 = .ok (.invokestatic 93, 3) := by decide +kernel
theorem dX7_fill_7 : decode cX7_fill 7 = .ok (.ifCond .eq 7, 3) := by decide +kernel
theorem dX7_fill_10 : decode cX7_fill 10 = .ok (.iconst 0, 1) := by decide +kernel
theorem dX7_fill_11 : decode cX7_fill 11 = .ok (.goto 4, 3) := by decide +kernel
theorem dX7_fill_14 : decode cX7_fill 14 = .ok (.iconst 1, 1) := by decide +kernel
theorem dX7_fill_15 : decode cX7_fill 15 = .ok (.putfield 87, 3) := by decide +kernel
theorem dX7_fill_18 : decode cX7_fill 18 = .ok (.iconst 0, 1) := by decide +kernel
theorem dX7_fill_19 : decode cX7_fill 19 = .ok (.istore_n 2, 1) := by decide +kernel
theorem dX7_fill_20 : decode cX7_fill 20 = .ok (.iconst 0, 1) := by decide +kernel
theorem dX7_fill_21 : decode cX7_fill 21 = .ok (.istore_n 3, 1) := by decide +kernel
theorem dX7_fill_22 : decode cX7_fill 22 = .ok (.iload_n 3, 1) := by decide +kernel
theorem dX7_fill_23 : decode cX7_fill 23 = .ok (.aload_n 0, 1) := by decide +kernel
theorem dX7_fill_24 : decode cX7_fill 24 = .ok (.getfield 100, 3) := by decide +kernel
theorem dX7_fill_27 : decode cX7_fill 27 = .ok (.if_icmp .ge 94, 3) := by decide +kernel
theorem dX7_fill_30 : decode cX7_fill 30 = .ok (.aload_n 0, 1) := by decide +kernel
theorem dX7_fill_31 : decode cX7_fill 31 = .ok (.getfield 87, 3) := by decide +kernel
theorem dX7_fill_34 : decode cX7_fill 34 = .ok (.ifCond .ne 87, 3) := by decide +kernel
theorem dX7_fill_37 : decode cX7_fill 37 = .ok (.aload_n 0, 1) := by decide +kernel
theorem dX7_fill_38 : decode cX7_fill 38 = .ok (.getfield 40, 3) := by decide +kernel
theorem dX7_fill_41 : decode cX7_fill 41 = .ok (.iconst 3, 1) := by decide +kernel
theorem dX7_fill_42 : decode cX7_fill 42 = .ok (.iload_n 3, 1) := by decide +kernel
theorem dX7_fill_43 : decode cX7_fill 43 = .ok (.imul, 1) := by decide +kernel
theorem dX7_fill_44 : decode cX7_fill 44 = .ok (.iaload, 1) := by decide +kernel
theorem dX7_fill_45 : decode cX7_fill 45 = .ok (.ifCond .le 29, 3) := by decide +kernel
theorem dX7_fill_48 : decode cX7_fill 48 = .ok (.aload_n 0, 1) := by decide +kernel
theorem dX7_fill_49 : decode cX7_fill 49 = .ok (.getfield 40, 3) := by decide +kernel
theorem dX7_fill_52 : decode cX7_fill 52 = .ok (.iconst 3, 1) := by decide +kernel
theorem dX7_fill_53 : decode cX7_fill 53 = .ok (.iload_n 3, 1) := by decide +kernel
theorem dX7_fill_54 : decode cX7_fill 54 = .ok (.imul, 1) := by decide +kernel
theorem dX7_fill_55 : decode cX7_fill 55 = .ok (.iload_n 1, 1) := by decide +kernel
theorem dX7_fill_56 : decode cX7_fill 56 = .ok (.iadd, 1) := by decide +kernel
theorem dX7_fill_57 : decode cX7_fill 57 = .ok (.iaload, 1) := by decide +kernel
theorem dX7_fill_58 : decode cX7_fill 58 = .ok (.ifCond .eq 12, 3) := by decide +kernel
theorem dX7_fill_61 : decode cX7_fill 61 = .ok (.aload_n 0, 1) := by decide +kernel
theorem dX7_fill_62 : decode cX7_fill 62 = .ok (.iload_n 3, 1) := by decide +kernel
theorem dX7_fill_63 : decode cX7_fill 63 = .ok (.iload_n 1, 1) := by decide +kernel
theorem dX7_fill_64 : decode cX7_fill 64 = .ok (.invokevirtual 215, 3) := by decide +kernel
theorem dX7_fill_67 : decode cX7_fill 67 = .ok (.ifCond .eq 7, 3) := by decide +kernel
theorem dX7_fill_70 : decode cX7_fill 70 = .ok (.iconst 1, 1) := by decide +kernel
theorem dX7_fill_71 : decode cX7_fill 71 = .ok (.goto 4, 3) := by decide +kernel
theorem dX7_fill_74 : decode cX7_fill 74 = .ok (.iconst 0, 1) := by decide +kernel
theorem dX7_fill_75 : decode cX7_fill 75 = .ok (.istore 4, 2) := by decide +kernel
theorem dX7_fill_77 : decode cX7_fill 77 = .ok (.iload 4, 2) := by decide +kernel
theorem dX7_fill_79 : decode cX7_fill 79 = .ok (.ifCond .eq 16, 3) := by decide +kernel
theorem dX7_fill_82 : decode cX7_fill 82 = .ok (.aload_n 0, 1) := by decide +kernel
theorem dX7_fill_83 : decode cX7_fill 83 = .ok (.iload_n 1, 1) := by decide +kernel
theorem dX7_fill_84 : decode cX7_fill 84 = .ok (.iconst 1, 1) := by decide +kernel
theorem dX7_fill_85 : decode cX7_fill 85 = .ok (.isub, 1) := by decide +kernel
theorem dX7_fill_86 : decode cX7_fill 86 = .ok (.iconst 3, 1) := by decide +kernel
theorem dX7_fill_87 : decode cX7_fill 87 = .ok (.iload_n 3, 1) := by decide +kernel
theorem dX7_fill_88 : decode cX7_fill 88 = .ok (.imul, 1) := by decide +kernel
theorem dX7_fill_89 : decode cX7_fill 89 = .ok (.invokevirtual 202, 3) := by decide +kernel
theorem dX7_fill_92 : decode cX7_fill 92 = .ok (.goto 4, 3) := by decide +kernel
theorem dX7_fill_95 : decode cX7_fill 95 = .ok (.iconst (-1), 1) := by decide +kernel
theorem dX7_fill_96 : decode cX7_fill 96 = .ok (.istore 5, 2) := by decide +kernel
theorem dX7_fill_98 : decode cX7_fill 98 = .ok (.iload 5, 2) := by decide +kernel
theorem dX7_fill_100 : decode cX7_fill 100 = .ok (.iconst (-1), 1) := by decide +kernel
theorem dX7_fill_101 : decode cX7_fill 101 = .ok (.if_icmp .eq 14, 3) := by decide +kernel
theorem dX7_fill_104 : decode cX7_fill 104 = .ok (.aload_n 0, 1) := by decide +kernel
theorem dX7_fill_105 : decode cX7_fill 105 = .ok (.iload_n 3, 1) := by decide +kernel
theorem dX7_fill_106 : decode cX7_fill 106 = .ok (.iload_n 1, 1) := by decide +kernel
theorem dX7_fill_107 : decode cX7_fill 107 = .ok (.iload 5, 2) := by decide +kernel
theorem dX7_fill_109 : decode cX7_fill 109 = .ok (.invokevirtual 218, 3) := by decide +kernel
theorem dX7_fill_112 : decode cX7_fill 112 = .ok (.iinc 2 1, 3) := by decide +kernel
theorem dX7_fill_115 : decode cX7_fill 115 = .ok (.iinc 3 1, 3) := by decide +kernel
theorem dX7_fill_118 : decode cX7_fill 118 = .ok (.goto (-96), 3) := by decide +kernel
theorem dX7_fill_121 : decode cX7_fill 121 = .ok (.iload_n 2, 1) := by decide +kernel
theorem dX7_fill_122 : decode cX7_fill 122 = .ok (.ireturn, 1) := by decide +kernel
theorem dX7_isStale_0 : decode cX7_isStale 0 = .ok (.aload_n 0, 1) := by decide +kernel
theorem dX7_isStale_1 : decode cX7_isStale 1 = .ok (.iload_n 1, 1) := by decide +kernel
theorem dX7_isStale_2 : decode cX7_isStale 2 = .ok (.iload_n 2, 1) := by decide +kernel
theorem dX7_isStale_3 : decode cX7_isStale 3 = .ok (.invokevirtual 172, 3) := by decide +kernel
theorem dX7_isStale_6 : decode cX7_isStale 6 = .ok (.ifCond .eq 16, 3) := by decide +kernel
theorem dX7_isStale_9 : decode cX7_isStale 9 = .ok (.aload_n 0, 1) := by decide +kernel
theorem dX7_isStale_10 : decode cX7_isStale 10 = .ok (.iload_n 1, 1) := by decide +kernel
theorem dX7_isStale_11 : decode cX7_isStale 11 = .ok (.iload_n 2, 1) := by decide +kernel
theorem dX7_isStale_12 : decode cX7_isStale 12 = .ok (.invokevirtual 215, 3) := by decide +kernel
theorem dX7_isStale_15 : decode cX7_isStale 15 = .ok (.ifCond .eq 7, 3) := by decide +kernel
theorem dX7_isStale_18 : decode cX7_isStale 18 = .ok (.iconst 1, 1) := by decide +kernel
theorem dX7_isStale_19 : decode cX7_isStale 19 = .ok (.goto 4, 3) := by decide +kernel
theorem dX7_isStale_22 : decode cX7_isStale 22 = .ok (.iconst 0, 1) := by decide +kernel
theorem dX7_isStale_23 : decode cX7_isStale 23 = .ok (.ireturn, 1) := by decide +kernel
theorem dX7_memory_0 : decode cX7_memory 0 = .ok (.aload_n 0, 1) := by decide +kernel
theorem dX7_memory_1 : decode cX7_memory 1 = .ok (.iload_n 1, 1) := by decide +kernel
theorem dX7_memory_2 : decode cX7_memory 2 = .ok (.iconst 1, 1) := by decide +kernel
theorem dX7_memory_3 : decode cX7_memory 3 = .ok (.iconst 2, 1) := by decide +kernel
theorem dX7_memory_4 : decode cX7_memory 4 = .ok (.invokestatic 93, 3) := by decide +kernel
theorem dX7_memory_7 : decode cX7_memory 7 = .ok (.ifCond .eq 7, 3) := by decide +kernel
theorem dX7_memory_10 : decode cX7_memory 10 = .ok (.iconst 0, 1) := by decide +kernel
theorem dX7_memory_11 : decode cX7_memory 11 = .ok (.goto 4, 3) := by decide +kernel
theorem dX7_memory_14 : decode cX7_memory 14 = .ok (.iconst 1, 1) := by decide +kernel
theorem dX7_memory_15 : decode cX7_memory 15 = .ok (.putfield 87, 3) := by decide +kernel
theorem dX7_memory_18 : decode cX7_memory 18 = .ok (.aload_n 0, 1) := by decide +kernel
theorem dX7_memory_19 : decode cX7_memory 19 = .ok (.getfield 87, 3) := by decide +kernel
theorem dX7_memory_22 : decode cX7_memory 22 = .ok (.ifCond .le 7, 3) := by decide +kernel
theorem dX7_memory_25 : decode cX7_memory 25 = .ok (.iconst 0, 1) := by decide +kernel
theorem dX7_memory_26 : decode cX7_memory 26 = .ok (.goto 11, 3) := by decide +kernel
theorem dX7_memory_29 : decode cX7_memory 29 = .ok (.aload_n 0, 1) := by decide +kernel
theorem dX7_memory_30 : decode cX7_memory 30 = .ok (.getfield 52, 3) := by decide +kernel
theorem dX7_memory_33 : decode cX7_memory 33 = .ok (.iload_n 1, 1) := by decide +kernel
theorem dX7_memory_34 : decode cX7_memory 34 = .ok (.iconst 1, 1) := by decide +kernel
theorem dX7_memory_35 : decode cX7_memory 35 = .ok (.isub, 1) := by decide +kernel
theorem dX7_memory_36 : decode cX7_memory 36 = .ok (.iaload, 1) := by decide +kernel
theorem dX7_memory_37 : decode cX7_memory 37 = .ok (.ireturn, 1) := by decide +kernel
theorem dX7_isWide_0 : decode cX7_isWide 0 = .ok (.aload_n 0, 1) := by decide +kernel
theorem dX7_isWide_1 : decode cX7_isWide 1 = .ok (.iload_n 1, 1) := by decide +kernel
theorem dX7_isWide_2 : decode cX7_isWide 2 = .ok (.invokevirtual 199, 3) := by decide +kernel
theorem dX7_isWide_5 : decode cX7_isWide 5 = .ok (.aload_n 0, 1) := by decide +kernel
theorem dX7_isWide_6 : decode cX7_isWide 6 = .ok (.getfield 184, 3) := by decide +kernel
theorem dX7_isWide_9 : decode cX7_isWide 9 = .ok (.iconst 2, 1) := by decide +kernel
theorem dX7_isWide_10 : decode cX7_isWide 10 = .ok (.if_icmp .le 7, 3) := by decide +kernel
theorem dX7_isWide_13 : decode cX7_isWide 13 = .ok (.iconst 1, 1) := by decide +kernel
theorem dX7_isWide_14 : decode cX7_isWide 14 = .ok (.goto 4, 3) := by decide +kernel
theorem dX7_isWide_17 : decode cX7_isWide 17 = .ok (.iconst 0, 1) := by decide +kernel
theorem dX7_isWide_18 : decode cX7_isWide 18 = .ok (.istore_n 2, 1) := by decide +kernel
theorem dX7_isWide_19 : decode cX7_isWide 19 = .ok (.iconst 0, 1) := by decide +kernel
theorem dX7_isWide_20 : decode cX7_isWide 20 = .ok (.istore_n 3, 1) := by decide +kernel
theorem dX7_isWide_21 : decode cX7_isWide 21 = .ok (.iload_n 3, 1) := by decide +kernel
theorem dX7_isWide_22 : decode cX7_isWide 22 = .ok (.aload_n 0, 1) := by decide +kernel
theorem dX7_isWide_23 : decode cX7_isWide 23 = .ok (.getfield 184, 3) := by decide +kernel
theorem dX7_isWide_26 : decode cX7_isWide 26 = .ok (.if_icmp .ge 43, 3) := by decide +kernel
theorem dX7_isWide_29 : decode cX7_isWide 29 = .ok (.iload_n 2, 1) := by decide +kernel
theorem dX7_isWide_30 : decode cX7_isWide 30 = .ok (.ifCond .ne 27, 3) := by decide +kernel
theorem dX7_isWide_33 : decode cX7_isWide 33 = .ok (.aload_n 0, 1) := by decide +kernel
theorem dX7_isWide_34 : decode cX7_isWide 34 = .ok (.iload_n 1, 1) := by decide +kernel
theorem dX7_isWide_35 : decode cX7_isWide 35 = .ok (.aload_n 0, 1) := by decide +kernel
theorem dX7_isWide_36 : decode cX7_isWide 36 = .ok (.getfield 77, 3) := by decide +kernel
theorem dX7_isWide_39 : decode cX7_isWide 39 = .ok (.iload_n 3, 1) := by decide +kernel
theorem dX7_isWide_40 : decode cX7_isWide 40 = .ok (.iaload, 1) := by decide +kernel
theorem dX7_isWide_41 : decode cX7_isWide 41 = .ok (.aload_n 0, 1) := by decide +kernel
theorem dX7_isWide_42 : decode cX7_isWide 42 = .ok (.getfield 80, 3) := by decide +kernel
theorem dX7_isWide_45 : decode cX7_isWide 45 = .ok (.iload_n 3, 1) := by decide +kernel
theorem dX7_isWide_46 : decode cX7_isWide 46 = .ok (.iaload, 1) := by decide +kernel
theorem dX7_isWide_47 : decode cX7_isWide 47 = .ok (.invokevirtual 180, 3) := by decide +kernel
theorem dX7_isWide_50 : decode cX7_isWide 50 = .ok (.aload_n 0, 1) := by decide +kernel
theorem dX7_isWide_51 : decode cX7_isWide 51 = .ok (.getfield 70, 3) := by decide +kernel
theorem dX7_isWide_54 : decode cX7_isWide 54 = .ok (.if_icmp .le 7, 3) := by decide +kernel
theorem dX7_isWide_57 : decode cX7_isWide 57 = .ok (.iconst 1, 1) := by decide +kernel
theorem dX7_isWide_58 : decode cX7_isWide 58 = .ok (.goto 4, 3) := by decide +kernel
theorem dX7_isWide_61 : decode cX7_isWide 61 = .ok (.iconst 0, 1) := by decide +kernel
theorem dX7_isWide_62 : decode cX7_isWide 62 = .ok (.istore_n 2, 1) := by decide +kernel
theorem dX7_isWide_63 : decode cX7_isWide 63 = .ok (.iinc 3 1, 3) := by decide +kernel
theorem dX7_isWide_66 : decode cX7_isWide 66 = .ok (.goto (-45), 3) := by decide +kernel
theorem dX7_isWide_69 : decode cX7_isWide 69 = .ok (.iload_n 2, 1) := by decide +kernel
theorem dX7_isWide_70 : decode cX7_isWide 70 = .ok (.ireturn, 1) := by decide +kernel
theorem dX7_hangs_0 : decode cX7_hangs 0 = .ok (.iconst 0, 1) := by decide +kernel
theorem dX7_hangs_1 : decode cX7_hangs 1 = .ok (.istore_n 2, 1) := by decide +kernel
theorem dX7_hangs_2 : decode cX7_hangs 2 = .ok (.aload_n 0, 1) := by decide +kernel
theorem dX7_hangs_3 : decode cX7_hangs 3 = .ok (.getfield 28, 3) := by decide +kernel
theorem dX7_hangs_6 : decode cX7_hangs 6 = .ok (.iload_n 1, 1) := by decide +kernel
theorem dX7_hangs_7 : decode cX7_hangs 7 = .ok (.iaload, 1) := by decide +kernel
theorem dX7_hangs_8 : decode cX7_hangs 8 = .ok (.aload_n 0, 1) := by decide +kernel
theorem dX7_hangs_9 : decode cX7_hangs 9 = .ok (.getfield 31, 3) := by decide +kernel
theorem dX7_hangs_12 : decode cX7_hangs 12 = .ok (.iload_n 1, 1) := by decide +kernel
theorem dX7_hangs_13 : decode cX7_hangs 13 = .ok (.iaload, 1) := by decide +kernel
theorem dX7_hangs_14 : decode cX7_hangs 14 = .ok (.iadd, 1) := by decide +kernel
theorem dX7_hangs_15 : decode cX7_hangs 15 = .ok (.istore_n 3, 1) := by decide +kernel
theorem dX7_hangs_16 : decode cX7_hangs 16 = .ok (.aload_n 0, 1) := by decide +kernel
theorem dX7_hangs_17 : decode cX7_hangs 17 = .ok (.getfield 28, 3) := by decide +kernel
theorem dX7_hangs_20 : decode cX7_hangs 20 = .ok (.iload_n 1, 1) := by decide +kernel
theorem dX7_hangs_21 : decode cX7_hangs 21 = .ok (.iaload, 1) := by decide +kernel
theorem dX7_hangs_22 : decode cX7_hangs 22 = .ok (.iconst 1, 1) := by decide +kernel
theorem dX7_hangs_23 : decode cX7_hangs 23 = .ok (.iadd, 1) := by decide +kernel
theorem dX7_hangs_24 : decode cX7_hangs 24 = .ok (.istore 4, 2) := by decide +kernel
theorem dX7_hangs_26 : decode cX7_hangs 26 = .ok (.iload 4, 2) := by decide +kernel
theorem dX7_hangs_28 : decode cX7_hangs 28 = .ok (.iload_n 3, 1) := by decide +kernel
theorem dX7_hangs_29 : decode cX7_hangs 29 = .ok (.if_icmp .ge 51, 3) := by decide +kernel
theorem dX7_hangs_32 : decode cX7_hangs 32 = .ok (.iload_n 2, 1) := by decide +kernel
theorem dX7_hangs_33 : decode cX7_hangs 33 = .ok (.ifCond .ne 35, 3) := by decide +kernel
theorem dX7_hangs_36 : decode cX7_hangs 36 = .ok (.aload_n 0, 1) := by decide +kernel
theorem dX7_hangs_37 : decode cX7_hangs 37 = .ok (.iload 4, 2) := by decide +kernel
theorem dX7_hangs_39 : decode cX7_hangs 39 = .ok (.invokevirtual 134, 3) := by decide +kernel
theorem dX7_hangs_42 : decode cX7_hangs 42 = .ok (.ifCond .eq 30, 3) := by decide +kernel
theorem dX7_hangs_45 : decode cX7_hangs 45 = .ok (.iload 4, 2) := by decide +kernel
theorem dX7_hangs_47 : decode cX7_hangs 47 = .ok (.aload_n 0, 1) := by decide +kernel
theorem dX7_hangs_48 : decode cX7_hangs 48 = .ok (.getfield 28, 3) := by decide +kernel
theorem dX7_hangs_51 : decode cX7_hangs 51 = .ok (.iload_n 1, 1) := by decide +kernel
theorem dX7_hangs_52 : decode cX7_hangs 52 = .ok (.iaload, 1) := by decide +kernel
theorem dX7_hangs_53 : decode cX7_hangs 53 = .ok (.isub, 1) := by decide +kernel
theorem dX7_hangs_54 : decode cX7_hangs 54 = .ok (.bipush 12, 2) := by decide +kernel
theorem dX7_hangs_56 : decode cX7_hangs 56 = .ok (.if_icmp .lt 12, 3) := by decide +kernel
theorem dX7_hangs_59 : decode cX7_hangs 59 = .ok (.iload_n 3, 1) := by decide +kernel
theorem dX7_hangs_60 : decode cX7_hangs 60 = .ok (.iload 4, 2) := by decide +kernel
theorem dX7_hangs_62 : decode cX7_hangs 62 = .ok (.isub, 1) := by decide +kernel
theorem dX7_hangs_63 : decode cX7_hangs 63 = .ok (.bipush 12, 2) := by decide +kernel
theorem dX7_hangs_65 : decode cX7_hangs 65 = .ok (.if_icmp .ge 7, 3) := by decide +kernel
theorem dX7_hangs_68 : decode cX7_hangs 68 = .ok (.iconst 1, 1) := by decide +kernel
theorem dX7_hangs_69 : decode cX7_hangs 69 = .ok (.goto 4, 3) := by decide +kernel
theorem dX7_hangs_72 : decode cX7_hangs 72 = .ok (.iconst 0, 1) := by decide +kernel
theorem dX7_hangs_73 : decode cX7_hangs 73 = .ok (.istore_n 2, 1) := by decide +kernel
theorem dX7_hangs_74 : decode cX7_hangs 74 = .ok (.iinc 4 1, 3) := by decide +kernel
theorem dX7_hangs_77 : decode cX7_hangs 77 = .ok (.goto (-51), 3) := by decide +kernel
theorem dX7_hangs_80 : decode cX7_hangs 80 = .ok (.iload_n 2, 1) := by decide +kernel
theorem dX7_hangs_81 : decode cX7_hangs 81 = .ok (.ireturn, 1) := by decide +kernel
theorem dX7_isClose_0 : decode cX7_isClose 0 = .ok (.iconst 0, 1) := by decide +kernel
theorem dX7_isClose_1 : decode cX7_isClose 1 = .ok (.istore_n 2, 1) := by decide +kernel
theorem dX7_isClose_2 : decode cX7_isClose 2 = .ok (.aload_n 0, 1) := by decide +kernel
theorem dX7_isClose_3 : decode cX7_isClose 3 = .ok (.getfield 28, 3) := by decide +kernel
theorem dX7_isClose_6 : decode cX7_isClose 6 = .ok (.iload_n 1, 1) := by decide +kernel
theorem dX7_isClose_7 : decode cX7_isClose 7 = .ok (.iaload, 1) := by decide +kernel
theorem dX7_isClose_8 : decode cX7_isClose 8 = .ok (.aload_n 0, 1) := by decide +kernel
theorem dX7_isClose_9 : decode cX7_isClose 9 = .ok (.getfield 31, 3) := by decide +kernel
theorem dX7_isClose_12 : decode cX7_isClose 12 = .ok (.iload_n 1, 1) := by decide +kernel
theorem dX7_isClose_13 : decode cX7_isClose 13 = .ok (.iaload, 1) := by decide +kernel
theorem dX7_isClose_14 : decode cX7_isClose 14 = .ok (.iadd, 1) := by decide +kernel
theorem dX7_isClose_15 : decode cX7_isClose 15 = .ok (.istore_n 3, 1) := by decide +kernel
theorem dX7_isClose_16 : decode cX7_isClose 16 = .ok (.iconst 0, 1) := by decide +kernel
theorem dX7_isClose_17 : decode cX7_isClose 17 = .ok (.istore 4, 2) := by decide +kernel
theorem dX7_isClose_19 : decode cX7_isClose 19 = .ok (.iload 4, 2) := by decide +kernel
theorem dX7_isClose_21 : decode cX7_isClose 21 = .ok (.aload_n 0, 1) := by decide +kernel
theorem dX7_isClose_22 : decode cX7_isClose 22 = .ok (.getfield 100, 3) := by decide +kernel
theorem dX7_isClose_25 : decode cX7_isClose 25 = .ok (.if_icmp .ge 133, 3) := by decide +kernel
theorem dX7_isClose_28 : decode cX7_isClose 28 = .ok (.iload 4, 2) := by decide +kernel
theorem dX7_isClose_30 : decode cX7_isClose 30 = .ok (.iload_n 1, 1) := by decide +kernel
theorem dX7_isClose_31 : decode cX7_isClose 31 = .ok (.if_icmp .eq 52, 3) := by decide +kernel
theorem dX7_isClose_34 : decode cX7_isClose 34 = .ok (.aload_n 0, 1) := by decide +kernel
theorem dX7_isClose_35 : decode cX7_isClose 35 = .ok (.getfield 28, 3) := by decide +kernel
theorem dX7_isClose_38 : decode cX7_isClose 38 = .ok (.iload 4, 2) := by decide +kernel
theorem dX7_isClose_40 : decode cX7_isClose 40 = .ok (.iaload, 1) := by decide +kernel
theorem dX7_isClose_41 : decode cX7_isClose 41 = .ok (.iconst (-1), 1) := by decide +kernel
theorem dX7_isClose_42 : decode cX7_isClose 42 = .ok (.if_icmp .eq 41, 3) := by decide +kernel
theorem dX7_isClose_45 : decode cX7_isClose 45 = .ok (.aload_n 0, 1) := by decide +kernel
theorem dX7_isClose_46 : decode cX7_isClose 46 = .ok (.getfield 25, 3) := by decide +kernel
theorem dX7_isClose_49 : decode cX7_isClose 49 = .ok (.iload 4, 2) := by decide +kernel
theorem dX7_isClose_51 : decode cX7_isClose 51 = .ok (.iaload, 1) := by decide +kernel
theorem dX7_isClose_52 : decode cX7_isClose 52 = .ok (.iconst 3, 1) := by decide +kernel
theorem dX7_isClose_53 : decode cX7_isClose 53 = .ok (.if_icmp .ne 7, 3) := by decide +kernel
theorem dX7_isClose_56 : decode cX7_isClose 56 = .ok (.iconst 1, 1) := by decide +kernel
theorem dX7_isClose_57 : decode cX7_isClose 57 = .ok (.goto 4, 3) := by decide +kernel
theorem dX7_isClose_60 : decode cX7_isClose 60 = .ok (.iconst 0, 1) := by decide +kernel
theorem dX7_isClose_61 : decode cX7_isClose 61 = .ok (.aload_n 0, 1) := by decide +kernel
theorem dX7_isClose_62 : decode cX7_isClose 62 = .ok (.getfield 25, 3) := by decide +kernel
theorem dX7_isClose_65 : decode cX7_isClose 65 = .ok (.iload_n 1, 1) := by decide +kernel
theorem dX7_isClose_66 : decode cX7_isClose 66 = .ok (.iaload, 1) := by decide +kernel
theorem dX7_isClose_67 : decode cX7_isClose 67 = .ok (.iconst 3, 1) := by decide +kernel
theorem dX7_isClose_68 : decode cX7_isClose 68 = .ok (.if_icmp .ne 7, 3) := by decide +kernel
theorem dX7_isClose_71 : decode cX7_isClose 71 = .ok (.iconst 1, 1) := by decide +kernel
theorem dX7_isClose_72 : decode cX7_isClose 72 = .ok (.goto 4, 3) := by decide +kernel
theorem dX7_isClose_75 : decode cX7_isClose 75 = .ok (.iconst 0, 1) := by decide +kernel
theorem dX7_isClose_76 : decode cX7_isClose 76 = .ok (.if_icmp .ne 7, 3) := by decide +kernel
theorem dX7_isClose_79 : decode cX7_isClose 79 = .ok (.iconst 1, 1) := by decide +kernel
theorem dX7_isClose_80 : decode cX7_isClose 80 = .ok (.goto 4, 3) := by decide +kernel
theorem dX7_isClose_83 : decode cX7_isClose 83 = .ok (.iconst 0, 1) := by decide +kernel
theorem dX7_isClose_84 : decode cX7_isClose 84 = .ok (.istore 5, 2) := by decide +kernel
theorem dX7_isClose_86 : decode cX7_isClose 86 = .ok (.iload_n 2, 1) := by decide +kernel
theorem dX7_isClose_87 : decode cX7_isClose 87 = .ok (.ifCond .ne 59, 3) := by decide +kernel
theorem dX7_isClose_90 : decode cX7_isClose 90 = .ok (.iload 5, 2) := by decide +kernel
theorem dX7_isClose_92 : decode cX7_isClose 92 = .ok (.ifCond .eq 58, 3) := by decide +kernel
theorem dX7_isClose_95 : decode cX7_isClose 95 = .ok (.aload_n 0, 1) := by decide +kernel
theorem dX7_isClose_96 : decode cX7_isClose 96 = .ok (.getfield 28, 3) := by decide +kernel
theorem dX7_isClose_99 : decode cX7_isClose 99 = .ok (.iload 4, 2) := by decide +kernel
theorem dX7_isClose_101 : decode cX7_isClose 101 = .ok (.iaload, 1) := by decide +kernel
theorem dX7_isClose_102 : decode cX7_isClose 102 = .ok (.aload_n 0, 1) := by decide +kernel
theorem dX7_isClose_103 : decode cX7_isClose 103 = .ok (.getfield 28, 3) := by decide +kernel
theorem dX7_isClose_106 : decode cX7_isClose 106 = .ok (.iload_n 1, 1) := by decide +kernel
theorem dX7_isClose_107 : decode cX7_isClose 107 = .ok (.iaload, 1) := by decide +kernel
theorem dX7_isClose_108 : decode cX7_isClose 108 = .ok (.if_icmp .ne 9, 3) := by decide +kernel
theorem dX7_isClose_111 : decode cX7_isClose 111 = .ok (.iload 4, 2) := by decide +kernel
theorem dX7_isClose_113 : decode cX7_isClose 113 = .ok (.iload_n 1, 1) := by decide +kernel
theorem dX7_isClose_114 : decode cX7_isClose 114 = .ok (.if_icmp .gt 32, 3) := by decide +kernel
theorem dX7_isClose_117 : decode cX7_isClose 117 = .ok (.aload_n 0, 1) := by decide +kernel
theorem dX7_isClose_118 : decode cX7_isClose 118 = .ok (.getfield 28, 3) := by decide +kernel
theorem dX7_isClose_121 : decode cX7_isClose 121 = .ok (.iload 4, 2) := by decide +kernel
theorem dX7_isClose_123 : decode cX7_isClose 123 = .ok (.iaload, 1) := by decide +kernel
theorem dX7_isClose_124 : decode cX7_isClose 124 = .ok (.aload_n 0, 1) := by decide +kernel
theorem dX7_isClose_125 : decode cX7_isClose 125 = .ok (.getfield 28, 3) := by decide +kernel
theorem dX7_isClose_128 : decode cX7_isClose 128 = .ok (.iload_n 1, 1) := by decide +kernel
theorem dX7_isClose_129 : decode cX7_isClose 129 = .ok (.iaload, 1) := by decide +kernel
theorem dX7_isClose_130 : decode cX7_isClose 130 = .ok (.if_icmp .le 20, 3) := by decide +kernel
theorem dX7_isClose_133 : decode cX7_isClose 133 = .ok (.aload_n 0, 1) := by decide +kernel
theorem dX7_isClose_134 : decode cX7_isClose 134 = .ok (.getfield 28, 3) := by decide +kernel
theorem dX7_isClose_137 : decode cX7_isClose 137 = .ok (.iload 4, 2) := by decide +kernel
theorem dX7_isClose_139 : decode cX7_isClose 139 = .ok (.iaload, 1) := by decide +kernel
theorem dX7_isClose_140 : decode cX7_isClose 140 = .ok (.iload_n 3, 1) := by decide +kernel
theorem dX7_isClose_141 : decode cX7_isClose 141 = .ok (.iconst 2, 1) := by decide +kernel
theorem dX7_isClose_142 : decode cX7_isClose 142 = .ok (.iadd, 1) := by decide +kernel
theorem dX7_isClose_143 : decode cX7_isClose 143 = .ok (.if_icmp .ge 7, 3) := by decide +kernel
theorem dX7_isClose_146 : decode cX7_isClose 146 = .ok (.iconst 1, 1) := by decide +kernel
theorem dX7_isClose_147 : decode cX7_isClose 147 = .ok (.goto 4, 3) := by decide +kernel
theorem dX7_isClose_150 : decode cX7_isClose 150 = .ok (.iconst 0, 1) := by decide +kernel
theorem dX7_isClose_151 : decode cX7_isClose 151 = .ok (.istore_n 2, 1) := by decide +kernel
theorem dX7_isClose_152 : decode cX7_isClose 152 = .ok (.iinc 4 1, 3) := by decide +kernel
theorem dX7_isClose_155 : decode cX7_isClose 155 = .ok (.goto (-136), 3) := by decide +kernel
theorem dX7_isClose_158 : decode cX7_isClose 158 = .ok (.iload_n 2, 1) := by decide +kernel
theorem dX7_isClose_159 : decode cX7_isClose 159 = .ok (.ireturn, 1) := by decide +kernel
theorem dX7_areVoices_0 : decode cX7_areVoices 0 = .ok (.iconst 1, 1) := by decide +kernel
theorem dX7_areVoices_1 : decode cX7_areVoices 1 = .ok (.istore_n 2, 1) := by decide +kernel
theorem dX7_areVoices_2 : decode cX7_areVoices 2 = .ok (.aload_n 0, 1) := by decide +kernel
theorem dX7_areVoices_3 : decode cX7_areVoices 3 = .ok (.getfield 40, 3) := by decide +kernel
theorem dX7_areVoices_6 : decode cX7_areVoices 6 = .ok (.iload_n 1, 1) := by decide +kernel
theorem dX7_areVoices_7 : decode cX7_areVoices 7 = .ok (.iaload, 1) := by decide +kernel
theorem dX7_areVoices_8 : decode cX7_areVoices 8 = .ok (.ifCond .le 21, 3) := by decide +kernel
theorem dX7_areVoices_11 : decode cX7_areVoices 11 = .ok (.aload_n 0, 1) := by decide +kernel
theorem dX7_areVoices_12 : decode cX7_areVoices 12 = .ok (.getfield 43, 3) := by decide +kernel
theorem dX7_areVoices_15 : decode cX7_areVoices 15 = .ok (.bipush 60, 2) := by decide +kernel
theorem dX7_areVoices_17 : decode cX7_areVoices 17 = .ok (.iload_n 1, 1) := by decide +kernel
theorem dX7_areVoices_18 : decode cX7_areVoices 18 = .ok (.imul, 1) := by decide +kernel
theorem dX7_areVoices_19 : decode cX7_areVoices 19 = .ok (.iaload, 1) := by decide +kernel
theorem dX7_areVoices_20 : decode cX7_areVoices 20 = .ok (.bipush 45, 2) := by decide +kernel
theorem dX7_areVoices_22 : decode cX7_areVoices 22 = .ok (.if_icmp .ne 7, 3) := by decide +kernel
theorem dX7_areVoices_25 : decode cX7_areVoices 25 = .ok (.iconst 1, 1) := by decide +kernel
theorem dX7_areVoices_26 : decode cX7_areVoices 26 = .ok (.goto 4, 3) := by decide +kernel
theorem dX7_areVoices_29 : decode cX7_areVoices 29 = .ok (.iconst 0, 1) := by decide +kernel
theorem dX7_areVoices_30 : decode cX7_areVoices 30 = .ok (.istore_n 3, 1) := by decide +kernel
theorem dX7_areVoices_31 : decode cX7_areVoices 31 = .ok (.iconst 0, 1) := by decide +kernel
theorem dX7_areVoices_32 : decode cX7_areVoices 32 = .ok (.istore 4, 2) := by decide +kernel
theorem dX7_areVoices_34 : decode cX7_areVoices 34 = .ok (.iload 4, 2) := by decide +kernel
theorem dX7_areVoices_36 : decode cX7_areVoices 36 = .ok (.aload_n 0, 1) := by decide +kernel
theorem dX7_areVoices_37 : decode cX7_areVoices 37 = .ok (.getfield 40, 3) := by decide +kernel
theorem dX7_areVoices_40 : decode cX7_areVoices 40 = .ok (.iload_n 1, 1) := by decide +kernel
theorem dX7_areVoices_41 : decode cX7_areVoices 41 = .ok (.iaload, 1) := by decide +kernel
theorem dX7_areVoices_42 : decode cX7_areVoices 42 = .ok (.if_icmp .ge 93, 3) := by decide +kernel
theorem dX7_areVoices_45 : decode cX7_areVoices 45 = .ok (.aload_n 0, 1) := by decide +kernel
theorem dX7_areVoices_46 : decode cX7_areVoices 46 = .ok (.getfield 43, 3) := by decide +kernel
theorem dX7_areVoices_49 : decode cX7_areVoices 49 = .ok (.bipush 60, 2) := by decide +kernel
theorem dX7_areVoices_51 : decode cX7_areVoices 51 = .ok (.iload_n 1, 1) := by decide +kernel
theorem dX7_areVoices_52 : decode cX7_areVoices 52 = .ok (.imul, 1) := by decide +kernel
theorem dX7_areVoices_53 : decode cX7_areVoices 53 = .ok (.iload 4, 2) := by decide +kernel
theorem dX7_areVoices_55 : decode cX7_areVoices 55 = .ok (.iadd, 1) := by decide +kernel
theorem dX7_areVoices_56 : decode cX7_areVoices 56 = .ok (.iaload, 1) := by decide +kernel
theorem dX7_areVoices_57 : decode cX7_areVoices 57 = .ok (.bipush 10, 2) := by decide +kernel
theorem dX7_areVoices_59 : decode cX7_areVoices 59 = .ok (.if_icmp .ne 7, 3) := by decide +kernel
theorem dX7_areVoices_62 : decode cX7_areVoices 62 = .ok (.iconst 1, 1) := by decide +kernel
theorem dX7_areVoices_63 : decode cX7_areVoices 63 = .ok (.goto 4, 3) := by decide +kernel
theorem dX7_areVoices_66 : decode cX7_areVoices 66 = .ok (.iconst 0, 1) := by decide +kernel
theorem dX7_areVoices_67 : decode cX7_areVoices 67 = .ok (.istore 5, 2) := by decide +kernel
theorem dX7_areVoices_69 : decode cX7_areVoices 69 = .ok (.iload_n 2, 1) := by decide +kernel
theorem dX7_areVoices_70 : decode cX7_areVoices 70 = .ok (.iload 5, 2) := by decide +kernel
theorem dX7_areVoices_72 : decode cX7_areVoices 72 = .ok (.ifCond .eq 7, 3) := by decide +kernel
theorem dX7_areVoices_75 : decode cX7_areVoices 75 = .ok (.iconst 1, 1) := by decide +kernel
theorem dX7_areVoices_76 : decode cX7_areVoices 76 = .ok (.goto 4, 3) := by decide +kernel
theorem dX7_areVoices_79 : decode cX7_areVoices 79 = .ok (.iconst 0, 1) := by decide +kernel
theorem dX7_areVoices_80 : decode cX7_areVoices 80 = .ok (.iadd, 1) := by decide +kernel
theorem dX7_areVoices_81 : decode cX7_areVoices 81 = .ok (.istore_n 2, 1) := by decide +kernel
theorem dX7_areVoices_82 : decode cX7_areVoices 82 = .ok (.iload_n 3, 1) := by decide +kernel
theorem dX7_areVoices_83 : decode cX7_areVoices 83 = .ok (.ifCond .eq 44, 3) := by decide +kernel
theorem dX7_areVoices_86 : decode cX7_areVoices 86 = .ok (.iload 5, 2) := by decide +kernel
theorem dX7_areVoices_88 : decode cX7_areVoices 88 = .ok (.ifCond .eq 35, 3) := by decide +kernel
theorem dX7_areVoices_91 : decode cX7_areVoices 91 = .ok (.iload 4, 2) := by decide +kernel
theorem dX7_areVoices_93 : decode cX7_areVoices 93 = .ok (.iconst 1, 1) := by decide +kernel
theorem dX7_areVoices_94 : decode cX7_areVoices 94 = .ok (.iadd, 1) := by decide +kernel
theorem dX7_areVoices_95 : decode cX7_areVoices 95 = .ok (.aload_n 0, 1) := by decide +kernel
theorem dX7_areVoices_96 : decode cX7_areVoices 96 = .ok (.getfield 40, 3) := by decide +kernel
theorem dX7_areVoices_99 : decode cX7_areVoices 99 = .ok (.iload_n 1, 1) := by decide +kernel
theorem dX7_areVoices_100 : decode cX7_areVoices 100 = .ok (.iaload, 1) := by decide +kernel
theorem dX7_areVoices_101 : decode cX7_areVoices 101 = .ok (.if_icmp .ge 26, 3) := by decide +kernel
theorem dX7_areVoices_104 : decode cX7_areVoices 104 = .ok (.aload_n 0, 1) := by decide +kernel
theorem dX7_areVoices_105 : decode cX7_areVoices 105 = .ok (.getfield 43, 3) := by decide +kernel
theorem dX7_areVoices_108 : decode cX7_areVoices 108 = .ok (.bipush 60, 2) := by decide +kernel
theorem dX7_areVoices_110 : decode cX7_areVoices 110 = .ok (.iload_n 1, 1) := by decide +kernel
theorem dX7_areVoices_111 : decode cX7_areVoices 111 = .ok (.imul, 1) := by decide +kernel
theorem dX7_areVoices_112 : decode cX7_areVoices 112 = .ok (.iload 4, 2) := by decide +kernel
theorem dX7_areVoices_114 : decode cX7_areVoices 114 = .ok (.iadd, 1) := by decide +kernel
theorem dX7_areVoices_115 : decode cX7_areVoices 115 = .ok (.iconst 1, 1) := by decide +kernel
theorem dX7_areVoices_116 : decode cX7_areVoices 116 = .ok (.iadd, 1) := by decide +kernel
theorem dX7_areVoices_117 : decode cX7_areVoices 117 = .ok (.iaload, 1) := by decide +kernel
theorem dX7_areVoices_118 : decode cX7_areVoices 118 = .ok (.bipush 45, 2) := by decide +kernel
theorem dX7_areVoices_120 : decode cX7_areVoices 120 = .ok (.if_icmp .ne 7, 3) := by decide +kernel
theorem dX7_areVoices_123 : decode cX7_areVoices 123 = .ok (.iconst 1, 1) := by decide +kernel
theorem dX7_areVoices_124 : decode cX7_areVoices 124 = .ok (.goto 4, 3) := by decide +kernel
theorem dX7_areVoices_127 : decode cX7_areVoices 127 = .ok (.iconst 0, 1) := by decide +kernel
theorem dX7_areVoices_128 : decode cX7_areVoices 128 = .ok (.istore_n 3, 1) := by decide +kernel
theorem dX7_areVoices_129 : decode cX7_areVoices 129 = .ok (.iinc 4 1, 3) := by decide +kernel
theorem dX7_areVoices_132 : decode cX7_areVoices 132 = .ok (.goto (-98), 3) := by decide +kernel
theorem dX7_areVoices_135 : decode cX7_areVoices 135 = .ok (.iload_n 3, 1) := by decide +kernel
theorem dX7_areVoices_136 : decode cX7_areVoices 136 = .ok (.ifCond .eq 12, 3) := by decide +kernel
theorem dX7_areVoices_139 : decode cX7_areVoices 139 = .ok (.iload_n 2, 1) := by decide +kernel
theorem dX7_areVoices_140 : decode cX7_areVoices 140 = .ok (.iconst 2, 1) := by decide +kernel
theorem dX7_areVoices_141 : decode cX7_areVoices 141 = .ok (.if_icmp .ne 7, 3) := by decide +kernel
theorem dX7_areVoices_144 : decode cX7_areVoices 144 = .ok (.iconst 1, 1) := by decide +kernel
theorem dX7_areVoices_145 : decode cX7_areVoices 145 = .ok (.goto 4, 3) := by decide +kernel
theorem dX7_areVoices_148 : decode cX7_areVoices 148 = .ok (.iconst 0, 1) := by decide +kernel
theorem dX7_areVoices_149 : decode cX7_areVoices 149 = .ok (.ireturn, 1) := by decide +kernel
theorem dX7_brokenBy_0 : decode cX7_brokenBy 0 = .ok (.iconst 3, 1) := by decide +kernel
theorem dX7_brokenBy_1 : decode cX7_brokenBy 1 = .ok (.iload_n 1, 1) := by decide +kernel
theorem dX7_brokenBy_2 : decode cX7_brokenBy 2 = .ok (.imul, 1) := by decide +kernel
theorem dX7_brokenBy_3 : decode cX7_brokenBy 3 = .ok (.iload_n 2, 1) := by decide +kernel
theorem dX7_brokenBy_4 : decode cX7_brokenBy 4 = .ok (.iadd, 1) := by decide +kernel
theorem dX7_brokenBy_5 : decode cX7_brokenBy 5 = .ok (.istore_n 3, 1) := by decide +kernel
theorem dX7_brokenBy_6 : decode cX7_brokenBy 6 = .ok (.aload_n 0, 1) := by decide +kernel
theorem dX7_brokenBy_7 : decode cX7_brokenBy 7 = .ok (.getfield 28, 3) := by decide +kernel
theorem dX7_brokenBy_10 : decode cX7_brokenBy 10 = .ok (.iload_n 1, 1) := by decide +kernel
theorem dX7_brokenBy_11 : decode cX7_brokenBy 11 = .ok (.iaload, 1) := by decide +kernel
theorem dX7_brokenBy_12 : decode cX7_brokenBy 12 = .ok (.iconst (-1), 1) := by decide +kernel
theorem dX7_brokenBy_13 : decode cX7_brokenBy 13 = .ok (.if_icmp .eq 7, 3) := by decide +kernel
theorem dX7_brokenBy_16 : decode cX7_brokenBy 16 = .ok (.iconst 1, 1) := by decide +kernel
theorem dX7_brokenBy_17 : decode cX7_brokenBy 17 = .ok (.goto 4, 3) := by decide +kernel
theorem dX7_brokenBy_20 : decode cX7_brokenBy 20 = .ok (.iconst 0, 1) := by decide +kernel
theorem dX7_brokenBy_21 : decode cX7_brokenBy 21 = .ok (.istore 4, 2) := by decide +kernel
theorem dX7_brokenBy_23 : decode cX7_brokenBy 23 = .ok (.aload_n 0, 1) := by decide +kernel
theorem dX7_brokenBy_24 : decode cX7_brokenBy 24 = .ok (.getfield 40, 3) := by decide +kernel
theorem dX7_brokenBy_27 : decode cX7_brokenBy 27 = .ok (.iload_n 3, 1) := by decide +kernel
theorem dX7_brokenBy_28 : decode cX7_brokenBy 28 = .ok (.iaload, 1) := by decide +kernel
theorem dX7_brokenBy_29 : decode cX7_brokenBy 29 = .ok (.ifCond .ne 7, 3) := by decide +kernel
theorem dX7_brokenBy_32 : decode cX7_brokenBy 32 = .ok (.iconst 1, 1) := by decide +kernel
theorem dX7_brokenBy_33 : decode cX7_brokenBy 33 = .ok (.goto 4, 3) := by decide +kernel
theorem dX7_brokenBy_36 : decode cX7_brokenBy 36 = .ok (.iconst 0, 1) := by decide +kernel
theorem dX7_brokenBy_37 : decode cX7_brokenBy 37 = .ok (.istore 5, 2) := by decide +kernel
theorem dX7_brokenBy_39 : decode cX7_brokenBy 39 = .ok (.iload 5, 2) := by decide +kernel
theorem dX7_brokenBy_41 : decode cX7_brokenBy 41 = .ok (.aload_n 0, 1) := by decide +kernel
theorem dX7_brokenBy_42 : decode cX7_brokenBy 42 = .ok (.iload_n 3, 1) := by decide +kernel
theorem dX7_brokenBy_43 : decode cX7_brokenBy 43 = .ok (.invokevirtual 221, 3) := by decide +kernel
theorem dX7_brokenBy_46 : decode cX7_brokenBy 46 = .ok (.ifCond .eq 7, 3) := by decide +kernel
theorem dX7_brokenBy_49 : decode cX7_brokenBy 49 = .ok (.iconst 2, 1) := by decide +kernel
theorem dX7_brokenBy_50 : decode cX7_brokenBy 50 = .ok (.goto 4, 3) := by decide +kernel
theorem dX7_brokenBy_53 : decode cX7_brokenBy 53 = .ok (.iconst 0, 1) := by decide +kernel
theorem dX7_brokenBy_54 : decode cX7_brokenBy 54 = .ok (.ior, 1) := by decide +kernel
theorem dX7_brokenBy_55 : decode cX7_brokenBy 55 = .ok (.istore 5, 2) := by decide +kernel
theorem dX7_brokenBy_57 : decode cX7_brokenBy 57 = .ok (.iload 5, 2) := by decide +kernel
theorem dX7_brokenBy_59 : decode cX7_brokenBy 59 = .ok (.iload 4, 2) := by decide +kernel
theorem dX7_brokenBy_61 : decode cX7_brokenBy 61 = .ok (.ifCond .eq 36, 3) := by decide +kernel
theorem dX7_brokenBy_64 : decode cX7_brokenBy 64 = .ok (.bipush 25, 2) := by decide +kernel
theorem dX7_brokenBy_66 : decode cX7_brokenBy 66 = .ok (.aload_n 0, 1) := by decide +kernel
theorem dX7_brokenBy_67 : decode cX7_brokenBy 67 = .ok (.iload_n 3, 1) := by decide +kernel
theorem dX7_brokenBy_68 : decode cX7_brokenBy 68 = .ok (.iconst 0, 1) := by decide +kernel
theorem dX7_brokenBy_69 : decode cX7_brokenBy 69 = .ok (.aload_n 0, 1) := by decide +kernel
theorem dX7_brokenBy_70 : decode cX7_brokenBy 70 = .ok (.getfield 40, 3) := by decide +kernel
theorem dX7_brokenBy_73 : decode cX7_brokenBy 73 = .ok (.iload_n 3, 1) := by decide +kernel
theorem dX7_brokenBy_74 : decode cX7_brokenBy 74 = .ok (.iaload, 1) := by decide +kernel
theorem dX7_brokenBy_75 : decode cX7_brokenBy 75 = .ok (.invokevirtual 180, 3) := by decide +kernel
theorem dX7_brokenBy_78 : decode cX7_brokenBy 78 = .ok (.imul, 1) := by decide +kernel
theorem dX7_brokenBy_79 : decode cX7_brokenBy 79 = .ok (.aload_n 0, 1) := by decide +kernel
theorem dX7_brokenBy_80 : decode cX7_brokenBy 80 = .ok (.getfield 74, 3) := by decide +kernel
theorem dX7_brokenBy_83 : decode cX7_brokenBy 83 = .ok (.aload_n 0, 1) := by decide +kernel
theorem dX7_brokenBy_84 : decode cX7_brokenBy 84 = .ok (.getfield 31, 3) := by decide +kernel
theorem dX7_brokenBy_87 : decode cX7_brokenBy 87 = .ok (.iload_n 1, 1) := by decide +kernel
theorem dX7_brokenBy_88 : decode cX7_brokenBy 88 = .ok (.iaload, 1) := by decide +kernel
theorem dX7_brokenBy_89 : decode cX7_brokenBy 89 = .ok (.imul, 1) := by decide +kernel
theorem dX7_brokenBy_90 : decode cX7_brokenBy 90 = .ok (.if_icmp .le 7, 3) := by decide +kernel
theorem dX7_brokenBy_93 : decode cX7_brokenBy 93 = .ok (.iconst 4, 1) := by decide +kernel
theorem dX7_brokenBy_94 : decode cX7_brokenBy 94 = .ok (.goto 4, 3) := by decide +kernel
theorem dX7_brokenBy_97 : decode cX7_brokenBy 97 = .ok (.iconst 0, 1) := by decide +kernel
theorem dX7_brokenBy_98 : decode cX7_brokenBy 98 = .ok (.ior, 1) := by decide +kernel
theorem dX7_brokenBy_99 : decode cX7_brokenBy 99 = .ok (.istore 5, 2) := by decide +kernel
theorem dX7_brokenBy_101 : decode cX7_brokenBy 101 = .ok (.iload 5, 2) := by decide +kernel
theorem dX7_brokenBy_103 : decode cX7_brokenBy 103 = .ok (.iload 4, 2) := by decide +kernel
theorem dX7_brokenBy_105 : decode cX7_brokenBy 105 = .ok (.ifCond .eq 16, 3) := by decide +kernel
theorem dX7_brokenBy_108 : decode cX7_brokenBy 108 = .ok (.aload_n 0, 1) := by decide +kernel
theorem dX7_brokenBy_109 : decode cX7_brokenBy 109 = .ok (.iload_n 1, 1) := by decide +kernel
theorem dX7_brokenBy_110 : decode cX7_brokenBy 110 = .ok (.invokevirtual 224, 3) := by decide +kernel
theorem dX7_brokenBy_113 : decode cX7_brokenBy 113 = .ok (.ifCond .eq 8, 3) := by decide +kernel
theorem dX7_brokenBy_116 : decode cX7_brokenBy 116 = .ok (.bipush 8, 2) := by decide +kernel
theorem dX7_brokenBy_118 : decode cX7_brokenBy 118 = .ok (.goto 4, 3) := by decide +kernel
theorem dX7_brokenBy_121 : decode cX7_brokenBy 121 = .ok (.iconst 0, 1) := by decide +kernel
theorem dX7_brokenBy_122 : decode cX7_brokenBy 122 = .ok (.ior, 1) := by decide +kernel
theorem dX7_brokenBy_123 : decode cX7_brokenBy 123 = .ok (.istore 5, 2) := by decide +kernel
theorem dX7_brokenBy_125 : decode cX7_brokenBy 125 = .ok (.iload 5, 2) := by decide +kernel
theorem dX7_brokenBy_127 : decode cX7_brokenBy 127 = .ok (.iload 4, 2) := by decide +kernel
theorem dX7_brokenBy_129 : decode cX7_brokenBy 129 = .ok (.ifCond .eq 16, 3) := by decide +kernel
theorem dX7_brokenBy_132 : decode cX7_brokenBy 132 = .ok (.aload_n 0, 1) := by decide +kernel
theorem dX7_brokenBy_133 : decode cX7_brokenBy 133 = .ok (.iload_n 1, 1) := by decide +kernel
theorem dX7_brokenBy_134 : decode cX7_brokenBy 134 = .ok (.invokevirtual 227, 3) := by decide +kernel
theorem dX7_brokenBy_137 : decode cX7_brokenBy 137 = .ok (.ifCond .eq 8, 3) := by decide +kernel
theorem dX7_brokenBy_140 : decode cX7_brokenBy 140 = .ok (.bipush 16, 2) := by decide +kernel
theorem dX7_brokenBy_142 : decode cX7_brokenBy 142 = .ok (.goto 4, 3) := by decide +kernel
theorem dX7_brokenBy_145 : decode cX7_brokenBy 145 = .ok (.iconst 0, 1) := by decide +kernel
theorem dX7_brokenBy_146 : decode cX7_brokenBy 146 = .ok (.ior, 1) := by decide +kernel
theorem dX7_brokenBy_147 : decode cX7_brokenBy 147 = .ok (.istore 5, 2) := by decide +kernel
theorem dX7_brokenBy_149 : decode cX7_brokenBy 149 = .ok (.iload 5, 2) := by decide +kernel
theorem dX7_brokenBy_151 : decode cX7_brokenBy 151 = .ok (.aload_n 0, 1) := by decide +kernel
theorem dX7_brokenBy_152 : decode cX7_brokenBy 152 = .ok (.iload_n 1, 1) := by decide +kernel
theorem dX7_brokenBy_153 : decode cX7_brokenBy 153 = .ok (.iload_n 2, 1) := by decide +kernel
theorem dX7_brokenBy_154 : decode cX7_brokenBy 154 = .ok (.invokevirtual 215, 3) := by decide +kernel
theorem dX7_brokenBy_157 : decode cX7_brokenBy 157 = .ok (.ifCond .eq 8, 3) := by decide +kernel
theorem dX7_brokenBy_160 : decode cX7_brokenBy 160 = .ok (.bipush 32, 2) := by decide +kernel
theorem dX7_brokenBy_162 : decode cX7_brokenBy 162 = .ok (.goto 4, 3) := by decide +kernel
theorem dX7_brokenBy_165 : decode cX7_brokenBy 165 = .ok (.iconst 0, 1) := by decide +kernel
theorem dX7_brokenBy_166 : decode cX7_brokenBy 166 = .ok (.ior, 1) := by decide +kernel
theorem dX7_brokenBy_167 : decode cX7_brokenBy 167 = .ok (.istore 5, 2) := by decide +kernel
theorem dX7_brokenBy_169 : decode cX7_brokenBy 169 = .ok (.iload 5, 2) := by decide +kernel
theorem dX7_brokenBy_171 : decode cX7_brokenBy 171 = .ok (.iload 4, 2) := by decide +kernel
theorem dX7_brokenBy_173 : decode cX7_brokenBy 173 = .ok (.ifCond .eq 7, 3) := by decide +kernel
theorem dX7_brokenBy_176 : decode cX7_brokenBy 176 = .ok (.iconst 0, 1) := by decide +kernel
theorem dX7_brokenBy_177 : decode cX7_brokenBy 177 = .ok (.goto 5, 3) := by decide +kernel
theorem dX7_brokenBy_180 : decode cX7_brokenBy 180 = .ok (.bipush 64, 2) := by decide +kernel
theorem dX7_brokenBy_182 : decode cX7_brokenBy 182 = .ok (.ior, 1) := by decide +kernel
theorem dX7_brokenBy_183 : decode cX7_brokenBy 183 = .ok (.istore 5, 2) := by decide +kernel
theorem dX7_brokenBy_185 : decode cX7_brokenBy 185 = .ok (.iload 5, 2) := by decide +kernel
theorem dX7_brokenBy_187 : decode cX7_brokenBy 187 = .ok (.aload_n 0, 1) := by decide +kernel
theorem dX7_brokenBy_188 : decode cX7_brokenBy 188 = .ok (.getfield 25, 3) := by decide +kernel
theorem dX7_brokenBy_191 : decode cX7_brokenBy 191 = .ok (.iload_n 1, 1) := by decide +kernel
theorem dX7_brokenBy_192 : decode cX7_brokenBy 192 = .ok (.iaload, 1) := by decide +kernel
theorem dX7_brokenBy_193 : decode cX7_brokenBy 193 = .ok (.iconst 1, 1) := by decide +kernel
theorem dX7_brokenBy_194 : decode cX7_brokenBy 194 = .ok (.if_icmp .ne 26, 3) := by decide +kernel
theorem dX7_brokenBy_197 : decode cX7_brokenBy 197 = .ok (.aload_n 0, 1) := by decide +kernel
theorem dX7_brokenBy_198 : decode cX7_brokenBy 198 = .ok (.getfield 40, 3) := by decide +kernel
theorem dX7_brokenBy_201 : decode cX7_brokenBy 201 = .ok (.iload_n 3, 1) := by decide +kernel
theorem dX7_brokenBy_202 : decode cX7_brokenBy 202 = .ok (.iaload, 1) := by decide +kernel
theorem dX7_brokenBy_203 : decode cX7_brokenBy 203 = .ok (.ifCond .le 17, 3) := by decide +kernel
theorem dX7_brokenBy_206 : decode cX7_brokenBy 206 = .ok (.aload_n 0, 1) := by decide +kernel
theorem dX7_brokenBy_207 : decode cX7_brokenBy 207 = .ok (.iload_n 3, 1) := by decide +kernel
theorem dX7_brokenBy_208 : decode cX7_brokenBy 208 = .ok (.invokevirtual 230, 3) := by decide +kernel
theorem dX7_brokenBy_211 : decode cX7_brokenBy 211 = .ok (.ifCond .ne 9, 3) := by decide +kernel
theorem dX7_brokenBy_214 : decode cX7_brokenBy 214 = .ok (.sipush 128, 3) := by decide +kernel
theorem dX7_brokenBy_217 : decode cX7_brokenBy 217 = .ok (.goto 4, 3) := by decide +kernel
theorem dX7_brokenBy_220 : decode cX7_brokenBy 220 = .ok (.iconst 0, 1) := by decide +kernel
theorem dX7_brokenBy_221 : decode cX7_brokenBy 221 = .ok (.ior, 1) := by decide +kernel
theorem dX7_brokenBy_222 : decode cX7_brokenBy 222 = .ok (.istore 5, 2) := by decide +kernel
theorem dX7_brokenBy_224 : decode cX7_brokenBy 224 = .ok (.iload 5, 2) := by decide +kernel
theorem dX7_brokenBy_226 : decode cX7_brokenBy 226 = .ok (.ireturn, 1) := by decide +kernel
theorem dX7_broken_0 : decode cX7_broken 0 = .ok (.aload_n 0, 1) := by decide +kernel
theorem dX7_broken_1 : decode cX7_broken 1 = .ok (.iload_n 1, 1) := by decide +kernel
theorem dX7_broken_2 : decode cX7_broken 2 = .ok (.iload_n 2, 1) := by decide +kernel
theorem dX7_broken_3 : decode cX7_broken 3 = .ok (.invokevirtual 172, 3) := by decide +kernel
theorem dX7_broken_6 : decode cX7_broken 6 = .ok (.ifCond .eq 12, 3) := by decide +kernel
theorem dX7_broken_9 : decode cX7_broken 9 = .ok (.aload_n 0, 1) := by decide +kernel
theorem dX7_broken_10 : decode cX7_broken 10 = .ok (.iload_n 1, 1) := by decide +kernel
theorem dX7_broken_11 : decode cX7_broken 11 = .ok (.iload_n 2, 1) := by decide +kernel
theorem dX7_broken_12 : decode cX7_broken 12 = .ok (.invokevirtual 233, 3) := by decide +kernel
theorem dX7_broken_15 : decode cX7_broken 15 = .ok (.goto 4, 3) := by decide +kernel
theorem dX7_broken_18 : decode cX7_broken 18 = .ok (.iconst 0, 1) := by decide +kernel
theorem dX7_broken_19 : decode cX7_broken 19 = .ok (.ireturn, 1) := by decide +kernel
theorem dX7_letGo_0 : decode cX7_letGo 0 = .ok (.aload_n 0, 1) := by decide +kernel
theorem dX7_letGo_1 : decode cX7_letGo 1 = .ok (.aload_n 0, 1) := by decide +kernel
theorem dX7_letGo_2 : decode cX7_letGo 2 = .ok (.iload_n 1, 1) := by decide +kernel
theorem dX7_letGo_3 : decode cX7_letGo 3 = .ok (.iload_n 2, 1) := by decide +kernel
theorem dX7_letGo_4 : decode cX7_letGo 4 = .ok (.invokevirtual 157, 3) := by decide +kernel
theorem dX7_letGo_7 : decode cX7_letGo 7 = .ok (.ifCond .eq 13, 3) := by decide +kernel
theorem dX7_letGo_10 : decode cX7_letGo 10 = .ok (.iload_n 3, 1) := by decide +kernel
theorem dX7_letGo_11 : decode cX7_letGo 11 = .ok (.iconst 0, 1) := by decide +kernel
theorem dX7_letGo_12 : decode cX7_letGo 12 = .ok (.bipush 7, 2) := by decide +kernel
theorem dX7_letGo_14 : decode cX7_letGo 14 = .ok (.invokestatic 93, 3) := by decide +kernel
theorem dX7_letGo_17 : decode cX7_letGo 17 = .ok (.ifCond .ne 7, 3) := by decide +kernel
theorem dX7_letGo_20 : decode cX7_letGo 20 = .ok (.iconst 1, 1) := by decide +kernel
theorem dX7_letGo_21 : decode cX7_letGo 21 = .ok (.goto 19, 3) := by decide +kernel
theorem dX7_letGo_24 : decode cX7_letGo 24 = .ok (.iload 4, 2) := by decide +kernel
theorem dX7_letGo_26 : decode cX7_letGo 26 = .ok (.iconst 1, 1) := by decide +kernel
theorem dX7_letGo_27 : decode cX7_letGo 27 = .ok (.bipush 99, 2) := by decide +kernel
theorem dX7_letGo_29 : decode cX7_letGo 29 = .ok (.invokestatic 93, 3) := by decide +kernel
theorem dX7_letGo_32 : decode cX7_letGo 32 = .ok (.ifCond .eq 7, 3) := by decide +kernel
theorem dX7_letGo_35 : decode cX7_letGo 35 = .ok (.iconst 0, 1) := by decide +kernel
theorem dX7_letGo_36 : decode cX7_letGo 36 = .ok (.goto 4, 3) := by decide +kernel
theorem dX7_letGo_39 : decode cX7_letGo 39 = .ok (.iconst 2, 1) := by decide +kernel
theorem dX7_letGo_40 : decode cX7_letGo 40 = .ok (.putfield 87, 3) := by decide +kernel
theorem dX7_letGo_43 : decode cX7_letGo 43 = .ok (.aload_n 0, 1) := by decide +kernel
theorem dX7_letGo_44 : decode cX7_letGo 44 = .ok (.getfield 87, 3) := by decide +kernel
theorem dX7_letGo_47 : decode cX7_letGo 47 = .ok (.ifCond .ne 26, 3) := by decide +kernel
theorem dX7_letGo_50 : decode cX7_letGo 50 = .ok (.aload_n 0, 1) := by decide +kernel
theorem dX7_letGo_51 : decode cX7_letGo 51 = .ok (.aload_n 0, 1) := by decide +kernel
theorem dX7_letGo_52 : decode cX7_letGo 52 = .ok (.iload_n 1, 1) := by decide +kernel
theorem dX7_letGo_53 : decode cX7_letGo 53 = .ok (.iload_n 2, 1) := by decide +kernel
theorem dX7_letGo_54 : decode cX7_letGo 54 = .ok (.invokevirtual 233, 3) := by decide +kernel
theorem dX7_letGo_57 : decode cX7_letGo 57 = .ok (.iload_n 3, 1) := by decide +kernel
theorem dX7_letGo_58 : decode cX7_letGo 58 = .ok (.ishr, 1) := by decide +kernel
theorem dX7_letGo_59 : decode cX7_letGo 59 = .ok (.iconst 1, 1) := by decide +kernel
theorem dX7_letGo_60 : decode cX7_letGo 60 = .ok (.iand, 1) := by decide +kernel
theorem dX7_letGo_61 : decode cX7_letGo 61 = .ok (.iconst 1, 1) := by decide +kernel
theorem dX7_letGo_62 : decode cX7_letGo 62 = .ok (.if_icmp .ne 7, 3) := by decide +kernel
theorem dX7_letGo_65 : decode cX7_letGo 65 = .ok (.iconst 0, 1) := by decide +kernel
theorem dX7_letGo_66 : decode cX7_letGo 66 = .ok (.goto 4, 3) := by decide +kernel
theorem dX7_letGo_69 : decode cX7_letGo 69 = .ok (.iconst 3, 1) := by decide +kernel
theorem dX7_letGo_70 : decode cX7_letGo 70 = .ok (.putfield 87, 3) := by decide +kernel
theorem dX7_letGo_73 : decode cX7_letGo 73 = .ok (.aload_n 0, 1) := by decide +kernel
theorem dX7_letGo_74 : decode cX7_letGo 74 = .ok (.getfield 87, 3) := by decide +kernel
theorem dX7_letGo_77 : decode cX7_letGo 77 = .ok (.ifCond .le 5, 3) := by decide +kernel
theorem dX7_letGo_80 : decode cX7_letGo 80 = .ok (.iconst 0, 1) := by decide +kernel
theorem dX7_letGo_81 : decode cX7_letGo 81 = .ok (.ireturn, 1) := by decide +kernel
theorem dX7_letGo_82 : decode cX7_letGo 82 = .ok (.bipush 8, 2) := by decide +kernel
theorem dX7_letGo_84 : decode cX7_letGo 84 = .ok (.iconst 3, 1) := by decide +kernel
theorem dX7_letGo_85 : decode cX7_letGo 85 = .ok (.iload_n 1, 1) := by decide +kernel
theorem dX7_letGo_86 : decode cX7_letGo 86 = .ok (.imul, 1) := by decide +kernel
theorem dX7_letGo_87 : decode cX7_letGo 87 = .ok (.iload_n 2, 1) := by decide +kernel
theorem dX7_letGo_88 : decode cX7_letGo 88 = .ok (.iadd, 1) := by decide +kernel
theorem dX7_letGo_89 : decode cX7_letGo 89 = .ok (.imul, 1) := by decide +kernel
theorem dX7_letGo_90 : decode cX7_letGo 90 = .ok (.iload_n 3, 1) := by decide +kernel
theorem dX7_letGo_91 : decode cX7_letGo 91 = .ok (.iadd, 1) := by decide +kernel
theorem dX7_letGo_92 : decode cX7_letGo 92 = .ok (.istore 5, 2) := by decide +kernel
theorem dX7_letGo_94 : decode cX7_letGo 94 = .ok (.aload_n 0, 1) := by decide +kernel
theorem dX7_letGo_95 : decode cX7_letGo 95 = .ok (.getfield 49, 3) := by decide +kernel
theorem dX7_letGo_98 : decode cX7_letGo 98 = .ok (.iload 5, 2) := by decide +kernel
theorem dX7_letGo_100 : decode cX7_letGo 100 = .ok (.iaload, 1) := by decide +kernel
theorem dX7_letGo_101 : decode cX7_letGo 101 = .ok (.istore 6, 2) := by decide +kernel
theorem dX7_letGo_103 : decode cX7_letGo 103 = .ok (.aload_n 0, 1) := by decide +kernel
theorem dX7_letGo_104 : decode cX7_letGo 104 = .ok (.getfield 49, 3) := by decide +kernel
theorem dX7_letGo_107 : decode cX7_letGo 107 = .ok (.iload 5, 2) := by decide +kernel
theorem dX7_letGo_109 : decode cX7_letGo 109 = .ok (.iload 4, 2) := by decide +kernel
theorem dX7_letGo_111 : decode cX7_letGo 111 = .ok (.iastore, 1) := by decide +kernel
theorem dX7_letGo_112 : decode cX7_letGo 112 = .ok (.iload 6, 2) := by decide +kernel
theorem dX7_letGo_114 : decode cX7_letGo 114 = .ok (.ireturn, 1) := by decide +kernel
theorem dX7_nameOf_0 : decode cX7_nameOf 0 = .ok (.aload_n 0, 1) := by decide +kernel
theorem dX7_nameOf_1 : decode cX7_nameOf 1 = .ok (.aload_n 0, 1) := by decide +kernel
theorem dX7_nameOf_2 : decode cX7_nameOf 2 = .ok (.iload_n 1, 1) := by decide +kernel
theorem dX7_nameOf_3 : decode cX7_nameOf 3 = .ok (.iload_n 2, 1) := by decide +kernel
theorem dX7_nameOf_4 : decode cX7_nameOf 4 = .ok (.invokevirtual 157, 3) := by decide +kernel
theorem dX7_nameOf_7 : decode cX7_nameOf 7 = .ok (.ifCond .eq 17, 3) := by decide +kernel
theorem dX7_nameOf_10 : decode cX7_nameOf 10 = .ok (.iload_n 3, 1) := by decide +kernel
theorem dX7_nameOf_11 : decode cX7_nameOf 11 = .ok (.iconst 0, 1) := by decide +kernel
theorem dX7_nameOf_12 : decode cX7_nameOf 12 = .ok (.bipush 7, 2) := by decide +kernel
theorem dX7_nameOf_14 : decode cX7_nameOf 14 = .ok (.invokestatic 93, 3) := by decide +kernel
theorem dX7_nameOf_17 : decode cX7_nameOf 17 = .ok (.ifCond .eq 7, 3) := by decide +kernel
theorem dX7_nameOf_20 : decode cX7_nameOf 20 = .ok (.iconst 0, 1) := by decide +kernel
theorem dX7_nameOf_21 : decode cX7_nameOf 21 = .ok (.goto 4, 3) := by decide +kernel
theorem dX7_nameOf_24 : decode cX7_nameOf 24 = .ok (.iconst 1, 1) := by decide +kernel
theorem dX7_nameOf_25 : decode cX7_nameOf 25 = .ok (.putfield 87, 3) := by decide +kernel
theorem dX7_nameOf_28 : decode cX7_nameOf 28 = .ok (.aload_n 0, 1) := by decide +kernel
theorem dX7_nameOf_29 : decode cX7_nameOf 29 = .ok (.getfield 87, 3) := by decide +kernel
theorem dX7_nameOf_32 : decode cX7_nameOf 32 = .ok (.ifCond .le 7, 3) := by decide +kernel
theorem dX7_nameOf_35 : decode cX7_nameOf 35 = .ok (.iconst 0, 1) := by decide +kernel
theorem dX7_nameOf_36 : decode cX7_nameOf 36 = .ok (.goto 18, 3) := by decide +kernel
theorem dX7_nameOf_39 : decode cX7_nameOf 39 = .ok (.aload_n 0, 1) := by decide +kernel
theorem dX7_nameOf_40 : decode cX7_nameOf 40 = .ok (.getfield 49, 3) := by decide +kernel
theorem dX7_nameOf_43 : decode cX7_nameOf 43 = .ok (.bipush 8, 2) := by decide +kernel
theorem dX7_nameOf_45 : decode cX7_nameOf 45 = .ok (.iconst 3, 1) := by decide +kernel
theorem dX7_nameOf_46 : decode cX7_nameOf 46 = .ok (.iload_n 1, 1) := by decide +kernel
theorem dX7_nameOf_47 : decode cX7_nameOf 47 = .ok (.imul, 1) := by decide +kernel
theorem dX7_nameOf_48 : decode cX7_nameOf 48 = .ok (.iload_n 2, 1) := by decide +kernel
theorem dX7_nameOf_49 : decode cX7_nameOf 49 = .ok (.iadd, 1) := by decide +kernel
theorem dX7_nameOf_50 : decode cX7_nameOf 50 = .ok (.imul, 1) := by decide +kernel
theorem dX7_nameOf_51 : decode cX7_nameOf 51 = .ok (.iload_n 3, 1) := by decide +kernel
theorem dX7_nameOf_52 : decode cX7_nameOf 52 = .ok (.iadd, 1) := by decide +kernel
theorem dX7_nameOf_53 : decode cX7_nameOf 53 = .ok (.iaload, 1) := by decide +kernel
theorem dX7_nameOf_54 : decode cX7_nameOf 54 = .ok (.ireturn, 1) := by decide +kernel
theorem dX7_faults_0 : decode cX7_faults 0 = .ok (.aload_n 0, 1) := by decide +kernel
theorem dX7_faults_1 : decode cX7_faults 1 = .ok (.iload_n 1, 1) := by decide +kernel
theorem dX7_faults_2 : decode cX7_faults 2 = .ok (.iconst 0, 1) := by decide +kernel
theorem dX7_faults_3 : decode cX7_faults 3 = .ok (.iconst 2, 1) := by decide +kernel
theorem dX7_faults_4 : decode cX7_faults 4 = .ok (.invokestatic 93, 3) := by decide +kernel
theorem dX7_faults_7 : decode cX7_faults 7 = .ok (.ifCond .eq 7, 3) := by decide +kernel
theorem dX7_faults_10 : decode cX7_faults 10 = .ok (.iconst 0, 1) := by decide +kernel
theorem dX7_faults_11 : decode cX7_faults 11 = .ok (.goto 4, 3) := by decide +kernel
theorem dX7_faults_14 : decode cX7_faults 14 = .ok (.iconst 1, 1) := by decide +kernel
theorem dX7_faults_15 : decode cX7_faults 15 = .ok (.putfield 87, 3) := by decide +kernel
theorem dX7_faults_18 : decode cX7_faults 18 = .ok (.iconst 0, 1) := by decide +kernel
theorem dX7_faults_19 : decode cX7_faults 19 = .ok (.istore_n 2, 1) := by decide +kernel
theorem dX7_faults_20 : decode cX7_faults 20 = .ok (.iconst 0, 1) := by decide +kernel
theorem dX7_faults_21 : decode cX7_faults 21 = .ok (.istore_n 3, 1) := by decide +kernel
theorem dX7_faults_22 : decode cX7_faults 22 = .ok (.iload_n 3, 1) := by decide +kernel
theorem dX7_faults_23 : decode cX7_faults 23 = .ok (.aload_n 0, 1) := by decide +kernel
theorem dX7_faults_24 : decode cX7_faults 24 = .ok (.getfield 100, 3) := by decide +kernel
theorem dX7_faults_27 : decode cX7_faults 27 = .ok (.if_icmp .ge 78, 3) := by decide +kernel
theorem dX7_faults_30 : decode cX7_faults 30 = .ok (.aload_n 0, 1) := by decide +kernel
theorem dX7_faults_31 : decode cX7_faults 31 = .ok (.getfield 87, 3) := by decide +kernel
theorem dX7_faults_34 : decode cX7_faults 34 = .ok (.ifCond .ne 71, 3) := by decide +kernel
theorem dX7_faults_37 : decode cX7_faults 37 = .ok (.aload_n 0, 1) := by decide +kernel
theorem dX7_faults_38 : decode cX7_faults 38 = .ok (.iload_n 3, 1) := by decide +kernel
theorem dX7_faults_39 : decode cX7_faults 39 = .ok (.iload_n 1, 1) := by decide +kernel
theorem dX7_faults_40 : decode cX7_faults 40 = .ok (.invokevirtual 233, 3) := by decide +kernel
theorem dX7_faults_43 : decode cX7_faults 43 = .ok (.istore 4, 2) := by decide +kernel
theorem dX7_faults_45 : decode cX7_faults 45 = .ok (.iconst 0, 1) := by decide +kernel
theorem dX7_faults_46 : decode cX7_faults 46 = .ok (.istore 5, 2) := by decide +kernel
theorem dX7_faults_48 : decode cX7_faults 48 = .ok (.iload 5, 2) := by decide +kernel
theorem dX7_faults_50 : decode cX7_faults 50 = .ok (.bipush 8, 2) := by decide +kernel
theorem dX7_faults_52 : decode cX7_faults 52 = .ok (.if_icmp .ge 47, 3) := by decide +kernel
theorem dX7_faults_55 : decode cX7_faults 55 = .ok (.iload_n 2, 1) := by decide +kernel
theorem dX7_faults_56 : decode cX7_faults 56 = .ok (.iload 4, 2) := by decide +kernel
theorem dX7_faults_58 : decode cX7_faults 58 = .ok (.iload 5, 2) := by decide +kernel
theorem dX7_faults_60 : decode cX7_faults 60 = .ok (.ishr, 1) := by decide +kernel
theorem dX7_faults_61 : decode cX7_faults 61 = .ok (.iconst 1, 1) := by decide +kernel
theorem dX7_faults_62 : decode cX7_faults 62 = .ok (.iand, 1) := by decide +kernel
theorem dX7_faults_63 : decode cX7_faults 63 = .ok (.iconst 1, 1) := by decide +kernel
theorem dX7_faults_64 : decode cX7_faults 64 = .ok (.if_icmp .ne 26, 3) := by decide +kernel
theorem dX7_faults_67 : decode cX7_faults 67 = .ok (.aload_n 0, 1) := by decide +kernel
theorem dX7_faults_68 : decode cX7_faults 68 = .ok (.getfield 49, 3) := by decide +kernel
theorem dX7_faults_71 : decode cX7_faults 71 = .ok (.bipush 8, 2) := by decide +kernel
theorem dX7_faults_73 : decode cX7_faults 73 = .ok (.iconst 3, 1) := by decide +kernel
theorem dX7_faults_74 : decode cX7_faults 74 = .ok (.iload_n 3, 1) := by decide +kernel
theorem dX7_faults_75 : decode cX7_faults 75 = .ok (.imul, 1) := by decide +kernel
theorem dX7_faults_76 : decode cX7_faults 76 = .ok (.iload_n 1, 1) := by decide +kernel
theorem dX7_faults_77 : decode cX7_faults 77 = .ok (.iadd, 1) := by decide +kernel
theorem dX7_faults_78 : decode cX7_faults 78 = .ok (.imul, 1) := by decide +kernel
theorem dX7_faults_79 : decode cX7_faults 79 = .ok (.iload 5, 2) := by decide +kernel
theorem dX7_faults_81 : decode cX7_faults 81 = .ok (.iadd, 1) := by decide +kernel
theorem dX7_faults_82 : decode cX7_faults 82 = .ok (.iaload, 1) := by decide +kernel
theorem dX7_faults_83 : decode cX7_faults 83 = .ok (.ifCond .ne 7, 3) := by decide +kernel
theorem dX7_faults_86 : decode cX7_faults 86 = .ok (.iconst 1, 1) := by decide +kernel
theorem dX7_faults_87 : decode cX7_faults 87 = .ok (.goto 4, 3) := by decide +kernel
theorem dX7_faults_90 : decode cX7_faults 90 = .ok (.iconst 0, 1) := by decide +kernel
theorem dX7_faults_91 : decode cX7_faults 91 = .ok (.iadd, 1) := by decide +kernel
theorem dX7_faults_92 : decode cX7_faults 92 = .ok (.istore_n 2, 1) := by decide +kernel
theorem dX7_faults_93 : decode cX7_faults 93 = .ok (.iinc 5 1, 3) := by decide +kernel
theorem dX7_faults_96 : decode cX7_faults 96 = .ok (.goto (-48), 3) := by decide +kernel
theorem dX7_faults_99 : decode cX7_faults 99 = .ok (.iinc 3 1, 3) := by decide +kernel
theorem dX7_faults_102 : decode cX7_faults 102 = .ok (.goto (-80), 3) := by decide +kernel
theorem dX7_faults_105 : decode cX7_faults 105 = .ok (.iload_n 2, 1) := by decide +kernel
theorem dX7_faults_106 : decode cX7_faults 106 = .ok (.ireturn, 1) := by decide +kernel
theorem dX7_writes_0 : decode cX7_writes 0 = .ok (.aload_n 0, 1) := by decide +kernel
theorem dX7_writes_1 : decode cX7_writes 1 = .ok (.getfield 83, 3) := by decide +kernel
theorem dX7_writes_4 : decode cX7_writes 4 = .ok (.aload_n 0, 1) := by decide +kernel
theorem dX7_writes_5 : decode cX7_writes 5 = .ok (.getfield 236, 3) := by decide +kernel
theorem dX7_writes_8 : decode cX7_writes 8 = .ok (.iload_n 1, 1) := by decide +kernel
theorem dX7_writes_9 : decode cX7_writes 9 = .ok (.i2c, 1) := by decide +kernel
theorem dX7_writes_10 : decode cX7_writes 10 = .ok (.castore, 1) := by decide +kernel
theorem dX7_writes_11 : decode cX7_writes 11 = .ok (.aload_n 0, 1) := by decide +kernel
theorem dX7_writes_12 : decode cX7_writes 12 = .ok (.dup, 1) := by decide +kernel
theorem dX7_writes_13 : decode cX7_writes 13 = .ok (.getfield 236, 3) := by decide +kernel
theorem dX7_writes_16 : decode cX7_writes 16 = .ok (.iconst 1, 1) := by decide +kernel
theorem dX7_writes_17 : decode cX7_writes 17 = .ok (.iadd, 1) := by decide +kernel
theorem dX7_writes_18 : decode cX7_writes 18 = .ok (.putfield 236, 3) := by decide +kernel
theorem dX7_writes_21 : decode cX7_writes 21 = .ok (.return_, 1) := by decide +kernel
theorem dX7_writesSign_0 : decode cX7_writesSign 0 = .ok (.iload_n 1, 1) := by decide +kernel
theorem dX7_writesSign_1 : decode cX7_writesSign 1 = .ok (.ldc 176, 2) := by decide +kernel
theorem dX7_writesSign_3 : decode cX7_writesSign 3 = .ok (.if_icmp .ge 11, 3) := by decide +kernel
theorem dX7_writesSign_6 : decode cX7_writesSign 6 = .ok (.aload_n 0, 1) := by decide +kernel
theorem dX7_writesSign_7 : decode cX7_writesSign 7 = .ok (.iload_n 1, 1) := by decide +kernel
theorem dX7_writesSign_8 : decode cX7_writesSign 8 = .ok (.invokevirtual 239, 3) := by decide +kernel
theorem dX7_writesSign_11 : decode cX7_writesSign 11 = .ok (.goto 32, 3) := by decide +kernel
theorem dX7_writesSign_14 : decode cX7_writesSign 14 = .ok (.aload_n 0, 1) := by decide +kernel
theorem dX7_writesSign_15 : decode cX7_writesSign 15 = .ok (.ldc 242, 2) := by decide +kernel
theorem dX7_writesSign_17 : decode cX7_writesSign 17 = .ok (.iload_n 1, 1) := by decide +kernel
theorem dX7_writesSign_18 : decode cX7_writesSign 18 = .ok (.ldc 176, 2) := by decide +kernel
theorem dX7_writesSign_20 : decode cX7_writesSign 20 = .ok (.isub, 1) := by decide +kernel
theorem dX7_writesSign_21 : decode cX7_writesSign 21 = .ok (.bipush 10, 2) := by decide +kernel
theorem dX7_writesSign_23 : decode cX7_writesSign 23 = .ok (.ishr, 1) := by decide +kernel
theorem dX7_writesSign_24 : decode cX7_writesSign 24 = .ok (.iadd, 1) := by decide +kernel
theorem dX7_writesSign_25 : decode cX7_writesSign 25 = .ok (.invokevirtual 239, 3) := by decide +kernel
theorem dX7_writesSign_28 : decode cX7_writesSign 28 = .ok (.aload_n 0, 1) := by decide +kernel
theorem dX7_writesSign_29 : decode cX7_writesSign 29 = .ok (.ldc 243, 2) := by decide +kernel
theorem dX7_writesSign_31 : decode cX7_writesSign 31 = .ok (.iload_n 1, 1) := by decide +kernel
theorem dX7_writesSign_32 : decode cX7_writesSign 32 = .ok (.ldc 176, 2) := by decide +kernel
theorem dX7_writesSign_34 : decode cX7_writesSign 34 = .ok (.isub, 1) := by decide +kernel
theorem dX7_writesSign_35 : decode cX7_writesSign 35 = .ok (.sipush 1023, 3) := by decide +kernel
theorem dX7_writesSign_38 : decode cX7_writesSign 38 = .ok (.iand, 1) := by decide +kernel
theorem dX7_writesSign_39 : decode cX7_writesSign 39 = .ok (.iadd, 1) := by decide +kernel
theorem dX7_writesSign_40 : decode cX7_writesSign 40 = .ok (.invokevirtual 239, 3) := by decide +kernel
theorem dX7_writesSign_43 : decode cX7_writesSign 43 = .ok (.return_, 1) := by decide +kernel
theorem dX7_writesNumber_0 : decode cX7_writesNumber 0 = .ok (.iconst 1, 1) := by decide +kernel
theorem dX7_writesNumber_1 : decode cX7_writesNumber 1 = .ok (.istore_n 2, 1) := by decide +kernel
theorem dX7_writesNumber_2 : decode cX7_writesNumber 2 = .ok (.iload_n 1, 1) := by decide +kernel
theorem dX7_writesNumber_3 : decode cX7_writesNumber 3 = .ok (.iload_n 2, 1) := by decide +kernel
theorem dX7_writesNumber_4 : decode cX7_writesNumber 4 = .ok (.idiv, 1) := by decide +kernel
theorem dX7_writesNumber_5 : decode cX7_writesNumber 5 = .ok (.bipush 10, 2) := by decide +kernel
theorem dX7_writesNumber_7 : decode cX7_writesNumber 7 = .ok (.if_icmp .lt 11, 3) := by decide +kernel
theorem dX7_writesNumber_10 : decode cX7_writesNumber 10 = .ok (.iload_n 2, 1) := by decide +kernel
theorem dX7_writesNumber_11 : decode cX7_writesNumber 11 = .ok (.bipush 10, 2) := by decide +kernel
theorem dX7_writesNumber_13 : decode cX7_writesNumber 13 = .ok (.imul, 1) := by decide +kernel
theorem dX7_writesNumber_14 : decode cX7_writesNumber 14 = .ok (.istore_n 2, 1) := by decide +kernel
theorem dX7_writesNumber_15 : decode cX7_writesNumber 15 = .ok (.goto (-13), 3) := by decide +kernel
theorem dX7_writesNumber_18 : decode cX7_writesNumber 18 = .ok (.iload_n 2, 1) := by decide +kernel
theorem dX7_writesNumber_19 : decode cX7_writesNumber 19 = .ok (.ifCond .le 24, 3) := by decide +kernel
theorem dX7_writesNumber_22 : decode cX7_writesNumber 22 = .ok (.aload_n 0, 1) := by decide +kernel
theorem dX7_writesNumber_23 : decode cX7_writesNumber 23 = .ok (.bipush 48, 2) := by decide +kernel
theorem dX7_writesNumber_25 : decode cX7_writesNumber 25 = .ok (.iload_n 1, 1) := by decide +kernel
theorem dX7_writesNumber_26 : decode cX7_writesNumber 26 = .ok (.iload_n 2, 1) := by decide +kernel
theorem dX7_writesNumber_27 : decode cX7_writesNumber 27 = .ok (.idiv, 1) := by decide +kernel
theorem dX7_writesNumber_28 : decode cX7_writesNumber 28 = .ok (.bipush 10, 2) := by decide +kernel
theorem dX7_writesNumber_30 : decode cX7_writesNumber 30 = .ok (.irem, 1) := by decide +kernel
theorem dX7_writesNumber_31 : decode cX7_writesNumber 31 = .ok (.iadd, 1) := by decide +kernel
theorem dX7_writesNumber_32 : decode cX7_writesNumber 32 = .ok (.invokevirtual 239, 3) := by decide +kernel
theorem dX7_writesNumber_35 : decode cX7_writesNumber 35 = .ok (.iload_n 2, 1) := by decide +kernel
theorem dX7_writesNumber_36 : decode cX7_writesNumber 36 = .ok (.bipush 10, 2) := by decide +kernel
theorem dX7_writesNumber_38 : decode cX7_writesNumber 38 = .ok (.idiv, 1) := by decide +kernel
theorem dX7_writesNumber_39 : decode cX7_writesNumber 39 = .ok (.istore_n 2, 1) := by decide +kernel
theorem dX7_writesNumber_40 : decode cX7_writesNumber 40 = .ok (.goto (-22), 3) := by decide +kernel
theorem dX7_writesNumber_43 : decode cX7_writesNumber 43 = .ok (.return_, 1) := by decide +kernel
theorem dX7_writesTwo_0 : decode cX7_writesTwo 0 = .ok (.aload_n 0, 1) := by decide +kernel
theorem dX7_writesTwo_1 : decode cX7_writesTwo 1 = .ok (.bipush 48, 2) := by decide +kernel
theorem dX7_writesTwo_3 : decode cX7_writesTwo 3 = .ok (.iload_n 1, 1) := by decide +kernel
theorem dX7_writesTwo_4 : decode cX7_writesTwo 4 = .ok (.bipush 10, 2) := by decide +kernel
theorem dX7_writesTwo_6 : decode cX7_writesTwo 6 = .ok (.idiv, 1) := by decide +kernel
theorem dX7_writesTwo_7 : decode cX7_writesTwo 7 = .ok (.iadd, 1) := by decide +kernel
theorem dX7_writesTwo_8 : decode cX7_writesTwo 8 = .ok (.invokevirtual 239, 3) := by decide +kernel
theorem dX7_writesTwo_11 : decode cX7_writesTwo 11 = .ok (.aload_n 0, 1) := by decide +kernel
theorem dX7_writesTwo_12 : decode cX7_writesTwo 12 = .ok (.bipush 48, 2) := by decide +kernel
theorem dX7_writesTwo_14 : decode cX7_writesTwo 14 = .ok (.iload_n 1, 1) := by decide +kernel
theorem dX7_writesTwo_15 : decode cX7_writesTwo 15 = .ok (.bipush 10, 2) := by decide +kernel
theorem dX7_writesTwo_17 : decode cX7_writesTwo 17 = .ok (.irem, 1) := by decide +kernel
theorem dX7_writesTwo_18 : decode cX7_writesTwo 18 = .ok (.iadd, 1) := by decide +kernel
theorem dX7_writesTwo_19 : decode cX7_writesTwo 19 = .ok (.invokevirtual 239, 3) := by decide +kernel
theorem dX7_writesTwo_22 : decode cX7_writesTwo 22 = .ok (.return_, 1) := by decide +kernel
theorem dX7_writesTime_0 : decode cX7_writesTime 0 = .ok (.aload_n 0, 1) := by decide +kernel
theorem dX7_writesTime_1 : decode cX7_writesTime 1 = .ok (.iload_n 1, 1) := by decide +kernel
theorem dX7_writesTime_2 : decode cX7_writesTime 2 = .ok (.sipush 1500, 3) := by decide +kernel
theorem dX7_writesTime_5 : decode cX7_writesTime 5 = .ok (.idiv, 1) := by decide +kernel
theorem dX7_writesTime_6 : decode cX7_writesTime 6 = .ok (.invokevirtual 244, 3) := by decide +kernel
theorem dX7_writesTime_9 : decode cX7_writesTime 9 = .ok (.aload_n 0, 1) := by decide +kernel
theorem dX7_writesTime_10 : decode cX7_writesTime 10 = .ok (.bipush 58, 2) := by decide +kernel
theorem dX7_writesTime_12 : decode cX7_writesTime 12 = .ok (.invokevirtual 239, 3) := by decide +kernel
theorem dX7_writesTime_15 : decode cX7_writesTime 15 = .ok (.aload_n 0, 1) := by decide +kernel
theorem dX7_writesTime_16 : decode cX7_writesTime 16 = .ok (.iload_n 1, 1) := by decide +kernel
theorem dX7_writesTime_17 : decode cX7_writesTime 17 = .ok (.bipush 25, 2) := by decide +kernel
theorem dX7_writesTime_19 : decode cX7_writesTime 19 = .ok (.idiv, 1) := by decide +kernel
theorem dX7_writesTime_20 : decode cX7_writesTime 20 = .ok (.bipush 60, 2) := by decide +kernel
theorem dX7_writesTime_22 : decode cX7_writesTime 22 = .ok (.irem, 1) := by decide +kernel
theorem dX7_writesTime_23 : decode cX7_writesTime 23 = .ok (.invokevirtual 247, 3) := by decide +kernel
theorem dX7_writesTime_26 : decode cX7_writesTime 26 = .ok (.aload_n 0, 1) := by decide +kernel
theorem dX7_writesTime_27 : decode cX7_writesTime 27 = .ok (.bipush 58, 2) := by decide +kernel
theorem dX7_writesTime_29 : decode cX7_writesTime 29 = .ok (.invokevirtual 239, 3) := by decide +kernel
theorem dX7_writesTime_32 : decode cX7_writesTime 32 = .ok (.aload_n 0, 1) := by decide +kernel
theorem dX7_writesTime_33 : decode cX7_writesTime 33 = .ok (.iload_n 1, 1) := by decide +kernel
theorem dX7_writesTime_34 : decode cX7_writesTime 34 = .ok (.bipush 25, 2) := by decide +kernel
theorem dX7_writesTime_36 : decode cX7_writesTime 36 = .ok (.irem, 1) := by decide +kernel
theorem dX7_writesTime_37 : decode cX7_writesTime 37 = .ok (.invokevirtual 247, 3) := by decide +kernel
theorem dX7_writesTime_40 : decode cX7_writesTime 40 = .ok (.return_, 1) := by decide +kernel
theorem dX7_writesRow_0 : decode cX7_writesRow 0 = .ok (.aload_n 0, 1) := by decide +kernel
theorem dX7_writesRow_1 : decode cX7_writesRow 1 = .ok (.getfield 77, 3) := by decide +kernel
theorem dX7_writesRow_4 : decode cX7_writesRow 4 = .ok (.iload_n 2, 1) := by decide +kernel
theorem dX7_writesRow_5 : decode cX7_writesRow 5 = .ok (.iaload, 1) := by decide +kernel
theorem dX7_writesRow_6 : decode cX7_writesRow 6 = .ok (.istore_n 3, 1) := by decide +kernel
theorem dX7_writesRow_7 : decode cX7_writesRow 7 = .ok (.iload_n 3, 1) := by decide +kernel
theorem dX7_writesRow_8 : decode cX7_writesRow 8 = .ok (.aload_n 0, 1) := by decide +kernel
theorem dX7_writesRow_9 : decode cX7_writesRow 9 = .ok (.getfield 80, 3) := by decide +kernel
theorem dX7_writesRow_12 : decode cX7_writesRow 12 = .ok (.iload_n 2, 1) := by decide +kernel
theorem dX7_writesRow_13 : decode cX7_writesRow 13 = .ok (.iaload, 1) := by decide +kernel
theorem dX7_writesRow_14 : decode cX7_writesRow 14 = .ok (.if_icmp .ge 24, 3) := by decide +kernel
theorem dX7_writesRow_17 : decode cX7_writesRow 17 = .ok (.aload_n 0, 1) := by decide +kernel
theorem dX7_writesRow_18 : decode cX7_writesRow 18 = .ok (.aload_n 0, 1) := by decide +kernel
theorem dX7_writesRow_19 : decode cX7_writesRow 19 = .ok (.getfield 43, 3) := by decide +kernel
theorem dX7_writesRow_22 : decode cX7_writesRow 22 = .ok (.bipush 60, 2) := by decide +kernel
theorem dX7_writesRow_24 : decode cX7_writesRow 24 = .ok (.iload_n 1, 1) := by decide +kernel
theorem dX7_writesRow_25 : decode cX7_writesRow 25 = .ok (.imul, 1) := by decide +kernel
theorem dX7_writesRow_26 : decode cX7_writesRow 26 = .ok (.iload_n 3, 1) := by decide +kernel
theorem dX7_writesRow_27 : decode cX7_writesRow 27 = .ok (.iadd, 1) := by decide +kernel
theorem dX7_writesRow_28 : decode cX7_writesRow 28 = .ok (.iaload, 1) := by decide +kernel
theorem dX7_writesRow_29 : decode cX7_writesRow 29 = .ok (.invokevirtual 250, 3) := by decide +kernel
theorem dX7_writesRow_32 : decode cX7_writesRow 32 = .ok (.iinc 3 1, 3) := by decide +kernel
theorem dX7_writesRow_35 : decode cX7_writesRow 35 = .ok (.goto (-28), 3) := by decide +kernel
theorem dX7_writesRow_38 : decode cX7_writesRow 38 = .ok (.return_, 1) := by decide +kernel
theorem dX7_writesLong_0 : decode cX7_writesLong 0 = .ok (.aload_n 0, 1) := by decide +kernel
theorem dX7_writesLong_1 : decode cX7_writesLong 1 = .ok (.iload_n 3, 1) := by decide +kernel
theorem dX7_writesLong_2 : decode cX7_writesLong 2 = .ok (.invokevirtual 244, 3) := by decide +kernel
theorem dX7_writesLong_5 : decode cX7_writesLong 5 = .ok (.aload_n 0, 1) := by decide +kernel
theorem dX7_writesLong_6 : decode cX7_writesLong 6 = .ok (.bipush 10, 2) := by decide +kernel
theorem dX7_writesLong_8 : decode cX7_writesLong 8 = .ok (.invokevirtual 239, 3) := by decide +kernel
theorem dX7_writesLong_11 : decode cX7_writesLong 11 = .ok (.aload_n 0, 1) := by decide +kernel
theorem dX7_writesLong_12 : decode cX7_writesLong 12 = .ok (.aload_n 0, 1) := by decide +kernel
theorem dX7_writesLong_13 : decode cX7_writesLong 13 = .ok (.getfield 28, 3) := by decide +kernel
theorem dX7_writesLong_16 : decode cX7_writesLong 16 = .ok (.iload_n 1, 1) := by decide +kernel
theorem dX7_writesLong_17 : decode cX7_writesLong 17 = .ok (.iaload, 1) := by decide +kernel
theorem dX7_writesLong_18 : decode cX7_writesLong 18 = .ok (.invokevirtual 253, 3) := by decide +kernel
theorem dX7_writesLong_21 : decode cX7_writesLong 21 = .ok (.aload_n 0, 1) := by decide +kernel
theorem dX7_writesLong_22 : decode cX7_writesLong 22 = .ok (.bipush 32, 2) := by decide +kernel
theorem dX7_writesLong_24 : decode cX7_writesLong 24 = .ok (.invokevirtual 239, 3) := by decide +kernel
theorem dX7_writesLong_27 : decode cX7_writesLong 27 = .ok (.aload_n 0, 1) := by decide +kernel
theorem dX7_writesLong_28 : decode cX7_writesLong 28 = .ok (.bipush 62, 2) := by decide +kernel
theorem dX7_writesLong_30 : decode cX7_writesLong 30 = .ok (.invokevirtual 239, 3) := by decide +kernel
theorem dX7_writesLong_33 : decode cX7_writesLong 33 = .ok (.aload_n 0, 1) := by decide +kernel
theorem dX7_writesLong_34 : decode cX7_writesLong 34 = .ok (.bipush 32, 2) := by decide +kernel
theorem dX7_writesLong_36 : decode cX7_writesLong 36 = .ok (.invokevirtual 239, 3) := by decide +kernel
theorem dX7_writesLong_39 : decode cX7_writesLong 39 = .ok (.aload_n 0, 1) := by decide +kernel
theorem dX7_writesLong_40 : decode cX7_writesLong 40 = .ok (.aload_n 0, 1) := by decide +kernel
theorem dX7_writesLong_41 : decode cX7_writesLong 41 = .ok (.getfield 28, 3) := by decide +kernel
theorem dX7_writesLong_44 : decode cX7_writesLong 44 = .ok (.iload_n 1, 1) := by decide +kernel
theorem dX7_writesLong_45 : decode cX7_writesLong 45 = .ok (.iaload, 1) := by decide +kernel
theorem dX7_writesLong_46 : decode cX7_writesLong 46 = .ok (.aload_n 0, 1) := by decide +kernel
theorem dX7_writesLong_47 : decode cX7_writesLong 47 = .ok (.getfield 31, 3) := by decide +kernel
theorem dX7_writesLong_50 : decode cX7_writesLong 50 = .ok (.iload_n 1, 1) := by decide +kernel
theorem dX7_writesLong_51 : decode cX7_writesLong 51 = .ok (.iaload, 1) := by decide +kernel
theorem dX7_writesLong_52 : decode cX7_writesLong 52 = .ok (.iadd, 1) := by decide +kernel
theorem dX7_writesLong_53 : decode cX7_writesLong 53 = .ok (.invokevirtual 253, 3) := by decide +kernel
theorem dX7_writesLong_56 : decode cX7_writesLong 56 = .ok (.aload_n 0, 1) := by decide +kernel
theorem dX7_writesLong_57 : decode cX7_writesLong 57 = .ok (.bipush 10, 2) := by decide +kernel
theorem dX7_writesLong_59 : decode cX7_writesLong 59 = .ok (.invokevirtual 239, 3) := by decide +kernel
theorem dX7_writesLong_62 : decode cX7_writesLong 62 = .ok (.iconst 0, 1) := by decide +kernel
theorem dX7_writesLong_63 : decode cX7_writesLong 63 = .ok (.istore 4, 2) := by decide +kernel
theorem dX7_writesLong_65 : decode cX7_writesLong 65 = .ok (.iload 4, 2) := by decide +kernel
theorem dX7_writesLong_67 : decode cX7_writesLong 67 = .ok (.aload_n 0, 1) := by decide +kernel
theorem dX7_writesLong_68 : decode cX7_writesLong 68 = .ok (.getfield 184, 3) := by decide +kernel
theorem dX7_writesLong_71 : decode cX7_writesLong 71 = .ok (.if_icmp .ge 84, 3) := by decide +kernel
theorem dX7_writesLong_74 : decode cX7_writesLong 74 = .ok (.aload_n 0, 1) := by decide +kernel
theorem dX7_writesLong_75 : decode cX7_writesLong 75 = .ok (.getfield 25, 3) := by decide +kernel
theorem dX7_writesLong_78 : decode cX7_writesLong 78 = .ok (.iload_n 1, 1) := by decide +kernel
theorem dX7_writesLong_79 : decode cX7_writesLong 79 = .ok (.iaload, 1) := by decide +kernel
theorem dX7_writesLong_80 : decode cX7_writesLong 80 = .ok (.iconst 2, 1) := by decide +kernel
theorem dX7_writesLong_81 : decode cX7_writesLong 81 = .ok (.if_icmp .ne 21, 3) := by decide +kernel
theorem dX7_writesLong_84 : decode cX7_writesLong 84 = .ok (.iload 4, 2) := by decide +kernel
theorem dX7_writesLong_86 : decode cX7_writesLong 86 = .ok (.ifCond .ne 16, 3) := by decide +kernel
theorem dX7_writesLong_89 : decode cX7_writesLong 89 = .ok (.aload_n 0, 1) := by decide +kernel
theorem dX7_writesLong_90 : decode cX7_writesLong 90 = .ok (.sipush 9834, 3) := by decide +kernel
theorem dX7_writesLong_93 : decode cX7_writesLong 93 = .ok (.invokevirtual 239, 3) := by decide +kernel
theorem dX7_writesLong_96 : decode cX7_writesLong 96 = .ok (.aload_n 0, 1) := by decide +kernel
theorem dX7_writesLong_97 : decode cX7_writesLong 97 = .ok (.bipush 32, 2) := by decide +kernel
theorem dX7_writesLong_99 : decode cX7_writesLong 99 = .ok (.invokevirtual 239, 3) := by decide +kernel
theorem dX7_writesLong_102 : decode cX7_writesLong 102 = .ok (.aload_n 0, 1) := by decide +kernel
theorem dX7_writesLong_103 : decode cX7_writesLong 103 = .ok (.iload_n 2, 1) := by decide +kernel
theorem dX7_writesLong_104 : decode cX7_writesLong 104 = .ok (.iload 4, 2) := by decide +kernel
theorem dX7_writesLong_106 : decode cX7_writesLong 106 = .ok (.invokevirtual 256, 3) := by decide +kernel
theorem dX7_writesLong_109 : decode cX7_writesLong 109 = .ok (.aload_n 0, 1) := by decide +kernel
theorem dX7_writesLong_110 : decode cX7_writesLong 110 = .ok (.getfield 25, 3) := by decide +kernel
theorem dX7_writesLong_113 : decode cX7_writesLong 113 = .ok (.iload_n 1, 1) := by decide +kernel
theorem dX7_writesLong_114 : decode cX7_writesLong 114 = .ok (.iaload, 1) := by decide +kernel
theorem dX7_writesLong_115 : decode cX7_writesLong 115 = .ok (.iconst 2, 1) := by decide +kernel
theorem dX7_writesLong_116 : decode cX7_writesLong 116 = .ok (.if_icmp .ne 27, 3) := by decide +kernel
theorem dX7_writesLong_119 : decode cX7_writesLong 119 = .ok (.iload 4, 2) := by decide +kernel
theorem dX7_writesLong_121 : decode cX7_writesLong 121 = .ok (.aload_n 0, 1) := by decide +kernel
theorem dX7_writesLong_122 : decode cX7_writesLong 122 = .ok (.getfield 184, 3) := by decide +kernel
theorem dX7_writesLong_125 : decode cX7_writesLong 125 = .ok (.iconst 1, 1) := by decide +kernel
theorem dX7_writesLong_126 : decode cX7_writesLong 126 = .ok (.isub, 1) := by decide +kernel
theorem dX7_writesLong_127 : decode cX7_writesLong 127 = .ok (.if_icmp .ne 16, 3) := by decide +kernel
theorem dX7_writesLong_130 : decode cX7_writesLong 130 = .ok (.aload_n 0, 1) := by decide +kernel
theorem dX7_writesLong_131 : decode cX7_writesLong 131 = .ok (.bipush 32, 2) := by decide +kernel
theorem dX7_writesLong_133 : decode cX7_writesLong 133 = .ok (.invokevirtual 239, 3) := by decide +kernel
theorem dX7_writesLong_136 : decode cX7_writesLong 136 = .ok (.aload_n 0, 1) := by decide +kernel
theorem dX7_writesLong_137 : decode cX7_writesLong 137 = .ok (.sipush 9834, 3) := by decide +kernel
theorem dX7_writesLong_140 : decode cX7_writesLong 140 = .ok (.invokevirtual 239, 3) := by decide +kernel
theorem dX7_writesLong_143 : decode cX7_writesLong 143 = .ok (.aload_n 0, 1) := by decide +kernel
theorem dX7_writesLong_144 : decode cX7_writesLong 144 = .ok (.bipush 10, 2) := by decide +kernel
theorem dX7_writesLong_146 : decode cX7_writesLong 146 = .ok (.invokevirtual 239, 3) := by decide +kernel
theorem dX7_writesLong_149 : decode cX7_writesLong 149 = .ok (.iinc 4 1, 3) := by decide +kernel
theorem dX7_writesLong_152 : decode cX7_writesLong 152 = .ok (.goto (-87), 3) := by decide +kernel
theorem dX7_writesLong_155 : decode cX7_writesLong 155 = .ok (.aload_n 0, 1) := by decide +kernel
theorem dX7_writesLong_156 : decode cX7_writesLong 156 = .ok (.bipush 10, 2) := by decide +kernel
theorem dX7_writesLong_158 : decode cX7_writesLong 158 = .ok (.invokevirtual 239, 3) := by decide +kernel
theorem dX7_writesLong_161 : decode cX7_writesLong 161 = .ok (.return_, 1) := by decide +kernel
theorem dX7_writesShort_0 : decode cX7_writesShort 0 = .ok (.aload_n 0, 1) := by decide +kernel
theorem dX7_writesShort_1 : decode cX7_writesShort 1 = .ok (.bipush 123, 2) := by decide +kernel
theorem dX7_writesShort_3 : decode cX7_writesShort 3 = .ok (.invokevirtual 239, 3) := by decide +kernel
theorem dX7_writesShort_6 : decode cX7_writesShort 6 = .ok (.aload_n 0, 1) := by decide +kernel
theorem dX7_writesShort_7 : decode cX7_writesShort 7 = .ok (.aload_n 0, 1) := by decide +kernel
theorem dX7_writesShort_8 : decode cX7_writesShort 8 = .ok (.getfield 28, 3) := by decide +kernel
theorem dX7_writesShort_11 : decode cX7_writesShort 11 = .ok (.iload_n 1, 1) := by decide +kernel
theorem dX7_writesShort_12 : decode cX7_writesShort 12 = .ok (.iaload, 1) := by decide +kernel
theorem dX7_writesShort_13 : decode cX7_writesShort 13 = .ok (.invokevirtual 244, 3) := by decide +kernel
theorem dX7_writesShort_16 : decode cX7_writesShort 16 = .ok (.aload_n 0, 1) := by decide +kernel
theorem dX7_writesShort_17 : decode cX7_writesShort 17 = .ok (.bipush 125, 2) := by decide +kernel
theorem dX7_writesShort_19 : decode cX7_writesShort 19 = .ok (.invokevirtual 239, 3) := by decide +kernel
theorem dX7_writesShort_22 : decode cX7_writesShort 22 = .ok (.aload_n 0, 1) := by decide +kernel
theorem dX7_writesShort_23 : decode cX7_writesShort 23 = .ok (.bipush 123, 2) := by decide +kernel
theorem dX7_writesShort_25 : decode cX7_writesShort 25 = .ok (.invokevirtual 239, 3) := by decide +kernel
theorem dX7_writesShort_28 : decode cX7_writesShort 28 = .ok (.aload_n 0, 1) := by decide +kernel
theorem dX7_writesShort_29 : decode cX7_writesShort 29 = .ok (.aload_n 0, 1) := by decide +kernel
theorem dX7_writesShort_30 : decode cX7_writesShort 30 = .ok (.getfield 28, 3) := by decide +kernel
theorem dX7_writesShort_33 : decode cX7_writesShort 33 = .ok (.iload_n 1, 1) := by decide +kernel
theorem dX7_writesShort_34 : decode cX7_writesShort 34 = .ok (.iaload, 1) := by decide +kernel
theorem dX7_writesShort_35 : decode cX7_writesShort 35 = .ok (.aload_n 0, 1) := by decide +kernel
theorem dX7_writesShort_36 : decode cX7_writesShort 36 = .ok (.getfield 31, 3) := by decide +kernel
theorem dX7_writesShort_39 : decode cX7_writesShort 39 = .ok (.iload_n 1, 1) := by decide +kernel
theorem dX7_writesShort_40 : decode cX7_writesShort 40 = .ok (.iaload, 1) := by decide +kernel
theorem dX7_writesShort_41 : decode cX7_writesShort 41 = .ok (.iadd, 1) := by decide +kernel
theorem dX7_writesShort_42 : decode cX7_writesShort 42 = .ok (.invokevirtual 244, 3) := by decide +kernel
theorem dX7_writesShort_45 : decode cX7_writesShort 45 = .ok (.aload_n 0, 1) := by decide +kernel
theorem dX7_writesShort_46 : decode cX7_writesShort 46 = .ok (.bipush 125, 2) := by decide +kernel
theorem dX7_writesShort_48 : decode cX7_writesShort 48 = .ok (.invokevirtual 239, 3) := by decide +kernel
theorem dX7_writesShort_51 : decode cX7_writesShort 51 = .ok (.aload_n 0, 1) := by decide +kernel
theorem dX7_writesShort_52 : decode cX7_writesShort 52 = .ok (.getfield 25, 3) := by decide +kernel
theorem dX7_writesShort_55 : decode cX7_writesShort 55 = .ok (.iload_n 1, 1) := by decide +kernel
theorem dX7_writesShort_56 : decode cX7_writesShort 56 = .ok (.iaload, 1) := by decide +kernel
theorem dX7_writesShort_57 : decode cX7_writesShort 57 = .ok (.iconst 2, 1) := by decide +kernel
theorem dX7_writesShort_58 : decode cX7_writesShort 58 = .ok (.if_icmp .lt 24, 3) := by decide +kernel
theorem dX7_writesShort_61 : decode cX7_writesShort 61 = .ok (.aload_n 0, 1) := by decide +kernel
theorem dX7_writesShort_62 : decode cX7_writesShort 62 = .ok (.aload_n 0, 1) := by decide +kernel
theorem dX7_writesShort_63 : decode cX7_writesShort 63 = .ok (.getfield 25, 3) := by decide +kernel
theorem dX7_writesShort_66 : decode cX7_writesShort 66 = .ok (.iload_n 1, 1) := by decide +kernel
theorem dX7_writesShort_67 : decode cX7_writesShort 67 = .ok (.iaload, 1) := by decide +kernel
theorem dX7_writesShort_68 : decode cX7_writesShort 68 = .ok (.iconst 2, 1) := by decide +kernel
theorem dX7_writesShort_69 : decode cX7_writesShort 69 = .ok (.if_icmp .ne 8, 3) := by decide +kernel
theorem dX7_writesShort_72 : decode cX7_writesShort 72 = .ok (.bipush 47, 2) := by decide +kernel
theorem dX7_writesShort_74 : decode cX7_writesShort 74 = .ok (.goto 5, 3) := by decide +kernel
theorem dX7_writesShort_77 : decode cX7_writesShort 77 = .ok (.bipush 94, 2) := by decide +kernel
theorem dX7_writesShort_79 : decode cX7_writesShort 79 = .ok (.invokevirtual 239, 3) := by decide +kernel
theorem dX7_writesShort_82 : decode cX7_writesShort 82 = .ok (.iconst 0, 1) := by decide +kernel
theorem dX7_writesShort_83 : decode cX7_writesShort 83 = .ok (.istore_n 3, 1) := by decide +kernel
theorem dX7_writesShort_84 : decode cX7_writesShort 84 = .ok (.iload_n 3, 1) := by decide +kernel
theorem dX7_writesShort_85 : decode cX7_writesShort 85 = .ok (.aload_n 0, 1) := by decide +kernel
theorem dX7_writesShort_86 : decode cX7_writesShort 86 = .ok (.getfield 184, 3) := by decide +kernel
theorem dX7_writesShort_89 : decode cX7_writesShort 89 = .ok (.if_icmp .ge 25, 3) := by decide +kernel
theorem dX7_writesShort_92 : decode cX7_writesShort 92 = .ok (.iload_n 3, 1) := by decide +kernel
theorem dX7_writesShort_93 : decode cX7_writesShort 93 = .ok (.ifCond .le 9, 3) := by decide +kernel
theorem dX7_writesShort_96 : decode cX7_writesShort 96 = .ok (.aload_n 0, 1) := by decide +kernel
theorem dX7_writesShort_97 : decode cX7_writesShort 97 = .ok (.bipush 124, 2) := by decide +kernel
theorem dX7_writesShort_99 : decode cX7_writesShort 99 = .ok (.invokevirtual 239, 3) := by decide +kernel
theorem dX7_writesShort_102 : decode cX7_writesShort 102 = .ok (.aload_n 0, 1) := by decide +kernel
theorem dX7_writesShort_103 : decode cX7_writesShort 103 = .ok (.iload_n 2, 1) := by decide +kernel
theorem dX7_writesShort_104 : decode cX7_writesShort 104 = .ok (.iload_n 3, 1) := by decide +kernel
theorem dX7_writesShort_105 : decode cX7_writesShort 105 = .ok (.invokevirtual 256, 3) := by decide +kernel
theorem dX7_writesShort_108 : decode cX7_writesShort 108 = .ok (.iinc 3 1, 3) := by decide +kernel
theorem dX7_writesShort_111 : decode cX7_writesShort 111 = .ok (.goto (-27), 3) := by decide +kernel
theorem dX7_writesShort_114 : decode cX7_writesShort 114 = .ok (.aload_n 0, 1) := by decide +kernel
theorem dX7_writesShort_115 : decode cX7_writesShort 115 = .ok (.bipush 10, 2) := by decide +kernel
theorem dX7_writesShort_117 : decode cX7_writesShort 117 = .ok (.invokevirtual 239, 3) := by decide +kernel
theorem dX7_writesShort_120 : decode cX7_writesShort 120 = .ok (.return_, 1) := by decide +kernel
theorem dX7_writesAll_0 : decode cX7_writesAll 0 = .ok (.aload_n 0, 1) := by decide +kernel
theorem dX7_writesAll_1 : decode cX7_writesAll 1 = .ok (.iconst 0, 1) := by decide +kernel
theorem dX7_writesAll_2 : decode cX7_writesAll 2 = .ok (.putfield 236, 3) := by decide +kernel
theorem dX7_writesAll_5 : decode cX7_writesAll 5 = .ok (.iconst 0, 1) := by decide +kernel
theorem dX7_writesAll_6 : decode cX7_writesAll 6 = .ok (.istore_n 3, 1) := by decide +kernel
theorem dX7_writesAll_7 : decode cX7_writesAll 7 = .ok (.iconst 0, 1) := by decide +kernel
theorem dX7_writesAll_8 : decode cX7_writesAll 8 = .ok (.istore 4, 2) := by decide +kernel
theorem dX7_writesAll_10 : decode cX7_writesAll 10 = .ok (.iload 4, 2) := by decide +kernel
theorem dX7_writesAll_12 : decode cX7_writesAll 12 = .ok (.aload_n 0, 1) := by decide +kernel
theorem dX7_writesAll_13 : decode cX7_writesAll 13 = .ok (.getfield 100, 3) := by decide +kernel
theorem dX7_writesAll_16 : decode cX7_writesAll 16 = .ok (.if_icmp .ge 82, 3) := by decide +kernel
theorem dX7_writesAll_19 : decode cX7_writesAll 19 = .ok (.aload_n 0, 1) := by decide +kernel
theorem dX7_writesAll_20 : decode cX7_writesAll 20 = .ok (.iload 4, 2) := by decide +kernel
theorem dX7_writesAll_22 : decode cX7_writesAll 22 = .ok (.invokevirtual 153, 3) := by decide +kernel
theorem dX7_writesAll_25 : decode cX7_writesAll 25 = .ok (.istore 5, 2) := by decide +kernel
theorem dX7_writesAll_27 : decode cX7_writesAll 27 = .ok (.iload 5, 2) := by decide +kernel
theorem dX7_writesAll_29 : decode cX7_writesAll 29 = .ok (.iconst (-1), 1) := by decide +kernel
theorem dX7_writesAll_30 : decode cX7_writesAll 30 = .ok (.if_icmp .eq 62, 3) := by decide +kernel
theorem dX7_writesAll_33 : decode cX7_writesAll 33 = .ok (.aload_n 0, 1) := by decide +kernel
theorem dX7_writesAll_34 : decode cX7_writesAll 34 = .ok (.getfield 40, 3) := by decide +kernel
theorem dX7_writesAll_37 : decode cX7_writesAll 37 = .ok (.iconst 3, 1) := by decide +kernel
theorem dX7_writesAll_38 : decode cX7_writesAll 38 = .ok (.iload 5, 2) := by decide +kernel
theorem dX7_writesAll_40 : decode cX7_writesAll 40 = .ok (.imul, 1) := by decide +kernel
theorem dX7_writesAll_41 : decode cX7_writesAll 41 = .ok (.iload_n 2, 1) := by decide +kernel
theorem dX7_writesAll_42 : decode cX7_writesAll 42 = .ok (.iadd, 1) := by decide +kernel
theorem dX7_writesAll_43 : decode cX7_writesAll 43 = .ok (.iaload, 1) := by decide +kernel
theorem dX7_writesAll_44 : decode cX7_writesAll 44 = .ok (.ifCond .le 48, 3) := by decide +kernel
theorem dX7_writesAll_47 : decode cX7_writesAll 47 = .ok (.iinc 3 1, 3) := by decide +kernel
theorem dX7_writesAll_50 : decode cX7_writesAll 50 = .ok (.aload_n 0, 1) := by decide +kernel
theorem dX7_writesAll_51 : decode cX7_writesAll 51 = .ok (.iconst 3, 1) := by decide +kernel
theorem dX7_writesAll_52 : decode cX7_writesAll 52 = .ok (.iload 5, 2) := by decide +kernel
theorem dX7_writesAll_54 : decode cX7_writesAll 54 = .ok (.imul, 1) := by decide +kernel
theorem dX7_writesAll_55 : decode cX7_writesAll 55 = .ok (.iload_n 2, 1) := by decide +kernel
theorem dX7_writesAll_56 : decode cX7_writesAll 56 = .ok (.iadd, 1) := by decide +kernel
theorem dX7_writesAll_57 : decode cX7_writesAll 57 = .ok (.invokevirtual 199, 3) := by decide +kernel
theorem dX7_writesAll_60 : decode cX7_writesAll 60 = .ok (.iload_n 1, 1) := by decide +kernel
theorem dX7_writesAll_61 : decode cX7_writesAll 61 = .ok (.ifCond .ne 19, 3) := by decide +kernel
theorem dX7_writesAll_64 : decode cX7_writesAll 64 = .ok (.aload_n 0, 1) := by decide +kernel
theorem dX7_writesAll_65 : decode cX7_writesAll 65 = .ok (.iload 5, 2) := by decide +kernel
theorem dX7_writesAll_67 : decode cX7_writesAll 67 = .ok (.iconst 3, 1) := by decide +kernel
theorem dX7_writesAll_68 : decode cX7_writesAll 68 = .ok (.iload 5, 2) := by decide +kernel
theorem dX7_writesAll_70 : decode cX7_writesAll 70 = .ok (.imul, 1) := by decide +kernel
theorem dX7_writesAll_71 : decode cX7_writesAll 71 = .ok (.iload_n 2, 1) := by decide +kernel
theorem dX7_writesAll_72 : decode cX7_writesAll 72 = .ok (.iadd, 1) := by decide +kernel
theorem dX7_writesAll_73 : decode cX7_writesAll 73 = .ok (.iload_n 3, 1) := by decide +kernel
theorem dX7_writesAll_74 : decode cX7_writesAll 74 = .ok (.invokevirtual 259, 3) := by decide +kernel
theorem dX7_writesAll_77 : decode cX7_writesAll 77 = .ok (.goto 15, 3) := by decide +kernel
theorem dX7_writesAll_80 : decode cX7_writesAll 80 = .ok (.aload_n 0, 1) := by decide +kernel
theorem dX7_writesAll_81 : decode cX7_writesAll 81 = .ok (.iload 5, 2) := by decide +kernel
theorem dX7_writesAll_83 : decode cX7_writesAll 83 = .ok (.iconst 3, 1) := by decide +kernel
theorem dX7_writesAll_84 : decode cX7_writesAll 84 = .ok (.iload 5, 2) := by decide +kernel
theorem dX7_writesAll_86 : decode cX7_writesAll 86 = .ok (.imul, 1) := by decide +kernel
theorem dX7_writesAll_87 : decode cX7_writesAll 87 = .ok (.iload_n 2, 1) := by decide +kernel
theorem dX7_writesAll_88 : decode cX7_writesAll 88 = .ok (.iadd, 1) := by decide +kernel
theorem dX7_writesAll_89 : decode cX7_writesAll 89 = .ok (.invokevirtual 262, 3) := by decide +kernel
theorem dX7_writesAll_92 : decode cX7_writesAll 92 = .ok (.iinc 4 1, 3) := by decide +kernel
theorem dX7_writesAll_95 : decode cX7_writesAll 95 = .ok (.goto (-85), 3) := by decide +kernel
theorem dX7_writesAll_98 : decode cX7_writesAll 98 = .ok (.return_, 1) := by decide +kernel
theorem dX7_written_0 : decode cX7_written 0 = .ok (.aload_n 0, 1) := by decide +kernel
theorem dX7_written_1 : decode cX7_written 1 = .ok (.iload_n 1, 1) := by decide +kernel
theorem dX7_written_2 : decode cX7_written 2 = .ok (.iconst 0, 1) := by decide +kernel
theorem dX7_written_3 : decode cX7_written 3 = .ok (.iconst 1, 1) := by decide +kernel
theorem dX7_written_4 : decode cX7_written 4 = .ok (.invokestatic 93, 3) := by decide +kernel
theorem dX7_written_7 : decode cX7_written 7 = .ok (.ifCond .ne 7, 3) := by decide +kernel
theorem dX7_written_10 : decode cX7_written 10 = .ok (.iconst 1, 1) := by decide +kernel
theorem dX7_written_11 : decode cX7_written 11 = .ok (.goto 17, 3) := by decide +kernel
theorem dX7_written_14 : decode cX7_written 14 = .ok (.iload_n 2, 1) := by decide +kernel
theorem dX7_written_15 : decode cX7_written 15 = .ok (.iconst 0, 1) := by decide +kernel
theorem dX7_written_16 : decode cX7_written 16 = .ok (.iconst 2, 1) := by decide +kernel
theorem dX7_written_17 : decode cX7_written 17 = .ok (.invokestatic 93, 3) := by decide +kernel
theorem dX7_written_20 : decode cX7_written 20 = .ok (.ifCond .eq 7, 3) := by decide +kernel
theorem dX7_written_23 : decode cX7_written 23 = .ok (.iconst 0, 1) := by decide +kernel
theorem dX7_written_24 : decode cX7_written 24 = .ok (.goto 4, 3) := by decide +kernel
theorem dX7_written_27 : decode cX7_written 27 = .ok (.iconst 2, 1) := by decide +kernel
theorem dX7_written_28 : decode cX7_written 28 = .ok (.putfield 87, 3) := by decide +kernel
theorem dX7_written_31 : decode cX7_written 31 = .ok (.aload_n 0, 1) := by decide +kernel
theorem dX7_written_32 : decode cX7_written 32 = .ok (.getfield 87, 3) := by decide +kernel
theorem dX7_written_35 : decode cX7_written 35 = .ok (.ifCond .le 5, 3) := by decide +kernel
theorem dX7_written_38 : decode cX7_written 38 = .ok (.iconst 0, 1) := by decide +kernel
theorem dX7_written_39 : decode cX7_written 39 = .ok (.ireturn, 1) := by decide +kernel
theorem dX7_written_40 : decode cX7_written 40 = .ok (.aload_n 0, 1) := by decide +kernel
theorem dX7_written_41 : decode cX7_written 41 = .ok (.iload_n 1, 1) := by decide +kernel
theorem dX7_written_42 : decode cX7_written 42 = .ok (.iload_n 2, 1) := by decide +kernel
theorem dX7_written_43 : decode cX7_written 43 = .ok (.invokevirtual 265, 3) := by decide +kernel
theorem dX7_written_46 : decode cX7_written 46 = .ok (.aload_n 0, 1) := by decide +kernel
theorem dX7_written_47 : decode cX7_written 47 = .ok (.getfield 236, 3) := by decide +kernel
theorem dX7_written_50 : decode cX7_written 50 = .ok (.ireturn, 1) := by decide +kernel
theorem dX7_writtenChar_0 : decode cX7_writtenChar 0 = .ok (.aload_n 0, 1) := by decide +kernel
theorem dX7_writtenChar_1 : decode cX7_writtenChar 1 = .ok (.iload_n 1, 1) := by decide +kernel
theorem dX7_writtenChar_2 : decode cX7_writtenChar 2 = .ok (.iconst 0, 1) := by decide +kernel
theorem dX7_writtenChar_3 : decode cX7_writtenChar 3 = .ok (.iconst 1, 1) := by decide +kernel
theorem dX7_writtenChar_4 : decode cX7_writtenChar 4 = .ok (.invokestatic 93, 3) := by decide +kernel
theorem dX7_writtenChar_7 : decode cX7_writtenChar 7 = .ok (.ifCond .ne 7, 3) := by decide +kernel
theorem dX7_writtenChar_10 : decode cX7_writtenChar 10 = .ok (.iconst 1, 1) := by decide +kernel
theorem dX7_writtenChar_11 : decode cX7_writtenChar 11 = .ok (.goto 17, 3) := by decide +kernel
theorem dX7_writtenChar_14 : decode cX7_writtenChar 14 = .ok (.iload_n 2, 1) := by decide +kernel
theorem dX7_writtenChar_15 : decode cX7_writtenChar 15 = .ok (.iconst 0, 1) := by decide +kernel
theorem dX7_writtenChar_16 : decode cX7_writtenChar 16 = .ok (.iconst 2, 1) := by decide +kernel
theorem dX7_writtenChar_17 : decode cX7_writtenChar 17 = .ok (.invokestatic 93, 3) := by decide +kernel
theorem dX7_writtenChar_20 : decode cX7_writtenChar 20 = .ok (.ifCond .eq 7, 3) := by decide +kernel
theorem dX7_writtenChar_23 : decode cX7_writtenChar 23 = .ok (.iconst 0, 1) := by decide +kernel
theorem dX7_writtenChar_24 : decode cX7_writtenChar 24 = .ok (.goto 4, 3) := by decide +kernel
theorem dX7_writtenChar_27 : decode cX7_writtenChar 27 = .ok (.iconst 2, 1) := by decide +kernel
theorem dX7_writtenChar_28 : decode cX7_writtenChar 28 = .ok (.putfield 87, 3) := by decide +kernel
theorem dX7_writtenChar_31 : decode cX7_writtenChar 31 = .ok (.aload_n 0, 1) := by decide +kernel
theorem dX7_writtenChar_32 : decode cX7_writtenChar 32 = .ok (.getfield 87, 3) := by decide +kernel
theorem dX7_writtenChar_35 : decode cX7_writtenChar 35 = .ok (.ifCond .ne 32, 3) := by decide +kernel
theorem dX7_writtenChar_38 : decode cX7_writtenChar 38 = .ok (.aload_n 0, 1) := by decide +kernel
theorem dX7_writtenChar_39 : decode cX7_writtenChar 39 = .ok (.iload_n 1, 1) := by decide +kernel
theorem dX7_writtenChar_40 : decode cX7_writtenChar 40 = .ok (.iload_n 2, 1) := by decide +kernel
theorem dX7_writtenChar_41 : decode cX7_writtenChar 41 = .ok (.invokevirtual 265, 3) := by decide +kernel
theorem dX7_writtenChar_44 : decode cX7_writtenChar 44 = .ok (.aload_n 0, 1) := by decide +kernel
theorem dX7_writtenChar_45 : decode cX7_writtenChar 45 = .ok (.iload_n 3, 1) := by decide +kernel
theorem dX7_writtenChar_46 : decode cX7_writtenChar 46 = .ok (.iconst 0, 1) := by decide +kernel
theorem dX7_writtenChar_47 : decode cX7_writtenChar 47 = .ok (.aload_n 0, 1) := by decide +kernel
theorem dX7_writtenChar_48 : decode cX7_writtenChar 48 = .ok (.getfield 236, 3) := by decide +kernel
theorem dX7_writtenChar_51 : decode cX7_writtenChar 51 = .ok (.iconst 1, 1) := by decide +kernel
theorem dX7_writtenChar_52 : decode cX7_writtenChar 52 = .ok (.isub, 1) := by decide +kernel
theorem dX7_writtenChar_53 : decode cX7_writtenChar 53 = .ok (.invokestatic 93, 3) := by decide +kernel
theorem dX7_writtenChar_56 : decode cX7_writtenChar 56 = .ok (.ifCond .eq 7, 3) := by decide +kernel
theorem dX7_writtenChar_59 : decode cX7_writtenChar 59 = .ok (.iconst 0, 1) := by decide +kernel
theorem dX7_writtenChar_60 : decode cX7_writtenChar 60 = .ok (.goto 4, 3) := by decide +kernel
theorem dX7_writtenChar_63 : decode cX7_writtenChar 63 = .ok (.iconst 2, 1) := by decide +kernel
theorem dX7_writtenChar_64 : decode cX7_writtenChar 64 = .ok (.putfield 87, 3) := by decide +kernel
theorem dX7_writtenChar_67 : decode cX7_writtenChar 67 = .ok (.aload_n 0, 1) := by decide +kernel
theorem dX7_writtenChar_68 : decode cX7_writtenChar 68 = .ok (.getfield 87, 3) := by decide +kernel
theorem dX7_writtenChar_71 : decode cX7_writtenChar 71 = .ok (.ifCond .le 8, 3) := by decide +kernel
theorem dX7_writtenChar_74 : decode cX7_writtenChar 74 = .ok (.bipush 32, 2) := by decide +kernel
theorem dX7_writtenChar_76 : decode cX7_writtenChar 76 = .ok (.goto 9, 3) := by decide +kernel
theorem dX7_writtenChar_79 : decode cX7_writtenChar 79 = .ok (.aload_n 0, 1) := by decide +kernel
theorem dX7_writtenChar_80 : decode cX7_writtenChar 80 = .ok (.getfield 83, 3) := by decide +kernel
theorem dX7_writtenChar_83 : decode cX7_writtenChar 83 = .ok (.iload_n 3, 1) := by decide +kernel
theorem dX7_writtenChar_84 : decode cX7_writtenChar 84 = .ok (.caload, 1) := by decide +kernel
theorem dX7_writtenChar_85 : decode cX7_writtenChar 85 = .ok (.ireturn, 1) := by decide +kernel
