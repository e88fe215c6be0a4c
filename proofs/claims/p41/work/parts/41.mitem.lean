theorem dX9_wayItem_0 : decode cX9_wayItem 0 = .ok (.aload_n 0, 1) := by decide +kernel
theorem dX9_wayItem_1 : decode cX9_wayItem 1 = .ok (.iconst 1, 1) := by decide +kernel
theorem dX9_wayItem_2 : decode cX9_wayItem 2 = .ok (.invokevirtual 278, 3) := by decide +kernel
theorem dX9_wayItem_5 : decode cX9_wayItem 5 = .ok (.aload_n 0, 1) := by decide +kernel
theorem dX9_wayItem_6 : decode cX9_wayItem 6 = .ok (.iconst 0, 1) := by decide +kernel
theorem dX9_wayItem_7 : decode cX9_wayItem 7 = .ok (.aload_n 0, 1) := by decide +kernel
theorem dX9_wayItem_8 : decode cX9_wayItem 8 = .ok (.getfield 7, 3) := by decide +kernel
theorem dX9_wayItem_11 : decode cX9_wayItem 11 = .ok (.iconst 0, 1) := by decide +kernel
theorem dX9_wayItem_12 : decode cX9_wayItem 12 = .ok (.iaload, 1) := by decide +kernel
theorem dX9_wayItem_13 : decode cX9_wayItem 13 = .ok (.iconst 1, 1) := by decide +kernel
theorem dX9_wayItem_14 : decode cX9_wayItem 14 = .ok (.isub, 1) := by decide +kernel
theorem dX9_wayItem_15 : decode cX9_wayItem 15 = .ok (.invokevirtual 282, 3) := by decide +kernel
theorem dX9_wayItem_18 : decode cX9_wayItem 18 = .ok (.aload_n 0, 1) := by decide +kernel
theorem dX9_wayItem_19 : decode cX9_wayItem 19 = .ok (.getfield 275, 3) := by decide +kernel
theorem dX9_wayItem_22 : decode cX9_wayItem 22 = .ok (.istore_n 1, 1) := by decide +kernel
theorem dX9_wayItem_23 : decode cX9_wayItem 23 = .ok (.aload_n 0, 1) := by decide +kernel
theorem dX9_wayItem_24 : decode cX9_wayItem 24 = .ok (.invokevirtual 284, 3) := by decide +kernel
theorem dX9_wayItem_27 : decode cX9_wayItem 27 = .ok (.istore_n 2, 1) := by decide +kernel
theorem dX9_wayItem_28 : decode cX9_wayItem 28 = .ok (.aload_n 0, 1) := by decide +kernel
theorem dX9_wayItem_29 : decode cX9_wayItem 29 = .ok (.aload_n 0, 1) := by decide +kernel
theorem dX9_wayItem_30 : decode cX9_wayItem 30 = .ok (.iload_n 2, 1) := by decide +kernel
theorem dX9_wayItem_31 : decode cX9_wayItem 31 = .ok (.invokevirtual 61, 3) := by decide +kernel
theorem dX9_wayItem_34 : decode cX9_wayItem 34 = .ok (.ifCond .eq 12, 3) := by decide +kernel
theorem dX9_wayItem_37 : decode cX9_wayItem 37 = .ok (.iload_n 2, 1) := by decide +kernel
theorem dX9_wayItem_38 : decode cX9_wayItem 38 = .ok (.iload_n 1, 1) := by decide +kernel
theorem dX9_wayItem_39 : decode cX9_wayItem 39 = .ok (.if_icmp .eq 7, 3) := by decide +kernel
theorem dX9_wayItem_42 : decode cX9_wayItem 42 = .ok (.iconst 1, 1) := by decide +kernel
theorem dX9_wayItem_43 : decode cX9_wayItem 43 = .ok (.goto 4, 3) := by decide +kernel
theorem dX9_wayItem_46 : decode cX9_wayItem 46 = .ok (.iconst 0, 1) := by decide +kernel
theorem dX9_wayItem_47 : decode cX9_wayItem 47 = .ok (.invokevirtual 278, 3) := by decide +kernel
theorem dX9_wayItem_50 : decode cX9_wayItem 50 = .ok (.aload_n 0, 1) := by decide +kernel
theorem dX9_wayItem_51 : decode cX9_wayItem 51 = .ok (.bipush (-99), 2) := by decide +kernel
theorem dX9_wayItem_53 : decode cX9_wayItem 53 = .ok (.sipush 999, 3) := by decide +kernel
theorem dX9_wayItem_56 : decode cX9_wayItem 56 = .ok (.invokevirtual 287, 3) := by decide +kernel
theorem dX9_wayItem_59 : decode cX9_wayItem 59 = .ok (.aload_n 0, 1) := by decide +kernel
theorem dX9_wayItem_60 : decode cX9_wayItem 60 = .ok (.getfield 275, 3) := by decide +kernel
theorem dX9_wayItem_63 : decode cX9_wayItem 63 = .ok (.istore_n 3, 1) := by decide +kernel
theorem dX9_wayItem_64 : decode cX9_wayItem 64 = .ok (.aload_n 0, 1) := by decide +kernel
theorem dX9_wayItem_65 : decode cX9_wayItem 65 = .ok (.getfield 275, 3) := by decide +kernel
theorem dX9_wayItem_68 : decode cX9_wayItem 68 = .ok (.istore 4, 2) := by decide +kernel
theorem dX9_wayItem_70 : decode cX9_wayItem 70 = .ok (.aload_n 0, 1) := by decide +kernel
theorem dX9_wayItem_71 : decode cX9_wayItem 71 = .ok (.bipush 116, 2) := by decide +kernel
theorem dX9_wayItem_73 : decode cX9_wayItem 73 = .ok (.bipush 111, 2) := by decide +kernel
theorem dX9_wayItem_75 : decode cX9_wayItem 75 = .ok (.iconst 0, 1) := by decide +kernel
theorem dX9_wayItem_76 : decode cX9_wayItem 76 = .ok (.iconst 0, 1) := by decide +kernel
theorem dX9_wayItem_77 : decode cX9_wayItem 77 = .ok (.iconst 0, 1) := by decide +kernel
theorem dX9_wayItem_78 : decode cX9_wayItem 78 = .ok (.iconst 0, 1) := by decide +kernel
theorem dX9_wayItem_79 : decode cX9_wayItem 79 = .ok (.iconst 0, 1) := by decide +kernel
theorem dX9_wayItem_80 : decode cX9_wayItem 80 = .ok (.invokevirtual 290, 3) := by decide +kernel
theorem dX9_wayItem_83 : decode cX9_wayItem 83 = .ok (.ifCond .eq 22, 3) := by decide +kernel
theorem dX9_wayItem_86 : decode cX9_wayItem 86 = .ok (.aload_n 0, 1) := by decide +kernel
theorem dX9_wayItem_87 : decode cX9_wayItem 87 = .ok (.iconst 1, 1) := by decide +kernel
theorem dX9_wayItem_88 : decode cX9_wayItem 88 = .ok (.invokevirtual 278, 3) := by decide +kernel
theorem dX9_wayItem_91 : decode cX9_wayItem 91 = .ok (.aload_n 0, 1) := by decide +kernel
theorem dX9_wayItem_92 : decode cX9_wayItem 92 = .ok (.iload_n 3, 1) := by decide +kernel
theorem dX9_wayItem_93 : decode cX9_wayItem 93 = .ok (.sipush 999, 3) := by decide +kernel
theorem dX9_wayItem_96 : decode cX9_wayItem 96 = .ok (.invokevirtual 287, 3) := by decide +kernel
theorem dX9_wayItem_99 : decode cX9_wayItem 99 = .ok (.aload_n 0, 1) := by decide +kernel
theorem dX9_wayItem_100 : decode cX9_wayItem 100 = .ok (.getfield 275, 3) := by decide +kernel
theorem dX9_wayItem_103 : decode cX9_wayItem 103 = .ok (.istore 4, 2) := by decide +kernel
theorem dX9_wayItem_105 : decode cX9_wayItem 105 = .ok (.aload_n 0, 1) := by decide +kernel
theorem dX9_wayItem_106 : decode cX9_wayItem 106 = .ok (.bipush 98, 2) := by decide +kernel
theorem dX9_wayItem_108 : decode cX9_wayItem 108 = .ok (.bipush 97, 2) := by decide +kernel
theorem dX9_wayItem_110 : decode cX9_wayItem 110 = .ok (.bipush 99, 2) := by decide +kernel
theorem dX9_wayItem_112 : decode cX9_wayItem 112 = .ok (.bipush 107, 2) := by decide +kernel
theorem dX9_wayItem_114 : decode cX9_wayItem 114 = .ok (.iconst 0, 1) := by decide +kernel
theorem dX9_wayItem_115 : decode cX9_wayItem 115 = .ok (.iconst 0, 1) := by decide +kernel
theorem dX9_wayItem_116 : decode cX9_wayItem 116 = .ok (.iconst 0, 1) := by decide +kernel
theorem dX9_wayItem_117 : decode cX9_wayItem 117 = .ok (.invokevirtual 290, 3) := by decide +kernel
theorem dX9_wayItem_120 : decode cX9_wayItem 120 = .ok (.istore 5, 2) := by decide +kernel
theorem dX9_wayItem_122 : decode cX9_wayItem 122 = .ok (.iload 5, 2) := by decide +kernel
theorem dX9_wayItem_124 : decode cX9_wayItem 124 = .ok (.ifCond .eq 17, 3) := by decide +kernel
theorem dX9_wayItem_127 : decode cX9_wayItem 127 = .ok (.aload_n 0, 1) := by decide +kernel
theorem dX9_wayItem_128 : decode cX9_wayItem 128 = .ok (.iconst 1, 1) := by decide +kernel
theorem dX9_wayItem_129 : decode cX9_wayItem 129 = .ok (.invokevirtual 278, 3) := by decide +kernel
theorem dX9_wayItem_132 : decode cX9_wayItem 132 = .ok (.aload_n 0, 1) := by decide +kernel
theorem dX9_wayItem_133 : decode cX9_wayItem 133 = .ok (.bipush (-99), 2) := by decide +kernel
theorem dX9_wayItem_135 : decode cX9_wayItem 135 = .ok (.sipush 999, 3) := by decide +kernel
theorem dX9_wayItem_138 : decode cX9_wayItem 138 = .ok (.invokevirtual 287, 3) := by decide +kernel
theorem dX9_wayItem_141 : decode cX9_wayItem 141 = .ok (.aload_n 0, 1) := by decide +kernel
theorem dX9_wayItem_142 : decode cX9_wayItem 142 = .ok (.getfield 266, 3) := by decide +kernel
theorem dX9_wayItem_145 : decode cX9_wayItem 145 = .ok (.ifCond .ne 42, 3) := by decide +kernel
theorem dX9_wayItem_148 : decode cX9_wayItem 148 = .ok (.aload_n 0, 1) := by decide +kernel
theorem dX9_wayItem_149 : decode cX9_wayItem 149 = .ok (.iload_n 1, 1) := by decide +kernel
theorem dX9_wayItem_150 : decode cX9_wayItem 150 = .ok (.iload_n 2, 1) := by decide +kernel
theorem dX9_wayItem_151 : decode cX9_wayItem 151 = .ok (.iload_n 3, 1) := by decide +kernel
theorem dX9_wayItem_152 : decode cX9_wayItem 152 = .ok (.iload 4, 2) := by decide +kernel
theorem dX9_wayItem_154 : decode cX9_wayItem 154 = .ok (.invokevirtual 87, 3) := by decide +kernel
theorem dX9_wayItem_157 : decode cX9_wayItem 157 = .ok (.istore 6, 2) := by decide +kernel
theorem dX9_wayItem_159 : decode cX9_wayItem 159 = .ok (.iload 6, 2) := by decide +kernel
theorem dX9_wayItem_161 : decode cX9_wayItem 161 = .ok (.iload 5, 2) := by decide +kernel
theorem dX9_wayItem_163 : decode cX9_wayItem 163 = .ok (.ifCond .eq 20, 3) := by decide +kernel
theorem dX9_wayItem_166 : decode cX9_wayItem 166 = .ok (.aload_n 0, 1) := by decide +kernel
theorem dX9_wayItem_167 : decode cX9_wayItem 167 = .ok (.iload_n 2, 1) := by decide +kernel
theorem dX9_wayItem_168 : decode cX9_wayItem 168 = .ok (.iload_n 1, 1) := by decide +kernel
theorem dX9_wayItem_169 : decode cX9_wayItem 169 = .ok (.aload_n 0, 1) := by decide +kernel
theorem dX9_wayItem_170 : decode cX9_wayItem 170 = .ok (.getfield 275, 3) := by decide +kernel
theorem dX9_wayItem_173 : decode cX9_wayItem 173 = .ok (.aload_n 0, 1) := by decide +kernel
theorem dX9_wayItem_174 : decode cX9_wayItem 174 = .ok (.getfield 275, 3) := by decide +kernel
theorem dX9_wayItem_177 : decode cX9_wayItem 177 = .ok (.invokevirtual 87, 3) := by decide +kernel
theorem dX9_wayItem_180 : decode cX9_wayItem 180 = .ok (.goto 4, 3) := by decide +kernel
theorem dX9_wayItem_183 : decode cX9_wayItem 183 = .ok (.iconst 0, 1) := by decide +kernel
theorem dX9_wayItem_184 : decode cX9_wayItem 184 = .ok (.iadd, 1) := by decide +kernel
theorem dX9_wayItem_185 : decode cX9_wayItem 185 = .ok (.istore 6, 2) := by decide +kernel
theorem dX9_wayItem_187 : decode cX9_wayItem 187 = .ok (.return_, 1) := by decide +kernel
theorem dX9_walkItem_0 : decode cX9_walkItem 0 = .ok (.aload_n 0, 1) := by decide +kernel
theorem dX9_walkItem_1 : decode cX9_walkItem 1 = .ok (.aload_n 0, 1) := by decide +kernel
theorem dX9_walkItem_2 : decode cX9_walkItem 2 = .ok (.getfield 7, 3) := by decide +kernel
theorem dX9_walkItem_5 : decode cX9_walkItem 5 = .ok (.iconst 2, 1) := by decide +kernel
theorem dX9_walkItem_6 : decode cX9_walkItem 6 = .ok (.iaload, 1) := by decide +kernel
theorem dX9_walkItem_7 : decode cX9_walkItem 7 = .ok (.bipush 8, 2) := by decide +kernel
theorem dX9_walkItem_9 : decode cX9_walkItem 9 = .ok (.if_icmp .ge 7, 3) := by decide +kernel
theorem dX9_walkItem_12 : decode cX9_walkItem 12 = .ok (.iconst 1, 1) := by decide +kernel
theorem dX9_walkItem_13 : decode cX9_walkItem 13 = .ok (.goto 4, 3) := by decide +kernel
theorem dX9_walkItem_16 : decode cX9_walkItem 16 = .ok (.iconst 0, 1) := by decide +kernel
theorem dX9_walkItem_17 : decode cX9_walkItem 17 = .ok (.invokevirtual 278, 3) := by decide +kernel
theorem dX9_walkItem_20 : decode cX9_walkItem 20 = .ok (.iconst 0, 1) := by decide +kernel
theorem dX9_walkItem_21 : decode cX9_walkItem 21 = .ok (.istore_n 1, 1) := by decide +kernel
theorem dX9_walkItem_22 : decode cX9_walkItem 22 = .ok (.aload_n 0, 1) := by decide +kernel
theorem dX9_walkItem_23 : decode cX9_walkItem 23 = .ok (.getfield 266, 3) := by decide +kernel
theorem dX9_walkItem_26 : decode cX9_walkItem 26 = .ok (.ifCond .ne 79, 3) := by decide +kernel
theorem dX9_walkItem_29 : decode cX9_walkItem 29 = .ok (.iload_n 1, 1) := by decide +kernel
theorem dX9_walkItem_30 : decode cX9_walkItem 30 = .ok (.bipush 6, 2) := by decide +kernel
theorem dX9_walkItem_32 : decode cX9_walkItem 32 = .ok (.if_icmp .ge 73, 3) := by decide +kernel
theorem dX9_walkItem_35 : decode cX9_walkItem 35 = .ok (.iload_n 1, 1) := by decide +kernel
theorem dX9_walkItem_36 : decode cX9_walkItem 36 = .ok (.iconst 2, 1) := by decide +kernel
theorem dX9_walkItem_37 : decode cX9_walkItem 37 = .ok (.if_icmp .lt 17, 3) := by decide +kernel
theorem dX9_walkItem_40 : decode cX9_walkItem 40 = .ok (.aload_n 0, 1) := by decide +kernel
theorem dX9_walkItem_41 : decode cX9_walkItem 41 = .ok (.aload_n 0, 1) := by decide +kernel
theorem dX9_walkItem_42 : decode cX9_walkItem 42 = .ok (.getfield 254, 3) := by decide +kernel
theorem dX9_walkItem_45 : decode cX9_walkItem 45 = .ok (.invokevirtual 257, 3) := by decide +kernel
theorem dX9_walkItem_48 : decode cX9_walkItem 48 = .ok (.invokestatic 263, 3) := by decide +kernel
theorem dX9_walkItem_51 : decode cX9_walkItem 51 = .ok (.ifCond .eq 54, 3) := by decide +kernel
theorem dX9_walkItem_54 : decode cX9_walkItem 54 = .ok (.aload_n 0, 1) := by decide +kernel
theorem dX9_walkItem_55 : decode cX9_walkItem 55 = .ok (.invokevirtual 284, 3) := by decide +kernel
theorem dX9_walkItem_58 : decode cX9_walkItem 58 = .ok (.istore_n 2, 1) := by decide +kernel
theorem dX9_walkItem_59 : decode cX9_walkItem 59 = .ok (.aload_n 0, 1) := by decide +kernel
theorem dX9_walkItem_60 : decode cX9_walkItem 60 = .ok (.aload_n 0, 1) := by decide +kernel
theorem dX9_walkItem_61 : decode cX9_walkItem 61 = .ok (.iload_n 2, 1) := by decide +kernel
theorem dX9_walkItem_62 : decode cX9_walkItem 62 = .ok (.invokevirtual 61, 3) := by decide +kernel
theorem dX9_walkItem_65 : decode cX9_walkItem 65 = .ok (.ifCond .eq 23, 3) := by decide +kernel
theorem dX9_walkItem_68 : decode cX9_walkItem 68 = .ok (.iload_n 1, 1) := by decide +kernel
theorem dX9_walkItem_69 : decode cX9_walkItem 69 = .ok (.ifCond .eq 15, 3) := by decide +kernel
theorem dX9_walkItem_72 : decode cX9_walkItem 72 = .ok (.iload_n 2, 1) := by decide +kernel
theorem dX9_walkItem_73 : decode cX9_walkItem 73 = .ok (.aload_n 0, 1) := by decide +kernel
theorem dX9_walkItem_74 : decode cX9_walkItem 74 = .ok (.getfield 40, 3) := by decide +kernel
theorem dX9_walkItem_77 : decode cX9_walkItem 77 = .ok (.iload_n 1, 1) := by decide +kernel
theorem dX9_walkItem_78 : decode cX9_walkItem 78 = .ok (.iconst 1, 1) := by decide +kernel
theorem dX9_walkItem_79 : decode cX9_walkItem 79 = .ok (.isub, 1) := by decide +kernel
theorem dX9_walkItem_80 : decode cX9_walkItem 80 = .ok (.iaload, 1) := by decide +kernel
theorem dX9_walkItem_81 : decode cX9_walkItem 81 = .ok (.if_icmp .eq 7, 3) := by decide +kernel
theorem dX9_walkItem_84 : decode cX9_walkItem 84 = .ok (.iconst 1, 1) := by decide +kernel
theorem dX9_walkItem_85 : decode cX9_walkItem 85 = .ok (.goto 4, 3) := by decide +kernel
theorem dX9_walkItem_88 : decode cX9_walkItem 88 = .ok (.iconst 0, 1) := by decide +kernel
theorem dX9_walkItem_89 : decode cX9_walkItem 89 = .ok (.invokevirtual 278, 3) := by decide +kernel
theorem dX9_walkItem_92 : decode cX9_walkItem 92 = .ok (.aload_n 0, 1) := by decide +kernel
theorem dX9_walkItem_93 : decode cX9_walkItem 93 = .ok (.getfield 40, 3) := by decide +kernel
theorem dX9_walkItem_96 : decode cX9_walkItem 96 = .ok (.iload_n 1, 1) := by decide +kernel
theorem dX9_walkItem_97 : decode cX9_walkItem 97 = .ok (.iload_n 2, 1) := by decide +kernel
theorem dX9_walkItem_98 : decode cX9_walkItem 98 = .ok (.iastore, 1) := by decide +kernel
theorem dX9_walkItem_99 : decode cX9_walkItem 99 = .ok (.iinc 1 1, 3) := by decide +kernel
theorem dX9_walkItem_102 : decode cX9_walkItem 102 = .ok (.goto (-80), 3) := by decide +kernel
theorem dX9_walkItem_105 : decode cX9_walkItem 105 = .ok (.aload_n 0, 1) := by decide +kernel
theorem dX9_walkItem_106 : decode cX9_walkItem 106 = .ok (.aload_n 0, 1) := by decide +kernel
theorem dX9_walkItem_107 : decode cX9_walkItem 107 = .ok (.bipush 97, 2) := by decide +kernel
theorem dX9_walkItem_109 : decode cX9_walkItem 109 = .ok (.bipush 108, 2) := by decide +kernel
theorem dX9_walkItem_111 : decode cX9_walkItem 111 = .ok (.bipush 108, 2) := by decide +kernel
theorem dX9_walkItem_113 : decode cX9_walkItem 113 = .ok (.iconst 0, 1) := by decide +kernel
theorem dX9_walkItem_114 : decode cX9_walkItem 114 = .ok (.iconst 0, 1) := by decide +kernel
theorem dX9_walkItem_115 : decode cX9_walkItem 115 = .ok (.iconst 0, 1) := by decide +kernel
theorem dX9_walkItem_116 : decode cX9_walkItem 116 = .ok (.iconst 0, 1) := by decide +kernel
theorem dX9_walkItem_117 : decode cX9_walkItem 117 = .ok (.invokevirtual 290, 3) := by decide +kernel
theorem dX9_walkItem_120 : decode cX9_walkItem 120 = .ok (.invokevirtual 278, 3) := by decide +kernel
theorem dX9_walkItem_123 : decode cX9_walkItem 123 = .ok (.aload_n 0, 1) := by decide +kernel
theorem dX9_walkItem_124 : decode cX9_walkItem 124 = .ok (.sipush (-9999), 3) := by decide +kernel
theorem dX9_walkItem_127 : decode cX9_walkItem 127 = .ok (.sipush 9999, 3) := by decide +kernel
theorem dX9_walkItem_130 : decode cX9_walkItem 130 = .ok (.invokevirtual 287, 3) := by decide +kernel
theorem dX9_walkItem_133 : decode cX9_walkItem 133 = .ok (.aload_n 0, 1) := by decide +kernel
theorem dX9_walkItem_134 : decode cX9_walkItem 134 = .ok (.getfield 275, 3) := by decide +kernel
theorem dX9_walkItem_137 : decode cX9_walkItem 137 = .ok (.istore_n 2, 1) := by decide +kernel
theorem dX9_walkItem_138 : decode cX9_walkItem 138 = .ok (.iconst 0, 1) := by decide +kernel
theorem dX9_walkItem_139 : decode cX9_walkItem 139 = .ok (.istore_n 3, 1) := by decide +kernel
theorem dX9_walkItem_140 : decode cX9_walkItem 140 = .ok (.aload_n 0, 1) := by decide +kernel
theorem dX9_walkItem_141 : decode cX9_walkItem 141 = .ok (.bipush 115, 2) := by decide +kernel
theorem dX9_walkItem_143 : decode cX9_walkItem 143 = .ok (.bipush 108, 2) := by decide +kernel
theorem dX9_walkItem_145 : decode cX9_walkItem 145 = .ok (.bipush 97, 2) := by decide +kernel
theorem dX9_walkItem_147 : decode cX9_walkItem 147 = .ok (.bipush 99, 2) := by decide +kernel
theorem dX9_walkItem_149 : decode cX9_walkItem 149 = .ok (.bipush 107, 2) := by decide +kernel
theorem dX9_walkItem_151 : decode cX9_walkItem 151 = .ok (.iconst 0, 1) := by decide +kernel
theorem dX9_walkItem_152 : decode cX9_walkItem 152 = .ok (.iconst 0, 1) := by decide +kernel
theorem dX9_walkItem_153 : decode cX9_walkItem 153 = .ok (.invokevirtual 290, 3) := by decide +kernel
theorem dX9_walkItem_156 : decode cX9_walkItem 156 = .ok (.ifCond .eq 20, 3) := by decide +kernel
theorem dX9_walkItem_159 : decode cX9_walkItem 159 = .ok (.aload_n 0, 1) := by decide +kernel
theorem dX9_walkItem_160 : decode cX9_walkItem 160 = .ok (.iconst 1, 1) := by decide +kernel
theorem dX9_walkItem_161 : decode cX9_walkItem 161 = .ok (.invokevirtual 278, 3) := by decide +kernel
theorem dX9_walkItem_164 : decode cX9_walkItem 164 = .ok (.aload_n 0, 1) := by decide +kernel
theorem dX9_walkItem_165 : decode cX9_walkItem 165 = .ok (.iconst 0, 1) := by decide +kernel
theorem dX9_walkItem_166 : decode cX9_walkItem 166 = .ok (.bipush 99, 2) := by decide +kernel
theorem dX9_walkItem_168 : decode cX9_walkItem 168 = .ok (.invokevirtual 282, 3) := by decide +kernel
theorem dX9_walkItem_171 : decode cX9_walkItem 171 = .ok (.aload_n 0, 1) := by decide +kernel
theorem dX9_walkItem_172 : decode cX9_walkItem 172 = .ok (.getfield 275, 3) := by decide +kernel
theorem dX9_walkItem_175 : decode cX9_walkItem 175 = .ok (.istore_n 3, 1) := by decide +kernel
theorem dX9_walkItem_176 : decode cX9_walkItem 176 = .ok (.aload_n 0, 1) := by decide +kernel
theorem dX9_walkItem_177 : decode cX9_walkItem 177 = .ok (.getfield 266, 3) := by decide +kernel
theorem dX9_walkItem_180 : decode cX9_walkItem 180 = .ok (.ifCond .ne 72, 3) := by decide +kernel
theorem dX9_walkItem_183 : decode cX9_walkItem 183 = .ok (.sipush 377, 3) := by decide +kernel
theorem dX9_walkItem_186 : decode cX9_walkItem 186 = .ok (.bipush 9, 2) := by decide +kernel
theorem dX9_walkItem_188 : decode cX9_walkItem 188 = .ok (.aload_n 0, 1) := by decide +kernel
theorem dX9_walkItem_189 : decode cX9_walkItem 189 = .ok (.aload_n 0, 1) := by decide +kernel
theorem dX9_walkItem_190 : decode cX9_walkItem 190 = .ok (.getfield 40, 3) := by decide +kernel
theorem dX9_walkItem_193 : decode cX9_walkItem 193 = .ok (.iconst 0, 1) := by decide +kernel
theorem dX9_walkItem_194 : decode cX9_walkItem 194 = .ok (.iaload, 1) := by decide +kernel
theorem dX9_walkItem_195 : decode cX9_walkItem 195 = .ok (.aload_n 0, 1) := by decide +kernel
theorem dX9_walkItem_196 : decode cX9_walkItem 196 = .ok (.getfield 40, 3) := by decide +kernel
theorem dX9_walkItem_199 : decode cX9_walkItem 199 = .ok (.iconst 1, 1) := by decide +kernel
theorem dX9_walkItem_200 : decode cX9_walkItem 200 = .ok (.iaload, 1) := by decide +kernel
theorem dX9_walkItem_201 : decode cX9_walkItem 201 = .ok (.iload_n 2, 1) := by decide +kernel
theorem dX9_walkItem_202 : decode cX9_walkItem 202 = .ok (.iload_n 3, 1) := by decide +kernel
theorem dX9_walkItem_203 : decode cX9_walkItem 203 = .ok (.invokevirtual 196, 3) := by decide +kernel
theorem dX9_walkItem_206 : decode cX9_walkItem 206 = .ok (.imul, 1) := by decide +kernel
theorem dX9_walkItem_207 : decode cX9_walkItem 207 = .ok (.iadd, 1) := by decide +kernel
theorem dX9_walkItem_208 : decode cX9_walkItem 208 = .ok (.istore 4, 2) := by decide +kernel
theorem dX9_walkItem_210 : decode cX9_walkItem 210 = .ok (.aload_n 0, 1) := by decide +kernel
theorem dX9_walkItem_211 : decode cX9_walkItem 211 = .ok (.getfield 7, 3) := by decide +kernel
theorem dX9_walkItem_214 : decode cX9_walkItem 214 = .ok (.iload 4, 2) := by decide +kernel
theorem dX9_walkItem_216 : decode cX9_walkItem 216 = .ok (.iload_n 1, 1) := by decide +kernel
theorem dX9_walkItem_217 : decode cX9_walkItem 217 = .ok (.iastore, 1) := by decide +kernel
theorem dX9_walkItem_218 : decode cX9_walkItem 218 = .ok (.iconst 2, 1) := by decide +kernel
theorem dX9_walkItem_219 : decode cX9_walkItem 219 = .ok (.istore 5, 2) := by decide +kernel
theorem dX9_walkItem_221 : decode cX9_walkItem 221 = .ok (.iload 5, 2) := by decide +kernel
theorem dX9_walkItem_223 : decode cX9_walkItem 223 = .ok (.iload_n 1, 1) := by decide +kernel
theorem dX9_walkItem_224 : decode cX9_walkItem 224 = .ok (.if_icmp .ge 28, 3) := by decide +kernel
theorem dX9_walkItem_227 : decode cX9_walkItem 227 = .ok (.aload_n 0, 1) := by decide +kernel
theorem dX9_walkItem_228 : decode cX9_walkItem 228 = .ok (.getfield 7, 3) := by decide +kernel
theorem dX9_walkItem_231 : decode cX9_walkItem 231 = .ok (.iload 4, 2) := by decide +kernel
theorem dX9_walkItem_233 : decode cX9_walkItem 233 = .ok (.iconst 3, 1) := by decide +kernel
theorem dX9_walkItem_234 : decode cX9_walkItem 234 = .ok (.iadd, 1) := by decide +kernel
theorem dX9_walkItem_235 : decode cX9_walkItem 235 = .ok (.iload 5, 2) := by decide +kernel
theorem dX9_walkItem_237 : decode cX9_walkItem 237 = .ok (.iadd, 1) := by decide +kernel
theorem dX9_walkItem_238 : decode cX9_walkItem 238 = .ok (.aload_n 0, 1) := by decide +kernel
theorem dX9_walkItem_239 : decode cX9_walkItem 239 = .ok (.getfield 40, 3) := by decide +kernel
theorem dX9_walkItem_242 : decode cX9_walkItem 242 = .ok (.iload 5, 2) := by decide +kernel
theorem dX9_walkItem_244 : decode cX9_walkItem 244 = .ok (.iaload, 1) := by decide +kernel
theorem dX9_walkItem_245 : decode cX9_walkItem 245 = .ok (.iastore, 1) := by decide +kernel
theorem dX9_walkItem_246 : decode cX9_walkItem 246 = .ok (.iinc 5 1, 3) := by decide +kernel
theorem dX9_walkItem_249 : decode cX9_walkItem 249 = .ok (.goto (-28), 3) := by decide +kernel
theorem dX9_walkItem_252 : decode cX9_walkItem 252 = .ok (.return_, 1) := by decide +kernel
theorem dX9_item_0 : decode cX9_item 0 = .ok (.aload_n 0, 1) := by decide +kernel
theorem dX9_item_1 : decode cX9_item 1 = .ok (.bipush 119, 2) := by decide +kernel
theorem dX9_item_3 : decode cX9_item 3 = .ok (.bipush 97, 2) := by decide +kernel
theorem dX9_item_5 : decode cX9_item 5 = .ok (.bipush 121, 2) := by decide +kernel
theorem dX9_item_7 : decode cX9_item 7 = .ok (.iconst 0, 1) := by decide +kernel
theorem dX9_item_8 : decode cX9_item 8 = .ok (.iconst 0, 1) := by decide +kernel
theorem dX9_item_9 : decode cX9_item 9 = .ok (.iconst 0, 1) := by decide +kernel
theorem dX9_item_10 : decode cX9_item 10 = .ok (.iconst 0, 1) := by decide +kernel
theorem dX9_item_11 : decode cX9_item 11 = .ok (.invokevirtual 290, 3) := by decide +kernel
theorem dX9_item_14 : decode cX9_item 14 = .ok (.ifCond .eq 10, 3) := by decide +kernel
theorem dX9_item_17 : decode cX9_item 17 = .ok (.aload_n 0, 1) := by decide +kernel
theorem dX9_item_18 : decode cX9_item 18 = .ok (.invokevirtual 294, 3) := by decide +kernel
theorem dX9_item_21 : decode cX9_item 21 = .ok (.goto 135, 3) := by decide +kernel
theorem dX9_item_24 : decode cX9_item 24 = .ok (.aload_n 0, 1) := by decide +kernel
theorem dX9_item_25 : decode cX9_item 25 = .ok (.bipush 119, 2) := by decide +kernel
theorem dX9_item_27 : decode cX9_item 27 = .ok (.bipush 97, 2) := by decide +kernel
theorem dX9_item_29 : decode cX9_item 29 = .ok (.bipush 108, 2) := by decide +kernel
theorem dX9_item_31 : decode cX9_item 31 = .ok (.bipush 107, 2) := by decide +kernel
theorem dX9_item_33 : decode cX9_item 33 = .ok (.iconst 0, 1) := by decide +kernel
theorem dX9_item_34 : decode cX9_item 34 = .ok (.iconst 0, 1) := by decide +kernel
theorem dX9_item_35 : decode cX9_item 35 = .ok (.iconst 0, 1) := by decide +kernel
theorem dX9_item_36 : decode cX9_item 36 = .ok (.invokevirtual 290, 3) := by decide +kernel
theorem dX9_item_39 : decode cX9_item 39 = .ok (.ifCond .eq 10, 3) := by decide +kernel
theorem dX9_item_42 : decode cX9_item 42 = .ok (.aload_n 0, 1) := by decide +kernel
theorem dX9_item_43 : decode cX9_item 43 = .ok (.invokevirtual 297, 3) := by decide +kernel
theorem dX9_item_46 : decode cX9_item 46 = .ok (.goto 110, 3) := by decide +kernel
theorem dX9_item_49 : decode cX9_item 49 = .ok (.aload_n 0, 1) := by decide +kernel
theorem dX9_item_50 : decode cX9_item 50 = .ok (.aload_n 0, 1) := by decide +kernel
theorem dX9_item_51 : decode cX9_item 51 = .ok (.bipush 112, 2) := by decide +kernel
theorem dX9_item_53 : decode cX9_item 53 = .ok (.bipush 108, 2) := by decide +kernel
theorem dX9_item_55 : decode cX9_item 55 = .ok (.bipush 97, 2) := by decide +kernel
theorem dX9_item_57 : decode cX9_item 57 = .ok (.bipush 99, 2) := by decide +kernel
theorem dX9_item_59 : decode cX9_item 59 = .ok (.bipush 101, 2) := by decide +kernel
theorem dX9_item_61 : decode cX9_item 61 = .ok (.iconst 0, 1) := by decide +kernel
theorem dX9_item_62 : decode cX9_item 62 = .ok (.iconst 0, 1) := by decide +kernel
theorem dX9_item_63 : decode cX9_item 63 = .ok (.invokevirtual 290, 3) := by decide +kernel
theorem dX9_item_66 : decode cX9_item 66 = .ok (.ifCond .eq 18, 3) := by decide +kernel
theorem dX9_item_69 : decode cX9_item 69 = .ok (.aload_n 0, 1) := by decide +kernel
theorem dX9_item_70 : decode cX9_item 70 = .ok (.getfield 7, 3) := by decide +kernel
theorem dX9_item_73 : decode cX9_item 73 = .ok (.iconst 0, 1) := by decide +kernel
theorem dX9_item_74 : decode cX9_item 74 = .ok (.iaload, 1) := by decide +kernel
theorem dX9_item_75 : decode cX9_item 75 = .ok (.bipush 10, 2) := by decide +kernel
theorem dX9_item_77 : decode cX9_item 77 = .ok (.if_icmp .ge 7, 3) := by decide +kernel
theorem dX9_item_80 : decode cX9_item 80 = .ok (.iconst 1, 1) := by decide +kernel
theorem dX9_item_81 : decode cX9_item 81 = .ok (.goto 4, 3) := by decide +kernel
theorem dX9_item_84 : decode cX9_item 84 = .ok (.iconst 0, 1) := by decide +kernel
theorem dX9_item_85 : decode cX9_item 85 = .ok (.invokevirtual 278, 3) := by decide +kernel
theorem dX9_item_88 : decode cX9_item 88 = .ok (.aload_n 0, 1) := by decide +kernel
theorem dX9_item_89 : decode cX9_item 89 = .ok (.getfield 266, 3) := by decide +kernel
theorem dX9_item_92 : decode cX9_item 92 = .ok (.ifCond .eq 7, 3) := by decide +kernel
theorem dX9_item_95 : decode cX9_item 95 = .ok (.iconst 0, 1) := by decide +kernel
theorem dX9_item_96 : decode cX9_item 96 = .ok (.goto 7, 3) := by decide +kernel
theorem dX9_item_99 : decode cX9_item 99 = .ok (.aload_n 0, 1) := by decide +kernel
theorem dX9_item_100 : decode cX9_item 100 = .ok (.invokevirtual 74, 3) := by decide +kernel
theorem dX9_item_103 : decode cX9_item 103 = .ok (.istore_n 1, 1) := by decide +kernel
theorem dX9_item_104 : decode cX9_item 104 = .ok (.aload_n 0, 1) := by decide +kernel
theorem dX9_item_105 : decode cX9_item 105 = .ok (.bipush 101, 2) := by decide +kernel
theorem dX9_item_107 : decode cX9_item 107 = .ok (.bipush 114, 2) := by decide +kernel
theorem dX9_item_109 : decode cX9_item 109 = .ok (.bipush 114, 2) := by decide +kernel
theorem dX9_item_111 : decode cX9_item 111 = .ok (.bipush 97, 2) := by decide +kernel
theorem dX9_item_113 : decode cX9_item 113 = .ok (.bipush 110, 2) := by decide +kernel
theorem dX9_item_115 : decode cX9_item 115 = .ok (.bipush 100, 2) := by decide +kernel
theorem dX9_item_117 : decode cX9_item 117 = .ok (.bipush 115, 2) := by decide +kernel
theorem dX9_item_119 : decode cX9_item 119 = .ok (.invokevirtual 290, 3) := by decide +kernel
theorem dX9_item_122 : decode cX9_item 122 = .ok (.ifCond .eq 34, 3) := by decide +kernel
theorem dX9_item_125 : decode cX9_item 125 = .ok (.aload_n 0, 1) := by decide +kernel
theorem dX9_item_126 : decode cX9_item 126 = .ok (.iconst 1, 1) := by decide +kernel
theorem dX9_item_127 : decode cX9_item 127 = .ok (.invokevirtual 278, 3) := by decide +kernel
theorem dX9_item_130 : decode cX9_item 130 = .ok (.aload_n 0, 1) := by decide +kernel
theorem dX9_item_131 : decode cX9_item 131 = .ok (.iconst 0, 1) := by decide +kernel
theorem dX9_item_132 : decode cX9_item 132 = .ok (.bipush 99, 2) := by decide +kernel
theorem dX9_item_134 : decode cX9_item 134 = .ok (.invokevirtual 282, 3) := by decide +kernel
theorem dX9_item_137 : decode cX9_item 137 = .ok (.aload_n 0, 1) := by decide +kernel
theorem dX9_item_138 : decode cX9_item 138 = .ok (.getfield 266, 3) := by decide +kernel
theorem dX9_item_141 : decode cX9_item 141 = .ok (.ifCond .ne 15, 3) := by decide +kernel
theorem dX9_item_144 : decode cX9_item 144 = .ok (.aload_n 0, 1) := by decide +kernel
theorem dX9_item_145 : decode cX9_item 145 = .ok (.getfield 7, 3) := by decide +kernel
theorem dX9_item_148 : decode cX9_item 148 = .ok (.iconst 3, 1) := by decide +kernel
theorem dX9_item_149 : decode cX9_item 149 = .ok (.iload_n 1, 1) := by decide +kernel
theorem dX9_item_150 : decode cX9_item 150 = .ok (.iadd, 1) := by decide +kernel
theorem dX9_item_151 : decode cX9_item 151 = .ok (.aload_n 0, 1) := by decide +kernel
theorem dX9_item_152 : decode cX9_item 152 = .ok (.getfield 275, 3) := by decide +kernel
theorem dX9_item_155 : decode cX9_item 155 = .ok (.iastore, 1) := by decide +kernel
theorem dX9_item_156 : decode cX9_item 156 = .ok (.return_, 1) := by decide +kernel
theorem dX9_land_0 : decode cX9_land 0 = .ok (.aload_n 0, 1) := by decide +kernel
theorem dX9_land_1 : decode cX9_land 1 = .ok (.invokevirtual 217, 3) := by decide +kernel
theorem dX9_land_4 : decode cX9_land 4 = .ok (.aload_n 0, 1) := by decide +kernel
theorem dX9_land_5 : decode cX9_land 5 = .ok (.iconst 0, 1) := by decide +kernel
theorem dX9_land_6 : decode cX9_land 6 = .ok (.putfield 251, 3) := by decide +kernel
theorem dX9_land_9 : decode cX9_land 9 = .ok (.aload_n 0, 1) := by decide +kernel
theorem dX9_land_10 : decode cX9_land 10 = .ok (.iconst 0, 1) := by decide +kernel
theorem dX9_land_11 : decode cX9_land 11 = .ok (.putfield 266, 3) := by decide +kernel
theorem dX9_land_14 : decode cX9_land 14 = .ok (.aload_n 0, 1) := by decide +kernel
theorem dX9_land_15 : decode cX9_land 15 = .ok (.invokevirtual 269, 3) := by decide +kernel
theorem dX9_land_18 : decode cX9_land 18 = .ok (.iconst 1, 1) := by decide +kernel
theorem dX9_land_19 : decode cX9_land 19 = .ok (.istore_n 1, 1) := by decide +kernel
theorem dX9_land_20 : decode cX9_land 20 = .ok (.aload_n 0, 1) := by decide +kernel
theorem dX9_land_21 : decode cX9_land 21 = .ok (.invokevirtual 300, 3) := by decide +kernel
theorem dX9_land_24 : decode cX9_land 24 = .ok (.aload_n 0, 1) := by decide +kernel
theorem dX9_land_25 : decode cX9_land 25 = .ok (.getfield 266, 3) := by decide +kernel
theorem dX9_land_28 : decode cX9_land 28 = .ok (.ifCond .ne 46, 3) := by decide +kernel
theorem dX9_land_31 : decode cX9_land 31 = .ok (.aload_n 0, 1) := by decide +kernel
theorem dX9_land_32 : decode cX9_land 32 = .ok (.getfield 254, 3) := by decide +kernel
theorem dX9_land_35 : decode cX9_land 35 = .ok (.aload_n 0, 1) := by decide +kernel
theorem dX9_land_36 : decode cX9_land 36 = .ok (.getfield 240, 3) := by decide +kernel
theorem dX9_land_39 : decode cX9_land 39 = .ok (.if_icmp .ge 35, 3) := by decide +kernel
theorem dX9_land_42 : decode cX9_land 42 = .ok (.aload_n 0, 1) := by decide +kernel
theorem dX9_land_43 : decode cX9_land 43 = .ok (.aload_n 0, 1) := by decide +kernel
theorem dX9_land_44 : decode cX9_land 44 = .ok (.aload_n 0, 1) := by decide +kernel
theorem dX9_land_45 : decode cX9_land 45 = .ok (.getfield 254, 3) := by decide +kernel
theorem dX9_land_48 : decode cX9_land 48 = .ok (.invokevirtual 257, 3) := by decide +kernel
theorem dX9_land_51 : decode cX9_land 51 = .ok (.bipush 59, 2) := by decide +kernel
theorem dX9_land_53 : decode cX9_land 53 = .ok (.if_icmp .ne 7, 3) := by decide +kernel
theorem dX9_land_56 : decode cX9_land 56 = .ok (.iconst 1, 1) := by decide +kernel
theorem dX9_land_57 : decode cX9_land 57 = .ok (.goto 4, 3) := by decide +kernel
theorem dX9_land_60 : decode cX9_land 60 = .ok (.iconst 0, 1) := by decide +kernel
theorem dX9_land_61 : decode cX9_land 61 = .ok (.invokevirtual 278, 3) := by decide +kernel
theorem dX9_land_64 : decode cX9_land 64 = .ok (.aload_n 0, 1) := by decide +kernel
theorem dX9_land_65 : decode cX9_land 65 = .ok (.invokevirtual 300, 3) := by decide +kernel
theorem dX9_land_68 : decode cX9_land 68 = .ok (.iinc 1 1, 3) := by decide +kernel
theorem dX9_land_71 : decode cX9_land 71 = .ok (.goto (-47), 3) := by decide +kernel
theorem dX9_land_74 : decode cX9_land 74 = .ok (.aload_n 0, 1) := by decide +kernel
theorem dX9_land_75 : decode cX9_land 75 = .ok (.iconst 0, 1) := by decide +kernel
theorem dX9_land_76 : decode cX9_land 76 = .ok (.putfield 240, 3) := by decide +kernel
theorem dX9_land_79 : decode cX9_land 79 = .ok (.aload_n 0, 1) := by decide +kernel
theorem dX9_land_80 : decode cX9_land 80 = .ok (.getfield 266, 3) := by decide +kernel
theorem dX9_land_83 : decode cX9_land 83 = .ok (.ifCond .eq 14, 3) := by decide +kernel
theorem dX9_land_86 : decode cX9_land 86 = .ok (.aload_n 0, 1) := by decide +kernel
theorem dX9_land_87 : decode cX9_land 87 = .ok (.invokevirtual 220, 3) := by decide +kernel
theorem dX9_land_90 : decode cX9_land 90 = .ok (.iconst (-1), 1) := by decide +kernel
theorem dX9_land_91 : decode cX9_land 91 = .ok (.aload_n 0, 1) := by decide +kernel
theorem dX9_land_92 : decode cX9_land 92 = .ok (.getfield 254, 3) := by decide +kernel
theorem dX9_land_95 : decode cX9_land 95 = .ok (.isub, 1) := by decide +kernel
theorem dX9_land_96 : decode cX9_land 96 = .ok (.ireturn, 1) := by decide +kernel
theorem dX9_land_97 : decode cX9_land 97 = .ok (.iload_n 1, 1) := by decide +kernel
theorem dX9_land_98 : decode cX9_land 98 = .ok (.ireturn, 1) := by decide +kernel
theorem uw880 : Cond.methodLink RX9 284 yX9_numberHere ∈ wsU := ut6 (List.mem_of_getElem? (i := 164) (by decide +kernel)) rfl
theorem uw881 : Cond.instanceMethod yX9_numberHere ∈ wsU := ut6 (List.mem_of_getElem? (i := 166) (by decide +kernel)) rfl
theorem uw882 : Cond.selects RX9 yX9_numberHere yX9_numberHere ∈ wsU := us_sel (q := (yX9_numberHere, 27)) (List.mem_of_getElem? (i := 74) (by decide +kernel)) rfl
theorem uw883 : Cond.code yX9_numberHere cX9_numberHere 3 (some .int) ∈ wsU := ut6 (List.mem_of_getElem? (i := 167) (by decide +kernel)) rfl
theorem uw884 : Cond.methodLink RX9 287 yX9_mile ∈ wsU := ut6 (List.mem_of_getElem? (i := 168) (by decide +kernel)) rfl
theorem uw885 : Cond.instanceMethod yX9_mile ∈ wsU := ut6 (List.mem_of_getElem? (i := 170) (by decide +kernel)) rfl
theorem uw886 : Cond.selects RX9 yX9_mile yX9_mile ∈ wsU := us_sel (q := (yX9_mile, 27)) (List.mem_of_getElem? (i := 75) (by decide +kernel)) rfl
theorem uw887 : Cond.code yX9_mile cX9_mile 4 none ∈ wsU := ut6 (List.mem_of_getElem? (i := 171) (by decide +kernel)) rfl
theorem uw888 : Cond.methodLink RX9 290 yX9_isWord ∈ wsU := ut6 (List.mem_of_getElem? (i := 144) (by decide +kernel)) rfl
theorem uw889 : Cond.instanceMethod yX9_isWord ∈ wsU := ut6 (List.mem_of_getElem? (i := 146) (by decide +kernel)) rfl
theorem uw890 : Cond.selects RX9 yX9_isWord yX9_isWord ∈ wsU := us_sel (q := (yX9_isWord, 27)) (List.mem_of_getElem? (i := 69) (by decide +kernel)) rfl
theorem uw891 : Cond.code yX9_isWord cX9_isWord 9 (some .boolean) ∈ wsU := ut6 (List.mem_of_getElem? (i := 147) (by decide +kernel)) rfl
theorem uw892 : Cond.fieldLink RX9 40 "LongerBackModel" "walked" "[I" ∈ wsU := ut4 (List.mem_of_getElem? (i := 230) (by decide +kernel)) rfl
theorem uw893 : Cond.methodLink RX9 294 yX9_wayItem ∈ wsU := ut6 (List.mem_of_getElem? (i := 152) (by decide +kernel)) rfl
theorem uw894 : Cond.instanceMethod yX9_wayItem ∈ wsU := ut6 (List.mem_of_getElem? (i := 154) (by decide +kernel)) rfl
theorem uw895 : Cond.selects RX9 yX9_wayItem yX9_wayItem ∈ wsU := us_sel (q := (yX9_wayItem, 27)) (List.mem_of_getElem? (i := 71) (by decide +kernel)) rfl
theorem uw896 : Cond.code yX9_wayItem cX9_wayItem 7 none ∈ wsU := ut6 (List.mem_of_getElem? (i := 155) (by decide +kernel)) rfl
theorem uw897 : Cond.methodLink RX9 297 yX9_walkItem ∈ wsU := ut6 (List.mem_of_getElem? (i := 172) (by decide +kernel)) rfl
theorem uw898 : Cond.instanceMethod yX9_walkItem ∈ wsU := ut6 (List.mem_of_getElem? (i := 174) (by decide +kernel)) rfl
theorem uw899 : Cond.selects RX9 yX9_walkItem yX9_walkItem ∈ wsU := us_sel (q := (yX9_walkItem, 27)) (List.mem_of_getElem? (i := 76) (by decide +kernel)) rfl
theorem uw900 : Cond.code yX9_walkItem cX9_walkItem 6 none ∈ wsU := ut6 (List.mem_of_getElem? (i := 175) (by decide +kernel)) rfl
theorem uw901 : Cond.methodLink RX9 300 yX9_item ∈ wsU := ut6 (List.mem_of_getElem? (i := 140) (by decide +kernel)) rfl
theorem uw902 : Cond.instanceMethod yX9_item ∈ wsU := ut6 (List.mem_of_getElem? (i := 142) (by decide +kernel)) rfl
theorem uw903 : Cond.selects RX9 yX9_item yX9_item ∈ wsU := us_sel (q := (yX9_item, 27)) (List.mem_of_getElem? (i := 68) (by decide +kernel)) rfl
theorem uw904 : Cond.code yX9_item cX9_item 2 none ∈ wsU := ut6 (List.mem_of_getElem? (i := 143) (by decide +kernel)) rfl
theorem kv_X9_284 : xWV RX9 284 RX9 yX9_numberHere cX9_numberHere 3 (some .int) 0 := ⟨⟨uw880, uw881, uw882, uw657, uw883⟩, by decide +kernel⟩
theorem kv_X9_287 : xWV RX9 287 RX9 yX9_mile cX9_mile 4 none 2 := ⟨⟨uw884, uw885, uw886, uw657, uw887⟩, by decide +kernel⟩
theorem kv_X9_290 : xWV RX9 290 RX9 yX9_isWord cX9_isWord 9 (some .boolean) 7 := ⟨⟨uw888, uw889, uw890, uw657, uw891⟩, by decide +kernel⟩
theorem kf_X9_40 : xWF RX9 40 9 22 RX9 TX9 27 := ⟨inUX9, rfl, by decide, uw892⟩
theorem kv_X9_294 : xWV RX9 294 RX9 yX9_wayItem cX9_wayItem 7 none 0 := ⟨⟨uw893, uw894, uw895, uw657, uw896⟩, by decide +kernel⟩
theorem kv_X9_297 : xWV RX9 297 RX9 yX9_walkItem cX9_walkItem 6 none 0 := ⟨⟨uw897, uw898, uw899, uw657, uw900⟩, by decide +kernel⟩
theorem kv_X9_300 : xWV RX9 300 RX9 yX9_item cX9_item 2 none 0 := ⟨⟨uw901, uw902, uw903, uw657, uw904⟩, by decide +kernel⟩
set_option maxHeartbeats 4000000 in
set_option maxRecDepth 100000 in
theorem c_X9_wayItem (l : Launch) (D : va_G) (cI cJ cZ cS : ClassId) (ta : Nat) (sa sv : Nat → Nat) (sz : Nat) (h0 : Nat) (ys : Nat) (yk : Nat) (yo : Nat) (yt : Nat) (mk0 : Int32) (yfa : Nat) (yfe : Nat) (mL : Int32) (mS : Int32) (mM : Int32) (yro : Nat) (yhe : Nat) (ygr : Nat) (mF : Int32) (mC : Int32) (mY : Int32) (yta : Nat) (mz : Nat) (mf : Nat) (mt : Nat) (mv : Int32) (mw : Int32) (ywa : Nat) (ybi : Nat) (ysi : Nat) (ynu : Nat) (ymo : Nat) (ms : Nat → Int32) (tp : Nat → Int32) (P : Nat) (Rn : Nat) (Wn : Nat) (hz : mz ≤ 120) (k1 : mf ≤ mz) (k2 : mt ≤ mz) (k3 : mf ≤ mt) (k4 : mf < mt ∨ mf = mz) (hs0 : ms 0 = nI P) (hs1 : ms 1 = nI Rn) (hs2 : ms 2 = nI Wn) (hsS : SI ms) (hsM : MI ms) (hsp : P ≤ 10) (hsr : Rn ≤ 8) (hsw : Wn ≤ 8) (hsR : RI Rn ms) : Met l yX9_wayItem (Cond.code yX9_wayItem cX9_wayItem 7 none :: wsU) ({ frames := 6, cells := 0, slots := 0, locals := 136 }) (va_Pc [.ref h0] (XW D (xT cI cJ cZ cS) ta sa sv [(h0, .inr (9, [.ref ys, .ref yk, .ref yo, .ref yt, .int mk0, .ref yfa, .ref yfe, .int mL, .int mS, .int mM, .ref yro, .ref yhe, .ref ygr, .int mF, .int mC, .int mY, .ref yta, .int (nI (mz)), .int (nI (mf)), .int (nI (mt)), .int mv, .int mw, .ref ywa, .ref ybi, .ref ysi, .ref ynu, .ref ymo])), (ys, .inl (cI, 449, .inl ms)), (yta, .inl (cI, 120, .inl tp))] sz)) (XQv (fun (u : Nat × Nat × Int32 × Int32 × (Nat → Int32)) => match u with | (f2, t2, v2, w2, ms2) => (f2 ≤ mz) ∧ (t2 ≤ mz) ∧ (f2 ≤ t2) ∧ (f2 < t2 ∨ f2 = mz) ∧ (mf ≤ f2) ∧ (w2 = 0 → mw = 0 ∧ True) ∧ (ms2 0 = nI P) ∧ (ms2 1 = nI Rn) ∧ (ms2 2 = nI Wn) ∧ (SI ms2) ∧ (MI ms2) ∧ (P ≤ 10) ∧ (Rn ≤ 8) ∧ (Wn ≤ 8) ∧ (RI Rn ms2)) D (fun (u : Nat × Nat × Int32 × Int32 × (Nat → Int32)) => match u with | (f2, t2, v2, w2, ms2) => [(h0, .inr (9, [.ref ys, .ref yk, .ref yo, .ref yt, .int mk0, .ref yfa, .ref yfe, .int mL, .int mS, .int mM, .ref yro, .ref yhe, .ref ygr, .int mF, .int mC, .int mY, .ref yta, .int (nI (mz)), .int (nI (f2)), .int (nI (t2)), .int v2, .int w2, .ref ywa, .ref ybi, .ref ysi, .ref ynu, .ref ymo])), (ys, .inl (cI, 449, .inl ms2)), (yta, .inl (cI, 120, .inl tp))]) (va_A [(h0, .inr (9, [.ref ys, .ref yk, .ref yo, .ref yt, .int mk0, .ref yfa, .ref yfe, .int mL, .int mS, .int mM, .ref yro, .ref yhe, .ref ygr, .int mF, .int mC, .int mY, .ref yta, .int (nI (mz)), .int (nI (mf)), .int (nI (mt)), .int mv, .int mw, .ref ywa, .ref ybi, .ref ysi, .ref ynu, .ref ymo])), (ys, .inl (cI, 449, .inl ms)), (yta, .inl (cI, 120, .inl tp))] sz)) 0 0 (va_A [(h0, .inr (9, [.ref ys, .ref yk, .ref yo, .ref yt, .int mk0, .ref yfa, .ref yfe, .int mL, .int mS, .int mM, .ref yro, .ref yhe, .ref ygr, .int mF, .int mC, .int mY, .ref yta, .int (nI (mz)), .int (nI (mf)), .int (nI (mt)), .int mv, .int mw, .ref ywa, .ref ybi, .ref ysi, .ref ynu, .ref ymo])), (ys, .inl (cI, 449, .inl ms)), (yta, .inl (cI, 120, .inl tp))] sz) := by
  refine xh (QA := fun A => XQv (fun (u : Nat × Nat × Int32 × Int32 × (Nat → Int32)) => match u with | (f2, t2, v2, w2, ms2) => (f2 ≤ mz) ∧ (t2 ≤ mz) ∧ (f2 ≤ t2) ∧ (f2 < t2 ∨ f2 = mz) ∧ (mf ≤ f2) ∧ (w2 = 0 → mw = 0 ∧ True) ∧ (ms2 0 = nI P) ∧ (ms2 1 = nI Rn) ∧ (ms2 2 = nI Wn) ∧ (SI ms2) ∧ (MI ms2) ∧ (P ≤ 10) ∧ (Rn ≤ 8) ∧ (Wn ≤ 8) ∧ (RI Rn ms2)) D (fun (u : Nat × Nat × Int32 × Int32 × (Nat → Int32)) => match u with | (f2, t2, v2, w2, ms2) => [(h0, .inr (9, [.ref ys, .ref yk, .ref yo, .ref yt, .int mk0, .ref yfa, .ref yfe, .int mL, .int mS, .int mM, .ref yro, .ref yhe, .ref ygr, .int mF, .int mC, .int mY, .ref yta, .int (nI (mz)), .int (nI (f2)), .int (nI (t2)), .int v2, .int w2, .ref ywa, .ref ybi, .ref ysi, .ref ynu, .ref ymo])), (ys, .inl (cI, 449, .inl ms2)), (yta, .inl (cI, 120, .inl tp))]) A) (fr := fun A => A) (by decide) (Nat.le_of_ble_eq_true rfl) ?_
  intro p e s m below meth c ls A hF hr hlk hin hsz hP hK hD hN hZ hA hS hl
  have hF : CallFix p m c cX9_wayItem 7 s _ _ RX9 := hF
  have hx := hF.1
  have hb := hF.2.1
  have hml := hF.2.2.1
  have hown := hF.2.2.2.1
  have hu : ∀ w ∈ wsU, w.before _ s = true := fun w h => hF.2.2.2.2 w (List.mem_cons_of_mem _ h)
  have hl : lv_has ls 7 [(0, .ref h0)] := hl
  refine lv_aload_n hx hb dX9_wayItem_0 rfl (lv_at hl 0 rfl) ?_
  refine lv_iconst (v := 1) hx hb dX9_wayItem_1 (by decide) ?_
  refine xc_Vv (wr := [(ys, .inl (cI, 449, .inl ms))]) hF (c_X9_needs l D cI cJ cZ cS ta sa sv s.heap.size h0 ys yk yo yt mk0 yfa yfe mL mS mM yro yhe ygr mF mC mY yta mz mf mt mv mw ywa ybi ysi ynu ymo tp 1 (by omega) (by omega) (by omega) (by omega) (by omega)) kv_X9_278 ⟨rfl, rfl, Nat.le_of_ble_eq_true rfl, Nat.le_of_ble_eq_true rfl⟩ ⟨Nat.le_of_ble_eq_true rfl, Nat.le_of_ble_eq_true rfl⟩ hK hN hZ hP hD hS hA [0, 2] [1] rfl rfl rfl rfl (by decide) 0 rfl rfl rfl rfl hl.1 rfl (Nat.le_of_ble_eq_true rfl) dX9_wayItem_2 (fun u_r_1 H locs hw_r_1 hP hD hS => ?_)
  obtain ⟨f2_2, t2_3, w2_4⟩ := u_r_1
  try dsimp only at hw_r_1
  obtain ⟨i_5, i_6, i_7, i_8, i_9, i_10⟩ := hw_r_1
  have hP : va_P D vwCl [(ys, .inl (cI, 449, .inl ms)), (h0, .inr (9, [.ref ys, .ref yk, .ref yo, .ref yt, .int mk0, .ref yfa, .ref yfe, .int mL, .int mS, .int mM, .ref yro, .ref yhe, .ref ygr, .int mF, .int mC, .int mY, .ref yta, .int (nI (mz)), .int (nI (f2_2)), .int (nI (t2_3)), .int mv, .int w2_4, .ref ywa, .ref ybi, .ref ysi, .ref ynu, .ref ymo])), (yta, .inl (cI, 120, .inl tp))] H := hP
  have hD : va_D A [(ys, .inl (cI, 449, .inl ms)), (h0, .inr (9, [.ref ys, .ref yk, .ref yo, .ref yt, .int mk0, .ref yfa, .ref yfe, .int mL, .int mS, .int mM, .ref yro, .ref yhe, .ref ygr, .int mF, .int mC, .int mY, .ref yta, .int (nI (mz)), .int (nI (f2_2)), .int (nI (t2_3)), .int mv, .int w2_4, .ref ywa, .ref ybi, .ref ysi, .ref ynu, .ref ymo])), (yta, .inl (cI, 120, .inl tp))] := hD
  refine lv_aload_n hx hb dX9_wayItem_5 rfl (lv_at hl 0 rfl) ?_
  refine lv_iconst (v := 0) hx hb dX9_wayItem_6 (by decide) ?_
  refine lv_aload_n hx hb dX9_wayItem_7 rfl (lv_at hl 0 rfl) ?_
  refine xg hF kf_X9_7 hK hP 1 rfl rfl dX9_wayItem_8 ?_
  refine lv_iconst (v := 0) hx hb dX9_wayItem_11 (by decide) ?_
  refine va_iald hx hb hK hP 0 0 rfl rfl (xin 0 449 (by decide) (by decide)) dX9_wayItem_12 ?_
  refine xl_i (y := nI (P)) hs0 ?_
  refine lv_iconst (v := 1) hx hb dX9_wayItem_13 (by decide) ?_
  refine lv_isub hx hb dX9_wayItem_14 ?_
  refine lv_topi (fun x_11 ex_11 => ?_)
  refine xc_Vv (wr := [(ys, .inl (cI, 449, .inl ms))]) hF (c_X9_number l D cI cJ cZ cS ta sa sv H.size h0 ys yk yo yt mk0 yfa yfe mL mS mM yro yhe ygr mF mC mY yta mz f2_2 t2_3 mv w2_4 ywa ybi ysi ynu ymo tp 0 x_11 (by omega) (by omega) (by omega) (by omega) (by omega)) kv_X9_282 ⟨rfl, rfl, Nat.le_of_ble_eq_true rfl, Nat.le_of_ble_eq_true rfl⟩ ⟨Nat.le_of_ble_eq_true rfl, Nat.le_of_ble_eq_true rfl⟩ hK hN hZ hP hD hS hA [1, 2] [0] rfl rfl rfl rfl (by decide) 0 rfl rfl rfl rfl hl.1 rfl (Nat.le_of_ble_eq_true rfl) dX9_wayItem_15 (fun u_r_12 H locs hw_r_12 hP hD hS => ?_)
  obtain ⟨f2_13, t2_14, v2_15, w2_16⟩ := u_r_12
  try dsimp only at hw_r_12
  obtain ⟨i_17, i_18, i_19, i_20, i_21, i_22⟩ := hw_r_12
  have hP : va_P D vwCl [(ys, .inl (cI, 449, .inl ms)), (h0, .inr (9, [.ref ys, .ref yk, .ref yo, .ref yt, .int mk0, .ref yfa, .ref yfe, .int mL, .int mS, .int mM, .ref yro, .ref yhe, .ref ygr, .int mF, .int mC, .int mY, .ref yta, .int (nI (mz)), .int (nI (f2_13)), .int (nI (t2_14)), .int v2_15, .int w2_16, .ref ywa, .ref ybi, .ref ysi, .ref ynu, .ref ymo])), (yta, .inl (cI, 120, .inl tp))] H := hP
  have hD : va_D A [(ys, .inl (cI, 449, .inl ms)), (h0, .inr (9, [.ref ys, .ref yk, .ref yo, .ref yt, .int mk0, .ref yfa, .ref yfe, .int mL, .int mS, .int mM, .ref yro, .ref yhe, .ref ygr, .int mF, .int mC, .int mY, .ref yta, .int (nI (mz)), .int (nI (f2_13)), .int (nI (t2_14)), .int v2_15, .int w2_16, .ref ywa, .ref ybi, .ref ysi, .ref ynu, .ref ymo])), (yta, .inl (cI, 120, .inl tp))] := hD
  refine lv_aload_n hx hb dX9_wayItem_18 rfl (lv_at hl 0 rfl) ?_
  refine xg hF kf_X9_275 hK hP 1 rfl rfl dX9_wayItem_19 ?_
  refine lv_istore_n (lv' := [(1, .int v2_15), (0, .ref h0)]) hx hb dX9_wayItem_22 rfl hl (by decide) rfl (fun ls hl => ?_)
  refine lv_aload_n hx hb dX9_wayItem_23 rfl (lv_at hl 1 rfl) ?_
  refine xc_Vr hF (c_X9_numberHere l D cI cJ cZ cS ta sa sv H.size h0 ys yk yo yt mk0 yfa yfe mL mS mM yro yhe ygr mF mC mY yta mz f2_13 t2_14 v2_15 w2_16 ywa ybi ysi ynu ymo tp (by omega) (by omega) (by omega) (by omega) (by omega)) kv_X9_284 ⟨rfl, rfl, Nat.le_of_ble_eq_true rfl, Nat.le_of_ble_eq_true rfl⟩ ⟨Nat.le_of_ble_eq_true rfl, Nat.le_of_ble_eq_true rfl⟩ hK hN hZ hP hD hS hA [1, 2] rfl rfl 0 rfl rfl rfl rfl hl.1 rfl (Nat.le_of_ble_eq_true rfl) dX9_wayItem_24 (fun r_23 hw_r_23 => ?_)
  refine lv_istore_n (lv' := [(2, .int r_23), (1, .int v2_15), (0, .ref h0)]) hx hb dX9_wayItem_27 rfl hl (by decide) rfl (fun ls hl => ?_)
  refine lv_aload_n hx hb dX9_wayItem_28 rfl (lv_at hl 2 rfl) ?_
  refine lv_aload_n hx hb dX9_wayItem_29 rfl (lv_at hl 2 rfl) ?_
  refine lv_iload_n hx hb dX9_wayItem_30 rfl (lv_at hl 0 rfl) ?_
  refine xc_Vr hF (c_X9_isPlace l D cI cJ cZ cS ta sa sv H.size h0 ys yk yo yt mk0 yfa yfe mL mS mM yro yhe ygr mF mC mY yta mz f2_13 t2_14 v2_15 w2_16 ywa ybi ysi ynu ymo ms P Rn Wn r_23 hs0 hs1 hs2 hsS hsM hsp hsr hsw hsR) kv_X9_61 ⟨rfl, rfl, Nat.le_of_ble_eq_true rfl, Nat.le_of_ble_eq_true rfl⟩ ⟨Nat.le_of_ble_eq_true rfl, Nat.le_of_ble_eq_true rfl⟩ hK hN hZ hP hD hS hA [1, 0] rfl rfl 0 rfl rfl rfl rfl hl.1 rfl (Nat.le_of_ble_eq_true rfl) dX9_wayItem_31 (fun r_24 hw_r_24 => ?_)
  rcases hw_r_24 with ⟨k_25, rfl, rfl, h_27⟩ | rfl
  · skip
    refine lv_if_eq (tgt := 46) hx hb dX9_wayItem_34 (by decide) (fun c_28 => absurd c_28 (by decide)) (fun c_28 => ?_)
    refine lv_iload_n hx hb dX9_wayItem_37 rfl (lv_at hl 0 rfl) ?_
    refine lv_iload_n hx hb dX9_wayItem_38 rfl (lv_at hl 1 rfl) ?_
    refine lv_icmp_eq (tgt := 46) hx hb dX9_wayItem_39 (by decide) (fun c_29 => ?_) (fun c_29 => ?_)
    · skip
      refine lv_iconst (v := 0) hx hb dX9_wayItem_46 (by decide) ?_
      refine xc_Vv (wr := [(ys, .inl (cI, 449, .inl ms))]) hF (c_X9_needs l D cI cJ cZ cS ta sa sv H.size h0 ys yk yo yt mk0 yfa yfe mL mS mM yro yhe ygr mF mC mY yta mz f2_13 t2_14 v2_15 w2_16 ywa ybi ysi ynu ymo tp 0 (by omega) (by omega) (by omega) (by omega) (by omega)) kv_X9_278 ⟨rfl, rfl, Nat.le_of_ble_eq_true rfl, Nat.le_of_ble_eq_true rfl⟩ ⟨Nat.le_of_ble_eq_true rfl, Nat.le_of_ble_eq_true rfl⟩ hK hN hZ hP hD hS hA [1, 2] [0] rfl rfl rfl rfl (by decide) 0 rfl rfl rfl rfl hl.1 rfl (Nat.le_of_ble_eq_true rfl) dX9_wayItem_47 (fun u_r_30 H locs hw_r_30 hP hD hS => ?_)
      obtain ⟨f2_31, t2_32, w2_33⟩ := u_r_30
      try dsimp only at hw_r_30
      obtain ⟨i_34, i_35, i_36, i_37, i_38, i_39⟩ := hw_r_30
      have hP : va_P D vwCl [(ys, .inl (cI, 449, .inl ms)), (h0, .inr (9, [.ref ys, .ref yk, .ref yo, .ref yt, .int mk0, .ref yfa, .ref yfe, .int mL, .int mS, .int mM, .ref yro, .ref yhe, .ref ygr, .int mF, .int mC, .int mY, .ref yta, .int (nI (mz)), .int (nI (f2_31)), .int (nI (t2_32)), .int v2_15, .int w2_33, .ref ywa, .ref ybi, .ref ysi, .ref ynu, .ref ymo])), (yta, .inl (cI, 120, .inl tp))] H := hP
      have hD : va_D A [(ys, .inl (cI, 449, .inl ms)), (h0, .inr (9, [.ref ys, .ref yk, .ref yo, .ref yt, .int mk0, .ref yfa, .ref yfe, .int mL, .int mS, .int mM, .ref yro, .ref yhe, .ref ygr, .int mF, .int mC, .int mY, .ref yta, .int (nI (mz)), .int (nI (f2_31)), .int (nI (t2_32)), .int v2_15, .int w2_33, .ref ywa, .ref ybi, .ref ysi, .ref ynu, .ref ymo])), (yta, .inl (cI, 120, .inl tp))] := hD
      refine lv_aload_n hx hb dX9_wayItem_50 rfl (lv_at hl 2 rfl) ?_
      refine lv_bipush (v := (-99)) hx hb dX9_wayItem_51 (by decide) ?_
      refine lv_sipush (v := 999) hx hb dX9_wayItem_53 (by decide) ?_
      refine xc_Vv (wr := [(ys, .inl (cI, 449, .inl ms))]) hF (c_X9_mileE l D cI cJ cZ cS ta sa sv H.size h0 ys yk yo yt mk0 yfa yfe mL mS mM yro yhe ygr mF mC mY yta mz f2_31 t2_32 v2_15 w2_33 ywa ybi ysi ynu ymo tp (by omega) (by omega) (by omega) (by omega) (by omega)) kv_X9_287 ⟨rfl, rfl, Nat.le_of_ble_eq_true rfl, Nat.le_of_ble_eq_true rfl⟩ ⟨Nat.le_of_ble_eq_true rfl, Nat.le_of_ble_eq_true rfl⟩ hK hN hZ hP hD hS hA [1, 2] [0] rfl rfl rfl rfl (by decide) 0 rfl rfl rfl rfl hl.1 rfl (Nat.le_of_ble_eq_true rfl) dX9_wayItem_56 (fun u_r_40 H locs hw_r_40 hP hD hS => ?_)
      obtain ⟨f2_41, t2_42, v2_43, w2_44⟩ := u_r_40
      try dsimp only at hw_r_40
      obtain ⟨i_45, i_46, i_47, i_48, i_49, i_50⟩ := hw_r_40
      have hP : va_P D vwCl [(ys, .inl (cI, 449, .inl ms)), (h0, .inr (9, [.ref ys, .ref yk, .ref yo, .ref yt, .int mk0, .ref yfa, .ref yfe, .int mL, .int mS, .int mM, .ref yro, .ref yhe, .ref ygr, .int mF, .int mC, .int mY, .ref yta, .int (nI (mz)), .int (nI (f2_41)), .int (nI (t2_42)), .int v2_43, .int w2_44, .ref ywa, .ref ybi, .ref ysi, .ref ynu, .ref ymo])), (yta, .inl (cI, 120, .inl tp))] H := hP
      have hD : va_D A [(ys, .inl (cI, 449, .inl ms)), (h0, .inr (9, [.ref ys, .ref yk, .ref yo, .ref yt, .int mk0, .ref yfa, .ref yfe, .int mL, .int mS, .int mM, .ref yro, .ref yhe, .ref ygr, .int mF, .int mC, .int mY, .ref yta, .int (nI (mz)), .int (nI (f2_41)), .int (nI (t2_42)), .int v2_43, .int w2_44, .ref ywa, .ref ybi, .ref ysi, .ref ynu, .ref ymo])), (yta, .inl (cI, 120, .inl tp))] := hD
      refine lv_aload_n hx hb dX9_wayItem_59 rfl (lv_at hl 2 rfl) ?_
      refine xg hF kf_X9_275 hK hP 1 rfl rfl dX9_wayItem_60 ?_
      refine lv_istore_n (lv' := [(3, .int v2_43), (2, .int (nI (k_25))), (1, .int v2_15), (0, .ref h0)]) hx hb dX9_wayItem_63 rfl hl (by decide) rfl (fun ls hl => ?_)
      refine lv_aload_n hx hb dX9_wayItem_64 rfl (lv_at hl 3 rfl) ?_
      refine xg hF kf_X9_275 hK hP 1 rfl rfl dX9_wayItem_65 ?_
      refine lv_istore (lv' := [(4, .int v2_43), (3, .int v2_43), (2, .int (nI (k_25))), (1, .int v2_15), (0, .ref h0)]) hx hb dX9_wayItem_68 hl (by decide) rfl (fun ls hl => ?_)
      refine lv_aload_n hx hb dX9_wayItem_70 rfl (lv_at hl 4 rfl) ?_
      refine lv_bipush (v := 116) hx hb dX9_wayItem_71 (by decide) ?_
      refine lv_bipush (v := 111) hx hb dX9_wayItem_73 (by decide) ?_
      refine lv_iconst (v := 0) hx hb dX9_wayItem_75 (by decide) ?_
      refine lv_iconst (v := 0) hx hb dX9_wayItem_76 (by decide) ?_
      refine lv_iconst (v := 0) hx hb dX9_wayItem_77 (by decide) ?_
      refine lv_iconst (v := 0) hx hb dX9_wayItem_78 (by decide) ?_
      refine lv_iconst (v := 0) hx hb dX9_wayItem_79 (by decide) ?_
      refine xc_Vr hF (c_X9_isWord l D cI cJ cZ cS ta sa sv H.size h0 ys yk yo yt mk0 yfa yfe mL mS mM yro yhe ygr mF mC mY yta mz f2_41 t2_42 v2_43 w2_44 ywa ybi ysi ynu ymo tp 116 111 0 0 0 0 0 (by omega) (by omega)) kv_X9_290 ⟨rfl, rfl, Nat.le_of_ble_eq_true rfl, Nat.le_of_ble_eq_true rfl⟩ ⟨Nat.le_of_ble_eq_true rfl, Nat.le_of_ble_eq_true rfl⟩ hK hN hZ hP hD hS hA [1, 2] rfl rfl 0 rfl rfl rfl rfl hl.1 rfl (Nat.le_of_ble_eq_true rfl) dX9_wayItem_80 (fun r_51 hw_r_51 => ?_)
      rcases hw_r_51 with rfl | rfl
      · skip
        refine lv_if_eq (tgt := 105) hx hb dX9_wayItem_83 (by decide) (fun c_52 => absurd c_52 (by decide)) (fun c_52 => ?_)
        refine lv_aload_n hx hb dX9_wayItem_86 rfl (lv_at hl 4 rfl) ?_
        refine lv_iconst (v := 1) hx hb dX9_wayItem_87 (by decide) ?_
        refine xc_Vv (wr := [(ys, .inl (cI, 449, .inl ms))]) hF (c_X9_needs l D cI cJ cZ cS ta sa sv H.size h0 ys yk yo yt mk0 yfa yfe mL mS mM yro yhe ygr mF mC mY yta mz f2_41 t2_42 v2_43 w2_44 ywa ybi ysi ynu ymo tp 1 (by omega) (by omega) (by omega) (by omega) (by omega)) kv_X9_278 ⟨rfl, rfl, Nat.le_of_ble_eq_true rfl, Nat.le_of_ble_eq_true rfl⟩ ⟨Nat.le_of_ble_eq_true rfl, Nat.le_of_ble_eq_true rfl⟩ hK hN hZ hP hD hS hA [1, 2] [0] rfl rfl rfl rfl (by decide) 0 rfl rfl rfl rfl hl.1 rfl (Nat.le_of_ble_eq_true rfl) dX9_wayItem_88 (fun u_r_53 H locs hw_r_53 hP hD hS => ?_)
        obtain ⟨f2_54, t2_55, w2_56⟩ := u_r_53
        try dsimp only at hw_r_53
        obtain ⟨i_57, i_58, i_59, i_60, i_61, i_62⟩ := hw_r_53
        have hP : va_P D vwCl [(ys, .inl (cI, 449, .inl ms)), (h0, .inr (9, [.ref ys, .ref yk, .ref yo, .ref yt, .int mk0, .ref yfa, .ref yfe, .int mL, .int mS, .int mM, .ref yro, .ref yhe, .ref ygr, .int mF, .int mC, .int mY, .ref yta, .int (nI (mz)), .int (nI (f2_54)), .int (nI (t2_55)), .int v2_43, .int w2_56, .ref ywa, .ref ybi, .ref ysi, .ref ynu, .ref ymo])), (yta, .inl (cI, 120, .inl tp))] H := hP
        have hD : va_D A [(ys, .inl (cI, 449, .inl ms)), (h0, .inr (9, [.ref ys, .ref yk, .ref yo, .ref yt, .int mk0, .ref yfa, .ref yfe, .int mL, .int mS, .int mM, .ref yro, .ref yhe, .ref ygr, .int mF, .int mC, .int mY, .ref yta, .int (nI (mz)), .int (nI (f2_54)), .int (nI (t2_55)), .int v2_43, .int w2_56, .ref ywa, .ref ybi, .ref ysi, .ref ynu, .ref ymo])), (yta, .inl (cI, 120, .inl tp))] := hD
        refine lv_aload_n hx hb dX9_wayItem_91 rfl (lv_at hl 4 rfl) ?_
        refine lv_iload_n hx hb dX9_wayItem_92 rfl (lv_at hl 1 rfl) ?_
        refine lv_sipush (v := 999) hx hb dX9_wayItem_93 (by decide) ?_
        refine xc_Vv (wr := [(ys, .inl (cI, 449, .inl ms))]) hF (c_X9_mile l D cI cJ cZ cS ta sa sv H.size h0 ys yk yo yt mk0 yfa yfe mL mS mM yro yhe ygr mF mC mY yta mz f2_54 t2_55 v2_43 w2_56 ywa ybi ysi ynu ymo tp v2_43 999 (by omega) (by omega) (by omega) (by omega) (by omega)) kv_X9_287 ⟨rfl, rfl, Nat.le_of_ble_eq_true rfl, Nat.le_of_ble_eq_true rfl⟩ ⟨Nat.le_of_ble_eq_true rfl, Nat.le_of_ble_eq_true rfl⟩ hK hN hZ hP hD hS hA [1, 2] [0] rfl rfl rfl rfl (by decide) 0 rfl rfl rfl rfl hl.1 rfl (Nat.le_of_ble_eq_true rfl) dX9_wayItem_96 (fun u_r_63 H locs hw_r_63 hP hD hS => ?_)
        obtain ⟨f2_64, t2_65, v2_66, w2_67⟩ := u_r_63
        try dsimp only at hw_r_63
        obtain ⟨i_68, i_69, i_70, i_71, i_72, i_73⟩ := hw_r_63
        have hP : va_P D vwCl [(ys, .inl (cI, 449, .inl ms)), (h0, .inr (9, [.ref ys, .ref yk, .ref yo, .ref yt, .int mk0, .ref yfa, .ref yfe, .int mL, .int mS, .int mM, .ref yro, .ref yhe, .ref ygr, .int mF, .int mC, .int mY, .ref yta, .int (nI (mz)), .int (nI (f2_64)), .int (nI (t2_65)), .int v2_66, .int w2_67, .ref ywa, .ref ybi, .ref ysi, .ref ynu, .ref ymo])), (yta, .inl (cI, 120, .inl tp))] H := hP
        have hD : va_D A [(ys, .inl (cI, 449, .inl ms)), (h0, .inr (9, [.ref ys, .ref yk, .ref yo, .ref yt, .int mk0, .ref yfa, .ref yfe, .int mL, .int mS, .int mM, .ref yro, .ref yhe, .ref ygr, .int mF, .int mC, .int mY, .ref yta, .int (nI (mz)), .int (nI (f2_64)), .int (nI (t2_65)), .int v2_66, .int w2_67, .ref ywa, .ref ybi, .ref ysi, .ref ynu, .ref ymo])), (yta, .inl (cI, 120, .inl tp))] := hD
        refine lv_aload_n hx hb dX9_wayItem_99 rfl (lv_at hl 4 rfl) ?_
        refine xg hF kf_X9_275 hK hP 1 rfl rfl dX9_wayItem_100 ?_
        refine lv_istore (lv' := [(4, .int v2_66), (3, .int v2_43), (2, .int (nI (k_25))), (1, .int v2_15), (0, .ref h0)]) hx hb dX9_wayItem_103 hl (by decide) rfl (fun ls hl => ?_)
        refine lv_aload_n hx hb dX9_wayItem_105 rfl (lv_at hl 4 rfl) ?_
        refine lv_bipush (v := 98) hx hb dX9_wayItem_106 (by decide) ?_
        refine lv_bipush (v := 97) hx hb dX9_wayItem_108 (by decide) ?_
        refine lv_bipush (v := 99) hx hb dX9_wayItem_110 (by decide) ?_
        refine lv_bipush (v := 107) hx hb dX9_wayItem_112 (by decide) ?_
        refine lv_iconst (v := 0) hx hb dX9_wayItem_114 (by decide) ?_
        refine lv_iconst (v := 0) hx hb dX9_wayItem_115 (by decide) ?_
        refine lv_iconst (v := 0) hx hb dX9_wayItem_116 (by decide) ?_
        refine xc_Vr hF (c_X9_isWord l D cI cJ cZ cS ta sa sv H.size h0 ys yk yo yt mk0 yfa yfe mL mS mM yro yhe ygr mF mC mY yta mz f2_64 t2_65 v2_66 w2_67 ywa ybi ysi ynu ymo tp 98 97 99 107 0 0 0 (by omega) (by omega)) kv_X9_290 ⟨rfl, rfl, Nat.le_of_ble_eq_true rfl, Nat.le_of_ble_eq_true rfl⟩ ⟨Nat.le_of_ble_eq_true rfl, Nat.le_of_ble_eq_true rfl⟩ hK hN hZ hP hD hS hA [1, 2] rfl rfl 0 rfl rfl rfl rfl hl.1 rfl (Nat.le_of_ble_eq_true rfl) dX9_wayItem_117 (fun r_74 hw_r_74 => ?_)
        rcases hw_r_74 with rfl | rfl
        · skip
          refine lv_istore (lv' := [(5, .int 1), (4, .int v2_66), (3, .int v2_43), (2, .int (nI (k_25))), (1, .int v2_15), (0, .ref h0)]) hx hb dX9_wayItem_120 hl (by decide) rfl (fun ls hl => ?_)
          refine lv_iload hx hb dX9_wayItem_122 (lv_at hl 0 rfl) ?_
          refine lv_if_eq (tgt := 141) hx hb dX9_wayItem_124 (by decide) (fun c_75 => absurd c_75 (by decide)) (fun c_75 => ?_)
          refine lv_aload_n hx hb dX9_wayItem_127 rfl (lv_at hl 5 rfl) ?_
          refine lv_iconst (v := 1) hx hb dX9_wayItem_128 (by decide) ?_
          refine xc_Vv (wr := [(ys, .inl (cI, 449, .inl ms))]) hF (c_X9_needs l D cI cJ cZ cS ta sa sv H.size h0 ys yk yo yt mk0 yfa yfe mL mS mM yro yhe ygr mF mC mY yta mz f2_64 t2_65 v2_66 w2_67 ywa ybi ysi ynu ymo tp 1 (by omega) (by omega) (by omega) (by omega) (by omega)) kv_X9_278 ⟨rfl, rfl, Nat.le_of_ble_eq_true rfl, Nat.le_of_ble_eq_true rfl⟩ ⟨Nat.le_of_ble_eq_true rfl, Nat.le_of_ble_eq_true rfl⟩ hK hN hZ hP hD hS hA [1, 2] [0] rfl rfl rfl rfl (by decide) 0 rfl rfl rfl rfl hl.1 rfl (Nat.le_of_ble_eq_true rfl) dX9_wayItem_129 (fun u_r_76 H locs hw_r_76 hP hD hS => ?_)
          obtain ⟨f2_77, t2_78, w2_79⟩ := u_r_76
          try dsimp only at hw_r_76
          obtain ⟨i_80, i_81, i_82, i_83, i_84, i_85⟩ := hw_r_76
          have hP : va_P D vwCl [(ys, .inl (cI, 449, .inl ms)), (h0, .inr (9, [.ref ys, .ref yk, .ref yo, .ref yt, .int mk0, .ref yfa, .ref yfe, .int mL, .int mS, .int mM, .ref yro, .ref yhe, .ref ygr, .int mF, .int mC, .int mY, .ref yta, .int (nI (mz)), .int (nI (f2_77)), .int (nI (t2_78)), .int v2_66, .int w2_79, .ref ywa, .ref ybi, .ref ysi, .ref ynu, .ref ymo])), (yta, .inl (cI, 120, .inl tp))] H := hP
          have hD : va_D A [(ys, .inl (cI, 449, .inl ms)), (h0, .inr (9, [.ref ys, .ref yk, .ref yo, .ref yt, .int mk0, .ref yfa, .ref yfe, .int mL, .int mS, .int mM, .ref yro, .ref yhe, .ref ygr, .int mF, .int mC, .int mY, .ref yta, .int (nI (mz)), .int (nI (f2_77)), .int (nI (t2_78)), .int v2_66, .int w2_79, .ref ywa, .ref ybi, .ref ysi, .ref ynu, .ref ymo])), (yta, .inl (cI, 120, .inl tp))] := hD
          refine lv_aload_n hx hb dX9_wayItem_132 rfl (lv_at hl 5 rfl) ?_
          refine lv_bipush (v := (-99)) hx hb dX9_wayItem_133 (by decide) ?_
          refine lv_sipush (v := 999) hx hb dX9_wayItem_135 (by decide) ?_
          refine xc_Vv (wr := [(ys, .inl (cI, 449, .inl ms))]) hF (c_X9_mileE l D cI cJ cZ cS ta sa sv H.size h0 ys yk yo yt mk0 yfa yfe mL mS mM yro yhe ygr mF mC mY yta mz f2_77 t2_78 v2_66 w2_79 ywa ybi ysi ynu ymo tp (by omega) (by omega) (by omega) (by omega) (by omega)) kv_X9_287 ⟨rfl, rfl, Nat.le_of_ble_eq_true rfl, Nat.le_of_ble_eq_true rfl⟩ ⟨Nat.le_of_ble_eq_true rfl, Nat.le_of_ble_eq_true rfl⟩ hK hN hZ hP hD hS hA [1, 2] [0] rfl rfl rfl rfl (by decide) 0 rfl rfl rfl rfl hl.1 rfl (Nat.le_of_ble_eq_true rfl) dX9_wayItem_138 (fun u_r_86 H locs hw_r_86 hP hD hS => ?_)
          obtain ⟨f2_87, t2_88, v2_89, w2_90⟩ := u_r_86
          try dsimp only at hw_r_86
          obtain ⟨i_91, i_92, i_93, i_94, i_95, i_96⟩ := hw_r_86
          have hP : va_P D vwCl [(ys, .inl (cI, 449, .inl ms)), (h0, .inr (9, [.ref ys, .ref yk, .ref yo, .ref yt, .int mk0, .ref yfa, .ref yfe, .int mL, .int mS, .int mM, .ref yro, .ref yhe, .ref ygr, .int mF, .int mC, .int mY, .ref yta, .int (nI (mz)), .int (nI (f2_87)), .int (nI (t2_88)), .int v2_89, .int w2_90, .ref ywa, .ref ybi, .ref ysi, .ref ynu, .ref ymo])), (yta, .inl (cI, 120, .inl tp))] H := hP
          have hD : va_D A [(ys, .inl (cI, 449, .inl ms)), (h0, .inr (9, [.ref ys, .ref yk, .ref yo, .ref yt, .int mk0, .ref yfa, .ref yfe, .int mL, .int mS, .int mM, .ref yro, .ref yhe, .ref ygr, .int mF, .int mC, .int mY, .ref yta, .int (nI (mz)), .int (nI (f2_87)), .int (nI (t2_88)), .int v2_89, .int w2_90, .ref ywa, .ref ybi, .ref ysi, .ref ynu, .ref ymo])), (yta, .inl (cI, 120, .inl tp))] := hD
          refine lv_aload_n hx hb dX9_wayItem_141 rfl (lv_at hl 5 rfl) ?_
          refine xg hF kf_X9_266 hK hP 1 rfl rfl dX9_wayItem_142 ?_
          refine lv_if_ne (tgt := 187) hx hb dX9_wayItem_145 (by decide) (fun c_97 => ?_) (fun c_97 => absurd rfl (i_39 (i_50 (i_62 (i_73 (i_85 (i_96 c_97).1).1).1).1).1).2.1)
          exact W.vret hx hb hr (fun t ht hW => ⟨⟨(f2_87, t2_88, v2_89, w2_90, ms), rfl, ⟨(by first | assumption | omega), (by first | assumption | omega), (by first | assumption | omega), (by first | assumption | omega), (by first | assumption | omega), (fun h => ⟨(i_10 (i_22 (i_39 (i_50 (i_62 (i_73 (i_85 (i_96 h).1).1).1).1).1).1).1).1, trivial⟩), hs0, hs1, hs2, hsS, hsM, hsp, hsr, hsw, hsR⟩, by rw [ht]; exact hP.sub [1, 0, 2] rfl, hD.sub [1, 0, 2] (by decide) rfl⟩, hS.F ht⟩) hS.2.2 dX9_wayItem_187 hlk
        · skip
          refine lv_istore (lv' := [(5, .int 0), (4, .int v2_66), (3, .int v2_43), (2, .int (nI (k_25))), (1, .int v2_15), (0, .ref h0)]) hx hb dX9_wayItem_120 hl (by decide) rfl (fun ls hl => ?_)
          refine lv_iload hx hb dX9_wayItem_122 (lv_at hl 0 rfl) ?_
          refine lv_if_eq (tgt := 141) hx hb dX9_wayItem_124 (by decide) (fun c_98 => ?_) (fun c_98 => absurd (by decide) c_98)
          refine lv_aload_n hx hb dX9_wayItem_141 rfl (lv_at hl 5 rfl) ?_
          refine xg hF kf_X9_266 hK hP 1 rfl rfl dX9_wayItem_142 ?_
          refine lv_if_ne (tgt := 187) hx hb dX9_wayItem_145 (by decide) (fun c_99 => ?_) (fun c_99 => absurd rfl (i_39 (i_50 (i_62 (i_73 c_99).1).1).1).2.1)
          exact W.vret hx hb hr (fun t ht hW => ⟨⟨(f2_64, t2_65, v2_66, w2_67, ms), rfl, ⟨(by first | assumption | omega), (by first | assumption | omega), (by first | assumption | omega), (by first | assumption | omega), (by first | assumption | omega), (fun h => ⟨(i_10 (i_22 (i_39 (i_50 (i_62 (i_73 h).1).1).1).1).1).1, trivial⟩), hs0, hs1, hs2, hsS, hsM, hsp, hsr, hsw, hsR⟩, by rw [ht]; exact hP.sub [1, 0, 2] rfl, hD.sub [1, 0, 2] (by decide) rfl⟩, hS.F ht⟩) hS.2.2 dX9_wayItem_187 hlk
      · skip
        refine lv_if_eq (tgt := 105) hx hb dX9_wayItem_83 (by decide) (fun c_100 => ?_) (fun c_100 => absurd (by decide) c_100)
        refine lv_aload_n hx hb dX9_wayItem_105 rfl (lv_at hl 4 rfl) ?_
        refine lv_bipush (v := 98) hx hb dX9_wayItem_106 (by decide) ?_
        refine lv_bipush (v := 97) hx hb dX9_wayItem_108 (by decide) ?_
        refine lv_bipush (v := 99) hx hb dX9_wayItem_110 (by decide) ?_
        refine lv_bipush (v := 107) hx hb dX9_wayItem_112 (by decide) ?_
        refine lv_iconst (v := 0) hx hb dX9_wayItem_114 (by decide) ?_
        refine lv_iconst (v := 0) hx hb dX9_wayItem_115 (by decide) ?_
        refine lv_iconst (v := 0) hx hb dX9_wayItem_116 (by decide) ?_
        refine xc_Vr hF (c_X9_isWord l D cI cJ cZ cS ta sa sv H.size h0 ys yk yo yt mk0 yfa yfe mL mS mM yro yhe ygr mF mC mY yta mz f2_41 t2_42 v2_43 w2_44 ywa ybi ysi ynu ymo tp 98 97 99 107 0 0 0 (by omega) (by omega)) kv_X9_290 ⟨rfl, rfl, Nat.le_of_ble_eq_true rfl, Nat.le_of_ble_eq_true rfl⟩ ⟨Nat.le_of_ble_eq_true rfl, Nat.le_of_ble_eq_true rfl⟩ hK hN hZ hP hD hS hA [1, 2] rfl rfl 0 rfl rfl rfl rfl hl.1 rfl (Nat.le_of_ble_eq_true rfl) dX9_wayItem_117 (fun r_101 hw_r_101 => ?_)
        rcases hw_r_101 with rfl | rfl
        · skip
          refine lv_istore (lv' := [(5, .int 1), (4, .int v2_43), (3, .int v2_43), (2, .int (nI (k_25))), (1, .int v2_15), (0, .ref h0)]) hx hb dX9_wayItem_120 hl (by decide) rfl (fun ls hl => ?_)
          refine lv_iload hx hb dX9_wayItem_122 (lv_at hl 0 rfl) ?_
          refine lv_if_eq (tgt := 141) hx hb dX9_wayItem_124 (by decide) (fun c_102 => absurd c_102 (by decide)) (fun c_102 => ?_)
          refine lv_aload_n hx hb dX9_wayItem_127 rfl (lv_at hl 5 rfl) ?_
          refine lv_iconst (v := 1) hx hb dX9_wayItem_128 (by decide) ?_
          refine xc_Vv (wr := [(ys, .inl (cI, 449, .inl ms))]) hF (c_X9_needs l D cI cJ cZ cS ta sa sv H.size h0 ys yk yo yt mk0 yfa yfe mL mS mM yro yhe ygr mF mC mY yta mz f2_41 t2_42 v2_43 w2_44 ywa ybi ysi ynu ymo tp 1 (by omega) (by omega) (by omega) (by omega) (by omega)) kv_X9_278 ⟨rfl, rfl, Nat.le_of_ble_eq_true rfl, Nat.le_of_ble_eq_true rfl⟩ ⟨Nat.le_of_ble_eq_true rfl, Nat.le_of_ble_eq_true rfl⟩ hK hN hZ hP hD hS hA [1, 2] [0] rfl rfl rfl rfl (by decide) 0 rfl rfl rfl rfl hl.1 rfl (Nat.le_of_ble_eq_true rfl) dX9_wayItem_129 (fun u_r_103 H locs hw_r_103 hP hD hS => ?_)
          obtain ⟨f2_104, t2_105, w2_106⟩ := u_r_103
          try dsimp only at hw_r_103
          obtain ⟨i_107, i_108, i_109, i_110, i_111, i_112⟩ := hw_r_103
          have hP : va_P D vwCl [(ys, .inl (cI, 449, .inl ms)), (h0, .inr (9, [.ref ys, .ref yk, .ref yo, .ref yt, .int mk0, .ref yfa, .ref yfe, .int mL, .int mS, .int mM, .ref yro, .ref yhe, .ref ygr, .int mF, .int mC, .int mY, .ref yta, .int (nI (mz)), .int (nI (f2_104)), .int (nI (t2_105)), .int v2_43, .int w2_106, .ref ywa, .ref ybi, .ref ysi, .ref ynu, .ref ymo])), (yta, .inl (cI, 120, .inl tp))] H := hP
          have hD : va_D A [(ys, .inl (cI, 449, .inl ms)), (h0, .inr (9, [.ref ys, .ref yk, .ref yo, .ref yt, .int mk0, .ref yfa, .ref yfe, .int mL, .int mS, .int mM, .ref yro, .ref yhe, .ref ygr, .int mF, .int mC, .int mY, .ref yta, .int (nI (mz)), .int (nI (f2_104)), .int (nI (t2_105)), .int v2_43, .int w2_106, .ref ywa, .ref ybi, .ref ysi, .ref ynu, .ref ymo])), (yta, .inl (cI, 120, .inl tp))] := hD
          refine lv_aload_n hx hb dX9_wayItem_132 rfl (lv_at hl 5 rfl) ?_
          refine lv_bipush (v := (-99)) hx hb dX9_wayItem_133 (by decide) ?_
          refine lv_sipush (v := 999) hx hb dX9_wayItem_135 (by decide) ?_
          refine xc_Vv (wr := [(ys, .inl (cI, 449, .inl ms))]) hF (c_X9_mileE l D cI cJ cZ cS ta sa sv H.size h0 ys yk yo yt mk0 yfa yfe mL mS mM yro yhe ygr mF mC mY yta mz f2_104 t2_105 v2_43 w2_106 ywa ybi ysi ynu ymo tp (by omega) (by omega) (by omega) (by omega) (by omega)) kv_X9_287 ⟨rfl, rfl, Nat.le_of_ble_eq_true rfl, Nat.le_of_ble_eq_true rfl⟩ ⟨Nat.le_of_ble_eq_true rfl, Nat.le_of_ble_eq_true rfl⟩ hK hN hZ hP hD hS hA [1, 2] [0] rfl rfl rfl rfl (by decide) 0 rfl rfl rfl rfl hl.1 rfl (Nat.le_of_ble_eq_true rfl) dX9_wayItem_138 (fun u_r_113 H locs hw_r_113 hP hD hS => ?_)
          obtain ⟨f2_114, t2_115, v2_116, w2_117⟩ := u_r_113
          try dsimp only at hw_r_113
          obtain ⟨i_118, i_119, i_120, i_121, i_122, i_123⟩ := hw_r_113
          have hP : va_P D vwCl [(ys, .inl (cI, 449, .inl ms)), (h0, .inr (9, [.ref ys, .ref yk, .ref yo, .ref yt, .int mk0, .ref yfa, .ref yfe, .int mL, .int mS, .int mM, .ref yro, .ref yhe, .ref ygr, .int mF, .int mC, .int mY, .ref yta, .int (nI (mz)), .int (nI (f2_114)), .int (nI (t2_115)), .int v2_116, .int w2_117, .ref ywa, .ref ybi, .ref ysi, .ref ynu, .ref ymo])), (yta, .inl (cI, 120, .inl tp))] H := hP
          have hD : va_D A [(ys, .inl (cI, 449, .inl ms)), (h0, .inr (9, [.ref ys, .ref yk, .ref yo, .ref yt, .int mk0, .ref yfa, .ref yfe, .int mL, .int mS, .int mM, .ref yro, .ref yhe, .ref ygr, .int mF, .int mC, .int mY, .ref yta, .int (nI (mz)), .int (nI (f2_114)), .int (nI (t2_115)), .int v2_116, .int w2_117, .ref ywa, .ref ybi, .ref ysi, .ref ynu, .ref ymo])), (yta, .inl (cI, 120, .inl tp))] := hD
          refine lv_aload_n hx hb dX9_wayItem_141 rfl (lv_at hl 5 rfl) ?_
          refine xg hF kf_X9_266 hK hP 1 rfl rfl dX9_wayItem_142 ?_
          refine lv_if_ne (tgt := 187) hx hb dX9_wayItem_145 (by decide) (fun c_124 => ?_) (fun c_124 => absurd rfl (i_39 (i_50 (i_112 (i_123 c_124).1).1).1).2.1)
          exact W.vret hx hb hr (fun t ht hW => ⟨⟨(f2_114, t2_115, v2_116, w2_117, ms), rfl, ⟨(by first | assumption | omega), (by first | assumption | omega), (by first | assumption | omega), (by first | assumption | omega), (by first | assumption | omega), (fun h => ⟨(i_10 (i_22 (i_39 (i_50 (i_112 (i_123 h).1).1).1).1).1).1, trivial⟩), hs0, hs1, hs2, hsS, hsM, hsp, hsr, hsw, hsR⟩, by rw [ht]; exact hP.sub [1, 0, 2] rfl, hD.sub [1, 0, 2] (by decide) rfl⟩, hS.F ht⟩) hS.2.2 dX9_wayItem_187 hlk
        · skip
          refine lv_istore (lv' := [(5, .int 0), (4, .int v2_43), (3, .int v2_43), (2, .int (nI (k_25))), (1, .int v2_15), (0, .ref h0)]) hx hb dX9_wayItem_120 hl (by decide) rfl (fun ls hl => ?_)
          refine lv_iload hx hb dX9_wayItem_122 (lv_at hl 0 rfl) ?_
          refine lv_if_eq (tgt := 141) hx hb dX9_wayItem_124 (by decide) (fun c_125 => ?_) (fun c_125 => absurd (by decide) c_125)
          refine lv_aload_n hx hb dX9_wayItem_141 rfl (lv_at hl 5 rfl) ?_
          refine xg hF kf_X9_266 hK hP 1 rfl rfl dX9_wayItem_142 ?_
          refine lv_if_ne (tgt := 187) hx hb dX9_wayItem_145 (by decide) (fun c_126 => ?_) (fun c_126 => absurd rfl (i_39 (i_50 c_126).1).2.1)
          exact W.vret hx hb hr (fun t ht hW => ⟨⟨(f2_41, t2_42, v2_43, w2_44, ms), rfl, ⟨(by first | assumption | omega), (by first | assumption | omega), (by first | assumption | omega), (by first | assumption | omega), (by first | assumption | omega), (fun h => ⟨(i_10 (i_22 (i_39 (i_50 h).1).1).1).1, trivial⟩), hs0, hs1, hs2, hsS, hsM, hsp, hsr, hsw, hsR⟩, by rw [ht]; exact hP.sub [1, 0, 2] rfl, hD.sub [1, 0, 2] (by decide) rfl⟩, hS.F ht⟩) hS.2.2 dX9_wayItem_187 hlk
    · skip
      refine lv_iconst (v := 1) hx hb dX9_wayItem_42 (by decide) ?_
      refine lv_goto (tgt := 47) hx hb dX9_wayItem_43 (by decide) ?_
      refine xc_Vv (wr := [(ys, .inl (cI, 449, .inl ms))]) hF (c_X9_needs l D cI cJ cZ cS ta sa sv H.size h0 ys yk yo yt mk0 yfa yfe mL mS mM yro yhe ygr mF mC mY yta mz f2_13 t2_14 v2_15 w2_16 ywa ybi ysi ynu ymo tp 1 (by omega) (by omega) (by omega) (by omega) (by omega)) kv_X9_278 ⟨rfl, rfl, Nat.le_of_ble_eq_true rfl, Nat.le_of_ble_eq_true rfl⟩ ⟨Nat.le_of_ble_eq_true rfl, Nat.le_of_ble_eq_true rfl⟩ hK hN hZ hP hD hS hA [1, 2] [0] rfl rfl rfl rfl (by decide) 0 rfl rfl rfl rfl hl.1 rfl (Nat.le_of_ble_eq_true rfl) dX9_wayItem_47 (fun u_r_127 H locs hw_r_127 hP hD hS => ?_)
      obtain ⟨f2_128, t2_129, w2_130⟩ := u_r_127
      try dsimp only at hw_r_127
      obtain ⟨i_131, i_132, i_133, i_134, i_135, i_136⟩ := hw_r_127
      have hP : va_P D vwCl [(ys, .inl (cI, 449, .inl ms)), (h0, .inr (9, [.ref ys, .ref yk, .ref yo, .ref yt, .int mk0, .ref yfa, .ref yfe, .int mL, .int mS, .int mM, .ref yro, .ref yhe, .ref ygr, .int mF, .int mC, .int mY, .ref yta, .int (nI (mz)), .int (nI (f2_128)), .int (nI (t2_129)), .int v2_15, .int w2_130, .ref ywa, .ref ybi, .ref ysi, .ref ynu, .ref ymo])), (yta, .inl (cI, 120, .inl tp))] H := hP
      have hD : va_D A [(ys, .inl (cI, 449, .inl ms)), (h0, .inr (9, [.ref ys, .ref yk, .ref yo, .ref yt, .int mk0, .ref yfa, .ref yfe, .int mL, .int mS, .int mM, .ref yro, .ref yhe, .ref ygr, .int mF, .int mC, .int mY, .ref yta, .int (nI (mz)), .int (nI (f2_128)), .int (nI (t2_129)), .int v2_15, .int w2_130, .ref ywa, .ref ybi, .ref ysi, .ref ynu, .ref ymo])), (yta, .inl (cI, 120, .inl tp))] := hD
      refine lv_aload_n hx hb dX9_wayItem_50 rfl (lv_at hl 2 rfl) ?_
      refine lv_bipush (v := (-99)) hx hb dX9_wayItem_51 (by decide) ?_
      refine lv_sipush (v := 999) hx hb dX9_wayItem_53 (by decide) ?_
      refine xc_Vv (wr := [(ys, .inl (cI, 449, .inl ms))]) hF (c_X9_mileE l D cI cJ cZ cS ta sa sv H.size h0 ys yk yo yt mk0 yfa yfe mL mS mM yro yhe ygr mF mC mY yta mz f2_128 t2_129 v2_15 w2_130 ywa ybi ysi ynu ymo tp (by omega) (by omega) (by omega) (by omega) (by omega)) kv_X9_287 ⟨rfl, rfl, Nat.le_of_ble_eq_true rfl, Nat.le_of_ble_eq_true rfl⟩ ⟨Nat.le_of_ble_eq_true rfl, Nat.le_of_ble_eq_true rfl⟩ hK hN hZ hP hD hS hA [1, 2] [0] rfl rfl rfl rfl (by decide) 0 rfl rfl rfl rfl hl.1 rfl (Nat.le_of_ble_eq_true rfl) dX9_wayItem_56 (fun u_r_137 H locs hw_r_137 hP hD hS => ?_)
      obtain ⟨f2_138, t2_139, v2_140, w2_141⟩ := u_r_137
      try dsimp only at hw_r_137
      obtain ⟨i_142, i_143, i_144, i_145, i_146, i_147⟩ := hw_r_137
      have hP : va_P D vwCl [(ys, .inl (cI, 449, .inl ms)), (h0, .inr (9, [.ref ys, .ref yk, .ref yo, .ref yt, .int mk0, .ref yfa, .ref yfe, .int mL, .int mS, .int mM, .ref yro, .ref yhe, .ref ygr, .int mF, .int mC, .int mY, .ref yta, .int (nI (mz)), .int (nI (f2_138)), .int (nI (t2_139)), .int v2_140, .int w2_141, .ref ywa, .ref ybi, .ref ysi, .ref ynu, .ref ymo])), (yta, .inl (cI, 120, .inl tp))] H := hP
      have hD : va_D A [(ys, .inl (cI, 449, .inl ms)), (h0, .inr (9, [.ref ys, .ref yk, .ref yo, .ref yt, .int mk0, .ref yfa, .ref yfe, .int mL, .int mS, .int mM, .ref yro, .ref yhe, .ref ygr, .int mF, .int mC, .int mY, .ref yta, .int (nI (mz)), .int (nI (f2_138)), .int (nI (t2_139)), .int v2_140, .int w2_141, .ref ywa, .ref ybi, .ref ysi, .ref ynu, .ref ymo])), (yta, .inl (cI, 120, .inl tp))] := hD
      refine lv_aload_n hx hb dX9_wayItem_59 rfl (lv_at hl 2 rfl) ?_
      refine xg hF kf_X9_275 hK hP 1 rfl rfl dX9_wayItem_60 ?_
      refine lv_istore_n (lv' := [(3, .int v2_140), (2, .int (nI (k_25))), (1, .int v2_15), (0, .ref h0)]) hx hb dX9_wayItem_63 rfl hl (by decide) rfl (fun ls hl => ?_)
      refine lv_aload_n hx hb dX9_wayItem_64 rfl (lv_at hl 3 rfl) ?_
      refine xg hF kf_X9_275 hK hP 1 rfl rfl dX9_wayItem_65 ?_
      refine lv_istore (lv' := [(4, .int v2_140), (3, .int v2_140), (2, .int (nI (k_25))), (1, .int v2_15), (0, .ref h0)]) hx hb dX9_wayItem_68 hl (by decide) rfl (fun ls hl => ?_)
      refine lv_aload_n hx hb dX9_wayItem_70 rfl (lv_at hl 4 rfl) ?_
      refine lv_bipush (v := 116) hx hb dX9_wayItem_71 (by decide) ?_
      refine lv_bipush (v := 111) hx hb dX9_wayItem_73 (by decide) ?_
      refine lv_iconst (v := 0) hx hb dX9_wayItem_75 (by decide) ?_
      refine lv_iconst (v := 0) hx hb dX9_wayItem_76 (by decide) ?_
      refine lv_iconst (v := 0) hx hb dX9_wayItem_77 (by decide) ?_
      refine lv_iconst (v := 0) hx hb dX9_wayItem_78 (by decide) ?_
      refine lv_iconst (v := 0) hx hb dX9_wayItem_79 (by decide) ?_
      refine xc_Vr hF (c_X9_isWord l D cI cJ cZ cS ta sa sv H.size h0 ys yk yo yt mk0 yfa yfe mL mS mM yro yhe ygr mF mC mY yta mz f2_138 t2_139 v2_140 w2_141 ywa ybi ysi ynu ymo tp 116 111 0 0 0 0 0 (by omega) (by omega)) kv_X9_290 ⟨rfl, rfl, Nat.le_of_ble_eq_true rfl, Nat.le_of_ble_eq_true rfl⟩ ⟨Nat.le_of_ble_eq_true rfl, Nat.le_of_ble_eq_true rfl⟩ hK hN hZ hP hD hS hA [1, 2] rfl rfl 0 rfl rfl rfl rfl hl.1 rfl (Nat.le_of_ble_eq_true rfl) dX9_wayItem_80 (fun r_148 hw_r_148 => ?_)
      rcases hw_r_148 with rfl | rfl
      · skip
        refine lv_if_eq (tgt := 105) hx hb dX9_wayItem_83 (by decide) (fun c_149 => absurd c_149 (by decide)) (fun c_149 => ?_)
        refine lv_aload_n hx hb dX9_wayItem_86 rfl (lv_at hl 4 rfl) ?_
        refine lv_iconst (v := 1) hx hb dX9_wayItem_87 (by decide) ?_
        refine xc_Vv (wr := [(ys, .inl (cI, 449, .inl ms))]) hF (c_X9_needs l D cI cJ cZ cS ta sa sv H.size h0 ys yk yo yt mk0 yfa yfe mL mS mM yro yhe ygr mF mC mY yta mz f2_138 t2_139 v2_140 w2_141 ywa ybi ysi ynu ymo tp 1 (by omega) (by omega) (by omega) (by omega) (by omega)) kv_X9_278 ⟨rfl, rfl, Nat.le_of_ble_eq_true rfl, Nat.le_of_ble_eq_true rfl⟩ ⟨Nat.le_of_ble_eq_true rfl, Nat.le_of_ble_eq_true rfl⟩ hK hN hZ hP hD hS hA [1, 2] [0] rfl rfl rfl rfl (by decide) 0 rfl rfl rfl rfl hl.1 rfl (Nat.le_of_ble_eq_true rfl) dX9_wayItem_88 (fun u_r_150 H locs hw_r_150 hP hD hS => ?_)
        obtain ⟨f2_151, t2_152, w2_153⟩ := u_r_150
        try dsimp only at hw_r_150
        obtain ⟨i_154, i_155, i_156, i_157, i_158, i_159⟩ := hw_r_150
        have hP : va_P D vwCl [(ys, .inl (cI, 449, .inl ms)), (h0, .inr (9, [.ref ys, .ref yk, .ref yo, .ref yt, .int mk0, .ref yfa, .ref yfe, .int mL, .int mS, .int mM, .ref yro, .ref yhe, .ref ygr, .int mF, .int mC, .int mY, .ref yta, .int (nI (mz)), .int (nI (f2_151)), .int (nI (t2_152)), .int v2_140, .int w2_153, .ref ywa, .ref ybi, .ref ysi, .ref ynu, .ref ymo])), (yta, .inl (cI, 120, .inl tp))] H := hP
        have hD : va_D A [(ys, .inl (cI, 449, .inl ms)), (h0, .inr (9, [.ref ys, .ref yk, .ref yo, .ref yt, .int mk0, .ref yfa, .ref yfe, .int mL, .int mS, .int mM, .ref yro, .ref yhe, .ref ygr, .int mF, .int mC, .int mY, .ref yta, .int (nI (mz)), .int (nI (f2_151)), .int (nI (t2_152)), .int v2_140, .int w2_153, .ref ywa, .ref ybi, .ref ysi, .ref ynu, .ref ymo])), (yta, .inl (cI, 120, .inl tp))] := hD
        refine lv_aload_n hx hb dX9_wayItem_91 rfl (lv_at hl 4 rfl) ?_
        refine lv_iload_n hx hb dX9_wayItem_92 rfl (lv_at hl 1 rfl) ?_
        refine lv_sipush (v := 999) hx hb dX9_wayItem_93 (by decide) ?_
        refine xc_Vv (wr := [(ys, .inl (cI, 449, .inl ms))]) hF (c_X9_mile l D cI cJ cZ cS ta sa sv H.size h0 ys yk yo yt mk0 yfa yfe mL mS mM yro yhe ygr mF mC mY yta mz f2_151 t2_152 v2_140 w2_153 ywa ybi ysi ynu ymo tp v2_140 999 (by omega) (by omega) (by omega) (by omega) (by omega)) kv_X9_287 ⟨rfl, rfl, Nat.le_of_ble_eq_true rfl, Nat.le_of_ble_eq_true rfl⟩ ⟨Nat.le_of_ble_eq_true rfl, Nat.le_of_ble_eq_true rfl⟩ hK hN hZ hP hD hS hA [1, 2] [0] rfl rfl rfl rfl (by decide) 0 rfl rfl rfl rfl hl.1 rfl (Nat.le_of_ble_eq_true rfl) dX9_wayItem_96 (fun u_r_160 H locs hw_r_160 hP hD hS => ?_)
        obtain ⟨f2_161, t2_162, v2_163, w2_164⟩ := u_r_160
        try dsimp only at hw_r_160
        obtain ⟨i_165, i_166, i_167, i_168, i_169, i_170⟩ := hw_r_160
        have hP : va_P D vwCl [(ys, .inl (cI, 449, .inl ms)), (h0, .inr (9, [.ref ys, .ref yk, .ref yo, .ref yt, .int mk0, .ref yfa, .ref yfe, .int mL, .int mS, .int mM, .ref yro, .ref yhe, .ref ygr, .int mF, .int mC, .int mY, .ref yta, .int (nI (mz)), .int (nI (f2_161)), .int (nI (t2_162)), .int v2_163, .int w2_164, .ref ywa, .ref ybi, .ref ysi, .ref ynu, .ref ymo])), (yta, .inl (cI, 120, .inl tp))] H := hP
        have hD : va_D A [(ys, .inl (cI, 449, .inl ms)), (h0, .inr (9, [.ref ys, .ref yk, .ref yo, .ref yt, .int mk0, .ref yfa, .ref yfe, .int mL, .int mS, .int mM, .ref yro, .ref yhe, .ref ygr, .int mF, .int mC, .int mY, .ref yta, .int (nI (mz)), .int (nI (f2_161)), .int (nI (t2_162)), .int v2_163, .int w2_164, .ref ywa, .ref ybi, .ref ysi, .ref ynu, .ref ymo])), (yta, .inl (cI, 120, .inl tp))] := hD
        refine lv_aload_n hx hb dX9_wayItem_99 rfl (lv_at hl 4 rfl) ?_
        refine xg hF kf_X9_275 hK hP 1 rfl rfl dX9_wayItem_100 ?_
        refine lv_istore (lv' := [(4, .int v2_163), (3, .int v2_140), (2, .int (nI (k_25))), (1, .int v2_15), (0, .ref h0)]) hx hb dX9_wayItem_103 hl (by decide) rfl (fun ls hl => ?_)
        refine lv_aload_n hx hb dX9_wayItem_105 rfl (lv_at hl 4 rfl) ?_
        refine lv_bipush (v := 98) hx hb dX9_wayItem_106 (by decide) ?_
        refine lv_bipush (v := 97) hx hb dX9_wayItem_108 (by decide) ?_
        refine lv_bipush (v := 99) hx hb dX9_wayItem_110 (by decide) ?_
        refine lv_bipush (v := 107) hx hb dX9_wayItem_112 (by decide) ?_
        refine lv_iconst (v := 0) hx hb dX9_wayItem_114 (by decide) ?_
        refine lv_iconst (v := 0) hx hb dX9_wayItem_115 (by decide) ?_
        refine lv_iconst (v := 0) hx hb dX9_wayItem_116 (by decide) ?_
        refine xc_Vr hF (c_X9_isWord l D cI cJ cZ cS ta sa sv H.size h0 ys yk yo yt mk0 yfa yfe mL mS mM yro yhe ygr mF mC mY yta mz f2_161 t2_162 v2_163 w2_164 ywa ybi ysi ynu ymo tp 98 97 99 107 0 0 0 (by omega) (by omega)) kv_X9_290 ⟨rfl, rfl, Nat.le_of_ble_eq_true rfl, Nat.le_of_ble_eq_true rfl⟩ ⟨Nat.le_of_ble_eq_true rfl, Nat.le_of_ble_eq_true rfl⟩ hK hN hZ hP hD hS hA [1, 2] rfl rfl 0 rfl rfl rfl rfl hl.1 rfl (Nat.le_of_ble_eq_true rfl) dX9_wayItem_117 (fun r_171 hw_r_171 => ?_)
        rcases hw_r_171 with rfl | rfl
        · skip
          refine lv_istore (lv' := [(5, .int 1), (4, .int v2_163), (3, .int v2_140), (2, .int (nI (k_25))), (1, .int v2_15), (0, .ref h0)]) hx hb dX9_wayItem_120 hl (by decide) rfl (fun ls hl => ?_)
          refine lv_iload hx hb dX9_wayItem_122 (lv_at hl 0 rfl) ?_
          refine lv_if_eq (tgt := 141) hx hb dX9_wayItem_124 (by decide) (fun c_172 => absurd c_172 (by decide)) (fun c_172 => ?_)
          refine lv_aload_n hx hb dX9_wayItem_127 rfl (lv_at hl 5 rfl) ?_
          refine lv_iconst (v := 1) hx hb dX9_wayItem_128 (by decide) ?_
          refine xc_Vv (wr := [(ys, .inl (cI, 449, .inl ms))]) hF (c_X9_needs l D cI cJ cZ cS ta sa sv H.size h0 ys yk yo yt mk0 yfa yfe mL mS mM yro yhe ygr mF mC mY yta mz f2_161 t2_162 v2_163 w2_164 ywa ybi ysi ynu ymo tp 1 (by omega) (by omega) (by omega) (by omega) (by omega)) kv_X9_278 ⟨rfl, rfl, Nat.le_of_ble_eq_true rfl, Nat.le_of_ble_eq_true rfl⟩ ⟨Nat.le_of_ble_eq_true rfl, Nat.le_of_ble_eq_true rfl⟩ hK hN hZ hP hD hS hA [1, 2] [0] rfl rfl rfl rfl (by decide) 0 rfl rfl rfl rfl hl.1 rfl (Nat.le_of_ble_eq_true rfl) dX9_wayItem_129 (fun u_r_173 H locs hw_r_173 hP hD hS => ?_)
          obtain ⟨f2_174, t2_175, w2_176⟩ := u_r_173
          try dsimp only at hw_r_173
          obtain ⟨i_177, i_178, i_179, i_180, i_181, i_182⟩ := hw_r_173
          have hP : va_P D vwCl [(ys, .inl (cI, 449, .inl ms)), (h0, .inr (9, [.ref ys, .ref yk, .ref yo, .ref yt, .int mk0, .ref yfa, .ref yfe, .int mL, .int mS, .int mM, .ref yro, .ref yhe, .ref ygr, .int mF, .int mC, .int mY, .ref yta, .int (nI (mz)), .int (nI (f2_174)), .int (nI (t2_175)), .int v2_163, .int w2_176, .ref ywa, .ref ybi, .ref ysi, .ref ynu, .ref ymo])), (yta, .inl (cI, 120, .inl tp))] H := hP
          have hD : va_D A [(ys, .inl (cI, 449, .inl ms)), (h0, .inr (9, [.ref ys, .ref yk, .ref yo, .ref yt, .int mk0, .ref yfa, .ref yfe, .int mL, .int mS, .int mM, .ref yro, .ref yhe, .ref ygr, .int mF, .int mC, .int mY, .ref yta, .int (nI (mz)), .int (nI (f2_174)), .int (nI (t2_175)), .int v2_163, .int w2_176, .ref ywa, .ref ybi, .ref ysi, .ref ynu, .ref ymo])), (yta, .inl (cI, 120, .inl tp))] := hD
          refine lv_aload_n hx hb dX9_wayItem_132 rfl (lv_at hl 5 rfl) ?_
          refine lv_bipush (v := (-99)) hx hb dX9_wayItem_133 (by decide) ?_
          refine lv_sipush (v := 999) hx hb dX9_wayItem_135 (by decide) ?_
          refine xc_Vv (wr := [(ys, .inl (cI, 449, .inl ms))]) hF (c_X9_mileE l D cI cJ cZ cS ta sa sv H.size h0 ys yk yo yt mk0 yfa yfe mL mS mM yro yhe ygr mF mC mY yta mz f2_174 t2_175 v2_163 w2_176 ywa ybi ysi ynu ymo tp (by omega) (by omega) (by omega) (by omega) (by omega)) kv_X9_287 ⟨rfl, rfl, Nat.le_of_ble_eq_true rfl, Nat.le_of_ble_eq_true rfl⟩ ⟨Nat.le_of_ble_eq_true rfl, Nat.le_of_ble_eq_true rfl⟩ hK hN hZ hP hD hS hA [1, 2] [0] rfl rfl rfl rfl (by decide) 0 rfl rfl rfl rfl hl.1 rfl (Nat.le_of_ble_eq_true rfl) dX9_wayItem_138 (fun u_r_183 H locs hw_r_183 hP hD hS => ?_)
          obtain ⟨f2_184, t2_185, v2_186, w2_187⟩ := u_r_183
          try dsimp only at hw_r_183
          obtain ⟨i_188, i_189, i_190, i_191, i_192, i_193⟩ := hw_r_183
          have hP : va_P D vwCl [(ys, .inl (cI, 449, .inl ms)), (h0, .inr (9, [.ref ys, .ref yk, .ref yo, .ref yt, .int mk0, .ref yfa, .ref yfe, .int mL, .int mS, .int mM, .ref yro, .ref yhe, .ref ygr, .int mF, .int mC, .int mY, .ref yta, .int (nI (mz)), .int (nI (f2_184)), .int (nI (t2_185)), .int v2_186, .int w2_187, .ref ywa, .ref ybi, .ref ysi, .ref ynu, .ref ymo])), (yta, .inl (cI, 120, .inl tp))] H := hP
          have hD : va_D A [(ys, .inl (cI, 449, .inl ms)), (h0, .inr (9, [.ref ys, .ref yk, .ref yo, .ref yt, .int mk0, .ref yfa, .ref yfe, .int mL, .int mS, .int mM, .ref yro, .ref yhe, .ref ygr, .int mF, .int mC, .int mY, .ref yta, .int (nI (mz)), .int (nI (f2_184)), .int (nI (t2_185)), .int v2_186, .int w2_187, .ref ywa, .ref ybi, .ref ysi, .ref ynu, .ref ymo])), (yta, .inl (cI, 120, .inl tp))] := hD
          refine lv_aload_n hx hb dX9_wayItem_141 rfl (lv_at hl 5 rfl) ?_
          refine xg hF kf_X9_266 hK hP 1 rfl rfl dX9_wayItem_142 ?_
          refine lv_if_ne (tgt := 187) hx hb dX9_wayItem_145 (by decide) (fun c_194 => ?_) (fun c_194 => ?_)
          · skip
            exact W.vret hx hb hr (fun t ht hW => ⟨⟨(f2_184, t2_185, v2_186, w2_187, ms), rfl, ⟨(by first | assumption | omega), (by first | assumption | omega), (by first | assumption | omega), (by first | assumption | omega), (by first | assumption | omega), (fun h => ⟨(i_10 (i_22 (i_136 (i_147 (i_159 (i_170 (i_182 (i_193 h).1).1).1).1).1).1).1).1, trivial⟩), hs0, hs1, hs2, hsS, hsM, hsp, hsr, hsw, hsR⟩, by rw [ht]; exact hP.sub [1, 0, 2] rfl, hD.sub [1, 0, 2] (by decide) rfl⟩, hS.F ht⟩) hS.2.2 dX9_wayItem_187 hlk
          · skip
            obtain ⟨y_195, hy_195, rfl⟩ := x_pl3 (by omega) ex_11 (i_22 (i_136 (i_147 (i_159 (i_170 (i_182 (i_193 c_194).1).1).1).1).1).1).2.1 (i_22 (i_136 (i_147 (i_159 (i_170 (i_182 (i_193 c_194).1).1).1).1).1).1).2.2
            refine lv_aload_n hx hb dX9_wayItem_148 rfl (lv_at hl 5 rfl) ?_
            refine lv_iload_n hx hb dX9_wayItem_149 rfl (lv_at hl 4 rfl) ?_
            refine lv_iload_n hx hb dX9_wayItem_150 rfl (lv_at hl 3 rfl) ?_
            refine lv_iload_n hx hb dX9_wayItem_151 rfl (lv_at hl 2 rfl) ?_
            refine lv_iload hx hb dX9_wayItem_152 (lv_at hl 1 rfl) ?_
            refine xc_Vi (wr := [(yta, .inl (cI, 120, .inl tp))]) hF (c_X9_makes l D cI cJ cZ cS ta sa sv H.size h0 ys yk yo yt mk0 yfa yfe mL mS mM yro yhe ygr mF mC mY yta mz f2_184 t2_185 v2_186 w2_187 ywa ybi ysi ynu ymo ms P Rn Wn y_195 k_25 v2_140 v2_163 (by omega) (by omega) (i_147 (i_159 (i_170 (i_182 (i_193 c_194).1).1).1).1).2 hs0 hs1 hs2 hsS hsM hsp hsr hsw hsR) kv_X9_87 ⟨rfl, rfl, Nat.le_of_ble_eq_true rfl, Nat.le_of_ble_eq_true rfl⟩ ⟨Nat.le_of_ble_eq_true rfl, Nat.le_of_ble_eq_true rfl⟩ hK hN hZ hP hD hS hA [1, 0] [2] rfl rfl rfl rfl (by decide) 0 rfl rfl rfl rfl hl.1 rfl (Nat.le_of_ble_eq_true rfl) dX9_wayItem_154 (fun r_196 u_r_196 H locs hw_r_196 hP hD hS => ?_)
            obtain ⟨ms2_197, rfl⟩ : ∃ z, z = u_r_196 := ⟨_, rfl⟩
            try dsimp only at hw_r_196
            obtain ⟨hw_r_196, i_198, i_199, i_200, i_201, i_202, i_203, i_204, i_205, i_206⟩ := hw_r_196
            have hP : va_P D vwCl [(yta, .inl (cI, 120, .inl tp)), (h0, .inr (9, [.ref ys, .ref yk, .ref yo, .ref yt, .int mk0, .ref yfa, .ref yfe, .int mL, .int mS, .int mM, .ref yro, .ref yhe, .ref ygr, .int mF, .int mC, .int mY, .ref yta, .int (nI (mz)), .int (nI (f2_184)), .int (nI (t2_185)), .int v2_186, .int w2_187, .ref ywa, .ref ybi, .ref ysi, .ref ynu, .ref ymo])), (ys, .inl (cI, 449, .inl ms2_197))] H := hP
            have hD : va_D A [(yta, .inl (cI, 120, .inl tp)), (h0, .inr (9, [.ref ys, .ref yk, .ref yo, .ref yt, .int mk0, .ref yfa, .ref yfe, .int mL, .int mS, .int mM, .ref yro, .ref yhe, .ref ygr, .int mF, .int mC, .int mY, .ref yta, .int (nI (mz)), .int (nI (f2_184)), .int (nI (t2_185)), .int v2_186, .int w2_187, .ref ywa, .ref ybi, .ref ysi, .ref ynu, .ref ymo])), (ys, .inl (cI, 449, .inl ms2_197))] := hD
            refine lv_istore (lv' := [(6, .int r_196), (5, .int 1), (4, .int v2_163), (3, .int v2_140), (2, .int (nI (k_25))), (1, .int (nI (y_195))), (0, .ref h0)]) hx hb dX9_wayItem_157 hl (by decide) rfl (fun ls hl => ?_)
            refine lv_iload hx hb dX9_wayItem_159 (lv_at hl 0 rfl) ?_
            refine lv_iload hx hb dX9_wayItem_161 (lv_at hl 1 rfl) ?_
            refine lv_if_eq (tgt := 183) hx hb dX9_wayItem_163 (by decide) (fun c_207 => absurd c_207 (by decide)) (fun c_207 => ?_)
            refine lv_aload_n hx hb dX9_wayItem_166 rfl (lv_at hl 6 rfl) ?_
            refine lv_iload_n hx hb dX9_wayItem_167 rfl (lv_at hl 4 rfl) ?_
            refine lv_iload_n hx hb dX9_wayItem_168 rfl (lv_at hl 5 rfl) ?_
            refine lv_aload_n hx hb dX9_wayItem_169 rfl (lv_at hl 6 rfl) ?_
            refine xg hF kf_X9_275 hK hP 1 rfl rfl dX9_wayItem_170 ?_
            refine lv_aload_n hx hb dX9_wayItem_173 rfl (lv_at hl 6 rfl) ?_
            refine xg hF kf_X9_275 hK hP 1 rfl rfl dX9_wayItem_174 ?_
            refine xc_Vi (wr := [(yta, .inl (cI, 120, .inl tp))]) hF (c_X9_makes l D cI cJ cZ cS ta sa sv H.size h0 ys yk yo yt mk0 yfa yfe mL mS mM yro yhe ygr mF mC mY yta mz f2_184 t2_185 v2_186 w2_187 ywa ybi ysi ynu ymo ms2_197 P Rn Wn k_25 y_195 v2_186 v2_186 (by omega) (by omega) (i_193 c_194).2 i_198 i_199 i_200 i_201 i_202 i_203 i_204 i_205 i_206) kv_X9_87 ⟨rfl, rfl, Nat.le_of_ble_eq_true rfl, Nat.le_of_ble_eq_true rfl⟩ ⟨Nat.le_of_ble_eq_true rfl, Nat.le_of_ble_eq_true rfl⟩ hK hN hZ hP hD hS hA [1, 2] [0] rfl rfl rfl rfl (by decide) 0 rfl rfl rfl rfl hl.1 rfl (Nat.le_of_ble_eq_true rfl) dX9_wayItem_177 (fun r_208 u_r_208 H locs hw_r_208 hP hD hS => ?_)
            obtain ⟨ms2_209, rfl⟩ : ∃ z, z = u_r_208 := ⟨_, rfl⟩
            try dsimp only at hw_r_208
            obtain ⟨hw_r_208, i_210, i_211, i_212, i_213, i_214, i_215, i_216, i_217, i_218⟩ := hw_r_208
            have hP : va_P D vwCl [(yta, .inl (cI, 120, .inl tp)), (h0, .inr (9, [.ref ys, .ref yk, .ref yo, .ref yt, .int mk0, .ref yfa, .ref yfe, .int mL, .int mS, .int mM, .ref yro, .ref yhe, .ref ygr, .int mF, .int mC, .int mY, .ref yta, .int (nI (mz)), .int (nI (f2_184)), .int (nI (t2_185)), .int v2_186, .int w2_187, .ref ywa, .ref ybi, .ref ysi, .ref ynu, .ref ymo])), (ys, .inl (cI, 449, .inl ms2_209))] H := hP
            have hD : va_D A [(yta, .inl (cI, 120, .inl tp)), (h0, .inr (9, [.ref ys, .ref yk, .ref yo, .ref yt, .int mk0, .ref yfa, .ref yfe, .int mL, .int mS, .int mM, .ref yro, .ref yhe, .ref ygr, .int mF, .int mC, .int mY, .ref yta, .int (nI (mz)), .int (nI (f2_184)), .int (nI (t2_185)), .int v2_186, .int w2_187, .ref ywa, .ref ybi, .ref ysi, .ref ynu, .ref ymo])), (ys, .inl (cI, 449, .inl ms2_209))] := hD
            refine lv_goto (tgt := 184) hx hb dX9_wayItem_180 (by decide) ?_
            refine lv_iadd hx hb dX9_wayItem_184 ?_
            refine lv_topi (fun x_219 ex_219 => ?_)
            refine lv_istore (lv' := [(6, .int x_219), (5, .int 1), (4, .int v2_163), (3, .int v2_140), (2, .int (nI (k_25))), (1, .int (nI (y_195))), (0, .ref h0)]) hx hb dX9_wayItem_185 hl (by decide) rfl (fun ls hl => ?_)
            exact W.vret hx hb hr (fun t ht hW => ⟨⟨(f2_184, t2_185, v2_186, w2_187, ms2_209), rfl, ⟨(by first | assumption | omega), (by first | assumption | omega), (by first | assumption | omega), (by first | assumption | omega), (by first | assumption | omega), (fun h => ⟨(i_10 (i_22 (i_136 (i_147 (i_159 (i_170 (i_182 (i_193 h).1).1).1).1).1).1).1).1, trivial⟩), i_210, i_211, i_212, i_213, i_214, i_215, i_216, i_217, i_218⟩, by rw [ht]; exact hP.sub [1, 2, 0] rfl, hD.sub [1, 2, 0] (by decide) rfl⟩, hS.F ht⟩) hS.2.2 dX9_wayItem_187 hlk
        · skip
          refine lv_istore (lv' := [(5, .int 0), (4, .int v2_163), (3, .int v2_140), (2, .int (nI (k_25))), (1, .int v2_15), (0, .ref h0)]) hx hb dX9_wayItem_120 hl (by decide) rfl (fun ls hl => ?_)
          refine lv_iload hx hb dX9_wayItem_122 (lv_at hl 0 rfl) ?_
          refine lv_if_eq (tgt := 141) hx hb dX9_wayItem_124 (by decide) (fun c_220 => ?_) (fun c_220 => absurd (by decide) c_220)
          refine lv_aload_n hx hb dX9_wayItem_141 rfl (lv_at hl 5 rfl) ?_
          refine xg hF kf_X9_266 hK hP 1 rfl rfl dX9_wayItem_142 ?_
          refine lv_if_ne (tgt := 187) hx hb dX9_wayItem_145 (by decide) (fun c_221 => ?_) (fun c_221 => ?_)
          · skip
            exact W.vret hx hb hr (fun t ht hW => ⟨⟨(f2_161, t2_162, v2_163, w2_164, ms), rfl, ⟨(by first | assumption | omega), (by first | assumption | omega), (by first | assumption | omega), (by first | assumption | omega), (by first | assumption | omega), (fun h => ⟨(i_10 (i_22 (i_136 (i_147 (i_159 (i_170 h).1).1).1).1).1).1, trivial⟩), hs0, hs1, hs2, hsS, hsM, hsp, hsr, hsw, hsR⟩, by rw [ht]; exact hP.sub [1, 0, 2] rfl, hD.sub [1, 0, 2] (by decide) rfl⟩, hS.F ht⟩) hS.2.2 dX9_wayItem_187 hlk
          · skip
            obtain ⟨y_222, hy_222, rfl⟩ := x_pl3 (by omega) ex_11 (i_22 (i_136 (i_147 (i_159 (i_170 c_221).1).1).1).1).2.1 (i_22 (i_136 (i_147 (i_159 (i_170 c_221).1).1).1).1).2.2
            refine lv_aload_n hx hb dX9_wayItem_148 rfl (lv_at hl 5 rfl) ?_
            refine lv_iload_n hx hb dX9_wayItem_149 rfl (lv_at hl 4 rfl) ?_
            refine lv_iload_n hx hb dX9_wayItem_150 rfl (lv_at hl 3 rfl) ?_
            refine lv_iload_n hx hb dX9_wayItem_151 rfl (lv_at hl 2 rfl) ?_
            refine lv_iload hx hb dX9_wayItem_152 (lv_at hl 1 rfl) ?_
            refine xc_Vi (wr := [(yta, .inl (cI, 120, .inl tp))]) hF (c_X9_makes l D cI cJ cZ cS ta sa sv H.size h0 ys yk yo yt mk0 yfa yfe mL mS mM yro yhe ygr mF mC mY yta mz f2_161 t2_162 v2_163 w2_164 ywa ybi ysi ynu ymo ms P Rn Wn y_222 k_25 v2_140 v2_163 (by omega) (by omega) (i_147 (i_159 (i_170 c_221).1).1).2 hs0 hs1 hs2 hsS hsM hsp hsr hsw hsR) kv_X9_87 ⟨rfl, rfl, Nat.le_of_ble_eq_true rfl, Nat.le_of_ble_eq_true rfl⟩ ⟨Nat.le_of_ble_eq_true rfl, Nat.le_of_ble_eq_true rfl⟩ hK hN hZ hP hD hS hA [1, 0] [2] rfl rfl rfl rfl (by decide) 0 rfl rfl rfl rfl hl.1 rfl (Nat.le_of_ble_eq_true rfl) dX9_wayItem_154 (fun r_223 u_r_223 H locs hw_r_223 hP hD hS => ?_)
            obtain ⟨ms2_224, rfl⟩ : ∃ z, z = u_r_223 := ⟨_, rfl⟩
            try dsimp only at hw_r_223
            obtain ⟨hw_r_223, i_225, i_226, i_227, i_228, i_229, i_230, i_231, i_232, i_233⟩ := hw_r_223
            have hP : va_P D vwCl [(yta, .inl (cI, 120, .inl tp)), (h0, .inr (9, [.ref ys, .ref yk, .ref yo, .ref yt, .int mk0, .ref yfa, .ref yfe, .int mL, .int mS, .int mM, .ref yro, .ref yhe, .ref ygr, .int mF, .int mC, .int mY, .ref yta, .int (nI (mz)), .int (nI (f2_161)), .int (nI (t2_162)), .int v2_163, .int w2_164, .ref ywa, .ref ybi, .ref ysi, .ref ynu, .ref ymo])), (ys, .inl (cI, 449, .inl ms2_224))] H := hP
            have hD : va_D A [(yta, .inl (cI, 120, .inl tp)), (h0, .inr (9, [.ref ys, .ref yk, .ref yo, .ref yt, .int mk0, .ref yfa, .ref yfe, .int mL, .int mS, .int mM, .ref yro, .ref yhe, .ref ygr, .int mF, .int mC, .int mY, .ref yta, .int (nI (mz)), .int (nI (f2_161)), .int (nI (t2_162)), .int v2_163, .int w2_164, .ref ywa, .ref ybi, .ref ysi, .ref ynu, .ref ymo])), (ys, .inl (cI, 449, .inl ms2_224))] := hD
            refine lv_istore (lv' := [(6, .int r_223), (5, .int 0), (4, .int v2_163), (3, .int v2_140), (2, .int (nI (k_25))), (1, .int (nI (y_222))), (0, .ref h0)]) hx hb dX9_wayItem_157 hl (by decide) rfl (fun ls hl => ?_)
            refine lv_iload hx hb dX9_wayItem_159 (lv_at hl 0 rfl) ?_
            refine lv_iload hx hb dX9_wayItem_161 (lv_at hl 1 rfl) ?_
            refine lv_if_eq (tgt := 183) hx hb dX9_wayItem_163 (by decide) (fun c_234 => ?_) (fun c_234 => absurd (by decide) c_234)
            refine lv_iconst (v := 0) hx hb dX9_wayItem_183 (by decide) ?_
            refine lv_iadd hx hb dX9_wayItem_184 ?_
            refine lv_topi (fun x_235 ex_235 => ?_)
            refine lv_istore (lv' := [(6, .int x_235), (5, .int 0), (4, .int v2_163), (3, .int v2_140), (2, .int (nI (k_25))), (1, .int (nI (y_222))), (0, .ref h0)]) hx hb dX9_wayItem_185 hl (by decide) rfl (fun ls hl => ?_)
            exact W.vret hx hb hr (fun t ht hW => ⟨⟨(f2_161, t2_162, v2_163, w2_164, ms2_224), rfl, ⟨(by first | assumption | omega), (by first | assumption | omega), (by first | assumption | omega), (by first | assumption | omega), (by first | assumption | omega), (fun h => ⟨(i_10 (i_22 (i_136 (i_147 (i_159 (i_170 h).1).1).1).1).1).1, trivial⟩), i_225, i_226, i_227, i_228, i_229, i_230, i_231, i_232, i_233⟩, by rw [ht]; exact hP.sub [1, 2, 0] rfl, hD.sub [1, 2, 0] (by decide) rfl⟩, hS.F ht⟩) hS.2.2 dX9_wayItem_187 hlk
      · skip
        refine lv_if_eq (tgt := 105) hx hb dX9_wayItem_83 (by decide) (fun c_236 => ?_) (fun c_236 => absurd (by decide) c_236)
        refine lv_aload_n hx hb dX9_wayItem_105 rfl (lv_at hl 4 rfl) ?_
        refine lv_bipush (v := 98) hx hb dX9_wayItem_106 (by decide) ?_
        refine lv_bipush (v := 97) hx hb dX9_wayItem_108 (by decide) ?_
        refine lv_bipush (v := 99) hx hb dX9_wayItem_110 (by decide) ?_
        refine lv_bipush (v := 107) hx hb dX9_wayItem_112 (by decide) ?_
        refine lv_iconst (v := 0) hx hb dX9_wayItem_114 (by decide) ?_
        refine lv_iconst (v := 0) hx hb dX9_wayItem_115 (by decide) ?_
        refine lv_iconst (v := 0) hx hb dX9_wayItem_116 (by decide) ?_
        refine xc_Vr hF (c_X9_isWord l D cI cJ cZ cS ta sa sv H.size h0 ys yk yo yt mk0 yfa yfe mL mS mM yro yhe ygr mF mC mY yta mz f2_138 t2_139 v2_140 w2_141 ywa ybi ysi ynu ymo tp 98 97 99 107 0 0 0 (by omega) (by omega)) kv_X9_290 ⟨rfl, rfl, Nat.le_of_ble_eq_true rfl, Nat.le_of_ble_eq_true rfl⟩ ⟨Nat.le_of_ble_eq_true rfl, Nat.le_of_ble_eq_true rfl⟩ hK hN hZ hP hD hS hA [1, 2] rfl rfl 0 rfl rfl rfl rfl hl.1 rfl (Nat.le_of_ble_eq_true rfl) dX9_wayItem_117 (fun r_237 hw_r_237 => ?_)
        rcases hw_r_237 with rfl | rfl
        · skip
          refine lv_istore (lv' := [(5, .int 1), (4, .int v2_140), (3, .int v2_140), (2, .int (nI (k_25))), (1, .int v2_15), (0, .ref h0)]) hx hb dX9_wayItem_120 hl (by decide) rfl (fun ls hl => ?_)
          refine lv_iload hx hb dX9_wayItem_122 (lv_at hl 0 rfl) ?_
          refine lv_if_eq (tgt := 141) hx hb dX9_wayItem_124 (by decide) (fun c_238 => absurd c_238 (by decide)) (fun c_238 => ?_)
          refine lv_aload_n hx hb dX9_wayItem_127 rfl (lv_at hl 5 rfl) ?_
          refine lv_iconst (v := 1) hx hb dX9_wayItem_128 (by decide) ?_
          refine xc_Vv (wr := [(ys, .inl (cI, 449, .inl ms))]) hF (c_X9_needs l D cI cJ cZ cS ta sa sv H.size h0 ys yk yo yt mk0 yfa yfe mL mS mM yro yhe ygr mF mC mY yta mz f2_138 t2_139 v2_140 w2_141 ywa ybi ysi ynu ymo tp 1 (by omega) (by omega) (by omega) (by omega) (by omega)) kv_X9_278 ⟨rfl, rfl, Nat.le_of_ble_eq_true rfl, Nat.le_of_ble_eq_true rfl⟩ ⟨Nat.le_of_ble_eq_true rfl, Nat.le_of_ble_eq_true rfl⟩ hK hN hZ hP hD hS hA [1, 2] [0] rfl rfl rfl rfl (by decide) 0 rfl rfl rfl rfl hl.1 rfl (Nat.le_of_ble_eq_true rfl) dX9_wayItem_129 (fun u_r_239 H locs hw_r_239 hP hD hS => ?_)
          obtain ⟨f2_240, t2_241, w2_242⟩ := u_r_239
          try dsimp only at hw_r_239
          obtain ⟨i_243, i_244, i_245, i_246, i_247, i_248⟩ := hw_r_239
          have hP : va_P D vwCl [(ys, .inl (cI, 449, .inl ms)), (h0, .inr (9, [.ref ys, .ref yk, .ref yo, .ref yt, .int mk0, .ref yfa, .ref yfe, .int mL, .int mS, .int mM, .ref yro, .ref yhe, .ref ygr, .int mF, .int mC, .int mY, .ref yta, .int (nI (mz)), .int (nI (f2_240)), .int (nI (t2_241)), .int v2_140, .int w2_242, .ref ywa, .ref ybi, .ref ysi, .ref ynu, .ref ymo])), (yta, .inl (cI, 120, .inl tp))] H := hP
          have hD : va_D A [(ys, .inl (cI, 449, .inl ms)), (h0, .inr (9, [.ref ys, .ref yk, .ref yo, .ref yt, .int mk0, .ref yfa, .ref yfe, .int mL, .int mS, .int mM, .ref yro, .ref yhe, .ref ygr, .int mF, .int mC, .int mY, .ref yta, .int (nI (mz)), .int (nI (f2_240)), .int (nI (t2_241)), .int v2_140, .int w2_242, .ref ywa, .ref ybi, .ref ysi, .ref ynu, .ref ymo])), (yta, .inl (cI, 120, .inl tp))] := hD
          refine lv_aload_n hx hb dX9_wayItem_132 rfl (lv_at hl 5 rfl) ?_
          refine lv_bipush (v := (-99)) hx hb dX9_wayItem_133 (by decide) ?_
          refine lv_sipush (v := 999) hx hb dX9_wayItem_135 (by decide) ?_
          refine xc_Vv (wr := [(ys, .inl (cI, 449, .inl ms))]) hF (c_X9_mileE l D cI cJ cZ cS ta sa sv H.size h0 ys yk yo yt mk0 yfa yfe mL mS mM yro yhe ygr mF mC mY yta mz f2_240 t2_241 v2_140 w2_242 ywa ybi ysi ynu ymo tp (by omega) (by omega) (by omega) (by omega) (by omega)) kv_X9_287 ⟨rfl, rfl, Nat.le_of_ble_eq_true rfl, Nat.le_of_ble_eq_true rfl⟩ ⟨Nat.le_of_ble_eq_true rfl, Nat.le_of_ble_eq_true rfl⟩ hK hN hZ hP hD hS hA [1, 2] [0] rfl rfl rfl rfl (by decide) 0 rfl rfl rfl rfl hl.1 rfl (Nat.le_of_ble_eq_true rfl) dX9_wayItem_138 (fun u_r_249 H locs hw_r_249 hP hD hS => ?_)
          obtain ⟨f2_250, t2_251, v2_252, w2_253⟩ := u_r_249
          try dsimp only at hw_r_249
          obtain ⟨i_254, i_255, i_256, i_257, i_258, i_259⟩ := hw_r_249
          have hP : va_P D vwCl [(ys, .inl (cI, 449, .inl ms)), (h0, .inr (9, [.ref ys, .ref yk, .ref yo, .ref yt, .int mk0, .ref yfa, .ref yfe, .int mL, .int mS, .int mM, .ref yro, .ref yhe, .ref ygr, .int mF, .int mC, .int mY, .ref yta, .int (nI (mz)), .int (nI (f2_250)), .int (nI (t2_251)), .int v2_252, .int w2_253, .ref ywa, .ref ybi, .ref ysi, .ref ynu, .ref ymo])), (yta, .inl (cI, 120, .inl tp))] H := hP
          have hD : va_D A [(ys, .inl (cI, 449, .inl ms)), (h0, .inr (9, [.ref ys, .ref yk, .ref yo, .ref yt, .int mk0, .ref yfa, .ref yfe, .int mL, .int mS, .int mM, .ref yro, .ref yhe, .ref ygr, .int mF, .int mC, .int mY, .ref yta, .int (nI (mz)), .int (nI (f2_250)), .int (nI (t2_251)), .int v2_252, .int w2_253, .ref ywa, .ref ybi, .ref ysi, .ref ynu, .ref ymo])), (yta, .inl (cI, 120, .inl tp))] := hD
          refine lv_aload_n hx hb dX9_wayItem_141 rfl (lv_at hl 5 rfl) ?_
          refine xg hF kf_X9_266 hK hP 1 rfl rfl dX9_wayItem_142 ?_
          refine lv_if_ne (tgt := 187) hx hb dX9_wayItem_145 (by decide) (fun c_260 => ?_) (fun c_260 => ?_)
          · skip
            exact W.vret hx hb hr (fun t ht hW => ⟨⟨(f2_250, t2_251, v2_252, w2_253, ms), rfl, ⟨(by first | assumption | omega), (by first | assumption | omega), (by first | assumption | omega), (by first | assumption | omega), (by first | assumption | omega), (fun h => ⟨(i_10 (i_22 (i_136 (i_147 (i_248 (i_259 h).1).1).1).1).1).1, trivial⟩), hs0, hs1, hs2, hsS, hsM, hsp, hsr, hsw, hsR⟩, by rw [ht]; exact hP.sub [1, 0, 2] rfl, hD.sub [1, 0, 2] (by decide) rfl⟩, hS.F ht⟩) hS.2.2 dX9_wayItem_187 hlk
          · skip
            obtain ⟨y_261, hy_261, rfl⟩ := x_pl3 (by omega) ex_11 (i_22 (i_136 (i_147 (i_248 (i_259 c_260).1).1).1).1).2.1 (i_22 (i_136 (i_147 (i_248 (i_259 c_260).1).1).1).1).2.2
            refine lv_aload_n hx hb dX9_wayItem_148 rfl (lv_at hl 5 rfl) ?_
            refine lv_iload_n hx hb dX9_wayItem_149 rfl (lv_at hl 4 rfl) ?_
            refine lv_iload_n hx hb dX9_wayItem_150 rfl (lv_at hl 3 rfl) ?_
            refine lv_iload_n hx hb dX9_wayItem_151 rfl (lv_at hl 2 rfl) ?_
            refine lv_iload hx hb dX9_wayItem_152 (lv_at hl 1 rfl) ?_
            refine xc_Vi (wr := [(yta, .inl (cI, 120, .inl tp))]) hF (c_X9_makes l D cI cJ cZ cS ta sa sv H.size h0 ys yk yo yt mk0 yfa yfe mL mS mM yro yhe ygr mF mC mY yta mz f2_250 t2_251 v2_252 w2_253 ywa ybi ysi ynu ymo ms P Rn Wn y_261 k_25 v2_140 v2_140 (by omega) (by omega) (i_147 (i_248 (i_259 c_260).1).1).2 hs0 hs1 hs2 hsS hsM hsp hsr hsw hsR) kv_X9_87 ⟨rfl, rfl, Nat.le_of_ble_eq_true rfl, Nat.le_of_ble_eq_true rfl⟩ ⟨Nat.le_of_ble_eq_true rfl, Nat.le_of_ble_eq_true rfl⟩ hK hN hZ hP hD hS hA [1, 0] [2] rfl rfl rfl rfl (by decide) 0 rfl rfl rfl rfl hl.1 rfl (Nat.le_of_ble_eq_true rfl) dX9_wayItem_154 (fun r_262 u_r_262 H locs hw_r_262 hP hD hS => ?_)
            obtain ⟨ms2_263, rfl⟩ : ∃ z, z = u_r_262 := ⟨_, rfl⟩
            try dsimp only at hw_r_262
            obtain ⟨hw_r_262, i_264, i_265, i_266, i_267, i_268, i_269, i_270, i_271, i_272⟩ := hw_r_262
            have hP : va_P D vwCl [(yta, .inl (cI, 120, .inl tp)), (h0, .inr (9, [.ref ys, .ref yk, .ref yo, .ref yt, .int mk0, .ref yfa, .ref yfe, .int mL, .int mS, .int mM, .ref yro, .ref yhe, .ref ygr, .int mF, .int mC, .int mY, .ref yta, .int (nI (mz)), .int (nI (f2_250)), .int (nI (t2_251)), .int v2_252, .int w2_253, .ref ywa, .ref ybi, .ref ysi, .ref ynu, .ref ymo])), (ys, .inl (cI, 449, .inl ms2_263))] H := hP
            have hD : va_D A [(yta, .inl (cI, 120, .inl tp)), (h0, .inr (9, [.ref ys, .ref yk, .ref yo, .ref yt, .int mk0, .ref yfa, .ref yfe, .int mL, .int mS, .int mM, .ref yro, .ref yhe, .ref ygr, .int mF, .int mC, .int mY, .ref yta, .int (nI (mz)), .int (nI (f2_250)), .int (nI (t2_251)), .int v2_252, .int w2_253, .ref ywa, .ref ybi, .ref ysi, .ref ynu, .ref ymo])), (ys, .inl (cI, 449, .inl ms2_263))] := hD
            refine lv_istore (lv' := [(6, .int r_262), (5, .int 1), (4, .int v2_140), (3, .int v2_140), (2, .int (nI (k_25))), (1, .int (nI (y_261))), (0, .ref h0)]) hx hb dX9_wayItem_157 hl (by decide) rfl (fun ls hl => ?_)
            refine lv_iload hx hb dX9_wayItem_159 (lv_at hl 0 rfl) ?_
            refine lv_iload hx hb dX9_wayItem_161 (lv_at hl 1 rfl) ?_
            refine lv_if_eq (tgt := 183) hx hb dX9_wayItem_163 (by decide) (fun c_273 => absurd c_273 (by decide)) (fun c_273 => ?_)
            refine lv_aload_n hx hb dX9_wayItem_166 rfl (lv_at hl 6 rfl) ?_
            refine lv_iload_n hx hb dX9_wayItem_167 rfl (lv_at hl 4 rfl) ?_
            refine lv_iload_n hx hb dX9_wayItem_168 rfl (lv_at hl 5 rfl) ?_
            refine lv_aload_n hx hb dX9_wayItem_169 rfl (lv_at hl 6 rfl) ?_
            refine xg hF kf_X9_275 hK hP 1 rfl rfl dX9_wayItem_170 ?_
            refine lv_aload_n hx hb dX9_wayItem_173 rfl (lv_at hl 6 rfl) ?_
            refine xg hF kf_X9_275 hK hP 1 rfl rfl dX9_wayItem_174 ?_
            refine xc_Vi (wr := [(yta, .inl (cI, 120, .inl tp))]) hF (c_X9_makes l D cI cJ cZ cS ta sa sv H.size h0 ys yk yo yt mk0 yfa yfe mL mS mM yro yhe ygr mF mC mY yta mz f2_250 t2_251 v2_252 w2_253 ywa ybi ysi ynu ymo ms2_263 P Rn Wn k_25 y_261 v2_252 v2_252 (by omega) (by omega) (i_259 c_260).2 i_264 i_265 i_266 i_267 i_268 i_269 i_270 i_271 i_272) kv_X9_87 ⟨rfl, rfl, Nat.le_of_ble_eq_true rfl, Nat.le_of_ble_eq_true rfl⟩ ⟨Nat.le_of_ble_eq_true rfl, Nat.le_of_ble_eq_true rfl⟩ hK hN hZ hP hD hS hA [1, 2] [0] rfl rfl rfl rfl (by decide) 0 rfl rfl rfl rfl hl.1 rfl (Nat.le_of_ble_eq_true rfl) dX9_wayItem_177 (fun r_274 u_r_274 H locs hw_r_274 hP hD hS => ?_)
            obtain ⟨ms2_275, rfl⟩ : ∃ z, z = u_r_274 := ⟨_, rfl⟩
            try dsimp only at hw_r_274
            obtain ⟨hw_r_274, i_276, i_277, i_278, i_279, i_280, i_281, i_282, i_283, i_284⟩ := hw_r_274
            have hP : va_P D vwCl [(yta, .inl (cI, 120, .inl tp)), (h0, .inr (9, [.ref ys, .ref yk, .ref yo, .ref yt, .int mk0, .ref yfa, .ref yfe, .int mL, .int mS, .int mM, .ref yro, .ref yhe, .ref ygr, .int mF, .int mC, .int mY, .ref yta, .int (nI (mz)), .int (nI (f2_250)), .int (nI (t2_251)), .int v2_252, .int w2_253, .ref ywa, .ref ybi, .ref ysi, .ref ynu, .ref ymo])), (ys, .inl (cI, 449, .inl ms2_275))] H := hP
            have hD : va_D A [(yta, .inl (cI, 120, .inl tp)), (h0, .inr (9, [.ref ys, .ref yk, .ref yo, .ref yt, .int mk0, .ref yfa, .ref yfe, .int mL, .int mS, .int mM, .ref yro, .ref yhe, .ref ygr, .int mF, .int mC, .int mY, .ref yta, .int (nI (mz)), .int (nI (f2_250)), .int (nI (t2_251)), .int v2_252, .int w2_253, .ref ywa, .ref ybi, .ref ysi, .ref ynu, .ref ymo])), (ys, .inl (cI, 449, .inl ms2_275))] := hD
            refine lv_goto (tgt := 184) hx hb dX9_wayItem_180 (by decide) ?_
            refine lv_iadd hx hb dX9_wayItem_184 ?_
            refine lv_topi (fun x_285 ex_285 => ?_)
            refine lv_istore (lv' := [(6, .int x_285), (5, .int 1), (4, .int v2_140), (3, .int v2_140), (2, .int (nI (k_25))), (1, .int (nI (y_261))), (0, .ref h0)]) hx hb dX9_wayItem_185 hl (by decide) rfl (fun ls hl => ?_)
            exact W.vret hx hb hr (fun t ht hW => ⟨⟨(f2_250, t2_251, v2_252, w2_253, ms2_275), rfl, ⟨(by first | assumption | omega), (by first | assumption | omega), (by first | assumption | omega), (by first | assumption | omega), (by first | assumption | omega), (fun h => ⟨(i_10 (i_22 (i_136 (i_147 (i_248 (i_259 h).1).1).1).1).1).1, trivial⟩), i_276, i_277, i_278, i_279, i_280, i_281, i_282, i_283, i_284⟩, by rw [ht]; exact hP.sub [1, 2, 0] rfl, hD.sub [1, 2, 0] (by decide) rfl⟩, hS.F ht⟩) hS.2.2 dX9_wayItem_187 hlk
        · skip
          refine lv_istore (lv' := [(5, .int 0), (4, .int v2_140), (3, .int v2_140), (2, .int (nI (k_25))), (1, .int v2_15), (0, .ref h0)]) hx hb dX9_wayItem_120 hl (by decide) rfl (fun ls hl => ?_)
          refine lv_iload hx hb dX9_wayItem_122 (lv_at hl 0 rfl) ?_
          refine lv_if_eq (tgt := 141) hx hb dX9_wayItem_124 (by decide) (fun c_286 => ?_) (fun c_286 => absurd (by decide) c_286)
          refine lv_aload_n hx hb dX9_wayItem_141 rfl (lv_at hl 5 rfl) ?_
          refine xg hF kf_X9_266 hK hP 1 rfl rfl dX9_wayItem_142 ?_
          refine lv_if_ne (tgt := 187) hx hb dX9_wayItem_145 (by decide) (fun c_287 => ?_) (fun c_287 => ?_)
          · skip
            exact W.vret hx hb hr (fun t ht hW => ⟨⟨(f2_138, t2_139, v2_140, w2_141, ms), rfl, ⟨(by first | assumption | omega), (by first | assumption | omega), (by first | assumption | omega), (by first | assumption | omega), (by first | assumption | omega), (fun h => ⟨(i_10 (i_22 (i_136 (i_147 h).1).1).1).1, trivial⟩), hs0, hs1, hs2, hsS, hsM, hsp, hsr, hsw, hsR⟩, by rw [ht]; exact hP.sub [1, 0, 2] rfl, hD.sub [1, 0, 2] (by decide) rfl⟩, hS.F ht⟩) hS.2.2 dX9_wayItem_187 hlk
          · skip
            obtain ⟨y_288, hy_288, rfl⟩ := x_pl3 (by omega) ex_11 (i_22 (i_136 (i_147 c_287).1).1).2.1 (i_22 (i_136 (i_147 c_287).1).1).2.2
            refine lv_aload_n hx hb dX9_wayItem_148 rfl (lv_at hl 5 rfl) ?_
            refine lv_iload_n hx hb dX9_wayItem_149 rfl (lv_at hl 4 rfl) ?_
            refine lv_iload_n hx hb dX9_wayItem_150 rfl (lv_at hl 3 rfl) ?_
            refine lv_iload_n hx hb dX9_wayItem_151 rfl (lv_at hl 2 rfl) ?_
            refine lv_iload hx hb dX9_wayItem_152 (lv_at hl 1 rfl) ?_
            refine xc_Vi (wr := [(yta, .inl (cI, 120, .inl tp))]) hF (c_X9_makes l D cI cJ cZ cS ta sa sv H.size h0 ys yk yo yt mk0 yfa yfe mL mS mM yro yhe ygr mF mC mY yta mz f2_138 t2_139 v2_140 w2_141 ywa ybi ysi ynu ymo ms P Rn Wn y_288 k_25 v2_140 v2_140 (by omega) (by omega) (i_147 c_287).2 hs0 hs1 hs2 hsS hsM hsp hsr hsw hsR) kv_X9_87 ⟨rfl, rfl, Nat.le_of_ble_eq_true rfl, Nat.le_of_ble_eq_true rfl⟩ ⟨Nat.le_of_ble_eq_true rfl, Nat.le_of_ble_eq_true rfl⟩ hK hN hZ hP hD hS hA [1, 0] [2] rfl rfl rfl rfl (by decide) 0 rfl rfl rfl rfl hl.1 rfl (Nat.le_of_ble_eq_true rfl) dX9_wayItem_154 (fun r_289 u_r_289 H locs hw_r_289 hP hD hS => ?_)
            obtain ⟨ms2_290, rfl⟩ : ∃ z, z = u_r_289 := ⟨_, rfl⟩
            try dsimp only at hw_r_289
            obtain ⟨hw_r_289, i_291, i_292, i_293, i_294, i_295, i_296, i_297, i_298, i_299⟩ := hw_r_289
            have hP : va_P D vwCl [(yta, .inl (cI, 120, .inl tp)), (h0, .inr (9, [.ref ys, .ref yk, .ref yo, .ref yt, .int mk0, .ref yfa, .ref yfe, .int mL, .int mS, .int mM, .ref yro, .ref yhe, .ref ygr, .int mF, .int mC, .int mY, .ref yta, .int (nI (mz)), .int (nI (f2_138)), .int (nI (t2_139)), .int v2_140, .int w2_141, .ref ywa, .ref ybi, .ref ysi, .ref ynu, .ref ymo])), (ys, .inl (cI, 449, .inl ms2_290))] H := hP
            have hD : va_D A [(yta, .inl (cI, 120, .inl tp)), (h0, .inr (9, [.ref ys, .ref yk, .ref yo, .ref yt, .int mk0, .ref yfa, .ref yfe, .int mL, .int mS, .int mM, .ref yro, .ref yhe, .ref ygr, .int mF, .int mC, .int mY, .ref yta, .int (nI (mz)), .int (nI (f2_138)), .int (nI (t2_139)), .int v2_140, .int w2_141, .ref ywa, .ref ybi, .ref ysi, .ref ynu, .ref ymo])), (ys, .inl (cI, 449, .inl ms2_290))] := hD
            refine lv_istore (lv' := [(6, .int r_289), (5, .int 0), (4, .int v2_140), (3, .int v2_140), (2, .int (nI (k_25))), (1, .int (nI (y_288))), (0, .ref h0)]) hx hb dX9_wayItem_157 hl (by decide) rfl (fun ls hl => ?_)
            refine lv_iload hx hb dX9_wayItem_159 (lv_at hl 0 rfl) ?_
            refine lv_iload hx hb dX9_wayItem_161 (lv_at hl 1 rfl) ?_
            refine lv_if_eq (tgt := 183) hx hb dX9_wayItem_163 (by decide) (fun c_300 => ?_) (fun c_300 => absurd (by decide) c_300)
            refine lv_iconst (v := 0) hx hb dX9_wayItem_183 (by decide) ?_
            refine lv_iadd hx hb dX9_wayItem_184 ?_
            refine lv_topi (fun x_301 ex_301 => ?_)
            refine lv_istore (lv' := [(6, .int x_301), (5, .int 0), (4, .int v2_140), (3, .int v2_140), (2, .int (nI (k_25))), (1, .int (nI (y_288))), (0, .ref h0)]) hx hb dX9_wayItem_185 hl (by decide) rfl (fun ls hl => ?_)
            exact W.vret hx hb hr (fun t ht hW => ⟨⟨(f2_138, t2_139, v2_140, w2_141, ms2_290), rfl, ⟨(by first | assumption | omega), (by first | assumption | omega), (by first | assumption | omega), (by first | assumption | omega), (by first | assumption | omega), (fun h => ⟨(i_10 (i_22 (i_136 (i_147 h).1).1).1).1, trivial⟩), i_291, i_292, i_293, i_294, i_295, i_296, i_297, i_298, i_299⟩, by rw [ht]; exact hP.sub [1, 2, 0] rfl, hD.sub [1, 2, 0] (by decide) rfl⟩, hS.F ht⟩) hS.2.2 dX9_wayItem_187 hlk
  · skip
    refine lv_if_eq (tgt := 46) hx hb dX9_wayItem_34 (by decide) (fun c_302 => ?_) (fun c_302 => absurd (by decide) c_302)
    refine lv_iconst (v := 0) hx hb dX9_wayItem_46 (by decide) ?_
    refine xc_Vv (wr := [(ys, .inl (cI, 449, .inl ms))]) hF (c_X9_needs l D cI cJ cZ cS ta sa sv H.size h0 ys yk yo yt mk0 yfa yfe mL mS mM yro yhe ygr mF mC mY yta mz f2_13 t2_14 v2_15 w2_16 ywa ybi ysi ynu ymo tp 0 (by omega) (by omega) (by omega) (by omega) (by omega)) kv_X9_278 ⟨rfl, rfl, Nat.le_of_ble_eq_true rfl, Nat.le_of_ble_eq_true rfl⟩ ⟨Nat.le_of_ble_eq_true rfl, Nat.le_of_ble_eq_true rfl⟩ hK hN hZ hP hD hS hA [1, 2] [0] rfl rfl rfl rfl (by decide) 0 rfl rfl rfl rfl hl.1 rfl (Nat.le_of_ble_eq_true rfl) dX9_wayItem_47 (fun u_r_303 H locs hw_r_303 hP hD hS => ?_)
    obtain ⟨f2_304, t2_305, w2_306⟩ := u_r_303
    try dsimp only at hw_r_303
    obtain ⟨i_307, i_308, i_309, i_310, i_311, i_312⟩ := hw_r_303
    have hP : va_P D vwCl [(ys, .inl (cI, 449, .inl ms)), (h0, .inr (9, [.ref ys, .ref yk, .ref yo, .ref yt, .int mk0, .ref yfa, .ref yfe, .int mL, .int mS, .int mM, .ref yro, .ref yhe, .ref ygr, .int mF, .int mC, .int mY, .ref yta, .int (nI (mz)), .int (nI (f2_304)), .int (nI (t2_305)), .int v2_15, .int w2_306, .ref ywa, .ref ybi, .ref ysi, .ref ynu, .ref ymo])), (yta, .inl (cI, 120, .inl tp))] H := hP
    have hD : va_D A [(ys, .inl (cI, 449, .inl ms)), (h0, .inr (9, [.ref ys, .ref yk, .ref yo, .ref yt, .int mk0, .ref yfa, .ref yfe, .int mL, .int mS, .int mM, .ref yro, .ref yhe, .ref ygr, .int mF, .int mC, .int mY, .ref yta, .int (nI (mz)), .int (nI (f2_304)), .int (nI (t2_305)), .int v2_15, .int w2_306, .ref ywa, .ref ybi, .ref ysi, .ref ynu, .ref ymo])), (yta, .inl (cI, 120, .inl tp))] := hD
    refine lv_aload_n hx hb dX9_wayItem_50 rfl (lv_at hl 2 rfl) ?_
    refine lv_bipush (v := (-99)) hx hb dX9_wayItem_51 (by decide) ?_
    refine lv_sipush (v := 999) hx hb dX9_wayItem_53 (by decide) ?_
    refine xc_Vv (wr := [(ys, .inl (cI, 449, .inl ms))]) hF (c_X9_mileE l D cI cJ cZ cS ta sa sv H.size h0 ys yk yo yt mk0 yfa yfe mL mS mM yro yhe ygr mF mC mY yta mz f2_304 t2_305 v2_15 w2_306 ywa ybi ysi ynu ymo tp (by omega) (by omega) (by omega) (by omega) (by omega)) kv_X9_287 ⟨rfl, rfl, Nat.le_of_ble_eq_true rfl, Nat.le_of_ble_eq_true rfl⟩ ⟨Nat.le_of_ble_eq_true rfl, Nat.le_of_ble_eq_true rfl⟩ hK hN hZ hP hD hS hA [1, 2] [0] rfl rfl rfl rfl (by decide) 0 rfl rfl rfl rfl hl.1 rfl (Nat.le_of_ble_eq_true rfl) dX9_wayItem_56 (fun u_r_313 H locs hw_r_313 hP hD hS => ?_)
    obtain ⟨f2_314, t2_315, v2_316, w2_317⟩ := u_r_313
    try dsimp only at hw_r_313
    obtain ⟨i_318, i_319, i_320, i_321, i_322, i_323⟩ := hw_r_313
    have hP : va_P D vwCl [(ys, .inl (cI, 449, .inl ms)), (h0, .inr (9, [.ref ys, .ref yk, .ref yo, .ref yt, .int mk0, .ref yfa, .ref yfe, .int mL, .int mS, .int mM, .ref yro, .ref yhe, .ref ygr, .int mF, .int mC, .int mY, .ref yta, .int (nI (mz)), .int (nI (f2_314)), .int (nI (t2_315)), .int v2_316, .int w2_317, .ref ywa, .ref ybi, .ref ysi, .ref ynu, .ref ymo])), (yta, .inl (cI, 120, .inl tp))] H := hP
    have hD : va_D A [(ys, .inl (cI, 449, .inl ms)), (h0, .inr (9, [.ref ys, .ref yk, .ref yo, .ref yt, .int mk0, .ref yfa, .ref yfe, .int mL, .int mS, .int mM, .ref yro, .ref yhe, .ref ygr, .int mF, .int mC, .int mY, .ref yta, .int (nI (mz)), .int (nI (f2_314)), .int (nI (t2_315)), .int v2_316, .int w2_317, .ref ywa, .ref ybi, .ref ysi, .ref ynu, .ref ymo])), (yta, .inl (cI, 120, .inl tp))] := hD
    refine lv_aload_n hx hb dX9_wayItem_59 rfl (lv_at hl 2 rfl) ?_
    refine xg hF kf_X9_275 hK hP 1 rfl rfl dX9_wayItem_60 ?_
    refine lv_istore_n (lv' := [(3, .int v2_316), (2, .int r_23), (1, .int v2_15), (0, .ref h0)]) hx hb dX9_wayItem_63 rfl hl (by decide) rfl (fun ls hl => ?_)
    refine lv_aload_n hx hb dX9_wayItem_64 rfl (lv_at hl 3 rfl) ?_
    refine xg hF kf_X9_275 hK hP 1 rfl rfl dX9_wayItem_65 ?_
    refine lv_istore (lv' := [(4, .int v2_316), (3, .int v2_316), (2, .int r_23), (1, .int v2_15), (0, .ref h0)]) hx hb dX9_wayItem_68 hl (by decide) rfl (fun ls hl => ?_)
    refine lv_aload_n hx hb dX9_wayItem_70 rfl (lv_at hl 4 rfl) ?_
    refine lv_bipush (v := 116) hx hb dX9_wayItem_71 (by decide) ?_
    refine lv_bipush (v := 111) hx hb dX9_wayItem_73 (by decide) ?_
    refine lv_iconst (v := 0) hx hb dX9_wayItem_75 (by decide) ?_
    refine lv_iconst (v := 0) hx hb dX9_wayItem_76 (by decide) ?_
    refine lv_iconst (v := 0) hx hb dX9_wayItem_77 (by decide) ?_
    refine lv_iconst (v := 0) hx hb dX9_wayItem_78 (by decide) ?_
    refine lv_iconst (v := 0) hx hb dX9_wayItem_79 (by decide) ?_
    refine xc_Vr hF (c_X9_isWord l D cI cJ cZ cS ta sa sv H.size h0 ys yk yo yt mk0 yfa yfe mL mS mM yro yhe ygr mF mC mY yta mz f2_314 t2_315 v2_316 w2_317 ywa ybi ysi ynu ymo tp 116 111 0 0 0 0 0 (by omega) (by omega)) kv_X9_290 ⟨rfl, rfl, Nat.le_of_ble_eq_true rfl, Nat.le_of_ble_eq_true rfl⟩ ⟨Nat.le_of_ble_eq_true rfl, Nat.le_of_ble_eq_true rfl⟩ hK hN hZ hP hD hS hA [1, 2] rfl rfl 0 rfl rfl rfl rfl hl.1 rfl (Nat.le_of_ble_eq_true rfl) dX9_wayItem_80 (fun r_324 hw_r_324 => ?_)
    rcases hw_r_324 with rfl | rfl
    · skip
      refine lv_if_eq (tgt := 105) hx hb dX9_wayItem_83 (by decide) (fun c_325 => absurd c_325 (by decide)) (fun c_325 => ?_)
      refine lv_aload_n hx hb dX9_wayItem_86 rfl (lv_at hl 4 rfl) ?_
      refine lv_iconst (v := 1) hx hb dX9_wayItem_87 (by decide) ?_
      refine xc_Vv (wr := [(ys, .inl (cI, 449, .inl ms))]) hF (c_X9_needs l D cI cJ cZ cS ta sa sv H.size h0 ys yk yo yt mk0 yfa yfe mL mS mM yro yhe ygr mF mC mY yta mz f2_314 t2_315 v2_316 w2_317 ywa ybi ysi ynu ymo tp 1 (by omega) (by omega) (by omega) (by omega) (by omega)) kv_X9_278 ⟨rfl, rfl, Nat.le_of_ble_eq_true rfl, Nat.le_of_ble_eq_true rfl⟩ ⟨Nat.le_of_ble_eq_true rfl, Nat.le_of_ble_eq_true rfl⟩ hK hN hZ hP hD hS hA [1, 2] [0] rfl rfl rfl rfl (by decide) 0 rfl rfl rfl rfl hl.1 rfl (Nat.le_of_ble_eq_true rfl) dX9_wayItem_88 (fun u_r_326 H locs hw_r_326 hP hD hS => ?_)
      obtain ⟨f2_327, t2_328, w2_329⟩ := u_r_326
      try dsimp only at hw_r_326
      obtain ⟨i_330, i_331, i_332, i_333, i_334, i_335⟩ := hw_r_326
      have hP : va_P D vwCl [(ys, .inl (cI, 449, .inl ms)), (h0, .inr (9, [.ref ys, .ref yk, .ref yo, .ref yt, .int mk0, .ref yfa, .ref yfe, .int mL, .int mS, .int mM, .ref yro, .ref yhe, .ref ygr, .int mF, .int mC, .int mY, .ref yta, .int (nI (mz)), .int (nI (f2_327)), .int (nI (t2_328)), .int v2_316, .int w2_329, .ref ywa, .ref ybi, .ref ysi, .ref ynu, .ref ymo])), (yta, .inl (cI, 120, .inl tp))] H := hP
      have hD : va_D A [(ys, .inl (cI, 449, .inl ms)), (h0, .inr (9, [.ref ys, .ref yk, .ref yo, .ref yt, .int mk0, .ref yfa, .ref yfe, .int mL, .int mS, .int mM, .ref yro, .ref yhe, .ref ygr, .int mF, .int mC, .int mY, .ref yta, .int (nI (mz)), .int (nI (f2_327)), .int (nI (t2_328)), .int v2_316, .int w2_329, .ref ywa, .ref ybi, .ref ysi, .ref ynu, .ref ymo])), (yta, .inl (cI, 120, .inl tp))] := hD
      refine lv_aload_n hx hb dX9_wayItem_91 rfl (lv_at hl 4 rfl) ?_
      refine lv_iload_n hx hb dX9_wayItem_92 rfl (lv_at hl 1 rfl) ?_
      refine lv_sipush (v := 999) hx hb dX9_wayItem_93 (by decide) ?_
      refine xc_Vv (wr := [(ys, .inl (cI, 449, .inl ms))]) hF (c_X9_mile l D cI cJ cZ cS ta sa sv H.size h0 ys yk yo yt mk0 yfa yfe mL mS mM yro yhe ygr mF mC mY yta mz f2_327 t2_328 v2_316 w2_329 ywa ybi ysi ynu ymo tp v2_316 999 (by omega) (by omega) (by omega) (by omega) (by omega)) kv_X9_287 ⟨rfl, rfl, Nat.le_of_ble_eq_true rfl, Nat.le_of_ble_eq_true rfl⟩ ⟨Nat.le_of_ble_eq_true rfl, Nat.le_of_ble_eq_true rfl⟩ hK hN hZ hP hD hS hA [1, 2] [0] rfl rfl rfl rfl (by decide) 0 rfl rfl rfl rfl hl.1 rfl (Nat.le_of_ble_eq_true rfl) dX9_wayItem_96 (fun u_r_336 H locs hw_r_336 hP hD hS => ?_)
      obtain ⟨f2_337, t2_338, v2_339, w2_340⟩ := u_r_336
      try dsimp only at hw_r_336
      obtain ⟨i_341, i_342, i_343, i_344, i_345, i_346⟩ := hw_r_336
      have hP : va_P D vwCl [(ys, .inl (cI, 449, .inl ms)), (h0, .inr (9, [.ref ys, .ref yk, .ref yo, .ref yt, .int mk0, .ref yfa, .ref yfe, .int mL, .int mS, .int mM, .ref yro, .ref yhe, .ref ygr, .int mF, .int mC, .int mY, .ref yta, .int (nI (mz)), .int (nI (f2_337)), .int (nI (t2_338)), .int v2_339, .int w2_340, .ref ywa, .ref ybi, .ref ysi, .ref ynu, .ref ymo])), (yta, .inl (cI, 120, .inl tp))] H := hP
      have hD : va_D A [(ys, .inl (cI, 449, .inl ms)), (h0, .inr (9, [.ref ys, .ref yk, .ref yo, .ref yt, .int mk0, .ref yfa, .ref yfe, .int mL, .int mS, .int mM, .ref yro, .ref yhe, .ref ygr, .int mF, .int mC, .int mY, .ref yta, .int (nI (mz)), .int (nI (f2_337)), .int (nI (t2_338)), .int v2_339, .int w2_340, .ref ywa, .ref ybi, .ref ysi, .ref ynu, .ref ymo])), (yta, .inl (cI, 120, .inl tp))] := hD
      refine lv_aload_n hx hb dX9_wayItem_99 rfl (lv_at hl 4 rfl) ?_
      refine xg hF kf_X9_275 hK hP 1 rfl rfl dX9_wayItem_100 ?_
      refine lv_istore (lv' := [(4, .int v2_339), (3, .int v2_316), (2, .int r_23), (1, .int v2_15), (0, .ref h0)]) hx hb dX9_wayItem_103 hl (by decide) rfl (fun ls hl => ?_)
      refine lv_aload_n hx hb dX9_wayItem_105 rfl (lv_at hl 4 rfl) ?_
      refine lv_bipush (v := 98) hx hb dX9_wayItem_106 (by decide) ?_
      refine lv_bipush (v := 97) hx hb dX9_wayItem_108 (by decide) ?_
      refine lv_bipush (v := 99) hx hb dX9_wayItem_110 (by decide) ?_
      refine lv_bipush (v := 107) hx hb dX9_wayItem_112 (by decide) ?_
      refine lv_iconst (v := 0) hx hb dX9_wayItem_114 (by decide) ?_
      refine lv_iconst (v := 0) hx hb dX9_wayItem_115 (by decide) ?_
      refine lv_iconst (v := 0) hx hb dX9_wayItem_116 (by decide) ?_
      refine xc_Vr hF (c_X9_isWord l D cI cJ cZ cS ta sa sv H.size h0 ys yk yo yt mk0 yfa yfe mL mS mM yro yhe ygr mF mC mY yta mz f2_337 t2_338 v2_339 w2_340 ywa ybi ysi ynu ymo tp 98 97 99 107 0 0 0 (by omega) (by omega)) kv_X9_290 ⟨rfl, rfl, Nat.le_of_ble_eq_true rfl, Nat.le_of_ble_eq_true rfl⟩ ⟨Nat.le_of_ble_eq_true rfl, Nat.le_of_ble_eq_true rfl⟩ hK hN hZ hP hD hS hA [1, 2] rfl rfl 0 rfl rfl rfl rfl hl.1 rfl (Nat.le_of_ble_eq_true rfl) dX9_wayItem_117 (fun r_347 hw_r_347 => ?_)
      rcases hw_r_347 with rfl | rfl
      · skip
        refine lv_istore (lv' := [(5, .int 1), (4, .int v2_339), (3, .int v2_316), (2, .int r_23), (1, .int v2_15), (0, .ref h0)]) hx hb dX9_wayItem_120 hl (by decide) rfl (fun ls hl => ?_)
        refine lv_iload hx hb dX9_wayItem_122 (lv_at hl 0 rfl) ?_
        refine lv_if_eq (tgt := 141) hx hb dX9_wayItem_124 (by decide) (fun c_348 => absurd c_348 (by decide)) (fun c_348 => ?_)
        refine lv_aload_n hx hb dX9_wayItem_127 rfl (lv_at hl 5 rfl) ?_
        refine lv_iconst (v := 1) hx hb dX9_wayItem_128 (by decide) ?_
        refine xc_Vv (wr := [(ys, .inl (cI, 449, .inl ms))]) hF (c_X9_needs l D cI cJ cZ cS ta sa sv H.size h0 ys yk yo yt mk0 yfa yfe mL mS mM yro yhe ygr mF mC mY yta mz f2_337 t2_338 v2_339 w2_340 ywa ybi ysi ynu ymo tp 1 (by omega) (by omega) (by omega) (by omega) (by omega)) kv_X9_278 ⟨rfl, rfl, Nat.le_of_ble_eq_true rfl, Nat.le_of_ble_eq_true rfl⟩ ⟨Nat.le_of_ble_eq_true rfl, Nat.le_of_ble_eq_true rfl⟩ hK hN hZ hP hD hS hA [1, 2] [0] rfl rfl rfl rfl (by decide) 0 rfl rfl rfl rfl hl.1 rfl (Nat.le_of_ble_eq_true rfl) dX9_wayItem_129 (fun u_r_349 H locs hw_r_349 hP hD hS => ?_)
        obtain ⟨f2_350, t2_351, w2_352⟩ := u_r_349
        try dsimp only at hw_r_349
        obtain ⟨i_353, i_354, i_355, i_356, i_357, i_358⟩ := hw_r_349
        have hP : va_P D vwCl [(ys, .inl (cI, 449, .inl ms)), (h0, .inr (9, [.ref ys, .ref yk, .ref yo, .ref yt, .int mk0, .ref yfa, .ref yfe, .int mL, .int mS, .int mM, .ref yro, .ref yhe, .ref ygr, .int mF, .int mC, .int mY, .ref yta, .int (nI (mz)), .int (nI (f2_350)), .int (nI (t2_351)), .int v2_339, .int w2_352, .ref ywa, .ref ybi, .ref ysi, .ref ynu, .ref ymo])), (yta, .inl (cI, 120, .inl tp))] H := hP
        have hD : va_D A [(ys, .inl (cI, 449, .inl ms)), (h0, .inr (9, [.ref ys, .ref yk, .ref yo, .ref yt, .int mk0, .ref yfa, .ref yfe, .int mL, .int mS, .int mM, .ref yro, .ref yhe, .ref ygr, .int mF, .int mC, .int mY, .ref yta, .int (nI (mz)), .int (nI (f2_350)), .int (nI (t2_351)), .int v2_339, .int w2_352, .ref ywa, .ref ybi, .ref ysi, .ref ynu, .ref ymo])), (yta, .inl (cI, 120, .inl tp))] := hD
        refine lv_aload_n hx hb dX9_wayItem_132 rfl (lv_at hl 5 rfl) ?_
        refine lv_bipush (v := (-99)) hx hb dX9_wayItem_133 (by decide) ?_
        refine lv_sipush (v := 999) hx hb dX9_wayItem_135 (by decide) ?_
        refine xc_Vv (wr := [(ys, .inl (cI, 449, .inl ms))]) hF (c_X9_mileE l D cI cJ cZ cS ta sa sv H.size h0 ys yk yo yt mk0 yfa yfe mL mS mM yro yhe ygr mF mC mY yta mz f2_350 t2_351 v2_339 w2_352 ywa ybi ysi ynu ymo tp (by omega) (by omega) (by omega) (by omega) (by omega)) kv_X9_287 ⟨rfl, rfl, Nat.le_of_ble_eq_true rfl, Nat.le_of_ble_eq_true rfl⟩ ⟨Nat.le_of_ble_eq_true rfl, Nat.le_of_ble_eq_true rfl⟩ hK hN hZ hP hD hS hA [1, 2] [0] rfl rfl rfl rfl (by decide) 0 rfl rfl rfl rfl hl.1 rfl (Nat.le_of_ble_eq_true rfl) dX9_wayItem_138 (fun u_r_359 H locs hw_r_359 hP hD hS => ?_)
        obtain ⟨f2_360, t2_361, v2_362, w2_363⟩ := u_r_359
        try dsimp only at hw_r_359
        obtain ⟨i_364, i_365, i_366, i_367, i_368, i_369⟩ := hw_r_359
        have hP : va_P D vwCl [(ys, .inl (cI, 449, .inl ms)), (h0, .inr (9, [.ref ys, .ref yk, .ref yo, .ref yt, .int mk0, .ref yfa, .ref yfe, .int mL, .int mS, .int mM, .ref yro, .ref yhe, .ref ygr, .int mF, .int mC, .int mY, .ref yta, .int (nI (mz)), .int (nI (f2_360)), .int (nI (t2_361)), .int v2_362, .int w2_363, .ref ywa, .ref ybi, .ref ysi, .ref ynu, .ref ymo])), (yta, .inl (cI, 120, .inl tp))] H := hP
        have hD : va_D A [(ys, .inl (cI, 449, .inl ms)), (h0, .inr (9, [.ref ys, .ref yk, .ref yo, .ref yt, .int mk0, .ref yfa, .ref yfe, .int mL, .int mS, .int mM, .ref yro, .ref yhe, .ref ygr, .int mF, .int mC, .int mY, .ref yta, .int (nI (mz)), .int (nI (f2_360)), .int (nI (t2_361)), .int v2_362, .int w2_363, .ref ywa, .ref ybi, .ref ysi, .ref ynu, .ref ymo])), (yta, .inl (cI, 120, .inl tp))] := hD
        refine lv_aload_n hx hb dX9_wayItem_141 rfl (lv_at hl 5 rfl) ?_
        refine xg hF kf_X9_266 hK hP 1 rfl rfl dX9_wayItem_142 ?_
        refine lv_if_ne (tgt := 187) hx hb dX9_wayItem_145 (by decide) (fun c_370 => ?_) (fun c_370 => absurd rfl (i_312 (i_323 (i_335 (i_346 (i_358 (i_369 c_370).1).1).1).1).1).2.1)
        exact W.vret hx hb hr (fun t ht hW => ⟨⟨(f2_360, t2_361, v2_362, w2_363, ms), rfl, ⟨(by first | assumption | omega), (by first | assumption | omega), (by first | assumption | omega), (by first | assumption | omega), (by first | assumption | omega), (fun h => ⟨(i_10 (i_22 (i_312 (i_323 (i_335 (i_346 (i_358 (i_369 h).1).1).1).1).1).1).1).1, trivial⟩), hs0, hs1, hs2, hsS, hsM, hsp, hsr, hsw, hsR⟩, by rw [ht]; exact hP.sub [1, 0, 2] rfl, hD.sub [1, 0, 2] (by decide) rfl⟩, hS.F ht⟩) hS.2.2 dX9_wayItem_187 hlk
      · skip
        refine lv_istore (lv' := [(5, .int 0), (4, .int v2_339), (3, .int v2_316), (2, .int r_23), (1, .int v2_15), (0, .ref h0)]) hx hb dX9_wayItem_120 hl (by decide) rfl (fun ls hl => ?_)
        refine lv_iload hx hb dX9_wayItem_122 (lv_at hl 0 rfl) ?_
        refine lv_if_eq (tgt := 141) hx hb dX9_wayItem_124 (by decide) (fun c_371 => ?_) (fun c_371 => absurd (by decide) c_371)
        refine lv_aload_n hx hb dX9_wayItem_141 rfl (lv_at hl 5 rfl) ?_
        refine xg hF kf_X9_266 hK hP 1 rfl rfl dX9_wayItem_142 ?_
        refine lv_if_ne (tgt := 187) hx hb dX9_wayItem_145 (by decide) (fun c_372 => ?_) (fun c_372 => absurd rfl (i_312 (i_323 (i_335 (i_346 c_372).1).1).1).2.1)
        exact W.vret hx hb hr (fun t ht hW => ⟨⟨(f2_337, t2_338, v2_339, w2_340, ms), rfl, ⟨(by first | assumption | omega), (by first | assumption | omega), (by first | assumption | omega), (by first | assumption | omega), (by first | assumption | omega), (fun h => ⟨(i_10 (i_22 (i_312 (i_323 (i_335 (i_346 h).1).1).1).1).1).1, trivial⟩), hs0, hs1, hs2, hsS, hsM, hsp, hsr, hsw, hsR⟩, by rw [ht]; exact hP.sub [1, 0, 2] rfl, hD.sub [1, 0, 2] (by decide) rfl⟩, hS.F ht⟩) hS.2.2 dX9_wayItem_187 hlk
    · skip
      refine lv_if_eq (tgt := 105) hx hb dX9_wayItem_83 (by decide) (fun c_373 => ?_) (fun c_373 => absurd (by decide) c_373)
      refine lv_aload_n hx hb dX9_wayItem_105 rfl (lv_at hl 4 rfl) ?_
      refine lv_bipush (v := 98) hx hb dX9_wayItem_106 (by decide) ?_
      refine lv_bipush (v := 97) hx hb dX9_wayItem_108 (by decide) ?_
      refine lv_bipush (v := 99) hx hb dX9_wayItem_110 (by decide) ?_
      refine lv_bipush (v := 107) hx hb dX9_wayItem_112 (by decide) ?_
      refine lv_iconst (v := 0) hx hb dX9_wayItem_114 (by decide) ?_
      refine lv_iconst (v := 0) hx hb dX9_wayItem_115 (by decide) ?_
      refine lv_iconst (v := 0) hx hb dX9_wayItem_116 (by decide) ?_
      refine xc_Vr hF (c_X9_isWord l D cI cJ cZ cS ta sa sv H.size h0 ys yk yo yt mk0 yfa yfe mL mS mM yro yhe ygr mF mC mY yta mz f2_314 t2_315 v2_316 w2_317 ywa ybi ysi ynu ymo tp 98 97 99 107 0 0 0 (by omega) (by omega)) kv_X9_290 ⟨rfl, rfl, Nat.le_of_ble_eq_true rfl, Nat.le_of_ble_eq_true rfl⟩ ⟨Nat.le_of_ble_eq_true rfl, Nat.le_of_ble_eq_true rfl⟩ hK hN hZ hP hD hS hA [1, 2] rfl rfl 0 rfl rfl rfl rfl hl.1 rfl (Nat.le_of_ble_eq_true rfl) dX9_wayItem_117 (fun r_374 hw_r_374 => ?_)
      rcases hw_r_374 with rfl | rfl
      · skip
        refine lv_istore (lv' := [(5, .int 1), (4, .int v2_316), (3, .int v2_316), (2, .int r_23), (1, .int v2_15), (0, .ref h0)]) hx hb dX9_wayItem_120 hl (by decide) rfl (fun ls hl => ?_)
        refine lv_iload hx hb dX9_wayItem_122 (lv_at hl 0 rfl) ?_
        refine lv_if_eq (tgt := 141) hx hb dX9_wayItem_124 (by decide) (fun c_375 => absurd c_375 (by decide)) (fun c_375 => ?_)
        refine lv_aload_n hx hb dX9_wayItem_127 rfl (lv_at hl 5 rfl) ?_
        refine lv_iconst (v := 1) hx hb dX9_wayItem_128 (by decide) ?_
        refine xc_Vv (wr := [(ys, .inl (cI, 449, .inl ms))]) hF (c_X9_needs l D cI cJ cZ cS ta sa sv H.size h0 ys yk yo yt mk0 yfa yfe mL mS mM yro yhe ygr mF mC mY yta mz f2_314 t2_315 v2_316 w2_317 ywa ybi ysi ynu ymo tp 1 (by omega) (by omega) (by omega) (by omega) (by omega)) kv_X9_278 ⟨rfl, rfl, Nat.le_of_ble_eq_true rfl, Nat.le_of_ble_eq_true rfl⟩ ⟨Nat.le_of_ble_eq_true rfl, Nat.le_of_ble_eq_true rfl⟩ hK hN hZ hP hD hS hA [1, 2] [0] rfl rfl rfl rfl (by decide) 0 rfl rfl rfl rfl hl.1 rfl (Nat.le_of_ble_eq_true rfl) dX9_wayItem_129 (fun u_r_376 H locs hw_r_376 hP hD hS => ?_)
        obtain ⟨f2_377, t2_378, w2_379⟩ := u_r_376
        try dsimp only at hw_r_376
        obtain ⟨i_380, i_381, i_382, i_383, i_384, i_385⟩ := hw_r_376
        have hP : va_P D vwCl [(ys, .inl (cI, 449, .inl ms)), (h0, .inr (9, [.ref ys, .ref yk, .ref yo, .ref yt, .int mk0, .ref yfa, .ref yfe, .int mL, .int mS, .int mM, .ref yro, .ref yhe, .ref ygr, .int mF, .int mC, .int mY, .ref yta, .int (nI (mz)), .int (nI (f2_377)), .int (nI (t2_378)), .int v2_316, .int w2_379, .ref ywa, .ref ybi, .ref ysi, .ref ynu, .ref ymo])), (yta, .inl (cI, 120, .inl tp))] H := hP
        have hD : va_D A [(ys, .inl (cI, 449, .inl ms)), (h0, .inr (9, [.ref ys, .ref yk, .ref yo, .ref yt, .int mk0, .ref yfa, .ref yfe, .int mL, .int mS, .int mM, .ref yro, .ref yhe, .ref ygr, .int mF, .int mC, .int mY, .ref yta, .int (nI (mz)), .int (nI (f2_377)), .int (nI (t2_378)), .int v2_316, .int w2_379, .ref ywa, .ref ybi, .ref ysi, .ref ynu, .ref ymo])), (yta, .inl (cI, 120, .inl tp))] := hD
        refine lv_aload_n hx hb dX9_wayItem_132 rfl (lv_at hl 5 rfl) ?_
        refine lv_bipush (v := (-99)) hx hb dX9_wayItem_133 (by decide) ?_
        refine lv_sipush (v := 999) hx hb dX9_wayItem_135 (by decide) ?_
        refine xc_Vv (wr := [(ys, .inl (cI, 449, .inl ms))]) hF (c_X9_mileE l D cI cJ cZ cS ta sa sv H.size h0 ys yk yo yt mk0 yfa yfe mL mS mM yro yhe ygr mF mC mY yta mz f2_377 t2_378 v2_316 w2_379 ywa ybi ysi ynu ymo tp (by omega) (by omega) (by omega) (by omega) (by omega)) kv_X9_287 ⟨rfl, rfl, Nat.le_of_ble_eq_true rfl, Nat.le_of_ble_eq_true rfl⟩ ⟨Nat.le_of_ble_eq_true rfl, Nat.le_of_ble_eq_true rfl⟩ hK hN hZ hP hD hS hA [1, 2] [0] rfl rfl rfl rfl (by decide) 0 rfl rfl rfl rfl hl.1 rfl (Nat.le_of_ble_eq_true rfl) dX9_wayItem_138 (fun u_r_386 H locs hw_r_386 hP hD hS => ?_)
        obtain ⟨f2_387, t2_388, v2_389, w2_390⟩ := u_r_386
        try dsimp only at hw_r_386
        obtain ⟨i_391, i_392, i_393, i_394, i_395, i_396⟩ := hw_r_386
        have hP : va_P D vwCl [(ys, .inl (cI, 449, .inl ms)), (h0, .inr (9, [.ref ys, .ref yk, .ref yo, .ref yt, .int mk0, .ref yfa, .ref yfe, .int mL, .int mS, .int mM, .ref yro, .ref yhe, .ref ygr, .int mF, .int mC, .int mY, .ref yta, .int (nI (mz)), .int (nI (f2_387)), .int (nI (t2_388)), .int v2_389, .int w2_390, .ref ywa, .ref ybi, .ref ysi, .ref ynu, .ref ymo])), (yta, .inl (cI, 120, .inl tp))] H := hP
        have hD : va_D A [(ys, .inl (cI, 449, .inl ms)), (h0, .inr (9, [.ref ys, .ref yk, .ref yo, .ref yt, .int mk0, .ref yfa, .ref yfe, .int mL, .int mS, .int mM, .ref yro, .ref yhe, .ref ygr, .int mF, .int mC, .int mY, .ref yta, .int (nI (mz)), .int (nI (f2_387)), .int (nI (t2_388)), .int v2_389, .int w2_390, .ref ywa, .ref ybi, .ref ysi, .ref ynu, .ref ymo])), (yta, .inl (cI, 120, .inl tp))] := hD
        refine lv_aload_n hx hb dX9_wayItem_141 rfl (lv_at hl 5 rfl) ?_
        refine xg hF kf_X9_266 hK hP 1 rfl rfl dX9_wayItem_142 ?_
        refine lv_if_ne (tgt := 187) hx hb dX9_wayItem_145 (by decide) (fun c_397 => ?_) (fun c_397 => absurd rfl (i_312 (i_323 (i_385 (i_396 c_397).1).1).1).2.1)
        exact W.vret hx hb hr (fun t ht hW => ⟨⟨(f2_387, t2_388, v2_389, w2_390, ms), rfl, ⟨(by first | assumption | omega), (by first | assumption | omega), (by first | assumption | omega), (by first | assumption | omega), (by first | assumption | omega), (fun h => ⟨(i_10 (i_22 (i_312 (i_323 (i_385 (i_396 h).1).1).1).1).1).1, trivial⟩), hs0, hs1, hs2, hsS, hsM, hsp, hsr, hsw, hsR⟩, by rw [ht]; exact hP.sub [1, 0, 2] rfl, hD.sub [1, 0, 2] (by decide) rfl⟩, hS.F ht⟩) hS.2.2 dX9_wayItem_187 hlk
      · skip
        refine lv_istore (lv' := [(5, .int 0), (4, .int v2_316), (3, .int v2_316), (2, .int r_23), (1, .int v2_15), (0, .ref h0)]) hx hb dX9_wayItem_120 hl (by decide) rfl (fun ls hl => ?_)
        refine lv_iload hx hb dX9_wayItem_122 (lv_at hl 0 rfl) ?_
        refine lv_if_eq (tgt := 141) hx hb dX9_wayItem_124 (by decide) (fun c_398 => ?_) (fun c_398 => absurd (by decide) c_398)
        refine lv_aload_n hx hb dX9_wayItem_141 rfl (lv_at hl 5 rfl) ?_
        refine xg hF kf_X9_266 hK hP 1 rfl rfl dX9_wayItem_142 ?_
        refine lv_if_ne (tgt := 187) hx hb dX9_wayItem_145 (by decide) (fun c_399 => ?_) (fun c_399 => absurd rfl (i_312 (i_323 c_399).1).2.1)
        exact W.vret hx hb hr (fun t ht hW => ⟨⟨(f2_314, t2_315, v2_316, w2_317, ms), rfl, ⟨(by first | assumption | omega), (by first | assumption | omega), (by first | assumption | omega), (by first | assumption | omega), (by first | assumption | omega), (fun h => ⟨(i_10 (i_22 (i_312 (i_323 h).1).1).1).1, trivial⟩), hs0, hs1, hs2, hsS, hsM, hsp, hsr, hsw, hsR⟩, by rw [ht]; exact hP.sub [1, 0, 2] rfl, hD.sub [1, 0, 2] (by decide) rfl⟩, hS.F ht⟩) hS.2.2 dX9_wayItem_187 hlk
set_option maxHeartbeats 4000000 in
set_option maxRecDepth 100000 in
theorem c_X9_walkItem (l : Launch) (D : va_G) (cI cJ cZ cS : ClassId) (ta : Nat) (sa sv : Nat → Nat) (sz : Nat) (h0 : Nat) (ys : Nat) (yk : Nat) (yo : Nat) (yt : Nat) (mk0 : Int32) (yfa : Nat) (yfe : Nat) (mL : Int32) (mS : Int32) (mM : Int32) (yro : Nat) (yhe : Nat) (ygr : Nat) (mF : Int32) (mC : Int32) (mY : Int32) (yta : Nat) (mz : Nat) (mf : Nat) (mt : Nat) (mv : Int32) (mw : Int32) (ywa : Nat) (ybi : Nat) (ysi : Nat) (ynu : Nat) (ymo : Nat) (ms : Nat → Int32) (tp : Nat → Int32) (wa : Nat → Int32) (P : Nat) (Rn : Nat) (Wn : Nat) (hz : mz ≤ 120) (k1 : mf ≤ mz) (k2 : mt ≤ mz) (k3 : mf ≤ mt) (k4 : mf < mt ∨ mf = mz) (hs0 : ms 0 = nI P) (hs1 : ms 1 = nI Rn) (hs2 : ms 2 = nI Wn) (hsS : SI ms) (hsM : MI ms) (hsp : P ≤ 10) (hsr : Rn ≤ 8) (hsw : Wn ≤ 8) (hsR : RI Rn ms) : Met l yX9_walkItem (Cond.code yX9_walkItem cX9_walkItem 6 none :: wsU) ({ frames := 6, cells := 0, slots := 0, locals := 136 }) (va_Pc [.ref h0] (XW D (xT cI cJ cZ cS) ta sa sv [(h0, .inr (9, [.ref ys, .ref yk, .ref yo, .ref yt, .int mk0, .ref yfa, .ref yfe, .int mL, .int mS, .int mM, .ref yro, .ref yhe, .ref ygr, .int mF, .int mC, .int mY, .ref yta, .int (nI (mz)), .int (nI (mf)), .int (nI (mt)), .int mv, .int mw, .ref ywa, .ref ybi, .ref ysi, .ref ynu, .ref ymo])), (ys, .inl (cI, 449, .inl ms)), (yta, .inl (cI, 120, .inl tp)), (ywa, .inl (cI, 6, .inl wa))] sz)) (XQv (fun (u : Nat × Nat × Int32 × Int32 × (Nat → Int32) × (Nat → Int32) × Nat) => match u with | (f2, t2, v2, w2, ms2, wa2, W2) => (f2 ≤ mz) ∧ (t2 ≤ mz) ∧ (f2 ≤ t2) ∧ (f2 < t2 ∨ f2 = mz) ∧ (mf ≤ f2) ∧ (w2 = 0 → mw = 0 ∧ True) ∧ (ms2 0 = nI P) ∧ (ms2 1 = nI Rn) ∧ (ms2 2 = nI W2) ∧ (SI ms2) ∧ (MI ms2) ∧ (P ≤ 10) ∧ (Rn ≤ 8) ∧ (W2 ≤ 8) ∧ (RI Rn ms2)) D (fun (u : Nat × Nat × Int32 × Int32 × (Nat → Int32) × (Nat → Int32) × Nat) => match u with | (f2, t2, v2, w2, ms2, wa2, W2) => [(h0, .inr (9, [.ref ys, .ref yk, .ref yo, .ref yt, .int mk0, .ref yfa, .ref yfe, .int mL, .int mS, .int mM, .ref yro, .ref yhe, .ref ygr, .int mF, .int mC, .int mY, .ref yta, .int (nI (mz)), .int (nI (f2)), .int (nI (t2)), .int v2, .int w2, .ref ywa, .ref ybi, .ref ysi, .ref ynu, .ref ymo])), (ys, .inl (cI, 449, .inl ms2)), (yta, .inl (cI, 120, .inl tp)), (ywa, .inl (cI, 6, .inl wa2))]) (va_A [(h0, .inr (9, [.ref ys, .ref yk, .ref yo, .ref yt, .int mk0, .ref yfa, .ref yfe, .int mL, .int mS, .int mM, .ref yro, .ref yhe, .ref ygr, .int mF, .int mC, .int mY, .ref yta, .int (nI (mz)), .int (nI (mf)), .int (nI (mt)), .int mv, .int mw, .ref ywa, .ref ybi, .ref ysi, .ref ynu, .ref ymo])), (ys, .inl (cI, 449, .inl ms)), (yta, .inl (cI, 120, .inl tp)), (ywa, .inl (cI, 6, .inl wa))] sz)) 0 0 (va_A [(h0, .inr (9, [.ref ys, .ref yk, .ref yo, .ref yt, .int mk0, .ref yfa, .ref yfe, .int mL, .int mS, .int mM, .ref yro, .ref yhe, .ref ygr, .int mF, .int mC, .int mY, .ref yta, .int (nI (mz)), .int (nI (mf)), .int (nI (mt)), .int mv, .int mw, .ref ywa, .ref ybi, .ref ysi, .ref ynu, .ref ymo])), (ys, .inl (cI, 449, .inl ms)), (yta, .inl (cI, 120, .inl tp)), (ywa, .inl (cI, 6, .inl wa))] sz) := by
  refine xh (QA := fun A => XQv (fun (u : Nat × Nat × Int32 × Int32 × (Nat → Int32) × (Nat → Int32) × Nat) => match u with | (f2, t2, v2, w2, ms2, wa2, W2) => (f2 ≤ mz) ∧ (t2 ≤ mz) ∧ (f2 ≤ t2) ∧ (f2 < t2 ∨ f2 = mz) ∧ (mf ≤ f2) ∧ (w2 = 0 → mw = 0 ∧ True) ∧ (ms2 0 = nI P) ∧ (ms2 1 = nI Rn) ∧ (ms2 2 = nI W2) ∧ (SI ms2) ∧ (MI ms2) ∧ (P ≤ 10) ∧ (Rn ≤ 8) ∧ (W2 ≤ 8) ∧ (RI Rn ms2)) D (fun (u : Nat × Nat × Int32 × Int32 × (Nat → Int32) × (Nat → Int32) × Nat) => match u with | (f2, t2, v2, w2, ms2, wa2, W2) => [(h0, .inr (9, [.ref ys, .ref yk, .ref yo, .ref yt, .int mk0, .ref yfa, .ref yfe, .int mL, .int mS, .int mM, .ref yro, .ref yhe, .ref ygr, .int mF, .int mC, .int mY, .ref yta, .int (nI (mz)), .int (nI (f2)), .int (nI (t2)), .int v2, .int w2, .ref ywa, .ref ybi, .ref ysi, .ref ynu, .ref ymo])), (ys, .inl (cI, 449, .inl ms2)), (yta, .inl (cI, 120, .inl tp)), (ywa, .inl (cI, 6, .inl wa2))]) A) (fr := fun A => A) (by decide) (Nat.le_of_ble_eq_true rfl) ?_
  intro p e s m below meth c ls A hF hr hlk hin hsz hP hK hD hN hZ hA hS hl
  have hF : CallFix p m c cX9_walkItem 6 s _ _ RX9 := hF
  have hx := hF.1
  have hb := hF.2.1
  have hml := hF.2.2.1
  have hown := hF.2.2.2.1
  have hu : ∀ w ∈ wsU, w.before _ s = true := fun w h => hF.2.2.2.2 w (List.mem_cons_of_mem _ h)
  have hl : lv_has ls 6 [(0, .ref h0)] := hl
  refine lv_aload_n hx hb dX9_walkItem_0 rfl (lv_at hl 0 rfl) ?_
  refine lv_aload_n hx hb dX9_walkItem_1 rfl (lv_at hl 0 rfl) ?_
  refine xg hF kf_X9_7 hK hP 0 rfl rfl dX9_walkItem_2 ?_
  refine lv_iconst (v := 2) hx hb dX9_walkItem_5 (by decide) ?_
  refine va_iald hx hb hK hP 1 0 rfl rfl (xin 2 449 (by decide) (by decide)) dX9_walkItem_6 ?_
  refine xl_i (y := nI (Wn)) hs2 ?_
  refine lv_bipush (v := 8) hx hb dX9_walkItem_7 (by decide) ?_
  refine lv_icmp_ge (tgt := 16) hx hb dX9_walkItem_9 (by decide) (fun c_1 => ?_) (fun c_1 => ?_)
  · skip
    have nc_1 : 8 ≤ Wn := xn_le (a := 8) (b := Wn) (by omega) (by omega) c_1
    refine lv_iconst (v := 0) hx hb dX9_walkItem_16 (by decide) ?_
    refine xc_Vv (wr := [(ys, .inl (cI, 449, .inl ms)), (ywa, .inl (cI, 6, .inl wa))]) hF (c_X9_needs l D cI cJ cZ cS ta sa sv s.heap.size h0 ys yk yo yt mk0 yfa yfe mL mS mM yro yhe ygr mF mC mY yta mz mf mt mv mw ywa ybi ysi ynu ymo tp 0 (by omega) (by omega) (by omega) (by omega) (by omega)) kv_X9_278 ⟨rfl, rfl, Nat.le_of_ble_eq_true rfl, Nat.le_of_ble_eq_true rfl⟩ ⟨Nat.le_of_ble_eq_true rfl, Nat.le_of_ble_eq_true rfl⟩ hK hN hZ hP hD hS hA [0, 2] [1, 3] rfl rfl rfl rfl (by decide) 0 rfl rfl rfl rfl hl.1 rfl (Nat.le_of_ble_eq_true rfl) dX9_walkItem_17 (fun u_r_2 H locs hw_r_2 hP hD hS => ?_)
    obtain ⟨f2_3, t2_4, w2_5⟩ := u_r_2
    try dsimp only at hw_r_2
    obtain ⟨i_6, i_7, i_8, i_9, i_10, i_11⟩ := hw_r_2
    have hP : va_P D vwCl [(ys, .inl (cI, 449, .inl ms)), (ywa, .inl (cI, 6, .inl wa)), (h0, .inr (9, [.ref ys, .ref yk, .ref yo, .ref yt, .int mk0, .ref yfa, .ref yfe, .int mL, .int mS, .int mM, .ref yro, .ref yhe, .ref ygr, .int mF, .int mC, .int mY, .ref yta, .int (nI (mz)), .int (nI (f2_3)), .int (nI (t2_4)), .int mv, .int w2_5, .ref ywa, .ref ybi, .ref ysi, .ref ynu, .ref ymo])), (yta, .inl (cI, 120, .inl tp))] H := hP
    have hD : va_D A [(ys, .inl (cI, 449, .inl ms)), (ywa, .inl (cI, 6, .inl wa)), (h0, .inr (9, [.ref ys, .ref yk, .ref yo, .ref yt, .int mk0, .ref yfa, .ref yfe, .int mL, .int mS, .int mM, .ref yro, .ref yhe, .ref ygr, .int mF, .int mC, .int mY, .ref yta, .int (nI (mz)), .int (nI (f2_3)), .int (nI (t2_4)), .int mv, .int w2_5, .ref ywa, .ref ybi, .ref ysi, .ref ynu, .ref ymo])), (yta, .inl (cI, 120, .inl tp))] := hD
    refine lv_iconst (v := 0) hx hb dX9_walkItem_20 (by decide) ?_
    refine lv_istore_n (lv' := [(1, .int 0), (0, .ref h0)]) hx hb dX9_walkItem_21 rfl hl (by decide) rfl (fun ls hl => ?_)
    suffices loop_22 : ∀ (n_22 : Nat) (n8 : Nat) (f8 : Nat) (t8 : Nat) (w8 : Int32) (a8 : Nat → Int32) (H : Heap) (locs : List Loc) (ls : Array Slot), 6 - n8 < n_22 → (n8 ≤ 6) → (f8 ≤ mz) → (t8 ≤ mz) → (f8 ≤ t8) → (f8 < t8 ∨ f8 = mz) → (mf ≤ f8) → (w8 = 0 → w2_5 = 0 ∧ True) → (wk_A n8 w8 a8) → va_P D vwCl [(ys, .inl (cI, 449, .inl ms)), (ywa, .inl (cI, 6, .inl a8)), (h0, .inr (9, [.ref ys, .ref yk, .ref yo, .ref yt, .int mk0, .ref yfa, .ref yfe, .int mL, .int mS, .int mM, .ref yro, .ref yhe, .ref ygr, .int mF, .int mC, .int mY, .ref yta, .int (nI (mz)), .int (nI (f8)), .int (nI (t8)), .int mv, .int w8, .ref ywa, .ref ybi, .ref ysi, .ref ynu, .ref ymo])), (yta, .inl (cI, 120, .inl tp))] H → va_D A [(ys, .inl (cI, 449, .inl ms)), (ywa, .inl (cI, 6, .inl a8)), (h0, .inr (9, [.ref ys, .ref yk, .ref yo, .ref yt, .int mk0, .ref yfa, .ref yfe, .int mL, .int mS, .int mM, .ref yro, .ref yhe, .ref ygr, .int mF, .int mC, .int mY, .ref yta, .int (nI (mz)), .int (nI (f8)), .int (nI (t8)), .int mv, .int w8, .ref ywa, .ref ybi, .ref ysi, .ref ynu, .ref ymo])), (yta, .inl (cI, 120, .inl tp))] → va_S A s.heap H locs → lv_has ls 6 [(1, .int (nI (n8))), (0, .ref h0)] → W p l e ({ frames := 6, cells := 0, slots := 0, locals := 136 }) s m ([.ref h0] : List Value).toArray below meth c H locs 0 0 (MQ below (XQv (fun (u : Nat × Nat × Int32 × Int32 × (Nat → Int32) × (Nat → Int32) × Nat) => match u with | (f2, t2, v2, w2, ms2, wa2, W2) => (f2 ≤ mz) ∧ (t2 ≤ mz) ∧ (f2 ≤ t2) ∧ (f2 < t2 ∨ f2 = mz) ∧ (mf ≤ f2) ∧ (w2 = 0 → mw = 0 ∧ True) ∧ (ms2 0 = nI P) ∧ (ms2 1 = nI Rn) ∧ (ms2 2 = nI W2) ∧ (SI ms2) ∧ (MI ms2) ∧ (P ≤ 10) ∧ (Rn ≤ 8) ∧ (W2 ≤ 8) ∧ (RI Rn ms2)) D (fun (u : Nat × Nat × Int32 × Int32 × (Nat → Int32) × (Nat → Int32) × Nat) => match u with | (f2, t2, v2, w2, ms2, wa2, W2) => [(h0, .inr (9, [.ref ys, .ref yk, .ref yo, .ref yt, .int mk0, .ref yfa, .ref yfe, .int mL, .int mS, .int mM, .ref yro, .ref yhe, .ref ygr, .int mF, .int mC, .int mY, .ref yta, .int (nI (mz)), .int (nI (f2)), .int (nI (t2)), .int v2, .int w2, .ref ywa, .ref ybi, .ref ysi, .ref ynu, .ref ymo])), (ys, .inl (cI, 449, .inl ms2)), (yta, .inl (cI, 120, .inl tp)), (ywa, .inl (cI, 6, .inl wa2))]) A) ([.ref h0] : List Value).toArray s 0 0 A) (F0 m 22 ls []) by
      exact loop_22 _ 0 f2_3 t2_4 w2_5 wa _ _ _ (Nat.lt_succ_self _) (by omega) (by omega) (by omega) (by omega) (by omega) (by omega) (fun h => ⟨h, trivial⟩) wk_A.zero hP hD hS (lv_sub hl [0, 1] rfl)
    intro n_22
    induction n_22 with
    | zero =>
      intro n8 f8 t8 w8 a8 H locs ls hm_22
      exact absurd hm_22 (Nat.not_lt_zero _)
    | succ n_22 ih_22 =>
      intro n8 f8 t8 w8 a8 H locs ls hm_22 hn8 hf81 hf82 hf83 hf84 hf85 hc8 hA8 hP hD hS hl
      refine lv_aload_n hx hb dX9_walkItem_22 rfl (lv_at hl 1 rfl) ?_
      refine xg hF kf_X9_266 hK hP 2 rfl rfl dX9_walkItem_23 ?_
      refine lv_if_ne (tgt := 105) hx hb dX9_walkItem_26 (by decide) (fun c_12 => ?_) (fun c_12 => ?_)
      · skip
        refine lv_aload_n hx hb dX9_walkItem_105 rfl (lv_at hl 1 rfl) ?_
        refine lv_aload_n hx hb dX9_walkItem_106 rfl (lv_at hl 1 rfl) ?_
        refine lv_bipush (v := 97) hx hb dX9_walkItem_107 (by decide) ?_
        refine lv_bipush (v := 108) hx hb dX9_walkItem_109 (by decide) ?_
        refine lv_bipush (v := 108) hx hb dX9_walkItem_111 (by decide) ?_
        refine lv_iconst (v := 0) hx hb dX9_walkItem_113 (by decide) ?_
        refine lv_iconst (v := 0) hx hb dX9_walkItem_114 (by decide) ?_
        refine lv_iconst (v := 0) hx hb dX9_walkItem_115 (by decide) ?_
        refine lv_iconst (v := 0) hx hb dX9_walkItem_116 (by decide) ?_
        refine xc_Vr hF (c_X9_isWord l D cI cJ cZ cS ta sa sv H.size h0 ys yk yo yt mk0 yfa yfe mL mS mM yro yhe ygr mF mC mY yta mz f8 t8 mv w8 ywa ybi ysi ynu ymo tp 97 108 108 0 0 0 0 (by omega) (by omega)) kv_X9_290 ⟨rfl, rfl, Nat.le_of_ble_eq_true rfl, Nat.le_of_ble_eq_true rfl⟩ ⟨Nat.le_of_ble_eq_true rfl, Nat.le_of_ble_eq_true rfl⟩ hK hN hZ hP hD hS hA [2, 3] rfl rfl 0 rfl rfl rfl rfl hl.1 rfl (Nat.le_of_ble_eq_true rfl) dX9_walkItem_117 (fun r_13 hw_r_13 => ?_)
        rcases hw_r_13 with rfl | rfl
        · skip
          refine xc_Vv (wr := [(ys, .inl (cI, 449, .inl ms)), (ywa, .inl (cI, 6, .inl a8))]) hF (c_X9_needs l D cI cJ cZ cS ta sa sv H.size h0 ys yk yo yt mk0 yfa yfe mL mS mM yro yhe ygr mF mC mY yta mz f8 t8 mv w8 ywa ybi ysi ynu ymo tp 1 (by omega) (by omega) (by omega) (by omega) (by omega)) kv_X9_278 ⟨rfl, rfl, Nat.le_of_ble_eq_true rfl, Nat.le_of_ble_eq_true rfl⟩ ⟨Nat.le_of_ble_eq_true rfl, Nat.le_of_ble_eq_true rfl⟩ hK hN hZ hP hD hS hA [2, 3] [0, 1] rfl rfl rfl rfl (by decide) 0 rfl rfl rfl rfl hl.1 rfl (Nat.le_of_ble_eq_true rfl) dX9_walkItem_120 (fun u_r_14 H locs hw_r_14 hP hD hS => ?_)
          obtain ⟨f2_15, t2_16, w2_17⟩ := u_r_14
          try dsimp only at hw_r_14
          obtain ⟨i_18, i_19, i_20, i_21, i_22, i_23⟩ := hw_r_14
          have hP : va_P D vwCl [(ys, .inl (cI, 449, .inl ms)), (ywa, .inl (cI, 6, .inl a8)), (h0, .inr (9, [.ref ys, .ref yk, .ref yo, .ref yt, .int mk0, .ref yfa, .ref yfe, .int mL, .int mS, .int mM, .ref yro, .ref yhe, .ref ygr, .int mF, .int mC, .int mY, .ref yta, .int (nI (mz)), .int (nI (f2_15)), .int (nI (t2_16)), .int mv, .int w2_17, .ref ywa, .ref ybi, .ref ysi, .ref ynu, .ref ymo])), (yta, .inl (cI, 120, .inl tp))] H := hP
          have hD : va_D A [(ys, .inl (cI, 449, .inl ms)), (ywa, .inl (cI, 6, .inl a8)), (h0, .inr (9, [.ref ys, .ref yk, .ref yo, .ref yt, .int mk0, .ref yfa, .ref yfe, .int mL, .int mS, .int mM, .ref yro, .ref yhe, .ref ygr, .int mF, .int mC, .int mY, .ref yta, .int (nI (mz)), .int (nI (f2_15)), .int (nI (t2_16)), .int mv, .int w2_17, .ref ywa, .ref ybi, .ref ysi, .ref ynu, .ref ymo])), (yta, .inl (cI, 120, .inl tp))] := hD
          refine lv_aload_n hx hb dX9_walkItem_123 rfl (lv_at hl 1 rfl) ?_
          refine lv_sipush (v := (-9999)) hx hb dX9_walkItem_124 (by decide) ?_
          refine lv_sipush (v := 9999) hx hb dX9_walkItem_127 (by decide) ?_
          refine xc_Vv (wr := [(ys, .inl (cI, 449, .inl ms)), (ywa, .inl (cI, 6, .inl a8))]) hF (c_X9_mile l D cI cJ cZ cS ta sa sv H.size h0 ys yk yo yt mk0 yfa yfe mL mS mM yro yhe ygr mF mC mY yta mz f2_15 t2_16 mv w2_17 ywa ybi ysi ynu ymo tp (-9999) 9999 (by omega) (by omega) (by omega) (by omega) (by omega)) kv_X9_287 ⟨rfl, rfl, Nat.le_of_ble_eq_true rfl, Nat.le_of_ble_eq_true rfl⟩ ⟨Nat.le_of_ble_eq_true rfl, Nat.le_of_ble_eq_true rfl⟩ hK hN hZ hP hD hS hA [2, 3] [0, 1] rfl rfl rfl rfl (by decide) 0 rfl rfl rfl rfl hl.1 rfl (Nat.le_of_ble_eq_true rfl) dX9_walkItem_130 (fun u_r_24 H locs hw_r_24 hP hD hS => ?_)
          obtain ⟨f2_25, t2_26, v2_27, w2_28⟩ := u_r_24
          try dsimp only at hw_r_24
          obtain ⟨i_29, i_30, i_31, i_32, i_33, i_34⟩ := hw_r_24
          have hP : va_P D vwCl [(ys, .inl (cI, 449, .inl ms)), (ywa, .inl (cI, 6, .inl a8)), (h0, .inr (9, [.ref ys, .ref yk, .ref yo, .ref yt, .int mk0, .ref yfa, .ref yfe, .int mL, .int mS, .int mM, .ref yro, .ref yhe, .ref ygr, .int mF, .int mC, .int mY, .ref yta, .int (nI (mz)), .int (nI (f2_25)), .int (nI (t2_26)), .int v2_27, .int w2_28, .ref ywa, .ref ybi, .ref ysi, .ref ynu, .ref ymo])), (yta, .inl (cI, 120, .inl tp))] H := hP
          have hD : va_D A [(ys, .inl (cI, 449, .inl ms)), (ywa, .inl (cI, 6, .inl a8)), (h0, .inr (9, [.ref ys, .ref yk, .ref yo, .ref yt, .int mk0, .ref yfa, .ref yfe, .int mL, .int mS, .int mM, .ref yro, .ref yhe, .ref ygr, .int mF, .int mC, .int mY, .ref yta, .int (nI (mz)), .int (nI (f2_25)), .int (nI (t2_26)), .int v2_27, .int w2_28, .ref ywa, .ref ybi, .ref ysi, .ref ynu, .ref ymo])), (yta, .inl (cI, 120, .inl tp))] := hD
          refine lv_aload_n hx hb dX9_walkItem_133 rfl (lv_at hl 1 rfl) ?_
          refine xg hF kf_X9_275 hK hP 2 rfl rfl dX9_walkItem_134 ?_
          refine lv_istore_n (lv' := [(2, .int v2_27), (1, .int (nI (n8))), (0, .ref h0)]) hx hb dX9_walkItem_137 rfl hl (by decide) rfl (fun ls hl => ?_)
          refine lv_iconst (v := 0) hx hb dX9_walkItem_138 (by decide) ?_
          refine lv_istore_n (lv' := [(3, .int 0), (2, .int v2_27), (1, .int (nI (n8))), (0, .ref h0)]) hx hb dX9_walkItem_139 rfl hl (by decide) rfl (fun ls hl => ?_)
          refine lv_aload_n hx hb dX9_walkItem_140 rfl (lv_at hl 3 rfl) ?_
          refine lv_bipush (v := 115) hx hb dX9_walkItem_141 (by decide) ?_
          refine lv_bipush (v := 108) hx hb dX9_walkItem_143 (by decide) ?_
          refine lv_bipush (v := 97) hx hb dX9_walkItem_145 (by decide) ?_
          refine lv_bipush (v := 99) hx hb dX9_walkItem_147 (by decide) ?_
          refine lv_bipush (v := 107) hx hb dX9_walkItem_149 (by decide) ?_
          refine lv_iconst (v := 0) hx hb dX9_walkItem_151 (by decide) ?_
          refine lv_iconst (v := 0) hx hb dX9_walkItem_152 (by decide) ?_
          refine xc_Vr hF (c_X9_isWord l D cI cJ cZ cS ta sa sv H.size h0 ys yk yo yt mk0 yfa yfe mL mS mM yro yhe ygr mF mC mY yta mz f2_25 t2_26 v2_27 w2_28 ywa ybi ysi ynu ymo tp 115 108 97 99 107 0 0 (by omega) (by omega)) kv_X9_290 ⟨rfl, rfl, Nat.le_of_ble_eq_true rfl, Nat.le_of_ble_eq_true rfl⟩ ⟨Nat.le_of_ble_eq_true rfl, Nat.le_of_ble_eq_true rfl⟩ hK hN hZ hP hD hS hA [2, 3] rfl rfl 0 rfl rfl rfl rfl hl.1 rfl (Nat.le_of_ble_eq_true rfl) dX9_walkItem_153 (fun r_35 hw_r_35 => ?_)
          rcases hw_r_35 with rfl | rfl
          · skip
            refine lv_if_eq (tgt := 176) hx hb dX9_walkItem_156 (by decide) (fun c_36 => absurd c_36 (by decide)) (fun c_36 => ?_)
            refine lv_aload_n hx hb dX9_walkItem_159 rfl (lv_at hl 3 rfl) ?_
            refine lv_iconst (v := 1) hx hb dX9_walkItem_160 (by decide) ?_
            refine xc_Vv (wr := [(ys, .inl (cI, 449, .inl ms)), (ywa, .inl (cI, 6, .inl a8))]) hF (c_X9_needs l D cI cJ cZ cS ta sa sv H.size h0 ys yk yo yt mk0 yfa yfe mL mS mM yro yhe ygr mF mC mY yta mz f2_25 t2_26 v2_27 w2_28 ywa ybi ysi ynu ymo tp 1 (by omega) (by omega) (by omega) (by omega) (by omega)) kv_X9_278 ⟨rfl, rfl, Nat.le_of_ble_eq_true rfl, Nat.le_of_ble_eq_true rfl⟩ ⟨Nat.le_of_ble_eq_true rfl, Nat.le_of_ble_eq_true rfl⟩ hK hN hZ hP hD hS hA [2, 3] [0, 1] rfl rfl rfl rfl (by decide) 0 rfl rfl rfl rfl hl.1 rfl (Nat.le_of_ble_eq_true rfl) dX9_walkItem_161 (fun u_r_37 H locs hw_r_37 hP hD hS => ?_)
            obtain ⟨f2_38, t2_39, w2_40⟩ := u_r_37
            try dsimp only at hw_r_37
            obtain ⟨i_41, i_42, i_43, i_44, i_45, i_46⟩ := hw_r_37
            have hP : va_P D vwCl [(ys, .inl (cI, 449, .inl ms)), (ywa, .inl (cI, 6, .inl a8)), (h0, .inr (9, [.ref ys, .ref yk, .ref yo, .ref yt, .int mk0, .ref yfa, .ref yfe, .int mL, .int mS, .int mM, .ref yro, .ref yhe, .ref ygr, .int mF, .int mC, .int mY, .ref yta, .int (nI (mz)), .int (nI (f2_38)), .int (nI (t2_39)), .int v2_27, .int w2_40, .ref ywa, .ref ybi, .ref ysi, .ref ynu, .ref ymo])), (yta, .inl (cI, 120, .inl tp))] H := hP
            have hD : va_D A [(ys, .inl (cI, 449, .inl ms)), (ywa, .inl (cI, 6, .inl a8)), (h0, .inr (9, [.ref ys, .ref yk, .ref yo, .ref yt, .int mk0, .ref yfa, .ref yfe, .int mL, .int mS, .int mM, .ref yro, .ref yhe, .ref ygr, .int mF, .int mC, .int mY, .ref yta, .int (nI (mz)), .int (nI (f2_38)), .int (nI (t2_39)), .int v2_27, .int w2_40, .ref ywa, .ref ybi, .ref ysi, .ref ynu, .ref ymo])), (yta, .inl (cI, 120, .inl tp))] := hD
            refine lv_aload_n hx hb dX9_walkItem_164 rfl (lv_at hl 3 rfl) ?_
            refine lv_iconst (v := 0) hx hb dX9_walkItem_165 (by decide) ?_
            refine lv_bipush (v := 99) hx hb dX9_walkItem_166 (by decide) ?_
            refine xc_Vv (wr := [(ys, .inl (cI, 449, .inl ms)), (ywa, .inl (cI, 6, .inl a8))]) hF (c_X9_number l D cI cJ cZ cS ta sa sv H.size h0 ys yk yo yt mk0 yfa yfe mL mS mM yro yhe ygr mF mC mY yta mz f2_38 t2_39 v2_27 w2_40 ywa ybi ysi ynu ymo tp 0 99 (by omega) (by omega) (by omega) (by omega) (by omega)) kv_X9_282 ⟨rfl, rfl, Nat.le_of_ble_eq_true rfl, Nat.le_of_ble_eq_true rfl⟩ ⟨Nat.le_of_ble_eq_true rfl, Nat.le_of_ble_eq_true rfl⟩ hK hN hZ hP hD hS hA [2, 3] [0, 1] rfl rfl rfl rfl (by decide) 0 rfl rfl rfl rfl hl.1 rfl (Nat.le_of_ble_eq_true rfl) dX9_walkItem_168 (fun u_r_47 H locs hw_r_47 hP hD hS => ?_)
            obtain ⟨f2_48, t2_49, v2_50, w2_51⟩ := u_r_47
            try dsimp only at hw_r_47
            obtain ⟨i_52, i_53, i_54, i_55, i_56, i_57⟩ := hw_r_47
            have hP : va_P D vwCl [(ys, .inl (cI, 449, .inl ms)), (ywa, .inl (cI, 6, .inl a8)), (h0, .inr (9, [.ref ys, .ref yk, .ref yo, .ref yt, .int mk0, .ref yfa, .ref yfe, .int mL, .int mS, .int mM, .ref yro, .ref yhe, .ref ygr, .int mF, .int mC, .int mY, .ref yta, .int (nI (mz)), .int (nI (f2_48)), .int (nI (t2_49)), .int v2_50, .int w2_51, .ref ywa, .ref ybi, .ref ysi, .ref ynu, .ref ymo])), (yta, .inl (cI, 120, .inl tp))] H := hP
            have hD : va_D A [(ys, .inl (cI, 449, .inl ms)), (ywa, .inl (cI, 6, .inl a8)), (h0, .inr (9, [.ref ys, .ref yk, .ref yo, .ref yt, .int mk0, .ref yfa, .ref yfe, .int mL, .int mS, .int mM, .ref yro, .ref yhe, .ref ygr, .int mF, .int mC, .int mY, .ref yta, .int (nI (mz)), .int (nI (f2_48)), .int (nI (t2_49)), .int v2_50, .int w2_51, .ref ywa, .ref ybi, .ref ysi, .ref ynu, .ref ymo])), (yta, .inl (cI, 120, .inl tp))] := hD
            refine lv_aload_n hx hb dX9_walkItem_171 rfl (lv_at hl 3 rfl) ?_
            refine xg hF kf_X9_275 hK hP 2 rfl rfl dX9_walkItem_172 ?_
            refine lv_istore_n (lv' := [(3, .int v2_50), (2, .int v2_27), (1, .int (nI (n8))), (0, .ref h0)]) hx hb dX9_walkItem_175 rfl hl (by decide) rfl (fun ls hl => ?_)
            refine lv_aload_n hx hb dX9_walkItem_176 rfl (lv_at hl 3 rfl) ?_
            refine xg hF kf_X9_266 hK hP 2 rfl rfl dX9_walkItem_177 ?_
            refine lv_if_ne (tgt := 252) hx hb dX9_walkItem_180 (by decide) (fun c_58 => ?_) (fun c_58 => absurd rfl (i_11 (hc8 (i_23 (i_34 (i_46 (i_57 c_58).1).1).1).1).1).2.1)
            exact W.vret hx hb hr (fun t ht hW => ⟨⟨(f2_48, t2_49, v2_50, w2_51, ms, a8, Wn), rfl, ⟨(by first | assumption | omega), (by first | assumption | omega), (by first | assumption | omega), (by first | assumption | omega), (by first | assumption | omega), (fun h => ⟨(i_11 (hc8 (i_23 (i_34 (i_46 (i_57 h).1).1).1).1).1).1, trivial⟩), hs0, hs1, hs2, hsS, hsM, hsp, hsr, hsw, hsR⟩, by rw [ht]; exact hP.sub [2, 0, 3, 1] rfl, hD.sub [2, 0, 3, 1] (by decide) rfl⟩, hS.F ht⟩) hS.2.2 dX9_walkItem_252 hlk
          · skip
            refine lv_if_eq (tgt := 176) hx hb dX9_walkItem_156 (by decide) (fun c_59 => ?_) (fun c_59 => absurd (by decide) c_59)
            refine lv_aload_n hx hb dX9_walkItem_176 rfl (lv_at hl 3 rfl) ?_
            refine xg hF kf_X9_266 hK hP 2 rfl rfl dX9_walkItem_177 ?_
            refine lv_if_ne (tgt := 252) hx hb dX9_walkItem_180 (by decide) (fun c_60 => ?_) (fun c_60 => absurd rfl (i_11 (hc8 (i_23 (i_34 c_60).1).1).1).2.1)
            exact W.vret hx hb hr (fun t ht hW => ⟨⟨(f2_25, t2_26, v2_27, w2_28, ms, a8, Wn), rfl, ⟨(by first | assumption | omega), (by first | assumption | omega), (by first | assumption | omega), (by first | assumption | omega), (by first | assumption | omega), (fun h => ⟨(i_11 (hc8 (i_23 (i_34 h).1).1).1).1, trivial⟩), hs0, hs1, hs2, hsS, hsM, hsp, hsr, hsw, hsR⟩, by rw [ht]; exact hP.sub [2, 0, 3, 1] rfl, hD.sub [2, 0, 3, 1] (by decide) rfl⟩, hS.F ht⟩) hS.2.2 dX9_walkItem_252 hlk
        · skip
          refine xc_Vv (wr := [(ys, .inl (cI, 449, .inl ms)), (ywa, .inl (cI, 6, .inl a8))]) hF (c_X9_needs l D cI cJ cZ cS ta sa sv H.size h0 ys yk yo yt mk0 yfa yfe mL mS mM yro yhe ygr mF mC mY yta mz f8 t8 mv w8 ywa ybi ysi ynu ymo tp 0 (by omega) (by omega) (by omega) (by omega) (by omega)) kv_X9_278 ⟨rfl, rfl, Nat.le_of_ble_eq_true rfl, Nat.le_of_ble_eq_true rfl⟩ ⟨Nat.le_of_ble_eq_true rfl, Nat.le_of_ble_eq_true rfl⟩ hK hN hZ hP hD hS hA [2, 3] [0, 1] rfl rfl rfl rfl (by decide) 0 rfl rfl rfl rfl hl.1 rfl (Nat.le_of_ble_eq_true rfl) dX9_walkItem_120 (fun u_r_61 H locs hw_r_61 hP hD hS => ?_)
          obtain ⟨f2_62, t2_63, w2_64⟩ := u_r_61
          try dsimp only at hw_r_61
          obtain ⟨i_65, i_66, i_67, i_68, i_69, i_70⟩ := hw_r_61
          have hP : va_P D vwCl [(ys, .inl (cI, 449, .inl ms)), (ywa, .inl (cI, 6, .inl a8)), (h0, .inr (9, [.ref ys, .ref yk, .ref yo, .ref yt, .int mk0, .ref yfa, .ref yfe, .int mL, .int mS, .int mM, .ref yro, .ref yhe, .ref ygr, .int mF, .int mC, .int mY, .ref yta, .int (nI (mz)), .int (nI (f2_62)), .int (nI (t2_63)), .int mv, .int w2_64, .ref ywa, .ref ybi, .ref ysi, .ref ynu, .ref ymo])), (yta, .inl (cI, 120, .inl tp))] H := hP
          have hD : va_D A [(ys, .inl (cI, 449, .inl ms)), (ywa, .inl (cI, 6, .inl a8)), (h0, .inr (9, [.ref ys, .ref yk, .ref yo, .ref yt, .int mk0, .ref yfa, .ref yfe, .int mL, .int mS, .int mM, .ref yro, .ref yhe, .ref ygr, .int mF, .int mC, .int mY, .ref yta, .int (nI (mz)), .int (nI (f2_62)), .int (nI (t2_63)), .int mv, .int w2_64, .ref ywa, .ref ybi, .ref ysi, .ref ynu, .ref ymo])), (yta, .inl (cI, 120, .inl tp))] := hD
          refine lv_aload_n hx hb dX9_walkItem_123 rfl (lv_at hl 1 rfl) ?_
          refine lv_sipush (v := (-9999)) hx hb dX9_walkItem_124 (by decide) ?_
          refine lv_sipush (v := 9999) hx hb dX9_walkItem_127 (by decide) ?_
          refine xc_Vv (wr := [(ys, .inl (cI, 449, .inl ms)), (ywa, .inl (cI, 6, .inl a8))]) hF (c_X9_mile l D cI cJ cZ cS ta sa sv H.size h0 ys yk yo yt mk0 yfa yfe mL mS mM yro yhe ygr mF mC mY yta mz f2_62 t2_63 mv w2_64 ywa ybi ysi ynu ymo tp (-9999) 9999 (by omega) (by omega) (by omega) (by omega) (by omega)) kv_X9_287 ⟨rfl, rfl, Nat.le_of_ble_eq_true rfl, Nat.le_of_ble_eq_true rfl⟩ ⟨Nat.le_of_ble_eq_true rfl, Nat.le_of_ble_eq_true rfl⟩ hK hN hZ hP hD hS hA [2, 3] [0, 1] rfl rfl rfl rfl (by decide) 0 rfl rfl rfl rfl hl.1 rfl (Nat.le_of_ble_eq_true rfl) dX9_walkItem_130 (fun u_r_71 H locs hw_r_71 hP hD hS => ?_)
          obtain ⟨f2_72, t2_73, v2_74, w2_75⟩ := u_r_71
          try dsimp only at hw_r_71
          obtain ⟨i_76, i_77, i_78, i_79, i_80, i_81⟩ := hw_r_71
          have hP : va_P D vwCl [(ys, .inl (cI, 449, .inl ms)), (ywa, .inl (cI, 6, .inl a8)), (h0, .inr (9, [.ref ys, .ref yk, .ref yo, .ref yt, .int mk0, .ref yfa, .ref yfe, .int mL, .int mS, .int mM, .ref yro, .ref yhe, .ref ygr, .int mF, .int mC, .int mY, .ref yta, .int (nI (mz)), .int (nI (f2_72)), .int (nI (t2_73)), .int v2_74, .int w2_75, .ref ywa, .ref ybi, .ref ysi, .ref ynu, .ref ymo])), (yta, .inl (cI, 120, .inl tp))] H := hP
          have hD : va_D A [(ys, .inl (cI, 449, .inl ms)), (ywa, .inl (cI, 6, .inl a8)), (h0, .inr (9, [.ref ys, .ref yk, .ref yo, .ref yt, .int mk0, .ref yfa, .ref yfe, .int mL, .int mS, .int mM, .ref yro, .ref yhe, .ref ygr, .int mF, .int mC, .int mY, .ref yta, .int (nI (mz)), .int (nI (f2_72)), .int (nI (t2_73)), .int v2_74, .int w2_75, .ref ywa, .ref ybi, .ref ysi, .ref ynu, .ref ymo])), (yta, .inl (cI, 120, .inl tp))] := hD
          refine lv_aload_n hx hb dX9_walkItem_133 rfl (lv_at hl 1 rfl) ?_
          refine xg hF kf_X9_275 hK hP 2 rfl rfl dX9_walkItem_134 ?_
          refine lv_istore_n (lv' := [(2, .int v2_74), (1, .int (nI (n8))), (0, .ref h0)]) hx hb dX9_walkItem_137 rfl hl (by decide) rfl (fun ls hl => ?_)
          refine lv_iconst (v := 0) hx hb dX9_walkItem_138 (by decide) ?_
          refine lv_istore_n (lv' := [(3, .int 0), (2, .int v2_74), (1, .int (nI (n8))), (0, .ref h0)]) hx hb dX9_walkItem_139 rfl hl (by decide) rfl (fun ls hl => ?_)
          refine lv_aload_n hx hb dX9_walkItem_140 rfl (lv_at hl 3 rfl) ?_
          refine lv_bipush (v := 115) hx hb dX9_walkItem_141 (by decide) ?_
          refine lv_bipush (v := 108) hx hb dX9_walkItem_143 (by decide) ?_
          refine lv_bipush (v := 97) hx hb dX9_walkItem_145 (by decide) ?_
          refine lv_bipush (v := 99) hx hb dX9_walkItem_147 (by decide) ?_
          refine lv_bipush (v := 107) hx hb dX9_walkItem_149 (by decide) ?_
          refine lv_iconst (v := 0) hx hb dX9_walkItem_151 (by decide) ?_
          refine lv_iconst (v := 0) hx hb dX9_walkItem_152 (by decide) ?_
          refine xc_Vr hF (c_X9_isWord l D cI cJ cZ cS ta sa sv H.size h0 ys yk yo yt mk0 yfa yfe mL mS mM yro yhe ygr mF mC mY yta mz f2_72 t2_73 v2_74 w2_75 ywa ybi ysi ynu ymo tp 115 108 97 99 107 0 0 (by omega) (by omega)) kv_X9_290 ⟨rfl, rfl, Nat.le_of_ble_eq_true rfl, Nat.le_of_ble_eq_true rfl⟩ ⟨Nat.le_of_ble_eq_true rfl, Nat.le_of_ble_eq_true rfl⟩ hK hN hZ hP hD hS hA [2, 3] rfl rfl 0 rfl rfl rfl rfl hl.1 rfl (Nat.le_of_ble_eq_true rfl) dX9_walkItem_153 (fun r_82 hw_r_82 => ?_)
          rcases hw_r_82 with rfl | rfl
          · skip
            refine lv_if_eq (tgt := 176) hx hb dX9_walkItem_156 (by decide) (fun c_83 => absurd c_83 (by decide)) (fun c_83 => ?_)
            refine lv_aload_n hx hb dX9_walkItem_159 rfl (lv_at hl 3 rfl) ?_
            refine lv_iconst (v := 1) hx hb dX9_walkItem_160 (by decide) ?_
            refine xc_Vv (wr := [(ys, .inl (cI, 449, .inl ms)), (ywa, .inl (cI, 6, .inl a8))]) hF (c_X9_needs l D cI cJ cZ cS ta sa sv H.size h0 ys yk yo yt mk0 yfa yfe mL mS mM yro yhe ygr mF mC mY yta mz f2_72 t2_73 v2_74 w2_75 ywa ybi ysi ynu ymo tp 1 (by omega) (by omega) (by omega) (by omega) (by omega)) kv_X9_278 ⟨rfl, rfl, Nat.le_of_ble_eq_true rfl, Nat.le_of_ble_eq_true rfl⟩ ⟨Nat.le_of_ble_eq_true rfl, Nat.le_of_ble_eq_true rfl⟩ hK hN hZ hP hD hS hA [2, 3] [0, 1] rfl rfl rfl rfl (by decide) 0 rfl rfl rfl rfl hl.1 rfl (Nat.le_of_ble_eq_true rfl) dX9_walkItem_161 (fun u_r_84 H locs hw_r_84 hP hD hS => ?_)
            obtain ⟨f2_85, t2_86, w2_87⟩ := u_r_84
            try dsimp only at hw_r_84
            obtain ⟨i_88, i_89, i_90, i_91, i_92, i_93⟩ := hw_r_84
            have hP : va_P D vwCl [(ys, .inl (cI, 449, .inl ms)), (ywa, .inl (cI, 6, .inl a8)), (h0, .inr (9, [.ref ys, .ref yk, .ref yo, .ref yt, .int mk0, .ref yfa, .ref yfe, .int mL, .int mS, .int mM, .ref yro, .ref yhe, .ref ygr, .int mF, .int mC, .int mY, .ref yta, .int (nI (mz)), .int (nI (f2_85)), .int (nI (t2_86)), .int v2_74, .int w2_87, .ref ywa, .ref ybi, .ref ysi, .ref ynu, .ref ymo])), (yta, .inl (cI, 120, .inl tp))] H := hP
            have hD : va_D A [(ys, .inl (cI, 449, .inl ms)), (ywa, .inl (cI, 6, .inl a8)), (h0, .inr (9, [.ref ys, .ref yk, .ref yo, .ref yt, .int mk0, .ref yfa, .ref yfe, .int mL, .int mS, .int mM, .ref yro, .ref yhe, .ref ygr, .int mF, .int mC, .int mY, .ref yta, .int (nI (mz)), .int (nI (f2_85)), .int (nI (t2_86)), .int v2_74, .int w2_87, .ref ywa, .ref ybi, .ref ysi, .ref ynu, .ref ymo])), (yta, .inl (cI, 120, .inl tp))] := hD
            refine lv_aload_n hx hb dX9_walkItem_164 rfl (lv_at hl 3 rfl) ?_
            refine lv_iconst (v := 0) hx hb dX9_walkItem_165 (by decide) ?_
            refine lv_bipush (v := 99) hx hb dX9_walkItem_166 (by decide) ?_
            refine xc_Vv (wr := [(ys, .inl (cI, 449, .inl ms)), (ywa, .inl (cI, 6, .inl a8))]) hF (c_X9_number l D cI cJ cZ cS ta sa sv H.size h0 ys yk yo yt mk0 yfa yfe mL mS mM yro yhe ygr mF mC mY yta mz f2_85 t2_86 v2_74 w2_87 ywa ybi ysi ynu ymo tp 0 99 (by omega) (by omega) (by omega) (by omega) (by omega)) kv_X9_282 ⟨rfl, rfl, Nat.le_of_ble_eq_true rfl, Nat.le_of_ble_eq_true rfl⟩ ⟨Nat.le_of_ble_eq_true rfl, Nat.le_of_ble_eq_true rfl⟩ hK hN hZ hP hD hS hA [2, 3] [0, 1] rfl rfl rfl rfl (by decide) 0 rfl rfl rfl rfl hl.1 rfl (Nat.le_of_ble_eq_true rfl) dX9_walkItem_168 (fun u_r_94 H locs hw_r_94 hP hD hS => ?_)
            obtain ⟨f2_95, t2_96, v2_97, w2_98⟩ := u_r_94
            try dsimp only at hw_r_94
            obtain ⟨i_99, i_100, i_101, i_102, i_103, i_104⟩ := hw_r_94
            have hP : va_P D vwCl [(ys, .inl (cI, 449, .inl ms)), (ywa, .inl (cI, 6, .inl a8)), (h0, .inr (9, [.ref ys, .ref yk, .ref yo, .ref yt, .int mk0, .ref yfa, .ref yfe, .int mL, .int mS, .int mM, .ref yro, .ref yhe, .ref ygr, .int mF, .int mC, .int mY, .ref yta, .int (nI (mz)), .int (nI (f2_95)), .int (nI (t2_96)), .int v2_97, .int w2_98, .ref ywa, .ref ybi, .ref ysi, .ref ynu, .ref ymo])), (yta, .inl (cI, 120, .inl tp))] H := hP
            have hD : va_D A [(ys, .inl (cI, 449, .inl ms)), (ywa, .inl (cI, 6, .inl a8)), (h0, .inr (9, [.ref ys, .ref yk, .ref yo, .ref yt, .int mk0, .ref yfa, .ref yfe, .int mL, .int mS, .int mM, .ref yro, .ref yhe, .ref ygr, .int mF, .int mC, .int mY, .ref yta, .int (nI (mz)), .int (nI (f2_95)), .int (nI (t2_96)), .int v2_97, .int w2_98, .ref ywa, .ref ybi, .ref ysi, .ref ynu, .ref ymo])), (yta, .inl (cI, 120, .inl tp))] := hD
            refine lv_aload_n hx hb dX9_walkItem_171 rfl (lv_at hl 3 rfl) ?_
            refine xg hF kf_X9_275 hK hP 2 rfl rfl dX9_walkItem_172 ?_
            refine lv_istore_n (lv' := [(3, .int v2_97), (2, .int v2_74), (1, .int (nI (n8))), (0, .ref h0)]) hx hb dX9_walkItem_175 rfl hl (by decide) rfl (fun ls hl => ?_)
            refine lv_aload_n hx hb dX9_walkItem_176 rfl (lv_at hl 3 rfl) ?_
            refine xg hF kf_X9_266 hK hP 2 rfl rfl dX9_walkItem_177 ?_
            refine lv_if_ne (tgt := 252) hx hb dX9_walkItem_180 (by decide) (fun c_105 => ?_) (fun c_105 => absurd rfl (i_70 (i_81 (i_93 (i_104 c_105).1).1).1).2.1)
            exact W.vret hx hb hr (fun t ht hW => ⟨⟨(f2_95, t2_96, v2_97, w2_98, ms, a8, Wn), rfl, ⟨(by first | assumption | omega), (by first | assumption | omega), (by first | assumption | omega), (by first | assumption | omega), (by first | assumption | omega), (fun h => ⟨(i_11 (hc8 (i_70 (i_81 (i_93 (i_104 h).1).1).1).1).1).1, trivial⟩), hs0, hs1, hs2, hsS, hsM, hsp, hsr, hsw, hsR⟩, by rw [ht]; exact hP.sub [2, 0, 3, 1] rfl, hD.sub [2, 0, 3, 1] (by decide) rfl⟩, hS.F ht⟩) hS.2.2 dX9_walkItem_252 hlk
          · skip
            refine lv_if_eq (tgt := 176) hx hb dX9_walkItem_156 (by decide) (fun c_106 => ?_) (fun c_106 => absurd (by decide) c_106)
            refine lv_aload_n hx hb dX9_walkItem_176 rfl (lv_at hl 3 rfl) ?_
            refine xg hF kf_X9_266 hK hP 2 rfl rfl dX9_walkItem_177 ?_
            refine lv_if_ne (tgt := 252) hx hb dX9_walkItem_180 (by decide) (fun c_107 => ?_) (fun c_107 => absurd rfl (i_70 (i_81 c_107).1).2.1)
            exact W.vret hx hb hr (fun t ht hW => ⟨⟨(f2_72, t2_73, v2_74, w2_75, ms, a8, Wn), rfl, ⟨(by first | assumption | omega), (by first | assumption | omega), (by first | assumption | omega), (by first | assumption | omega), (by first | assumption | omega), (fun h => ⟨(i_11 (hc8 (i_70 (i_81 h).1).1).1).1, trivial⟩), hs0, hs1, hs2, hsS, hsM, hsp, hsr, hsw, hsR⟩, by rw [ht]; exact hP.sub [2, 0, 3, 1] rfl, hD.sub [2, 0, 3, 1] (by decide) rfl⟩, hS.F ht⟩) hS.2.2 dX9_walkItem_252 hlk
      · skip
        refine lv_iload_n hx hb dX9_walkItem_29 rfl (lv_at hl 0 rfl) ?_
        refine lv_bipush (v := 6) hx hb dX9_walkItem_30 (by decide) ?_
        refine lv_icmp_ge (tgt := 105) hx hb dX9_walkItem_32 (by decide) (fun c_108 => ?_) (fun c_108 => ?_)
        · skip
          have nc_108 : 6 ≤ n8 := xn_le (a := 6) (b := n8) (by omega) (by omega) c_108
          refine lv_aload_n hx hb dX9_walkItem_105 rfl (lv_at hl 1 rfl) ?_
          refine lv_aload_n hx hb dX9_walkItem_106 rfl (lv_at hl 1 rfl) ?_
          refine lv_bipush (v := 97) hx hb dX9_walkItem_107 (by decide) ?_
          refine lv_bipush (v := 108) hx hb dX9_walkItem_109 (by decide) ?_
          refine lv_bipush (v := 108) hx hb dX9_walkItem_111 (by decide) ?_
          refine lv_iconst (v := 0) hx hb dX9_walkItem_113 (by decide) ?_
          refine lv_iconst (v := 0) hx hb dX9_walkItem_114 (by decide) ?_
          refine lv_iconst (v := 0) hx hb dX9_walkItem_115 (by decide) ?_
          refine lv_iconst (v := 0) hx hb dX9_walkItem_116 (by decide) ?_
          refine xc_Vr hF (c_X9_isWord l D cI cJ cZ cS ta sa sv H.size h0 ys yk yo yt mk0 yfa yfe mL mS mM yro yhe ygr mF mC mY yta mz f8 t8 mv w8 ywa ybi ysi ynu ymo tp 97 108 108 0 0 0 0 (by omega) (by omega)) kv_X9_290 ⟨rfl, rfl, Nat.le_of_ble_eq_true rfl, Nat.le_of_ble_eq_true rfl⟩ ⟨Nat.le_of_ble_eq_true rfl, Nat.le_of_ble_eq_true rfl⟩ hK hN hZ hP hD hS hA [2, 3] rfl rfl 0 rfl rfl rfl rfl hl.1 rfl (Nat.le_of_ble_eq_true rfl) dX9_walkItem_117 (fun r_109 hw_r_109 => ?_)
          rcases hw_r_109 with rfl | rfl
          · skip
            refine xc_Vv (wr := [(ys, .inl (cI, 449, .inl ms)), (ywa, .inl (cI, 6, .inl a8))]) hF (c_X9_needs l D cI cJ cZ cS ta sa sv H.size h0 ys yk yo yt mk0 yfa yfe mL mS mM yro yhe ygr mF mC mY yta mz f8 t8 mv w8 ywa ybi ysi ynu ymo tp 1 (by omega) (by omega) (by omega) (by omega) (by omega)) kv_X9_278 ⟨rfl, rfl, Nat.le_of_ble_eq_true rfl, Nat.le_of_ble_eq_true rfl⟩ ⟨Nat.le_of_ble_eq_true rfl, Nat.le_of_ble_eq_true rfl⟩ hK hN hZ hP hD hS hA [2, 3] [0, 1] rfl rfl rfl rfl (by decide) 0 rfl rfl rfl rfl hl.1 rfl (Nat.le_of_ble_eq_true rfl) dX9_walkItem_120 (fun u_r_110 H locs hw_r_110 hP hD hS => ?_)
            obtain ⟨f2_111, t2_112, w2_113⟩ := u_r_110
            try dsimp only at hw_r_110
            obtain ⟨i_114, i_115, i_116, i_117, i_118, i_119⟩ := hw_r_110
            have hP : va_P D vwCl [(ys, .inl (cI, 449, .inl ms)), (ywa, .inl (cI, 6, .inl a8)), (h0, .inr (9, [.ref ys, .ref yk, .ref yo, .ref yt, .int mk0, .ref yfa, .ref yfe, .int mL, .int mS, .int mM, .ref yro, .ref yhe, .ref ygr, .int mF, .int mC, .int mY, .ref yta, .int (nI (mz)), .int (nI (f2_111)), .int (nI (t2_112)), .int mv, .int w2_113, .ref ywa, .ref ybi, .ref ysi, .ref ynu, .ref ymo])), (yta, .inl (cI, 120, .inl tp))] H := hP
            have hD : va_D A [(ys, .inl (cI, 449, .inl ms)), (ywa, .inl (cI, 6, .inl a8)), (h0, .inr (9, [.ref ys, .ref yk, .ref yo, .ref yt, .int mk0, .ref yfa, .ref yfe, .int mL, .int mS, .int mM, .ref yro, .ref yhe, .ref ygr, .int mF, .int mC, .int mY, .ref yta, .int (nI (mz)), .int (nI (f2_111)), .int (nI (t2_112)), .int mv, .int w2_113, .ref ywa, .ref ybi, .ref ysi, .ref ynu, .ref ymo])), (yta, .inl (cI, 120, .inl tp))] := hD
            refine lv_aload_n hx hb dX9_walkItem_123 rfl (lv_at hl 1 rfl) ?_
            refine lv_sipush (v := (-9999)) hx hb dX9_walkItem_124 (by decide) ?_
            refine lv_sipush (v := 9999) hx hb dX9_walkItem_127 (by decide) ?_
            refine xc_Vv (wr := [(ys, .inl (cI, 449, .inl ms)), (ywa, .inl (cI, 6, .inl a8))]) hF (c_X9_mile l D cI cJ cZ cS ta sa sv H.size h0 ys yk yo yt mk0 yfa yfe mL mS mM yro yhe ygr mF mC mY yta mz f2_111 t2_112 mv w2_113 ywa ybi ysi ynu ymo tp (-9999) 9999 (by omega) (by omega) (by omega) (by omega) (by omega)) kv_X9_287 ⟨rfl, rfl, Nat.le_of_ble_eq_true rfl, Nat.le_of_ble_eq_true rfl⟩ ⟨Nat.le_of_ble_eq_true rfl, Nat.le_of_ble_eq_true rfl⟩ hK hN hZ hP hD hS hA [2, 3] [0, 1] rfl rfl rfl rfl (by decide) 0 rfl rfl rfl rfl hl.1 rfl (Nat.le_of_ble_eq_true rfl) dX9_walkItem_130 (fun u_r_120 H locs hw_r_120 hP hD hS => ?_)
            obtain ⟨f2_121, t2_122, v2_123, w2_124⟩ := u_r_120
            try dsimp only at hw_r_120
            obtain ⟨i_125, i_126, i_127, i_128, i_129, i_130⟩ := hw_r_120
            have hP : va_P D vwCl [(ys, .inl (cI, 449, .inl ms)), (ywa, .inl (cI, 6, .inl a8)), (h0, .inr (9, [.ref ys, .ref yk, .ref yo, .ref yt, .int mk0, .ref yfa, .ref yfe, .int mL, .int mS, .int mM, .ref yro, .ref yhe, .ref ygr, .int mF, .int mC, .int mY, .ref yta, .int (nI (mz)), .int (nI (f2_121)), .int (nI (t2_122)), .int v2_123, .int w2_124, .ref ywa, .ref ybi, .ref ysi, .ref ynu, .ref ymo])), (yta, .inl (cI, 120, .inl tp))] H := hP
            have hD : va_D A [(ys, .inl (cI, 449, .inl ms)), (ywa, .inl (cI, 6, .inl a8)), (h0, .inr (9, [.ref ys, .ref yk, .ref yo, .ref yt, .int mk0, .ref yfa, .ref yfe, .int mL, .int mS, .int mM, .ref yro, .ref yhe, .ref ygr, .int mF, .int mC, .int mY, .ref yta, .int (nI (mz)), .int (nI (f2_121)), .int (nI (t2_122)), .int v2_123, .int w2_124, .ref ywa, .ref ybi, .ref ysi, .ref ynu, .ref ymo])), (yta, .inl (cI, 120, .inl tp))] := hD
            refine lv_aload_n hx hb dX9_walkItem_133 rfl (lv_at hl 1 rfl) ?_
            refine xg hF kf_X9_275 hK hP 2 rfl rfl dX9_walkItem_134 ?_
            refine lv_istore_n (lv' := [(2, .int v2_123), (1, .int (nI (n8))), (0, .ref h0)]) hx hb dX9_walkItem_137 rfl hl (by decide) rfl (fun ls hl => ?_)
            refine lv_iconst (v := 0) hx hb dX9_walkItem_138 (by decide) ?_
            refine lv_istore_n (lv' := [(3, .int 0), (2, .int v2_123), (1, .int (nI (n8))), (0, .ref h0)]) hx hb dX9_walkItem_139 rfl hl (by decide) rfl (fun ls hl => ?_)
            refine lv_aload_n hx hb dX9_walkItem_140 rfl (lv_at hl 3 rfl) ?_
            refine lv_bipush (v := 115) hx hb dX9_walkItem_141 (by decide) ?_
            refine lv_bipush (v := 108) hx hb dX9_walkItem_143 (by decide) ?_
            refine lv_bipush (v := 97) hx hb dX9_walkItem_145 (by decide) ?_
            refine lv_bipush (v := 99) hx hb dX9_walkItem_147 (by decide) ?_
            refine lv_bipush (v := 107) hx hb dX9_walkItem_149 (by decide) ?_
            refine lv_iconst (v := 0) hx hb dX9_walkItem_151 (by decide) ?_
            refine lv_iconst (v := 0) hx hb dX9_walkItem_152 (by decide) ?_
            refine xc_Vr hF (c_X9_isWord l D cI cJ cZ cS ta sa sv H.size h0 ys yk yo yt mk0 yfa yfe mL mS mM yro yhe ygr mF mC mY yta mz f2_121 t2_122 v2_123 w2_124 ywa ybi ysi ynu ymo tp 115 108 97 99 107 0 0 (by omega) (by omega)) kv_X9_290 ⟨rfl, rfl, Nat.le_of_ble_eq_true rfl, Nat.le_of_ble_eq_true rfl⟩ ⟨Nat.le_of_ble_eq_true rfl, Nat.le_of_ble_eq_true rfl⟩ hK hN hZ hP hD hS hA [2, 3] rfl rfl 0 rfl rfl rfl rfl hl.1 rfl (Nat.le_of_ble_eq_true rfl) dX9_walkItem_153 (fun r_131 hw_r_131 => ?_)
            rcases hw_r_131 with rfl | rfl
            · skip
              refine lv_if_eq (tgt := 176) hx hb dX9_walkItem_156 (by decide) (fun c_132 => absurd c_132 (by decide)) (fun c_132 => ?_)
              refine lv_aload_n hx hb dX9_walkItem_159 rfl (lv_at hl 3 rfl) ?_
              refine lv_iconst (v := 1) hx hb dX9_walkItem_160 (by decide) ?_
              refine xc_Vv (wr := [(ys, .inl (cI, 449, .inl ms)), (ywa, .inl (cI, 6, .inl a8))]) hF (c_X9_needs l D cI cJ cZ cS ta sa sv H.size h0 ys yk yo yt mk0 yfa yfe mL mS mM yro yhe ygr mF mC mY yta mz f2_121 t2_122 v2_123 w2_124 ywa ybi ysi ynu ymo tp 1 (by omega) (by omega) (by omega) (by omega) (by omega)) kv_X9_278 ⟨rfl, rfl, Nat.le_of_ble_eq_true rfl, Nat.le_of_ble_eq_true rfl⟩ ⟨Nat.le_of_ble_eq_true rfl, Nat.le_of_ble_eq_true rfl⟩ hK hN hZ hP hD hS hA [2, 3] [0, 1] rfl rfl rfl rfl (by decide) 0 rfl rfl rfl rfl hl.1 rfl (Nat.le_of_ble_eq_true rfl) dX9_walkItem_161 (fun u_r_133 H locs hw_r_133 hP hD hS => ?_)
              obtain ⟨f2_134, t2_135, w2_136⟩ := u_r_133
              try dsimp only at hw_r_133
              obtain ⟨i_137, i_138, i_139, i_140, i_141, i_142⟩ := hw_r_133
              have hP : va_P D vwCl [(ys, .inl (cI, 449, .inl ms)), (ywa, .inl (cI, 6, .inl a8)), (h0, .inr (9, [.ref ys, .ref yk, .ref yo, .ref yt, .int mk0, .ref yfa, .ref yfe, .int mL, .int mS, .int mM, .ref yro, .ref yhe, .ref ygr, .int mF, .int mC, .int mY, .ref yta, .int (nI (mz)), .int (nI (f2_134)), .int (nI (t2_135)), .int v2_123, .int w2_136, .ref ywa, .ref ybi, .ref ysi, .ref ynu, .ref ymo])), (yta, .inl (cI, 120, .inl tp))] H := hP
              have hD : va_D A [(ys, .inl (cI, 449, .inl ms)), (ywa, .inl (cI, 6, .inl a8)), (h0, .inr (9, [.ref ys, .ref yk, .ref yo, .ref yt, .int mk0, .ref yfa, .ref yfe, .int mL, .int mS, .int mM, .ref yro, .ref yhe, .ref ygr, .int mF, .int mC, .int mY, .ref yta, .int (nI (mz)), .int (nI (f2_134)), .int (nI (t2_135)), .int v2_123, .int w2_136, .ref ywa, .ref ybi, .ref ysi, .ref ynu, .ref ymo])), (yta, .inl (cI, 120, .inl tp))] := hD
              refine lv_aload_n hx hb dX9_walkItem_164 rfl (lv_at hl 3 rfl) ?_
              refine lv_iconst (v := 0) hx hb dX9_walkItem_165 (by decide) ?_
              refine lv_bipush (v := 99) hx hb dX9_walkItem_166 (by decide) ?_
              refine xc_Vv (wr := [(ys, .inl (cI, 449, .inl ms)), (ywa, .inl (cI, 6, .inl a8))]) hF (c_X9_number l D cI cJ cZ cS ta sa sv H.size h0 ys yk yo yt mk0 yfa yfe mL mS mM yro yhe ygr mF mC mY yta mz f2_134 t2_135 v2_123 w2_136 ywa ybi ysi ynu ymo tp 0 99 (by omega) (by omega) (by omega) (by omega) (by omega)) kv_X9_282 ⟨rfl, rfl, Nat.le_of_ble_eq_true rfl, Nat.le_of_ble_eq_true rfl⟩ ⟨Nat.le_of_ble_eq_true rfl, Nat.le_of_ble_eq_true rfl⟩ hK hN hZ hP hD hS hA [2, 3] [0, 1] rfl rfl rfl rfl (by decide) 0 rfl rfl rfl rfl hl.1 rfl (Nat.le_of_ble_eq_true rfl) dX9_walkItem_168 (fun u_r_143 H locs hw_r_143 hP hD hS => ?_)
              obtain ⟨f2_144, t2_145, v2_146, w2_147⟩ := u_r_143
              try dsimp only at hw_r_143
              obtain ⟨i_148, i_149, i_150, i_151, i_152, i_153⟩ := hw_r_143
              have hP : va_P D vwCl [(ys, .inl (cI, 449, .inl ms)), (ywa, .inl (cI, 6, .inl a8)), (h0, .inr (9, [.ref ys, .ref yk, .ref yo, .ref yt, .int mk0, .ref yfa, .ref yfe, .int mL, .int mS, .int mM, .ref yro, .ref yhe, .ref ygr, .int mF, .int mC, .int mY, .ref yta, .int (nI (mz)), .int (nI (f2_144)), .int (nI (t2_145)), .int v2_146, .int w2_147, .ref ywa, .ref ybi, .ref ysi, .ref ynu, .ref ymo])), (yta, .inl (cI, 120, .inl tp))] H := hP
              have hD : va_D A [(ys, .inl (cI, 449, .inl ms)), (ywa, .inl (cI, 6, .inl a8)), (h0, .inr (9, [.ref ys, .ref yk, .ref yo, .ref yt, .int mk0, .ref yfa, .ref yfe, .int mL, .int mS, .int mM, .ref yro, .ref yhe, .ref ygr, .int mF, .int mC, .int mY, .ref yta, .int (nI (mz)), .int (nI (f2_144)), .int (nI (t2_145)), .int v2_146, .int w2_147, .ref ywa, .ref ybi, .ref ysi, .ref ynu, .ref ymo])), (yta, .inl (cI, 120, .inl tp))] := hD
              refine lv_aload_n hx hb dX9_walkItem_171 rfl (lv_at hl 3 rfl) ?_
              refine xg hF kf_X9_275 hK hP 2 rfl rfl dX9_walkItem_172 ?_
              refine lv_istore_n (lv' := [(3, .int v2_146), (2, .int v2_123), (1, .int (nI (n8))), (0, .ref h0)]) hx hb dX9_walkItem_175 rfl hl (by decide) rfl (fun ls hl => ?_)
              refine lv_aload_n hx hb dX9_walkItem_176 rfl (lv_at hl 3 rfl) ?_
              refine xg hF kf_X9_266 hK hP 2 rfl rfl dX9_walkItem_177 ?_
              refine lv_if_ne (tgt := 252) hx hb dX9_walkItem_180 (by decide) (fun c_154 => ?_) (fun c_154 => absurd rfl (i_11 (hc8 (i_119 (i_130 (i_142 (i_153 c_154).1).1).1).1).1).2.1)
              exact W.vret hx hb hr (fun t ht hW => ⟨⟨(f2_144, t2_145, v2_146, w2_147, ms, a8, Wn), rfl, ⟨(by first | assumption | omega), (by first | assumption | omega), (by first | assumption | omega), (by first | assumption | omega), (by first | assumption | omega), (fun h => ⟨(i_11 (hc8 (i_119 (i_130 (i_142 (i_153 h).1).1).1).1).1).1, trivial⟩), hs0, hs1, hs2, hsS, hsM, hsp, hsr, hsw, hsR⟩, by rw [ht]; exact hP.sub [2, 0, 3, 1] rfl, hD.sub [2, 0, 3, 1] (by decide) rfl⟩, hS.F ht⟩) hS.2.2 dX9_walkItem_252 hlk
            · skip
              refine lv_if_eq (tgt := 176) hx hb dX9_walkItem_156 (by decide) (fun c_155 => ?_) (fun c_155 => absurd (by decide) c_155)
              refine lv_aload_n hx hb dX9_walkItem_176 rfl (lv_at hl 3 rfl) ?_
              refine xg hF kf_X9_266 hK hP 2 rfl rfl dX9_walkItem_177 ?_
              refine lv_if_ne (tgt := 252) hx hb dX9_walkItem_180 (by decide) (fun c_156 => ?_) (fun c_156 => absurd rfl (i_11 (hc8 (i_119 (i_130 c_156).1).1).1).2.1)
              exact W.vret hx hb hr (fun t ht hW => ⟨⟨(f2_121, t2_122, v2_123, w2_124, ms, a8, Wn), rfl, ⟨(by first | assumption | omega), (by first | assumption | omega), (by first | assumption | omega), (by first | assumption | omega), (by first | assumption | omega), (fun h => ⟨(i_11 (hc8 (i_119 (i_130 h).1).1).1).1, trivial⟩), hs0, hs1, hs2, hsS, hsM, hsp, hsr, hsw, hsR⟩, by rw [ht]; exact hP.sub [2, 0, 3, 1] rfl, hD.sub [2, 0, 3, 1] (by decide) rfl⟩, hS.F ht⟩) hS.2.2 dX9_walkItem_252 hlk
          · skip
            refine xc_Vv (wr := [(ys, .inl (cI, 449, .inl ms)), (ywa, .inl (cI, 6, .inl a8))]) hF (c_X9_needs l D cI cJ cZ cS ta sa sv H.size h0 ys yk yo yt mk0 yfa yfe mL mS mM yro yhe ygr mF mC mY yta mz f8 t8 mv w8 ywa ybi ysi ynu ymo tp 0 (by omega) (by omega) (by omega) (by omega) (by omega)) kv_X9_278 ⟨rfl, rfl, Nat.le_of_ble_eq_true rfl, Nat.le_of_ble_eq_true rfl⟩ ⟨Nat.le_of_ble_eq_true rfl, Nat.le_of_ble_eq_true rfl⟩ hK hN hZ hP hD hS hA [2, 3] [0, 1] rfl rfl rfl rfl (by decide) 0 rfl rfl rfl rfl hl.1 rfl (Nat.le_of_ble_eq_true rfl) dX9_walkItem_120 (fun u_r_157 H locs hw_r_157 hP hD hS => ?_)
            obtain ⟨f2_158, t2_159, w2_160⟩ := u_r_157
            try dsimp only at hw_r_157
            obtain ⟨i_161, i_162, i_163, i_164, i_165, i_166⟩ := hw_r_157
            have hP : va_P D vwCl [(ys, .inl (cI, 449, .inl ms)), (ywa, .inl (cI, 6, .inl a8)), (h0, .inr (9, [.ref ys, .ref yk, .ref yo, .ref yt, .int mk0, .ref yfa, .ref yfe, .int mL, .int mS, .int mM, .ref yro, .ref yhe, .ref ygr, .int mF, .int mC, .int mY, .ref yta, .int (nI (mz)), .int (nI (f2_158)), .int (nI (t2_159)), .int mv, .int w2_160, .ref ywa, .ref ybi, .ref ysi, .ref ynu, .ref ymo])), (yta, .inl (cI, 120, .inl tp))] H := hP
            have hD : va_D A [(ys, .inl (cI, 449, .inl ms)), (ywa, .inl (cI, 6, .inl a8)), (h0, .inr (9, [.ref ys, .ref yk, .ref yo, .ref yt, .int mk0, .ref yfa, .ref yfe, .int mL, .int mS, .int mM, .ref yro, .ref yhe, .ref ygr, .int mF, .int mC, .int mY, .ref yta, .int (nI (mz)), .int (nI (f2_158)), .int (nI (t2_159)), .int mv, .int w2_160, .ref ywa, .ref ybi, .ref ysi, .ref ynu, .ref ymo])), (yta, .inl (cI, 120, .inl tp))] := hD
            refine lv_aload_n hx hb dX9_walkItem_123 rfl (lv_at hl 1 rfl) ?_
            refine lv_sipush (v := (-9999)) hx hb dX9_walkItem_124 (by decide) ?_
            refine lv_sipush (v := 9999) hx hb dX9_walkItem_127 (by decide) ?_
            refine xc_Vv (wr := [(ys, .inl (cI, 449, .inl ms)), (ywa, .inl (cI, 6, .inl a8))]) hF (c_X9_mile l D cI cJ cZ cS ta sa sv H.size h0 ys yk yo yt mk0 yfa yfe mL mS mM yro yhe ygr mF mC mY yta mz f2_158 t2_159 mv w2_160 ywa ybi ysi ynu ymo tp (-9999) 9999 (by omega) (by omega) (by omega) (by omega) (by omega)) kv_X9_287 ⟨rfl, rfl, Nat.le_of_ble_eq_true rfl, Nat.le_of_ble_eq_true rfl⟩ ⟨Nat.le_of_ble_eq_true rfl, Nat.le_of_ble_eq_true rfl⟩ hK hN hZ hP hD hS hA [2, 3] [0, 1] rfl rfl rfl rfl (by decide) 0 rfl rfl rfl rfl hl.1 rfl (Nat.le_of_ble_eq_true rfl) dX9_walkItem_130 (fun u_r_167 H locs hw_r_167 hP hD hS => ?_)
            obtain ⟨f2_168, t2_169, v2_170, w2_171⟩ := u_r_167
            try dsimp only at hw_r_167
            obtain ⟨i_172, i_173, i_174, i_175, i_176, i_177⟩ := hw_r_167
            have hP : va_P D vwCl [(ys, .inl (cI, 449, .inl ms)), (ywa, .inl (cI, 6, .inl a8)), (h0, .inr (9, [.ref ys, .ref yk, .ref yo, .ref yt, .int mk0, .ref yfa, .ref yfe, .int mL, .int mS, .int mM, .ref yro, .ref yhe, .ref ygr, .int mF, .int mC, .int mY, .ref yta, .int (nI (mz)), .int (nI (f2_168)), .int (nI (t2_169)), .int v2_170, .int w2_171, .ref ywa, .ref ybi, .ref ysi, .ref ynu, .ref ymo])), (yta, .inl (cI, 120, .inl tp))] H := hP
            have hD : va_D A [(ys, .inl (cI, 449, .inl ms)), (ywa, .inl (cI, 6, .inl a8)), (h0, .inr (9, [.ref ys, .ref yk, .ref yo, .ref yt, .int mk0, .ref yfa, .ref yfe, .int mL, .int mS, .int mM, .ref yro, .ref yhe, .ref ygr, .int mF, .int mC, .int mY, .ref yta, .int (nI (mz)), .int (nI (f2_168)), .int (nI (t2_169)), .int v2_170, .int w2_171, .ref ywa, .ref ybi, .ref ysi, .ref ynu, .ref ymo])), (yta, .inl (cI, 120, .inl tp))] := hD
            refine lv_aload_n hx hb dX9_walkItem_133 rfl (lv_at hl 1 rfl) ?_
            refine xg hF kf_X9_275 hK hP 2 rfl rfl dX9_walkItem_134 ?_
            refine lv_istore_n (lv' := [(2, .int v2_170), (1, .int (nI (n8))), (0, .ref h0)]) hx hb dX9_walkItem_137 rfl hl (by decide) rfl (fun ls hl => ?_)
            refine lv_iconst (v := 0) hx hb dX9_walkItem_138 (by decide) ?_
            refine lv_istore_n (lv' := [(3, .int 0), (2, .int v2_170), (1, .int (nI (n8))), (0, .ref h0)]) hx hb dX9_walkItem_139 rfl hl (by decide) rfl (fun ls hl => ?_)
            refine lv_aload_n hx hb dX9_walkItem_140 rfl (lv_at hl 3 rfl) ?_
            refine lv_bipush (v := 115) hx hb dX9_walkItem_141 (by decide) ?_
            refine lv_bipush (v := 108) hx hb dX9_walkItem_143 (by decide) ?_
            refine lv_bipush (v := 97) hx hb dX9_walkItem_145 (by decide) ?_
            refine lv_bipush (v := 99) hx hb dX9_walkItem_147 (by decide) ?_
            refine lv_bipush (v := 107) hx hb dX9_walkItem_149 (by decide) ?_
            refine lv_iconst (v := 0) hx hb dX9_walkItem_151 (by decide) ?_
            refine lv_iconst (v := 0) hx hb dX9_walkItem_152 (by decide) ?_
            refine xc_Vr hF (c_X9_isWord l D cI cJ cZ cS ta sa sv H.size h0 ys yk yo yt mk0 yfa yfe mL mS mM yro yhe ygr mF mC mY yta mz f2_168 t2_169 v2_170 w2_171 ywa ybi ysi ynu ymo tp 115 108 97 99 107 0 0 (by omega) (by omega)) kv_X9_290 ⟨rfl, rfl, Nat.le_of_ble_eq_true rfl, Nat.le_of_ble_eq_true rfl⟩ ⟨Nat.le_of_ble_eq_true rfl, Nat.le_of_ble_eq_true rfl⟩ hK hN hZ hP hD hS hA [2, 3] rfl rfl 0 rfl rfl rfl rfl hl.1 rfl (Nat.le_of_ble_eq_true rfl) dX9_walkItem_153 (fun r_178 hw_r_178 => ?_)
            rcases hw_r_178 with rfl | rfl
            · skip
              refine lv_if_eq (tgt := 176) hx hb dX9_walkItem_156 (by decide) (fun c_179 => absurd c_179 (by decide)) (fun c_179 => ?_)
              refine lv_aload_n hx hb dX9_walkItem_159 rfl (lv_at hl 3 rfl) ?_
              refine lv_iconst (v := 1) hx hb dX9_walkItem_160 (by decide) ?_
              refine xc_Vv (wr := [(ys, .inl (cI, 449, .inl ms)), (ywa, .inl (cI, 6, .inl a8))]) hF (c_X9_needs l D cI cJ cZ cS ta sa sv H.size h0 ys yk yo yt mk0 yfa yfe mL mS mM yro yhe ygr mF mC mY yta mz f2_168 t2_169 v2_170 w2_171 ywa ybi ysi ynu ymo tp 1 (by omega) (by omega) (by omega) (by omega) (by omega)) kv_X9_278 ⟨rfl, rfl, Nat.le_of_ble_eq_true rfl, Nat.le_of_ble_eq_true rfl⟩ ⟨Nat.le_of_ble_eq_true rfl, Nat.le_of_ble_eq_true rfl⟩ hK hN hZ hP hD hS hA [2, 3] [0, 1] rfl rfl rfl rfl (by decide) 0 rfl rfl rfl rfl hl.1 rfl (Nat.le_of_ble_eq_true rfl) dX9_walkItem_161 (fun u_r_180 H locs hw_r_180 hP hD hS => ?_)
              obtain ⟨f2_181, t2_182, w2_183⟩ := u_r_180
              try dsimp only at hw_r_180
              obtain ⟨i_184, i_185, i_186, i_187, i_188, i_189⟩ := hw_r_180
              have hP : va_P D vwCl [(ys, .inl (cI, 449, .inl ms)), (ywa, .inl (cI, 6, .inl a8)), (h0, .inr (9, [.ref ys, .ref yk, .ref yo, .ref yt, .int mk0, .ref yfa, .ref yfe, .int mL, .int mS, .int mM, .ref yro, .ref yhe, .ref ygr, .int mF, .int mC, .int mY, .ref yta, .int (nI (mz)), .int (nI (f2_181)), .int (nI (t2_182)), .int v2_170, .int w2_183, .ref ywa, .ref ybi, .ref ysi, .ref ynu, .ref ymo])), (yta, .inl (cI, 120, .inl tp))] H := hP
              have hD : va_D A [(ys, .inl (cI, 449, .inl ms)), (ywa, .inl (cI, 6, .inl a8)), (h0, .inr (9, [.ref ys, .ref yk, .ref yo, .ref yt, .int mk0, .ref yfa, .ref yfe, .int mL, .int mS, .int mM, .ref yro, .ref yhe, .ref ygr, .int mF, .int mC, .int mY, .ref yta, .int (nI (mz)), .int (nI (f2_181)), .int (nI (t2_182)), .int v2_170, .int w2_183, .ref ywa, .ref ybi, .ref ysi, .ref ynu, .ref ymo])), (yta, .inl (cI, 120, .inl tp))] := hD
              refine lv_aload_n hx hb dX9_walkItem_164 rfl (lv_at hl 3 rfl) ?_
              refine lv_iconst (v := 0) hx hb dX9_walkItem_165 (by decide) ?_
              refine lv_bipush (v := 99) hx hb dX9_walkItem_166 (by decide) ?_
              refine xc_Vv (wr := [(ys, .inl (cI, 449, .inl ms)), (ywa, .inl (cI, 6, .inl a8))]) hF (c_X9_number l D cI cJ cZ cS ta sa sv H.size h0 ys yk yo yt mk0 yfa yfe mL mS mM yro yhe ygr mF mC mY yta mz f2_181 t2_182 v2_170 w2_183 ywa ybi ysi ynu ymo tp 0 99 (by omega) (by omega) (by omega) (by omega) (by omega)) kv_X9_282 ⟨rfl, rfl, Nat.le_of_ble_eq_true rfl, Nat.le_of_ble_eq_true rfl⟩ ⟨Nat.le_of_ble_eq_true rfl, Nat.le_of_ble_eq_true rfl⟩ hK hN hZ hP hD hS hA [2, 3] [0, 1] rfl rfl rfl rfl (by decide) 0 rfl rfl rfl rfl hl.1 rfl (Nat.le_of_ble_eq_true rfl) dX9_walkItem_168 (fun u_r_190 H locs hw_r_190 hP hD hS => ?_)
              obtain ⟨f2_191, t2_192, v2_193, w2_194⟩ := u_r_190
              try dsimp only at hw_r_190
              obtain ⟨i_195, i_196, i_197, i_198, i_199, i_200⟩ := hw_r_190
              have hP : va_P D vwCl [(ys, .inl (cI, 449, .inl ms)), (ywa, .inl (cI, 6, .inl a8)), (h0, .inr (9, [.ref ys, .ref yk, .ref yo, .ref yt, .int mk0, .ref yfa, .ref yfe, .int mL, .int mS, .int mM, .ref yro, .ref yhe, .ref ygr, .int mF, .int mC, .int mY, .ref yta, .int (nI (mz)), .int (nI (f2_191)), .int (nI (t2_192)), .int v2_193, .int w2_194, .ref ywa, .ref ybi, .ref ysi, .ref ynu, .ref ymo])), (yta, .inl (cI, 120, .inl tp))] H := hP
              have hD : va_D A [(ys, .inl (cI, 449, .inl ms)), (ywa, .inl (cI, 6, .inl a8)), (h0, .inr (9, [.ref ys, .ref yk, .ref yo, .ref yt, .int mk0, .ref yfa, .ref yfe, .int mL, .int mS, .int mM, .ref yro, .ref yhe, .ref ygr, .int mF, .int mC, .int mY, .ref yta, .int (nI (mz)), .int (nI (f2_191)), .int (nI (t2_192)), .int v2_193, .int w2_194, .ref ywa, .ref ybi, .ref ysi, .ref ynu, .ref ymo])), (yta, .inl (cI, 120, .inl tp))] := hD
              refine lv_aload_n hx hb dX9_walkItem_171 rfl (lv_at hl 3 rfl) ?_
              refine xg hF kf_X9_275 hK hP 2 rfl rfl dX9_walkItem_172 ?_
              refine lv_istore_n (lv' := [(3, .int v2_193), (2, .int v2_170), (1, .int (nI (n8))), (0, .ref h0)]) hx hb dX9_walkItem_175 rfl hl (by decide) rfl (fun ls hl => ?_)
              refine lv_aload_n hx hb dX9_walkItem_176 rfl (lv_at hl 3 rfl) ?_
              refine xg hF kf_X9_266 hK hP 2 rfl rfl dX9_walkItem_177 ?_
              refine lv_if_ne (tgt := 252) hx hb dX9_walkItem_180 (by decide) (fun c_201 => ?_) (fun c_201 => absurd rfl (i_166 (i_177 (i_189 (i_200 c_201).1).1).1).2.1)
              exact W.vret hx hb hr (fun t ht hW => ⟨⟨(f2_191, t2_192, v2_193, w2_194, ms, a8, Wn), rfl, ⟨(by first | assumption | omega), (by first | assumption | omega), (by first | assumption | omega), (by first | assumption | omega), (by first | assumption | omega), (fun h => ⟨(i_11 (hc8 (i_166 (i_177 (i_189 (i_200 h).1).1).1).1).1).1, trivial⟩), hs0, hs1, hs2, hsS, hsM, hsp, hsr, hsw, hsR⟩, by rw [ht]; exact hP.sub [2, 0, 3, 1] rfl, hD.sub [2, 0, 3, 1] (by decide) rfl⟩, hS.F ht⟩) hS.2.2 dX9_walkItem_252 hlk
            · skip
              refine lv_if_eq (tgt := 176) hx hb dX9_walkItem_156 (by decide) (fun c_202 => ?_) (fun c_202 => absurd (by decide) c_202)
              refine lv_aload_n hx hb dX9_walkItem_176 rfl (lv_at hl 3 rfl) ?_
              refine xg hF kf_X9_266 hK hP 2 rfl rfl dX9_walkItem_177 ?_
              refine lv_if_ne (tgt := 252) hx hb dX9_walkItem_180 (by decide) (fun c_203 => ?_) (fun c_203 => absurd rfl (i_166 (i_177 c_203).1).2.1)
              exact W.vret hx hb hr (fun t ht hW => ⟨⟨(f2_168, t2_169, v2_170, w2_171, ms, a8, Wn), rfl, ⟨(by first | assumption | omega), (by first | assumption | omega), (by first | assumption | omega), (by first | assumption | omega), (by first | assumption | omega), (fun h => ⟨(i_11 (hc8 (i_166 (i_177 h).1).1).1).1, trivial⟩), hs0, hs1, hs2, hsS, hsM, hsp, hsr, hsw, hsR⟩, by rw [ht]; exact hP.sub [2, 0, 3, 1] rfl, hD.sub [2, 0, 3, 1] (by decide) rfl⟩, hS.F ht⟩) hS.2.2 dX9_walkItem_252 hlk
        · skip
          have nc_108 : n8 < 6 := xn_nle (a := 6) (b := n8) (by omega) (by omega) c_108
          refine lv_iload_n hx hb dX9_walkItem_35 rfl (lv_at hl 0 rfl) ?_
          refine lv_iconst (v := 2) hx hb dX9_walkItem_36 (by decide) ?_
          refine lv_icmp_lt (tgt := 54) hx hb dX9_walkItem_37 (by decide) (fun c_204 => ?_) (fun c_204 => ?_)
          · skip
            have nc_204 : n8 < 2 := xn_lt (a := n8) (b := 2) (by omega) (by omega) c_204
            refine lv_aload_n hx hb dX9_walkItem_54 rfl (lv_at hl 1 rfl) ?_
            refine xc_Vr hF (c_X9_numberHere l D cI cJ cZ cS ta sa sv H.size h0 ys yk yo yt mk0 yfa yfe mL mS mM yro yhe ygr mF mC mY yta mz f8 t8 mv w8 ywa ybi ysi ynu ymo tp (by omega) (by omega) (by omega) (by omega) (by omega)) kv_X9_284 ⟨rfl, rfl, Nat.le_of_ble_eq_true rfl, Nat.le_of_ble_eq_true rfl⟩ ⟨Nat.le_of_ble_eq_true rfl, Nat.le_of_ble_eq_true rfl⟩ hK hN hZ hP hD hS hA [2, 3] rfl rfl 0 rfl rfl rfl rfl hl.1 rfl (Nat.le_of_ble_eq_true rfl) dX9_walkItem_55 (fun r_205 hw_r_205 => ?_)
            refine lv_istore_n (lv' := [(2, .int r_205), (1, .int (nI (n8))), (0, .ref h0)]) hx hb dX9_walkItem_58 rfl hl (by decide) rfl (fun ls hl => ?_)
            refine lv_aload_n hx hb dX9_walkItem_59 rfl (lv_at hl 2 rfl) ?_
            refine lv_aload_n hx hb dX9_walkItem_60 rfl (lv_at hl 2 rfl) ?_
            refine lv_iload_n hx hb dX9_walkItem_61 rfl (lv_at hl 0 rfl) ?_
            refine xc_Vr hF (c_X9_isPlace l D cI cJ cZ cS ta sa sv H.size h0 ys yk yo yt mk0 yfa yfe mL mS mM yro yhe ygr mF mC mY yta mz f8 t8 mv w8 ywa ybi ysi ynu ymo ms P Rn Wn r_205 hs0 hs1 hs2 hsS hsM hsp hsr hsw hsR) kv_X9_61 ⟨rfl, rfl, Nat.le_of_ble_eq_true rfl, Nat.le_of_ble_eq_true rfl⟩ ⟨Nat.le_of_ble_eq_true rfl, Nat.le_of_ble_eq_true rfl⟩ hK hN hZ hP hD hS hA [2, 0] rfl rfl 0 rfl rfl rfl rfl hl.1 rfl (Nat.le_of_ble_eq_true rfl) dX9_walkItem_62 (fun r_206 hw_r_206 => ?_)
            rcases hw_r_206 with ⟨k_207, rfl, rfl, h_209⟩ | rfl
            · skip
              refine lv_if_eq (tgt := 88) hx hb dX9_walkItem_65 (by decide) (fun c_210 => absurd c_210 (by decide)) (fun c_210 => ?_)
              refine lv_iload_n hx hb dX9_walkItem_68 rfl (lv_at hl 1 rfl) ?_
              refine lv_if_eq (tgt := 84) hx hb dX9_walkItem_69 (by decide) (fun c_211 => ?_) (fun c_211 => ?_)
              · skip
                have nc_211 : n8 = 0 := xn_eq (a := n8) (b := 0) (by omega) (by omega) c_211
                refine lv_iconst (v := 1) hx hb dX9_walkItem_84 (by decide) ?_
                refine lv_goto (tgt := 89) hx hb dX9_walkItem_85 (by decide) ?_
                refine xc_Vv (wr := [(ys, .inl (cI, 449, .inl ms)), (ywa, .inl (cI, 6, .inl a8))]) hF (c_X9_needs l D cI cJ cZ cS ta sa sv H.size h0 ys yk yo yt mk0 yfa yfe mL mS mM yro yhe ygr mF mC mY yta mz f8 t8 mv w8 ywa ybi ysi ynu ymo tp 1 (by omega) (by omega) (by omega) (by omega) (by omega)) kv_X9_278 ⟨rfl, rfl, Nat.le_of_ble_eq_true rfl, Nat.le_of_ble_eq_true rfl⟩ ⟨Nat.le_of_ble_eq_true rfl, Nat.le_of_ble_eq_true rfl⟩ hK hN hZ hP hD hS hA [2, 3] [0, 1] rfl rfl rfl rfl (by decide) 0 rfl rfl rfl rfl hl.1 rfl (Nat.le_of_ble_eq_true rfl) dX9_walkItem_89 (fun u_r_212 H locs hw_r_212 hP hD hS => ?_)
                obtain ⟨f2_213, t2_214, w2_215⟩ := u_r_212
                try dsimp only at hw_r_212
                obtain ⟨i_216, i_217, i_218, i_219, i_220, i_221⟩ := hw_r_212
                have hP : va_P D vwCl [(ys, .inl (cI, 449, .inl ms)), (ywa, .inl (cI, 6, .inl a8)), (h0, .inr (9, [.ref ys, .ref yk, .ref yo, .ref yt, .int mk0, .ref yfa, .ref yfe, .int mL, .int mS, .int mM, .ref yro, .ref yhe, .ref ygr, .int mF, .int mC, .int mY, .ref yta, .int (nI (mz)), .int (nI (f2_213)), .int (nI (t2_214)), .int mv, .int w2_215, .ref ywa, .ref ybi, .ref ysi, .ref ynu, .ref ymo])), (yta, .inl (cI, 120, .inl tp))] H := hP
                have hD : va_D A [(ys, .inl (cI, 449, .inl ms)), (ywa, .inl (cI, 6, .inl a8)), (h0, .inr (9, [.ref ys, .ref yk, .ref yo, .ref yt, .int mk0, .ref yfa, .ref yfe, .int mL, .int mS, .int mM, .ref yro, .ref yhe, .ref ygr, .int mF, .int mC, .int mY, .ref yta, .int (nI (mz)), .int (nI (f2_213)), .int (nI (t2_214)), .int mv, .int w2_215, .ref ywa, .ref ybi, .ref ysi, .ref ynu, .ref ymo])), (yta, .inl (cI, 120, .inl tp))] := hD
                refine lv_aload_n hx hb dX9_walkItem_92 rfl (lv_at hl 2 rfl) ?_
                refine xg hF kf_X9_40 hK hP 2 rfl rfl dX9_walkItem_93 ?_
                refine lv_iload_n hx hb dX9_walkItem_96 rfl (lv_at hl 1 rfl) ?_
                refine lv_iload_n hx hb dX9_walkItem_97 rfl (lv_at hl 0 rfl) ?_
                refine va_iast hx hb hK hP hD hS 1 0 rfl rfl (vp_in_nI (show n8 < 6 by omega) (by decide)) dX9_walkItem_98 (fun H locs hP hD hS => ?_)
                rw [nI_clamp (show n8 < 2 ^ 31 by omega)] at hP hD
                obtain ⟨f_222, ef_222⟩ : ∃ g, g = upd a8 n8 (nI (k_207)) := ⟨_, rfl⟩
                rw [← ef_222] at hP hD
                have hP : va_P D vwCl [(ys, .inl (cI, 449, .inl ms)), (ywa, .inl (cI, 6, .inl f_222)), (h0, .inr (9, [.ref ys, .ref yk, .ref yo, .ref yt, .int mk0, .ref yfa, .ref yfe, .int mL, .int mS, .int mM, .ref yro, .ref yhe, .ref ygr, .int mF, .int mC, .int mY, .ref yta, .int (nI (mz)), .int (nI (f2_213)), .int (nI (t2_214)), .int mv, .int w2_215, .ref ywa, .ref ybi, .ref ysi, .ref ynu, .ref ymo])), (yta, .inl (cI, 120, .inl tp))] H := hP
                have hD : va_D A [(ys, .inl (cI, 449, .inl ms)), (ywa, .inl (cI, 6, .inl f_222)), (h0, .inr (9, [.ref ys, .ref yk, .ref yo, .ref yt, .int mk0, .ref yfa, .ref yfe, .int mL, .int mS, .int mM, .ref yro, .ref yhe, .ref ygr, .int mF, .int mC, .int mY, .ref yta, .int (nI (mz)), .int (nI (f2_213)), .int (nI (t2_214)), .int mv, .int w2_215, .ref ywa, .ref ybi, .ref ysi, .ref ynu, .ref ymo])), (yta, .inl (cI, 120, .inl tp))] := hD
                refine lv_iinc (v := nI (n8 + 1)) (lv' := [(1, .int (nI (n8 + 1))), (2, .int (nI (k_207))), (0, .ref h0)]) hx hb dX9_walkItem_99 hl (k := 1) rfl (nI_1 (n8)) (by decide) rfl (fun ls hl => ?_)
                refine lv_goto (tgt := 22) hx hb dX9_walkItem_102 (by decide) ?_
                exact ih_22 (n8 + 1) f2_213 t2_214 w2_215 f_222 _ _ _ (by omega) (by omega) (by omega) (by omega) (by omega) (by omega) (by omega) (fun h => ⟨(hc8 (i_221 h).1).1, trivial⟩) (wk_A.put hA8 c_12 (show k_207 < 10 by omega) ef_222) (hP.sub [0, 1, 2, 3] rfl) (hD.sub [0, 1, 2, 3] (by decide) rfl) hS (lv_sub hl [0, 2] rfl)
              · skip
                have nc_211 : n8 ≠ 0 := xn_ne (a := n8) (b := 0) (by omega) (by omega) c_211
                refine lv_iload_n hx hb dX9_walkItem_72 rfl (lv_at hl 0 rfl) ?_
                refine lv_aload_n hx hb dX9_walkItem_73 rfl (lv_at hl 2 rfl) ?_
                refine xg hF kf_X9_40 hK hP 2 rfl rfl dX9_walkItem_74 ?_
                refine lv_iload_n hx hb dX9_walkItem_77 rfl (lv_at hl 1 rfl) ?_
                refine lv_iconst (v := 1) hx hb dX9_walkItem_78 (by decide) ?_
                refine lv_isub hx hb dX9_walkItem_79 ?_
                refine xl_i (y := nI (n8 - 1)) (pk_sub (show 1 ≤ n8 by omega)) ?_
                refine va_iald hx hb hK hP 1 0 rfl rfl (vp_in_nI (show n8 - 1 < 6 by omega) (by decide)) dX9_walkItem_80 ?_
                refine xl_i (y := a8 (n8 - 1)) (congrArg a8 (nI_clamp (show n8 - 1 < 2 ^ 31 by omega))) ?_
                refine lv_icmp_eq (tgt := 88) hx hb dX9_walkItem_81 (by decide) (fun c_223 => ?_) (fun c_223 => ?_)
                · skip
                  refine lv_iconst (v := 0) hx hb dX9_walkItem_88 (by decide) ?_
                  refine xc_Vv (wr := [(ys, .inl (cI, 449, .inl ms)), (ywa, .inl (cI, 6, .inl a8))]) hF (c_X9_needs l D cI cJ cZ cS ta sa sv H.size h0 ys yk yo yt mk0 yfa yfe mL mS mM yro yhe ygr mF mC mY yta mz f8 t8 mv w8 ywa ybi ysi ynu ymo tp 0 (by omega) (by omega) (by omega) (by omega) (by omega)) kv_X9_278 ⟨rfl, rfl, Nat.le_of_ble_eq_true rfl, Nat.le_of_ble_eq_true rfl⟩ ⟨Nat.le_of_ble_eq_true rfl, Nat.le_of_ble_eq_true rfl⟩ hK hN hZ hP hD hS hA [2, 3] [0, 1] rfl rfl rfl rfl (by decide) 0 rfl rfl rfl rfl hl.1 rfl (Nat.le_of_ble_eq_true rfl) dX9_walkItem_89 (fun u_r_224 H locs hw_r_224 hP hD hS => ?_)
                  obtain ⟨f2_225, t2_226, w2_227⟩ := u_r_224
                  try dsimp only at hw_r_224
                  obtain ⟨i_228, i_229, i_230, i_231, i_232, i_233⟩ := hw_r_224
                  have hP : va_P D vwCl [(ys, .inl (cI, 449, .inl ms)), (ywa, .inl (cI, 6, .inl a8)), (h0, .inr (9, [.ref ys, .ref yk, .ref yo, .ref yt, .int mk0, .ref yfa, .ref yfe, .int mL, .int mS, .int mM, .ref yro, .ref yhe, .ref ygr, .int mF, .int mC, .int mY, .ref yta, .int (nI (mz)), .int (nI (f2_225)), .int (nI (t2_226)), .int mv, .int w2_227, .ref ywa, .ref ybi, .ref ysi, .ref ynu, .ref ymo])), (yta, .inl (cI, 120, .inl tp))] H := hP
                  have hD : va_D A [(ys, .inl (cI, 449, .inl ms)), (ywa, .inl (cI, 6, .inl a8)), (h0, .inr (9, [.ref ys, .ref yk, .ref yo, .ref yt, .int mk0, .ref yfa, .ref yfe, .int mL, .int mS, .int mM, .ref yro, .ref yhe, .ref ygr, .int mF, .int mC, .int mY, .ref yta, .int (nI (mz)), .int (nI (f2_225)), .int (nI (t2_226)), .int mv, .int w2_227, .ref ywa, .ref ybi, .ref ysi, .ref ynu, .ref ymo])), (yta, .inl (cI, 120, .inl tp))] := hD
                  refine lv_aload_n hx hb dX9_walkItem_92 rfl (lv_at hl 2 rfl) ?_
                  refine xg hF kf_X9_40 hK hP 2 rfl rfl dX9_walkItem_93 ?_
                  refine lv_iload_n hx hb dX9_walkItem_96 rfl (lv_at hl 1 rfl) ?_
                  refine lv_iload_n hx hb dX9_walkItem_97 rfl (lv_at hl 0 rfl) ?_
                  refine va_iast hx hb hK hP hD hS 1 0 rfl rfl (vp_in_nI (show n8 < 6 by omega) (by decide)) dX9_walkItem_98 (fun H locs hP hD hS => ?_)
                  rw [nI_clamp (show n8 < 2 ^ 31 by omega)] at hP hD
                  obtain ⟨f_234, ef_234⟩ : ∃ g, g = upd a8 n8 (nI (k_207)) := ⟨_, rfl⟩
                  rw [← ef_234] at hP hD
                  have hP : va_P D vwCl [(ys, .inl (cI, 449, .inl ms)), (ywa, .inl (cI, 6, .inl f_234)), (h0, .inr (9, [.ref ys, .ref yk, .ref yo, .ref yt, .int mk0, .ref yfa, .ref yfe, .int mL, .int mS, .int mM, .ref yro, .ref yhe, .ref ygr, .int mF, .int mC, .int mY, .ref yta, .int (nI (mz)), .int (nI (f2_225)), .int (nI (t2_226)), .int mv, .int w2_227, .ref ywa, .ref ybi, .ref ysi, .ref ynu, .ref ymo])), (yta, .inl (cI, 120, .inl tp))] H := hP
                  have hD : va_D A [(ys, .inl (cI, 449, .inl ms)), (ywa, .inl (cI, 6, .inl f_234)), (h0, .inr (9, [.ref ys, .ref yk, .ref yo, .ref yt, .int mk0, .ref yfa, .ref yfe, .int mL, .int mS, .int mM, .ref yro, .ref yhe, .ref ygr, .int mF, .int mC, .int mY, .ref yta, .int (nI (mz)), .int (nI (f2_225)), .int (nI (t2_226)), .int mv, .int w2_227, .ref ywa, .ref ybi, .ref ysi, .ref ynu, .ref ymo])), (yta, .inl (cI, 120, .inl tp))] := hD
                  refine lv_iinc (v := nI (n8 + 1)) (lv' := [(1, .int (nI (n8 + 1))), (2, .int (nI (k_207))), (0, .ref h0)]) hx hb dX9_walkItem_99 hl (k := 1) rfl (nI_1 (n8)) (by decide) rfl (fun ls hl => ?_)
                  refine lv_goto (tgt := 22) hx hb dX9_walkItem_102 (by decide) ?_
                  exact ih_22 (n8 + 1) f2_225 t2_226 w2_227 f_234 _ _ _ (by omega) (by omega) (by omega) (by omega) (by omega) (by omega) (by omega) (fun h => ⟨(hc8 (i_233 h).1).1, trivial⟩) (wk_A.no (fun h => absurd rfl (i_233 h).2.1)) (hP.sub [0, 1, 2, 3] rfl) (hD.sub [0, 1, 2, 3] (by decide) rfl) hS (lv_sub hl [0, 2] rfl)
                · skip
                  refine lv_iconst (v := 1) hx hb dX9_walkItem_84 (by decide) ?_
                  refine lv_goto (tgt := 89) hx hb dX9_walkItem_85 (by decide) ?_
                  refine xc_Vv (wr := [(ys, .inl (cI, 449, .inl ms)), (ywa, .inl (cI, 6, .inl a8))]) hF (c_X9_needs l D cI cJ cZ cS ta sa sv H.size h0 ys yk yo yt mk0 yfa yfe mL mS mM yro yhe ygr mF mC mY yta mz f8 t8 mv w8 ywa ybi ysi ynu ymo tp 1 (by omega) (by omega) (by omega) (by omega) (by omega)) kv_X9_278 ⟨rfl, rfl, Nat.le_of_ble_eq_true rfl, Nat.le_of_ble_eq_true rfl⟩ ⟨Nat.le_of_ble_eq_true rfl, Nat.le_of_ble_eq_true rfl⟩ hK hN hZ hP hD hS hA [2, 3] [0, 1] rfl rfl rfl rfl (by decide) 0 rfl rfl rfl rfl hl.1 rfl (Nat.le_of_ble_eq_true rfl) dX9_walkItem_89 (fun u_r_235 H locs hw_r_235 hP hD hS => ?_)
                  obtain ⟨f2_236, t2_237, w2_238⟩ := u_r_235
                  try dsimp only at hw_r_235
                  obtain ⟨i_239, i_240, i_241, i_242, i_243, i_244⟩ := hw_r_235
                  have hP : va_P D vwCl [(ys, .inl (cI, 449, .inl ms)), (ywa, .inl (cI, 6, .inl a8)), (h0, .inr (9, [.ref ys, .ref yk, .ref yo, .ref yt, .int mk0, .ref yfa, .ref yfe, .int mL, .int mS, .int mM, .ref yro, .ref yhe, .ref ygr, .int mF, .int mC, .int mY, .ref yta, .int (nI (mz)), .int (nI (f2_236)), .int (nI (t2_237)), .int mv, .int w2_238, .ref ywa, .ref ybi, .ref ysi, .ref ynu, .ref ymo])), (yta, .inl (cI, 120, .inl tp))] H := hP
                  have hD : va_D A [(ys, .inl (cI, 449, .inl ms)), (ywa, .inl (cI, 6, .inl a8)), (h0, .inr (9, [.ref ys, .ref yk, .ref yo, .ref yt, .int mk0, .ref yfa, .ref yfe, .int mL, .int mS, .int mM, .ref yro, .ref yhe, .ref ygr, .int mF, .int mC, .int mY, .ref yta, .int (nI (mz)), .int (nI (f2_236)), .int (nI (t2_237)), .int mv, .int w2_238, .ref ywa, .ref ybi, .ref ysi, .ref ynu, .ref ymo])), (yta, .inl (cI, 120, .inl tp))] := hD
                  refine lv_aload_n hx hb dX9_walkItem_92 rfl (lv_at hl 2 rfl) ?_
                  refine xg hF kf_X9_40 hK hP 2 rfl rfl dX9_walkItem_93 ?_
                  refine lv_iload_n hx hb dX9_walkItem_96 rfl (lv_at hl 1 rfl) ?_
                  refine lv_iload_n hx hb dX9_walkItem_97 rfl (lv_at hl 0 rfl) ?_
                  refine va_iast hx hb hK hP hD hS 1 0 rfl rfl (vp_in_nI (show n8 < 6 by omega) (by decide)) dX9_walkItem_98 (fun H locs hP hD hS => ?_)
                  rw [nI_clamp (show n8 < 2 ^ 31 by omega)] at hP hD
                  obtain ⟨f_245, ef_245⟩ : ∃ g, g = upd a8 n8 (nI (k_207)) := ⟨_, rfl⟩
                  rw [← ef_245] at hP hD
                  have hP : va_P D vwCl [(ys, .inl (cI, 449, .inl ms)), (ywa, .inl (cI, 6, .inl f_245)), (h0, .inr (9, [.ref ys, .ref yk, .ref yo, .ref yt, .int mk0, .ref yfa, .ref yfe, .int mL, .int mS, .int mM, .ref yro, .ref yhe, .ref ygr, .int mF, .int mC, .int mY, .ref yta, .int (nI (mz)), .int (nI (f2_236)), .int (nI (t2_237)), .int mv, .int w2_238, .ref ywa, .ref ybi, .ref ysi, .ref ynu, .ref ymo])), (yta, .inl (cI, 120, .inl tp))] H := hP
                  have hD : va_D A [(ys, .inl (cI, 449, .inl ms)), (ywa, .inl (cI, 6, .inl f_245)), (h0, .inr (9, [.ref ys, .ref yk, .ref yo, .ref yt, .int mk0, .ref yfa, .ref yfe, .int mL, .int mS, .int mM, .ref yro, .ref yhe, .ref ygr, .int mF, .int mC, .int mY, .ref yta, .int (nI (mz)), .int (nI (f2_236)), .int (nI (t2_237)), .int mv, .int w2_238, .ref ywa, .ref ybi, .ref ysi, .ref ynu, .ref ymo])), (yta, .inl (cI, 120, .inl tp))] := hD
                  refine lv_iinc (v := nI (n8 + 1)) (lv' := [(1, .int (nI (n8 + 1))), (2, .int (nI (k_207))), (0, .ref h0)]) hx hb dX9_walkItem_99 hl (k := 1) rfl (nI_1 (n8)) (by decide) rfl (fun ls hl => ?_)
                  refine lv_goto (tgt := 22) hx hb dX9_walkItem_102 (by decide) ?_
                  exact ih_22 (n8 + 1) f2_236 t2_237 w2_238 f_245 _ _ _ (by omega) (by omega) (by omega) (by omega) (by omega) (by omega) (by omega) (fun h => ⟨(hc8 (i_244 h).1).1, trivial⟩) (wk_A.put hA8 c_12 (show k_207 < 10 by omega) ef_245) (hP.sub [0, 1, 2, 3] rfl) (hD.sub [0, 1, 2, 3] (by decide) rfl) hS (lv_sub hl [0, 2] rfl)
            · skip
              refine lv_if_eq (tgt := 88) hx hb dX9_walkItem_65 (by decide) (fun c_246 => ?_) (fun c_246 => absurd (by decide) c_246)
              refine lv_iconst (v := 0) hx hb dX9_walkItem_88 (by decide) ?_
              refine xc_Vv (wr := [(ys, .inl (cI, 449, .inl ms)), (ywa, .inl (cI, 6, .inl a8))]) hF (c_X9_needs l D cI cJ cZ cS ta sa sv H.size h0 ys yk yo yt mk0 yfa yfe mL mS mM yro yhe ygr mF mC mY yta mz f8 t8 mv w8 ywa ybi ysi ynu ymo tp 0 (by omega) (by omega) (by omega) (by omega) (by omega)) kv_X9_278 ⟨rfl, rfl, Nat.le_of_ble_eq_true rfl, Nat.le_of_ble_eq_true rfl⟩ ⟨Nat.le_of_ble_eq_true rfl, Nat.le_of_ble_eq_true rfl⟩ hK hN hZ hP hD hS hA [2, 3] [0, 1] rfl rfl rfl rfl (by decide) 0 rfl rfl rfl rfl hl.1 rfl (Nat.le_of_ble_eq_true rfl) dX9_walkItem_89 (fun u_r_247 H locs hw_r_247 hP hD hS => ?_)
              obtain ⟨f2_248, t2_249, w2_250⟩ := u_r_247
              try dsimp only at hw_r_247
              obtain ⟨i_251, i_252, i_253, i_254, i_255, i_256⟩ := hw_r_247
              have hP : va_P D vwCl [(ys, .inl (cI, 449, .inl ms)), (ywa, .inl (cI, 6, .inl a8)), (h0, .inr (9, [.ref ys, .ref yk, .ref yo, .ref yt, .int mk0, .ref yfa, .ref yfe, .int mL, .int mS, .int mM, .ref yro, .ref yhe, .ref ygr, .int mF, .int mC, .int mY, .ref yta, .int (nI (mz)), .int (nI (f2_248)), .int (nI (t2_249)), .int mv, .int w2_250, .ref ywa, .ref ybi, .ref ysi, .ref ynu, .ref ymo])), (yta, .inl (cI, 120, .inl tp))] H := hP
              have hD : va_D A [(ys, .inl (cI, 449, .inl ms)), (ywa, .inl (cI, 6, .inl a8)), (h0, .inr (9, [.ref ys, .ref yk, .ref yo, .ref yt, .int mk0, .ref yfa, .ref yfe, .int mL, .int mS, .int mM, .ref yro, .ref yhe, .ref ygr, .int mF, .int mC, .int mY, .ref yta, .int (nI (mz)), .int (nI (f2_248)), .int (nI (t2_249)), .int mv, .int w2_250, .ref ywa, .ref ybi, .ref ysi, .ref ynu, .ref ymo])), (yta, .inl (cI, 120, .inl tp))] := hD
              refine lv_aload_n hx hb dX9_walkItem_92 rfl (lv_at hl 2 rfl) ?_
              refine xg hF kf_X9_40 hK hP 2 rfl rfl dX9_walkItem_93 ?_
              refine lv_iload_n hx hb dX9_walkItem_96 rfl (lv_at hl 1 rfl) ?_
              refine lv_iload_n hx hb dX9_walkItem_97 rfl (lv_at hl 0 rfl) ?_
              refine va_iast hx hb hK hP hD hS 1 0 rfl rfl (vp_in_nI (show n8 < 6 by omega) (by decide)) dX9_walkItem_98 (fun H locs hP hD hS => ?_)
              rw [nI_clamp (show n8 < 2 ^ 31 by omega)] at hP hD
              obtain ⟨f_257, ef_257⟩ : ∃ g, g = upd a8 n8 r_205 := ⟨_, rfl⟩
              rw [← ef_257] at hP hD
              have hP : va_P D vwCl [(ys, .inl (cI, 449, .inl ms)), (ywa, .inl (cI, 6, .inl f_257)), (h0, .inr (9, [.ref ys, .ref yk, .ref yo, .ref yt, .int mk0, .ref yfa, .ref yfe, .int mL, .int mS, .int mM, .ref yro, .ref yhe, .ref ygr, .int mF, .int mC, .int mY, .ref yta, .int (nI (mz)), .int (nI (f2_248)), .int (nI (t2_249)), .int mv, .int w2_250, .ref ywa, .ref ybi, .ref ysi, .ref ynu, .ref ymo])), (yta, .inl (cI, 120, .inl tp))] H := hP
              have hD : va_D A [(ys, .inl (cI, 449, .inl ms)), (ywa, .inl (cI, 6, .inl f_257)), (h0, .inr (9, [.ref ys, .ref yk, .ref yo, .ref yt, .int mk0, .ref yfa, .ref yfe, .int mL, .int mS, .int mM, .ref yro, .ref yhe, .ref ygr, .int mF, .int mC, .int mY, .ref yta, .int (nI (mz)), .int (nI (f2_248)), .int (nI (t2_249)), .int mv, .int w2_250, .ref ywa, .ref ybi, .ref ysi, .ref ynu, .ref ymo])), (yta, .inl (cI, 120, .inl tp))] := hD
              refine lv_iinc (v := nI (n8 + 1)) (lv' := [(1, .int (nI (n8 + 1))), (2, .int r_205), (0, .ref h0)]) hx hb dX9_walkItem_99 hl (k := 1) rfl (nI_1 (n8)) (by decide) rfl (fun ls hl => ?_)
              refine lv_goto (tgt := 22) hx hb dX9_walkItem_102 (by decide) ?_
              exact ih_22 (n8 + 1) f2_248 t2_249 w2_250 f_257 _ _ _ (by omega) (by omega) (by omega) (by omega) (by omega) (by omega) (by omega) (fun h => ⟨(hc8 (i_256 h).1).1, trivial⟩) (wk_A.no (fun h => absurd rfl (i_256 h).2.1)) (hP.sub [0, 1, 2, 3] rfl) (hD.sub [0, 1, 2, 3] (by decide) rfl) hS (lv_sub hl [0, 2] rfl)
          · skip
            have nc_204 : 2 ≤ n8 := xn_nlt (a := n8) (b := 2) (by omega) (by omega) c_204
            refine lv_aload_n hx hb dX9_walkItem_40 rfl (lv_at hl 1 rfl) ?_
            refine lv_aload_n hx hb dX9_walkItem_41 rfl (lv_at hl 1 rfl) ?_
            refine xg hF kf_X9_254 hK hP 2 rfl rfl dX9_walkItem_42 ?_
            refine xc_Vr hF (c_X9_byteAt l D cI cJ cZ cS ta sa sv H.size h0 ys yk yo yt mk0 yfa yfe mL mS mM yro yhe ygr mF mC mY yta mz f8 t8 mv w8 ywa ybi ysi ynu ymo tp f8 (by omega) (by omega)) kv_X9_257 ⟨rfl, rfl, Nat.le_of_ble_eq_true rfl, Nat.le_of_ble_eq_true rfl⟩ ⟨Nat.le_of_ble_eq_true rfl, Nat.le_of_ble_eq_true rfl⟩ hK hN hZ hP hD hS hA [2, 3] rfl rfl 0 rfl rfl rfl rfl hl.1 rfl (Nat.le_of_ble_eq_true rfl) dX9_walkItem_45 (fun r_258 hw_r_258 => ?_)
            rcases hw_r_258 with ⟨rfl, h_259⟩ | ⟨rfl, h_260⟩
            · skip
              refine xc_Sr hF (c_X9_isDigit l D cI cJ cZ cS ta sa sv H.size (tp f8) ) ks_X9_263 ⟨rfl, rfl, Nat.le_of_ble_eq_true rfl, Nat.le_of_ble_eq_true rfl⟩ ⟨Nat.le_of_ble_eq_true rfl, Nat.le_of_ble_eq_true rfl⟩ hK hN hZ hP hD hS hA [] rfl rfl rfl hl.1 rfl (Nat.le_of_ble_eq_true rfl) dX9_walkItem_48 (fun r_261 hw_r_261 => ?_)
              rcases hw_r_261 with ⟨rfl, h_262, h_263⟩ | ⟨rfl, h_264⟩
              · skip
                refine lv_if_eq (tgt := 105) hx hb dX9_walkItem_51 (by decide) (fun c_265 => absurd c_265 (by decide)) (fun c_265 => ?_)
                refine lv_aload_n hx hb dX9_walkItem_54 rfl (lv_at hl 1 rfl) ?_
                refine xc_Vr hF (c_X9_numberHere l D cI cJ cZ cS ta sa sv H.size h0 ys yk yo yt mk0 yfa yfe mL mS mM yro yhe ygr mF mC mY yta mz f8 t8 mv w8 ywa ybi ysi ynu ymo tp (by omega) (by omega) (by omega) (by omega) (by omega)) kv_X9_284 ⟨rfl, rfl, Nat.le_of_ble_eq_true rfl, Nat.le_of_ble_eq_true rfl⟩ ⟨Nat.le_of_ble_eq_true rfl, Nat.le_of_ble_eq_true rfl⟩ hK hN hZ hP hD hS hA [2, 3] rfl rfl 0 rfl rfl rfl rfl hl.1 rfl (Nat.le_of_ble_eq_true rfl) dX9_walkItem_55 (fun r_266 hw_r_266 => ?_)
                refine lv_istore_n (lv' := [(2, .int r_266), (1, .int (nI (n8))), (0, .ref h0)]) hx hb dX9_walkItem_58 rfl hl (by decide) rfl (fun ls hl => ?_)
                refine lv_aload_n hx hb dX9_walkItem_59 rfl (lv_at hl 2 rfl) ?_
                refine lv_aload_n hx hb dX9_walkItem_60 rfl (lv_at hl 2 rfl) ?_
                refine lv_iload_n hx hb dX9_walkItem_61 rfl (lv_at hl 0 rfl) ?_
                refine xc_Vr hF (c_X9_isPlace l D cI cJ cZ cS ta sa sv H.size h0 ys yk yo yt mk0 yfa yfe mL mS mM yro yhe ygr mF mC mY yta mz f8 t8 mv w8 ywa ybi ysi ynu ymo ms P Rn Wn r_266 hs0 hs1 hs2 hsS hsM hsp hsr hsw hsR) kv_X9_61 ⟨rfl, rfl, Nat.le_of_ble_eq_true rfl, Nat.le_of_ble_eq_true rfl⟩ ⟨Nat.le_of_ble_eq_true rfl, Nat.le_of_ble_eq_true rfl⟩ hK hN hZ hP hD hS hA [2, 0] rfl rfl 0 rfl rfl rfl rfl hl.1 rfl (Nat.le_of_ble_eq_true rfl) dX9_walkItem_62 (fun r_267 hw_r_267 => ?_)
                rcases hw_r_267 with ⟨k_268, rfl, rfl, h_270⟩ | rfl
                · skip
                  refine lv_if_eq (tgt := 88) hx hb dX9_walkItem_65 (by decide) (fun c_271 => absurd c_271 (by decide)) (fun c_271 => ?_)
                  refine lv_iload_n hx hb dX9_walkItem_68 rfl (lv_at hl 1 rfl) ?_
                  refine lv_if_eq (tgt := 84) hx hb dX9_walkItem_69 (by decide) (fun c_272 => ?_) (fun c_272 => ?_)
                  · skip
                    have nc_272 : n8 = 0 := xn_eq (a := n8) (b := 0) (by omega) (by omega) c_272
                    refine lv_iconst (v := 1) hx hb dX9_walkItem_84 (by decide) ?_
                    refine lv_goto (tgt := 89) hx hb dX9_walkItem_85 (by decide) ?_
                    refine xc_Vv (wr := [(ys, .inl (cI, 449, .inl ms)), (ywa, .inl (cI, 6, .inl a8))]) hF (c_X9_needs l D cI cJ cZ cS ta sa sv H.size h0 ys yk yo yt mk0 yfa yfe mL mS mM yro yhe ygr mF mC mY yta mz f8 t8 mv w8 ywa ybi ysi ynu ymo tp 1 (by omega) (by omega) (by omega) (by omega) (by omega)) kv_X9_278 ⟨rfl, rfl, Nat.le_of_ble_eq_true rfl, Nat.le_of_ble_eq_true rfl⟩ ⟨Nat.le_of_ble_eq_true rfl, Nat.le_of_ble_eq_true rfl⟩ hK hN hZ hP hD hS hA [2, 3] [0, 1] rfl rfl rfl rfl (by decide) 0 rfl rfl rfl rfl hl.1 rfl (Nat.le_of_ble_eq_true rfl) dX9_walkItem_89 (fun u_r_273 H locs hw_r_273 hP hD hS => ?_)
                    obtain ⟨f2_274, t2_275, w2_276⟩ := u_r_273
                    try dsimp only at hw_r_273
                    obtain ⟨i_277, i_278, i_279, i_280, i_281, i_282⟩ := hw_r_273
                    have hP : va_P D vwCl [(ys, .inl (cI, 449, .inl ms)), (ywa, .inl (cI, 6, .inl a8)), (h0, .inr (9, [.ref ys, .ref yk, .ref yo, .ref yt, .int mk0, .ref yfa, .ref yfe, .int mL, .int mS, .int mM, .ref yro, .ref yhe, .ref ygr, .int mF, .int mC, .int mY, .ref yta, .int (nI (mz)), .int (nI (f2_274)), .int (nI (t2_275)), .int mv, .int w2_276, .ref ywa, .ref ybi, .ref ysi, .ref ynu, .ref ymo])), (yta, .inl (cI, 120, .inl tp))] H := hP
                    have hD : va_D A [(ys, .inl (cI, 449, .inl ms)), (ywa, .inl (cI, 6, .inl a8)), (h0, .inr (9, [.ref ys, .ref yk, .ref yo, .ref yt, .int mk0, .ref yfa, .ref yfe, .int mL, .int mS, .int mM, .ref yro, .ref yhe, .ref ygr, .int mF, .int mC, .int mY, .ref yta, .int (nI (mz)), .int (nI (f2_274)), .int (nI (t2_275)), .int mv, .int w2_276, .ref ywa, .ref ybi, .ref ysi, .ref ynu, .ref ymo])), (yta, .inl (cI, 120, .inl tp))] := hD
                    refine lv_aload_n hx hb dX9_walkItem_92 rfl (lv_at hl 2 rfl) ?_
                    refine xg hF kf_X9_40 hK hP 2 rfl rfl dX9_walkItem_93 ?_
                    refine lv_iload_n hx hb dX9_walkItem_96 rfl (lv_at hl 1 rfl) ?_
                    refine lv_iload_n hx hb dX9_walkItem_97 rfl (lv_at hl 0 rfl) ?_
                    refine va_iast hx hb hK hP hD hS 1 0 rfl rfl (vp_in_nI (show n8 < 6 by omega) (by decide)) dX9_walkItem_98 (fun H locs hP hD hS => ?_)
                    rw [nI_clamp (show n8 < 2 ^ 31 by omega)] at hP hD
                    obtain ⟨f_283, ef_283⟩ : ∃ g, g = upd a8 n8 (nI (k_268)) := ⟨_, rfl⟩
                    rw [← ef_283] at hP hD
                    have hP : va_P D vwCl [(ys, .inl (cI, 449, .inl ms)), (ywa, .inl (cI, 6, .inl f_283)), (h0, .inr (9, [.ref ys, .ref yk, .ref yo, .ref yt, .int mk0, .ref yfa, .ref yfe, .int mL, .int mS, .int mM, .ref yro, .ref yhe, .ref ygr, .int mF, .int mC, .int mY, .ref yta, .int (nI (mz)), .int (nI (f2_274)), .int (nI (t2_275)), .int mv, .int w2_276, .ref ywa, .ref ybi, .ref ysi, .ref ynu, .ref ymo])), (yta, .inl (cI, 120, .inl tp))] H := hP
                    have hD : va_D A [(ys, .inl (cI, 449, .inl ms)), (ywa, .inl (cI, 6, .inl f_283)), (h0, .inr (9, [.ref ys, .ref yk, .ref yo, .ref yt, .int mk0, .ref yfa, .ref yfe, .int mL, .int mS, .int mM, .ref yro, .ref yhe, .ref ygr, .int mF, .int mC, .int mY, .ref yta, .int (nI (mz)), .int (nI (f2_274)), .int (nI (t2_275)), .int mv, .int w2_276, .ref ywa, .ref ybi, .ref ysi, .ref ynu, .ref ymo])), (yta, .inl (cI, 120, .inl tp))] := hD
                    refine lv_iinc (v := nI (n8 + 1)) (lv' := [(1, .int (nI (n8 + 1))), (2, .int (nI (k_268))), (0, .ref h0)]) hx hb dX9_walkItem_99 hl (k := 1) rfl (nI_1 (n8)) (by decide) rfl (fun ls hl => ?_)
                    refine lv_goto (tgt := 22) hx hb dX9_walkItem_102 (by decide) ?_
                    exact ih_22 (n8 + 1) f2_274 t2_275 w2_276 f_283 _ _ _ (by omega) (by omega) (by omega) (by omega) (by omega) (by omega) (by omega) (fun h => ⟨(hc8 (i_282 h).1).1, trivial⟩) (wk_A.put hA8 c_12 (show k_268 < 10 by omega) ef_283) (hP.sub [0, 1, 2, 3] rfl) (hD.sub [0, 1, 2, 3] (by decide) rfl) hS (lv_sub hl [0, 2] rfl)
                  · skip
                    have nc_272 : n8 ≠ 0 := xn_ne (a := n8) (b := 0) (by omega) (by omega) c_272
                    refine lv_iload_n hx hb dX9_walkItem_72 rfl (lv_at hl 0 rfl) ?_
                    refine lv_aload_n hx hb dX9_walkItem_73 rfl (lv_at hl 2 rfl) ?_
                    refine xg hF kf_X9_40 hK hP 2 rfl rfl dX9_walkItem_74 ?_
                    refine lv_iload_n hx hb dX9_walkItem_77 rfl (lv_at hl 1 rfl) ?_
                    refine lv_iconst (v := 1) hx hb dX9_walkItem_78 (by decide) ?_
                    refine lv_isub hx hb dX9_walkItem_79 ?_
                    refine xl_i (y := nI (n8 - 1)) (pk_sub (show 1 ≤ n8 by omega)) ?_
                    refine va_iald hx hb hK hP 1 0 rfl rfl (vp_in_nI (show n8 - 1 < 6 by omega) (by decide)) dX9_walkItem_80 ?_
                    refine xl_i (y := a8 (n8 - 1)) (congrArg a8 (nI_clamp (show n8 - 1 < 2 ^ 31 by omega))) ?_
                    refine lv_icmp_eq (tgt := 88) hx hb dX9_walkItem_81 (by decide) (fun c_284 => ?_) (fun c_284 => ?_)
                    · skip
                      refine lv_iconst (v := 0) hx hb dX9_walkItem_88 (by decide) ?_
                      refine xc_Vv (wr := [(ys, .inl (cI, 449, .inl ms)), (ywa, .inl (cI, 6, .inl a8))]) hF (c_X9_needs l D cI cJ cZ cS ta sa sv H.size h0 ys yk yo yt mk0 yfa yfe mL mS mM yro yhe ygr mF mC mY yta mz f8 t8 mv w8 ywa ybi ysi ynu ymo tp 0 (by omega) (by omega) (by omega) (by omega) (by omega)) kv_X9_278 ⟨rfl, rfl, Nat.le_of_ble_eq_true rfl, Nat.le_of_ble_eq_true rfl⟩ ⟨Nat.le_of_ble_eq_true rfl, Nat.le_of_ble_eq_true rfl⟩ hK hN hZ hP hD hS hA [2, 3] [0, 1] rfl rfl rfl rfl (by decide) 0 rfl rfl rfl rfl hl.1 rfl (Nat.le_of_ble_eq_true rfl) dX9_walkItem_89 (fun u_r_285 H locs hw_r_285 hP hD hS => ?_)
                      obtain ⟨f2_286, t2_287, w2_288⟩ := u_r_285
                      try dsimp only at hw_r_285
                      obtain ⟨i_289, i_290, i_291, i_292, i_293, i_294⟩ := hw_r_285
                      have hP : va_P D vwCl [(ys, .inl (cI, 449, .inl ms)), (ywa, .inl (cI, 6, .inl a8)), (h0, .inr (9, [.ref ys, .ref yk, .ref yo, .ref yt, .int mk0, .ref yfa, .ref yfe, .int mL, .int mS, .int mM, .ref yro, .ref yhe, .ref ygr, .int mF, .int mC, .int mY, .ref yta, .int (nI (mz)), .int (nI (f2_286)), .int (nI (t2_287)), .int mv, .int w2_288, .ref ywa, .ref ybi, .ref ysi, .ref ynu, .ref ymo])), (yta, .inl (cI, 120, .inl tp))] H := hP
                      have hD : va_D A [(ys, .inl (cI, 449, .inl ms)), (ywa, .inl (cI, 6, .inl a8)), (h0, .inr (9, [.ref ys, .ref yk, .ref yo, .ref yt, .int mk0, .ref yfa, .ref yfe, .int mL, .int mS, .int mM, .ref yro, .ref yhe, .ref ygr, .int mF, .int mC, .int mY, .ref yta, .int (nI (mz)), .int (nI (f2_286)), .int (nI (t2_287)), .int mv, .int w2_288, .ref ywa, .ref ybi, .ref ysi, .ref ynu, .ref ymo])), (yta, .inl (cI, 120, .inl tp))] := hD
                      refine lv_aload_n hx hb dX9_walkItem_92 rfl (lv_at hl 2 rfl) ?_
                      refine xg hF kf_X9_40 hK hP 2 rfl rfl dX9_walkItem_93 ?_
                      refine lv_iload_n hx hb dX9_walkItem_96 rfl (lv_at hl 1 rfl) ?_
                      refine lv_iload_n hx hb dX9_walkItem_97 rfl (lv_at hl 0 rfl) ?_
                      refine va_iast hx hb hK hP hD hS 1 0 rfl rfl (vp_in_nI (show n8 < 6 by omega) (by decide)) dX9_walkItem_98 (fun H locs hP hD hS => ?_)
                      rw [nI_clamp (show n8 < 2 ^ 31 by omega)] at hP hD
                      obtain ⟨f_295, ef_295⟩ : ∃ g, g = upd a8 n8 (nI (k_268)) := ⟨_, rfl⟩
                      rw [← ef_295] at hP hD
                      have hP : va_P D vwCl [(ys, .inl (cI, 449, .inl ms)), (ywa, .inl (cI, 6, .inl f_295)), (h0, .inr (9, [.ref ys, .ref yk, .ref yo, .ref yt, .int mk0, .ref yfa, .ref yfe, .int mL, .int mS, .int mM, .ref yro, .ref yhe, .ref ygr, .int mF, .int mC, .int mY, .ref yta, .int (nI (mz)), .int (nI (f2_286)), .int (nI (t2_287)), .int mv, .int w2_288, .ref ywa, .ref ybi, .ref ysi, .ref ynu, .ref ymo])), (yta, .inl (cI, 120, .inl tp))] H := hP
                      have hD : va_D A [(ys, .inl (cI, 449, .inl ms)), (ywa, .inl (cI, 6, .inl f_295)), (h0, .inr (9, [.ref ys, .ref yk, .ref yo, .ref yt, .int mk0, .ref yfa, .ref yfe, .int mL, .int mS, .int mM, .ref yro, .ref yhe, .ref ygr, .int mF, .int mC, .int mY, .ref yta, .int (nI (mz)), .int (nI (f2_286)), .int (nI (t2_287)), .int mv, .int w2_288, .ref ywa, .ref ybi, .ref ysi, .ref ynu, .ref ymo])), (yta, .inl (cI, 120, .inl tp))] := hD
                      refine lv_iinc (v := nI (n8 + 1)) (lv' := [(1, .int (nI (n8 + 1))), (2, .int (nI (k_268))), (0, .ref h0)]) hx hb dX9_walkItem_99 hl (k := 1) rfl (nI_1 (n8)) (by decide) rfl (fun ls hl => ?_)
                      refine lv_goto (tgt := 22) hx hb dX9_walkItem_102 (by decide) ?_
                      exact ih_22 (n8 + 1) f2_286 t2_287 w2_288 f_295 _ _ _ (by omega) (by omega) (by omega) (by omega) (by omega) (by omega) (by omega) (fun h => ⟨(hc8 (i_294 h).1).1, trivial⟩) (wk_A.no (fun h => absurd rfl (i_294 h).2.1)) (hP.sub [0, 1, 2, 3] rfl) (hD.sub [0, 1, 2, 3] (by decide) rfl) hS (lv_sub hl [0, 2] rfl)
                    · skip
                      refine lv_iconst (v := 1) hx hb dX9_walkItem_84 (by decide) ?_
                      refine lv_goto (tgt := 89) hx hb dX9_walkItem_85 (by decide) ?_
                      refine xc_Vv (wr := [(ys, .inl (cI, 449, .inl ms)), (ywa, .inl (cI, 6, .inl a8))]) hF (c_X9_needs l D cI cJ cZ cS ta sa sv H.size h0 ys yk yo yt mk0 yfa yfe mL mS mM yro yhe ygr mF mC mY yta mz f8 t8 mv w8 ywa ybi ysi ynu ymo tp 1 (by omega) (by omega) (by omega) (by omega) (by omega)) kv_X9_278 ⟨rfl, rfl, Nat.le_of_ble_eq_true rfl, Nat.le_of_ble_eq_true rfl⟩ ⟨Nat.le_of_ble_eq_true rfl, Nat.le_of_ble_eq_true rfl⟩ hK hN hZ hP hD hS hA [2, 3] [0, 1] rfl rfl rfl rfl (by decide) 0 rfl rfl rfl rfl hl.1 rfl (Nat.le_of_ble_eq_true rfl) dX9_walkItem_89 (fun u_r_296 H locs hw_r_296 hP hD hS => ?_)
                      obtain ⟨f2_297, t2_298, w2_299⟩ := u_r_296
                      try dsimp only at hw_r_296
                      obtain ⟨i_300, i_301, i_302, i_303, i_304, i_305⟩ := hw_r_296
                      have hP : va_P D vwCl [(ys, .inl (cI, 449, .inl ms)), (ywa, .inl (cI, 6, .inl a8)), (h0, .inr (9, [.ref ys, .ref yk, .ref yo, .ref yt, .int mk0, .ref yfa, .ref yfe, .int mL, .int mS, .int mM, .ref yro, .ref yhe, .ref ygr, .int mF, .int mC, .int mY, .ref yta, .int (nI (mz)), .int (nI (f2_297)), .int (nI (t2_298)), .int mv, .int w2_299, .ref ywa, .ref ybi, .ref ysi, .ref ynu, .ref ymo])), (yta, .inl (cI, 120, .inl tp))] H := hP
                      have hD : va_D A [(ys, .inl (cI, 449, .inl ms)), (ywa, .inl (cI, 6, .inl a8)), (h0, .inr (9, [.ref ys, .ref yk, .ref yo, .ref yt, .int mk0, .ref yfa, .ref yfe, .int mL, .int mS, .int mM, .ref yro, .ref yhe, .ref ygr, .int mF, .int mC, .int mY, .ref yta, .int (nI (mz)), .int (nI (f2_297)), .int (nI (t2_298)), .int mv, .int w2_299, .ref ywa, .ref ybi, .ref ysi, .ref ynu, .ref ymo])), (yta, .inl (cI, 120, .inl tp))] := hD
                      refine lv_aload_n hx hb dX9_walkItem_92 rfl (lv_at hl 2 rfl) ?_
                      refine xg hF kf_X9_40 hK hP 2 rfl rfl dX9_walkItem_93 ?_
                      refine lv_iload_n hx hb dX9_walkItem_96 rfl (lv_at hl 1 rfl) ?_
                      refine lv_iload_n hx hb dX9_walkItem_97 rfl (lv_at hl 0 rfl) ?_
                      refine va_iast hx hb hK hP hD hS 1 0 rfl rfl (vp_in_nI (show n8 < 6 by omega) (by decide)) dX9_walkItem_98 (fun H locs hP hD hS => ?_)
                      rw [nI_clamp (show n8 < 2 ^ 31 by omega)] at hP hD
                      obtain ⟨f_306, ef_306⟩ : ∃ g, g = upd a8 n8 (nI (k_268)) := ⟨_, rfl⟩
                      rw [← ef_306] at hP hD
                      have hP : va_P D vwCl [(ys, .inl (cI, 449, .inl ms)), (ywa, .inl (cI, 6, .inl f_306)), (h0, .inr (9, [.ref ys, .ref yk, .ref yo, .ref yt, .int mk0, .ref yfa, .ref yfe, .int mL, .int mS, .int mM, .ref yro, .ref yhe, .ref ygr, .int mF, .int mC, .int mY, .ref yta, .int (nI (mz)), .int (nI (f2_297)), .int (nI (t2_298)), .int mv, .int w2_299, .ref ywa, .ref ybi, .ref ysi, .ref ynu, .ref ymo])), (yta, .inl (cI, 120, .inl tp))] H := hP
                      have hD : va_D A [(ys, .inl (cI, 449, .inl ms)), (ywa, .inl (cI, 6, .inl f_306)), (h0, .inr (9, [.ref ys, .ref yk, .ref yo, .ref yt, .int mk0, .ref yfa, .ref yfe, .int mL, .int mS, .int mM, .ref yro, .ref yhe, .ref ygr, .int mF, .int mC, .int mY, .ref yta, .int (nI (mz)), .int (nI (f2_297)), .int (nI (t2_298)), .int mv, .int w2_299, .ref ywa, .ref ybi, .ref ysi, .ref ynu, .ref ymo])), (yta, .inl (cI, 120, .inl tp))] := hD
                      refine lv_iinc (v := nI (n8 + 1)) (lv' := [(1, .int (nI (n8 + 1))), (2, .int (nI (k_268))), (0, .ref h0)]) hx hb dX9_walkItem_99 hl (k := 1) rfl (nI_1 (n8)) (by decide) rfl (fun ls hl => ?_)
                      refine lv_goto (tgt := 22) hx hb dX9_walkItem_102 (by decide) ?_
                      exact ih_22 (n8 + 1) f2_297 t2_298 w2_299 f_306 _ _ _ (by omega) (by omega) (by omega) (by omega) (by omega) (by omega) (by omega) (fun h => ⟨(hc8 (i_305 h).1).1, trivial⟩) (wk_A.put hA8 c_12 (show k_268 < 10 by omega) ef_306) (hP.sub [0, 1, 2, 3] rfl) (hD.sub [0, 1, 2, 3] (by decide) rfl) hS (lv_sub hl [0, 2] rfl)
                · skip
                  refine lv_if_eq (tgt := 88) hx hb dX9_walkItem_65 (by decide) (fun c_307 => ?_) (fun c_307 => absurd (by decide) c_307)
                  refine lv_iconst (v := 0) hx hb dX9_walkItem_88 (by decide) ?_
                  refine xc_Vv (wr := [(ys, .inl (cI, 449, .inl ms)), (ywa, .inl (cI, 6, .inl a8))]) hF (c_X9_needs l D cI cJ cZ cS ta sa sv H.size h0 ys yk yo yt mk0 yfa yfe mL mS mM yro yhe ygr mF mC mY yta mz f8 t8 mv w8 ywa ybi ysi ynu ymo tp 0 (by omega) (by omega) (by omega) (by omega) (by omega)) kv_X9_278 ⟨rfl, rfl, Nat.le_of_ble_eq_true rfl, Nat.le_of_ble_eq_true rfl⟩ ⟨Nat.le_of_ble_eq_true rfl, Nat.le_of_ble_eq_true rfl⟩ hK hN hZ hP hD hS hA [2, 3] [0, 1] rfl rfl rfl rfl (by decide) 0 rfl rfl rfl rfl hl.1 rfl (Nat.le_of_ble_eq_true rfl) dX9_walkItem_89 (fun u_r_308 H locs hw_r_308 hP hD hS => ?_)
                  obtain ⟨f2_309, t2_310, w2_311⟩ := u_r_308
                  try dsimp only at hw_r_308
                  obtain ⟨i_312, i_313, i_314, i_315, i_316, i_317⟩ := hw_r_308
                  have hP : va_P D vwCl [(ys, .inl (cI, 449, .inl ms)), (ywa, .inl (cI, 6, .inl a8)), (h0, .inr (9, [.ref ys, .ref yk, .ref yo, .ref yt, .int mk0, .ref yfa, .ref yfe, .int mL, .int mS, .int mM, .ref yro, .ref yhe, .ref ygr, .int mF, .int mC, .int mY, .ref yta, .int (nI (mz)), .int (nI (f2_309)), .int (nI (t2_310)), .int mv, .int w2_311, .ref ywa, .ref ybi, .ref ysi, .ref ynu, .ref ymo])), (yta, .inl (cI, 120, .inl tp))] H := hP
                  have hD : va_D A [(ys, .inl (cI, 449, .inl ms)), (ywa, .inl (cI, 6, .inl a8)), (h0, .inr (9, [.ref ys, .ref yk, .ref yo, .ref yt, .int mk0, .ref yfa, .ref yfe, .int mL, .int mS, .int mM, .ref yro, .ref yhe, .ref ygr, .int mF, .int mC, .int mY, .ref yta, .int (nI (mz)), .int (nI (f2_309)), .int (nI (t2_310)), .int mv, .int w2_311, .ref ywa, .ref ybi, .ref ysi, .ref ynu, .ref ymo])), (yta, .inl (cI, 120, .inl tp))] := hD
                  refine lv_aload_n hx hb dX9_walkItem_92 rfl (lv_at hl 2 rfl) ?_
                  refine xg hF kf_X9_40 hK hP 2 rfl rfl dX9_walkItem_93 ?_
                  refine lv_iload_n hx hb dX9_walkItem_96 rfl (lv_at hl 1 rfl) ?_
                  refine lv_iload_n hx hb dX9_walkItem_97 rfl (lv_at hl 0 rfl) ?_
                  refine va_iast hx hb hK hP hD hS 1 0 rfl rfl (vp_in_nI (show n8 < 6 by omega) (by decide)) dX9_walkItem_98 (fun H locs hP hD hS => ?_)
                  rw [nI_clamp (show n8 < 2 ^ 31 by omega)] at hP hD
                  obtain ⟨f_318, ef_318⟩ : ∃ g, g = upd a8 n8 r_266 := ⟨_, rfl⟩
                  rw [← ef_318] at hP hD
                  have hP : va_P D vwCl [(ys, .inl (cI, 449, .inl ms)), (ywa, .inl (cI, 6, .inl f_318)), (h0, .inr (9, [.ref ys, .ref yk, .ref yo, .ref yt, .int mk0, .ref yfa, .ref yfe, .int mL, .int mS, .int mM, .ref yro, .ref yhe, .ref ygr, .int mF, .int mC, .int mY, .ref yta, .int (nI (mz)), .int (nI (f2_309)), .int (nI (t2_310)), .int mv, .int w2_311, .ref ywa, .ref ybi, .ref ysi, .ref ynu, .ref ymo])), (yta, .inl (cI, 120, .inl tp))] H := hP
                  have hD : va_D A [(ys, .inl (cI, 449, .inl ms)), (ywa, .inl (cI, 6, .inl f_318)), (h0, .inr (9, [.ref ys, .ref yk, .ref yo, .ref yt, .int mk0, .ref yfa, .ref yfe, .int mL, .int mS, .int mM, .ref yro, .ref yhe, .ref ygr, .int mF, .int mC, .int mY, .ref yta, .int (nI (mz)), .int (nI (f2_309)), .int (nI (t2_310)), .int mv, .int w2_311, .ref ywa, .ref ybi, .ref ysi, .ref ynu, .ref ymo])), (yta, .inl (cI, 120, .inl tp))] := hD
                  refine lv_iinc (v := nI (n8 + 1)) (lv' := [(1, .int (nI (n8 + 1))), (2, .int r_266), (0, .ref h0)]) hx hb dX9_walkItem_99 hl (k := 1) rfl (nI_1 (n8)) (by decide) rfl (fun ls hl => ?_)
                  refine lv_goto (tgt := 22) hx hb dX9_walkItem_102 (by decide) ?_
                  exact ih_22 (n8 + 1) f2_309 t2_310 w2_311 f_318 _ _ _ (by omega) (by omega) (by omega) (by omega) (by omega) (by omega) (by omega) (fun h => ⟨(hc8 (i_317 h).1).1, trivial⟩) (wk_A.no (fun h => absurd rfl (i_317 h).2.1)) (hP.sub [0, 1, 2, 3] rfl) (hD.sub [0, 1, 2, 3] (by decide) rfl) hS (lv_sub hl [0, 2] rfl)
              · skip
                refine lv_if_eq (tgt := 105) hx hb dX9_walkItem_51 (by decide) (fun c_319 => ?_) (fun c_319 => absurd (by decide) c_319)
                refine lv_aload_n hx hb dX9_walkItem_105 rfl (lv_at hl 1 rfl) ?_
                refine lv_aload_n hx hb dX9_walkItem_106 rfl (lv_at hl 1 rfl) ?_
                refine lv_bipush (v := 97) hx hb dX9_walkItem_107 (by decide) ?_
                refine lv_bipush (v := 108) hx hb dX9_walkItem_109 (by decide) ?_
                refine lv_bipush (v := 108) hx hb dX9_walkItem_111 (by decide) ?_
                refine lv_iconst (v := 0) hx hb dX9_walkItem_113 (by decide) ?_
                refine lv_iconst (v := 0) hx hb dX9_walkItem_114 (by decide) ?_
                refine lv_iconst (v := 0) hx hb dX9_walkItem_115 (by decide) ?_
                refine lv_iconst (v := 0) hx hb dX9_walkItem_116 (by decide) ?_
                refine xc_Vr hF (c_X9_isWord l D cI cJ cZ cS ta sa sv H.size h0 ys yk yo yt mk0 yfa yfe mL mS mM yro yhe ygr mF mC mY yta mz f8 t8 mv w8 ywa ybi ysi ynu ymo tp 97 108 108 0 0 0 0 (by omega) (by omega)) kv_X9_290 ⟨rfl, rfl, Nat.le_of_ble_eq_true rfl, Nat.le_of_ble_eq_true rfl⟩ ⟨Nat.le_of_ble_eq_true rfl, Nat.le_of_ble_eq_true rfl⟩ hK hN hZ hP hD hS hA [2, 3] rfl rfl 0 rfl rfl rfl rfl hl.1 rfl (Nat.le_of_ble_eq_true rfl) dX9_walkItem_117 (fun r_320 hw_r_320 => ?_)
                rcases hw_r_320 with rfl | rfl
                · skip
                  refine xc_Vv (wr := [(ys, .inl (cI, 449, .inl ms)), (ywa, .inl (cI, 6, .inl a8))]) hF (c_X9_needs l D cI cJ cZ cS ta sa sv H.size h0 ys yk yo yt mk0 yfa yfe mL mS mM yro yhe ygr mF mC mY yta mz f8 t8 mv w8 ywa ybi ysi ynu ymo tp 1 (by omega) (by omega) (by omega) (by omega) (by omega)) kv_X9_278 ⟨rfl, rfl, Nat.le_of_ble_eq_true rfl, Nat.le_of_ble_eq_true rfl⟩ ⟨Nat.le_of_ble_eq_true rfl, Nat.le_of_ble_eq_true rfl⟩ hK hN hZ hP hD hS hA [2, 3] [0, 1] rfl rfl rfl rfl (by decide) 0 rfl rfl rfl rfl hl.1 rfl (Nat.le_of_ble_eq_true rfl) dX9_walkItem_120 (fun u_r_321 H locs hw_r_321 hP hD hS => ?_)
                  obtain ⟨f2_322, t2_323, w2_324⟩ := u_r_321
                  try dsimp only at hw_r_321
                  obtain ⟨i_325, i_326, i_327, i_328, i_329, i_330⟩ := hw_r_321
                  have hP : va_P D vwCl [(ys, .inl (cI, 449, .inl ms)), (ywa, .inl (cI, 6, .inl a8)), (h0, .inr (9, [.ref ys, .ref yk, .ref yo, .ref yt, .int mk0, .ref yfa, .ref yfe, .int mL, .int mS, .int mM, .ref yro, .ref yhe, .ref ygr, .int mF, .int mC, .int mY, .ref yta, .int (nI (mz)), .int (nI (f2_322)), .int (nI (t2_323)), .int mv, .int w2_324, .ref ywa, .ref ybi, .ref ysi, .ref ynu, .ref ymo])), (yta, .inl (cI, 120, .inl tp))] H := hP
                  have hD : va_D A [(ys, .inl (cI, 449, .inl ms)), (ywa, .inl (cI, 6, .inl a8)), (h0, .inr (9, [.ref ys, .ref yk, .ref yo, .ref yt, .int mk0, .ref yfa, .ref yfe, .int mL, .int mS, .int mM, .ref yro, .ref yhe, .ref ygr, .int mF, .int mC, .int mY, .ref yta, .int (nI (mz)), .int (nI (f2_322)), .int (nI (t2_323)), .int mv, .int w2_324, .ref ywa, .ref ybi, .ref ysi, .ref ynu, .ref ymo])), (yta, .inl (cI, 120, .inl tp))] := hD
                  refine lv_aload_n hx hb dX9_walkItem_123 rfl (lv_at hl 1 rfl) ?_
                  refine lv_sipush (v := (-9999)) hx hb dX9_walkItem_124 (by decide) ?_
                  refine lv_sipush (v := 9999) hx hb dX9_walkItem_127 (by decide) ?_
                  refine xc_Vv (wr := [(ys, .inl (cI, 449, .inl ms)), (ywa, .inl (cI, 6, .inl a8))]) hF (c_X9_mile l D cI cJ cZ cS ta sa sv H.size h0 ys yk yo yt mk0 yfa yfe mL mS mM yro yhe ygr mF mC mY yta mz f2_322 t2_323 mv w2_324 ywa ybi ysi ynu ymo tp (-9999) 9999 (by omega) (by omega) (by omega) (by omega) (by omega)) kv_X9_287 ⟨rfl, rfl, Nat.le_of_ble_eq_true rfl, Nat.le_of_ble_eq_true rfl⟩ ⟨Nat.le_of_ble_eq_true rfl, Nat.le_of_ble_eq_true rfl⟩ hK hN hZ hP hD hS hA [2, 3] [0, 1] rfl rfl rfl rfl (by decide) 0 rfl rfl rfl rfl hl.1 rfl (Nat.le_of_ble_eq_true rfl) dX9_walkItem_130 (fun u_r_331 H locs hw_r_331 hP hD hS => ?_)
                  obtain ⟨f2_332, t2_333, v2_334, w2_335⟩ := u_r_331
                  try dsimp only at hw_r_331
                  obtain ⟨i_336, i_337, i_338, i_339, i_340, i_341⟩ := hw_r_331
                  have hP : va_P D vwCl [(ys, .inl (cI, 449, .inl ms)), (ywa, .inl (cI, 6, .inl a8)), (h0, .inr (9, [.ref ys, .ref yk, .ref yo, .ref yt, .int mk0, .ref yfa, .ref yfe, .int mL, .int mS, .int mM, .ref yro, .ref yhe, .ref ygr, .int mF, .int mC, .int mY, .ref yta, .int (nI (mz)), .int (nI (f2_332)), .int (nI (t2_333)), .int v2_334, .int w2_335, .ref ywa, .ref ybi, .ref ysi, .ref ynu, .ref ymo])), (yta, .inl (cI, 120, .inl tp))] H := hP
                  have hD : va_D A [(ys, .inl (cI, 449, .inl ms)), (ywa, .inl (cI, 6, .inl a8)), (h0, .inr (9, [.ref ys, .ref yk, .ref yo, .ref yt, .int mk0, .ref yfa, .ref yfe, .int mL, .int mS, .int mM, .ref yro, .ref yhe, .ref ygr, .int mF, .int mC, .int mY, .ref yta, .int (nI (mz)), .int (nI (f2_332)), .int (nI (t2_333)), .int v2_334, .int w2_335, .ref ywa, .ref ybi, .ref ysi, .ref ynu, .ref ymo])), (yta, .inl (cI, 120, .inl tp))] := hD
                  refine lv_aload_n hx hb dX9_walkItem_133 rfl (lv_at hl 1 rfl) ?_
                  refine xg hF kf_X9_275 hK hP 2 rfl rfl dX9_walkItem_134 ?_
                  refine lv_istore_n (lv' := [(2, .int v2_334), (1, .int (nI (n8))), (0, .ref h0)]) hx hb dX9_walkItem_137 rfl hl (by decide) rfl (fun ls hl => ?_)
                  refine lv_iconst (v := 0) hx hb dX9_walkItem_138 (by decide) ?_
                  refine lv_istore_n (lv' := [(3, .int 0), (2, .int v2_334), (1, .int (nI (n8))), (0, .ref h0)]) hx hb dX9_walkItem_139 rfl hl (by decide) rfl (fun ls hl => ?_)
                  refine lv_aload_n hx hb dX9_walkItem_140 rfl (lv_at hl 3 rfl) ?_
                  refine lv_bipush (v := 115) hx hb dX9_walkItem_141 (by decide) ?_
                  refine lv_bipush (v := 108) hx hb dX9_walkItem_143 (by decide) ?_
                  refine lv_bipush (v := 97) hx hb dX9_walkItem_145 (by decide) ?_
                  refine lv_bipush (v := 99) hx hb dX9_walkItem_147 (by decide) ?_
                  refine lv_bipush (v := 107) hx hb dX9_walkItem_149 (by decide) ?_
                  refine lv_iconst (v := 0) hx hb dX9_walkItem_151 (by decide) ?_
                  refine lv_iconst (v := 0) hx hb dX9_walkItem_152 (by decide) ?_
                  refine xc_Vr hF (c_X9_isWord l D cI cJ cZ cS ta sa sv H.size h0 ys yk yo yt mk0 yfa yfe mL mS mM yro yhe ygr mF mC mY yta mz f2_332 t2_333 v2_334 w2_335 ywa ybi ysi ynu ymo tp 115 108 97 99 107 0 0 (by omega) (by omega)) kv_X9_290 ⟨rfl, rfl, Nat.le_of_ble_eq_true rfl, Nat.le_of_ble_eq_true rfl⟩ ⟨Nat.le_of_ble_eq_true rfl, Nat.le_of_ble_eq_true rfl⟩ hK hN hZ hP hD hS hA [2, 3] rfl rfl 0 rfl rfl rfl rfl hl.1 rfl (Nat.le_of_ble_eq_true rfl) dX9_walkItem_153 (fun r_342 hw_r_342 => ?_)
                  rcases hw_r_342 with rfl | rfl
                  · skip
                    refine lv_if_eq (tgt := 176) hx hb dX9_walkItem_156 (by decide) (fun c_343 => absurd c_343 (by decide)) (fun c_343 => ?_)
                    refine lv_aload_n hx hb dX9_walkItem_159 rfl (lv_at hl 3 rfl) ?_
                    refine lv_iconst (v := 1) hx hb dX9_walkItem_160 (by decide) ?_
                    refine xc_Vv (wr := [(ys, .inl (cI, 449, .inl ms)), (ywa, .inl (cI, 6, .inl a8))]) hF (c_X9_needs l D cI cJ cZ cS ta sa sv H.size h0 ys yk yo yt mk0 yfa yfe mL mS mM yro yhe ygr mF mC mY yta mz f2_332 t2_333 v2_334 w2_335 ywa ybi ysi ynu ymo tp 1 (by omega) (by omega) (by omega) (by omega) (by omega)) kv_X9_278 ⟨rfl, rfl, Nat.le_of_ble_eq_true rfl, Nat.le_of_ble_eq_true rfl⟩ ⟨Nat.le_of_ble_eq_true rfl, Nat.le_of_ble_eq_true rfl⟩ hK hN hZ hP hD hS hA [2, 3] [0, 1] rfl rfl rfl rfl (by decide) 0 rfl rfl rfl rfl hl.1 rfl (Nat.le_of_ble_eq_true rfl) dX9_walkItem_161 (fun u_r_344 H locs hw_r_344 hP hD hS => ?_)
                    obtain ⟨f2_345, t2_346, w2_347⟩ := u_r_344
                    try dsimp only at hw_r_344
                    obtain ⟨i_348, i_349, i_350, i_351, i_352, i_353⟩ := hw_r_344
                    have hP : va_P D vwCl [(ys, .inl (cI, 449, .inl ms)), (ywa, .inl (cI, 6, .inl a8)), (h0, .inr (9, [.ref ys, .ref yk, .ref yo, .ref yt, .int mk0, .ref yfa, .ref yfe, .int mL, .int mS, .int mM, .ref yro, .ref yhe, .ref ygr, .int mF, .int mC, .int mY, .ref yta, .int (nI (mz)), .int (nI (f2_345)), .int (nI (t2_346)), .int v2_334, .int w2_347, .ref ywa, .ref ybi, .ref ysi, .ref ynu, .ref ymo])), (yta, .inl (cI, 120, .inl tp))] H := hP
                    have hD : va_D A [(ys, .inl (cI, 449, .inl ms)), (ywa, .inl (cI, 6, .inl a8)), (h0, .inr (9, [.ref ys, .ref yk, .ref yo, .ref yt, .int mk0, .ref yfa, .ref yfe, .int mL, .int mS, .int mM, .ref yro, .ref yhe, .ref ygr, .int mF, .int mC, .int mY, .ref yta, .int (nI (mz)), .int (nI (f2_345)), .int (nI (t2_346)), .int v2_334, .int w2_347, .ref ywa, .ref ybi, .ref ysi, .ref ynu, .ref ymo])), (yta, .inl (cI, 120, .inl tp))] := hD
                    refine lv_aload_n hx hb dX9_walkItem_164 rfl (lv_at hl 3 rfl) ?_
                    refine lv_iconst (v := 0) hx hb dX9_walkItem_165 (by decide) ?_
                    refine lv_bipush (v := 99) hx hb dX9_walkItem_166 (by decide) ?_
                    refine xc_Vv (wr := [(ys, .inl (cI, 449, .inl ms)), (ywa, .inl (cI, 6, .inl a8))]) hF (c_X9_number l D cI cJ cZ cS ta sa sv H.size h0 ys yk yo yt mk0 yfa yfe mL mS mM yro yhe ygr mF mC mY yta mz f2_345 t2_346 v2_334 w2_347 ywa ybi ysi ynu ymo tp 0 99 (by omega) (by omega) (by omega) (by omega) (by omega)) kv_X9_282 ⟨rfl, rfl, Nat.le_of_ble_eq_true rfl, Nat.le_of_ble_eq_true rfl⟩ ⟨Nat.le_of_ble_eq_true rfl, Nat.le_of_ble_eq_true rfl⟩ hK hN hZ hP hD hS hA [2, 3] [0, 1] rfl rfl rfl rfl (by decide) 0 rfl rfl rfl rfl hl.1 rfl (Nat.le_of_ble_eq_true rfl) dX9_walkItem_168 (fun u_r_354 H locs hw_r_354 hP hD hS => ?_)
                    obtain ⟨f2_355, t2_356, v2_357, w2_358⟩ := u_r_354
                    try dsimp only at hw_r_354
                    obtain ⟨i_359, i_360, i_361, i_362, i_363, i_364⟩ := hw_r_354
                    have hP : va_P D vwCl [(ys, .inl (cI, 449, .inl ms)), (ywa, .inl (cI, 6, .inl a8)), (h0, .inr (9, [.ref ys, .ref yk, .ref yo, .ref yt, .int mk0, .ref yfa, .ref yfe, .int mL, .int mS, .int mM, .ref yro, .ref yhe, .ref ygr, .int mF, .int mC, .int mY, .ref yta, .int (nI (mz)), .int (nI (f2_355)), .int (nI (t2_356)), .int v2_357, .int w2_358, .ref ywa, .ref ybi, .ref ysi, .ref ynu, .ref ymo])), (yta, .inl (cI, 120, .inl tp))] H := hP
                    have hD : va_D A [(ys, .inl (cI, 449, .inl ms)), (ywa, .inl (cI, 6, .inl a8)), (h0, .inr (9, [.ref ys, .ref yk, .ref yo, .ref yt, .int mk0, .ref yfa, .ref yfe, .int mL, .int mS, .int mM, .ref yro, .ref yhe, .ref ygr, .int mF, .int mC, .int mY, .ref yta, .int (nI (mz)), .int (nI (f2_355)), .int (nI (t2_356)), .int v2_357, .int w2_358, .ref ywa, .ref ybi, .ref ysi, .ref ynu, .ref ymo])), (yta, .inl (cI, 120, .inl tp))] := hD
                    refine lv_aload_n hx hb dX9_walkItem_171 rfl (lv_at hl 3 rfl) ?_
                    refine xg hF kf_X9_275 hK hP 2 rfl rfl dX9_walkItem_172 ?_
                    refine lv_istore_n (lv' := [(3, .int v2_357), (2, .int v2_334), (1, .int (nI (n8))), (0, .ref h0)]) hx hb dX9_walkItem_175 rfl hl (by decide) rfl (fun ls hl => ?_)
                    refine lv_aload_n hx hb dX9_walkItem_176 rfl (lv_at hl 3 rfl) ?_
                    refine xg hF kf_X9_266 hK hP 2 rfl rfl dX9_walkItem_177 ?_
                    refine lv_if_ne (tgt := 252) hx hb dX9_walkItem_180 (by decide) (fun c_365 => ?_) (fun c_365 => absurd rfl (i_11 (hc8 (i_330 (i_341 (i_353 (i_364 c_365).1).1).1).1).1).2.1)
                    exact W.vret hx hb hr (fun t ht hW => ⟨⟨(f2_355, t2_356, v2_357, w2_358, ms, a8, Wn), rfl, ⟨(by first | assumption | omega), (by first | assumption | omega), (by first | assumption | omega), (by first | assumption | omega), (by first | assumption | omega), (fun h => ⟨(i_11 (hc8 (i_330 (i_341 (i_353 (i_364 h).1).1).1).1).1).1, trivial⟩), hs0, hs1, hs2, hsS, hsM, hsp, hsr, hsw, hsR⟩, by rw [ht]; exact hP.sub [2, 0, 3, 1] rfl, hD.sub [2, 0, 3, 1] (by decide) rfl⟩, hS.F ht⟩) hS.2.2 dX9_walkItem_252 hlk
                  · skip
                    refine lv_if_eq (tgt := 176) hx hb dX9_walkItem_156 (by decide) (fun c_366 => ?_) (fun c_366 => absurd (by decide) c_366)
                    refine lv_aload_n hx hb dX9_walkItem_176 rfl (lv_at hl 3 rfl) ?_
                    refine xg hF kf_X9_266 hK hP 2 rfl rfl dX9_walkItem_177 ?_
                    refine lv_if_ne (tgt := 252) hx hb dX9_walkItem_180 (by decide) (fun c_367 => ?_) (fun c_367 => absurd rfl (i_11 (hc8 (i_330 (i_341 c_367).1).1).1).2.1)
                    exact W.vret hx hb hr (fun t ht hW => ⟨⟨(f2_332, t2_333, v2_334, w2_335, ms, a8, Wn), rfl, ⟨(by first | assumption | omega), (by first | assumption | omega), (by first | assumption | omega), (by first | assumption | omega), (by first | assumption | omega), (fun h => ⟨(i_11 (hc8 (i_330 (i_341 h).1).1).1).1, trivial⟩), hs0, hs1, hs2, hsS, hsM, hsp, hsr, hsw, hsR⟩, by rw [ht]; exact hP.sub [2, 0, 3, 1] rfl, hD.sub [2, 0, 3, 1] (by decide) rfl⟩, hS.F ht⟩) hS.2.2 dX9_walkItem_252 hlk
                · skip
                  refine xc_Vv (wr := [(ys, .inl (cI, 449, .inl ms)), (ywa, .inl (cI, 6, .inl a8))]) hF (c_X9_needs l D cI cJ cZ cS ta sa sv H.size h0 ys yk yo yt mk0 yfa yfe mL mS mM yro yhe ygr mF mC mY yta mz f8 t8 mv w8 ywa ybi ysi ynu ymo tp 0 (by omega) (by omega) (by omega) (by omega) (by omega)) kv_X9_278 ⟨rfl, rfl, Nat.le_of_ble_eq_true rfl, Nat.le_of_ble_eq_true rfl⟩ ⟨Nat.le_of_ble_eq_true rfl, Nat.le_of_ble_eq_true rfl⟩ hK hN hZ hP hD hS hA [2, 3] [0, 1] rfl rfl rfl rfl (by decide) 0 rfl rfl rfl rfl hl.1 rfl (Nat.le_of_ble_eq_true rfl) dX9_walkItem_120 (fun u_r_368 H locs hw_r_368 hP hD hS => ?_)
                  obtain ⟨f2_369, t2_370, w2_371⟩ := u_r_368
                  try dsimp only at hw_r_368
                  obtain ⟨i_372, i_373, i_374, i_375, i_376, i_377⟩ := hw_r_368
                  have hP : va_P D vwCl [(ys, .inl (cI, 449, .inl ms)), (ywa, .inl (cI, 6, .inl a8)), (h0, .inr (9, [.ref ys, .ref yk, .ref yo, .ref yt, .int mk0, .ref yfa, .ref yfe, .int mL, .int mS, .int mM, .ref yro, .ref yhe, .ref ygr, .int mF, .int mC, .int mY, .ref yta, .int (nI (mz)), .int (nI (f2_369)), .int (nI (t2_370)), .int mv, .int w2_371, .ref ywa, .ref ybi, .ref ysi, .ref ynu, .ref ymo])), (yta, .inl (cI, 120, .inl tp))] H := hP
                  have hD : va_D A [(ys, .inl (cI, 449, .inl ms)), (ywa, .inl (cI, 6, .inl a8)), (h0, .inr (9, [.ref ys, .ref yk, .ref yo, .ref yt, .int mk0, .ref yfa, .ref yfe, .int mL, .int mS, .int mM, .ref yro, .ref yhe, .ref ygr, .int mF, .int mC, .int mY, .ref yta, .int (nI (mz)), .int (nI (f2_369)), .int (nI (t2_370)), .int mv, .int w2_371, .ref ywa, .ref ybi, .ref ysi, .ref ynu, .ref ymo])), (yta, .inl (cI, 120, .inl tp))] := hD
                  refine lv_aload_n hx hb dX9_walkItem_123 rfl (lv_at hl 1 rfl) ?_
                  refine lv_sipush (v := (-9999)) hx hb dX9_walkItem_124 (by decide) ?_
                  refine lv_sipush (v := 9999) hx hb dX9_walkItem_127 (by decide) ?_
                  refine xc_Vv (wr := [(ys, .inl (cI, 449, .inl ms)), (ywa, .inl (cI, 6, .inl a8))]) hF (c_X9_mile l D cI cJ cZ cS ta sa sv H.size h0 ys yk yo yt mk0 yfa yfe mL mS mM yro yhe ygr mF mC mY yta mz f2_369 t2_370 mv w2_371 ywa ybi ysi ynu ymo tp (-9999) 9999 (by omega) (by omega) (by omega) (by omega) (by omega)) kv_X9_287 ⟨rfl, rfl, Nat.le_of_ble_eq_true rfl, Nat.le_of_ble_eq_true rfl⟩ ⟨Nat.le_of_ble_eq_true rfl, Nat.le_of_ble_eq_true rfl⟩ hK hN hZ hP hD hS hA [2, 3] [0, 1] rfl rfl rfl rfl (by decide) 0 rfl rfl rfl rfl hl.1 rfl (Nat.le_of_ble_eq_true rfl) dX9_walkItem_130 (fun u_r_378 H locs hw_r_378 hP hD hS => ?_)
                  obtain ⟨f2_379, t2_380, v2_381, w2_382⟩ := u_r_378
                  try dsimp only at hw_r_378
                  obtain ⟨i_383, i_384, i_385, i_386, i_387, i_388⟩ := hw_r_378
                  have hP : va_P D vwCl [(ys, .inl (cI, 449, .inl ms)), (ywa, .inl (cI, 6, .inl a8)), (h0, .inr (9, [.ref ys, .ref yk, .ref yo, .ref yt, .int mk0, .ref yfa, .ref yfe, .int mL, .int mS, .int mM, .ref yro, .ref yhe, .ref ygr, .int mF, .int mC, .int mY, .ref yta, .int (nI (mz)), .int (nI (f2_379)), .int (nI (t2_380)), .int v2_381, .int w2_382, .ref ywa, .ref ybi, .ref ysi, .ref ynu, .ref ymo])), (yta, .inl (cI, 120, .inl tp))] H := hP
                  have hD : va_D A [(ys, .inl (cI, 449, .inl ms)), (ywa, .inl (cI, 6, .inl a8)), (h0, .inr (9, [.ref ys, .ref yk, .ref yo, .ref yt, .int mk0, .ref yfa, .ref yfe, .int mL, .int mS, .int mM, .ref yro, .ref yhe, .ref ygr, .int mF, .int mC, .int mY, .ref yta, .int (nI (mz)), .int (nI (f2_379)), .int (nI (t2_380)), .int v2_381, .int w2_382, .ref ywa, .ref ybi, .ref ysi, .ref ynu, .ref ymo])), (yta, .inl (cI, 120, .inl tp))] := hD
                  refine lv_aload_n hx hb dX9_walkItem_133 rfl (lv_at hl 1 rfl) ?_
                  refine xg hF kf_X9_275 hK hP 2 rfl rfl dX9_walkItem_134 ?_
                  refine lv_istore_n (lv' := [(2, .int v2_381), (1, .int (nI (n8))), (0, .ref h0)]) hx hb dX9_walkItem_137 rfl hl (by decide) rfl (fun ls hl => ?_)
                  refine lv_iconst (v := 0) hx hb dX9_walkItem_138 (by decide) ?_
                  refine lv_istore_n (lv' := [(3, .int 0), (2, .int v2_381), (1, .int (nI (n8))), (0, .ref h0)]) hx hb dX9_walkItem_139 rfl hl (by decide) rfl (fun ls hl => ?_)
                  refine lv_aload_n hx hb dX9_walkItem_140 rfl (lv_at hl 3 rfl) ?_
                  refine lv_bipush (v := 115) hx hb dX9_walkItem_141 (by decide) ?_
                  refine lv_bipush (v := 108) hx hb dX9_walkItem_143 (by decide) ?_
                  refine lv_bipush (v := 97) hx hb dX9_walkItem_145 (by decide) ?_
                  refine lv_bipush (v := 99) hx hb dX9_walkItem_147 (by decide) ?_
                  refine lv_bipush (v := 107) hx hb dX9_walkItem_149 (by decide) ?_
                  refine lv_iconst (v := 0) hx hb dX9_walkItem_151 (by decide) ?_
                  refine lv_iconst (v := 0) hx hb dX9_walkItem_152 (by decide) ?_
                  refine xc_Vr hF (c_X9_isWord l D cI cJ cZ cS ta sa sv H.size h0 ys yk yo yt mk0 yfa yfe mL mS mM yro yhe ygr mF mC mY yta mz f2_379 t2_380 v2_381 w2_382 ywa ybi ysi ynu ymo tp 115 108 97 99 107 0 0 (by omega) (by omega)) kv_X9_290 ⟨rfl, rfl, Nat.le_of_ble_eq_true rfl, Nat.le_of_ble_eq_true rfl⟩ ⟨Nat.le_of_ble_eq_true rfl, Nat.le_of_ble_eq_true rfl⟩ hK hN hZ hP hD hS hA [2, 3] rfl rfl 0 rfl rfl rfl rfl hl.1 rfl (Nat.le_of_ble_eq_true rfl) dX9_walkItem_153 (fun r_389 hw_r_389 => ?_)
                  rcases hw_r_389 with rfl | rfl
                  · skip
                    refine lv_if_eq (tgt := 176) hx hb dX9_walkItem_156 (by decide) (fun c_390 => absurd c_390 (by decide)) (fun c_390 => ?_)
                    refine lv_aload_n hx hb dX9_walkItem_159 rfl (lv_at hl 3 rfl) ?_
                    refine lv_iconst (v := 1) hx hb dX9_walkItem_160 (by decide) ?_
                    refine xc_Vv (wr := [(ys, .inl (cI, 449, .inl ms)), (ywa, .inl (cI, 6, .inl a8))]) hF (c_X9_needs l D cI cJ cZ cS ta sa sv H.size h0 ys yk yo yt mk0 yfa yfe mL mS mM yro yhe ygr mF mC mY yta mz f2_379 t2_380 v2_381 w2_382 ywa ybi ysi ynu ymo tp 1 (by omega) (by omega) (by omega) (by omega) (by omega)) kv_X9_278 ⟨rfl, rfl, Nat.le_of_ble_eq_true rfl, Nat.le_of_ble_eq_true rfl⟩ ⟨Nat.le_of_ble_eq_true rfl, Nat.le_of_ble_eq_true rfl⟩ hK hN hZ hP hD hS hA [2, 3] [0, 1] rfl rfl rfl rfl (by decide) 0 rfl rfl rfl rfl hl.1 rfl (Nat.le_of_ble_eq_true rfl) dX9_walkItem_161 (fun u_r_391 H locs hw_r_391 hP hD hS => ?_)
                    obtain ⟨f2_392, t2_393, w2_394⟩ := u_r_391
                    try dsimp only at hw_r_391
                    obtain ⟨i_395, i_396, i_397, i_398, i_399, i_400⟩ := hw_r_391
                    have hP : va_P D vwCl [(ys, .inl (cI, 449, .inl ms)), (ywa, .inl (cI, 6, .inl a8)), (h0, .inr (9, [.ref ys, .ref yk, .ref yo, .ref yt, .int mk0, .ref yfa, .ref yfe, .int mL, .int mS, .int mM, .ref yro, .ref yhe, .ref ygr, .int mF, .int mC, .int mY, .ref yta, .int (nI (mz)), .int (nI (f2_392)), .int (nI (t2_393)), .int v2_381, .int w2_394, .ref ywa, .ref ybi, .ref ysi, .ref ynu, .ref ymo])), (yta, .inl (cI, 120, .inl tp))] H := hP
                    have hD : va_D A [(ys, .inl (cI, 449, .inl ms)), (ywa, .inl (cI, 6, .inl a8)), (h0, .inr (9, [.ref ys, .ref yk, .ref yo, .ref yt, .int mk0, .ref yfa, .ref yfe, .int mL, .int mS, .int mM, .ref yro, .ref yhe, .ref ygr, .int mF, .int mC, .int mY, .ref yta, .int (nI (mz)), .int (nI (f2_392)), .int (nI (t2_393)), .int v2_381, .int w2_394, .ref ywa, .ref ybi, .ref ysi, .ref ynu, .ref ymo])), (yta, .inl (cI, 120, .inl tp))] := hD
                    refine lv_aload_n hx hb dX9_walkItem_164 rfl (lv_at hl 3 rfl) ?_
                    refine lv_iconst (v := 0) hx hb dX9_walkItem_165 (by decide) ?_
                    refine lv_bipush (v := 99) hx hb dX9_walkItem_166 (by decide) ?_
                    refine xc_Vv (wr := [(ys, .inl (cI, 449, .inl ms)), (ywa, .inl (cI, 6, .inl a8))]) hF (c_X9_number l D cI cJ cZ cS ta sa sv H.size h0 ys yk yo yt mk0 yfa yfe mL mS mM yro yhe ygr mF mC mY yta mz f2_392 t2_393 v2_381 w2_394 ywa ybi ysi ynu ymo tp 0 99 (by omega) (by omega) (by omega) (by omega) (by omega)) kv_X9_282 ⟨rfl, rfl, Nat.le_of_ble_eq_true rfl, Nat.le_of_ble_eq_true rfl⟩ ⟨Nat.le_of_ble_eq_true rfl, Nat.le_of_ble_eq_true rfl⟩ hK hN hZ hP hD hS hA [2, 3] [0, 1] rfl rfl rfl rfl (by decide) 0 rfl rfl rfl rfl hl.1 rfl (Nat.le_of_ble_eq_true rfl) dX9_walkItem_168 (fun u_r_401 H locs hw_r_401 hP hD hS => ?_)
                    obtain ⟨f2_402, t2_403, v2_404, w2_405⟩ := u_r_401
                    try dsimp only at hw_r_401
                    obtain ⟨i_406, i_407, i_408, i_409, i_410, i_411⟩ := hw_r_401
                    have hP : va_P D vwCl [(ys, .inl (cI, 449, .inl ms)), (ywa, .inl (cI, 6, .inl a8)), (h0, .inr (9, [.ref ys, .ref yk, .ref yo, .ref yt, .int mk0, .ref yfa, .ref yfe, .int mL, .int mS, .int mM, .ref yro, .ref yhe, .ref ygr, .int mF, .int mC, .int mY, .ref yta, .int (nI (mz)), .int (nI (f2_402)), .int (nI (t2_403)), .int v2_404, .int w2_405, .ref ywa, .ref ybi, .ref ysi, .ref ynu, .ref ymo])), (yta, .inl (cI, 120, .inl tp))] H := hP
                    have hD : va_D A [(ys, .inl (cI, 449, .inl ms)), (ywa, .inl (cI, 6, .inl a8)), (h0, .inr (9, [.ref ys, .ref yk, .ref yo, .ref yt, .int mk0, .ref yfa, .ref yfe, .int mL, .int mS, .int mM, .ref yro, .ref yhe, .ref ygr, .int mF, .int mC, .int mY, .ref yta, .int (nI (mz)), .int (nI (f2_402)), .int (nI (t2_403)), .int v2_404, .int w2_405, .ref ywa, .ref ybi, .ref ysi, .ref ynu, .ref ymo])), (yta, .inl (cI, 120, .inl tp))] := hD
                    refine lv_aload_n hx hb dX9_walkItem_171 rfl (lv_at hl 3 rfl) ?_
                    refine xg hF kf_X9_275 hK hP 2 rfl rfl dX9_walkItem_172 ?_
                    refine lv_istore_n (lv' := [(3, .int v2_404), (2, .int v2_381), (1, .int (nI (n8))), (0, .ref h0)]) hx hb dX9_walkItem_175 rfl hl (by decide) rfl (fun ls hl => ?_)
                    refine lv_aload_n hx hb dX9_walkItem_176 rfl (lv_at hl 3 rfl) ?_
                    refine xg hF kf_X9_266 hK hP 2 rfl rfl dX9_walkItem_177 ?_
                    refine lv_if_ne (tgt := 252) hx hb dX9_walkItem_180 (by decide) (fun c_412 => ?_) (fun c_412 => absurd rfl (i_377 (i_388 (i_400 (i_411 c_412).1).1).1).2.1)
                    exact W.vret hx hb hr (fun t ht hW => ⟨⟨(f2_402, t2_403, v2_404, w2_405, ms, a8, Wn), rfl, ⟨(by first | assumption | omega), (by first | assumption | omega), (by first | assumption | omega), (by first | assumption | omega), (by first | assumption | omega), (fun h => ⟨(i_11 (hc8 (i_377 (i_388 (i_400 (i_411 h).1).1).1).1).1).1, trivial⟩), hs0, hs1, hs2, hsS, hsM, hsp, hsr, hsw, hsR⟩, by rw [ht]; exact hP.sub [2, 0, 3, 1] rfl, hD.sub [2, 0, 3, 1] (by decide) rfl⟩, hS.F ht⟩) hS.2.2 dX9_walkItem_252 hlk
                  · skip
                    refine lv_if_eq (tgt := 176) hx hb dX9_walkItem_156 (by decide) (fun c_413 => ?_) (fun c_413 => absurd (by decide) c_413)
                    refine lv_aload_n hx hb dX9_walkItem_176 rfl (lv_at hl 3 rfl) ?_
                    refine xg hF kf_X9_266 hK hP 2 rfl rfl dX9_walkItem_177 ?_
                    refine lv_if_ne (tgt := 252) hx hb dX9_walkItem_180 (by decide) (fun c_414 => ?_) (fun c_414 => absurd rfl (i_377 (i_388 c_414).1).2.1)
                    exact W.vret hx hb hr (fun t ht hW => ⟨⟨(f2_379, t2_380, v2_381, w2_382, ms, a8, Wn), rfl, ⟨(by first | assumption | omega), (by first | assumption | omega), (by first | assumption | omega), (by first | assumption | omega), (by first | assumption | omega), (fun h => ⟨(i_11 (hc8 (i_377 (i_388 h).1).1).1).1, trivial⟩), hs0, hs1, hs2, hsS, hsM, hsp, hsr, hsw, hsR⟩, by rw [ht]; exact hP.sub [2, 0, 3, 1] rfl, hD.sub [2, 0, 3, 1] (by decide) rfl⟩, hS.F ht⟩) hS.2.2 dX9_walkItem_252 hlk
            · skip
              refine xc_Sr hF (c_X9_isDigit l D cI cJ cZ cS ta sa sv H.size (-1) ) ks_X9_263 ⟨rfl, rfl, Nat.le_of_ble_eq_true rfl, Nat.le_of_ble_eq_true rfl⟩ ⟨Nat.le_of_ble_eq_true rfl, Nat.le_of_ble_eq_true rfl⟩ hK hN hZ hP hD hS hA [] rfl rfl rfl hl.1 rfl (Nat.le_of_ble_eq_true rfl) dX9_walkItem_48 (fun r_415 hw_r_415 => ?_)
              rcases hw_r_415 with ⟨rfl, h_416, h_417⟩ | ⟨rfl, h_418⟩
              · skip
                refine lv_if_eq (tgt := 105) hx hb dX9_walkItem_51 (by decide) (fun c_419 => absurd c_419 (by decide)) (fun c_419 => ?_)
                refine lv_aload_n hx hb dX9_walkItem_54 rfl (lv_at hl 1 rfl) ?_
                refine xc_Vr hF (c_X9_numberHere l D cI cJ cZ cS ta sa sv H.size h0 ys yk yo yt mk0 yfa yfe mL mS mM yro yhe ygr mF mC mY yta mz f8 t8 mv w8 ywa ybi ysi ynu ymo tp (by omega) (by omega) (by omega) (by omega) (by omega)) kv_X9_284 ⟨rfl, rfl, Nat.le_of_ble_eq_true rfl, Nat.le_of_ble_eq_true rfl⟩ ⟨Nat.le_of_ble_eq_true rfl, Nat.le_of_ble_eq_true rfl⟩ hK hN hZ hP hD hS hA [2, 3] rfl rfl 0 rfl rfl rfl rfl hl.1 rfl (Nat.le_of_ble_eq_true rfl) dX9_walkItem_55 (fun r_420 hw_r_420 => ?_)
                refine lv_istore_n (lv' := [(2, .int r_420), (1, .int (nI (n8))), (0, .ref h0)]) hx hb dX9_walkItem_58 rfl hl (by decide) rfl (fun ls hl => ?_)
                refine lv_aload_n hx hb dX9_walkItem_59 rfl (lv_at hl 2 rfl) ?_
                refine lv_aload_n hx hb dX9_walkItem_60 rfl (lv_at hl 2 rfl) ?_
                refine lv_iload_n hx hb dX9_walkItem_61 rfl (lv_at hl 0 rfl) ?_
                refine xc_Vr hF (c_X9_isPlace l D cI cJ cZ cS ta sa sv H.size h0 ys yk yo yt mk0 yfa yfe mL mS mM yro yhe ygr mF mC mY yta mz f8 t8 mv w8 ywa ybi ysi ynu ymo ms P Rn Wn r_420 hs0 hs1 hs2 hsS hsM hsp hsr hsw hsR) kv_X9_61 ⟨rfl, rfl, Nat.le_of_ble_eq_true rfl, Nat.le_of_ble_eq_true rfl⟩ ⟨Nat.le_of_ble_eq_true rfl, Nat.le_of_ble_eq_true rfl⟩ hK hN hZ hP hD hS hA [2, 0] rfl rfl 0 rfl rfl rfl rfl hl.1 rfl (Nat.le_of_ble_eq_true rfl) dX9_walkItem_62 (fun r_421 hw_r_421 => ?_)
                rcases hw_r_421 with ⟨k_422, rfl, rfl, h_424⟩ | rfl
                · skip
                  refine lv_if_eq (tgt := 88) hx hb dX9_walkItem_65 (by decide) (fun c_425 => absurd c_425 (by decide)) (fun c_425 => ?_)
                  refine lv_iload_n hx hb dX9_walkItem_68 rfl (lv_at hl 1 rfl) ?_
                  refine lv_if_eq (tgt := 84) hx hb dX9_walkItem_69 (by decide) (fun c_426 => ?_) (fun c_426 => ?_)
                  · skip
                    have nc_426 : n8 = 0 := xn_eq (a := n8) (b := 0) (by omega) (by omega) c_426
                    refine lv_iconst (v := 1) hx hb dX9_walkItem_84 (by decide) ?_
                    refine lv_goto (tgt := 89) hx hb dX9_walkItem_85 (by decide) ?_
                    refine xc_Vv (wr := [(ys, .inl (cI, 449, .inl ms)), (ywa, .inl (cI, 6, .inl a8))]) hF (c_X9_needs l D cI cJ cZ cS ta sa sv H.size h0 ys yk yo yt mk0 yfa yfe mL mS mM yro yhe ygr mF mC mY yta mz f8 t8 mv w8 ywa ybi ysi ynu ymo tp 1 (by omega) (by omega) (by omega) (by omega) (by omega)) kv_X9_278 ⟨rfl, rfl, Nat.le_of_ble_eq_true rfl, Nat.le_of_ble_eq_true rfl⟩ ⟨Nat.le_of_ble_eq_true rfl, Nat.le_of_ble_eq_true rfl⟩ hK hN hZ hP hD hS hA [2, 3] [0, 1] rfl rfl rfl rfl (by decide) 0 rfl rfl rfl rfl hl.1 rfl (Nat.le_of_ble_eq_true rfl) dX9_walkItem_89 (fun u_r_427 H locs hw_r_427 hP hD hS => ?_)
                    obtain ⟨f2_428, t2_429, w2_430⟩ := u_r_427
                    try dsimp only at hw_r_427
                    obtain ⟨i_431, i_432, i_433, i_434, i_435, i_436⟩ := hw_r_427
                    have hP : va_P D vwCl [(ys, .inl (cI, 449, .inl ms)), (ywa, .inl (cI, 6, .inl a8)), (h0, .inr (9, [.ref ys, .ref yk, .ref yo, .ref yt, .int mk0, .ref yfa, .ref yfe, .int mL, .int mS, .int mM, .ref yro, .ref yhe, .ref ygr, .int mF, .int mC, .int mY, .ref yta, .int (nI (mz)), .int (nI (f2_428)), .int (nI (t2_429)), .int mv, .int w2_430, .ref ywa, .ref ybi, .ref ysi, .ref ynu, .ref ymo])), (yta, .inl (cI, 120, .inl tp))] H := hP
                    have hD : va_D A [(ys, .inl (cI, 449, .inl ms)), (ywa, .inl (cI, 6, .inl a8)), (h0, .inr (9, [.ref ys, .ref yk, .ref yo, .ref yt, .int mk0, .ref yfa, .ref yfe, .int mL, .int mS, .int mM, .ref yro, .ref yhe, .ref ygr, .int mF, .int mC, .int mY, .ref yta, .int (nI (mz)), .int (nI (f2_428)), .int (nI (t2_429)), .int mv, .int w2_430, .ref ywa, .ref ybi, .ref ysi, .ref ynu, .ref ymo])), (yta, .inl (cI, 120, .inl tp))] := hD
                    refine lv_aload_n hx hb dX9_walkItem_92 rfl (lv_at hl 2 rfl) ?_
                    refine xg hF kf_X9_40 hK hP 2 rfl rfl dX9_walkItem_93 ?_
                    refine lv_iload_n hx hb dX9_walkItem_96 rfl (lv_at hl 1 rfl) ?_
                    refine lv_iload_n hx hb dX9_walkItem_97 rfl (lv_at hl 0 rfl) ?_
                    refine va_iast hx hb hK hP hD hS 1 0 rfl rfl (vp_in_nI (show n8 < 6 by omega) (by decide)) dX9_walkItem_98 (fun H locs hP hD hS => ?_)
                    rw [nI_clamp (show n8 < 2 ^ 31 by omega)] at hP hD
                    obtain ⟨f_437, ef_437⟩ : ∃ g, g = upd a8 n8 (nI (k_422)) := ⟨_, rfl⟩
                    rw [← ef_437] at hP hD
                    have hP : va_P D vwCl [(ys, .inl (cI, 449, .inl ms)), (ywa, .inl (cI, 6, .inl f_437)), (h0, .inr (9, [.ref ys, .ref yk, .ref yo, .ref yt, .int mk0, .ref yfa, .ref yfe, .int mL, .int mS, .int mM, .ref yro, .ref yhe, .ref ygr, .int mF, .int mC, .int mY, .ref yta, .int (nI (mz)), .int (nI (f2_428)), .int (nI (t2_429)), .int mv, .int w2_430, .ref ywa, .ref ybi, .ref ysi, .ref ynu, .ref ymo])), (yta, .inl (cI, 120, .inl tp))] H := hP
                    have hD : va_D A [(ys, .inl (cI, 449, .inl ms)), (ywa, .inl (cI, 6, .inl f_437)), (h0, .inr (9, [.ref ys, .ref yk, .ref yo, .ref yt, .int mk0, .ref yfa, .ref yfe, .int mL, .int mS, .int mM, .ref yro, .ref yhe, .ref ygr, .int mF, .int mC, .int mY, .ref yta, .int (nI (mz)), .int (nI (f2_428)), .int (nI (t2_429)), .int mv, .int w2_430, .ref ywa, .ref ybi, .ref ysi, .ref ynu, .ref ymo])), (yta, .inl (cI, 120, .inl tp))] := hD
                    refine lv_iinc (v := nI (n8 + 1)) (lv' := [(1, .int (nI (n8 + 1))), (2, .int (nI (k_422))), (0, .ref h0)]) hx hb dX9_walkItem_99 hl (k := 1) rfl (nI_1 (n8)) (by decide) rfl (fun ls hl => ?_)
                    refine lv_goto (tgt := 22) hx hb dX9_walkItem_102 (by decide) ?_
                    exact ih_22 (n8 + 1) f2_428 t2_429 w2_430 f_437 _ _ _ (by omega) (by omega) (by omega) (by omega) (by omega) (by omega) (by omega) (fun h => ⟨(hc8 (i_436 h).1).1, trivial⟩) (wk_A.put hA8 c_12 (show k_422 < 10 by omega) ef_437) (hP.sub [0, 1, 2, 3] rfl) (hD.sub [0, 1, 2, 3] (by decide) rfl) hS (lv_sub hl [0, 2] rfl)
                  · skip
                    have nc_426 : n8 ≠ 0 := xn_ne (a := n8) (b := 0) (by omega) (by omega) c_426
                    refine lv_iload_n hx hb dX9_walkItem_72 rfl (lv_at hl 0 rfl) ?_
                    refine lv_aload_n hx hb dX9_walkItem_73 rfl (lv_at hl 2 rfl) ?_
                    refine xg hF kf_X9_40 hK hP 2 rfl rfl dX9_walkItem_74 ?_
                    refine lv_iload_n hx hb dX9_walkItem_77 rfl (lv_at hl 1 rfl) ?_
                    refine lv_iconst (v := 1) hx hb dX9_walkItem_78 (by decide) ?_
                    refine lv_isub hx hb dX9_walkItem_79 ?_
                    refine xl_i (y := nI (n8 - 1)) (pk_sub (show 1 ≤ n8 by omega)) ?_
                    refine va_iald hx hb hK hP 1 0 rfl rfl (vp_in_nI (show n8 - 1 < 6 by omega) (by decide)) dX9_walkItem_80 ?_
                    refine xl_i (y := a8 (n8 - 1)) (congrArg a8 (nI_clamp (show n8 - 1 < 2 ^ 31 by omega))) ?_
                    refine lv_icmp_eq (tgt := 88) hx hb dX9_walkItem_81 (by decide) (fun c_438 => ?_) (fun c_438 => ?_)
                    · skip
                      refine lv_iconst (v := 0) hx hb dX9_walkItem_88 (by decide) ?_
                      refine xc_Vv (wr := [(ys, .inl (cI, 449, .inl ms)), (ywa, .inl (cI, 6, .inl a8))]) hF (c_X9_needs l D cI cJ cZ cS ta sa sv H.size h0 ys yk yo yt mk0 yfa yfe mL mS mM yro yhe ygr mF mC mY yta mz f8 t8 mv w8 ywa ybi ysi ynu ymo tp 0 (by omega) (by omega) (by omega) (by omega) (by omega)) kv_X9_278 ⟨rfl, rfl, Nat.le_of_ble_eq_true rfl, Nat.le_of_ble_eq_true rfl⟩ ⟨Nat.le_of_ble_eq_true rfl, Nat.le_of_ble_eq_true rfl⟩ hK hN hZ hP hD hS hA [2, 3] [0, 1] rfl rfl rfl rfl (by decide) 0 rfl rfl rfl rfl hl.1 rfl (Nat.le_of_ble_eq_true rfl) dX9_walkItem_89 (fun u_r_439 H locs hw_r_439 hP hD hS => ?_)
                      obtain ⟨f2_440, t2_441, w2_442⟩ := u_r_439
                      try dsimp only at hw_r_439
                      obtain ⟨i_443, i_444, i_445, i_446, i_447, i_448⟩ := hw_r_439
                      have hP : va_P D vwCl [(ys, .inl (cI, 449, .inl ms)), (ywa, .inl (cI, 6, .inl a8)), (h0, .inr (9, [.ref ys, .ref yk, .ref yo, .ref yt, .int mk0, .ref yfa, .ref yfe, .int mL, .int mS, .int mM, .ref yro, .ref yhe, .ref ygr, .int mF, .int mC, .int mY, .ref yta, .int (nI (mz)), .int (nI (f2_440)), .int (nI (t2_441)), .int mv, .int w2_442, .ref ywa, .ref ybi, .ref ysi, .ref ynu, .ref ymo])), (yta, .inl (cI, 120, .inl tp))] H := hP
                      have hD : va_D A [(ys, .inl (cI, 449, .inl ms)), (ywa, .inl (cI, 6, .inl a8)), (h0, .inr (9, [.ref ys, .ref yk, .ref yo, .ref yt, .int mk0, .ref yfa, .ref yfe, .int mL, .int mS, .int mM, .ref yro, .ref yhe, .ref ygr, .int mF, .int mC, .int mY, .ref yta, .int (nI (mz)), .int (nI (f2_440)), .int (nI (t2_441)), .int mv, .int w2_442, .ref ywa, .ref ybi, .ref ysi, .ref ynu, .ref ymo])), (yta, .inl (cI, 120, .inl tp))] := hD
                      refine lv_aload_n hx hb dX9_walkItem_92 rfl (lv_at hl 2 rfl) ?_
                      refine xg hF kf_X9_40 hK hP 2 rfl rfl dX9_walkItem_93 ?_
                      refine lv_iload_n hx hb dX9_walkItem_96 rfl (lv_at hl 1 rfl) ?_
                      refine lv_iload_n hx hb dX9_walkItem_97 rfl (lv_at hl 0 rfl) ?_
                      refine va_iast hx hb hK hP hD hS 1 0 rfl rfl (vp_in_nI (show n8 < 6 by omega) (by decide)) dX9_walkItem_98 (fun H locs hP hD hS => ?_)
                      rw [nI_clamp (show n8 < 2 ^ 31 by omega)] at hP hD
                      obtain ⟨f_449, ef_449⟩ : ∃ g, g = upd a8 n8 (nI (k_422)) := ⟨_, rfl⟩
                      rw [← ef_449] at hP hD
                      have hP : va_P D vwCl [(ys, .inl (cI, 449, .inl ms)), (ywa, .inl (cI, 6, .inl f_449)), (h0, .inr (9, [.ref ys, .ref yk, .ref yo, .ref yt, .int mk0, .ref yfa, .ref yfe, .int mL, .int mS, .int mM, .ref yro, .ref yhe, .ref ygr, .int mF, .int mC, .int mY, .ref yta, .int (nI (mz)), .int (nI (f2_440)), .int (nI (t2_441)), .int mv, .int w2_442, .ref ywa, .ref ybi, .ref ysi, .ref ynu, .ref ymo])), (yta, .inl (cI, 120, .inl tp))] H := hP
                      have hD : va_D A [(ys, .inl (cI, 449, .inl ms)), (ywa, .inl (cI, 6, .inl f_449)), (h0, .inr (9, [.ref ys, .ref yk, .ref yo, .ref yt, .int mk0, .ref yfa, .ref yfe, .int mL, .int mS, .int mM, .ref yro, .ref yhe, .ref ygr, .int mF, .int mC, .int mY, .ref yta, .int (nI (mz)), .int (nI (f2_440)), .int (nI (t2_441)), .int mv, .int w2_442, .ref ywa, .ref ybi, .ref ysi, .ref ynu, .ref ymo])), (yta, .inl (cI, 120, .inl tp))] := hD
                      refine lv_iinc (v := nI (n8 + 1)) (lv' := [(1, .int (nI (n8 + 1))), (2, .int (nI (k_422))), (0, .ref h0)]) hx hb dX9_walkItem_99 hl (k := 1) rfl (nI_1 (n8)) (by decide) rfl (fun ls hl => ?_)
                      refine lv_goto (tgt := 22) hx hb dX9_walkItem_102 (by decide) ?_
                      exact ih_22 (n8 + 1) f2_440 t2_441 w2_442 f_449 _ _ _ (by omega) (by omega) (by omega) (by omega) (by omega) (by omega) (by omega) (fun h => ⟨(hc8 (i_448 h).1).1, trivial⟩) (wk_A.no (fun h => absurd rfl (i_448 h).2.1)) (hP.sub [0, 1, 2, 3] rfl) (hD.sub [0, 1, 2, 3] (by decide) rfl) hS (lv_sub hl [0, 2] rfl)
                    · skip
                      refine lv_iconst (v := 1) hx hb dX9_walkItem_84 (by decide) ?_
                      refine lv_goto (tgt := 89) hx hb dX9_walkItem_85 (by decide) ?_
                      refine xc_Vv (wr := [(ys, .inl (cI, 449, .inl ms)), (ywa, .inl (cI, 6, .inl a8))]) hF (c_X9_needs l D cI cJ cZ cS ta sa sv H.size h0 ys yk yo yt mk0 yfa yfe mL mS mM yro yhe ygr mF mC mY yta mz f8 t8 mv w8 ywa ybi ysi ynu ymo tp 1 (by omega) (by omega) (by omega) (by omega) (by omega)) kv_X9_278 ⟨rfl, rfl, Nat.le_of_ble_eq_true rfl, Nat.le_of_ble_eq_true rfl⟩ ⟨Nat.le_of_ble_eq_true rfl, Nat.le_of_ble_eq_true rfl⟩ hK hN hZ hP hD hS hA [2, 3] [0, 1] rfl rfl rfl rfl (by decide) 0 rfl rfl rfl rfl hl.1 rfl (Nat.le_of_ble_eq_true rfl) dX9_walkItem_89 (fun u_r_450 H locs hw_r_450 hP hD hS => ?_)
                      obtain ⟨f2_451, t2_452, w2_453⟩ := u_r_450
                      try dsimp only at hw_r_450
                      obtain ⟨i_454, i_455, i_456, i_457, i_458, i_459⟩ := hw_r_450
                      have hP : va_P D vwCl [(ys, .inl (cI, 449, .inl ms)), (ywa, .inl (cI, 6, .inl a8)), (h0, .inr (9, [.ref ys, .ref yk, .ref yo, .ref yt, .int mk0, .ref yfa, .ref yfe, .int mL, .int mS, .int mM, .ref yro, .ref yhe, .ref ygr, .int mF, .int mC, .int mY, .ref yta, .int (nI (mz)), .int (nI (f2_451)), .int (nI (t2_452)), .int mv, .int w2_453, .ref ywa, .ref ybi, .ref ysi, .ref ynu, .ref ymo])), (yta, .inl (cI, 120, .inl tp))] H := hP
                      have hD : va_D A [(ys, .inl (cI, 449, .inl ms)), (ywa, .inl (cI, 6, .inl a8)), (h0, .inr (9, [.ref ys, .ref yk, .ref yo, .ref yt, .int mk0, .ref yfa, .ref yfe, .int mL, .int mS, .int mM, .ref yro, .ref yhe, .ref ygr, .int mF, .int mC, .int mY, .ref yta, .int (nI (mz)), .int (nI (f2_451)), .int (nI (t2_452)), .int mv, .int w2_453, .ref ywa, .ref ybi, .ref ysi, .ref ynu, .ref ymo])), (yta, .inl (cI, 120, .inl tp))] := hD
                      refine lv_aload_n hx hb dX9_walkItem_92 rfl (lv_at hl 2 rfl) ?_
                      refine xg hF kf_X9_40 hK hP 2 rfl rfl dX9_walkItem_93 ?_
                      refine lv_iload_n hx hb dX9_walkItem_96 rfl (lv_at hl 1 rfl) ?_
                      refine lv_iload_n hx hb dX9_walkItem_97 rfl (lv_at hl 0 rfl) ?_
                      refine va_iast hx hb hK hP hD hS 1 0 rfl rfl (vp_in_nI (show n8 < 6 by omega) (by decide)) dX9_walkItem_98 (fun H locs hP hD hS => ?_)
                      rw [nI_clamp (show n8 < 2 ^ 31 by omega)] at hP hD
                      obtain ⟨f_460, ef_460⟩ : ∃ g, g = upd a8 n8 (nI (k_422)) := ⟨_, rfl⟩
                      rw [← ef_460] at hP hD
                      have hP : va_P D vwCl [(ys, .inl (cI, 449, .inl ms)), (ywa, .inl (cI, 6, .inl f_460)), (h0, .inr (9, [.ref ys, .ref yk, .ref yo, .ref yt, .int mk0, .ref yfa, .ref yfe, .int mL, .int mS, .int mM, .ref yro, .ref yhe, .ref ygr, .int mF, .int mC, .int mY, .ref yta, .int (nI (mz)), .int (nI (f2_451)), .int (nI (t2_452)), .int mv, .int w2_453, .ref ywa, .ref ybi, .ref ysi, .ref ynu, .ref ymo])), (yta, .inl (cI, 120, .inl tp))] H := hP
                      have hD : va_D A [(ys, .inl (cI, 449, .inl ms)), (ywa, .inl (cI, 6, .inl f_460)), (h0, .inr (9, [.ref ys, .ref yk, .ref yo, .ref yt, .int mk0, .ref yfa, .ref yfe, .int mL, .int mS, .int mM, .ref yro, .ref yhe, .ref ygr, .int mF, .int mC, .int mY, .ref yta, .int (nI (mz)), .int (nI (f2_451)), .int (nI (t2_452)), .int mv, .int w2_453, .ref ywa, .ref ybi, .ref ysi, .ref ynu, .ref ymo])), (yta, .inl (cI, 120, .inl tp))] := hD
                      refine lv_iinc (v := nI (n8 + 1)) (lv' := [(1, .int (nI (n8 + 1))), (2, .int (nI (k_422))), (0, .ref h0)]) hx hb dX9_walkItem_99 hl (k := 1) rfl (nI_1 (n8)) (by decide) rfl (fun ls hl => ?_)
                      refine lv_goto (tgt := 22) hx hb dX9_walkItem_102 (by decide) ?_
                      exact ih_22 (n8 + 1) f2_451 t2_452 w2_453 f_460 _ _ _ (by omega) (by omega) (by omega) (by omega) (by omega) (by omega) (by omega) (fun h => ⟨(hc8 (i_459 h).1).1, trivial⟩) (wk_A.put hA8 c_12 (show k_422 < 10 by omega) ef_460) (hP.sub [0, 1, 2, 3] rfl) (hD.sub [0, 1, 2, 3] (by decide) rfl) hS (lv_sub hl [0, 2] rfl)
                · skip
                  refine lv_if_eq (tgt := 88) hx hb dX9_walkItem_65 (by decide) (fun c_461 => ?_) (fun c_461 => absurd (by decide) c_461)
                  refine lv_iconst (v := 0) hx hb dX9_walkItem_88 (by decide) ?_
                  refine xc_Vv (wr := [(ys, .inl (cI, 449, .inl ms)), (ywa, .inl (cI, 6, .inl a8))]) hF (c_X9_needs l D cI cJ cZ cS ta sa sv H.size h0 ys yk yo yt mk0 yfa yfe mL mS mM yro yhe ygr mF mC mY yta mz f8 t8 mv w8 ywa ybi ysi ynu ymo tp 0 (by omega) (by omega) (by omega) (by omega) (by omega)) kv_X9_278 ⟨rfl, rfl, Nat.le_of_ble_eq_true rfl, Nat.le_of_ble_eq_true rfl⟩ ⟨Nat.le_of_ble_eq_true rfl, Nat.le_of_ble_eq_true rfl⟩ hK hN hZ hP hD hS hA [2, 3] [0, 1] rfl rfl rfl rfl (by decide) 0 rfl rfl rfl rfl hl.1 rfl (Nat.le_of_ble_eq_true rfl) dX9_walkItem_89 (fun u_r_462 H locs hw_r_462 hP hD hS => ?_)
                  obtain ⟨f2_463, t2_464, w2_465⟩ := u_r_462
                  try dsimp only at hw_r_462
                  obtain ⟨i_466, i_467, i_468, i_469, i_470, i_471⟩ := hw_r_462
                  have hP : va_P D vwCl [(ys, .inl (cI, 449, .inl ms)), (ywa, .inl (cI, 6, .inl a8)), (h0, .inr (9, [.ref ys, .ref yk, .ref yo, .ref yt, .int mk0, .ref yfa, .ref yfe, .int mL, .int mS, .int mM, .ref yro, .ref yhe, .ref ygr, .int mF, .int mC, .int mY, .ref yta, .int (nI (mz)), .int (nI (f2_463)), .int (nI (t2_464)), .int mv, .int w2_465, .ref ywa, .ref ybi, .ref ysi, .ref ynu, .ref ymo])), (yta, .inl (cI, 120, .inl tp))] H := hP
                  have hD : va_D A [(ys, .inl (cI, 449, .inl ms)), (ywa, .inl (cI, 6, .inl a8)), (h0, .inr (9, [.ref ys, .ref yk, .ref yo, .ref yt, .int mk0, .ref yfa, .ref yfe, .int mL, .int mS, .int mM, .ref yro, .ref yhe, .ref ygr, .int mF, .int mC, .int mY, .ref yta, .int (nI (mz)), .int (nI (f2_463)), .int (nI (t2_464)), .int mv, .int w2_465, .ref ywa, .ref ybi, .ref ysi, .ref ynu, .ref ymo])), (yta, .inl (cI, 120, .inl tp))] := hD
                  refine lv_aload_n hx hb dX9_walkItem_92 rfl (lv_at hl 2 rfl) ?_
                  refine xg hF kf_X9_40 hK hP 2 rfl rfl dX9_walkItem_93 ?_
                  refine lv_iload_n hx hb dX9_walkItem_96 rfl (lv_at hl 1 rfl) ?_
                  refine lv_iload_n hx hb dX9_walkItem_97 rfl (lv_at hl 0 rfl) ?_
                  refine va_iast hx hb hK hP hD hS 1 0 rfl rfl (vp_in_nI (show n8 < 6 by omega) (by decide)) dX9_walkItem_98 (fun H locs hP hD hS => ?_)
                  rw [nI_clamp (show n8 < 2 ^ 31 by omega)] at hP hD
                  obtain ⟨f_472, ef_472⟩ : ∃ g, g = upd a8 n8 r_420 := ⟨_, rfl⟩
                  rw [← ef_472] at hP hD
                  have hP : va_P D vwCl [(ys, .inl (cI, 449, .inl ms)), (ywa, .inl (cI, 6, .inl f_472)), (h0, .inr (9, [.ref ys, .ref yk, .ref yo, .ref yt, .int mk0, .ref yfa, .ref yfe, .int mL, .int mS, .int mM, .ref yro, .ref yhe, .ref ygr, .int mF, .int mC, .int mY, .ref yta, .int (nI (mz)), .int (nI (f2_463)), .int (nI (t2_464)), .int mv, .int w2_465, .ref ywa, .ref ybi, .ref ysi, .ref ynu, .ref ymo])), (yta, .inl (cI, 120, .inl tp))] H := hP
                  have hD : va_D A [(ys, .inl (cI, 449, .inl ms)), (ywa, .inl (cI, 6, .inl f_472)), (h0, .inr (9, [.ref ys, .ref yk, .ref yo, .ref yt, .int mk0, .ref yfa, .ref yfe, .int mL, .int mS, .int mM, .ref yro, .ref yhe, .ref ygr, .int mF, .int mC, .int mY, .ref yta, .int (nI (mz)), .int (nI (f2_463)), .int (nI (t2_464)), .int mv, .int w2_465, .ref ywa, .ref ybi, .ref ysi, .ref ynu, .ref ymo])), (yta, .inl (cI, 120, .inl tp))] := hD
                  refine lv_iinc (v := nI (n8 + 1)) (lv' := [(1, .int (nI (n8 + 1))), (2, .int r_420), (0, .ref h0)]) hx hb dX9_walkItem_99 hl (k := 1) rfl (nI_1 (n8)) (by decide) rfl (fun ls hl => ?_)
                  refine lv_goto (tgt := 22) hx hb dX9_walkItem_102 (by decide) ?_
                  exact ih_22 (n8 + 1) f2_463 t2_464 w2_465 f_472 _ _ _ (by omega) (by omega) (by omega) (by omega) (by omega) (by omega) (by omega) (fun h => ⟨(hc8 (i_471 h).1).1, trivial⟩) (wk_A.no (fun h => absurd rfl (i_471 h).2.1)) (hP.sub [0, 1, 2, 3] rfl) (hD.sub [0, 1, 2, 3] (by decide) rfl) hS (lv_sub hl [0, 2] rfl)
              · skip
                refine lv_if_eq (tgt := 105) hx hb dX9_walkItem_51 (by decide) (fun c_473 => ?_) (fun c_473 => absurd (by decide) c_473)
                refine lv_aload_n hx hb dX9_walkItem_105 rfl (lv_at hl 1 rfl) ?_
                refine lv_aload_n hx hb dX9_walkItem_106 rfl (lv_at hl 1 rfl) ?_
                refine lv_bipush (v := 97) hx hb dX9_walkItem_107 (by decide) ?_
                refine lv_bipush (v := 108) hx hb dX9_walkItem_109 (by decide) ?_
                refine lv_bipush (v := 108) hx hb dX9_walkItem_111 (by decide) ?_
                refine lv_iconst (v := 0) hx hb dX9_walkItem_113 (by decide) ?_
                refine lv_iconst (v := 0) hx hb dX9_walkItem_114 (by decide) ?_
                refine lv_iconst (v := 0) hx hb dX9_walkItem_115 (by decide) ?_
                refine lv_iconst (v := 0) hx hb dX9_walkItem_116 (by decide) ?_
                refine xc_Vr hF (c_X9_isWord l D cI cJ cZ cS ta sa sv H.size h0 ys yk yo yt mk0 yfa yfe mL mS mM yro yhe ygr mF mC mY yta mz f8 t8 mv w8 ywa ybi ysi ynu ymo tp 97 108 108 0 0 0 0 (by omega) (by omega)) kv_X9_290 ⟨rfl, rfl, Nat.le_of_ble_eq_true rfl, Nat.le_of_ble_eq_true rfl⟩ ⟨Nat.le_of_ble_eq_true rfl, Nat.le_of_ble_eq_true rfl⟩ hK hN hZ hP hD hS hA [2, 3] rfl rfl 0 rfl rfl rfl rfl hl.1 rfl (Nat.le_of_ble_eq_true rfl) dX9_walkItem_117 (fun r_474 hw_r_474 => ?_)
                rcases hw_r_474 with rfl | rfl
                · skip
                  refine xc_Vv (wr := [(ys, .inl (cI, 449, .inl ms)), (ywa, .inl (cI, 6, .inl a8))]) hF (c_X9_needs l D cI cJ cZ cS ta sa sv H.size h0 ys yk yo yt mk0 yfa yfe mL mS mM yro yhe ygr mF mC mY yta mz f8 t8 mv w8 ywa ybi ysi ynu ymo tp 1 (by omega) (by omega) (by omega) (by omega) (by omega)) kv_X9_278 ⟨rfl, rfl, Nat.le_of_ble_eq_true rfl, Nat.le_of_ble_eq_true rfl⟩ ⟨Nat.le_of_ble_eq_true rfl, Nat.le_of_ble_eq_true rfl⟩ hK hN hZ hP hD hS hA [2, 3] [0, 1] rfl rfl rfl rfl (by decide) 0 rfl rfl rfl rfl hl.1 rfl (Nat.le_of_ble_eq_true rfl) dX9_walkItem_120 (fun u_r_475 H locs hw_r_475 hP hD hS => ?_)
                  obtain ⟨f2_476, t2_477, w2_478⟩ := u_r_475
                  try dsimp only at hw_r_475
                  obtain ⟨i_479, i_480, i_481, i_482, i_483, i_484⟩ := hw_r_475
                  have hP : va_P D vwCl [(ys, .inl (cI, 449, .inl ms)), (ywa, .inl (cI, 6, .inl a8)), (h0, .inr (9, [.ref ys, .ref yk, .ref yo, .ref yt, .int mk0, .ref yfa, .ref yfe, .int mL, .int mS, .int mM, .ref yro, .ref yhe, .ref ygr, .int mF, .int mC, .int mY, .ref yta, .int (nI (mz)), .int (nI (f2_476)), .int (nI (t2_477)), .int mv, .int w2_478, .ref ywa, .ref ybi, .ref ysi, .ref ynu, .ref ymo])), (yta, .inl (cI, 120, .inl tp))] H := hP
                  have hD : va_D A [(ys, .inl (cI, 449, .inl ms)), (ywa, .inl (cI, 6, .inl a8)), (h0, .inr (9, [.ref ys, .ref yk, .ref yo, .ref yt, .int mk0, .ref yfa, .ref yfe, .int mL, .int mS, .int mM, .ref yro, .ref yhe, .ref ygr, .int mF, .int mC, .int mY, .ref yta, .int (nI (mz)), .int (nI (f2_476)), .int (nI (t2_477)), .int mv, .int w2_478, .ref ywa, .ref ybi, .ref ysi, .ref ynu, .ref ymo])), (yta, .inl (cI, 120, .inl tp))] := hD
                  refine lv_aload_n hx hb dX9_walkItem_123 rfl (lv_at hl 1 rfl) ?_
                  refine lv_sipush (v := (-9999)) hx hb dX9_walkItem_124 (by decide) ?_
                  refine lv_sipush (v := 9999) hx hb dX9_walkItem_127 (by decide) ?_
                  refine xc_Vv (wr := [(ys, .inl (cI, 449, .inl ms)), (ywa, .inl (cI, 6, .inl a8))]) hF (c_X9_mile l D cI cJ cZ cS ta sa sv H.size h0 ys yk yo yt mk0 yfa yfe mL mS mM yro yhe ygr mF mC mY yta mz f2_476 t2_477 mv w2_478 ywa ybi ysi ynu ymo tp (-9999) 9999 (by omega) (by omega) (by omega) (by omega) (by omega)) kv_X9_287 ⟨rfl, rfl, Nat.le_of_ble_eq_true rfl, Nat.le_of_ble_eq_true rfl⟩ ⟨Nat.le_of_ble_eq_true rfl, Nat.le_of_ble_eq_true rfl⟩ hK hN hZ hP hD hS hA [2, 3] [0, 1] rfl rfl rfl rfl (by decide) 0 rfl rfl rfl rfl hl.1 rfl (Nat.le_of_ble_eq_true rfl) dX9_walkItem_130 (fun u_r_485 H locs hw_r_485 hP hD hS => ?_)
                  obtain ⟨f2_486, t2_487, v2_488, w2_489⟩ := u_r_485
                  try dsimp only at hw_r_485
                  obtain ⟨i_490, i_491, i_492, i_493, i_494, i_495⟩ := hw_r_485
                  have hP : va_P D vwCl [(ys, .inl (cI, 449, .inl ms)), (ywa, .inl (cI, 6, .inl a8)), (h0, .inr (9, [.ref ys, .ref yk, .ref yo, .ref yt, .int mk0, .ref yfa, .ref yfe, .int mL, .int mS, .int mM, .ref yro, .ref yhe, .ref ygr, .int mF, .int mC, .int mY, .ref yta, .int (nI (mz)), .int (nI (f2_486)), .int (nI (t2_487)), .int v2_488, .int w2_489, .ref ywa, .ref ybi, .ref ysi, .ref ynu, .ref ymo])), (yta, .inl (cI, 120, .inl tp))] H := hP
                  have hD : va_D A [(ys, .inl (cI, 449, .inl ms)), (ywa, .inl (cI, 6, .inl a8)), (h0, .inr (9, [.ref ys, .ref yk, .ref yo, .ref yt, .int mk0, .ref yfa, .ref yfe, .int mL, .int mS, .int mM, .ref yro, .ref yhe, .ref ygr, .int mF, .int mC, .int mY, .ref yta, .int (nI (mz)), .int (nI (f2_486)), .int (nI (t2_487)), .int v2_488, .int w2_489, .ref ywa, .ref ybi, .ref ysi, .ref ynu, .ref ymo])), (yta, .inl (cI, 120, .inl tp))] := hD
                  refine lv_aload_n hx hb dX9_walkItem_133 rfl (lv_at hl 1 rfl) ?_
                  refine xg hF kf_X9_275 hK hP 2 rfl rfl dX9_walkItem_134 ?_
                  refine lv_istore_n (lv' := [(2, .int v2_488), (1, .int (nI (n8))), (0, .ref h0)]) hx hb dX9_walkItem_137 rfl hl (by decide) rfl (fun ls hl => ?_)
                  refine lv_iconst (v := 0) hx hb dX9_walkItem_138 (by decide) ?_
                  refine lv_istore_n (lv' := [(3, .int 0), (2, .int v2_488), (1, .int (nI (n8))), (0, .ref h0)]) hx hb dX9_walkItem_139 rfl hl (by decide) rfl (fun ls hl => ?_)
                  refine lv_aload_n hx hb dX9_walkItem_140 rfl (lv_at hl 3 rfl) ?_
                  refine lv_bipush (v := 115) hx hb dX9_walkItem_141 (by decide) ?_
                  refine lv_bipush (v := 108) hx hb dX9_walkItem_143 (by decide) ?_
                  refine lv_bipush (v := 97) hx hb dX9_walkItem_145 (by decide) ?_
                  refine lv_bipush (v := 99) hx hb dX9_walkItem_147 (by decide) ?_
                  refine lv_bipush (v := 107) hx hb dX9_walkItem_149 (by decide) ?_
                  refine lv_iconst (v := 0) hx hb dX9_walkItem_151 (by decide) ?_
                  refine lv_iconst (v := 0) hx hb dX9_walkItem_152 (by decide) ?_
                  refine xc_Vr hF (c_X9_isWord l D cI cJ cZ cS ta sa sv H.size h0 ys yk yo yt mk0 yfa yfe mL mS mM yro yhe ygr mF mC mY yta mz f2_486 t2_487 v2_488 w2_489 ywa ybi ysi ynu ymo tp 115 108 97 99 107 0 0 (by omega) (by omega)) kv_X9_290 ⟨rfl, rfl, Nat.le_of_ble_eq_true rfl, Nat.le_of_ble_eq_true rfl⟩ ⟨Nat.le_of_ble_eq_true rfl, Nat.le_of_ble_eq_true rfl⟩ hK hN hZ hP hD hS hA [2, 3] rfl rfl 0 rfl rfl rfl rfl hl.1 rfl (Nat.le_of_ble_eq_true rfl) dX9_walkItem_153 (fun r_496 hw_r_496 => ?_)
                  rcases hw_r_496 with rfl | rfl
                  · skip
                    refine lv_if_eq (tgt := 176) hx hb dX9_walkItem_156 (by decide) (fun c_497 => absurd c_497 (by decide)) (fun c_497 => ?_)
                    refine lv_aload_n hx hb dX9_walkItem_159 rfl (lv_at hl 3 rfl) ?_
                    refine lv_iconst (v := 1) hx hb dX9_walkItem_160 (by decide) ?_
                    refine xc_Vv (wr := [(ys, .inl (cI, 449, .inl ms)), (ywa, .inl (cI, 6, .inl a8))]) hF (c_X9_needs l D cI cJ cZ cS ta sa sv H.size h0 ys yk yo yt mk0 yfa yfe mL mS mM yro yhe ygr mF mC mY yta mz f2_486 t2_487 v2_488 w2_489 ywa ybi ysi ynu ymo tp 1 (by omega) (by omega) (by omega) (by omega) (by omega)) kv_X9_278 ⟨rfl, rfl, Nat.le_of_ble_eq_true rfl, Nat.le_of_ble_eq_true rfl⟩ ⟨Nat.le_of_ble_eq_true rfl, Nat.le_of_ble_eq_true rfl⟩ hK hN hZ hP hD hS hA [2, 3] [0, 1] rfl rfl rfl rfl (by decide) 0 rfl rfl rfl rfl hl.1 rfl (Nat.le_of_ble_eq_true rfl) dX9_walkItem_161 (fun u_r_498 H locs hw_r_498 hP hD hS => ?_)
                    obtain ⟨f2_499, t2_500, w2_501⟩ := u_r_498
                    try dsimp only at hw_r_498
                    obtain ⟨i_502, i_503, i_504, i_505, i_506, i_507⟩ := hw_r_498
                    have hP : va_P D vwCl [(ys, .inl (cI, 449, .inl ms)), (ywa, .inl (cI, 6, .inl a8)), (h0, .inr (9, [.ref ys, .ref yk, .ref yo, .ref yt, .int mk0, .ref yfa, .ref yfe, .int mL, .int mS, .int mM, .ref yro, .ref yhe, .ref ygr, .int mF, .int mC, .int mY, .ref yta, .int (nI (mz)), .int (nI (f2_499)), .int (nI (t2_500)), .int v2_488, .int w2_501, .ref ywa, .ref ybi, .ref ysi, .ref ynu, .ref ymo])), (yta, .inl (cI, 120, .inl tp))] H := hP
                    have hD : va_D A [(ys, .inl (cI, 449, .inl ms)), (ywa, .inl (cI, 6, .inl a8)), (h0, .inr (9, [.ref ys, .ref yk, .ref yo, .ref yt, .int mk0, .ref yfa, .ref yfe, .int mL, .int mS, .int mM, .ref yro, .ref yhe, .ref ygr, .int mF, .int mC, .int mY, .ref yta, .int (nI (mz)), .int (nI (f2_499)), .int (nI (t2_500)), .int v2_488, .int w2_501, .ref ywa, .ref ybi, .ref ysi, .ref ynu, .ref ymo])), (yta, .inl (cI, 120, .inl tp))] := hD
                    refine lv_aload_n hx hb dX9_walkItem_164 rfl (lv_at hl 3 rfl) ?_
                    refine lv_iconst (v := 0) hx hb dX9_walkItem_165 (by decide) ?_
                    refine lv_bipush (v := 99) hx hb dX9_walkItem_166 (by decide) ?_
                    refine xc_Vv (wr := [(ys, .inl (cI, 449, .inl ms)), (ywa, .inl (cI, 6, .inl a8))]) hF (c_X9_number l D cI cJ cZ cS ta sa sv H.size h0 ys yk yo yt mk0 yfa yfe mL mS mM yro yhe ygr mF mC mY yta mz f2_499 t2_500 v2_488 w2_501 ywa ybi ysi ynu ymo tp 0 99 (by omega) (by omega) (by omega) (by omega) (by omega)) kv_X9_282 ⟨rfl, rfl, Nat.le_of_ble_eq_true rfl, Nat.le_of_ble_eq_true rfl⟩ ⟨Nat.le_of_ble_eq_true rfl, Nat.le_of_ble_eq_true rfl⟩ hK hN hZ hP hD hS hA [2, 3] [0, 1] rfl rfl rfl rfl (by decide) 0 rfl rfl rfl rfl hl.1 rfl (Nat.le_of_ble_eq_true rfl) dX9_walkItem_168 (fun u_r_508 H locs hw_r_508 hP hD hS => ?_)
                    obtain ⟨f2_509, t2_510, v2_511, w2_512⟩ := u_r_508
                    try dsimp only at hw_r_508
                    obtain ⟨i_513, i_514, i_515, i_516, i_517, i_518⟩ := hw_r_508
                    have hP : va_P D vwCl [(ys, .inl (cI, 449, .inl ms)), (ywa, .inl (cI, 6, .inl a8)), (h0, .inr (9, [.ref ys, .ref yk, .ref yo, .ref yt, .int mk0, .ref yfa, .ref yfe, .int mL, .int mS, .int mM, .ref yro, .ref yhe, .ref ygr, .int mF, .int mC, .int mY, .ref yta, .int (nI (mz)), .int (nI (f2_509)), .int (nI (t2_510)), .int v2_511, .int w2_512, .ref ywa, .ref ybi, .ref ysi, .ref ynu, .ref ymo])), (yta, .inl (cI, 120, .inl tp))] H := hP
                    have hD : va_D A [(ys, .inl (cI, 449, .inl ms)), (ywa, .inl (cI, 6, .inl a8)), (h0, .inr (9, [.ref ys, .ref yk, .ref yo, .ref yt, .int mk0, .ref yfa, .ref yfe, .int mL, .int mS, .int mM, .ref yro, .ref yhe, .ref ygr, .int mF, .int mC, .int mY, .ref yta, .int (nI (mz)), .int (nI (f2_509)), .int (nI (t2_510)), .int v2_511, .int w2_512, .ref ywa, .ref ybi, .ref ysi, .ref ynu, .ref ymo])), (yta, .inl (cI, 120, .inl tp))] := hD
                    refine lv_aload_n hx hb dX9_walkItem_171 rfl (lv_at hl 3 rfl) ?_
                    refine xg hF kf_X9_275 hK hP 2 rfl rfl dX9_walkItem_172 ?_
                    refine lv_istore_n (lv' := [(3, .int v2_511), (2, .int v2_488), (1, .int (nI (n8))), (0, .ref h0)]) hx hb dX9_walkItem_175 rfl hl (by decide) rfl (fun ls hl => ?_)
                    refine lv_aload_n hx hb dX9_walkItem_176 rfl (lv_at hl 3 rfl) ?_
                    refine xg hF kf_X9_266 hK hP 2 rfl rfl dX9_walkItem_177 ?_
                    refine lv_if_ne (tgt := 252) hx hb dX9_walkItem_180 (by decide) (fun c_519 => ?_) (fun c_519 => absurd rfl (i_11 (hc8 (i_484 (i_495 (i_507 (i_518 c_519).1).1).1).1).1).2.1)
                    exact W.vret hx hb hr (fun t ht hW => ⟨⟨(f2_509, t2_510, v2_511, w2_512, ms, a8, Wn), rfl, ⟨(by first | assumption | omega), (by first | assumption | omega), (by first | assumption | omega), (by first | assumption | omega), (by first | assumption | omega), (fun h => ⟨(i_11 (hc8 (i_484 (i_495 (i_507 (i_518 h).1).1).1).1).1).1, trivial⟩), hs0, hs1, hs2, hsS, hsM, hsp, hsr, hsw, hsR⟩, by rw [ht]; exact hP.sub [2, 0, 3, 1] rfl, hD.sub [2, 0, 3, 1] (by decide) rfl⟩, hS.F ht⟩) hS.2.2 dX9_walkItem_252 hlk
                  · skip
                    refine lv_if_eq (tgt := 176) hx hb dX9_walkItem_156 (by decide) (fun c_520 => ?_) (fun c_520 => absurd (by decide) c_520)
                    refine lv_aload_n hx hb dX9_walkItem_176 rfl (lv_at hl 3 rfl) ?_
                    refine xg hF kf_X9_266 hK hP 2 rfl rfl dX9_walkItem_177 ?_
                    refine lv_if_ne (tgt := 252) hx hb dX9_walkItem_180 (by decide) (fun c_521 => ?_) (fun c_521 => absurd rfl (i_11 (hc8 (i_484 (i_495 c_521).1).1).1).2.1)
                    exact W.vret hx hb hr (fun t ht hW => ⟨⟨(f2_486, t2_487, v2_488, w2_489, ms, a8, Wn), rfl, ⟨(by first | assumption | omega), (by first | assumption | omega), (by first | assumption | omega), (by first | assumption | omega), (by first | assumption | omega), (fun h => ⟨(i_11 (hc8 (i_484 (i_495 h).1).1).1).1, trivial⟩), hs0, hs1, hs2, hsS, hsM, hsp, hsr, hsw, hsR⟩, by rw [ht]; exact hP.sub [2, 0, 3, 1] rfl, hD.sub [2, 0, 3, 1] (by decide) rfl⟩, hS.F ht⟩) hS.2.2 dX9_walkItem_252 hlk
                · skip
                  refine xc_Vv (wr := [(ys, .inl (cI, 449, .inl ms)), (ywa, .inl (cI, 6, .inl a8))]) hF (c_X9_needs l D cI cJ cZ cS ta sa sv H.size h0 ys yk yo yt mk0 yfa yfe mL mS mM yro yhe ygr mF mC mY yta mz f8 t8 mv w8 ywa ybi ysi ynu ymo tp 0 (by omega) (by omega) (by omega) (by omega) (by omega)) kv_X9_278 ⟨rfl, rfl, Nat.le_of_ble_eq_true rfl, Nat.le_of_ble_eq_true rfl⟩ ⟨Nat.le_of_ble_eq_true rfl, Nat.le_of_ble_eq_true rfl⟩ hK hN hZ hP hD hS hA [2, 3] [0, 1] rfl rfl rfl rfl (by decide) 0 rfl rfl rfl rfl hl.1 rfl (Nat.le_of_ble_eq_true rfl) dX9_walkItem_120 (fun u_r_522 H locs hw_r_522 hP hD hS => ?_)
                  obtain ⟨f2_523, t2_524, w2_525⟩ := u_r_522
                  try dsimp only at hw_r_522
                  obtain ⟨i_526, i_527, i_528, i_529, i_530, i_531⟩ := hw_r_522
                  have hP : va_P D vwCl [(ys, .inl (cI, 449, .inl ms)), (ywa, .inl (cI, 6, .inl a8)), (h0, .inr (9, [.ref ys, .ref yk, .ref yo, .ref yt, .int mk0, .ref yfa, .ref yfe, .int mL, .int mS, .int mM, .ref yro, .ref yhe, .ref ygr, .int mF, .int mC, .int mY, .ref yta, .int (nI (mz)), .int (nI (f2_523)), .int (nI (t2_524)), .int mv, .int w2_525, .ref ywa, .ref ybi, .ref ysi, .ref ynu, .ref ymo])), (yta, .inl (cI, 120, .inl tp))] H := hP
                  have hD : va_D A [(ys, .inl (cI, 449, .inl ms)), (ywa, .inl (cI, 6, .inl a8)), (h0, .inr (9, [.ref ys, .ref yk, .ref yo, .ref yt, .int mk0, .ref yfa, .ref yfe, .int mL, .int mS, .int mM, .ref yro, .ref yhe, .ref ygr, .int mF, .int mC, .int mY, .ref yta, .int (nI (mz)), .int (nI (f2_523)), .int (nI (t2_524)), .int mv, .int w2_525, .ref ywa, .ref ybi, .ref ysi, .ref ynu, .ref ymo])), (yta, .inl (cI, 120, .inl tp))] := hD
                  refine lv_aload_n hx hb dX9_walkItem_123 rfl (lv_at hl 1 rfl) ?_
                  refine lv_sipush (v := (-9999)) hx hb dX9_walkItem_124 (by decide) ?_
                  refine lv_sipush (v := 9999) hx hb dX9_walkItem_127 (by decide) ?_
                  refine xc_Vv (wr := [(ys, .inl (cI, 449, .inl ms)), (ywa, .inl (cI, 6, .inl a8))]) hF (c_X9_mile l D cI cJ cZ cS ta sa sv H.size h0 ys yk yo yt mk0 yfa yfe mL mS mM yro yhe ygr mF mC mY yta mz f2_523 t2_524 mv w2_525 ywa ybi ysi ynu ymo tp (-9999) 9999 (by omega) (by omega) (by omega) (by omega) (by omega)) kv_X9_287 ⟨rfl, rfl, Nat.le_of_ble_eq_true rfl, Nat.le_of_ble_eq_true rfl⟩ ⟨Nat.le_of_ble_eq_true rfl, Nat.le_of_ble_eq_true rfl⟩ hK hN hZ hP hD hS hA [2, 3] [0, 1] rfl rfl rfl rfl (by decide) 0 rfl rfl rfl rfl hl.1 rfl (Nat.le_of_ble_eq_true rfl) dX9_walkItem_130 (fun u_r_532 H locs hw_r_532 hP hD hS => ?_)
                  obtain ⟨f2_533, t2_534, v2_535, w2_536⟩ := u_r_532
                  try dsimp only at hw_r_532
                  obtain ⟨i_537, i_538, i_539, i_540, i_541, i_542⟩ := hw_r_532
                  have hP : va_P D vwCl [(ys, .inl (cI, 449, .inl ms)), (ywa, .inl (cI, 6, .inl a8)), (h0, .inr (9, [.ref ys, .ref yk, .ref yo, .ref yt, .int mk0, .ref yfa, .ref yfe, .int mL, .int mS, .int mM, .ref yro, .ref yhe, .ref ygr, .int mF, .int mC, .int mY, .ref yta, .int (nI (mz)), .int (nI (f2_533)), .int (nI (t2_534)), .int v2_535, .int w2_536, .ref ywa, .ref ybi, .ref ysi, .ref ynu, .ref ymo])), (yta, .inl (cI, 120, .inl tp))] H := hP
                  have hD : va_D A [(ys, .inl (cI, 449, .inl ms)), (ywa, .inl (cI, 6, .inl a8)), (h0, .inr (9, [.ref ys, .ref yk, .ref yo, .ref yt, .int mk0, .ref yfa, .ref yfe, .int mL, .int mS, .int mM, .ref yro, .ref yhe, .ref ygr, .int mF, .int mC, .int mY, .ref yta, .int (nI (mz)), .int (nI (f2_533)), .int (nI (t2_534)), .int v2_535, .int w2_536, .ref ywa, .ref ybi, .ref ysi, .ref ynu, .ref ymo])), (yta, .inl (cI, 120, .inl tp))] := hD
                  refine lv_aload_n hx hb dX9_walkItem_133 rfl (lv_at hl 1 rfl) ?_
                  refine xg hF kf_X9_275 hK hP 2 rfl rfl dX9_walkItem_134 ?_
                  refine lv_istore_n (lv' := [(2, .int v2_535), (1, .int (nI (n8))), (0, .ref h0)]) hx hb dX9_walkItem_137 rfl hl (by decide) rfl (fun ls hl => ?_)
                  refine lv_iconst (v := 0) hx hb dX9_walkItem_138 (by decide) ?_
                  refine lv_istore_n (lv' := [(3, .int 0), (2, .int v2_535), (1, .int (nI (n8))), (0, .ref h0)]) hx hb dX9_walkItem_139 rfl hl (by decide) rfl (fun ls hl => ?_)
                  refine lv_aload_n hx hb dX9_walkItem_140 rfl (lv_at hl 3 rfl) ?_
                  refine lv_bipush (v := 115) hx hb dX9_walkItem_141 (by decide) ?_
                  refine lv_bipush (v := 108) hx hb dX9_walkItem_143 (by decide) ?_
                  refine lv_bipush (v := 97) hx hb dX9_walkItem_145 (by decide) ?_
                  refine lv_bipush (v := 99) hx hb dX9_walkItem_147 (by decide) ?_
                  refine lv_bipush (v := 107) hx hb dX9_walkItem_149 (by decide) ?_
                  refine lv_iconst (v := 0) hx hb dX9_walkItem_151 (by decide) ?_
                  refine lv_iconst (v := 0) hx hb dX9_walkItem_152 (by decide) ?_
                  refine xc_Vr hF (c_X9_isWord l D cI cJ cZ cS ta sa sv H.size h0 ys yk yo yt mk0 yfa yfe mL mS mM yro yhe ygr mF mC mY yta mz f2_533 t2_534 v2_535 w2_536 ywa ybi ysi ynu ymo tp 115 108 97 99 107 0 0 (by omega) (by omega)) kv_X9_290 ⟨rfl, rfl, Nat.le_of_ble_eq_true rfl, Nat.le_of_ble_eq_true rfl⟩ ⟨Nat.le_of_ble_eq_true rfl, Nat.le_of_ble_eq_true rfl⟩ hK hN hZ hP hD hS hA [2, 3] rfl rfl 0 rfl rfl rfl rfl hl.1 rfl (Nat.le_of_ble_eq_true rfl) dX9_walkItem_153 (fun r_543 hw_r_543 => ?_)
                  rcases hw_r_543 with rfl | rfl
                  · skip
                    refine lv_if_eq (tgt := 176) hx hb dX9_walkItem_156 (by decide) (fun c_544 => absurd c_544 (by decide)) (fun c_544 => ?_)
                    refine lv_aload_n hx hb dX9_walkItem_159 rfl (lv_at hl 3 rfl) ?_
                    refine lv_iconst (v := 1) hx hb dX9_walkItem_160 (by decide) ?_
                    refine xc_Vv (wr := [(ys, .inl (cI, 449, .inl ms)), (ywa, .inl (cI, 6, .inl a8))]) hF (c_X9_needs l D cI cJ cZ cS ta sa sv H.size h0 ys yk yo yt mk0 yfa yfe mL mS mM yro yhe ygr mF mC mY yta mz f2_533 t2_534 v2_535 w2_536 ywa ybi ysi ynu ymo tp 1 (by omega) (by omega) (by omega) (by omega) (by omega)) kv_X9_278 ⟨rfl, rfl, Nat.le_of_ble_eq_true rfl, Nat.le_of_ble_eq_true rfl⟩ ⟨Nat.le_of_ble_eq_true rfl, Nat.le_of_ble_eq_true rfl⟩ hK hN hZ hP hD hS hA [2, 3] [0, 1] rfl rfl rfl rfl (by decide) 0 rfl rfl rfl rfl hl.1 rfl (Nat.le_of_ble_eq_true rfl) dX9_walkItem_161 (fun u_r_545 H locs hw_r_545 hP hD hS => ?_)
                    obtain ⟨f2_546, t2_547, w2_548⟩ := u_r_545
                    try dsimp only at hw_r_545
                    obtain ⟨i_549, i_550, i_551, i_552, i_553, i_554⟩ := hw_r_545
                    have hP : va_P D vwCl [(ys, .inl (cI, 449, .inl ms)), (ywa, .inl (cI, 6, .inl a8)), (h0, .inr (9, [.ref ys, .ref yk, .ref yo, .ref yt, .int mk0, .ref yfa, .ref yfe, .int mL, .int mS, .int mM, .ref yro, .ref yhe, .ref ygr, .int mF, .int mC, .int mY, .ref yta, .int (nI (mz)), .int (nI (f2_546)), .int (nI (t2_547)), .int v2_535, .int w2_548, .ref ywa, .ref ybi, .ref ysi, .ref ynu, .ref ymo])), (yta, .inl (cI, 120, .inl tp))] H := hP
                    have hD : va_D A [(ys, .inl (cI, 449, .inl ms)), (ywa, .inl (cI, 6, .inl a8)), (h0, .inr (9, [.ref ys, .ref yk, .ref yo, .ref yt, .int mk0, .ref yfa, .ref yfe, .int mL, .int mS, .int mM, .ref yro, .ref yhe, .ref ygr, .int mF, .int mC, .int mY, .ref yta, .int (nI (mz)), .int (nI (f2_546)), .int (nI (t2_547)), .int v2_535, .int w2_548, .ref ywa, .ref ybi, .ref ysi, .ref ynu, .ref ymo])), (yta, .inl (cI, 120, .inl tp))] := hD
                    refine lv_aload_n hx hb dX9_walkItem_164 rfl (lv_at hl 3 rfl) ?_
                    refine lv_iconst (v := 0) hx hb dX9_walkItem_165 (by decide) ?_
                    refine lv_bipush (v := 99) hx hb dX9_walkItem_166 (by decide) ?_
                    refine xc_Vv (wr := [(ys, .inl (cI, 449, .inl ms)), (ywa, .inl (cI, 6, .inl a8))]) hF (c_X9_number l D cI cJ cZ cS ta sa sv H.size h0 ys yk yo yt mk0 yfa yfe mL mS mM yro yhe ygr mF mC mY yta mz f2_546 t2_547 v2_535 w2_548 ywa ybi ysi ynu ymo tp 0 99 (by omega) (by omega) (by omega) (by omega) (by omega)) kv_X9_282 ⟨rfl, rfl, Nat.le_of_ble_eq_true rfl, Nat.le_of_ble_eq_true rfl⟩ ⟨Nat.le_of_ble_eq_true rfl, Nat.le_of_ble_eq_true rfl⟩ hK hN hZ hP hD hS hA [2, 3] [0, 1] rfl rfl rfl rfl (by decide) 0 rfl rfl rfl rfl hl.1 rfl (Nat.le_of_ble_eq_true rfl) dX9_walkItem_168 (fun u_r_555 H locs hw_r_555 hP hD hS => ?_)
                    obtain ⟨f2_556, t2_557, v2_558, w2_559⟩ := u_r_555
                    try dsimp only at hw_r_555
                    obtain ⟨i_560, i_561, i_562, i_563, i_564, i_565⟩ := hw_r_555
                    have hP : va_P D vwCl [(ys, .inl (cI, 449, .inl ms)), (ywa, .inl (cI, 6, .inl a8)), (h0, .inr (9, [.ref ys, .ref yk, .ref yo, .ref yt, .int mk0, .ref yfa, .ref yfe, .int mL, .int mS, .int mM, .ref yro, .ref yhe, .ref ygr, .int mF, .int mC, .int mY, .ref yta, .int (nI (mz)), .int (nI (f2_556)), .int (nI (t2_557)), .int v2_558, .int w2_559, .ref ywa, .ref ybi, .ref ysi, .ref ynu, .ref ymo])), (yta, .inl (cI, 120, .inl tp))] H := hP
                    have hD : va_D A [(ys, .inl (cI, 449, .inl ms)), (ywa, .inl (cI, 6, .inl a8)), (h0, .inr (9, [.ref ys, .ref yk, .ref yo, .ref yt, .int mk0, .ref yfa, .ref yfe, .int mL, .int mS, .int mM, .ref yro, .ref yhe, .ref ygr, .int mF, .int mC, .int mY, .ref yta, .int (nI (mz)), .int (nI (f2_556)), .int (nI (t2_557)), .int v2_558, .int w2_559, .ref ywa, .ref ybi, .ref ysi, .ref ynu, .ref ymo])), (yta, .inl (cI, 120, .inl tp))] := hD
                    refine lv_aload_n hx hb dX9_walkItem_171 rfl (lv_at hl 3 rfl) ?_
                    refine xg hF kf_X9_275 hK hP 2 rfl rfl dX9_walkItem_172 ?_
                    refine lv_istore_n (lv' := [(3, .int v2_558), (2, .int v2_535), (1, .int (nI (n8))), (0, .ref h0)]) hx hb dX9_walkItem_175 rfl hl (by decide) rfl (fun ls hl => ?_)
                    refine lv_aload_n hx hb dX9_walkItem_176 rfl (lv_at hl 3 rfl) ?_
                    refine xg hF kf_X9_266 hK hP 2 rfl rfl dX9_walkItem_177 ?_
                    refine lv_if_ne (tgt := 252) hx hb dX9_walkItem_180 (by decide) (fun c_566 => ?_) (fun c_566 => absurd rfl (i_531 (i_542 (i_554 (i_565 c_566).1).1).1).2.1)
                    exact W.vret hx hb hr (fun t ht hW => ⟨⟨(f2_556, t2_557, v2_558, w2_559, ms, a8, Wn), rfl, ⟨(by first | assumption | omega), (by first | assumption | omega), (by first | assumption | omega), (by first | assumption | omega), (by first | assumption | omega), (fun h => ⟨(i_11 (hc8 (i_531 (i_542 (i_554 (i_565 h).1).1).1).1).1).1, trivial⟩), hs0, hs1, hs2, hsS, hsM, hsp, hsr, hsw, hsR⟩, by rw [ht]; exact hP.sub [2, 0, 3, 1] rfl, hD.sub [2, 0, 3, 1] (by decide) rfl⟩, hS.F ht⟩) hS.2.2 dX9_walkItem_252 hlk
                  · skip
                    refine lv_if_eq (tgt := 176) hx hb dX9_walkItem_156 (by decide) (fun c_567 => ?_) (fun c_567 => absurd (by decide) c_567)
                    refine lv_aload_n hx hb dX9_walkItem_176 rfl (lv_at hl 3 rfl) ?_
                    refine xg hF kf_X9_266 hK hP 2 rfl rfl dX9_walkItem_177 ?_
                    refine lv_if_ne (tgt := 252) hx hb dX9_walkItem_180 (by decide) (fun c_568 => ?_) (fun c_568 => absurd rfl (i_531 (i_542 c_568).1).2.1)
                    exact W.vret hx hb hr (fun t ht hW => ⟨⟨(f2_533, t2_534, v2_535, w2_536, ms, a8, Wn), rfl, ⟨(by first | assumption | omega), (by first | assumption | omega), (by first | assumption | omega), (by first | assumption | omega), (by first | assumption | omega), (fun h => ⟨(i_11 (hc8 (i_531 (i_542 h).1).1).1).1, trivial⟩), hs0, hs1, hs2, hsS, hsM, hsp, hsr, hsw, hsR⟩, by rw [ht]; exact hP.sub [2, 0, 3, 1] rfl, hD.sub [2, 0, 3, 1] (by decide) rfl⟩, hS.F ht⟩) hS.2.2 dX9_walkItem_252 hlk
  · skip
    have nc_1 : Wn < 8 := xn_nle (a := 8) (b := Wn) (by omega) (by omega) c_1
    refine lv_iconst (v := 1) hx hb dX9_walkItem_12 (by decide) ?_
    refine lv_goto (tgt := 17) hx hb dX9_walkItem_13 (by decide) ?_
    refine xc_Vv (wr := [(ys, .inl (cI, 449, .inl ms)), (ywa, .inl (cI, 6, .inl wa))]) hF (c_X9_needs l D cI cJ cZ cS ta sa sv s.heap.size h0 ys yk yo yt mk0 yfa yfe mL mS mM yro yhe ygr mF mC mY yta mz mf mt mv mw ywa ybi ysi ynu ymo tp 1 (by omega) (by omega) (by omega) (by omega) (by omega)) kv_X9_278 ⟨rfl, rfl, Nat.le_of_ble_eq_true rfl, Nat.le_of_ble_eq_true rfl⟩ ⟨Nat.le_of_ble_eq_true rfl, Nat.le_of_ble_eq_true rfl⟩ hK hN hZ hP hD hS hA [0, 2] [1, 3] rfl rfl rfl rfl (by decide) 0 rfl rfl rfl rfl hl.1 rfl (Nat.le_of_ble_eq_true rfl) dX9_walkItem_17 (fun u_r_569 H locs hw_r_569 hP hD hS => ?_)
    obtain ⟨f2_570, t2_571, w2_572⟩ := u_r_569
    try dsimp only at hw_r_569
    obtain ⟨i_573, i_574, i_575, i_576, i_577, i_578⟩ := hw_r_569
    have hP : va_P D vwCl [(ys, .inl (cI, 449, .inl ms)), (ywa, .inl (cI, 6, .inl wa)), (h0, .inr (9, [.ref ys, .ref yk, .ref yo, .ref yt, .int mk0, .ref yfa, .ref yfe, .int mL, .int mS, .int mM, .ref yro, .ref yhe, .ref ygr, .int mF, .int mC, .int mY, .ref yta, .int (nI (mz)), .int (nI (f2_570)), .int (nI (t2_571)), .int mv, .int w2_572, .ref ywa, .ref ybi, .ref ysi, .ref ynu, .ref ymo])), (yta, .inl (cI, 120, .inl tp))] H := hP
    have hD : va_D A [(ys, .inl (cI, 449, .inl ms)), (ywa, .inl (cI, 6, .inl wa)), (h0, .inr (9, [.ref ys, .ref yk, .ref yo, .ref yt, .int mk0, .ref yfa, .ref yfe, .int mL, .int mS, .int mM, .ref yro, .ref yhe, .ref ygr, .int mF, .int mC, .int mY, .ref yta, .int (nI (mz)), .int (nI (f2_570)), .int (nI (t2_571)), .int mv, .int w2_572, .ref ywa, .ref ybi, .ref ysi, .ref ynu, .ref ymo])), (yta, .inl (cI, 120, .inl tp))] := hD
    refine lv_iconst (v := 0) hx hb dX9_walkItem_20 (by decide) ?_
    refine lv_istore_n (lv' := [(1, .int 0), (0, .ref h0)]) hx hb dX9_walkItem_21 rfl hl (by decide) rfl (fun ls hl => ?_)
    suffices loop_22 : ∀ (n_22 : Nat) (n8 : Nat) (f8 : Nat) (t8 : Nat) (w8 : Int32) (a8 : Nat → Int32) (H : Heap) (locs : List Loc) (ls : Array Slot), 6 - n8 < n_22 → (n8 ≤ 6) → (f8 ≤ mz) → (t8 ≤ mz) → (f8 ≤ t8) → (f8 < t8 ∨ f8 = mz) → (mf ≤ f8) → (w8 = 0 → w2_572 = 0 ∧ True) → (wk_A n8 w8 a8) → va_P D vwCl [(ys, .inl (cI, 449, .inl ms)), (ywa, .inl (cI, 6, .inl a8)), (h0, .inr (9, [.ref ys, .ref yk, .ref yo, .ref yt, .int mk0, .ref yfa, .ref yfe, .int mL, .int mS, .int mM, .ref yro, .ref yhe, .ref ygr, .int mF, .int mC, .int mY, .ref yta, .int (nI (mz)), .int (nI (f8)), .int (nI (t8)), .int mv, .int w8, .ref ywa, .ref ybi, .ref ysi, .ref ynu, .ref ymo])), (yta, .inl (cI, 120, .inl tp))] H → va_D A [(ys, .inl (cI, 449, .inl ms)), (ywa, .inl (cI, 6, .inl a8)), (h0, .inr (9, [.ref ys, .ref yk, .ref yo, .ref yt, .int mk0, .ref yfa, .ref yfe, .int mL, .int mS, .int mM, .ref yro, .ref yhe, .ref ygr, .int mF, .int mC, .int mY, .ref yta, .int (nI (mz)), .int (nI (f8)), .int (nI (t8)), .int mv, .int w8, .ref ywa, .ref ybi, .ref ysi, .ref ynu, .ref ymo])), (yta, .inl (cI, 120, .inl tp))] → va_S A s.heap H locs → lv_has ls 6 [(1, .int (nI (n8))), (0, .ref h0)] → W p l e ({ frames := 6, cells := 0, slots := 0, locals := 136 }) s m ([.ref h0] : List Value).toArray below meth c H locs 0 0 (MQ below (XQv (fun (u : Nat × Nat × Int32 × Int32 × (Nat → Int32) × (Nat → Int32) × Nat) => match u with | (f2, t2, v2, w2, ms2, wa2, W2) => (f2 ≤ mz) ∧ (t2 ≤ mz) ∧ (f2 ≤ t2) ∧ (f2 < t2 ∨ f2 = mz) ∧ (mf ≤ f2) ∧ (w2 = 0 → mw = 0 ∧ True) ∧ (ms2 0 = nI P) ∧ (ms2 1 = nI Rn) ∧ (ms2 2 = nI W2) ∧ (SI ms2) ∧ (MI ms2) ∧ (P ≤ 10) ∧ (Rn ≤ 8) ∧ (W2 ≤ 8) ∧ (RI Rn ms2)) D (fun (u : Nat × Nat × Int32 × Int32 × (Nat → Int32) × (Nat → Int32) × Nat) => match u with | (f2, t2, v2, w2, ms2, wa2, W2) => [(h0, .inr (9, [.ref ys, .ref yk, .ref yo, .ref yt, .int mk0, .ref yfa, .ref yfe, .int mL, .int mS, .int mM, .ref yro, .ref yhe, .ref ygr, .int mF, .int mC, .int mY, .ref yta, .int (nI (mz)), .int (nI (f2)), .int (nI (t2)), .int v2, .int w2, .ref ywa, .ref ybi, .ref ysi, .ref ynu, .ref ymo])), (ys, .inl (cI, 449, .inl ms2)), (yta, .inl (cI, 120, .inl tp)), (ywa, .inl (cI, 6, .inl wa2))]) A) ([.ref h0] : List Value).toArray s 0 0 A) (F0 m 22 ls []) by
      exact loop_22 _ 0 f2_570 t2_571 w2_572 wa _ _ _ (Nat.lt_succ_self _) (by omega) (by omega) (by omega) (by omega) (by omega) (by omega) (fun h => ⟨h, trivial⟩) wk_A.zero hP hD hS (lv_sub hl [0, 1] rfl)
    intro n_22
    induction n_22 with
    | zero =>
      intro n8 f8 t8 w8 a8 H locs ls hm_22
      exact absurd hm_22 (Nat.not_lt_zero _)
    | succ n_22 ih_22 =>
      intro n8 f8 t8 w8 a8 H locs ls hm_22 hn8 hf81 hf82 hf83 hf84 hf85 hc8 hA8 hP hD hS hl
      refine lv_aload_n hx hb dX9_walkItem_22 rfl (lv_at hl 1 rfl) ?_
      refine xg hF kf_X9_266 hK hP 2 rfl rfl dX9_walkItem_23 ?_
      refine lv_if_ne (tgt := 105) hx hb dX9_walkItem_26 (by decide) (fun c_579 => ?_) (fun c_579 => ?_)
      · skip
        refine lv_aload_n hx hb dX9_walkItem_105 rfl (lv_at hl 1 rfl) ?_
        refine lv_aload_n hx hb dX9_walkItem_106 rfl (lv_at hl 1 rfl) ?_
        refine lv_bipush (v := 97) hx hb dX9_walkItem_107 (by decide) ?_
        refine lv_bipush (v := 108) hx hb dX9_walkItem_109 (by decide) ?_
        refine lv_bipush (v := 108) hx hb dX9_walkItem_111 (by decide) ?_
        refine lv_iconst (v := 0) hx hb dX9_walkItem_113 (by decide) ?_
        refine lv_iconst (v := 0) hx hb dX9_walkItem_114 (by decide) ?_
        refine lv_iconst (v := 0) hx hb dX9_walkItem_115 (by decide) ?_
        refine lv_iconst (v := 0) hx hb dX9_walkItem_116 (by decide) ?_
        refine xc_Vr hF (c_X9_isWord l D cI cJ cZ cS ta sa sv H.size h0 ys yk yo yt mk0 yfa yfe mL mS mM yro yhe ygr mF mC mY yta mz f8 t8 mv w8 ywa ybi ysi ynu ymo tp 97 108 108 0 0 0 0 (by omega) (by omega)) kv_X9_290 ⟨rfl, rfl, Nat.le_of_ble_eq_true rfl, Nat.le_of_ble_eq_true rfl⟩ ⟨Nat.le_of_ble_eq_true rfl, Nat.le_of_ble_eq_true rfl⟩ hK hN hZ hP hD hS hA [2, 3] rfl rfl 0 rfl rfl rfl rfl hl.1 rfl (Nat.le_of_ble_eq_true rfl) dX9_walkItem_117 (fun r_580 hw_r_580 => ?_)
        rcases hw_r_580 with rfl | rfl
        · skip
          refine xc_Vv (wr := [(ys, .inl (cI, 449, .inl ms)), (ywa, .inl (cI, 6, .inl a8))]) hF (c_X9_needs l D cI cJ cZ cS ta sa sv H.size h0 ys yk yo yt mk0 yfa yfe mL mS mM yro yhe ygr mF mC mY yta mz f8 t8 mv w8 ywa ybi ysi ynu ymo tp 1 (by omega) (by omega) (by omega) (by omega) (by omega)) kv_X9_278 ⟨rfl, rfl, Nat.le_of_ble_eq_true rfl, Nat.le_of_ble_eq_true rfl⟩ ⟨Nat.le_of_ble_eq_true rfl, Nat.le_of_ble_eq_true rfl⟩ hK hN hZ hP hD hS hA [2, 3] [0, 1] rfl rfl rfl rfl (by decide) 0 rfl rfl rfl rfl hl.1 rfl (Nat.le_of_ble_eq_true rfl) dX9_walkItem_120 (fun u_r_581 H locs hw_r_581 hP hD hS => ?_)
          obtain ⟨f2_582, t2_583, w2_584⟩ := u_r_581
          try dsimp only at hw_r_581
          obtain ⟨i_585, i_586, i_587, i_588, i_589, i_590⟩ := hw_r_581
          have hP : va_P D vwCl [(ys, .inl (cI, 449, .inl ms)), (ywa, .inl (cI, 6, .inl a8)), (h0, .inr (9, [.ref ys, .ref yk, .ref yo, .ref yt, .int mk0, .ref yfa, .ref yfe, .int mL, .int mS, .int mM, .ref yro, .ref yhe, .ref ygr, .int mF, .int mC, .int mY, .ref yta, .int (nI (mz)), .int (nI (f2_582)), .int (nI (t2_583)), .int mv, .int w2_584, .ref ywa, .ref ybi, .ref ysi, .ref ynu, .ref ymo])), (yta, .inl (cI, 120, .inl tp))] H := hP
          have hD : va_D A [(ys, .inl (cI, 449, .inl ms)), (ywa, .inl (cI, 6, .inl a8)), (h0, .inr (9, [.ref ys, .ref yk, .ref yo, .ref yt, .int mk0, .ref yfa, .ref yfe, .int mL, .int mS, .int mM, .ref yro, .ref yhe, .ref ygr, .int mF, .int mC, .int mY, .ref yta, .int (nI (mz)), .int (nI (f2_582)), .int (nI (t2_583)), .int mv, .int w2_584, .ref ywa, .ref ybi, .ref ysi, .ref ynu, .ref ymo])), (yta, .inl (cI, 120, .inl tp))] := hD
          refine lv_aload_n hx hb dX9_walkItem_123 rfl (lv_at hl 1 rfl) ?_
          refine lv_sipush (v := (-9999)) hx hb dX9_walkItem_124 (by decide) ?_
          refine lv_sipush (v := 9999) hx hb dX9_walkItem_127 (by decide) ?_
          refine xc_Vv (wr := [(ys, .inl (cI, 449, .inl ms)), (ywa, .inl (cI, 6, .inl a8))]) hF (c_X9_mile l D cI cJ cZ cS ta sa sv H.size h0 ys yk yo yt mk0 yfa yfe mL mS mM yro yhe ygr mF mC mY yta mz f2_582 t2_583 mv w2_584 ywa ybi ysi ynu ymo tp (-9999) 9999 (by omega) (by omega) (by omega) (by omega) (by omega)) kv_X9_287 ⟨rfl, rfl, Nat.le_of_ble_eq_true rfl, Nat.le_of_ble_eq_true rfl⟩ ⟨Nat.le_of_ble_eq_true rfl, Nat.le_of_ble_eq_true rfl⟩ hK hN hZ hP hD hS hA [2, 3] [0, 1] rfl rfl rfl rfl (by decide) 0 rfl rfl rfl rfl hl.1 rfl (Nat.le_of_ble_eq_true rfl) dX9_walkItem_130 (fun u_r_591 H locs hw_r_591 hP hD hS => ?_)
          obtain ⟨f2_592, t2_593, v2_594, w2_595⟩ := u_r_591
          try dsimp only at hw_r_591
          obtain ⟨i_596, i_597, i_598, i_599, i_600, i_601⟩ := hw_r_591
          have hP : va_P D vwCl [(ys, .inl (cI, 449, .inl ms)), (ywa, .inl (cI, 6, .inl a8)), (h0, .inr (9, [.ref ys, .ref yk, .ref yo, .ref yt, .int mk0, .ref yfa, .ref yfe, .int mL, .int mS, .int mM, .ref yro, .ref yhe, .ref ygr, .int mF, .int mC, .int mY, .ref yta, .int (nI (mz)), .int (nI (f2_592)), .int (nI (t2_593)), .int v2_594, .int w2_595, .ref ywa, .ref ybi, .ref ysi, .ref ynu, .ref ymo])), (yta, .inl (cI, 120, .inl tp))] H := hP
          have hD : va_D A [(ys, .inl (cI, 449, .inl ms)), (ywa, .inl (cI, 6, .inl a8)), (h0, .inr (9, [.ref ys, .ref yk, .ref yo, .ref yt, .int mk0, .ref yfa, .ref yfe, .int mL, .int mS, .int mM, .ref yro, .ref yhe, .ref ygr, .int mF, .int mC, .int mY, .ref yta, .int (nI (mz)), .int (nI (f2_592)), .int (nI (t2_593)), .int v2_594, .int w2_595, .ref ywa, .ref ybi, .ref ysi, .ref ynu, .ref ymo])), (yta, .inl (cI, 120, .inl tp))] := hD
          refine lv_aload_n hx hb dX9_walkItem_133 rfl (lv_at hl 1 rfl) ?_
          refine xg hF kf_X9_275 hK hP 2 rfl rfl dX9_walkItem_134 ?_
          refine lv_istore_n (lv' := [(2, .int v2_594), (1, .int (nI (n8))), (0, .ref h0)]) hx hb dX9_walkItem_137 rfl hl (by decide) rfl (fun ls hl => ?_)
          refine lv_iconst (v := 0) hx hb dX9_walkItem_138 (by decide) ?_
          refine lv_istore_n (lv' := [(3, .int 0), (2, .int v2_594), (1, .int (nI (n8))), (0, .ref h0)]) hx hb dX9_walkItem_139 rfl hl (by decide) rfl (fun ls hl => ?_)
          refine lv_aload_n hx hb dX9_walkItem_140 rfl (lv_at hl 3 rfl) ?_
          refine lv_bipush (v := 115) hx hb dX9_walkItem_141 (by decide) ?_
          refine lv_bipush (v := 108) hx hb dX9_walkItem_143 (by decide) ?_
          refine lv_bipush (v := 97) hx hb dX9_walkItem_145 (by decide) ?_
          refine lv_bipush (v := 99) hx hb dX9_walkItem_147 (by decide) ?_
          refine lv_bipush (v := 107) hx hb dX9_walkItem_149 (by decide) ?_
          refine lv_iconst (v := 0) hx hb dX9_walkItem_151 (by decide) ?_
          refine lv_iconst (v := 0) hx hb dX9_walkItem_152 (by decide) ?_
          refine xc_Vr hF (c_X9_isWord l D cI cJ cZ cS ta sa sv H.size h0 ys yk yo yt mk0 yfa yfe mL mS mM yro yhe ygr mF mC mY yta mz f2_592 t2_593 v2_594 w2_595 ywa ybi ysi ynu ymo tp 115 108 97 99 107 0 0 (by omega) (by omega)) kv_X9_290 ⟨rfl, rfl, Nat.le_of_ble_eq_true rfl, Nat.le_of_ble_eq_true rfl⟩ ⟨Nat.le_of_ble_eq_true rfl, Nat.le_of_ble_eq_true rfl⟩ hK hN hZ hP hD hS hA [2, 3] rfl rfl 0 rfl rfl rfl rfl hl.1 rfl (Nat.le_of_ble_eq_true rfl) dX9_walkItem_153 (fun r_602 hw_r_602 => ?_)
          rcases hw_r_602 with rfl | rfl
          · skip
            refine lv_if_eq (tgt := 176) hx hb dX9_walkItem_156 (by decide) (fun c_603 => absurd c_603 (by decide)) (fun c_603 => ?_)
            refine lv_aload_n hx hb dX9_walkItem_159 rfl (lv_at hl 3 rfl) ?_
            refine lv_iconst (v := 1) hx hb dX9_walkItem_160 (by decide) ?_
            refine xc_Vv (wr := [(ys, .inl (cI, 449, .inl ms)), (ywa, .inl (cI, 6, .inl a8))]) hF (c_X9_needs l D cI cJ cZ cS ta sa sv H.size h0 ys yk yo yt mk0 yfa yfe mL mS mM yro yhe ygr mF mC mY yta mz f2_592 t2_593 v2_594 w2_595 ywa ybi ysi ynu ymo tp 1 (by omega) (by omega) (by omega) (by omega) (by omega)) kv_X9_278 ⟨rfl, rfl, Nat.le_of_ble_eq_true rfl, Nat.le_of_ble_eq_true rfl⟩ ⟨Nat.le_of_ble_eq_true rfl, Nat.le_of_ble_eq_true rfl⟩ hK hN hZ hP hD hS hA [2, 3] [0, 1] rfl rfl rfl rfl (by decide) 0 rfl rfl rfl rfl hl.1 rfl (Nat.le_of_ble_eq_true rfl) dX9_walkItem_161 (fun u_r_604 H locs hw_r_604 hP hD hS => ?_)
            obtain ⟨f2_605, t2_606, w2_607⟩ := u_r_604
            try dsimp only at hw_r_604
            obtain ⟨i_608, i_609, i_610, i_611, i_612, i_613⟩ := hw_r_604
            have hP : va_P D vwCl [(ys, .inl (cI, 449, .inl ms)), (ywa, .inl (cI, 6, .inl a8)), (h0, .inr (9, [.ref ys, .ref yk, .ref yo, .ref yt, .int mk0, .ref yfa, .ref yfe, .int mL, .int mS, .int mM, .ref yro, .ref yhe, .ref ygr, .int mF, .int mC, .int mY, .ref yta, .int (nI (mz)), .int (nI (f2_605)), .int (nI (t2_606)), .int v2_594, .int w2_607, .ref ywa, .ref ybi, .ref ysi, .ref ynu, .ref ymo])), (yta, .inl (cI, 120, .inl tp))] H := hP
            have hD : va_D A [(ys, .inl (cI, 449, .inl ms)), (ywa, .inl (cI, 6, .inl a8)), (h0, .inr (9, [.ref ys, .ref yk, .ref yo, .ref yt, .int mk0, .ref yfa, .ref yfe, .int mL, .int mS, .int mM, .ref yro, .ref yhe, .ref ygr, .int mF, .int mC, .int mY, .ref yta, .int (nI (mz)), .int (nI (f2_605)), .int (nI (t2_606)), .int v2_594, .int w2_607, .ref ywa, .ref ybi, .ref ysi, .ref ynu, .ref ymo])), (yta, .inl (cI, 120, .inl tp))] := hD
            refine lv_aload_n hx hb dX9_walkItem_164 rfl (lv_at hl 3 rfl) ?_
            refine lv_iconst (v := 0) hx hb dX9_walkItem_165 (by decide) ?_
            refine lv_bipush (v := 99) hx hb dX9_walkItem_166 (by decide) ?_
            refine xc_Vv (wr := [(ys, .inl (cI, 449, .inl ms)), (ywa, .inl (cI, 6, .inl a8))]) hF (c_X9_number l D cI cJ cZ cS ta sa sv H.size h0 ys yk yo yt mk0 yfa yfe mL mS mM yro yhe ygr mF mC mY yta mz f2_605 t2_606 v2_594 w2_607 ywa ybi ysi ynu ymo tp 0 99 (by omega) (by omega) (by omega) (by omega) (by omega)) kv_X9_282 ⟨rfl, rfl, Nat.le_of_ble_eq_true rfl, Nat.le_of_ble_eq_true rfl⟩ ⟨Nat.le_of_ble_eq_true rfl, Nat.le_of_ble_eq_true rfl⟩ hK hN hZ hP hD hS hA [2, 3] [0, 1] rfl rfl rfl rfl (by decide) 0 rfl rfl rfl rfl hl.1 rfl (Nat.le_of_ble_eq_true rfl) dX9_walkItem_168 (fun u_r_614 H locs hw_r_614 hP hD hS => ?_)
            obtain ⟨f2_615, t2_616, v2_617, w2_618⟩ := u_r_614
            try dsimp only at hw_r_614
            obtain ⟨i_619, i_620, i_621, i_622, i_623, i_624⟩ := hw_r_614
            have hP : va_P D vwCl [(ys, .inl (cI, 449, .inl ms)), (ywa, .inl (cI, 6, .inl a8)), (h0, .inr (9, [.ref ys, .ref yk, .ref yo, .ref yt, .int mk0, .ref yfa, .ref yfe, .int mL, .int mS, .int mM, .ref yro, .ref yhe, .ref ygr, .int mF, .int mC, .int mY, .ref yta, .int (nI (mz)), .int (nI (f2_615)), .int (nI (t2_616)), .int v2_617, .int w2_618, .ref ywa, .ref ybi, .ref ysi, .ref ynu, .ref ymo])), (yta, .inl (cI, 120, .inl tp))] H := hP
            have hD : va_D A [(ys, .inl (cI, 449, .inl ms)), (ywa, .inl (cI, 6, .inl a8)), (h0, .inr (9, [.ref ys, .ref yk, .ref yo, .ref yt, .int mk0, .ref yfa, .ref yfe, .int mL, .int mS, .int mM, .ref yro, .ref yhe, .ref ygr, .int mF, .int mC, .int mY, .ref yta, .int (nI (mz)), .int (nI (f2_615)), .int (nI (t2_616)), .int v2_617, .int w2_618, .ref ywa, .ref ybi, .ref ysi, .ref ynu, .ref ymo])), (yta, .inl (cI, 120, .inl tp))] := hD
            refine lv_aload_n hx hb dX9_walkItem_171 rfl (lv_at hl 3 rfl) ?_
            refine xg hF kf_X9_275 hK hP 2 rfl rfl dX9_walkItem_172 ?_
            refine lv_istore_n (lv' := [(3, .int v2_617), (2, .int v2_594), (1, .int (nI (n8))), (0, .ref h0)]) hx hb dX9_walkItem_175 rfl hl (by decide) rfl (fun ls hl => ?_)
            refine lv_aload_n hx hb dX9_walkItem_176 rfl (lv_at hl 3 rfl) ?_
            refine xg hF kf_X9_266 hK hP 2 rfl rfl dX9_walkItem_177 ?_
            refine lv_if_ne (tgt := 252) hx hb dX9_walkItem_180 (by decide) (fun c_625 => ?_) (fun c_625 => ?_)
            · skip
              exact W.vret hx hb hr (fun t ht hW => ⟨⟨(f2_615, t2_616, v2_617, w2_618, ms, a8, Wn), rfl, ⟨(by first | assumption | omega), (by first | assumption | omega), (by first | assumption | omega), (by first | assumption | omega), (by first | assumption | omega), (fun h => ⟨(i_578 (hc8 (i_590 (i_601 (i_613 (i_624 h).1).1).1).1).1).1, trivial⟩), hs0, hs1, hs2, hsS, hsM, hsp, hsr, hsw, hsR⟩, by rw [ht]; exact hP.sub [2, 0, 3, 1] rfl, hD.sub [2, 0, 3, 1] (by decide) rfl⟩, hS.F ht⟩) hS.2.2 dX9_walkItem_252 hlk
            · skip
              refine lv_sipush (v := 377) hx hb dX9_walkItem_183 (by decide) ?_
              refine lv_bipush (v := 9) hx hb dX9_walkItem_186 (by decide) ?_
              refine lv_aload_n hx hb dX9_walkItem_188 rfl (lv_at hl 3 rfl) ?_
              refine lv_aload_n hx hb dX9_walkItem_189 rfl (lv_at hl 3 rfl) ?_
              refine xg hF kf_X9_40 hK hP 2 rfl rfl dX9_walkItem_190 ?_
              refine lv_iconst (v := 0) hx hb dX9_walkItem_193 (by decide) ?_
              refine va_iald hx hb hK hP 1 0 rfl rfl (xin 0 6 (by decide) (by decide)) dX9_walkItem_194 ?_
              refine xl_i (y := a8 0) (congrArg a8 rfl) ?_
              obtain ⟨z_626, ez_626, hz_6260⟩ := wk_A.get hA8 (i_590 (i_601 (i_613 (i_624 c_625).1).1).1).1 (show 0 < n8 by omega)
              refine xl_i (y := nI (z_626)) ez_626 ?_
              refine lv_aload_n hx hb dX9_walkItem_195 rfl (lv_at hl 3 rfl) ?_
              refine xg hF kf_X9_40 hK hP 2 rfl rfl dX9_walkItem_196 ?_
              refine lv_iconst (v := 1) hx hb dX9_walkItem_199 (by decide) ?_
              refine va_iald hx hb hK hP 1 0 rfl rfl (xin 1 6 (by decide) (by decide)) dX9_walkItem_200 ?_
              refine xl_i (y := a8 1) (congrArg a8 rfl) ?_
              obtain ⟨z_627, ez_627, hz_6270⟩ := wk_A.get hA8 (i_590 (i_601 (i_613 (i_624 c_625).1).1).1).1 (show 1 < n8 by omega)
              refine xl_i (y := nI (z_627)) ez_627 ?_
              refine lv_iload_n hx hb dX9_walkItem_201 rfl (lv_at hl 1 rfl) ?_
              refine lv_iload_n hx hb dX9_walkItem_202 rfl (lv_at hl 0 rfl) ?_
              refine xc_Vi (wr := [(ywa, .inl (cI, 6, .inl a8)), (yta, .inl (cI, 120, .inl tp))]) hF (c_X9_newWalk l D cI cJ cZ cS ta sa sv H.size h0 ys yk yo yt mk0 yfa yfe mL mS mM yro yhe ygr mF mC mY yta mz f2_615 t2_616 v2_617 w2_618 ywa ybi ysi ynu ymo ms P Rn Wn z_626 z_627 v2_594 v2_617 (by omega) (by omega) (by omega) hs0 hs1 hs2 hsS hsM hsp hsr hsw hsR) kv_X9_196 ⟨rfl, rfl, Nat.le_of_ble_eq_true rfl, Nat.le_of_ble_eq_true rfl⟩ ⟨Nat.le_of_ble_eq_true rfl, Nat.le_of_ble_eq_true rfl⟩ hK hN hZ hP hD hS hA [2, 0] [1, 3] rfl rfl rfl rfl (by decide) 0 rfl rfl rfl rfl hl.1 rfl (Nat.le_of_ble_eq_true rfl) dX9_walkItem_203 (fun r_628 u_r_628 H locs hw_r_628 hP hD hS => ?_)
              obtain ⟨ms2_629, rfl⟩ : ∃ z, z = u_r_628 := ⟨_, rfl⟩
              try dsimp only at hw_r_628
              obtain ⟨hw_r_628, i_630, i_631, i_632, i_633, i_634, i_635, i_636, i_637, i_638⟩ := hw_r_628
              have hP : va_P D vwCl [(ywa, .inl (cI, 6, .inl a8)), (yta, .inl (cI, 120, .inl tp)), (h0, .inr (9, [.ref ys, .ref yk, .ref yo, .ref yt, .int mk0, .ref yfa, .ref yfe, .int mL, .int mS, .int mM, .ref yro, .ref yhe, .ref ygr, .int mF, .int mC, .int mY, .ref yta, .int (nI (mz)), .int (nI (f2_615)), .int (nI (t2_616)), .int v2_617, .int w2_618, .ref ywa, .ref ybi, .ref ysi, .ref ynu, .ref ymo])), (ys, .inl (cI, 449, .inl ms2_629))] H := hP
              have hD : va_D A [(ywa, .inl (cI, 6, .inl a8)), (yta, .inl (cI, 120, .inl tp)), (h0, .inr (9, [.ref ys, .ref yk, .ref yo, .ref yt, .int mk0, .ref yfa, .ref yfe, .int mL, .int mS, .int mM, .ref yro, .ref yhe, .ref ygr, .int mF, .int mC, .int mY, .ref yta, .int (nI (mz)), .int (nI (f2_615)), .int (nI (t2_616)), .int v2_617, .int w2_618, .ref ywa, .ref ybi, .ref ysi, .ref ynu, .ref ymo])), (ys, .inl (cI, 449, .inl ms2_629))] := hD
              subst hw_r_628
              refine lv_imul hx hb dX9_walkItem_206 ?_
              refine xl_i (y := nI (9 * Wn)) (pk_mul 9 Wn) ?_
              refine lv_iadd hx hb dX9_walkItem_207 ?_
              refine xl_i (y := nI (377 + (9 * Wn))) (nI_add 377 (9 * Wn)) ?_
              refine lv_istore (lv' := [(4, .int (nI (377 + (9 * Wn)))), (3, .int v2_617), (2, .int v2_594), (1, .int (nI (n8))), (0, .ref h0)]) hx hb dX9_walkItem_208 hl (by decide) rfl (fun ls hl => ?_)
              refine lv_aload_n hx hb dX9_walkItem_210 rfl (lv_at hl 4 rfl) ?_
              refine xg hF kf_X9_7 hK hP 2 rfl rfl dX9_walkItem_211 ?_
              refine lv_iload hx hb dX9_walkItem_214 (lv_at hl 0 rfl) ?_
              refine lv_iload_n hx hb dX9_walkItem_216 rfl (lv_at hl 3 rfl) ?_
              refine va_iast hx hb hK hP hD hS 3 0 rfl rfl (vp_in_nI (show 377 + (9 * Wn) < 449 by omega) (by decide)) dX9_walkItem_217 (fun H locs hP hD hS => ?_)
              rw [nI_clamp (show 377 + (9 * Wn) < 2 ^ 31 by omega)] at hP hD
              obtain ⟨f_639, ef_639⟩ : ∃ g, g = upd ms2_629 (377 + (9 * Wn)) (nI (n8)) := ⟨_, rfl⟩
              rw [← ef_639] at hP hD
              have k0_f_639 : f_639 0 = nI P := by rw [ef_639]; exact (pk_un (show 0 ≠ (377 + (9 * Wn)) by omega)).trans i_630
              have k1_f_639 : f_639 1 = nI Rn := by rw [ef_639]; exact (pk_un (show 1 ≠ (377 + (9 * Wn)) by omega)).trans i_631
              have k2_f_639 : f_639 2 = nI (Wn + 1) := by rw [ef_639]; exact (pk_un (show 2 ≠ (377 + (9 * Wn)) by omega)).trans i_632
              have kS_f_639 : SI f_639 := by rw [ef_639]; exact SI.upd i_633 (okS.wl (w := Wn) (q := n8) (by omega) (by omega) (by omega))
              have kM_f_639 : MI f_639 := by rw [ef_639]; exact MI.upd i_634 (okM.out (show (377 + (9 * Wn)) < 13 ∨ 113 ≤ (377 + (9 * Wn)) by omega))
              have kR_f_639 : RI Rn f_639 := by rw [ef_639]; exact RI.upd i_638 (fun r9 hr9 e9 => by omega)
              have hP : va_P D vwCl [(ywa, .inl (cI, 6, .inl a8)), (yta, .inl (cI, 120, .inl tp)), (h0, .inr (9, [.ref ys, .ref yk, .ref yo, .ref yt, .int mk0, .ref yfa, .ref yfe, .int mL, .int mS, .int mM, .ref yro, .ref yhe, .ref ygr, .int mF, .int mC, .int mY, .ref yta, .int (nI (mz)), .int (nI (f2_615)), .int (nI (t2_616)), .int v2_617, .int w2_618, .ref ywa, .ref ybi, .ref ysi, .ref ynu, .ref ymo])), (ys, .inl (cI, 449, .inl f_639))] H := hP
              have hD : va_D A [(ywa, .inl (cI, 6, .inl a8)), (yta, .inl (cI, 120, .inl tp)), (h0, .inr (9, [.ref ys, .ref yk, .ref yo, .ref yt, .int mk0, .ref yfa, .ref yfe, .int mL, .int mS, .int mM, .ref yro, .ref yhe, .ref ygr, .int mF, .int mC, .int mY, .ref yta, .int (nI (mz)), .int (nI (f2_615)), .int (nI (t2_616)), .int v2_617, .int w2_618, .ref ywa, .ref ybi, .ref ysi, .ref ynu, .ref ymo])), (ys, .inl (cI, 449, .inl f_639))] := hD
              refine lv_iconst (v := 2) hx hb dX9_walkItem_218 (by decide) ?_
              refine lv_istore (lv' := [(5, .int 2), (4, .int (nI (377 + (9 * Wn)))), (3, .int v2_617), (2, .int v2_594), (1, .int (nI (n8))), (0, .ref h0)]) hx hb dX9_walkItem_219 hl (by decide) rfl (fun ls hl => ?_)
              suffices loop_221 : ∀ (n_221 : Nat) (i : Nat) (s8 : Nat → Int32) (H : Heap) (locs : List Loc) (ls : Array Slot), n8 - i < n_221 → (2 ≤ i) → (i ≤ n8) → (s8 0 = nI P) → (s8 1 = nI Rn) → (s8 2 = nI (Wn + 1)) → (SI s8) → (MI s8) → (P ≤ 10) → (Rn ≤ 8) → (Wn + 1 ≤ 8) → (RI Rn s8) → va_P D vwCl [(ywa, .inl (cI, 6, .inl a8)), (yta, .inl (cI, 120, .inl tp)), (h0, .inr (9, [.ref ys, .ref yk, .ref yo, .ref yt, .int mk0, .ref yfa, .ref yfe, .int mL, .int mS, .int mM, .ref yro, .ref yhe, .ref ygr, .int mF, .int mC, .int mY, .ref yta, .int (nI (mz)), .int (nI (f2_615)), .int (nI (t2_616)), .int v2_617, .int w2_618, .ref ywa, .ref ybi, .ref ysi, .ref ynu, .ref ymo])), (ys, .inl (cI, 449, .inl s8))] H → va_D A [(ywa, .inl (cI, 6, .inl a8)), (yta, .inl (cI, 120, .inl tp)), (h0, .inr (9, [.ref ys, .ref yk, .ref yo, .ref yt, .int mk0, .ref yfa, .ref yfe, .int mL, .int mS, .int mM, .ref yro, .ref yhe, .ref ygr, .int mF, .int mC, .int mY, .ref yta, .int (nI (mz)), .int (nI (f2_615)), .int (nI (t2_616)), .int v2_617, .int w2_618, .ref ywa, .ref ybi, .ref ysi, .ref ynu, .ref ymo])), (ys, .inl (cI, 449, .inl s8))] → va_S A s.heap H locs → lv_has ls 6 [(5, .int (nI (i))), (4, .int (nI (377 + (9 * Wn)))), (3, .int v2_617), (2, .int v2_594), (1, .int (nI (n8))), (0, .ref h0)] → W p l e ({ frames := 6, cells := 0, slots := 0, locals := 136 }) s m ([.ref h0] : List Value).toArray below meth c H locs 0 0 (MQ below (XQv (fun (u : Nat × Nat × Int32 × Int32 × (Nat → Int32) × (Nat → Int32) × Nat) => match u with | (f2, t2, v2, w2, ms2, wa2, W2) => (f2 ≤ mz) ∧ (t2 ≤ mz) ∧ (f2 ≤ t2) ∧ (f2 < t2 ∨ f2 = mz) ∧ (mf ≤ f2) ∧ (w2 = 0 → mw = 0 ∧ True) ∧ (ms2 0 = nI P) ∧ (ms2 1 = nI Rn) ∧ (ms2 2 = nI W2) ∧ (SI ms2) ∧ (MI ms2) ∧ (P ≤ 10) ∧ (Rn ≤ 8) ∧ (W2 ≤ 8) ∧ (RI Rn ms2)) D (fun (u : Nat × Nat × Int32 × Int32 × (Nat → Int32) × (Nat → Int32) × Nat) => match u with | (f2, t2, v2, w2, ms2, wa2, W2) => [(h0, .inr (9, [.ref ys, .ref yk, .ref yo, .ref yt, .int mk0, .ref yfa, .ref yfe, .int mL, .int mS, .int mM, .ref yro, .ref yhe, .ref ygr, .int mF, .int mC, .int mY, .ref yta, .int (nI (mz)), .int (nI (f2)), .int (nI (t2)), .int v2, .int w2, .ref ywa, .ref ybi, .ref ysi, .ref ynu, .ref ymo])), (ys, .inl (cI, 449, .inl ms2)), (yta, .inl (cI, 120, .inl tp)), (ywa, .inl (cI, 6, .inl wa2))]) A) ([.ref h0] : List Value).toArray s 0 0 A) (F0 m 221 ls []) by
                exact loop_221 _ 2 f_639 _ _ _ (Nat.lt_succ_self _) (by omega) (by omega) k0_f_639 k1_f_639 k2_f_639 kS_f_639 kM_f_639 i_635 i_636 i_637 kR_f_639 hP hD hS (lv_sub hl [0, 1, 2, 3, 4, 5] rfl)
              intro n_221
              induction n_221 with
              | zero =>
                intro i s8 H locs ls hm_221
                exact absurd hm_221 (Nat.not_lt_zero _)
              | succ n_221 ih_221 =>
                intro i s8 H locs ls hm_221 hi2 hi ht0 ht1 ht2 htS htM htp htr htw htR hP hD hS hl
                refine lv_iload hx hb dX9_walkItem_221 (lv_at hl 0 rfl) ?_
                refine lv_iload_n hx hb dX9_walkItem_223 rfl (lv_at hl 4 rfl) ?_
                refine lv_icmp_ge (tgt := 252) hx hb dX9_walkItem_224 (by decide) (fun c_640 => ?_) (fun c_640 => ?_)
                · skip
                  have nc_640 : n8 ≤ i := xn_le (a := n8) (b := i) (by omega) (by omega) c_640
                  exact W.vret hx hb hr (fun t ht hW => ⟨⟨(f2_615, t2_616, v2_617, w2_618, s8, a8, Wn + 1), rfl, ⟨(by first | assumption | omega), (by first | assumption | omega), (by first | assumption | omega), (by first | assumption | omega), (by first | assumption | omega), (fun h => ⟨(i_578 (hc8 (i_590 (i_601 (i_613 (i_624 h).1).1).1).1).1).1, trivial⟩), ht0, ht1, ht2, htS, htM, htp, htr, htw, htR⟩, by rw [ht]; exact hP.sub [2, 3, 1, 0] rfl, hD.sub [2, 3, 1, 0] (by decide) rfl⟩, hS.F ht⟩) hS.2.2 dX9_walkItem_252 hlk
                · skip
                  have nc_640 : i < n8 := xn_nle (a := n8) (b := i) (by omega) (by omega) c_640
                  refine lv_aload_n hx hb dX9_walkItem_227 rfl (lv_at hl 5 rfl) ?_
                  refine xg hF kf_X9_7 hK hP 2 rfl rfl dX9_walkItem_228 ?_
                  refine lv_iload hx hb dX9_walkItem_231 (lv_at hl 1 rfl) ?_
                  refine lv_iconst (v := 3) hx hb dX9_walkItem_233 (by decide) ?_
                  refine lv_iadd hx hb dX9_walkItem_234 ?_
                  refine xl_i (y := nI (377 + (9 * Wn) + 3)) (nI_add (377 + (9 * Wn)) 3) ?_
                  refine lv_iload hx hb dX9_walkItem_235 (lv_at hl 0 rfl) ?_
                  refine lv_iadd hx hb dX9_walkItem_237 ?_
                  refine xl_i (y := nI (377 + (9 * Wn) + 3 + i)) (nI_add (377 + (9 * Wn) + 3) i) ?_
                  refine lv_aload_n hx hb dX9_walkItem_238 rfl (lv_at hl 5 rfl) ?_
                  refine xg hF kf_X9_40 hK hP 2 rfl rfl dX9_walkItem_239 ?_
                  refine lv_iload hx hb dX9_walkItem_242 (lv_at hl 0 rfl) ?_
                  refine va_iald hx hb hK hP 0 0 rfl rfl (vp_in_nI (show i < 6 by omega) (by decide)) dX9_walkItem_244 ?_
                  refine xl_i (y := a8 i) (congrArg a8 (nI_clamp (show i < 2 ^ 31 by omega))) ?_
                  obtain ⟨z_641, ez_641, hz_6410⟩ := wk_A.get hA8 (i_590 (i_601 (i_613 (i_624 c_625).1).1).1).1 (show i < n8 by omega)
                  refine xl_i (y := nI (z_641)) ez_641 ?_
                  refine va_iast hx hb hK hP hD hS 3 0 rfl rfl (vp_in_nI (show 377 + (9 * Wn) + 3 + i < 449 by omega) (by decide)) dX9_walkItem_245 (fun H locs hP hD hS => ?_)
                  rw [nI_clamp (show 377 + (9 * Wn) + 3 + i < 2 ^ 31 by omega)] at hP hD
                  obtain ⟨f_642, ef_642⟩ : ∃ g, g = upd s8 (377 + (9 * Wn) + 3 + i) (nI (z_641)) := ⟨_, rfl⟩
                  rw [← ef_642] at hP hD
                  have k0_f_642 : f_642 0 = nI P := by rw [ef_642]; exact (pk_un (show 0 ≠ (377 + (9 * Wn) + 3 + i) by omega)).trans ht0
                  have k1_f_642 : f_642 1 = nI Rn := by rw [ef_642]; exact (pk_un (show 1 ≠ (377 + (9 * Wn) + 3 + i) by omega)).trans ht1
                  have k2_f_642 : f_642 2 = nI (Wn + 1) := by rw [ef_642]; exact (pk_un (show 2 ≠ (377 + (9 * Wn) + 3 + i) by omega)).trans ht2
                  have kS_f_642 : SI f_642 := by rw [ef_642]; exact SI.upd htS (okS.ws (w := Wn) (i := i) (by omega) (by omega) (by omega) (show z_641 < 10 by omega))
                  have kM_f_642 : MI f_642 := by rw [ef_642]; exact MI.upd htM (okM.out (show (377 + (9 * Wn) + 3 + i) < 13 ∨ 113 ≤ (377 + (9 * Wn) + 3 + i) by omega))
                  have kR_f_642 : RI Rn f_642 := by rw [ef_642]; exact RI.upd htR (fun r9 hr9 e9 => by omega)
                  have hP : va_P D vwCl [(ywa, .inl (cI, 6, .inl a8)), (yta, .inl (cI, 120, .inl tp)), (h0, .inr (9, [.ref ys, .ref yk, .ref yo, .ref yt, .int mk0, .ref yfa, .ref yfe, .int mL, .int mS, .int mM, .ref yro, .ref yhe, .ref ygr, .int mF, .int mC, .int mY, .ref yta, .int (nI (mz)), .int (nI (f2_615)), .int (nI (t2_616)), .int v2_617, .int w2_618, .ref ywa, .ref ybi, .ref ysi, .ref ynu, .ref ymo])), (ys, .inl (cI, 449, .inl f_642))] H := hP
                  have hD : va_D A [(ywa, .inl (cI, 6, .inl a8)), (yta, .inl (cI, 120, .inl tp)), (h0, .inr (9, [.ref ys, .ref yk, .ref yo, .ref yt, .int mk0, .ref yfa, .ref yfe, .int mL, .int mS, .int mM, .ref yro, .ref yhe, .ref ygr, .int mF, .int mC, .int mY, .ref yta, .int (nI (mz)), .int (nI (f2_615)), .int (nI (t2_616)), .int v2_617, .int w2_618, .ref ywa, .ref ybi, .ref ysi, .ref ynu, .ref ymo])), (ys, .inl (cI, 449, .inl f_642))] := hD
                  refine lv_iinc (v := nI (i + 1)) (lv' := [(5, .int (nI (i + 1))), (4, .int (nI (377 + (9 * Wn)))), (3, .int v2_617), (2, .int v2_594), (1, .int (nI (n8))), (0, .ref h0)]) hx hb dX9_walkItem_246 hl (k := 0) rfl (nI_1 (i)) (by decide) rfl (fun ls hl => ?_)
                  refine lv_goto (tgt := 221) hx hb dX9_walkItem_249 (by decide) ?_
                  exact ih_221 (i + 1) f_642 _ _ _ (by omega) (by omega) (by omega) k0_f_642 k1_f_642 k2_f_642 kS_f_642 kM_f_642 htp htr htw kR_f_642 (hP.sub [0, 1, 2, 3] rfl) (hD.sub [0, 1, 2, 3] (by decide) rfl) hS (lv_sub hl [0, 1, 2, 3, 4, 5] rfl)
          · skip
            refine lv_if_eq (tgt := 176) hx hb dX9_walkItem_156 (by decide) (fun c_643 => ?_) (fun c_643 => absurd (by decide) c_643)
            refine lv_aload_n hx hb dX9_walkItem_176 rfl (lv_at hl 3 rfl) ?_
            refine xg hF kf_X9_266 hK hP 2 rfl rfl dX9_walkItem_177 ?_
            refine lv_if_ne (tgt := 252) hx hb dX9_walkItem_180 (by decide) (fun c_644 => ?_) (fun c_644 => ?_)
            · skip
              exact W.vret hx hb hr (fun t ht hW => ⟨⟨(f2_592, t2_593, v2_594, w2_595, ms, a8, Wn), rfl, ⟨(by first | assumption | omega), (by first | assumption | omega), (by first | assumption | omega), (by first | assumption | omega), (by first | assumption | omega), (fun h => ⟨(i_578 (hc8 (i_590 (i_601 h).1).1).1).1, trivial⟩), hs0, hs1, hs2, hsS, hsM, hsp, hsr, hsw, hsR⟩, by rw [ht]; exact hP.sub [2, 0, 3, 1] rfl, hD.sub [2, 0, 3, 1] (by decide) rfl⟩, hS.F ht⟩) hS.2.2 dX9_walkItem_252 hlk
            · skip
              refine lv_sipush (v := 377) hx hb dX9_walkItem_183 (by decide) ?_
              refine lv_bipush (v := 9) hx hb dX9_walkItem_186 (by decide) ?_
              refine lv_aload_n hx hb dX9_walkItem_188 rfl (lv_at hl 3 rfl) ?_
              refine lv_aload_n hx hb dX9_walkItem_189 rfl (lv_at hl 3 rfl) ?_
              refine xg hF kf_X9_40 hK hP 2 rfl rfl dX9_walkItem_190 ?_
              refine lv_iconst (v := 0) hx hb dX9_walkItem_193 (by decide) ?_
              refine va_iald hx hb hK hP 1 0 rfl rfl (xin 0 6 (by decide) (by decide)) dX9_walkItem_194 ?_
              refine xl_i (y := a8 0) (congrArg a8 rfl) ?_
              obtain ⟨z_645, ez_645, hz_6450⟩ := wk_A.get hA8 (i_590 (i_601 c_644).1).1 (show 0 < n8 by omega)
              refine xl_i (y := nI (z_645)) ez_645 ?_
              refine lv_aload_n hx hb dX9_walkItem_195 rfl (lv_at hl 3 rfl) ?_
              refine xg hF kf_X9_40 hK hP 2 rfl rfl dX9_walkItem_196 ?_
              refine lv_iconst (v := 1) hx hb dX9_walkItem_199 (by decide) ?_
              refine va_iald hx hb hK hP 1 0 rfl rfl (xin 1 6 (by decide) (by decide)) dX9_walkItem_200 ?_
              refine xl_i (y := a8 1) (congrArg a8 rfl) ?_
              obtain ⟨z_646, ez_646, hz_6460⟩ := wk_A.get hA8 (i_590 (i_601 c_644).1).1 (show 1 < n8 by omega)
              refine xl_i (y := nI (z_646)) ez_646 ?_
              refine lv_iload_n hx hb dX9_walkItem_201 rfl (lv_at hl 1 rfl) ?_
              refine lv_iload_n hx hb dX9_walkItem_202 rfl (lv_at hl 0 rfl) ?_
              refine xc_Vi (wr := [(ywa, .inl (cI, 6, .inl a8)), (yta, .inl (cI, 120, .inl tp))]) hF (c_X9_newWalk l D cI cJ cZ cS ta sa sv H.size h0 ys yk yo yt mk0 yfa yfe mL mS mM yro yhe ygr mF mC mY yta mz f2_592 t2_593 v2_594 w2_595 ywa ybi ysi ynu ymo ms P Rn Wn z_645 z_646 v2_594 0 (by omega) (by omega) (by omega) hs0 hs1 hs2 hsS hsM hsp hsr hsw hsR) kv_X9_196 ⟨rfl, rfl, Nat.le_of_ble_eq_true rfl, Nat.le_of_ble_eq_true rfl⟩ ⟨Nat.le_of_ble_eq_true rfl, Nat.le_of_ble_eq_true rfl⟩ hK hN hZ hP hD hS hA [2, 0] [1, 3] rfl rfl rfl rfl (by decide) 0 rfl rfl rfl rfl hl.1 rfl (Nat.le_of_ble_eq_true rfl) dX9_walkItem_203 (fun r_647 u_r_647 H locs hw_r_647 hP hD hS => ?_)
              obtain ⟨ms2_648, rfl⟩ : ∃ z, z = u_r_647 := ⟨_, rfl⟩
              try dsimp only at hw_r_647
              obtain ⟨hw_r_647, i_649, i_650, i_651, i_652, i_653, i_654, i_655, i_656, i_657⟩ := hw_r_647
              have hP : va_P D vwCl [(ywa, .inl (cI, 6, .inl a8)), (yta, .inl (cI, 120, .inl tp)), (h0, .inr (9, [.ref ys, .ref yk, .ref yo, .ref yt, .int mk0, .ref yfa, .ref yfe, .int mL, .int mS, .int mM, .ref yro, .ref yhe, .ref ygr, .int mF, .int mC, .int mY, .ref yta, .int (nI (mz)), .int (nI (f2_592)), .int (nI (t2_593)), .int v2_594, .int w2_595, .ref ywa, .ref ybi, .ref ysi, .ref ynu, .ref ymo])), (ys, .inl (cI, 449, .inl ms2_648))] H := hP
              have hD : va_D A [(ywa, .inl (cI, 6, .inl a8)), (yta, .inl (cI, 120, .inl tp)), (h0, .inr (9, [.ref ys, .ref yk, .ref yo, .ref yt, .int mk0, .ref yfa, .ref yfe, .int mL, .int mS, .int mM, .ref yro, .ref yhe, .ref ygr, .int mF, .int mC, .int mY, .ref yta, .int (nI (mz)), .int (nI (f2_592)), .int (nI (t2_593)), .int v2_594, .int w2_595, .ref ywa, .ref ybi, .ref ysi, .ref ynu, .ref ymo])), (ys, .inl (cI, 449, .inl ms2_648))] := hD
              subst hw_r_647
              refine lv_imul hx hb dX9_walkItem_206 ?_
              refine xl_i (y := nI (9 * Wn)) (pk_mul 9 Wn) ?_
              refine lv_iadd hx hb dX9_walkItem_207 ?_
              refine xl_i (y := nI (377 + (9 * Wn))) (nI_add 377 (9 * Wn)) ?_
              refine lv_istore (lv' := [(4, .int (nI (377 + (9 * Wn)))), (3, .int 0), (2, .int v2_594), (1, .int (nI (n8))), (0, .ref h0)]) hx hb dX9_walkItem_208 hl (by decide) rfl (fun ls hl => ?_)
              refine lv_aload_n hx hb dX9_walkItem_210 rfl (lv_at hl 4 rfl) ?_
              refine xg hF kf_X9_7 hK hP 2 rfl rfl dX9_walkItem_211 ?_
              refine lv_iload hx hb dX9_walkItem_214 (lv_at hl 0 rfl) ?_
              refine lv_iload_n hx hb dX9_walkItem_216 rfl (lv_at hl 3 rfl) ?_
              refine va_iast hx hb hK hP hD hS 3 0 rfl rfl (vp_in_nI (show 377 + (9 * Wn) < 449 by omega) (by decide)) dX9_walkItem_217 (fun H locs hP hD hS => ?_)
              rw [nI_clamp (show 377 + (9 * Wn) < 2 ^ 31 by omega)] at hP hD
              obtain ⟨f_658, ef_658⟩ : ∃ g, g = upd ms2_648 (377 + (9 * Wn)) (nI (n8)) := ⟨_, rfl⟩
              rw [← ef_658] at hP hD
              have k0_f_658 : f_658 0 = nI P := by rw [ef_658]; exact (pk_un (show 0 ≠ (377 + (9 * Wn)) by omega)).trans i_649
              have k1_f_658 : f_658 1 = nI Rn := by rw [ef_658]; exact (pk_un (show 1 ≠ (377 + (9 * Wn)) by omega)).trans i_650
              have k2_f_658 : f_658 2 = nI (Wn + 1) := by rw [ef_658]; exact (pk_un (show 2 ≠ (377 + (9 * Wn)) by omega)).trans i_651
              have kS_f_658 : SI f_658 := by rw [ef_658]; exact SI.upd i_652 (okS.wl (w := Wn) (q := n8) (by omega) (by omega) (by omega))
              have kM_f_658 : MI f_658 := by rw [ef_658]; exact MI.upd i_653 (okM.out (show (377 + (9 * Wn)) < 13 ∨ 113 ≤ (377 + (9 * Wn)) by omega))
              have kR_f_658 : RI Rn f_658 := by rw [ef_658]; exact RI.upd i_657 (fun r9 hr9 e9 => by omega)
              have hP : va_P D vwCl [(ywa, .inl (cI, 6, .inl a8)), (yta, .inl (cI, 120, .inl tp)), (h0, .inr (9, [.ref ys, .ref yk, .ref yo, .ref yt, .int mk0, .ref yfa, .ref yfe, .int mL, .int mS, .int mM, .ref yro, .ref yhe, .ref ygr, .int mF, .int mC, .int mY, .ref yta, .int (nI (mz)), .int (nI (f2_592)), .int (nI (t2_593)), .int v2_594, .int w2_595, .ref ywa, .ref ybi, .ref ysi, .ref ynu, .ref ymo])), (ys, .inl (cI, 449, .inl f_658))] H := hP
              have hD : va_D A [(ywa, .inl (cI, 6, .inl a8)), (yta, .inl (cI, 120, .inl tp)), (h0, .inr (9, [.ref ys, .ref yk, .ref yo, .ref yt, .int mk0, .ref yfa, .ref yfe, .int mL, .int mS, .int mM, .ref yro, .ref yhe, .ref ygr, .int mF, .int mC, .int mY, .ref yta, .int (nI (mz)), .int (nI (f2_592)), .int (nI (t2_593)), .int v2_594, .int w2_595, .ref ywa, .ref ybi, .ref ysi, .ref ynu, .ref ymo])), (ys, .inl (cI, 449, .inl f_658))] := hD
              refine lv_iconst (v := 2) hx hb dX9_walkItem_218 (by decide) ?_
              refine lv_istore (lv' := [(5, .int 2), (4, .int (nI (377 + (9 * Wn)))), (3, .int 0), (2, .int v2_594), (1, .int (nI (n8))), (0, .ref h0)]) hx hb dX9_walkItem_219 hl (by decide) rfl (fun ls hl => ?_)
              suffices loop_221 : ∀ (n_221 : Nat) (i : Nat) (s8 : Nat → Int32) (H : Heap) (locs : List Loc) (ls : Array Slot), n8 - i < n_221 → (2 ≤ i) → (i ≤ n8) → (s8 0 = nI P) → (s8 1 = nI Rn) → (s8 2 = nI (Wn + 1)) → (SI s8) → (MI s8) → (P ≤ 10) → (Rn ≤ 8) → (Wn + 1 ≤ 8) → (RI Rn s8) → va_P D vwCl [(ywa, .inl (cI, 6, .inl a8)), (yta, .inl (cI, 120, .inl tp)), (h0, .inr (9, [.ref ys, .ref yk, .ref yo, .ref yt, .int mk0, .ref yfa, .ref yfe, .int mL, .int mS, .int mM, .ref yro, .ref yhe, .ref ygr, .int mF, .int mC, .int mY, .ref yta, .int (nI (mz)), .int (nI (f2_592)), .int (nI (t2_593)), .int v2_594, .int w2_595, .ref ywa, .ref ybi, .ref ysi, .ref ynu, .ref ymo])), (ys, .inl (cI, 449, .inl s8))] H → va_D A [(ywa, .inl (cI, 6, .inl a8)), (yta, .inl (cI, 120, .inl tp)), (h0, .inr (9, [.ref ys, .ref yk, .ref yo, .ref yt, .int mk0, .ref yfa, .ref yfe, .int mL, .int mS, .int mM, .ref yro, .ref yhe, .ref ygr, .int mF, .int mC, .int mY, .ref yta, .int (nI (mz)), .int (nI (f2_592)), .int (nI (t2_593)), .int v2_594, .int w2_595, .ref ywa, .ref ybi, .ref ysi, .ref ynu, .ref ymo])), (ys, .inl (cI, 449, .inl s8))] → va_S A s.heap H locs → lv_has ls 6 [(5, .int (nI (i))), (4, .int (nI (377 + (9 * Wn)))), (3, .int 0), (2, .int v2_594), (1, .int (nI (n8))), (0, .ref h0)] → W p l e ({ frames := 6, cells := 0, slots := 0, locals := 136 }) s m ([.ref h0] : List Value).toArray below meth c H locs 0 0 (MQ below (XQv (fun (u : Nat × Nat × Int32 × Int32 × (Nat → Int32) × (Nat → Int32) × Nat) => match u with | (f2, t2, v2, w2, ms2, wa2, W2) => (f2 ≤ mz) ∧ (t2 ≤ mz) ∧ (f2 ≤ t2) ∧ (f2 < t2 ∨ f2 = mz) ∧ (mf ≤ f2) ∧ (w2 = 0 → mw = 0 ∧ True) ∧ (ms2 0 = nI P) ∧ (ms2 1 = nI Rn) ∧ (ms2 2 = nI W2) ∧ (SI ms2) ∧ (MI ms2) ∧ (P ≤ 10) ∧ (Rn ≤ 8) ∧ (W2 ≤ 8) ∧ (RI Rn ms2)) D (fun (u : Nat × Nat × Int32 × Int32 × (Nat → Int32) × (Nat → Int32) × Nat) => match u with | (f2, t2, v2, w2, ms2, wa2, W2) => [(h0, .inr (9, [.ref ys, .ref yk, .ref yo, .ref yt, .int mk0, .ref yfa, .ref yfe, .int mL, .int mS, .int mM, .ref yro, .ref yhe, .ref ygr, .int mF, .int mC, .int mY, .ref yta, .int (nI (mz)), .int (nI (f2)), .int (nI (t2)), .int v2, .int w2, .ref ywa, .ref ybi, .ref ysi, .ref ynu, .ref ymo])), (ys, .inl (cI, 449, .inl ms2)), (yta, .inl (cI, 120, .inl tp)), (ywa, .inl (cI, 6, .inl wa2))]) A) ([.ref h0] : List Value).toArray s 0 0 A) (F0 m 221 ls []) by
                exact loop_221 _ 2 f_658 _ _ _ (Nat.lt_succ_self _) (by omega) (by omega) k0_f_658 k1_f_658 k2_f_658 kS_f_658 kM_f_658 i_654 i_655 i_656 kR_f_658 hP hD hS (lv_sub hl [0, 1, 2, 3, 4, 5] rfl)
              intro n_221
              induction n_221 with
              | zero =>
                intro i s8 H locs ls hm_221
                exact absurd hm_221 (Nat.not_lt_zero _)
              | succ n_221 ih_221 =>
                intro i s8 H locs ls hm_221 hi2 hi ht0 ht1 ht2 htS htM htp htr htw htR hP hD hS hl
                refine lv_iload hx hb dX9_walkItem_221 (lv_at hl 0 rfl) ?_
                refine lv_iload_n hx hb dX9_walkItem_223 rfl (lv_at hl 4 rfl) ?_
                refine lv_icmp_ge (tgt := 252) hx hb dX9_walkItem_224 (by decide) (fun c_659 => ?_) (fun c_659 => ?_)
                · skip
                  have nc_659 : n8 ≤ i := xn_le (a := n8) (b := i) (by omega) (by omega) c_659
                  exact W.vret hx hb hr (fun t ht hW => ⟨⟨(f2_592, t2_593, v2_594, w2_595, s8, a8, Wn + 1), rfl, ⟨(by first | assumption | omega), (by first | assumption | omega), (by first | assumption | omega), (by first | assumption | omega), (by first | assumption | omega), (fun h => ⟨(i_578 (hc8 (i_590 (i_601 h).1).1).1).1, trivial⟩), ht0, ht1, ht2, htS, htM, htp, htr, htw, htR⟩, by rw [ht]; exact hP.sub [2, 3, 1, 0] rfl, hD.sub [2, 3, 1, 0] (by decide) rfl⟩, hS.F ht⟩) hS.2.2 dX9_walkItem_252 hlk
                · skip
                  have nc_659 : i < n8 := xn_nle (a := n8) (b := i) (by omega) (by omega) c_659
                  refine lv_aload_n hx hb dX9_walkItem_227 rfl (lv_at hl 5 rfl) ?_
                  refine xg hF kf_X9_7 hK hP 2 rfl rfl dX9_walkItem_228 ?_
                  refine lv_iload hx hb dX9_walkItem_231 (lv_at hl 1 rfl) ?_
                  refine lv_iconst (v := 3) hx hb dX9_walkItem_233 (by decide) ?_
                  refine lv_iadd hx hb dX9_walkItem_234 ?_
                  refine xl_i (y := nI (377 + (9 * Wn) + 3)) (nI_add (377 + (9 * Wn)) 3) ?_
                  refine lv_iload hx hb dX9_walkItem_235 (lv_at hl 0 rfl) ?_
                  refine lv_iadd hx hb dX9_walkItem_237 ?_
                  refine xl_i (y := nI (377 + (9 * Wn) + 3 + i)) (nI_add (377 + (9 * Wn) + 3) i) ?_
                  refine lv_aload_n hx hb dX9_walkItem_238 rfl (lv_at hl 5 rfl) ?_
                  refine xg hF kf_X9_40 hK hP 2 rfl rfl dX9_walkItem_239 ?_
                  refine lv_iload hx hb dX9_walkItem_242 (lv_at hl 0 rfl) ?_
                  refine va_iald hx hb hK hP 0 0 rfl rfl (vp_in_nI (show i < 6 by omega) (by decide)) dX9_walkItem_244 ?_
                  refine xl_i (y := a8 i) (congrArg a8 (nI_clamp (show i < 2 ^ 31 by omega))) ?_
                  obtain ⟨z_660, ez_660, hz_6600⟩ := wk_A.get hA8 (i_590 (i_601 c_644).1).1 (show i < n8 by omega)
                  refine xl_i (y := nI (z_660)) ez_660 ?_
                  refine va_iast hx hb hK hP hD hS 3 0 rfl rfl (vp_in_nI (show 377 + (9 * Wn) + 3 + i < 449 by omega) (by decide)) dX9_walkItem_245 (fun H locs hP hD hS => ?_)
                  rw [nI_clamp (show 377 + (9 * Wn) + 3 + i < 2 ^ 31 by omega)] at hP hD
                  obtain ⟨f_661, ef_661⟩ : ∃ g, g = upd s8 (377 + (9 * Wn) + 3 + i) (nI (z_660)) := ⟨_, rfl⟩
                  rw [← ef_661] at hP hD
                  have k0_f_661 : f_661 0 = nI P := by rw [ef_661]; exact (pk_un (show 0 ≠ (377 + (9 * Wn) + 3 + i) by omega)).trans ht0
                  have k1_f_661 : f_661 1 = nI Rn := by rw [ef_661]; exact (pk_un (show 1 ≠ (377 + (9 * Wn) + 3 + i) by omega)).trans ht1
                  have k2_f_661 : f_661 2 = nI (Wn + 1) := by rw [ef_661]; exact (pk_un (show 2 ≠ (377 + (9 * Wn) + 3 + i) by omega)).trans ht2
                  have kS_f_661 : SI f_661 := by rw [ef_661]; exact SI.upd htS (okS.ws (w := Wn) (i := i) (by omega) (by omega) (by omega) (show z_660 < 10 by omega))
                  have kM_f_661 : MI f_661 := by rw [ef_661]; exact MI.upd htM (okM.out (show (377 + (9 * Wn) + 3 + i) < 13 ∨ 113 ≤ (377 + (9 * Wn) + 3 + i) by omega))
                  have kR_f_661 : RI Rn f_661 := by rw [ef_661]; exact RI.upd htR (fun r9 hr9 e9 => by omega)
                  have hP : va_P D vwCl [(ywa, .inl (cI, 6, .inl a8)), (yta, .inl (cI, 120, .inl tp)), (h0, .inr (9, [.ref ys, .ref yk, .ref yo, .ref yt, .int mk0, .ref yfa, .ref yfe, .int mL, .int mS, .int mM, .ref yro, .ref yhe, .ref ygr, .int mF, .int mC, .int mY, .ref yta, .int (nI (mz)), .int (nI (f2_592)), .int (nI (t2_593)), .int v2_594, .int w2_595, .ref ywa, .ref ybi, .ref ysi, .ref ynu, .ref ymo])), (ys, .inl (cI, 449, .inl f_661))] H := hP
                  have hD : va_D A [(ywa, .inl (cI, 6, .inl a8)), (yta, .inl (cI, 120, .inl tp)), (h0, .inr (9, [.ref ys, .ref yk, .ref yo, .ref yt, .int mk0, .ref yfa, .ref yfe, .int mL, .int mS, .int mM, .ref yro, .ref yhe, .ref ygr, .int mF, .int mC, .int mY, .ref yta, .int (nI (mz)), .int (nI (f2_592)), .int (nI (t2_593)), .int v2_594, .int w2_595, .ref ywa, .ref ybi, .ref ysi, .ref ynu, .ref ymo])), (ys, .inl (cI, 449, .inl f_661))] := hD
                  refine lv_iinc (v := nI (i + 1)) (lv' := [(5, .int (nI (i + 1))), (4, .int (nI (377 + (9 * Wn)))), (3, .int 0), (2, .int v2_594), (1, .int (nI (n8))), (0, .ref h0)]) hx hb dX9_walkItem_246 hl (k := 0) rfl (nI_1 (i)) (by decide) rfl (fun ls hl => ?_)
                  refine lv_goto (tgt := 221) hx hb dX9_walkItem_249 (by decide) ?_
                  exact ih_221 (i + 1) f_661 _ _ _ (by omega) (by omega) (by omega) k0_f_661 k1_f_661 k2_f_661 kS_f_661 kM_f_661 htp htr htw kR_f_661 (hP.sub [0, 1, 2, 3] rfl) (hD.sub [0, 1, 2, 3] (by decide) rfl) hS (lv_sub hl [0, 1, 2, 3, 4, 5] rfl)
        · skip
          refine xc_Vv (wr := [(ys, .inl (cI, 449, .inl ms)), (ywa, .inl (cI, 6, .inl a8))]) hF (c_X9_needs l D cI cJ cZ cS ta sa sv H.size h0 ys yk yo yt mk0 yfa yfe mL mS mM yro yhe ygr mF mC mY yta mz f8 t8 mv w8 ywa ybi ysi ynu ymo tp 0 (by omega) (by omega) (by omega) (by omega) (by omega)) kv_X9_278 ⟨rfl, rfl, Nat.le_of_ble_eq_true rfl, Nat.le_of_ble_eq_true rfl⟩ ⟨Nat.le_of_ble_eq_true rfl, Nat.le_of_ble_eq_true rfl⟩ hK hN hZ hP hD hS hA [2, 3] [0, 1] rfl rfl rfl rfl (by decide) 0 rfl rfl rfl rfl hl.1 rfl (Nat.le_of_ble_eq_true rfl) dX9_walkItem_120 (fun u_r_662 H locs hw_r_662 hP hD hS => ?_)
          obtain ⟨f2_663, t2_664, w2_665⟩ := u_r_662
          try dsimp only at hw_r_662
          obtain ⟨i_666, i_667, i_668, i_669, i_670, i_671⟩ := hw_r_662
          have hP : va_P D vwCl [(ys, .inl (cI, 449, .inl ms)), (ywa, .inl (cI, 6, .inl a8)), (h0, .inr (9, [.ref ys, .ref yk, .ref yo, .ref yt, .int mk0, .ref yfa, .ref yfe, .int mL, .int mS, .int mM, .ref yro, .ref yhe, .ref ygr, .int mF, .int mC, .int mY, .ref yta, .int (nI (mz)), .int (nI (f2_663)), .int (nI (t2_664)), .int mv, .int w2_665, .ref ywa, .ref ybi, .ref ysi, .ref ynu, .ref ymo])), (yta, .inl (cI, 120, .inl tp))] H := hP
          have hD : va_D A [(ys, .inl (cI, 449, .inl ms)), (ywa, .inl (cI, 6, .inl a8)), (h0, .inr (9, [.ref ys, .ref yk, .ref yo, .ref yt, .int mk0, .ref yfa, .ref yfe, .int mL, .int mS, .int mM, .ref yro, .ref yhe, .ref ygr, .int mF, .int mC, .int mY, .ref yta, .int (nI (mz)), .int (nI (f2_663)), .int (nI (t2_664)), .int mv, .int w2_665, .ref ywa, .ref ybi, .ref ysi, .ref ynu, .ref ymo])), (yta, .inl (cI, 120, .inl tp))] := hD
          refine lv_aload_n hx hb dX9_walkItem_123 rfl (lv_at hl 1 rfl) ?_
          refine lv_sipush (v := (-9999)) hx hb dX9_walkItem_124 (by decide) ?_
          refine lv_sipush (v := 9999) hx hb dX9_walkItem_127 (by decide) ?_
          refine xc_Vv (wr := [(ys, .inl (cI, 449, .inl ms)), (ywa, .inl (cI, 6, .inl a8))]) hF (c_X9_mile l D cI cJ cZ cS ta sa sv H.size h0 ys yk yo yt mk0 yfa yfe mL mS mM yro yhe ygr mF mC mY yta mz f2_663 t2_664 mv w2_665 ywa ybi ysi ynu ymo tp (-9999) 9999 (by omega) (by omega) (by omega) (by omega) (by omega)) kv_X9_287 ⟨rfl, rfl, Nat.le_of_ble_eq_true rfl, Nat.le_of_ble_eq_true rfl⟩ ⟨Nat.le_of_ble_eq_true rfl, Nat.le_of_ble_eq_true rfl⟩ hK hN hZ hP hD hS hA [2, 3] [0, 1] rfl rfl rfl rfl (by decide) 0 rfl rfl rfl rfl hl.1 rfl (Nat.le_of_ble_eq_true rfl) dX9_walkItem_130 (fun u_r_672 H locs hw_r_672 hP hD hS => ?_)
          obtain ⟨f2_673, t2_674, v2_675, w2_676⟩ := u_r_672
          try dsimp only at hw_r_672
          obtain ⟨i_677, i_678, i_679, i_680, i_681, i_682⟩ := hw_r_672
          have hP : va_P D vwCl [(ys, .inl (cI, 449, .inl ms)), (ywa, .inl (cI, 6, .inl a8)), (h0, .inr (9, [.ref ys, .ref yk, .ref yo, .ref yt, .int mk0, .ref yfa, .ref yfe, .int mL, .int mS, .int mM, .ref yro, .ref yhe, .ref ygr, .int mF, .int mC, .int mY, .ref yta, .int (nI (mz)), .int (nI (f2_673)), .int (nI (t2_674)), .int v2_675, .int w2_676, .ref ywa, .ref ybi, .ref ysi, .ref ynu, .ref ymo])), (yta, .inl (cI, 120, .inl tp))] H := hP
          have hD : va_D A [(ys, .inl (cI, 449, .inl ms)), (ywa, .inl (cI, 6, .inl a8)), (h0, .inr (9, [.ref ys, .ref yk, .ref yo, .ref yt, .int mk0, .ref yfa, .ref yfe, .int mL, .int mS, .int mM, .ref yro, .ref yhe, .ref ygr, .int mF, .int mC, .int mY, .ref yta, .int (nI (mz)), .int (nI (f2_673)), .int (nI (t2_674)), .int v2_675, .int w2_676, .ref ywa, .ref ybi, .ref ysi, .ref ynu, .ref ymo])), (yta, .inl (cI, 120, .inl tp))] := hD
          refine lv_aload_n hx hb dX9_walkItem_133 rfl (lv_at hl 1 rfl) ?_
          refine xg hF kf_X9_275 hK hP 2 rfl rfl dX9_walkItem_134 ?_
          refine lv_istore_n (lv' := [(2, .int v2_675), (1, .int (nI (n8))), (0, .ref h0)]) hx hb dX9_walkItem_137 rfl hl (by decide) rfl (fun ls hl => ?_)
          refine lv_iconst (v := 0) hx hb dX9_walkItem_138 (by decide) ?_
          refine lv_istore_n (lv' := [(3, .int 0), (2, .int v2_675), (1, .int (nI (n8))), (0, .ref h0)]) hx hb dX9_walkItem_139 rfl hl (by decide) rfl (fun ls hl => ?_)
          refine lv_aload_n hx hb dX9_walkItem_140 rfl (lv_at hl 3 rfl) ?_
          refine lv_bipush (v := 115) hx hb dX9_walkItem_141 (by decide) ?_
          refine lv_bipush (v := 108) hx hb dX9_walkItem_143 (by decide) ?_
          refine lv_bipush (v := 97) hx hb dX9_walkItem_145 (by decide) ?_
          refine lv_bipush (v := 99) hx hb dX9_walkItem_147 (by decide) ?_
          refine lv_bipush (v := 107) hx hb dX9_walkItem_149 (by decide) ?_
          refine lv_iconst (v := 0) hx hb dX9_walkItem_151 (by decide) ?_
          refine lv_iconst (v := 0) hx hb dX9_walkItem_152 (by decide) ?_
          refine xc_Vr hF (c_X9_isWord l D cI cJ cZ cS ta sa sv H.size h0 ys yk yo yt mk0 yfa yfe mL mS mM yro yhe ygr mF mC mY yta mz f2_673 t2_674 v2_675 w2_676 ywa ybi ysi ynu ymo tp 115 108 97 99 107 0 0 (by omega) (by omega)) kv_X9_290 ⟨rfl, rfl, Nat.le_of_ble_eq_true rfl, Nat.le_of_ble_eq_true rfl⟩ ⟨Nat.le_of_ble_eq_true rfl, Nat.le_of_ble_eq_true rfl⟩ hK hN hZ hP hD hS hA [2, 3] rfl rfl 0 rfl rfl rfl rfl hl.1 rfl (Nat.le_of_ble_eq_true rfl) dX9_walkItem_153 (fun r_683 hw_r_683 => ?_)
          rcases hw_r_683 with rfl | rfl
          · skip
            refine lv_if_eq (tgt := 176) hx hb dX9_walkItem_156 (by decide) (fun c_684 => absurd c_684 (by decide)) (fun c_684 => ?_)
            refine lv_aload_n hx hb dX9_walkItem_159 rfl (lv_at hl 3 rfl) ?_
            refine lv_iconst (v := 1) hx hb dX9_walkItem_160 (by decide) ?_
            refine xc_Vv (wr := [(ys, .inl (cI, 449, .inl ms)), (ywa, .inl (cI, 6, .inl a8))]) hF (c_X9_needs l D cI cJ cZ cS ta sa sv H.size h0 ys yk yo yt mk0 yfa yfe mL mS mM yro yhe ygr mF mC mY yta mz f2_673 t2_674 v2_675 w2_676 ywa ybi ysi ynu ymo tp 1 (by omega) (by omega) (by omega) (by omega) (by omega)) kv_X9_278 ⟨rfl, rfl, Nat.le_of_ble_eq_true rfl, Nat.le_of_ble_eq_true rfl⟩ ⟨Nat.le_of_ble_eq_true rfl, Nat.le_of_ble_eq_true rfl⟩ hK hN hZ hP hD hS hA [2, 3] [0, 1] rfl rfl rfl rfl (by decide) 0 rfl rfl rfl rfl hl.1 rfl (Nat.le_of_ble_eq_true rfl) dX9_walkItem_161 (fun u_r_685 H locs hw_r_685 hP hD hS => ?_)
            obtain ⟨f2_686, t2_687, w2_688⟩ := u_r_685
            try dsimp only at hw_r_685
            obtain ⟨i_689, i_690, i_691, i_692, i_693, i_694⟩ := hw_r_685
            have hP : va_P D vwCl [(ys, .inl (cI, 449, .inl ms)), (ywa, .inl (cI, 6, .inl a8)), (h0, .inr (9, [.ref ys, .ref yk, .ref yo, .ref yt, .int mk0, .ref yfa, .ref yfe, .int mL, .int mS, .int mM, .ref yro, .ref yhe, .ref ygr, .int mF, .int mC, .int mY, .ref yta, .int (nI (mz)), .int (nI (f2_686)), .int (nI (t2_687)), .int v2_675, .int w2_688, .ref ywa, .ref ybi, .ref ysi, .ref ynu, .ref ymo])), (yta, .inl (cI, 120, .inl tp))] H := hP
            have hD : va_D A [(ys, .inl (cI, 449, .inl ms)), (ywa, .inl (cI, 6, .inl a8)), (h0, .inr (9, [.ref ys, .ref yk, .ref yo, .ref yt, .int mk0, .ref yfa, .ref yfe, .int mL, .int mS, .int mM, .ref yro, .ref yhe, .ref ygr, .int mF, .int mC, .int mY, .ref yta, .int (nI (mz)), .int (nI (f2_686)), .int (nI (t2_687)), .int v2_675, .int w2_688, .ref ywa, .ref ybi, .ref ysi, .ref ynu, .ref ymo])), (yta, .inl (cI, 120, .inl tp))] := hD
            refine lv_aload_n hx hb dX9_walkItem_164 rfl (lv_at hl 3 rfl) ?_
            refine lv_iconst (v := 0) hx hb dX9_walkItem_165 (by decide) ?_
            refine lv_bipush (v := 99) hx hb dX9_walkItem_166 (by decide) ?_
            refine xc_Vv (wr := [(ys, .inl (cI, 449, .inl ms)), (ywa, .inl (cI, 6, .inl a8))]) hF (c_X9_number l D cI cJ cZ cS ta sa sv H.size h0 ys yk yo yt mk0 yfa yfe mL mS mM yro yhe ygr mF mC mY yta mz f2_686 t2_687 v2_675 w2_688 ywa ybi ysi ynu ymo tp 0 99 (by omega) (by omega) (by omega) (by omega) (by omega)) kv_X9_282 ⟨rfl, rfl, Nat.le_of_ble_eq_true rfl, Nat.le_of_ble_eq_true rfl⟩ ⟨Nat.le_of_ble_eq_true rfl, Nat.le_of_ble_eq_true rfl⟩ hK hN hZ hP hD hS hA [2, 3] [0, 1] rfl rfl rfl rfl (by decide) 0 rfl rfl rfl rfl hl.1 rfl (Nat.le_of_ble_eq_true rfl) dX9_walkItem_168 (fun u_r_695 H locs hw_r_695 hP hD hS => ?_)
            obtain ⟨f2_696, t2_697, v2_698, w2_699⟩ := u_r_695
            try dsimp only at hw_r_695
            obtain ⟨i_700, i_701, i_702, i_703, i_704, i_705⟩ := hw_r_695
            have hP : va_P D vwCl [(ys, .inl (cI, 449, .inl ms)), (ywa, .inl (cI, 6, .inl a8)), (h0, .inr (9, [.ref ys, .ref yk, .ref yo, .ref yt, .int mk0, .ref yfa, .ref yfe, .int mL, .int mS, .int mM, .ref yro, .ref yhe, .ref ygr, .int mF, .int mC, .int mY, .ref yta, .int (nI (mz)), .int (nI (f2_696)), .int (nI (t2_697)), .int v2_698, .int w2_699, .ref ywa, .ref ybi, .ref ysi, .ref ynu, .ref ymo])), (yta, .inl (cI, 120, .inl tp))] H := hP
            have hD : va_D A [(ys, .inl (cI, 449, .inl ms)), (ywa, .inl (cI, 6, .inl a8)), (h0, .inr (9, [.ref ys, .ref yk, .ref yo, .ref yt, .int mk0, .ref yfa, .ref yfe, .int mL, .int mS, .int mM, .ref yro, .ref yhe, .ref ygr, .int mF, .int mC, .int mY, .ref yta, .int (nI (mz)), .int (nI (f2_696)), .int (nI (t2_697)), .int v2_698, .int w2_699, .ref ywa, .ref ybi, .ref ysi, .ref ynu, .ref ymo])), (yta, .inl (cI, 120, .inl tp))] := hD
            refine lv_aload_n hx hb dX9_walkItem_171 rfl (lv_at hl 3 rfl) ?_
            refine xg hF kf_X9_275 hK hP 2 rfl rfl dX9_walkItem_172 ?_
            refine lv_istore_n (lv' := [(3, .int v2_698), (2, .int v2_675), (1, .int (nI (n8))), (0, .ref h0)]) hx hb dX9_walkItem_175 rfl hl (by decide) rfl (fun ls hl => ?_)
            refine lv_aload_n hx hb dX9_walkItem_176 rfl (lv_at hl 3 rfl) ?_
            refine xg hF kf_X9_266 hK hP 2 rfl rfl dX9_walkItem_177 ?_
            refine lv_if_ne (tgt := 252) hx hb dX9_walkItem_180 (by decide) (fun c_706 => ?_) (fun c_706 => absurd rfl (i_671 (i_682 (i_694 (i_705 c_706).1).1).1).2.1)
            exact W.vret hx hb hr (fun t ht hW => ⟨⟨(f2_696, t2_697, v2_698, w2_699, ms, a8, Wn), rfl, ⟨(by first | assumption | omega), (by first | assumption | omega), (by first | assumption | omega), (by first | assumption | omega), (by first | assumption | omega), (fun h => ⟨(i_578 (hc8 (i_671 (i_682 (i_694 (i_705 h).1).1).1).1).1).1, trivial⟩), hs0, hs1, hs2, hsS, hsM, hsp, hsr, hsw, hsR⟩, by rw [ht]; exact hP.sub [2, 0, 3, 1] rfl, hD.sub [2, 0, 3, 1] (by decide) rfl⟩, hS.F ht⟩) hS.2.2 dX9_walkItem_252 hlk
          · skip
            refine lv_if_eq (tgt := 176) hx hb dX9_walkItem_156 (by decide) (fun c_707 => ?_) (fun c_707 => absurd (by decide) c_707)
            refine lv_aload_n hx hb dX9_walkItem_176 rfl (lv_at hl 3 rfl) ?_
            refine xg hF kf_X9_266 hK hP 2 rfl rfl dX9_walkItem_177 ?_
            refine lv_if_ne (tgt := 252) hx hb dX9_walkItem_180 (by decide) (fun c_708 => ?_) (fun c_708 => absurd rfl (i_671 (i_682 c_708).1).2.1)
            exact W.vret hx hb hr (fun t ht hW => ⟨⟨(f2_673, t2_674, v2_675, w2_676, ms, a8, Wn), rfl, ⟨(by first | assumption | omega), (by first | assumption | omega), (by first | assumption | omega), (by first | assumption | omega), (by first | assumption | omega), (fun h => ⟨(i_578 (hc8 (i_671 (i_682 h).1).1).1).1, trivial⟩), hs0, hs1, hs2, hsS, hsM, hsp, hsr, hsw, hsR⟩, by rw [ht]; exact hP.sub [2, 0, 3, 1] rfl, hD.sub [2, 0, 3, 1] (by decide) rfl⟩, hS.F ht⟩) hS.2.2 dX9_walkItem_252 hlk
      · skip
        refine lv_iload_n hx hb dX9_walkItem_29 rfl (lv_at hl 0 rfl) ?_
        refine lv_bipush (v := 6) hx hb dX9_walkItem_30 (by decide) ?_
        refine lv_icmp_ge (tgt := 105) hx hb dX9_walkItem_32 (by decide) (fun c_709 => ?_) (fun c_709 => ?_)
        · skip
          have nc_709 : 6 ≤ n8 := xn_le (a := 6) (b := n8) (by omega) (by omega) c_709
          refine lv_aload_n hx hb dX9_walkItem_105 rfl (lv_at hl 1 rfl) ?_
          refine lv_aload_n hx hb dX9_walkItem_106 rfl (lv_at hl 1 rfl) ?_
          refine lv_bipush (v := 97) hx hb dX9_walkItem_107 (by decide) ?_
          refine lv_bipush (v := 108) hx hb dX9_walkItem_109 (by decide) ?_
          refine lv_bipush (v := 108) hx hb dX9_walkItem_111 (by decide) ?_
          refine lv_iconst (v := 0) hx hb dX9_walkItem_113 (by decide) ?_
          refine lv_iconst (v := 0) hx hb dX9_walkItem_114 (by decide) ?_
          refine lv_iconst (v := 0) hx hb dX9_walkItem_115 (by decide) ?_
          refine lv_iconst (v := 0) hx hb dX9_walkItem_116 (by decide) ?_
          refine xc_Vr hF (c_X9_isWord l D cI cJ cZ cS ta sa sv H.size h0 ys yk yo yt mk0 yfa yfe mL mS mM yro yhe ygr mF mC mY yta mz f8 t8 mv w8 ywa ybi ysi ynu ymo tp 97 108 108 0 0 0 0 (by omega) (by omega)) kv_X9_290 ⟨rfl, rfl, Nat.le_of_ble_eq_true rfl, Nat.le_of_ble_eq_true rfl⟩ ⟨Nat.le_of_ble_eq_true rfl, Nat.le_of_ble_eq_true rfl⟩ hK hN hZ hP hD hS hA [2, 3] rfl rfl 0 rfl rfl rfl rfl hl.1 rfl (Nat.le_of_ble_eq_true rfl) dX9_walkItem_117 (fun r_710 hw_r_710 => ?_)
          rcases hw_r_710 with rfl | rfl
          · skip
            refine xc_Vv (wr := [(ys, .inl (cI, 449, .inl ms)), (ywa, .inl (cI, 6, .inl a8))]) hF (c_X9_needs l D cI cJ cZ cS ta sa sv H.size h0 ys yk yo yt mk0 yfa yfe mL mS mM yro yhe ygr mF mC mY yta mz f8 t8 mv w8 ywa ybi ysi ynu ymo tp 1 (by omega) (by omega) (by omega) (by omega) (by omega)) kv_X9_278 ⟨rfl, rfl, Nat.le_of_ble_eq_true rfl, Nat.le_of_ble_eq_true rfl⟩ ⟨Nat.le_of_ble_eq_true rfl, Nat.le_of_ble_eq_true rfl⟩ hK hN hZ hP hD hS hA [2, 3] [0, 1] rfl rfl rfl rfl (by decide) 0 rfl rfl rfl rfl hl.1 rfl (Nat.le_of_ble_eq_true rfl) dX9_walkItem_120 (fun u_r_711 H locs hw_r_711 hP hD hS => ?_)
            obtain ⟨f2_712, t2_713, w2_714⟩ := u_r_711
            try dsimp only at hw_r_711
            obtain ⟨i_715, i_716, i_717, i_718, i_719, i_720⟩ := hw_r_711
            have hP : va_P D vwCl [(ys, .inl (cI, 449, .inl ms)), (ywa, .inl (cI, 6, .inl a8)), (h0, .inr (9, [.ref ys, .ref yk, .ref yo, .ref yt, .int mk0, .ref yfa, .ref yfe, .int mL, .int mS, .int mM, .ref yro, .ref yhe, .ref ygr, .int mF, .int mC, .int mY, .ref yta, .int (nI (mz)), .int (nI (f2_712)), .int (nI (t2_713)), .int mv, .int w2_714, .ref ywa, .ref ybi, .ref ysi, .ref ynu, .ref ymo])), (yta, .inl (cI, 120, .inl tp))] H := hP
            have hD : va_D A [(ys, .inl (cI, 449, .inl ms)), (ywa, .inl (cI, 6, .inl a8)), (h0, .inr (9, [.ref ys, .ref yk, .ref yo, .ref yt, .int mk0, .ref yfa, .ref yfe, .int mL, .int mS, .int mM, .ref yro, .ref yhe, .ref ygr, .int mF, .int mC, .int mY, .ref yta, .int (nI (mz)), .int (nI (f2_712)), .int (nI (t2_713)), .int mv, .int w2_714, .ref ywa, .ref ybi, .ref ysi, .ref ynu, .ref ymo])), (yta, .inl (cI, 120, .inl tp))] := hD
            refine lv_aload_n hx hb dX9_walkItem_123 rfl (lv_at hl 1 rfl) ?_
            refine lv_sipush (v := (-9999)) hx hb dX9_walkItem_124 (by decide) ?_
            refine lv_sipush (v := 9999) hx hb dX9_walkItem_127 (by decide) ?_
            refine xc_Vv (wr := [(ys, .inl (cI, 449, .inl ms)), (ywa, .inl (cI, 6, .inl a8))]) hF (c_X9_mile l D cI cJ cZ cS ta sa sv H.size h0 ys yk yo yt mk0 yfa yfe mL mS mM yro yhe ygr mF mC mY yta mz f2_712 t2_713 mv w2_714 ywa ybi ysi ynu ymo tp (-9999) 9999 (by omega) (by omega) (by omega) (by omega) (by omega)) kv_X9_287 ⟨rfl, rfl, Nat.le_of_ble_eq_true rfl, Nat.le_of_ble_eq_true rfl⟩ ⟨Nat.le_of_ble_eq_true rfl, Nat.le_of_ble_eq_true rfl⟩ hK hN hZ hP hD hS hA [2, 3] [0, 1] rfl rfl rfl rfl (by decide) 0 rfl rfl rfl rfl hl.1 rfl (Nat.le_of_ble_eq_true rfl) dX9_walkItem_130 (fun u_r_721 H locs hw_r_721 hP hD hS => ?_)
            obtain ⟨f2_722, t2_723, v2_724, w2_725⟩ := u_r_721
            try dsimp only at hw_r_721
            obtain ⟨i_726, i_727, i_728, i_729, i_730, i_731⟩ := hw_r_721
            have hP : va_P D vwCl [(ys, .inl (cI, 449, .inl ms)), (ywa, .inl (cI, 6, .inl a8)), (h0, .inr (9, [.ref ys, .ref yk, .ref yo, .ref yt, .int mk0, .ref yfa, .ref yfe, .int mL, .int mS, .int mM, .ref yro, .ref yhe, .ref ygr, .int mF, .int mC, .int mY, .ref yta, .int (nI (mz)), .int (nI (f2_722)), .int (nI (t2_723)), .int v2_724, .int w2_725, .ref ywa, .ref ybi, .ref ysi, .ref ynu, .ref ymo])), (yta, .inl (cI, 120, .inl tp))] H := hP
            have hD : va_D A [(ys, .inl (cI, 449, .inl ms)), (ywa, .inl (cI, 6, .inl a8)), (h0, .inr (9, [.ref ys, .ref yk, .ref yo, .ref yt, .int mk0, .ref yfa, .ref yfe, .int mL, .int mS, .int mM, .ref yro, .ref yhe, .ref ygr, .int mF, .int mC, .int mY, .ref yta, .int (nI (mz)), .int (nI (f2_722)), .int (nI (t2_723)), .int v2_724, .int w2_725, .ref ywa, .ref ybi, .ref ysi, .ref ynu, .ref ymo])), (yta, .inl (cI, 120, .inl tp))] := hD
            refine lv_aload_n hx hb dX9_walkItem_133 rfl (lv_at hl 1 rfl) ?_
            refine xg hF kf_X9_275 hK hP 2 rfl rfl dX9_walkItem_134 ?_
            refine lv_istore_n (lv' := [(2, .int v2_724), (1, .int (nI (n8))), (0, .ref h0)]) hx hb dX9_walkItem_137 rfl hl (by decide) rfl (fun ls hl => ?_)
            refine lv_iconst (v := 0) hx hb dX9_walkItem_138 (by decide) ?_
            refine lv_istore_n (lv' := [(3, .int 0), (2, .int v2_724), (1, .int (nI (n8))), (0, .ref h0)]) hx hb dX9_walkItem_139 rfl hl (by decide) rfl (fun ls hl => ?_)
            refine lv_aload_n hx hb dX9_walkItem_140 rfl (lv_at hl 3 rfl) ?_
            refine lv_bipush (v := 115) hx hb dX9_walkItem_141 (by decide) ?_
            refine lv_bipush (v := 108) hx hb dX9_walkItem_143 (by decide) ?_
            refine lv_bipush (v := 97) hx hb dX9_walkItem_145 (by decide) ?_
            refine lv_bipush (v := 99) hx hb dX9_walkItem_147 (by decide) ?_
            refine lv_bipush (v := 107) hx hb dX9_walkItem_149 (by decide) ?_
            refine lv_iconst (v := 0) hx hb dX9_walkItem_151 (by decide) ?_
            refine lv_iconst (v := 0) hx hb dX9_walkItem_152 (by decide) ?_
            refine xc_Vr hF (c_X9_isWord l D cI cJ cZ cS ta sa sv H.size h0 ys yk yo yt mk0 yfa yfe mL mS mM yro yhe ygr mF mC mY yta mz f2_722 t2_723 v2_724 w2_725 ywa ybi ysi ynu ymo tp 115 108 97 99 107 0 0 (by omega) (by omega)) kv_X9_290 ⟨rfl, rfl, Nat.le_of_ble_eq_true rfl, Nat.le_of_ble_eq_true rfl⟩ ⟨Nat.le_of_ble_eq_true rfl, Nat.le_of_ble_eq_true rfl⟩ hK hN hZ hP hD hS hA [2, 3] rfl rfl 0 rfl rfl rfl rfl hl.1 rfl (Nat.le_of_ble_eq_true rfl) dX9_walkItem_153 (fun r_732 hw_r_732 => ?_)
            rcases hw_r_732 with rfl | rfl
            · skip
              refine lv_if_eq (tgt := 176) hx hb dX9_walkItem_156 (by decide) (fun c_733 => absurd c_733 (by decide)) (fun c_733 => ?_)
              refine lv_aload_n hx hb dX9_walkItem_159 rfl (lv_at hl 3 rfl) ?_
              refine lv_iconst (v := 1) hx hb dX9_walkItem_160 (by decide) ?_
              refine xc_Vv (wr := [(ys, .inl (cI, 449, .inl ms)), (ywa, .inl (cI, 6, .inl a8))]) hF (c_X9_needs l D cI cJ cZ cS ta sa sv H.size h0 ys yk yo yt mk0 yfa yfe mL mS mM yro yhe ygr mF mC mY yta mz f2_722 t2_723 v2_724 w2_725 ywa ybi ysi ynu ymo tp 1 (by omega) (by omega) (by omega) (by omega) (by omega)) kv_X9_278 ⟨rfl, rfl, Nat.le_of_ble_eq_true rfl, Nat.le_of_ble_eq_true rfl⟩ ⟨Nat.le_of_ble_eq_true rfl, Nat.le_of_ble_eq_true rfl⟩ hK hN hZ hP hD hS hA [2, 3] [0, 1] rfl rfl rfl rfl (by decide) 0 rfl rfl rfl rfl hl.1 rfl (Nat.le_of_ble_eq_true rfl) dX9_walkItem_161 (fun u_r_734 H locs hw_r_734 hP hD hS => ?_)
              obtain ⟨f2_735, t2_736, w2_737⟩ := u_r_734
              try dsimp only at hw_r_734
              obtain ⟨i_738, i_739, i_740, i_741, i_742, i_743⟩ := hw_r_734
              have hP : va_P D vwCl [(ys, .inl (cI, 449, .inl ms)), (ywa, .inl (cI, 6, .inl a8)), (h0, .inr (9, [.ref ys, .ref yk, .ref yo, .ref yt, .int mk0, .ref yfa, .ref yfe, .int mL, .int mS, .int mM, .ref yro, .ref yhe, .ref ygr, .int mF, .int mC, .int mY, .ref yta, .int (nI (mz)), .int (nI (f2_735)), .int (nI (t2_736)), .int v2_724, .int w2_737, .ref ywa, .ref ybi, .ref ysi, .ref ynu, .ref ymo])), (yta, .inl (cI, 120, .inl tp))] H := hP
              have hD : va_D A [(ys, .inl (cI, 449, .inl ms)), (ywa, .inl (cI, 6, .inl a8)), (h0, .inr (9, [.ref ys, .ref yk, .ref yo, .ref yt, .int mk0, .ref yfa, .ref yfe, .int mL, .int mS, .int mM, .ref yro, .ref yhe, .ref ygr, .int mF, .int mC, .int mY, .ref yta, .int (nI (mz)), .int (nI (f2_735)), .int (nI (t2_736)), .int v2_724, .int w2_737, .ref ywa, .ref ybi, .ref ysi, .ref ynu, .ref ymo])), (yta, .inl (cI, 120, .inl tp))] := hD
              refine lv_aload_n hx hb dX9_walkItem_164 rfl (lv_at hl 3 rfl) ?_
              refine lv_iconst (v := 0) hx hb dX9_walkItem_165 (by decide) ?_
              refine lv_bipush (v := 99) hx hb dX9_walkItem_166 (by decide) ?_
              refine xc_Vv (wr := [(ys, .inl (cI, 449, .inl ms)), (ywa, .inl (cI, 6, .inl a8))]) hF (c_X9_number l D cI cJ cZ cS ta sa sv H.size h0 ys yk yo yt mk0 yfa yfe mL mS mM yro yhe ygr mF mC mY yta mz f2_735 t2_736 v2_724 w2_737 ywa ybi ysi ynu ymo tp 0 99 (by omega) (by omega) (by omega) (by omega) (by omega)) kv_X9_282 ⟨rfl, rfl, Nat.le_of_ble_eq_true rfl, Nat.le_of_ble_eq_true rfl⟩ ⟨Nat.le_of_ble_eq_true rfl, Nat.le_of_ble_eq_true rfl⟩ hK hN hZ hP hD hS hA [2, 3] [0, 1] rfl rfl rfl rfl (by decide) 0 rfl rfl rfl rfl hl.1 rfl (Nat.le_of_ble_eq_true rfl) dX9_walkItem_168 (fun u_r_744 H locs hw_r_744 hP hD hS => ?_)
              obtain ⟨f2_745, t2_746, v2_747, w2_748⟩ := u_r_744
              try dsimp only at hw_r_744
              obtain ⟨i_749, i_750, i_751, i_752, i_753, i_754⟩ := hw_r_744
              have hP : va_P D vwCl [(ys, .inl (cI, 449, .inl ms)), (ywa, .inl (cI, 6, .inl a8)), (h0, .inr (9, [.ref ys, .ref yk, .ref yo, .ref yt, .int mk0, .ref yfa, .ref yfe, .int mL, .int mS, .int mM, .ref yro, .ref yhe, .ref ygr, .int mF, .int mC, .int mY, .ref yta, .int (nI (mz)), .int (nI (f2_745)), .int (nI (t2_746)), .int v2_747, .int w2_748, .ref ywa, .ref ybi, .ref ysi, .ref ynu, .ref ymo])), (yta, .inl (cI, 120, .inl tp))] H := hP
              have hD : va_D A [(ys, .inl (cI, 449, .inl ms)), (ywa, .inl (cI, 6, .inl a8)), (h0, .inr (9, [.ref ys, .ref yk, .ref yo, .ref yt, .int mk0, .ref yfa, .ref yfe, .int mL, .int mS, .int mM, .ref yro, .ref yhe, .ref ygr, .int mF, .int mC, .int mY, .ref yta, .int (nI (mz)), .int (nI (f2_745)), .int (nI (t2_746)), .int v2_747, .int w2_748, .ref ywa, .ref ybi, .ref ysi, .ref ynu, .ref ymo])), (yta, .inl (cI, 120, .inl tp))] := hD
              refine lv_aload_n hx hb dX9_walkItem_171 rfl (lv_at hl 3 rfl) ?_
              refine xg hF kf_X9_275 hK hP 2 rfl rfl dX9_walkItem_172 ?_
              refine lv_istore_n (lv' := [(3, .int v2_747), (2, .int v2_724), (1, .int (nI (n8))), (0, .ref h0)]) hx hb dX9_walkItem_175 rfl hl (by decide) rfl (fun ls hl => ?_)
              refine lv_aload_n hx hb dX9_walkItem_176 rfl (lv_at hl 3 rfl) ?_
              refine xg hF kf_X9_266 hK hP 2 rfl rfl dX9_walkItem_177 ?_
              refine lv_if_ne (tgt := 252) hx hb dX9_walkItem_180 (by decide) (fun c_755 => ?_) (fun c_755 => ?_)
              · skip
                exact W.vret hx hb hr (fun t ht hW => ⟨⟨(f2_745, t2_746, v2_747, w2_748, ms, a8, Wn), rfl, ⟨(by first | assumption | omega), (by first | assumption | omega), (by first | assumption | omega), (by first | assumption | omega), (by first | assumption | omega), (fun h => ⟨(i_578 (hc8 (i_720 (i_731 (i_743 (i_754 h).1).1).1).1).1).1, trivial⟩), hs0, hs1, hs2, hsS, hsM, hsp, hsr, hsw, hsR⟩, by rw [ht]; exact hP.sub [2, 0, 3, 1] rfl, hD.sub [2, 0, 3, 1] (by decide) rfl⟩, hS.F ht⟩) hS.2.2 dX9_walkItem_252 hlk
              · skip
                refine lv_sipush (v := 377) hx hb dX9_walkItem_183 (by decide) ?_
                refine lv_bipush (v := 9) hx hb dX9_walkItem_186 (by decide) ?_
                refine lv_aload_n hx hb dX9_walkItem_188 rfl (lv_at hl 3 rfl) ?_
                refine lv_aload_n hx hb dX9_walkItem_189 rfl (lv_at hl 3 rfl) ?_
                refine xg hF kf_X9_40 hK hP 2 rfl rfl dX9_walkItem_190 ?_
                refine lv_iconst (v := 0) hx hb dX9_walkItem_193 (by decide) ?_
                refine va_iald hx hb hK hP 1 0 rfl rfl (xin 0 6 (by decide) (by decide)) dX9_walkItem_194 ?_
                refine xl_i (y := a8 0) (congrArg a8 rfl) ?_
                obtain ⟨z_756, ez_756, hz_7560⟩ := wk_A.get hA8 (i_720 (i_731 (i_743 (i_754 c_755).1).1).1).1 (show 0 < n8 by omega)
                refine xl_i (y := nI (z_756)) ez_756 ?_
                refine lv_aload_n hx hb dX9_walkItem_195 rfl (lv_at hl 3 rfl) ?_
                refine xg hF kf_X9_40 hK hP 2 rfl rfl dX9_walkItem_196 ?_
                refine lv_iconst (v := 1) hx hb dX9_walkItem_199 (by decide) ?_
                refine va_iald hx hb hK hP 1 0 rfl rfl (xin 1 6 (by decide) (by decide)) dX9_walkItem_200 ?_
                refine xl_i (y := a8 1) (congrArg a8 rfl) ?_
                obtain ⟨z_757, ez_757, hz_7570⟩ := wk_A.get hA8 (i_720 (i_731 (i_743 (i_754 c_755).1).1).1).1 (show 1 < n8 by omega)
                refine xl_i (y := nI (z_757)) ez_757 ?_
                refine lv_iload_n hx hb dX9_walkItem_201 rfl (lv_at hl 1 rfl) ?_
                refine lv_iload_n hx hb dX9_walkItem_202 rfl (lv_at hl 0 rfl) ?_
                refine xc_Vi (wr := [(ywa, .inl (cI, 6, .inl a8)), (yta, .inl (cI, 120, .inl tp))]) hF (c_X9_newWalk l D cI cJ cZ cS ta sa sv H.size h0 ys yk yo yt mk0 yfa yfe mL mS mM yro yhe ygr mF mC mY yta mz f2_745 t2_746 v2_747 w2_748 ywa ybi ysi ynu ymo ms P Rn Wn z_756 z_757 v2_724 v2_747 (by omega) (by omega) (by omega) hs0 hs1 hs2 hsS hsM hsp hsr hsw hsR) kv_X9_196 ⟨rfl, rfl, Nat.le_of_ble_eq_true rfl, Nat.le_of_ble_eq_true rfl⟩ ⟨Nat.le_of_ble_eq_true rfl, Nat.le_of_ble_eq_true rfl⟩ hK hN hZ hP hD hS hA [2, 0] [1, 3] rfl rfl rfl rfl (by decide) 0 rfl rfl rfl rfl hl.1 rfl (Nat.le_of_ble_eq_true rfl) dX9_walkItem_203 (fun r_758 u_r_758 H locs hw_r_758 hP hD hS => ?_)
                obtain ⟨ms2_759, rfl⟩ : ∃ z, z = u_r_758 := ⟨_, rfl⟩
                try dsimp only at hw_r_758
                obtain ⟨hw_r_758, i_760, i_761, i_762, i_763, i_764, i_765, i_766, i_767, i_768⟩ := hw_r_758
                have hP : va_P D vwCl [(ywa, .inl (cI, 6, .inl a8)), (yta, .inl (cI, 120, .inl tp)), (h0, .inr (9, [.ref ys, .ref yk, .ref yo, .ref yt, .int mk0, .ref yfa, .ref yfe, .int mL, .int mS, .int mM, .ref yro, .ref yhe, .ref ygr, .int mF, .int mC, .int mY, .ref yta, .int (nI (mz)), .int (nI (f2_745)), .int (nI (t2_746)), .int v2_747, .int w2_748, .ref ywa, .ref ybi, .ref ysi, .ref ynu, .ref ymo])), (ys, .inl (cI, 449, .inl ms2_759))] H := hP
                have hD : va_D A [(ywa, .inl (cI, 6, .inl a8)), (yta, .inl (cI, 120, .inl tp)), (h0, .inr (9, [.ref ys, .ref yk, .ref yo, .ref yt, .int mk0, .ref yfa, .ref yfe, .int mL, .int mS, .int mM, .ref yro, .ref yhe, .ref ygr, .int mF, .int mC, .int mY, .ref yta, .int (nI (mz)), .int (nI (f2_745)), .int (nI (t2_746)), .int v2_747, .int w2_748, .ref ywa, .ref ybi, .ref ysi, .ref ynu, .ref ymo])), (ys, .inl (cI, 449, .inl ms2_759))] := hD
                subst hw_r_758
                refine lv_imul hx hb dX9_walkItem_206 ?_
                refine xl_i (y := nI (9 * Wn)) (pk_mul 9 Wn) ?_
                refine lv_iadd hx hb dX9_walkItem_207 ?_
                refine xl_i (y := nI (377 + (9 * Wn))) (nI_add 377 (9 * Wn)) ?_
                refine lv_istore (lv' := [(4, .int (nI (377 + (9 * Wn)))), (3, .int v2_747), (2, .int v2_724), (1, .int (nI (n8))), (0, .ref h0)]) hx hb dX9_walkItem_208 hl (by decide) rfl (fun ls hl => ?_)
                refine lv_aload_n hx hb dX9_walkItem_210 rfl (lv_at hl 4 rfl) ?_
                refine xg hF kf_X9_7 hK hP 2 rfl rfl dX9_walkItem_211 ?_
                refine lv_iload hx hb dX9_walkItem_214 (lv_at hl 0 rfl) ?_
                refine lv_iload_n hx hb dX9_walkItem_216 rfl (lv_at hl 3 rfl) ?_
                refine va_iast hx hb hK hP hD hS 3 0 rfl rfl (vp_in_nI (show 377 + (9 * Wn) < 449 by omega) (by decide)) dX9_walkItem_217 (fun H locs hP hD hS => ?_)
                rw [nI_clamp (show 377 + (9 * Wn) < 2 ^ 31 by omega)] at hP hD
                obtain ⟨f_769, ef_769⟩ : ∃ g, g = upd ms2_759 (377 + (9 * Wn)) (nI (n8)) := ⟨_, rfl⟩
                rw [← ef_769] at hP hD
                have k0_f_769 : f_769 0 = nI P := by rw [ef_769]; exact (pk_un (show 0 ≠ (377 + (9 * Wn)) by omega)).trans i_760
                have k1_f_769 : f_769 1 = nI Rn := by rw [ef_769]; exact (pk_un (show 1 ≠ (377 + (9 * Wn)) by omega)).trans i_761
                have k2_f_769 : f_769 2 = nI (Wn + 1) := by rw [ef_769]; exact (pk_un (show 2 ≠ (377 + (9 * Wn)) by omega)).trans i_762
                have kS_f_769 : SI f_769 := by rw [ef_769]; exact SI.upd i_763 (okS.wl (w := Wn) (q := n8) (by omega) (by omega) (by omega))
                have kM_f_769 : MI f_769 := by rw [ef_769]; exact MI.upd i_764 (okM.out (show (377 + (9 * Wn)) < 13 ∨ 113 ≤ (377 + (9 * Wn)) by omega))
                have kR_f_769 : RI Rn f_769 := by rw [ef_769]; exact RI.upd i_768 (fun r9 hr9 e9 => by omega)
                have hP : va_P D vwCl [(ywa, .inl (cI, 6, .inl a8)), (yta, .inl (cI, 120, .inl tp)), (h0, .inr (9, [.ref ys, .ref yk, .ref yo, .ref yt, .int mk0, .ref yfa, .ref yfe, .int mL, .int mS, .int mM, .ref yro, .ref yhe, .ref ygr, .int mF, .int mC, .int mY, .ref yta, .int (nI (mz)), .int (nI (f2_745)), .int (nI (t2_746)), .int v2_747, .int w2_748, .ref ywa, .ref ybi, .ref ysi, .ref ynu, .ref ymo])), (ys, .inl (cI, 449, .inl f_769))] H := hP
                have hD : va_D A [(ywa, .inl (cI, 6, .inl a8)), (yta, .inl (cI, 120, .inl tp)), (h0, .inr (9, [.ref ys, .ref yk, .ref yo, .ref yt, .int mk0, .ref yfa, .ref yfe, .int mL, .int mS, .int mM, .ref yro, .ref yhe, .ref ygr, .int mF, .int mC, .int mY, .ref yta, .int (nI (mz)), .int (nI (f2_745)), .int (nI (t2_746)), .int v2_747, .int w2_748, .ref ywa, .ref ybi, .ref ysi, .ref ynu, .ref ymo])), (ys, .inl (cI, 449, .inl f_769))] := hD
                refine lv_iconst (v := 2) hx hb dX9_walkItem_218 (by decide) ?_
                refine lv_istore (lv' := [(5, .int 2), (4, .int (nI (377 + (9 * Wn)))), (3, .int v2_747), (2, .int v2_724), (1, .int (nI (n8))), (0, .ref h0)]) hx hb dX9_walkItem_219 hl (by decide) rfl (fun ls hl => ?_)
                suffices loop_221 : ∀ (n_221 : Nat) (i : Nat) (s8 : Nat → Int32) (H : Heap) (locs : List Loc) (ls : Array Slot), n8 - i < n_221 → (2 ≤ i) → (i ≤ n8) → (s8 0 = nI P) → (s8 1 = nI Rn) → (s8 2 = nI (Wn + 1)) → (SI s8) → (MI s8) → (P ≤ 10) → (Rn ≤ 8) → (Wn + 1 ≤ 8) → (RI Rn s8) → va_P D vwCl [(ywa, .inl (cI, 6, .inl a8)), (yta, .inl (cI, 120, .inl tp)), (h0, .inr (9, [.ref ys, .ref yk, .ref yo, .ref yt, .int mk0, .ref yfa, .ref yfe, .int mL, .int mS, .int mM, .ref yro, .ref yhe, .ref ygr, .int mF, .int mC, .int mY, .ref yta, .int (nI (mz)), .int (nI (f2_745)), .int (nI (t2_746)), .int v2_747, .int w2_748, .ref ywa, .ref ybi, .ref ysi, .ref ynu, .ref ymo])), (ys, .inl (cI, 449, .inl s8))] H → va_D A [(ywa, .inl (cI, 6, .inl a8)), (yta, .inl (cI, 120, .inl tp)), (h0, .inr (9, [.ref ys, .ref yk, .ref yo, .ref yt, .int mk0, .ref yfa, .ref yfe, .int mL, .int mS, .int mM, .ref yro, .ref yhe, .ref ygr, .int mF, .int mC, .int mY, .ref yta, .int (nI (mz)), .int (nI (f2_745)), .int (nI (t2_746)), .int v2_747, .int w2_748, .ref ywa, .ref ybi, .ref ysi, .ref ynu, .ref ymo])), (ys, .inl (cI, 449, .inl s8))] → va_S A s.heap H locs → lv_has ls 6 [(5, .int (nI (i))), (4, .int (nI (377 + (9 * Wn)))), (3, .int v2_747), (2, .int v2_724), (1, .int (nI (n8))), (0, .ref h0)] → W p l e ({ frames := 6, cells := 0, slots := 0, locals := 136 }) s m ([.ref h0] : List Value).toArray below meth c H locs 0 0 (MQ below (XQv (fun (u : Nat × Nat × Int32 × Int32 × (Nat → Int32) × (Nat → Int32) × Nat) => match u with | (f2, t2, v2, w2, ms2, wa2, W2) => (f2 ≤ mz) ∧ (t2 ≤ mz) ∧ (f2 ≤ t2) ∧ (f2 < t2 ∨ f2 = mz) ∧ (mf ≤ f2) ∧ (w2 = 0 → mw = 0 ∧ True) ∧ (ms2 0 = nI P) ∧ (ms2 1 = nI Rn) ∧ (ms2 2 = nI W2) ∧ (SI ms2) ∧ (MI ms2) ∧ (P ≤ 10) ∧ (Rn ≤ 8) ∧ (W2 ≤ 8) ∧ (RI Rn ms2)) D (fun (u : Nat × Nat × Int32 × Int32 × (Nat → Int32) × (Nat → Int32) × Nat) => match u with | (f2, t2, v2, w2, ms2, wa2, W2) => [(h0, .inr (9, [.ref ys, .ref yk, .ref yo, .ref yt, .int mk0, .ref yfa, .ref yfe, .int mL, .int mS, .int mM, .ref yro, .ref yhe, .ref ygr, .int mF, .int mC, .int mY, .ref yta, .int (nI (mz)), .int (nI (f2)), .int (nI (t2)), .int v2, .int w2, .ref ywa, .ref ybi, .ref ysi, .ref ynu, .ref ymo])), (ys, .inl (cI, 449, .inl ms2)), (yta, .inl (cI, 120, .inl tp)), (ywa, .inl (cI, 6, .inl wa2))]) A) ([.ref h0] : List Value).toArray s 0 0 A) (F0 m 221 ls []) by
                  exact loop_221 _ 2 f_769 _ _ _ (Nat.lt_succ_self _) (by omega) (by omega) k0_f_769 k1_f_769 k2_f_769 kS_f_769 kM_f_769 i_765 i_766 i_767 kR_f_769 hP hD hS (lv_sub hl [0, 1, 2, 3, 4, 5] rfl)
                intro n_221
                induction n_221 with
                | zero =>
                  intro i s8 H locs ls hm_221
                  exact absurd hm_221 (Nat.not_lt_zero _)
                | succ n_221 ih_221 =>
                  intro i s8 H locs ls hm_221 hi2 hi ht0 ht1 ht2 htS htM htp htr htw htR hP hD hS hl
                  refine lv_iload hx hb dX9_walkItem_221 (lv_at hl 0 rfl) ?_
                  refine lv_iload_n hx hb dX9_walkItem_223 rfl (lv_at hl 4 rfl) ?_
                  refine lv_icmp_ge (tgt := 252) hx hb dX9_walkItem_224 (by decide) (fun c_770 => ?_) (fun c_770 => ?_)
                  · skip
                    have nc_770 : n8 ≤ i := xn_le (a := n8) (b := i) (by omega) (by omega) c_770
                    exact W.vret hx hb hr (fun t ht hW => ⟨⟨(f2_745, t2_746, v2_747, w2_748, s8, a8, Wn + 1), rfl, ⟨(by first | assumption | omega), (by first | assumption | omega), (by first | assumption | omega), (by first | assumption | omega), (by first | assumption | omega), (fun h => ⟨(i_578 (hc8 (i_720 (i_731 (i_743 (i_754 h).1).1).1).1).1).1, trivial⟩), ht0, ht1, ht2, htS, htM, htp, htr, htw, htR⟩, by rw [ht]; exact hP.sub [2, 3, 1, 0] rfl, hD.sub [2, 3, 1, 0] (by decide) rfl⟩, hS.F ht⟩) hS.2.2 dX9_walkItem_252 hlk
                  · skip
                    have nc_770 : i < n8 := xn_nle (a := n8) (b := i) (by omega) (by omega) c_770
                    refine lv_aload_n hx hb dX9_walkItem_227 rfl (lv_at hl 5 rfl) ?_
                    refine xg hF kf_X9_7 hK hP 2 rfl rfl dX9_walkItem_228 ?_
                    refine lv_iload hx hb dX9_walkItem_231 (lv_at hl 1 rfl) ?_
                    refine lv_iconst (v := 3) hx hb dX9_walkItem_233 (by decide) ?_
                    refine lv_iadd hx hb dX9_walkItem_234 ?_
                    refine xl_i (y := nI (377 + (9 * Wn) + 3)) (nI_add (377 + (9 * Wn)) 3) ?_
                    refine lv_iload hx hb dX9_walkItem_235 (lv_at hl 0 rfl) ?_
                    refine lv_iadd hx hb dX9_walkItem_237 ?_
                    refine xl_i (y := nI (377 + (9 * Wn) + 3 + i)) (nI_add (377 + (9 * Wn) + 3) i) ?_
                    refine lv_aload_n hx hb dX9_walkItem_238 rfl (lv_at hl 5 rfl) ?_
                    refine xg hF kf_X9_40 hK hP 2 rfl rfl dX9_walkItem_239 ?_
                    refine lv_iload hx hb dX9_walkItem_242 (lv_at hl 0 rfl) ?_
                    refine va_iald hx hb hK hP 0 0 rfl rfl (vp_in_nI (show i < 6 by omega) (by decide)) dX9_walkItem_244 ?_
                    refine xl_i (y := a8 i) (congrArg a8 (nI_clamp (show i < 2 ^ 31 by omega))) ?_
                    obtain ⟨z_771, ez_771, hz_7710⟩ := wk_A.get hA8 (i_720 (i_731 (i_743 (i_754 c_755).1).1).1).1 (show i < n8 by omega)
                    refine xl_i (y := nI (z_771)) ez_771 ?_
                    refine va_iast hx hb hK hP hD hS 3 0 rfl rfl (vp_in_nI (show 377 + (9 * Wn) + 3 + i < 449 by omega) (by decide)) dX9_walkItem_245 (fun H locs hP hD hS => ?_)
                    rw [nI_clamp (show 377 + (9 * Wn) + 3 + i < 2 ^ 31 by omega)] at hP hD
                    obtain ⟨f_772, ef_772⟩ : ∃ g, g = upd s8 (377 + (9 * Wn) + 3 + i) (nI (z_771)) := ⟨_, rfl⟩
                    rw [← ef_772] at hP hD
                    have k0_f_772 : f_772 0 = nI P := by rw [ef_772]; exact (pk_un (show 0 ≠ (377 + (9 * Wn) + 3 + i) by omega)).trans ht0
                    have k1_f_772 : f_772 1 = nI Rn := by rw [ef_772]; exact (pk_un (show 1 ≠ (377 + (9 * Wn) + 3 + i) by omega)).trans ht1
                    have k2_f_772 : f_772 2 = nI (Wn + 1) := by rw [ef_772]; exact (pk_un (show 2 ≠ (377 + (9 * Wn) + 3 + i) by omega)).trans ht2
                    have kS_f_772 : SI f_772 := by rw [ef_772]; exact SI.upd htS (okS.ws (w := Wn) (i := i) (by omega) (by omega) (by omega) (show z_771 < 10 by omega))
                    have kM_f_772 : MI f_772 := by rw [ef_772]; exact MI.upd htM (okM.out (show (377 + (9 * Wn) + 3 + i) < 13 ∨ 113 ≤ (377 + (9 * Wn) + 3 + i) by omega))
                    have kR_f_772 : RI Rn f_772 := by rw [ef_772]; exact RI.upd htR (fun r9 hr9 e9 => by omega)
                    have hP : va_P D vwCl [(ywa, .inl (cI, 6, .inl a8)), (yta, .inl (cI, 120, .inl tp)), (h0, .inr (9, [.ref ys, .ref yk, .ref yo, .ref yt, .int mk0, .ref yfa, .ref yfe, .int mL, .int mS, .int mM, .ref yro, .ref yhe, .ref ygr, .int mF, .int mC, .int mY, .ref yta, .int (nI (mz)), .int (nI (f2_745)), .int (nI (t2_746)), .int v2_747, .int w2_748, .ref ywa, .ref ybi, .ref ysi, .ref ynu, .ref ymo])), (ys, .inl (cI, 449, .inl f_772))] H := hP
                    have hD : va_D A [(ywa, .inl (cI, 6, .inl a8)), (yta, .inl (cI, 120, .inl tp)), (h0, .inr (9, [.ref ys, .ref yk, .ref yo, .ref yt, .int mk0, .ref yfa, .ref yfe, .int mL, .int mS, .int mM, .ref yro, .ref yhe, .ref ygr, .int mF, .int mC, .int mY, .ref yta, .int (nI (mz)), .int (nI (f2_745)), .int (nI (t2_746)), .int v2_747, .int w2_748, .ref ywa, .ref ybi, .ref ysi, .ref ynu, .ref ymo])), (ys, .inl (cI, 449, .inl f_772))] := hD
                    refine lv_iinc (v := nI (i + 1)) (lv' := [(5, .int (nI (i + 1))), (4, .int (nI (377 + (9 * Wn)))), (3, .int v2_747), (2, .int v2_724), (1, .int (nI (n8))), (0, .ref h0)]) hx hb dX9_walkItem_246 hl (k := 0) rfl (nI_1 (i)) (by decide) rfl (fun ls hl => ?_)
                    refine lv_goto (tgt := 221) hx hb dX9_walkItem_249 (by decide) ?_
                    exact ih_221 (i + 1) f_772 _ _ _ (by omega) (by omega) (by omega) k0_f_772 k1_f_772 k2_f_772 kS_f_772 kM_f_772 htp htr htw kR_f_772 (hP.sub [0, 1, 2, 3] rfl) (hD.sub [0, 1, 2, 3] (by decide) rfl) hS (lv_sub hl [0, 1, 2, 3, 4, 5] rfl)
            · skip
              refine lv_if_eq (tgt := 176) hx hb dX9_walkItem_156 (by decide) (fun c_773 => ?_) (fun c_773 => absurd (by decide) c_773)
              refine lv_aload_n hx hb dX9_walkItem_176 rfl (lv_at hl 3 rfl) ?_
              refine xg hF kf_X9_266 hK hP 2 rfl rfl dX9_walkItem_177 ?_
              refine lv_if_ne (tgt := 252) hx hb dX9_walkItem_180 (by decide) (fun c_774 => ?_) (fun c_774 => ?_)
              · skip
                exact W.vret hx hb hr (fun t ht hW => ⟨⟨(f2_722, t2_723, v2_724, w2_725, ms, a8, Wn), rfl, ⟨(by first | assumption | omega), (by first | assumption | omega), (by first | assumption | omega), (by first | assumption | omega), (by first | assumption | omega), (fun h => ⟨(i_578 (hc8 (i_720 (i_731 h).1).1).1).1, trivial⟩), hs0, hs1, hs2, hsS, hsM, hsp, hsr, hsw, hsR⟩, by rw [ht]; exact hP.sub [2, 0, 3, 1] rfl, hD.sub [2, 0, 3, 1] (by decide) rfl⟩, hS.F ht⟩) hS.2.2 dX9_walkItem_252 hlk
              · skip
                refine lv_sipush (v := 377) hx hb dX9_walkItem_183 (by decide) ?_
                refine lv_bipush (v := 9) hx hb dX9_walkItem_186 (by decide) ?_
                refine lv_aload_n hx hb dX9_walkItem_188 rfl (lv_at hl 3 rfl) ?_
                refine lv_aload_n hx hb dX9_walkItem_189 rfl (lv_at hl 3 rfl) ?_
                refine xg hF kf_X9_40 hK hP 2 rfl rfl dX9_walkItem_190 ?_
                refine lv_iconst (v := 0) hx hb dX9_walkItem_193 (by decide) ?_
                refine va_iald hx hb hK hP 1 0 rfl rfl (xin 0 6 (by decide) (by decide)) dX9_walkItem_194 ?_
                refine xl_i (y := a8 0) (congrArg a8 rfl) ?_
                obtain ⟨z_775, ez_775, hz_7750⟩ := wk_A.get hA8 (i_720 (i_731 c_774).1).1 (show 0 < n8 by omega)
                refine xl_i (y := nI (z_775)) ez_775 ?_
                refine lv_aload_n hx hb dX9_walkItem_195 rfl (lv_at hl 3 rfl) ?_
                refine xg hF kf_X9_40 hK hP 2 rfl rfl dX9_walkItem_196 ?_
                refine lv_iconst (v := 1) hx hb dX9_walkItem_199 (by decide) ?_
                refine va_iald hx hb hK hP 1 0 rfl rfl (xin 1 6 (by decide) (by decide)) dX9_walkItem_200 ?_
                refine xl_i (y := a8 1) (congrArg a8 rfl) ?_
                obtain ⟨z_776, ez_776, hz_7760⟩ := wk_A.get hA8 (i_720 (i_731 c_774).1).1 (show 1 < n8 by omega)
                refine xl_i (y := nI (z_776)) ez_776 ?_
                refine lv_iload_n hx hb dX9_walkItem_201 rfl (lv_at hl 1 rfl) ?_
                refine lv_iload_n hx hb dX9_walkItem_202 rfl (lv_at hl 0 rfl) ?_
                refine xc_Vi (wr := [(ywa, .inl (cI, 6, .inl a8)), (yta, .inl (cI, 120, .inl tp))]) hF (c_X9_newWalk l D cI cJ cZ cS ta sa sv H.size h0 ys yk yo yt mk0 yfa yfe mL mS mM yro yhe ygr mF mC mY yta mz f2_722 t2_723 v2_724 w2_725 ywa ybi ysi ynu ymo ms P Rn Wn z_775 z_776 v2_724 0 (by omega) (by omega) (by omega) hs0 hs1 hs2 hsS hsM hsp hsr hsw hsR) kv_X9_196 ⟨rfl, rfl, Nat.le_of_ble_eq_true rfl, Nat.le_of_ble_eq_true rfl⟩ ⟨Nat.le_of_ble_eq_true rfl, Nat.le_of_ble_eq_true rfl⟩ hK hN hZ hP hD hS hA [2, 0] [1, 3] rfl rfl rfl rfl (by decide) 0 rfl rfl rfl rfl hl.1 rfl (Nat.le_of_ble_eq_true rfl) dX9_walkItem_203 (fun r_777 u_r_777 H locs hw_r_777 hP hD hS => ?_)
                obtain ⟨ms2_778, rfl⟩ : ∃ z, z = u_r_777 := ⟨_, rfl⟩
                try dsimp only at hw_r_777
                obtain ⟨hw_r_777, i_779, i_780, i_781, i_782, i_783, i_784, i_785, i_786, i_787⟩ := hw_r_777
                have hP : va_P D vwCl [(ywa, .inl (cI, 6, .inl a8)), (yta, .inl (cI, 120, .inl tp)), (h0, .inr (9, [.ref ys, .ref yk, .ref yo, .ref yt, .int mk0, .ref yfa, .ref yfe, .int mL, .int mS, .int mM, .ref yro, .ref yhe, .ref ygr, .int mF, .int mC, .int mY, .ref yta, .int (nI (mz)), .int (nI (f2_722)), .int (nI (t2_723)), .int v2_724, .int w2_725, .ref ywa, .ref ybi, .ref ysi, .ref ynu, .ref ymo])), (ys, .inl (cI, 449, .inl ms2_778))] H := hP
                have hD : va_D A [(ywa, .inl (cI, 6, .inl a8)), (yta, .inl (cI, 120, .inl tp)), (h0, .inr (9, [.ref ys, .ref yk, .ref yo, .ref yt, .int mk0, .ref yfa, .ref yfe, .int mL, .int mS, .int mM, .ref yro, .ref yhe, .ref ygr, .int mF, .int mC, .int mY, .ref yta, .int (nI (mz)), .int (nI (f2_722)), .int (nI (t2_723)), .int v2_724, .int w2_725, .ref ywa, .ref ybi, .ref ysi, .ref ynu, .ref ymo])), (ys, .inl (cI, 449, .inl ms2_778))] := hD
                subst hw_r_777
                refine lv_imul hx hb dX9_walkItem_206 ?_
                refine xl_i (y := nI (9 * Wn)) (pk_mul 9 Wn) ?_
                refine lv_iadd hx hb dX9_walkItem_207 ?_
                refine xl_i (y := nI (377 + (9 * Wn))) (nI_add 377 (9 * Wn)) ?_
                refine lv_istore (lv' := [(4, .int (nI (377 + (9 * Wn)))), (3, .int 0), (2, .int v2_724), (1, .int (nI (n8))), (0, .ref h0)]) hx hb dX9_walkItem_208 hl (by decide) rfl (fun ls hl => ?_)
                refine lv_aload_n hx hb dX9_walkItem_210 rfl (lv_at hl 4 rfl) ?_
                refine xg hF kf_X9_7 hK hP 2 rfl rfl dX9_walkItem_211 ?_
                refine lv_iload hx hb dX9_walkItem_214 (lv_at hl 0 rfl) ?_
                refine lv_iload_n hx hb dX9_walkItem_216 rfl (lv_at hl 3 rfl) ?_
                refine va_iast hx hb hK hP hD hS 3 0 rfl rfl (vp_in_nI (show 377 + (9 * Wn) < 449 by omega) (by decide)) dX9_walkItem_217 (fun H locs hP hD hS => ?_)
                rw [nI_clamp (show 377 + (9 * Wn) < 2 ^ 31 by omega)] at hP hD
                obtain ⟨f_788, ef_788⟩ : ∃ g, g = upd ms2_778 (377 + (9 * Wn)) (nI (n8)) := ⟨_, rfl⟩
                rw [← ef_788] at hP hD
                have k0_f_788 : f_788 0 = nI P := by rw [ef_788]; exact (pk_un (show 0 ≠ (377 + (9 * Wn)) by omega)).trans i_779
                have k1_f_788 : f_788 1 = nI Rn := by rw [ef_788]; exact (pk_un (show 1 ≠ (377 + (9 * Wn)) by omega)).trans i_780
                have k2_f_788 : f_788 2 = nI (Wn + 1) := by rw [ef_788]; exact (pk_un (show 2 ≠ (377 + (9 * Wn)) by omega)).trans i_781
                have kS_f_788 : SI f_788 := by rw [ef_788]; exact SI.upd i_782 (okS.wl (w := Wn) (q := n8) (by omega) (by omega) (by omega))
                have kM_f_788 : MI f_788 := by rw [ef_788]; exact MI.upd i_783 (okM.out (show (377 + (9 * Wn)) < 13 ∨ 113 ≤ (377 + (9 * Wn)) by omega))
                have kR_f_788 : RI Rn f_788 := by rw [ef_788]; exact RI.upd i_787 (fun r9 hr9 e9 => by omega)
                have hP : va_P D vwCl [(ywa, .inl (cI, 6, .inl a8)), (yta, .inl (cI, 120, .inl tp)), (h0, .inr (9, [.ref ys, .ref yk, .ref yo, .ref yt, .int mk0, .ref yfa, .ref yfe, .int mL, .int mS, .int mM, .ref yro, .ref yhe, .ref ygr, .int mF, .int mC, .int mY, .ref yta, .int (nI (mz)), .int (nI (f2_722)), .int (nI (t2_723)), .int v2_724, .int w2_725, .ref ywa, .ref ybi, .ref ysi, .ref ynu, .ref ymo])), (ys, .inl (cI, 449, .inl f_788))] H := hP
                have hD : va_D A [(ywa, .inl (cI, 6, .inl a8)), (yta, .inl (cI, 120, .inl tp)), (h0, .inr (9, [.ref ys, .ref yk, .ref yo, .ref yt, .int mk0, .ref yfa, .ref yfe, .int mL, .int mS, .int mM, .ref yro, .ref yhe, .ref ygr, .int mF, .int mC, .int mY, .ref yta, .int (nI (mz)), .int (nI (f2_722)), .int (nI (t2_723)), .int v2_724, .int w2_725, .ref ywa, .ref ybi, .ref ysi, .ref ynu, .ref ymo])), (ys, .inl (cI, 449, .inl f_788))] := hD
                refine lv_iconst (v := 2) hx hb dX9_walkItem_218 (by decide) ?_
                refine lv_istore (lv' := [(5, .int 2), (4, .int (nI (377 + (9 * Wn)))), (3, .int 0), (2, .int v2_724), (1, .int (nI (n8))), (0, .ref h0)]) hx hb dX9_walkItem_219 hl (by decide) rfl (fun ls hl => ?_)
                suffices loop_221 : ∀ (n_221 : Nat) (i : Nat) (s8 : Nat → Int32) (H : Heap) (locs : List Loc) (ls : Array Slot), n8 - i < n_221 → (2 ≤ i) → (i ≤ n8) → (s8 0 = nI P) → (s8 1 = nI Rn) → (s8 2 = nI (Wn + 1)) → (SI s8) → (MI s8) → (P ≤ 10) → (Rn ≤ 8) → (Wn + 1 ≤ 8) → (RI Rn s8) → va_P D vwCl [(ywa, .inl (cI, 6, .inl a8)), (yta, .inl (cI, 120, .inl tp)), (h0, .inr (9, [.ref ys, .ref yk, .ref yo, .ref yt, .int mk0, .ref yfa, .ref yfe, .int mL, .int mS, .int mM, .ref yro, .ref yhe, .ref ygr, .int mF, .int mC, .int mY, .ref yta, .int (nI (mz)), .int (nI (f2_722)), .int (nI (t2_723)), .int v2_724, .int w2_725, .ref ywa, .ref ybi, .ref ysi, .ref ynu, .ref ymo])), (ys, .inl (cI, 449, .inl s8))] H → va_D A [(ywa, .inl (cI, 6, .inl a8)), (yta, .inl (cI, 120, .inl tp)), (h0, .inr (9, [.ref ys, .ref yk, .ref yo, .ref yt, .int mk0, .ref yfa, .ref yfe, .int mL, .int mS, .int mM, .ref yro, .ref yhe, .ref ygr, .int mF, .int mC, .int mY, .ref yta, .int (nI (mz)), .int (nI (f2_722)), .int (nI (t2_723)), .int v2_724, .int w2_725, .ref ywa, .ref ybi, .ref ysi, .ref ynu, .ref ymo])), (ys, .inl (cI, 449, .inl s8))] → va_S A s.heap H locs → lv_has ls 6 [(5, .int (nI (i))), (4, .int (nI (377 + (9 * Wn)))), (3, .int 0), (2, .int v2_724), (1, .int (nI (n8))), (0, .ref h0)] → W p l e ({ frames := 6, cells := 0, slots := 0, locals := 136 }) s m ([.ref h0] : List Value).toArray below meth c H locs 0 0 (MQ below (XQv (fun (u : Nat × Nat × Int32 × Int32 × (Nat → Int32) × (Nat → Int32) × Nat) => match u with | (f2, t2, v2, w2, ms2, wa2, W2) => (f2 ≤ mz) ∧ (t2 ≤ mz) ∧ (f2 ≤ t2) ∧ (f2 < t2 ∨ f2 = mz) ∧ (mf ≤ f2) ∧ (w2 = 0 → mw = 0 ∧ True) ∧ (ms2 0 = nI P) ∧ (ms2 1 = nI Rn) ∧ (ms2 2 = nI W2) ∧ (SI ms2) ∧ (MI ms2) ∧ (P ≤ 10) ∧ (Rn ≤ 8) ∧ (W2 ≤ 8) ∧ (RI Rn ms2)) D (fun (u : Nat × Nat × Int32 × Int32 × (Nat → Int32) × (Nat → Int32) × Nat) => match u with | (f2, t2, v2, w2, ms2, wa2, W2) => [(h0, .inr (9, [.ref ys, .ref yk, .ref yo, .ref yt, .int mk0, .ref yfa, .ref yfe, .int mL, .int mS, .int mM, .ref yro, .ref yhe, .ref ygr, .int mF, .int mC, .int mY, .ref yta, .int (nI (mz)), .int (nI (f2)), .int (nI (t2)), .int v2, .int w2, .ref ywa, .ref ybi, .ref ysi, .ref ynu, .ref ymo])), (ys, .inl (cI, 449, .inl ms2)), (yta, .inl (cI, 120, .inl tp)), (ywa, .inl (cI, 6, .inl wa2))]) A) ([.ref h0] : List Value).toArray s 0 0 A) (F0 m 221 ls []) by
                  exact loop_221 _ 2 f_788 _ _ _ (Nat.lt_succ_self _) (by omega) (by omega) k0_f_788 k1_f_788 k2_f_788 kS_f_788 kM_f_788 i_784 i_785 i_786 kR_f_788 hP hD hS (lv_sub hl [0, 1, 2, 3, 4, 5] rfl)
                intro n_221
                induction n_221 with
                | zero =>
                  intro i s8 H locs ls hm_221
                  exact absurd hm_221 (Nat.not_lt_zero _)
                | succ n_221 ih_221 =>
                  intro i s8 H locs ls hm_221 hi2 hi ht0 ht1 ht2 htS htM htp htr htw htR hP hD hS hl
                  refine lv_iload hx hb dX9_walkItem_221 (lv_at hl 0 rfl) ?_
                  refine lv_iload_n hx hb dX9_walkItem_223 rfl (lv_at hl 4 rfl) ?_
                  refine lv_icmp_ge (tgt := 252) hx hb dX9_walkItem_224 (by decide) (fun c_789 => ?_) (fun c_789 => ?_)
                  · skip
                    have nc_789 : n8 ≤ i := xn_le (a := n8) (b := i) (by omega) (by omega) c_789
                    exact W.vret hx hb hr (fun t ht hW => ⟨⟨(f2_722, t2_723, v2_724, w2_725, s8, a8, Wn + 1), rfl, ⟨(by first | assumption | omega), (by first | assumption | omega), (by first | assumption | omega), (by first | assumption | omega), (by first | assumption | omega), (fun h => ⟨(i_578 (hc8 (i_720 (i_731 h).1).1).1).1, trivial⟩), ht0, ht1, ht2, htS, htM, htp, htr, htw, htR⟩, by rw [ht]; exact hP.sub [2, 3, 1, 0] rfl, hD.sub [2, 3, 1, 0] (by decide) rfl⟩, hS.F ht⟩) hS.2.2 dX9_walkItem_252 hlk
                  · skip
                    have nc_789 : i < n8 := xn_nle (a := n8) (b := i) (by omega) (by omega) c_789
                    refine lv_aload_n hx hb dX9_walkItem_227 rfl (lv_at hl 5 rfl) ?_
                    refine xg hF kf_X9_7 hK hP 2 rfl rfl dX9_walkItem_228 ?_
                    refine lv_iload hx hb dX9_walkItem_231 (lv_at hl 1 rfl) ?_
                    refine lv_iconst (v := 3) hx hb dX9_walkItem_233 (by decide) ?_
                    refine lv_iadd hx hb dX9_walkItem_234 ?_
                    refine xl_i (y := nI (377 + (9 * Wn) + 3)) (nI_add (377 + (9 * Wn)) 3) ?_
                    refine lv_iload hx hb dX9_walkItem_235 (lv_at hl 0 rfl) ?_
                    refine lv_iadd hx hb dX9_walkItem_237 ?_
                    refine xl_i (y := nI (377 + (9 * Wn) + 3 + i)) (nI_add (377 + (9 * Wn) + 3) i) ?_
                    refine lv_aload_n hx hb dX9_walkItem_238 rfl (lv_at hl 5 rfl) ?_
                    refine xg hF kf_X9_40 hK hP 2 rfl rfl dX9_walkItem_239 ?_
                    refine lv_iload hx hb dX9_walkItem_242 (lv_at hl 0 rfl) ?_
                    refine va_iald hx hb hK hP 0 0 rfl rfl (vp_in_nI (show i < 6 by omega) (by decide)) dX9_walkItem_244 ?_
                    refine xl_i (y := a8 i) (congrArg a8 (nI_clamp (show i < 2 ^ 31 by omega))) ?_
                    obtain ⟨z_790, ez_790, hz_7900⟩ := wk_A.get hA8 (i_720 (i_731 c_774).1).1 (show i < n8 by omega)
                    refine xl_i (y := nI (z_790)) ez_790 ?_
                    refine va_iast hx hb hK hP hD hS 3 0 rfl rfl (vp_in_nI (show 377 + (9 * Wn) + 3 + i < 449 by omega) (by decide)) dX9_walkItem_245 (fun H locs hP hD hS => ?_)
                    rw [nI_clamp (show 377 + (9 * Wn) + 3 + i < 2 ^ 31 by omega)] at hP hD
                    obtain ⟨f_791, ef_791⟩ : ∃ g, g = upd s8 (377 + (9 * Wn) + 3 + i) (nI (z_790)) := ⟨_, rfl⟩
                    rw [← ef_791] at hP hD
                    have k0_f_791 : f_791 0 = nI P := by rw [ef_791]; exact (pk_un (show 0 ≠ (377 + (9 * Wn) + 3 + i) by omega)).trans ht0
                    have k1_f_791 : f_791 1 = nI Rn := by rw [ef_791]; exact (pk_un (show 1 ≠ (377 + (9 * Wn) + 3 + i) by omega)).trans ht1
                    have k2_f_791 : f_791 2 = nI (Wn + 1) := by rw [ef_791]; exact (pk_un (show 2 ≠ (377 + (9 * Wn) + 3 + i) by omega)).trans ht2
                    have kS_f_791 : SI f_791 := by rw [ef_791]; exact SI.upd htS (okS.ws (w := Wn) (i := i) (by omega) (by omega) (by omega) (show z_790 < 10 by omega))
                    have kM_f_791 : MI f_791 := by rw [ef_791]; exact MI.upd htM (okM.out (show (377 + (9 * Wn) + 3 + i) < 13 ∨ 113 ≤ (377 + (9 * Wn) + 3 + i) by omega))
                    have kR_f_791 : RI Rn f_791 := by rw [ef_791]; exact RI.upd htR (fun r9 hr9 e9 => by omega)
                    have hP : va_P D vwCl [(ywa, .inl (cI, 6, .inl a8)), (yta, .inl (cI, 120, .inl tp)), (h0, .inr (9, [.ref ys, .ref yk, .ref yo, .ref yt, .int mk0, .ref yfa, .ref yfe, .int mL, .int mS, .int mM, .ref yro, .ref yhe, .ref ygr, .int mF, .int mC, .int mY, .ref yta, .int (nI (mz)), .int (nI (f2_722)), .int (nI (t2_723)), .int v2_724, .int w2_725, .ref ywa, .ref ybi, .ref ysi, .ref ynu, .ref ymo])), (ys, .inl (cI, 449, .inl f_791))] H := hP
                    have hD : va_D A [(ywa, .inl (cI, 6, .inl a8)), (yta, .inl (cI, 120, .inl tp)), (h0, .inr (9, [.ref ys, .ref yk, .ref yo, .ref yt, .int mk0, .ref yfa, .ref yfe, .int mL, .int mS, .int mM, .ref yro, .ref yhe, .ref ygr, .int mF, .int mC, .int mY, .ref yta, .int (nI (mz)), .int (nI (f2_722)), .int (nI (t2_723)), .int v2_724, .int w2_725, .ref ywa, .ref ybi, .ref ysi, .ref ynu, .ref ymo])), (ys, .inl (cI, 449, .inl f_791))] := hD
                    refine lv_iinc (v := nI (i + 1)) (lv' := [(5, .int (nI (i + 1))), (4, .int (nI (377 + (9 * Wn)))), (3, .int 0), (2, .int v2_724), (1, .int (nI (n8))), (0, .ref h0)]) hx hb dX9_walkItem_246 hl (k := 0) rfl (nI_1 (i)) (by decide) rfl (fun ls hl => ?_)
                    refine lv_goto (tgt := 221) hx hb dX9_walkItem_249 (by decide) ?_
                    exact ih_221 (i + 1) f_791 _ _ _ (by omega) (by omega) (by omega) k0_f_791 k1_f_791 k2_f_791 kS_f_791 kM_f_791 htp htr htw kR_f_791 (hP.sub [0, 1, 2, 3] rfl) (hD.sub [0, 1, 2, 3] (by decide) rfl) hS (lv_sub hl [0, 1, 2, 3, 4, 5] rfl)
          · skip
            refine xc_Vv (wr := [(ys, .inl (cI, 449, .inl ms)), (ywa, .inl (cI, 6, .inl a8))]) hF (c_X9_needs l D cI cJ cZ cS ta sa sv H.size h0 ys yk yo yt mk0 yfa yfe mL mS mM yro yhe ygr mF mC mY yta mz f8 t8 mv w8 ywa ybi ysi ynu ymo tp 0 (by omega) (by omega) (by omega) (by omega) (by omega)) kv_X9_278 ⟨rfl, rfl, Nat.le_of_ble_eq_true rfl, Nat.le_of_ble_eq_true rfl⟩ ⟨Nat.le_of_ble_eq_true rfl, Nat.le_of_ble_eq_true rfl⟩ hK hN hZ hP hD hS hA [2, 3] [0, 1] rfl rfl rfl rfl (by decide) 0 rfl rfl rfl rfl hl.1 rfl (Nat.le_of_ble_eq_true rfl) dX9_walkItem_120 (fun u_r_792 H locs hw_r_792 hP hD hS => ?_)
            obtain ⟨f2_793, t2_794, w2_795⟩ := u_r_792
            try dsimp only at hw_r_792
            obtain ⟨i_796, i_797, i_798, i_799, i_800, i_801⟩ := hw_r_792
            have hP : va_P D vwCl [(ys, .inl (cI, 449, .inl ms)), (ywa, .inl (cI, 6, .inl a8)), (h0, .inr (9, [.ref ys, .ref yk, .ref yo, .ref yt, .int mk0, .ref yfa, .ref yfe, .int mL, .int mS, .int mM, .ref yro, .ref yhe, .ref ygr, .int mF, .int mC, .int mY, .ref yta, .int (nI (mz)), .int (nI (f2_793)), .int (nI (t2_794)), .int mv, .int w2_795, .ref ywa, .ref ybi, .ref ysi, .ref ynu, .ref ymo])), (yta, .inl (cI, 120, .inl tp))] H := hP
            have hD : va_D A [(ys, .inl (cI, 449, .inl ms)), (ywa, .inl (cI, 6, .inl a8)), (h0, .inr (9, [.ref ys, .ref yk, .ref yo, .ref yt, .int mk0, .ref yfa, .ref yfe, .int mL, .int mS, .int mM, .ref yro, .ref yhe, .ref ygr, .int mF, .int mC, .int mY, .ref yta, .int (nI (mz)), .int (nI (f2_793)), .int (nI (t2_794)), .int mv, .int w2_795, .ref ywa, .ref ybi, .ref ysi, .ref ynu, .ref ymo])), (yta, .inl (cI, 120, .inl tp))] := hD
            refine lv_aload_n hx hb dX9_walkItem_123 rfl (lv_at hl 1 rfl) ?_
            refine lv_sipush (v := (-9999)) hx hb dX9_walkItem_124 (by decide) ?_
            refine lv_sipush (v := 9999) hx hb dX9_walkItem_127 (by decide) ?_
            refine xc_Vv (wr := [(ys, .inl (cI, 449, .inl ms)), (ywa, .inl (cI, 6, .inl a8))]) hF (c_X9_mile l D cI cJ cZ cS ta sa sv H.size h0 ys yk yo yt mk0 yfa yfe mL mS mM yro yhe ygr mF mC mY yta mz f2_793 t2_794 mv w2_795 ywa ybi ysi ynu ymo tp (-9999) 9999 (by omega) (by omega) (by omega) (by omega) (by omega)) kv_X9_287 ⟨rfl, rfl, Nat.le_of_ble_eq_true rfl, Nat.le_of_ble_eq_true rfl⟩ ⟨Nat.le_of_ble_eq_true rfl, Nat.le_of_ble_eq_true rfl⟩ hK hN hZ hP hD hS hA [2, 3] [0, 1] rfl rfl rfl rfl (by decide) 0 rfl rfl rfl rfl hl.1 rfl (Nat.le_of_ble_eq_true rfl) dX9_walkItem_130 (fun u_r_802 H locs hw_r_802 hP hD hS => ?_)
            obtain ⟨f2_803, t2_804, v2_805, w2_806⟩ := u_r_802
            try dsimp only at hw_r_802
            obtain ⟨i_807, i_808, i_809, i_810, i_811, i_812⟩ := hw_r_802
            have hP : va_P D vwCl [(ys, .inl (cI, 449, .inl ms)), (ywa, .inl (cI, 6, .inl a8)), (h0, .inr (9, [.ref ys, .ref yk, .ref yo, .ref yt, .int mk0, .ref yfa, .ref yfe, .int mL, .int mS, .int mM, .ref yro, .ref yhe, .ref ygr, .int mF, .int mC, .int mY, .ref yta, .int (nI (mz)), .int (nI (f2_803)), .int (nI (t2_804)), .int v2_805, .int w2_806, .ref ywa, .ref ybi, .ref ysi, .ref ynu, .ref ymo])), (yta, .inl (cI, 120, .inl tp))] H := hP
            have hD : va_D A [(ys, .inl (cI, 449, .inl ms)), (ywa, .inl (cI, 6, .inl a8)), (h0, .inr (9, [.ref ys, .ref yk, .ref yo, .ref yt, .int mk0, .ref yfa, .ref yfe, .int mL, .int mS, .int mM, .ref yro, .ref yhe, .ref ygr, .int mF, .int mC, .int mY, .ref yta, .int (nI (mz)), .int (nI (f2_803)), .int (nI (t2_804)), .int v2_805, .int w2_806, .ref ywa, .ref ybi, .ref ysi, .ref ynu, .ref ymo])), (yta, .inl (cI, 120, .inl tp))] := hD
            refine lv_aload_n hx hb dX9_walkItem_133 rfl (lv_at hl 1 rfl) ?_
            refine xg hF kf_X9_275 hK hP 2 rfl rfl dX9_walkItem_134 ?_
            refine lv_istore_n (lv' := [(2, .int v2_805), (1, .int (nI (n8))), (0, .ref h0)]) hx hb dX9_walkItem_137 rfl hl (by decide) rfl (fun ls hl => ?_)
            refine lv_iconst (v := 0) hx hb dX9_walkItem_138 (by decide) ?_
            refine lv_istore_n (lv' := [(3, .int 0), (2, .int v2_805), (1, .int (nI (n8))), (0, .ref h0)]) hx hb dX9_walkItem_139 rfl hl (by decide) rfl (fun ls hl => ?_)
            refine lv_aload_n hx hb dX9_walkItem_140 rfl (lv_at hl 3 rfl) ?_
            refine lv_bipush (v := 115) hx hb dX9_walkItem_141 (by decide) ?_
            refine lv_bipush (v := 108) hx hb dX9_walkItem_143 (by decide) ?_
            refine lv_bipush (v := 97) hx hb dX9_walkItem_145 (by decide) ?_
            refine lv_bipush (v := 99) hx hb dX9_walkItem_147 (by decide) ?_
            refine lv_bipush (v := 107) hx hb dX9_walkItem_149 (by decide) ?_
            refine lv_iconst (v := 0) hx hb dX9_walkItem_151 (by decide) ?_
            refine lv_iconst (v := 0) hx hb dX9_walkItem_152 (by decide) ?_
            refine xc_Vr hF (c_X9_isWord l D cI cJ cZ cS ta sa sv H.size h0 ys yk yo yt mk0 yfa yfe mL mS mM yro yhe ygr mF mC mY yta mz f2_803 t2_804 v2_805 w2_806 ywa ybi ysi ynu ymo tp 115 108 97 99 107 0 0 (by omega) (by omega)) kv_X9_290 ⟨rfl, rfl, Nat.le_of_ble_eq_true rfl, Nat.le_of_ble_eq_true rfl⟩ ⟨Nat.le_of_ble_eq_true rfl, Nat.le_of_ble_eq_true rfl⟩ hK hN hZ hP hD hS hA [2, 3] rfl rfl 0 rfl rfl rfl rfl hl.1 rfl (Nat.le_of_ble_eq_true rfl) dX9_walkItem_153 (fun r_813 hw_r_813 => ?_)
            rcases hw_r_813 with rfl | rfl
            · skip
              refine lv_if_eq (tgt := 176) hx hb dX9_walkItem_156 (by decide) (fun c_814 => absurd c_814 (by decide)) (fun c_814 => ?_)
              refine lv_aload_n hx hb dX9_walkItem_159 rfl (lv_at hl 3 rfl) ?_
              refine lv_iconst (v := 1) hx hb dX9_walkItem_160 (by decide) ?_
              refine xc_Vv (wr := [(ys, .inl (cI, 449, .inl ms)), (ywa, .inl (cI, 6, .inl a8))]) hF (c_X9_needs l D cI cJ cZ cS ta sa sv H.size h0 ys yk yo yt mk0 yfa yfe mL mS mM yro yhe ygr mF mC mY yta mz f2_803 t2_804 v2_805 w2_806 ywa ybi ysi ynu ymo tp 1 (by omega) (by omega) (by omega) (by omega) (by omega)) kv_X9_278 ⟨rfl, rfl, Nat.le_of_ble_eq_true rfl, Nat.le_of_ble_eq_true rfl⟩ ⟨Nat.le_of_ble_eq_true rfl, Nat.le_of_ble_eq_true rfl⟩ hK hN hZ hP hD hS hA [2, 3] [0, 1] rfl rfl rfl rfl (by decide) 0 rfl rfl rfl rfl hl.1 rfl (Nat.le_of_ble_eq_true rfl) dX9_walkItem_161 (fun u_r_815 H locs hw_r_815 hP hD hS => ?_)
              obtain ⟨f2_816, t2_817, w2_818⟩ := u_r_815
              try dsimp only at hw_r_815
              obtain ⟨i_819, i_820, i_821, i_822, i_823, i_824⟩ := hw_r_815
              have hP : va_P D vwCl [(ys, .inl (cI, 449, .inl ms)), (ywa, .inl (cI, 6, .inl a8)), (h0, .inr (9, [.ref ys, .ref yk, .ref yo, .ref yt, .int mk0, .ref yfa, .ref yfe, .int mL, .int mS, .int mM, .ref yro, .ref yhe, .ref ygr, .int mF, .int mC, .int mY, .ref yta, .int (nI (mz)), .int (nI (f2_816)), .int (nI (t2_817)), .int v2_805, .int w2_818, .ref ywa, .ref ybi, .ref ysi, .ref ynu, .ref ymo])), (yta, .inl (cI, 120, .inl tp))] H := hP
              have hD : va_D A [(ys, .inl (cI, 449, .inl ms)), (ywa, .inl (cI, 6, .inl a8)), (h0, .inr (9, [.ref ys, .ref yk, .ref yo, .ref yt, .int mk0, .ref yfa, .ref yfe, .int mL, .int mS, .int mM, .ref yro, .ref yhe, .ref ygr, .int mF, .int mC, .int mY, .ref yta, .int (nI (mz)), .int (nI (f2_816)), .int (nI (t2_817)), .int v2_805, .int w2_818, .ref ywa, .ref ybi, .ref ysi, .ref ynu, .ref ymo])), (yta, .inl (cI, 120, .inl tp))] := hD
              refine lv_aload_n hx hb dX9_walkItem_164 rfl (lv_at hl 3 rfl) ?_
              refine lv_iconst (v := 0) hx hb dX9_walkItem_165 (by decide) ?_
              refine lv_bipush (v := 99) hx hb dX9_walkItem_166 (by decide) ?_
              refine xc_Vv (wr := [(ys, .inl (cI, 449, .inl ms)), (ywa, .inl (cI, 6, .inl a8))]) hF (c_X9_number l D cI cJ cZ cS ta sa sv H.size h0 ys yk yo yt mk0 yfa yfe mL mS mM yro yhe ygr mF mC mY yta mz f2_816 t2_817 v2_805 w2_818 ywa ybi ysi ynu ymo tp 0 99 (by omega) (by omega) (by omega) (by omega) (by omega)) kv_X9_282 ⟨rfl, rfl, Nat.le_of_ble_eq_true rfl, Nat.le_of_ble_eq_true rfl⟩ ⟨Nat.le_of_ble_eq_true rfl, Nat.le_of_ble_eq_true rfl⟩ hK hN hZ hP hD hS hA [2, 3] [0, 1] rfl rfl rfl rfl (by decide) 0 rfl rfl rfl rfl hl.1 rfl (Nat.le_of_ble_eq_true rfl) dX9_walkItem_168 (fun u_r_825 H locs hw_r_825 hP hD hS => ?_)
              obtain ⟨f2_826, t2_827, v2_828, w2_829⟩ := u_r_825
              try dsimp only at hw_r_825
              obtain ⟨i_830, i_831, i_832, i_833, i_834, i_835⟩ := hw_r_825
              have hP : va_P D vwCl [(ys, .inl (cI, 449, .inl ms)), (ywa, .inl (cI, 6, .inl a8)), (h0, .inr (9, [.ref ys, .ref yk, .ref yo, .ref yt, .int mk0, .ref yfa, .ref yfe, .int mL, .int mS, .int mM, .ref yro, .ref yhe, .ref ygr, .int mF, .int mC, .int mY, .ref yta, .int (nI (mz)), .int (nI (f2_826)), .int (nI (t2_827)), .int v2_828, .int w2_829, .ref ywa, .ref ybi, .ref ysi, .ref ynu, .ref ymo])), (yta, .inl (cI, 120, .inl tp))] H := hP
              have hD : va_D A [(ys, .inl (cI, 449, .inl ms)), (ywa, .inl (cI, 6, .inl a8)), (h0, .inr (9, [.ref ys, .ref yk, .ref yo, .ref yt, .int mk0, .ref yfa, .ref yfe, .int mL, .int mS, .int mM, .ref yro, .ref yhe, .ref ygr, .int mF, .int mC, .int mY, .ref yta, .int (nI (mz)), .int (nI (f2_826)), .int (nI (t2_827)), .int v2_828, .int w2_829, .ref ywa, .ref ybi, .ref ysi, .ref ynu, .ref ymo])), (yta, .inl (cI, 120, .inl tp))] := hD
              refine lv_aload_n hx hb dX9_walkItem_171 rfl (lv_at hl 3 rfl) ?_
              refine xg hF kf_X9_275 hK hP 2 rfl rfl dX9_walkItem_172 ?_
              refine lv_istore_n (lv' := [(3, .int v2_828), (2, .int v2_805), (1, .int (nI (n8))), (0, .ref h0)]) hx hb dX9_walkItem_175 rfl hl (by decide) rfl (fun ls hl => ?_)
              refine lv_aload_n hx hb dX9_walkItem_176 rfl (lv_at hl 3 rfl) ?_
              refine xg hF kf_X9_266 hK hP 2 rfl rfl dX9_walkItem_177 ?_
              refine lv_if_ne (tgt := 252) hx hb dX9_walkItem_180 (by decide) (fun c_836 => ?_) (fun c_836 => absurd rfl (i_801 (i_812 (i_824 (i_835 c_836).1).1).1).2.1)
              exact W.vret hx hb hr (fun t ht hW => ⟨⟨(f2_826, t2_827, v2_828, w2_829, ms, a8, Wn), rfl, ⟨(by first | assumption | omega), (by first | assumption | omega), (by first | assumption | omega), (by first | assumption | omega), (by first | assumption | omega), (fun h => ⟨(i_578 (hc8 (i_801 (i_812 (i_824 (i_835 h).1).1).1).1).1).1, trivial⟩), hs0, hs1, hs2, hsS, hsM, hsp, hsr, hsw, hsR⟩, by rw [ht]; exact hP.sub [2, 0, 3, 1] rfl, hD.sub [2, 0, 3, 1] (by decide) rfl⟩, hS.F ht⟩) hS.2.2 dX9_walkItem_252 hlk
            · skip
              refine lv_if_eq (tgt := 176) hx hb dX9_walkItem_156 (by decide) (fun c_837 => ?_) (fun c_837 => absurd (by decide) c_837)
              refine lv_aload_n hx hb dX9_walkItem_176 rfl (lv_at hl 3 rfl) ?_
              refine xg hF kf_X9_266 hK hP 2 rfl rfl dX9_walkItem_177 ?_
              refine lv_if_ne (tgt := 252) hx hb dX9_walkItem_180 (by decide) (fun c_838 => ?_) (fun c_838 => absurd rfl (i_801 (i_812 c_838).1).2.1)
              exact W.vret hx hb hr (fun t ht hW => ⟨⟨(f2_803, t2_804, v2_805, w2_806, ms, a8, Wn), rfl, ⟨(by first | assumption | omega), (by first | assumption | omega), (by first | assumption | omega), (by first | assumption | omega), (by first | assumption | omega), (fun h => ⟨(i_578 (hc8 (i_801 (i_812 h).1).1).1).1, trivial⟩), hs0, hs1, hs2, hsS, hsM, hsp, hsr, hsw, hsR⟩, by rw [ht]; exact hP.sub [2, 0, 3, 1] rfl, hD.sub [2, 0, 3, 1] (by decide) rfl⟩, hS.F ht⟩) hS.2.2 dX9_walkItem_252 hlk
        · skip
          have nc_709 : n8 < 6 := xn_nle (a := 6) (b := n8) (by omega) (by omega) c_709
          refine lv_iload_n hx hb dX9_walkItem_35 rfl (lv_at hl 0 rfl) ?_
          refine lv_iconst (v := 2) hx hb dX9_walkItem_36 (by decide) ?_
          refine lv_icmp_lt (tgt := 54) hx hb dX9_walkItem_37 (by decide) (fun c_839 => ?_) (fun c_839 => ?_)
          · skip
            have nc_839 : n8 < 2 := xn_lt (a := n8) (b := 2) (by omega) (by omega) c_839
            refine lv_aload_n hx hb dX9_walkItem_54 rfl (lv_at hl 1 rfl) ?_
            refine xc_Vr hF (c_X9_numberHere l D cI cJ cZ cS ta sa sv H.size h0 ys yk yo yt mk0 yfa yfe mL mS mM yro yhe ygr mF mC mY yta mz f8 t8 mv w8 ywa ybi ysi ynu ymo tp (by omega) (by omega) (by omega) (by omega) (by omega)) kv_X9_284 ⟨rfl, rfl, Nat.le_of_ble_eq_true rfl, Nat.le_of_ble_eq_true rfl⟩ ⟨Nat.le_of_ble_eq_true rfl, Nat.le_of_ble_eq_true rfl⟩ hK hN hZ hP hD hS hA [2, 3] rfl rfl 0 rfl rfl rfl rfl hl.1 rfl (Nat.le_of_ble_eq_true rfl) dX9_walkItem_55 (fun r_840 hw_r_840 => ?_)
            refine lv_istore_n (lv' := [(2, .int r_840), (1, .int (nI (n8))), (0, .ref h0)]) hx hb dX9_walkItem_58 rfl hl (by decide) rfl (fun ls hl => ?_)
            refine lv_aload_n hx hb dX9_walkItem_59 rfl (lv_at hl 2 rfl) ?_
            refine lv_aload_n hx hb dX9_walkItem_60 rfl (lv_at hl 2 rfl) ?_
            refine lv_iload_n hx hb dX9_walkItem_61 rfl (lv_at hl 0 rfl) ?_
            refine xc_Vr hF (c_X9_isPlace l D cI cJ cZ cS ta sa sv H.size h0 ys yk yo yt mk0 yfa yfe mL mS mM yro yhe ygr mF mC mY yta mz f8 t8 mv w8 ywa ybi ysi ynu ymo ms P Rn Wn r_840 hs0 hs1 hs2 hsS hsM hsp hsr hsw hsR) kv_X9_61 ⟨rfl, rfl, Nat.le_of_ble_eq_true rfl, Nat.le_of_ble_eq_true rfl⟩ ⟨Nat.le_of_ble_eq_true rfl, Nat.le_of_ble_eq_true rfl⟩ hK hN hZ hP hD hS hA [2, 0] rfl rfl 0 rfl rfl rfl rfl hl.1 rfl (Nat.le_of_ble_eq_true rfl) dX9_walkItem_62 (fun r_841 hw_r_841 => ?_)
            rcases hw_r_841 with ⟨k_842, rfl, rfl, h_844⟩ | rfl
            · skip
              refine lv_if_eq (tgt := 88) hx hb dX9_walkItem_65 (by decide) (fun c_845 => absurd c_845 (by decide)) (fun c_845 => ?_)
              refine lv_iload_n hx hb dX9_walkItem_68 rfl (lv_at hl 1 rfl) ?_
              refine lv_if_eq (tgt := 84) hx hb dX9_walkItem_69 (by decide) (fun c_846 => ?_) (fun c_846 => ?_)
              · skip
                have nc_846 : n8 = 0 := xn_eq (a := n8) (b := 0) (by omega) (by omega) c_846
                refine lv_iconst (v := 1) hx hb dX9_walkItem_84 (by decide) ?_
                refine lv_goto (tgt := 89) hx hb dX9_walkItem_85 (by decide) ?_
                refine xc_Vv (wr := [(ys, .inl (cI, 449, .inl ms)), (ywa, .inl (cI, 6, .inl a8))]) hF (c_X9_needs l D cI cJ cZ cS ta sa sv H.size h0 ys yk yo yt mk0 yfa yfe mL mS mM yro yhe ygr mF mC mY yta mz f8 t8 mv w8 ywa ybi ysi ynu ymo tp 1 (by omega) (by omega) (by omega) (by omega) (by omega)) kv_X9_278 ⟨rfl, rfl, Nat.le_of_ble_eq_true rfl, Nat.le_of_ble_eq_true rfl⟩ ⟨Nat.le_of_ble_eq_true rfl, Nat.le_of_ble_eq_true rfl⟩ hK hN hZ hP hD hS hA [2, 3] [0, 1] rfl rfl rfl rfl (by decide) 0 rfl rfl rfl rfl hl.1 rfl (Nat.le_of_ble_eq_true rfl) dX9_walkItem_89 (fun u_r_847 H locs hw_r_847 hP hD hS => ?_)
                obtain ⟨f2_848, t2_849, w2_850⟩ := u_r_847
                try dsimp only at hw_r_847
                obtain ⟨i_851, i_852, i_853, i_854, i_855, i_856⟩ := hw_r_847
                have hP : va_P D vwCl [(ys, .inl (cI, 449, .inl ms)), (ywa, .inl (cI, 6, .inl a8)), (h0, .inr (9, [.ref ys, .ref yk, .ref yo, .ref yt, .int mk0, .ref yfa, .ref yfe, .int mL, .int mS, .int mM, .ref yro, .ref yhe, .ref ygr, .int mF, .int mC, .int mY, .ref yta, .int (nI (mz)), .int (nI (f2_848)), .int (nI (t2_849)), .int mv, .int w2_850, .ref ywa, .ref ybi, .ref ysi, .ref ynu, .ref ymo])), (yta, .inl (cI, 120, .inl tp))] H := hP
                have hD : va_D A [(ys, .inl (cI, 449, .inl ms)), (ywa, .inl (cI, 6, .inl a8)), (h0, .inr (9, [.ref ys, .ref yk, .ref yo, .ref yt, .int mk0, .ref yfa, .ref yfe, .int mL, .int mS, .int mM, .ref yro, .ref yhe, .ref ygr, .int mF, .int mC, .int mY, .ref yta, .int (nI (mz)), .int (nI (f2_848)), .int (nI (t2_849)), .int mv, .int w2_850, .ref ywa, .ref ybi, .ref ysi, .ref ynu, .ref ymo])), (yta, .inl (cI, 120, .inl tp))] := hD
                refine lv_aload_n hx hb dX9_walkItem_92 rfl (lv_at hl 2 rfl) ?_
                refine xg hF kf_X9_40 hK hP 2 rfl rfl dX9_walkItem_93 ?_
                refine lv_iload_n hx hb dX9_walkItem_96 rfl (lv_at hl 1 rfl) ?_
                refine lv_iload_n hx hb dX9_walkItem_97 rfl (lv_at hl 0 rfl) ?_
                refine va_iast hx hb hK hP hD hS 1 0 rfl rfl (vp_in_nI (show n8 < 6 by omega) (by decide)) dX9_walkItem_98 (fun H locs hP hD hS => ?_)
                rw [nI_clamp (show n8 < 2 ^ 31 by omega)] at hP hD
                obtain ⟨f_857, ef_857⟩ : ∃ g, g = upd a8 n8 (nI (k_842)) := ⟨_, rfl⟩
                rw [← ef_857] at hP hD
                have hP : va_P D vwCl [(ys, .inl (cI, 449, .inl ms)), (ywa, .inl (cI, 6, .inl f_857)), (h0, .inr (9, [.ref ys, .ref yk, .ref yo, .ref yt, .int mk0, .ref yfa, .ref yfe, .int mL, .int mS, .int mM, .ref yro, .ref yhe, .ref ygr, .int mF, .int mC, .int mY, .ref yta, .int (nI (mz)), .int (nI (f2_848)), .int (nI (t2_849)), .int mv, .int w2_850, .ref ywa, .ref ybi, .ref ysi, .ref ynu, .ref ymo])), (yta, .inl (cI, 120, .inl tp))] H := hP
                have hD : va_D A [(ys, .inl (cI, 449, .inl ms)), (ywa, .inl (cI, 6, .inl f_857)), (h0, .inr (9, [.ref ys, .ref yk, .ref yo, .ref yt, .int mk0, .ref yfa, .ref yfe, .int mL, .int mS, .int mM, .ref yro, .ref yhe, .ref ygr, .int mF, .int mC, .int mY, .ref yta, .int (nI (mz)), .int (nI (f2_848)), .int (nI (t2_849)), .int mv, .int w2_850, .ref ywa, .ref ybi, .ref ysi, .ref ynu, .ref ymo])), (yta, .inl (cI, 120, .inl tp))] := hD
                refine lv_iinc (v := nI (n8 + 1)) (lv' := [(1, .int (nI (n8 + 1))), (2, .int (nI (k_842))), (0, .ref h0)]) hx hb dX9_walkItem_99 hl (k := 1) rfl (nI_1 (n8)) (by decide) rfl (fun ls hl => ?_)
                refine lv_goto (tgt := 22) hx hb dX9_walkItem_102 (by decide) ?_
                exact ih_22 (n8 + 1) f2_848 t2_849 w2_850 f_857 _ _ _ (by omega) (by omega) (by omega) (by omega) (by omega) (by omega) (by omega) (fun h => ⟨(hc8 (i_856 h).1).1, trivial⟩) (wk_A.put hA8 c_579 (show k_842 < 10 by omega) ef_857) (hP.sub [0, 1, 2, 3] rfl) (hD.sub [0, 1, 2, 3] (by decide) rfl) hS (lv_sub hl [0, 2] rfl)
              · skip
                have nc_846 : n8 ≠ 0 := xn_ne (a := n8) (b := 0) (by omega) (by omega) c_846
                refine lv_iload_n hx hb dX9_walkItem_72 rfl (lv_at hl 0 rfl) ?_
                refine lv_aload_n hx hb dX9_walkItem_73 rfl (lv_at hl 2 rfl) ?_
                refine xg hF kf_X9_40 hK hP 2 rfl rfl dX9_walkItem_74 ?_
                refine lv_iload_n hx hb dX9_walkItem_77 rfl (lv_at hl 1 rfl) ?_
                refine lv_iconst (v := 1) hx hb dX9_walkItem_78 (by decide) ?_
                refine lv_isub hx hb dX9_walkItem_79 ?_
                refine xl_i (y := nI (n8 - 1)) (pk_sub (show 1 ≤ n8 by omega)) ?_
                refine va_iald hx hb hK hP 1 0 rfl rfl (vp_in_nI (show n8 - 1 < 6 by omega) (by decide)) dX9_walkItem_80 ?_
                refine xl_i (y := a8 (n8 - 1)) (congrArg a8 (nI_clamp (show n8 - 1 < 2 ^ 31 by omega))) ?_
                refine lv_icmp_eq (tgt := 88) hx hb dX9_walkItem_81 (by decide) (fun c_858 => ?_) (fun c_858 => ?_)
                · skip
                  refine lv_iconst (v := 0) hx hb dX9_walkItem_88 (by decide) ?_
                  refine xc_Vv (wr := [(ys, .inl (cI, 449, .inl ms)), (ywa, .inl (cI, 6, .inl a8))]) hF (c_X9_needs l D cI cJ cZ cS ta sa sv H.size h0 ys yk yo yt mk0 yfa yfe mL mS mM yro yhe ygr mF mC mY yta mz f8 t8 mv w8 ywa ybi ysi ynu ymo tp 0 (by omega) (by omega) (by omega) (by omega) (by omega)) kv_X9_278 ⟨rfl, rfl, Nat.le_of_ble_eq_true rfl, Nat.le_of_ble_eq_true rfl⟩ ⟨Nat.le_of_ble_eq_true rfl, Nat.le_of_ble_eq_true rfl⟩ hK hN hZ hP hD hS hA [2, 3] [0, 1] rfl rfl rfl rfl (by decide) 0 rfl rfl rfl rfl hl.1 rfl (Nat.le_of_ble_eq_true rfl) dX9_walkItem_89 (fun u_r_859 H locs hw_r_859 hP hD hS => ?_)
                  obtain ⟨f2_860, t2_861, w2_862⟩ := u_r_859
                  try dsimp only at hw_r_859
                  obtain ⟨i_863, i_864, i_865, i_866, i_867, i_868⟩ := hw_r_859
                  have hP : va_P D vwCl [(ys, .inl (cI, 449, .inl ms)), (ywa, .inl (cI, 6, .inl a8)), (h0, .inr (9, [.ref ys, .ref yk, .ref yo, .ref yt, .int mk0, .ref yfa, .ref yfe, .int mL, .int mS, .int mM, .ref yro, .ref yhe, .ref ygr, .int mF, .int mC, .int mY, .ref yta, .int (nI (mz)), .int (nI (f2_860)), .int (nI (t2_861)), .int mv, .int w2_862, .ref ywa, .ref ybi, .ref ysi, .ref ynu, .ref ymo])), (yta, .inl (cI, 120, .inl tp))] H := hP
                  have hD : va_D A [(ys, .inl (cI, 449, .inl ms)), (ywa, .inl (cI, 6, .inl a8)), (h0, .inr (9, [.ref ys, .ref yk, .ref yo, .ref yt, .int mk0, .ref yfa, .ref yfe, .int mL, .int mS, .int mM, .ref yro, .ref yhe, .ref ygr, .int mF, .int mC, .int mY, .ref yta, .int (nI (mz)), .int (nI (f2_860)), .int (nI (t2_861)), .int mv, .int w2_862, .ref ywa, .ref ybi, .ref ysi, .ref ynu, .ref ymo])), (yta, .inl (cI, 120, .inl tp))] := hD
                  refine lv_aload_n hx hb dX9_walkItem_92 rfl (lv_at hl 2 rfl) ?_
                  refine xg hF kf_X9_40 hK hP 2 rfl rfl dX9_walkItem_93 ?_
                  refine lv_iload_n hx hb dX9_walkItem_96 rfl (lv_at hl 1 rfl) ?_
                  refine lv_iload_n hx hb dX9_walkItem_97 rfl (lv_at hl 0 rfl) ?_
                  refine va_iast hx hb hK hP hD hS 1 0 rfl rfl (vp_in_nI (show n8 < 6 by omega) (by decide)) dX9_walkItem_98 (fun H locs hP hD hS => ?_)
                  rw [nI_clamp (show n8 < 2 ^ 31 by omega)] at hP hD
                  obtain ⟨f_869, ef_869⟩ : ∃ g, g = upd a8 n8 (nI (k_842)) := ⟨_, rfl⟩
                  rw [← ef_869] at hP hD
                  have hP : va_P D vwCl [(ys, .inl (cI, 449, .inl ms)), (ywa, .inl (cI, 6, .inl f_869)), (h0, .inr (9, [.ref ys, .ref yk, .ref yo, .ref yt, .int mk0, .ref yfa, .ref yfe, .int mL, .int mS, .int mM, .ref yro, .ref yhe, .ref ygr, .int mF, .int mC, .int mY, .ref yta, .int (nI (mz)), .int (nI (f2_860)), .int (nI (t2_861)), .int mv, .int w2_862, .ref ywa, .ref ybi, .ref ysi, .ref ynu, .ref ymo])), (yta, .inl (cI, 120, .inl tp))] H := hP
                  have hD : va_D A [(ys, .inl (cI, 449, .inl ms)), (ywa, .inl (cI, 6, .inl f_869)), (h0, .inr (9, [.ref ys, .ref yk, .ref yo, .ref yt, .int mk0, .ref yfa, .ref yfe, .int mL, .int mS, .int mM, .ref yro, .ref yhe, .ref ygr, .int mF, .int mC, .int mY, .ref yta, .int (nI (mz)), .int (nI (f2_860)), .int (nI (t2_861)), .int mv, .int w2_862, .ref ywa, .ref ybi, .ref ysi, .ref ynu, .ref ymo])), (yta, .inl (cI, 120, .inl tp))] := hD
                  refine lv_iinc (v := nI (n8 + 1)) (lv' := [(1, .int (nI (n8 + 1))), (2, .int (nI (k_842))), (0, .ref h0)]) hx hb dX9_walkItem_99 hl (k := 1) rfl (nI_1 (n8)) (by decide) rfl (fun ls hl => ?_)
                  refine lv_goto (tgt := 22) hx hb dX9_walkItem_102 (by decide) ?_
                  exact ih_22 (n8 + 1) f2_860 t2_861 w2_862 f_869 _ _ _ (by omega) (by omega) (by omega) (by omega) (by omega) (by omega) (by omega) (fun h => ⟨(hc8 (i_868 h).1).1, trivial⟩) (wk_A.no (fun h => absurd rfl (i_868 h).2.1)) (hP.sub [0, 1, 2, 3] rfl) (hD.sub [0, 1, 2, 3] (by decide) rfl) hS (lv_sub hl [0, 2] rfl)
                · skip
                  refine lv_iconst (v := 1) hx hb dX9_walkItem_84 (by decide) ?_
                  refine lv_goto (tgt := 89) hx hb dX9_walkItem_85 (by decide) ?_
                  refine xc_Vv (wr := [(ys, .inl (cI, 449, .inl ms)), (ywa, .inl (cI, 6, .inl a8))]) hF (c_X9_needs l D cI cJ cZ cS ta sa sv H.size h0 ys yk yo yt mk0 yfa yfe mL mS mM yro yhe ygr mF mC mY yta mz f8 t8 mv w8 ywa ybi ysi ynu ymo tp 1 (by omega) (by omega) (by omega) (by omega) (by omega)) kv_X9_278 ⟨rfl, rfl, Nat.le_of_ble_eq_true rfl, Nat.le_of_ble_eq_true rfl⟩ ⟨Nat.le_of_ble_eq_true rfl, Nat.le_of_ble_eq_true rfl⟩ hK hN hZ hP hD hS hA [2, 3] [0, 1] rfl rfl rfl rfl (by decide) 0 rfl rfl rfl rfl hl.1 rfl (Nat.le_of_ble_eq_true rfl) dX9_walkItem_89 (fun u_r_870 H locs hw_r_870 hP hD hS => ?_)
                  obtain ⟨f2_871, t2_872, w2_873⟩ := u_r_870
                  try dsimp only at hw_r_870
                  obtain ⟨i_874, i_875, i_876, i_877, i_878, i_879⟩ := hw_r_870
                  have hP : va_P D vwCl [(ys, .inl (cI, 449, .inl ms)), (ywa, .inl (cI, 6, .inl a8)), (h0, .inr (9, [.ref ys, .ref yk, .ref yo, .ref yt, .int mk0, .ref yfa, .ref yfe, .int mL, .int mS, .int mM, .ref yro, .ref yhe, .ref ygr, .int mF, .int mC, .int mY, .ref yta, .int (nI (mz)), .int (nI (f2_871)), .int (nI (t2_872)), .int mv, .int w2_873, .ref ywa, .ref ybi, .ref ysi, .ref ynu, .ref ymo])), (yta, .inl (cI, 120, .inl tp))] H := hP
                  have hD : va_D A [(ys, .inl (cI, 449, .inl ms)), (ywa, .inl (cI, 6, .inl a8)), (h0, .inr (9, [.ref ys, .ref yk, .ref yo, .ref yt, .int mk0, .ref yfa, .ref yfe, .int mL, .int mS, .int mM, .ref yro, .ref yhe, .ref ygr, .int mF, .int mC, .int mY, .ref yta, .int (nI (mz)), .int (nI (f2_871)), .int (nI (t2_872)), .int mv, .int w2_873, .ref ywa, .ref ybi, .ref ysi, .ref ynu, .ref ymo])), (yta, .inl (cI, 120, .inl tp))] := hD
                  refine lv_aload_n hx hb dX9_walkItem_92 rfl (lv_at hl 2 rfl) ?_
                  refine xg hF kf_X9_40 hK hP 2 rfl rfl dX9_walkItem_93 ?_
                  refine lv_iload_n hx hb dX9_walkItem_96 rfl (lv_at hl 1 rfl) ?_
                  refine lv_iload_n hx hb dX9_walkItem_97 rfl (lv_at hl 0 rfl) ?_
                  refine va_iast hx hb hK hP hD hS 1 0 rfl rfl (vp_in_nI (show n8 < 6 by omega) (by decide)) dX9_walkItem_98 (fun H locs hP hD hS => ?_)
                  rw [nI_clamp (show n8 < 2 ^ 31 by omega)] at hP hD
                  obtain ⟨f_880, ef_880⟩ : ∃ g, g = upd a8 n8 (nI (k_842)) := ⟨_, rfl⟩
                  rw [← ef_880] at hP hD
                  have hP : va_P D vwCl [(ys, .inl (cI, 449, .inl ms)), (ywa, .inl (cI, 6, .inl f_880)), (h0, .inr (9, [.ref ys, .ref yk, .ref yo, .ref yt, .int mk0, .ref yfa, .ref yfe, .int mL, .int mS, .int mM, .ref yro, .ref yhe, .ref ygr, .int mF, .int mC, .int mY, .ref yta, .int (nI (mz)), .int (nI (f2_871)), .int (nI (t2_872)), .int mv, .int w2_873, .ref ywa, .ref ybi, .ref ysi, .ref ynu, .ref ymo])), (yta, .inl (cI, 120, .inl tp))] H := hP
                  have hD : va_D A [(ys, .inl (cI, 449, .inl ms)), (ywa, .inl (cI, 6, .inl f_880)), (h0, .inr (9, [.ref ys, .ref yk, .ref yo, .ref yt, .int mk0, .ref yfa, .ref yfe, .int mL, .int mS, .int mM, .ref yro, .ref yhe, .ref ygr, .int mF, .int mC, .int mY, .ref yta, .int (nI (mz)), .int (nI (f2_871)), .int (nI (t2_872)), .int mv, .int w2_873, .ref ywa, .ref ybi, .ref ysi, .ref ynu, .ref ymo])), (yta, .inl (cI, 120, .inl tp))] := hD
                  refine lv_iinc (v := nI (n8 + 1)) (lv' := [(1, .int (nI (n8 + 1))), (2, .int (nI (k_842))), (0, .ref h0)]) hx hb dX9_walkItem_99 hl (k := 1) rfl (nI_1 (n8)) (by decide) rfl (fun ls hl => ?_)
                  refine lv_goto (tgt := 22) hx hb dX9_walkItem_102 (by decide) ?_
                  exact ih_22 (n8 + 1) f2_871 t2_872 w2_873 f_880 _ _ _ (by omega) (by omega) (by omega) (by omega) (by omega) (by omega) (by omega) (fun h => ⟨(hc8 (i_879 h).1).1, trivial⟩) (wk_A.put hA8 c_579 (show k_842 < 10 by omega) ef_880) (hP.sub [0, 1, 2, 3] rfl) (hD.sub [0, 1, 2, 3] (by decide) rfl) hS (lv_sub hl [0, 2] rfl)
            · skip
              refine lv_if_eq (tgt := 88) hx hb dX9_walkItem_65 (by decide) (fun c_881 => ?_) (fun c_881 => absurd (by decide) c_881)
              refine lv_iconst (v := 0) hx hb dX9_walkItem_88 (by decide) ?_
              refine xc_Vv (wr := [(ys, .inl (cI, 449, .inl ms)), (ywa, .inl (cI, 6, .inl a8))]) hF (c_X9_needs l D cI cJ cZ cS ta sa sv H.size h0 ys yk yo yt mk0 yfa yfe mL mS mM yro yhe ygr mF mC mY yta mz f8 t8 mv w8 ywa ybi ysi ynu ymo tp 0 (by omega) (by omega) (by omega) (by omega) (by omega)) kv_X9_278 ⟨rfl, rfl, Nat.le_of_ble_eq_true rfl, Nat.le_of_ble_eq_true rfl⟩ ⟨Nat.le_of_ble_eq_true rfl, Nat.le_of_ble_eq_true rfl⟩ hK hN hZ hP hD hS hA [2, 3] [0, 1] rfl rfl rfl rfl (by decide) 0 rfl rfl rfl rfl hl.1 rfl (Nat.le_of_ble_eq_true rfl) dX9_walkItem_89 (fun u_r_882 H locs hw_r_882 hP hD hS => ?_)
              obtain ⟨f2_883, t2_884, w2_885⟩ := u_r_882
              try dsimp only at hw_r_882
              obtain ⟨i_886, i_887, i_888, i_889, i_890, i_891⟩ := hw_r_882
              have hP : va_P D vwCl [(ys, .inl (cI, 449, .inl ms)), (ywa, .inl (cI, 6, .inl a8)), (h0, .inr (9, [.ref ys, .ref yk, .ref yo, .ref yt, .int mk0, .ref yfa, .ref yfe, .int mL, .int mS, .int mM, .ref yro, .ref yhe, .ref ygr, .int mF, .int mC, .int mY, .ref yta, .int (nI (mz)), .int (nI (f2_883)), .int (nI (t2_884)), .int mv, .int w2_885, .ref ywa, .ref ybi, .ref ysi, .ref ynu, .ref ymo])), (yta, .inl (cI, 120, .inl tp))] H := hP
              have hD : va_D A [(ys, .inl (cI, 449, .inl ms)), (ywa, .inl (cI, 6, .inl a8)), (h0, .inr (9, [.ref ys, .ref yk, .ref yo, .ref yt, .int mk0, .ref yfa, .ref yfe, .int mL, .int mS, .int mM, .ref yro, .ref yhe, .ref ygr, .int mF, .int mC, .int mY, .ref yta, .int (nI (mz)), .int (nI (f2_883)), .int (nI (t2_884)), .int mv, .int w2_885, .ref ywa, .ref ybi, .ref ysi, .ref ynu, .ref ymo])), (yta, .inl (cI, 120, .inl tp))] := hD
              refine lv_aload_n hx hb dX9_walkItem_92 rfl (lv_at hl 2 rfl) ?_
              refine xg hF kf_X9_40 hK hP 2 rfl rfl dX9_walkItem_93 ?_
              refine lv_iload_n hx hb dX9_walkItem_96 rfl (lv_at hl 1 rfl) ?_
              refine lv_iload_n hx hb dX9_walkItem_97 rfl (lv_at hl 0 rfl) ?_
              refine va_iast hx hb hK hP hD hS 1 0 rfl rfl (vp_in_nI (show n8 < 6 by omega) (by decide)) dX9_walkItem_98 (fun H locs hP hD hS => ?_)
              rw [nI_clamp (show n8 < 2 ^ 31 by omega)] at hP hD
              obtain ⟨f_892, ef_892⟩ : ∃ g, g = upd a8 n8 r_840 := ⟨_, rfl⟩
              rw [← ef_892] at hP hD
              have hP : va_P D vwCl [(ys, .inl (cI, 449, .inl ms)), (ywa, .inl (cI, 6, .inl f_892)), (h0, .inr (9, [.ref ys, .ref yk, .ref yo, .ref yt, .int mk0, .ref yfa, .ref yfe, .int mL, .int mS, .int mM, .ref yro, .ref yhe, .ref ygr, .int mF, .int mC, .int mY, .ref yta, .int (nI (mz)), .int (nI (f2_883)), .int (nI (t2_884)), .int mv, .int w2_885, .ref ywa, .ref ybi, .ref ysi, .ref ynu, .ref ymo])), (yta, .inl (cI, 120, .inl tp))] H := hP
              have hD : va_D A [(ys, .inl (cI, 449, .inl ms)), (ywa, .inl (cI, 6, .inl f_892)), (h0, .inr (9, [.ref ys, .ref yk, .ref yo, .ref yt, .int mk0, .ref yfa, .ref yfe, .int mL, .int mS, .int mM, .ref yro, .ref yhe, .ref ygr, .int mF, .int mC, .int mY, .ref yta, .int (nI (mz)), .int (nI (f2_883)), .int (nI (t2_884)), .int mv, .int w2_885, .ref ywa, .ref ybi, .ref ysi, .ref ynu, .ref ymo])), (yta, .inl (cI, 120, .inl tp))] := hD
              refine lv_iinc (v := nI (n8 + 1)) (lv' := [(1, .int (nI (n8 + 1))), (2, .int r_840), (0, .ref h0)]) hx hb dX9_walkItem_99 hl (k := 1) rfl (nI_1 (n8)) (by decide) rfl (fun ls hl => ?_)
              refine lv_goto (tgt := 22) hx hb dX9_walkItem_102 (by decide) ?_
              exact ih_22 (n8 + 1) f2_883 t2_884 w2_885 f_892 _ _ _ (by omega) (by omega) (by omega) (by omega) (by omega) (by omega) (by omega) (fun h => ⟨(hc8 (i_891 h).1).1, trivial⟩) (wk_A.no (fun h => absurd rfl (i_891 h).2.1)) (hP.sub [0, 1, 2, 3] rfl) (hD.sub [0, 1, 2, 3] (by decide) rfl) hS (lv_sub hl [0, 2] rfl)
          · skip
            have nc_839 : 2 ≤ n8 := xn_nlt (a := n8) (b := 2) (by omega) (by omega) c_839
            refine lv_aload_n hx hb dX9_walkItem_40 rfl (lv_at hl 1 rfl) ?_
            refine lv_aload_n hx hb dX9_walkItem_41 rfl (lv_at hl 1 rfl) ?_
            refine xg hF kf_X9_254 hK hP 2 rfl rfl dX9_walkItem_42 ?_
            refine xc_Vr hF (c_X9_byteAt l D cI cJ cZ cS ta sa sv H.size h0 ys yk yo yt mk0 yfa yfe mL mS mM yro yhe ygr mF mC mY yta mz f8 t8 mv w8 ywa ybi ysi ynu ymo tp f8 (by omega) (by omega)) kv_X9_257 ⟨rfl, rfl, Nat.le_of_ble_eq_true rfl, Nat.le_of_ble_eq_true rfl⟩ ⟨Nat.le_of_ble_eq_true rfl, Nat.le_of_ble_eq_true rfl⟩ hK hN hZ hP hD hS hA [2, 3] rfl rfl 0 rfl rfl rfl rfl hl.1 rfl (Nat.le_of_ble_eq_true rfl) dX9_walkItem_45 (fun r_893 hw_r_893 => ?_)
            rcases hw_r_893 with ⟨rfl, h_894⟩ | ⟨rfl, h_895⟩
            · skip
              refine xc_Sr hF (c_X9_isDigit l D cI cJ cZ cS ta sa sv H.size (tp f8) ) ks_X9_263 ⟨rfl, rfl, Nat.le_of_ble_eq_true rfl, Nat.le_of_ble_eq_true rfl⟩ ⟨Nat.le_of_ble_eq_true rfl, Nat.le_of_ble_eq_true rfl⟩ hK hN hZ hP hD hS hA [] rfl rfl rfl hl.1 rfl (Nat.le_of_ble_eq_true rfl) dX9_walkItem_48 (fun r_896 hw_r_896 => ?_)
              rcases hw_r_896 with ⟨rfl, h_897, h_898⟩ | ⟨rfl, h_899⟩
              · skip
                refine lv_if_eq (tgt := 105) hx hb dX9_walkItem_51 (by decide) (fun c_900 => absurd c_900 (by decide)) (fun c_900 => ?_)
                refine lv_aload_n hx hb dX9_walkItem_54 rfl (lv_at hl 1 rfl) ?_
                refine xc_Vr hF (c_X9_numberHere l D cI cJ cZ cS ta sa sv H.size h0 ys yk yo yt mk0 yfa yfe mL mS mM yro yhe ygr mF mC mY yta mz f8 t8 mv w8 ywa ybi ysi ynu ymo tp (by omega) (by omega) (by omega) (by omega) (by omega)) kv_X9_284 ⟨rfl, rfl, Nat.le_of_ble_eq_true rfl, Nat.le_of_ble_eq_true rfl⟩ ⟨Nat.le_of_ble_eq_true rfl, Nat.le_of_ble_eq_true rfl⟩ hK hN hZ hP hD hS hA [2, 3] rfl rfl 0 rfl rfl rfl rfl hl.1 rfl (Nat.le_of_ble_eq_true rfl) dX9_walkItem_55 (fun r_901 hw_r_901 => ?_)
                refine lv_istore_n (lv' := [(2, .int r_901), (1, .int (nI (n8))), (0, .ref h0)]) hx hb dX9_walkItem_58 rfl hl (by decide) rfl (fun ls hl => ?_)
                refine lv_aload_n hx hb dX9_walkItem_59 rfl (lv_at hl 2 rfl) ?_
                refine lv_aload_n hx hb dX9_walkItem_60 rfl (lv_at hl 2 rfl) ?_
                refine lv_iload_n hx hb dX9_walkItem_61 rfl (lv_at hl 0 rfl) ?_
                refine xc_Vr hF (c_X9_isPlace l D cI cJ cZ cS ta sa sv H.size h0 ys yk yo yt mk0 yfa yfe mL mS mM yro yhe ygr mF mC mY yta mz f8 t8 mv w8 ywa ybi ysi ynu ymo ms P Rn Wn r_901 hs0 hs1 hs2 hsS hsM hsp hsr hsw hsR) kv_X9_61 ⟨rfl, rfl, Nat.le_of_ble_eq_true rfl, Nat.le_of_ble_eq_true rfl⟩ ⟨Nat.le_of_ble_eq_true rfl, Nat.le_of_ble_eq_true rfl⟩ hK hN hZ hP hD hS hA [2, 0] rfl rfl 0 rfl rfl rfl rfl hl.1 rfl (Nat.le_of_ble_eq_true rfl) dX9_walkItem_62 (fun r_902 hw_r_902 => ?_)
                rcases hw_r_902 with ⟨k_903, rfl, rfl, h_905⟩ | rfl
                · skip
                  refine lv_if_eq (tgt := 88) hx hb dX9_walkItem_65 (by decide) (fun c_906 => absurd c_906 (by decide)) (fun c_906 => ?_)
                  refine lv_iload_n hx hb dX9_walkItem_68 rfl (lv_at hl 1 rfl) ?_
                  refine lv_if_eq (tgt := 84) hx hb dX9_walkItem_69 (by decide) (fun c_907 => ?_) (fun c_907 => ?_)
                  · skip
                    have nc_907 : n8 = 0 := xn_eq (a := n8) (b := 0) (by omega) (by omega) c_907
                    refine lv_iconst (v := 1) hx hb dX9_walkItem_84 (by decide) ?_
                    refine lv_goto (tgt := 89) hx hb dX9_walkItem_85 (by decide) ?_
                    refine xc_Vv (wr := [(ys, .inl (cI, 449, .inl ms)), (ywa, .inl (cI, 6, .inl a8))]) hF (c_X9_needs l D cI cJ cZ cS ta sa sv H.size h0 ys yk yo yt mk0 yfa yfe mL mS mM yro yhe ygr mF mC mY yta mz f8 t8 mv w8 ywa ybi ysi ynu ymo tp 1 (by omega) (by omega) (by omega) (by omega) (by omega)) kv_X9_278 ⟨rfl, rfl, Nat.le_of_ble_eq_true rfl, Nat.le_of_ble_eq_true rfl⟩ ⟨Nat.le_of_ble_eq_true rfl, Nat.le_of_ble_eq_true rfl⟩ hK hN hZ hP hD hS hA [2, 3] [0, 1] rfl rfl rfl rfl (by decide) 0 rfl rfl rfl rfl hl.1 rfl (Nat.le_of_ble_eq_true rfl) dX9_walkItem_89 (fun u_r_908 H locs hw_r_908 hP hD hS => ?_)
                    obtain ⟨f2_909, t2_910, w2_911⟩ := u_r_908
                    try dsimp only at hw_r_908
                    obtain ⟨i_912, i_913, i_914, i_915, i_916, i_917⟩ := hw_r_908
                    have hP : va_P D vwCl [(ys, .inl (cI, 449, .inl ms)), (ywa, .inl (cI, 6, .inl a8)), (h0, .inr (9, [.ref ys, .ref yk, .ref yo, .ref yt, .int mk0, .ref yfa, .ref yfe, .int mL, .int mS, .int mM, .ref yro, .ref yhe, .ref ygr, .int mF, .int mC, .int mY, .ref yta, .int (nI (mz)), .int (nI (f2_909)), .int (nI (t2_910)), .int mv, .int w2_911, .ref ywa, .ref ybi, .ref ysi, .ref ynu, .ref ymo])), (yta, .inl (cI, 120, .inl tp))] H := hP
                    have hD : va_D A [(ys, .inl (cI, 449, .inl ms)), (ywa, .inl (cI, 6, .inl a8)), (h0, .inr (9, [.ref ys, .ref yk, .ref yo, .ref yt, .int mk0, .ref yfa, .ref yfe, .int mL, .int mS, .int mM, .ref yro, .ref yhe, .ref ygr, .int mF, .int mC, .int mY, .ref yta, .int (nI (mz)), .int (nI (f2_909)), .int (nI (t2_910)), .int mv, .int w2_911, .ref ywa, .ref ybi, .ref ysi, .ref ynu, .ref ymo])), (yta, .inl (cI, 120, .inl tp))] := hD
                    refine lv_aload_n hx hb dX9_walkItem_92 rfl (lv_at hl 2 rfl) ?_
                    refine xg hF kf_X9_40 hK hP 2 rfl rfl dX9_walkItem_93 ?_
                    refine lv_iload_n hx hb dX9_walkItem_96 rfl (lv_at hl 1 rfl) ?_
                    refine lv_iload_n hx hb dX9_walkItem_97 rfl (lv_at hl 0 rfl) ?_
                    refine va_iast hx hb hK hP hD hS 1 0 rfl rfl (vp_in_nI (show n8 < 6 by omega) (by decide)) dX9_walkItem_98 (fun H locs hP hD hS => ?_)
                    rw [nI_clamp (show n8 < 2 ^ 31 by omega)] at hP hD
                    obtain ⟨f_918, ef_918⟩ : ∃ g, g = upd a8 n8 (nI (k_903)) := ⟨_, rfl⟩
                    rw [← ef_918] at hP hD
                    have hP : va_P D vwCl [(ys, .inl (cI, 449, .inl ms)), (ywa, .inl (cI, 6, .inl f_918)), (h0, .inr (9, [.ref ys, .ref yk, .ref yo, .ref yt, .int mk0, .ref yfa, .ref yfe, .int mL, .int mS, .int mM, .ref yro, .ref yhe, .ref ygr, .int mF, .int mC, .int mY, .ref yta, .int (nI (mz)), .int (nI (f2_909)), .int (nI (t2_910)), .int mv, .int w2_911, .ref ywa, .ref ybi, .ref ysi, .ref ynu, .ref ymo])), (yta, .inl (cI, 120, .inl tp))] H := hP
                    have hD : va_D A [(ys, .inl (cI, 449, .inl ms)), (ywa, .inl (cI, 6, .inl f_918)), (h0, .inr (9, [.ref ys, .ref yk, .ref yo, .ref yt, .int mk0, .ref yfa, .ref yfe, .int mL, .int mS, .int mM, .ref yro, .ref yhe, .ref ygr, .int mF, .int mC, .int mY, .ref yta, .int (nI (mz)), .int (nI (f2_909)), .int (nI (t2_910)), .int mv, .int w2_911, .ref ywa, .ref ybi, .ref ysi, .ref ynu, .ref ymo])), (yta, .inl (cI, 120, .inl tp))] := hD
                    refine lv_iinc (v := nI (n8 + 1)) (lv' := [(1, .int (nI (n8 + 1))), (2, .int (nI (k_903))), (0, .ref h0)]) hx hb dX9_walkItem_99 hl (k := 1) rfl (nI_1 (n8)) (by decide) rfl (fun ls hl => ?_)
                    refine lv_goto (tgt := 22) hx hb dX9_walkItem_102 (by decide) ?_
                    exact ih_22 (n8 + 1) f2_909 t2_910 w2_911 f_918 _ _ _ (by omega) (by omega) (by omega) (by omega) (by omega) (by omega) (by omega) (fun h => ⟨(hc8 (i_917 h).1).1, trivial⟩) (wk_A.put hA8 c_579 (show k_903 < 10 by omega) ef_918) (hP.sub [0, 1, 2, 3] rfl) (hD.sub [0, 1, 2, 3] (by decide) rfl) hS (lv_sub hl [0, 2] rfl)
                  · skip
                    have nc_907 : n8 ≠ 0 := xn_ne (a := n8) (b := 0) (by omega) (by omega) c_907
                    refine lv_iload_n hx hb dX9_walkItem_72 rfl (lv_at hl 0 rfl) ?_
                    refine lv_aload_n hx hb dX9_walkItem_73 rfl (lv_at hl 2 rfl) ?_
                    refine xg hF kf_X9_40 hK hP 2 rfl rfl dX9_walkItem_74 ?_
                    refine lv_iload_n hx hb dX9_walkItem_77 rfl (lv_at hl 1 rfl) ?_
                    refine lv_iconst (v := 1) hx hb dX9_walkItem_78 (by decide) ?_
                    refine lv_isub hx hb dX9_walkItem_79 ?_
                    refine xl_i (y := nI (n8 - 1)) (pk_sub (show 1 ≤ n8 by omega)) ?_
                    refine va_iald hx hb hK hP 1 0 rfl rfl (vp_in_nI (show n8 - 1 < 6 by omega) (by decide)) dX9_walkItem_80 ?_
                    refine xl_i (y := a8 (n8 - 1)) (congrArg a8 (nI_clamp (show n8 - 1 < 2 ^ 31 by omega))) ?_
                    refine lv_icmp_eq (tgt := 88) hx hb dX9_walkItem_81 (by decide) (fun c_919 => ?_) (fun c_919 => ?_)
                    · skip
                      refine lv_iconst (v := 0) hx hb dX9_walkItem_88 (by decide) ?_
                      refine xc_Vv (wr := [(ys, .inl (cI, 449, .inl ms)), (ywa, .inl (cI, 6, .inl a8))]) hF (c_X9_needs l D cI cJ cZ cS ta sa sv H.size h0 ys yk yo yt mk0 yfa yfe mL mS mM yro yhe ygr mF mC mY yta mz f8 t8 mv w8 ywa ybi ysi ynu ymo tp 0 (by omega) (by omega) (by omega) (by omega) (by omega)) kv_X9_278 ⟨rfl, rfl, Nat.le_of_ble_eq_true rfl, Nat.le_of_ble_eq_true rfl⟩ ⟨Nat.le_of_ble_eq_true rfl, Nat.le_of_ble_eq_true rfl⟩ hK hN hZ hP hD hS hA [2, 3] [0, 1] rfl rfl rfl rfl (by decide) 0 rfl rfl rfl rfl hl.1 rfl (Nat.le_of_ble_eq_true rfl) dX9_walkItem_89 (fun u_r_920 H locs hw_r_920 hP hD hS => ?_)
                      obtain ⟨f2_921, t2_922, w2_923⟩ := u_r_920
                      try dsimp only at hw_r_920
                      obtain ⟨i_924, i_925, i_926, i_927, i_928, i_929⟩ := hw_r_920
                      have hP : va_P D vwCl [(ys, .inl (cI, 449, .inl ms)), (ywa, .inl (cI, 6, .inl a8)), (h0, .inr (9, [.ref ys, .ref yk, .ref yo, .ref yt, .int mk0, .ref yfa, .ref yfe, .int mL, .int mS, .int mM, .ref yro, .ref yhe, .ref ygr, .int mF, .int mC, .int mY, .ref yta, .int (nI (mz)), .int (nI (f2_921)), .int (nI (t2_922)), .int mv, .int w2_923, .ref ywa, .ref ybi, .ref ysi, .ref ynu, .ref ymo])), (yta, .inl (cI, 120, .inl tp))] H := hP
                      have hD : va_D A [(ys, .inl (cI, 449, .inl ms)), (ywa, .inl (cI, 6, .inl a8)), (h0, .inr (9, [.ref ys, .ref yk, .ref yo, .ref yt, .int mk0, .ref yfa, .ref yfe, .int mL, .int mS, .int mM, .ref yro, .ref yhe, .ref ygr, .int mF, .int mC, .int mY, .ref yta, .int (nI (mz)), .int (nI (f2_921)), .int (nI (t2_922)), .int mv, .int w2_923, .ref ywa, .ref ybi, .ref ysi, .ref ynu, .ref ymo])), (yta, .inl (cI, 120, .inl tp))] := hD
                      refine lv_aload_n hx hb dX9_walkItem_92 rfl (lv_at hl 2 rfl) ?_
                      refine xg hF kf_X9_40 hK hP 2 rfl rfl dX9_walkItem_93 ?_
                      refine lv_iload_n hx hb dX9_walkItem_96 rfl (lv_at hl 1 rfl) ?_
                      refine lv_iload_n hx hb dX9_walkItem_97 rfl (lv_at hl 0 rfl) ?_
                      refine va_iast hx hb hK hP hD hS 1 0 rfl rfl (vp_in_nI (show n8 < 6 by omega) (by decide)) dX9_walkItem_98 (fun H locs hP hD hS => ?_)
                      rw [nI_clamp (show n8 < 2 ^ 31 by omega)] at hP hD
                      obtain ⟨f_930, ef_930⟩ : ∃ g, g = upd a8 n8 (nI (k_903)) := ⟨_, rfl⟩
                      rw [← ef_930] at hP hD
                      have hP : va_P D vwCl [(ys, .inl (cI, 449, .inl ms)), (ywa, .inl (cI, 6, .inl f_930)), (h0, .inr (9, [.ref ys, .ref yk, .ref yo, .ref yt, .int mk0, .ref yfa, .ref yfe, .int mL, .int mS, .int mM, .ref yro, .ref yhe, .ref ygr, .int mF, .int mC, .int mY, .ref yta, .int (nI (mz)), .int (nI (f2_921)), .int (nI (t2_922)), .int mv, .int w2_923, .ref ywa, .ref ybi, .ref ysi, .ref ynu, .ref ymo])), (yta, .inl (cI, 120, .inl tp))] H := hP
                      have hD : va_D A [(ys, .inl (cI, 449, .inl ms)), (ywa, .inl (cI, 6, .inl f_930)), (h0, .inr (9, [.ref ys, .ref yk, .ref yo, .ref yt, .int mk0, .ref yfa, .ref yfe, .int mL, .int mS, .int mM, .ref yro, .ref yhe, .ref ygr, .int mF, .int mC, .int mY, .ref yta, .int (nI (mz)), .int (nI (f2_921)), .int (nI (t2_922)), .int mv, .int w2_923, .ref ywa, .ref ybi, .ref ysi, .ref ynu, .ref ymo])), (yta, .inl (cI, 120, .inl tp))] := hD
                      refine lv_iinc (v := nI (n8 + 1)) (lv' := [(1, .int (nI (n8 + 1))), (2, .int (nI (k_903))), (0, .ref h0)]) hx hb dX9_walkItem_99 hl (k := 1) rfl (nI_1 (n8)) (by decide) rfl (fun ls hl => ?_)
                      refine lv_goto (tgt := 22) hx hb dX9_walkItem_102 (by decide) ?_
                      exact ih_22 (n8 + 1) f2_921 t2_922 w2_923 f_930 _ _ _ (by omega) (by omega) (by omega) (by omega) (by omega) (by omega) (by omega) (fun h => ⟨(hc8 (i_929 h).1).1, trivial⟩) (wk_A.no (fun h => absurd rfl (i_929 h).2.1)) (hP.sub [0, 1, 2, 3] rfl) (hD.sub [0, 1, 2, 3] (by decide) rfl) hS (lv_sub hl [0, 2] rfl)
                    · skip
                      refine lv_iconst (v := 1) hx hb dX9_walkItem_84 (by decide) ?_
                      refine lv_goto (tgt := 89) hx hb dX9_walkItem_85 (by decide) ?_
                      refine xc_Vv (wr := [(ys, .inl (cI, 449, .inl ms)), (ywa, .inl (cI, 6, .inl a8))]) hF (c_X9_needs l D cI cJ cZ cS ta sa sv H.size h0 ys yk yo yt mk0 yfa yfe mL mS mM yro yhe ygr mF mC mY yta mz f8 t8 mv w8 ywa ybi ysi ynu ymo tp 1 (by omega) (by omega) (by omega) (by omega) (by omega)) kv_X9_278 ⟨rfl, rfl, Nat.le_of_ble_eq_true rfl, Nat.le_of_ble_eq_true rfl⟩ ⟨Nat.le_of_ble_eq_true rfl, Nat.le_of_ble_eq_true rfl⟩ hK hN hZ hP hD hS hA [2, 3] [0, 1] rfl rfl rfl rfl (by decide) 0 rfl rfl rfl rfl hl.1 rfl (Nat.le_of_ble_eq_true rfl) dX9_walkItem_89 (fun u_r_931 H locs hw_r_931 hP hD hS => ?_)
                      obtain ⟨f2_932, t2_933, w2_934⟩ := u_r_931
                      try dsimp only at hw_r_931
                      obtain ⟨i_935, i_936, i_937, i_938, i_939, i_940⟩ := hw_r_931
                      have hP : va_P D vwCl [(ys, .inl (cI, 449, .inl ms)), (ywa, .inl (cI, 6, .inl a8)), (h0, .inr (9, [.ref ys, .ref yk, .ref yo, .ref yt, .int mk0, .ref yfa, .ref yfe, .int mL, .int mS, .int mM, .ref yro, .ref yhe, .ref ygr, .int mF, .int mC, .int mY, .ref yta, .int (nI (mz)), .int (nI (f2_932)), .int (nI (t2_933)), .int mv, .int w2_934, .ref ywa, .ref ybi, .ref ysi, .ref ynu, .ref ymo])), (yta, .inl (cI, 120, .inl tp))] H := hP
                      have hD : va_D A [(ys, .inl (cI, 449, .inl ms)), (ywa, .inl (cI, 6, .inl a8)), (h0, .inr (9, [.ref ys, .ref yk, .ref yo, .ref yt, .int mk0, .ref yfa, .ref yfe, .int mL, .int mS, .int mM, .ref yro, .ref yhe, .ref ygr, .int mF, .int mC, .int mY, .ref yta, .int (nI (mz)), .int (nI (f2_932)), .int (nI (t2_933)), .int mv, .int w2_934, .ref ywa, .ref ybi, .ref ysi, .ref ynu, .ref ymo])), (yta, .inl (cI, 120, .inl tp))] := hD
                      refine lv_aload_n hx hb dX9_walkItem_92 rfl (lv_at hl 2 rfl) ?_
                      refine xg hF kf_X9_40 hK hP 2 rfl rfl dX9_walkItem_93 ?_
                      refine lv_iload_n hx hb dX9_walkItem_96 rfl (lv_at hl 1 rfl) ?_
                      refine lv_iload_n hx hb dX9_walkItem_97 rfl (lv_at hl 0 rfl) ?_
                      refine va_iast hx hb hK hP hD hS 1 0 rfl rfl (vp_in_nI (show n8 < 6 by omega) (by decide)) dX9_walkItem_98 (fun H locs hP hD hS => ?_)
                      rw [nI_clamp (show n8 < 2 ^ 31 by omega)] at hP hD
                      obtain ⟨f_941, ef_941⟩ : ∃ g, g = upd a8 n8 (nI (k_903)) := ⟨_, rfl⟩
                      rw [← ef_941] at hP hD
                      have hP : va_P D vwCl [(ys, .inl (cI, 449, .inl ms)), (ywa, .inl (cI, 6, .inl f_941)), (h0, .inr (9, [.ref ys, .ref yk, .ref yo, .ref yt, .int mk0, .ref yfa, .ref yfe, .int mL, .int mS, .int mM, .ref yro, .ref yhe, .ref ygr, .int mF, .int mC, .int mY, .ref yta, .int (nI (mz)), .int (nI (f2_932)), .int (nI (t2_933)), .int mv, .int w2_934, .ref ywa, .ref ybi, .ref ysi, .ref ynu, .ref ymo])), (yta, .inl (cI, 120, .inl tp))] H := hP
                      have hD : va_D A [(ys, .inl (cI, 449, .inl ms)), (ywa, .inl (cI, 6, .inl f_941)), (h0, .inr (9, [.ref ys, .ref yk, .ref yo, .ref yt, .int mk0, .ref yfa, .ref yfe, .int mL, .int mS, .int mM, .ref yro, .ref yhe, .ref ygr, .int mF, .int mC, .int mY, .ref yta, .int (nI (mz)), .int (nI (f2_932)), .int (nI (t2_933)), .int mv, .int w2_934, .ref ywa, .ref ybi, .ref ysi, .ref ynu, .ref ymo])), (yta, .inl (cI, 120, .inl tp))] := hD
                      refine lv_iinc (v := nI (n8 + 1)) (lv' := [(1, .int (nI (n8 + 1))), (2, .int (nI (k_903))), (0, .ref h0)]) hx hb dX9_walkItem_99 hl (k := 1) rfl (nI_1 (n8)) (by decide) rfl (fun ls hl => ?_)
                      refine lv_goto (tgt := 22) hx hb dX9_walkItem_102 (by decide) ?_
                      exact ih_22 (n8 + 1) f2_932 t2_933 w2_934 f_941 _ _ _ (by omega) (by omega) (by omega) (by omega) (by omega) (by omega) (by omega) (fun h => ⟨(hc8 (i_940 h).1).1, trivial⟩) (wk_A.put hA8 c_579 (show k_903 < 10 by omega) ef_941) (hP.sub [0, 1, 2, 3] rfl) (hD.sub [0, 1, 2, 3] (by decide) rfl) hS (lv_sub hl [0, 2] rfl)
                · skip
                  refine lv_if_eq (tgt := 88) hx hb dX9_walkItem_65 (by decide) (fun c_942 => ?_) (fun c_942 => absurd (by decide) c_942)
                  refine lv_iconst (v := 0) hx hb dX9_walkItem_88 (by decide) ?_
                  refine xc_Vv (wr := [(ys, .inl (cI, 449, .inl ms)), (ywa, .inl (cI, 6, .inl a8))]) hF (c_X9_needs l D cI cJ cZ cS ta sa sv H.size h0 ys yk yo yt mk0 yfa yfe mL mS mM yro yhe ygr mF mC mY yta mz f8 t8 mv w8 ywa ybi ysi ynu ymo tp 0 (by omega) (by omega) (by omega) (by omega) (by omega)) kv_X9_278 ⟨rfl, rfl, Nat.le_of_ble_eq_true rfl, Nat.le_of_ble_eq_true rfl⟩ ⟨Nat.le_of_ble_eq_true rfl, Nat.le_of_ble_eq_true rfl⟩ hK hN hZ hP hD hS hA [2, 3] [0, 1] rfl rfl rfl rfl (by decide) 0 rfl rfl rfl rfl hl.1 rfl (Nat.le_of_ble_eq_true rfl) dX9_walkItem_89 (fun u_r_943 H locs hw_r_943 hP hD hS => ?_)
                  obtain ⟨f2_944, t2_945, w2_946⟩ := u_r_943
                  try dsimp only at hw_r_943
                  obtain ⟨i_947, i_948, i_949, i_950, i_951, i_952⟩ := hw_r_943
                  have hP : va_P D vwCl [(ys, .inl (cI, 449, .inl ms)), (ywa, .inl (cI, 6, .inl a8)), (h0, .inr (9, [.ref ys, .ref yk, .ref yo, .ref yt, .int mk0, .ref yfa, .ref yfe, .int mL, .int mS, .int mM, .ref yro, .ref yhe, .ref ygr, .int mF, .int mC, .int mY, .ref yta, .int (nI (mz)), .int (nI (f2_944)), .int (nI (t2_945)), .int mv, .int w2_946, .ref ywa, .ref ybi, .ref ysi, .ref ynu, .ref ymo])), (yta, .inl (cI, 120, .inl tp))] H := hP
                  have hD : va_D A [(ys, .inl (cI, 449, .inl ms)), (ywa, .inl (cI, 6, .inl a8)), (h0, .inr (9, [.ref ys, .ref yk, .ref yo, .ref yt, .int mk0, .ref yfa, .ref yfe, .int mL, .int mS, .int mM, .ref yro, .ref yhe, .ref ygr, .int mF, .int mC, .int mY, .ref yta, .int (nI (mz)), .int (nI (f2_944)), .int (nI (t2_945)), .int mv, .int w2_946, .ref ywa, .ref ybi, .ref ysi, .ref ynu, .ref ymo])), (yta, .inl (cI, 120, .inl tp))] := hD
                  refine lv_aload_n hx hb dX9_walkItem_92 rfl (lv_at hl 2 rfl) ?_
                  refine xg hF kf_X9_40 hK hP 2 rfl rfl dX9_walkItem_93 ?_
                  refine lv_iload_n hx hb dX9_walkItem_96 rfl (lv_at hl 1 rfl) ?_
                  refine lv_iload_n hx hb dX9_walkItem_97 rfl (lv_at hl 0 rfl) ?_
                  refine va_iast hx hb hK hP hD hS 1 0 rfl rfl (vp_in_nI (show n8 < 6 by omega) (by decide)) dX9_walkItem_98 (fun H locs hP hD hS => ?_)
                  rw [nI_clamp (show n8 < 2 ^ 31 by omega)] at hP hD
                  obtain ⟨f_953, ef_953⟩ : ∃ g, g = upd a8 n8 r_901 := ⟨_, rfl⟩
                  rw [← ef_953] at hP hD
                  have hP : va_P D vwCl [(ys, .inl (cI, 449, .inl ms)), (ywa, .inl (cI, 6, .inl f_953)), (h0, .inr (9, [.ref ys, .ref yk, .ref yo, .ref yt, .int mk0, .ref yfa, .ref yfe, .int mL, .int mS, .int mM, .ref yro, .ref yhe, .ref ygr, .int mF, .int mC, .int mY, .ref yta, .int (nI (mz)), .int (nI (f2_944)), .int (nI (t2_945)), .int mv, .int w2_946, .ref ywa, .ref ybi, .ref ysi, .ref ynu, .ref ymo])), (yta, .inl (cI, 120, .inl tp))] H := hP
                  have hD : va_D A [(ys, .inl (cI, 449, .inl ms)), (ywa, .inl (cI, 6, .inl f_953)), (h0, .inr (9, [.ref ys, .ref yk, .ref yo, .ref yt, .int mk0, .ref yfa, .ref yfe, .int mL, .int mS, .int mM, .ref yro, .ref yhe, .ref ygr, .int mF, .int mC, .int mY, .ref yta, .int (nI (mz)), .int (nI (f2_944)), .int (nI (t2_945)), .int mv, .int w2_946, .ref ywa, .ref ybi, .ref ysi, .ref ynu, .ref ymo])), (yta, .inl (cI, 120, .inl tp))] := hD
                  refine lv_iinc (v := nI (n8 + 1)) (lv' := [(1, .int (nI (n8 + 1))), (2, .int r_901), (0, .ref h0)]) hx hb dX9_walkItem_99 hl (k := 1) rfl (nI_1 (n8)) (by decide) rfl (fun ls hl => ?_)
                  refine lv_goto (tgt := 22) hx hb dX9_walkItem_102 (by decide) ?_
                  exact ih_22 (n8 + 1) f2_944 t2_945 w2_946 f_953 _ _ _ (by omega) (by omega) (by omega) (by omega) (by omega) (by omega) (by omega) (fun h => ⟨(hc8 (i_952 h).1).1, trivial⟩) (wk_A.no (fun h => absurd rfl (i_952 h).2.1)) (hP.sub [0, 1, 2, 3] rfl) (hD.sub [0, 1, 2, 3] (by decide) rfl) hS (lv_sub hl [0, 2] rfl)
              · skip
                refine lv_if_eq (tgt := 105) hx hb dX9_walkItem_51 (by decide) (fun c_954 => ?_) (fun c_954 => absurd (by decide) c_954)
                refine lv_aload_n hx hb dX9_walkItem_105 rfl (lv_at hl 1 rfl) ?_
                refine lv_aload_n hx hb dX9_walkItem_106 rfl (lv_at hl 1 rfl) ?_
                refine lv_bipush (v := 97) hx hb dX9_walkItem_107 (by decide) ?_
                refine lv_bipush (v := 108) hx hb dX9_walkItem_109 (by decide) ?_
                refine lv_bipush (v := 108) hx hb dX9_walkItem_111 (by decide) ?_
                refine lv_iconst (v := 0) hx hb dX9_walkItem_113 (by decide) ?_
                refine lv_iconst (v := 0) hx hb dX9_walkItem_114 (by decide) ?_
                refine lv_iconst (v := 0) hx hb dX9_walkItem_115 (by decide) ?_
                refine lv_iconst (v := 0) hx hb dX9_walkItem_116 (by decide) ?_
                refine xc_Vr hF (c_X9_isWord l D cI cJ cZ cS ta sa sv H.size h0 ys yk yo yt mk0 yfa yfe mL mS mM yro yhe ygr mF mC mY yta mz f8 t8 mv w8 ywa ybi ysi ynu ymo tp 97 108 108 0 0 0 0 (by omega) (by omega)) kv_X9_290 ⟨rfl, rfl, Nat.le_of_ble_eq_true rfl, Nat.le_of_ble_eq_true rfl⟩ ⟨Nat.le_of_ble_eq_true rfl, Nat.le_of_ble_eq_true rfl⟩ hK hN hZ hP hD hS hA [2, 3] rfl rfl 0 rfl rfl rfl rfl hl.1 rfl (Nat.le_of_ble_eq_true rfl) dX9_walkItem_117 (fun r_955 hw_r_955 => ?_)
                rcases hw_r_955 with rfl | rfl
                · skip
                  refine xc_Vv (wr := [(ys, .inl (cI, 449, .inl ms)), (ywa, .inl (cI, 6, .inl a8))]) hF (c_X9_needs l D cI cJ cZ cS ta sa sv H.size h0 ys yk yo yt mk0 yfa yfe mL mS mM yro yhe ygr mF mC mY yta mz f8 t8 mv w8 ywa ybi ysi ynu ymo tp 1 (by omega) (by omega) (by omega) (by omega) (by omega)) kv_X9_278 ⟨rfl, rfl, Nat.le_of_ble_eq_true rfl, Nat.le_of_ble_eq_true rfl⟩ ⟨Nat.le_of_ble_eq_true rfl, Nat.le_of_ble_eq_true rfl⟩ hK hN hZ hP hD hS hA [2, 3] [0, 1] rfl rfl rfl rfl (by decide) 0 rfl rfl rfl rfl hl.1 rfl (Nat.le_of_ble_eq_true rfl) dX9_walkItem_120 (fun u_r_956 H locs hw_r_956 hP hD hS => ?_)
                  obtain ⟨f2_957, t2_958, w2_959⟩ := u_r_956
                  try dsimp only at hw_r_956
                  obtain ⟨i_960, i_961, i_962, i_963, i_964, i_965⟩ := hw_r_956
                  have hP : va_P D vwCl [(ys, .inl (cI, 449, .inl ms)), (ywa, .inl (cI, 6, .inl a8)), (h0, .inr (9, [.ref ys, .ref yk, .ref yo, .ref yt, .int mk0, .ref yfa, .ref yfe, .int mL, .int mS, .int mM, .ref yro, .ref yhe, .ref ygr, .int mF, .int mC, .int mY, .ref yta, .int (nI (mz)), .int (nI (f2_957)), .int (nI (t2_958)), .int mv, .int w2_959, .ref ywa, .ref ybi, .ref ysi, .ref ynu, .ref ymo])), (yta, .inl (cI, 120, .inl tp))] H := hP
                  have hD : va_D A [(ys, .inl (cI, 449, .inl ms)), (ywa, .inl (cI, 6, .inl a8)), (h0, .inr (9, [.ref ys, .ref yk, .ref yo, .ref yt, .int mk0, .ref yfa, .ref yfe, .int mL, .int mS, .int mM, .ref yro, .ref yhe, .ref ygr, .int mF, .int mC, .int mY, .ref yta, .int (nI (mz)), .int (nI (f2_957)), .int (nI (t2_958)), .int mv, .int w2_959, .ref ywa, .ref ybi, .ref ysi, .ref ynu, .ref ymo])), (yta, .inl (cI, 120, .inl tp))] := hD
                  refine lv_aload_n hx hb dX9_walkItem_123 rfl (lv_at hl 1 rfl) ?_
                  refine lv_sipush (v := (-9999)) hx hb dX9_walkItem_124 (by decide) ?_
                  refine lv_sipush (v := 9999) hx hb dX9_walkItem_127 (by decide) ?_
                  refine xc_Vv (wr := [(ys, .inl (cI, 449, .inl ms)), (ywa, .inl (cI, 6, .inl a8))]) hF (c_X9_mile l D cI cJ cZ cS ta sa sv H.size h0 ys yk yo yt mk0 yfa yfe mL mS mM yro yhe ygr mF mC mY yta mz f2_957 t2_958 mv w2_959 ywa ybi ysi ynu ymo tp (-9999) 9999 (by omega) (by omega) (by omega) (by omega) (by omega)) kv_X9_287 ⟨rfl, rfl, Nat.le_of_ble_eq_true rfl, Nat.le_of_ble_eq_true rfl⟩ ⟨Nat.le_of_ble_eq_true rfl, Nat.le_of_ble_eq_true rfl⟩ hK hN hZ hP hD hS hA [2, 3] [0, 1] rfl rfl rfl rfl (by decide) 0 rfl rfl rfl rfl hl.1 rfl (Nat.le_of_ble_eq_true rfl) dX9_walkItem_130 (fun u_r_966 H locs hw_r_966 hP hD hS => ?_)
                  obtain ⟨f2_967, t2_968, v2_969, w2_970⟩ := u_r_966
                  try dsimp only at hw_r_966
                  obtain ⟨i_971, i_972, i_973, i_974, i_975, i_976⟩ := hw_r_966
                  have hP : va_P D vwCl [(ys, .inl (cI, 449, .inl ms)), (ywa, .inl (cI, 6, .inl a8)), (h0, .inr (9, [.ref ys, .ref yk, .ref yo, .ref yt, .int mk0, .ref yfa, .ref yfe, .int mL, .int mS, .int mM, .ref yro, .ref yhe, .ref ygr, .int mF, .int mC, .int mY, .ref yta, .int (nI (mz)), .int (nI (f2_967)), .int (nI (t2_968)), .int v2_969, .int w2_970, .ref ywa, .ref ybi, .ref ysi, .ref ynu, .ref ymo])), (yta, .inl (cI, 120, .inl tp))] H := hP
                  have hD : va_D A [(ys, .inl (cI, 449, .inl ms)), (ywa, .inl (cI, 6, .inl a8)), (h0, .inr (9, [.ref ys, .ref yk, .ref yo, .ref yt, .int mk0, .ref yfa, .ref yfe, .int mL, .int mS, .int mM, .ref yro, .ref yhe, .ref ygr, .int mF, .int mC, .int mY, .ref yta, .int (nI (mz)), .int (nI (f2_967)), .int (nI (t2_968)), .int v2_969, .int w2_970, .ref ywa, .ref ybi, .ref ysi, .ref ynu, .ref ymo])), (yta, .inl (cI, 120, .inl tp))] := hD
                  refine lv_aload_n hx hb dX9_walkItem_133 rfl (lv_at hl 1 rfl) ?_
                  refine xg hF kf_X9_275 hK hP 2 rfl rfl dX9_walkItem_134 ?_
                  refine lv_istore_n (lv' := [(2, .int v2_969), (1, .int (nI (n8))), (0, .ref h0)]) hx hb dX9_walkItem_137 rfl hl (by decide) rfl (fun ls hl => ?_)
                  refine lv_iconst (v := 0) hx hb dX9_walkItem_138 (by decide) ?_
                  refine lv_istore_n (lv' := [(3, .int 0), (2, .int v2_969), (1, .int (nI (n8))), (0, .ref h0)]) hx hb dX9_walkItem_139 rfl hl (by decide) rfl (fun ls hl => ?_)
                  refine lv_aload_n hx hb dX9_walkItem_140 rfl (lv_at hl 3 rfl) ?_
                  refine lv_bipush (v := 115) hx hb dX9_walkItem_141 (by decide) ?_
                  refine lv_bipush (v := 108) hx hb dX9_walkItem_143 (by decide) ?_
                  refine lv_bipush (v := 97) hx hb dX9_walkItem_145 (by decide) ?_
                  refine lv_bipush (v := 99) hx hb dX9_walkItem_147 (by decide) ?_
                  refine lv_bipush (v := 107) hx hb dX9_walkItem_149 (by decide) ?_
                  refine lv_iconst (v := 0) hx hb dX9_walkItem_151 (by decide) ?_
                  refine lv_iconst (v := 0) hx hb dX9_walkItem_152 (by decide) ?_
                  refine xc_Vr hF (c_X9_isWord l D cI cJ cZ cS ta sa sv H.size h0 ys yk yo yt mk0 yfa yfe mL mS mM yro yhe ygr mF mC mY yta mz f2_967 t2_968 v2_969 w2_970 ywa ybi ysi ynu ymo tp 115 108 97 99 107 0 0 (by omega) (by omega)) kv_X9_290 ⟨rfl, rfl, Nat.le_of_ble_eq_true rfl, Nat.le_of_ble_eq_true rfl⟩ ⟨Nat.le_of_ble_eq_true rfl, Nat.le_of_ble_eq_true rfl⟩ hK hN hZ hP hD hS hA [2, 3] rfl rfl 0 rfl rfl rfl rfl hl.1 rfl (Nat.le_of_ble_eq_true rfl) dX9_walkItem_153 (fun r_977 hw_r_977 => ?_)
                  rcases hw_r_977 with rfl | rfl
                  · skip
                    refine lv_if_eq (tgt := 176) hx hb dX9_walkItem_156 (by decide) (fun c_978 => absurd c_978 (by decide)) (fun c_978 => ?_)
                    refine lv_aload_n hx hb dX9_walkItem_159 rfl (lv_at hl 3 rfl) ?_
                    refine lv_iconst (v := 1) hx hb dX9_walkItem_160 (by decide) ?_
                    refine xc_Vv (wr := [(ys, .inl (cI, 449, .inl ms)), (ywa, .inl (cI, 6, .inl a8))]) hF (c_X9_needs l D cI cJ cZ cS ta sa sv H.size h0 ys yk yo yt mk0 yfa yfe mL mS mM yro yhe ygr mF mC mY yta mz f2_967 t2_968 v2_969 w2_970 ywa ybi ysi ynu ymo tp 1 (by omega) (by omega) (by omega) (by omega) (by omega)) kv_X9_278 ⟨rfl, rfl, Nat.le_of_ble_eq_true rfl, Nat.le_of_ble_eq_true rfl⟩ ⟨Nat.le_of_ble_eq_true rfl, Nat.le_of_ble_eq_true rfl⟩ hK hN hZ hP hD hS hA [2, 3] [0, 1] rfl rfl rfl rfl (by decide) 0 rfl rfl rfl rfl hl.1 rfl (Nat.le_of_ble_eq_true rfl) dX9_walkItem_161 (fun u_r_979 H locs hw_r_979 hP hD hS => ?_)
                    obtain ⟨f2_980, t2_981, w2_982⟩ := u_r_979
                    try dsimp only at hw_r_979
                    obtain ⟨i_983, i_984, i_985, i_986, i_987, i_988⟩ := hw_r_979
                    have hP : va_P D vwCl [(ys, .inl (cI, 449, .inl ms)), (ywa, .inl (cI, 6, .inl a8)), (h0, .inr (9, [.ref ys, .ref yk, .ref yo, .ref yt, .int mk0, .ref yfa, .ref yfe, .int mL, .int mS, .int mM, .ref yro, .ref yhe, .ref ygr, .int mF, .int mC, .int mY, .ref yta, .int (nI (mz)), .int (nI (f2_980)), .int (nI (t2_981)), .int v2_969, .int w2_982, .ref ywa, .ref ybi, .ref ysi, .ref ynu, .ref ymo])), (yta, .inl (cI, 120, .inl tp))] H := hP
                    have hD : va_D A [(ys, .inl (cI, 449, .inl ms)), (ywa, .inl (cI, 6, .inl a8)), (h0, .inr (9, [.ref ys, .ref yk, .ref yo, .ref yt, .int mk0, .ref yfa, .ref yfe, .int mL, .int mS, .int mM, .ref yro, .ref yhe, .ref ygr, .int mF, .int mC, .int mY, .ref yta, .int (nI (mz)), .int (nI (f2_980)), .int (nI (t2_981)), .int v2_969, .int w2_982, .ref ywa, .ref ybi, .ref ysi, .ref ynu, .ref ymo])), (yta, .inl (cI, 120, .inl tp))] := hD
                    refine lv_aload_n hx hb dX9_walkItem_164 rfl (lv_at hl 3 rfl) ?_
                    refine lv_iconst (v := 0) hx hb dX9_walkItem_165 (by decide) ?_
                    refine lv_bipush (v := 99) hx hb dX9_walkItem_166 (by decide) ?_
                    refine xc_Vv (wr := [(ys, .inl (cI, 449, .inl ms)), (ywa, .inl (cI, 6, .inl a8))]) hF (c_X9_number l D cI cJ cZ cS ta sa sv H.size h0 ys yk yo yt mk0 yfa yfe mL mS mM yro yhe ygr mF mC mY yta mz f2_980 t2_981 v2_969 w2_982 ywa ybi ysi ynu ymo tp 0 99 (by omega) (by omega) (by omega) (by omega) (by omega)) kv_X9_282 ⟨rfl, rfl, Nat.le_of_ble_eq_true rfl, Nat.le_of_ble_eq_true rfl⟩ ⟨Nat.le_of_ble_eq_true rfl, Nat.le_of_ble_eq_true rfl⟩ hK hN hZ hP hD hS hA [2, 3] [0, 1] rfl rfl rfl rfl (by decide) 0 rfl rfl rfl rfl hl.1 rfl (Nat.le_of_ble_eq_true rfl) dX9_walkItem_168 (fun u_r_989 H locs hw_r_989 hP hD hS => ?_)
                    obtain ⟨f2_990, t2_991, v2_992, w2_993⟩ := u_r_989
                    try dsimp only at hw_r_989
                    obtain ⟨i_994, i_995, i_996, i_997, i_998, i_999⟩ := hw_r_989
                    have hP : va_P D vwCl [(ys, .inl (cI, 449, .inl ms)), (ywa, .inl (cI, 6, .inl a8)), (h0, .inr (9, [.ref ys, .ref yk, .ref yo, .ref yt, .int mk0, .ref yfa, .ref yfe, .int mL, .int mS, .int mM, .ref yro, .ref yhe, .ref ygr, .int mF, .int mC, .int mY, .ref yta, .int (nI (mz)), .int (nI (f2_990)), .int (nI (t2_991)), .int v2_992, .int w2_993, .ref ywa, .ref ybi, .ref ysi, .ref ynu, .ref ymo])), (yta, .inl (cI, 120, .inl tp))] H := hP
                    have hD : va_D A [(ys, .inl (cI, 449, .inl ms)), (ywa, .inl (cI, 6, .inl a8)), (h0, .inr (9, [.ref ys, .ref yk, .ref yo, .ref yt, .int mk0, .ref yfa, .ref yfe, .int mL, .int mS, .int mM, .ref yro, .ref yhe, .ref ygr, .int mF, .int mC, .int mY, .ref yta, .int (nI (mz)), .int (nI (f2_990)), .int (nI (t2_991)), .int v2_992, .int w2_993, .ref ywa, .ref ybi, .ref ysi, .ref ynu, .ref ymo])), (yta, .inl (cI, 120, .inl tp))] := hD
                    refine lv_aload_n hx hb dX9_walkItem_171 rfl (lv_at hl 3 rfl) ?_
                    refine xg hF kf_X9_275 hK hP 2 rfl rfl dX9_walkItem_172 ?_
                    refine lv_istore_n (lv' := [(3, .int v2_992), (2, .int v2_969), (1, .int (nI (n8))), (0, .ref h0)]) hx hb dX9_walkItem_175 rfl hl (by decide) rfl (fun ls hl => ?_)
                    refine lv_aload_n hx hb dX9_walkItem_176 rfl (lv_at hl 3 rfl) ?_
                    refine xg hF kf_X9_266 hK hP 2 rfl rfl dX9_walkItem_177 ?_
                    refine lv_if_ne (tgt := 252) hx hb dX9_walkItem_180 (by decide) (fun c_1000 => ?_) (fun c_1000 => ?_)
                    · skip
                      exact W.vret hx hb hr (fun t ht hW => ⟨⟨(f2_990, t2_991, v2_992, w2_993, ms, a8, Wn), rfl, ⟨(by first | assumption | omega), (by first | assumption | omega), (by first | assumption | omega), (by first | assumption | omega), (by first | assumption | omega), (fun h => ⟨(i_578 (hc8 (i_965 (i_976 (i_988 (i_999 h).1).1).1).1).1).1, trivial⟩), hs0, hs1, hs2, hsS, hsM, hsp, hsr, hsw, hsR⟩, by rw [ht]; exact hP.sub [2, 0, 3, 1] rfl, hD.sub [2, 0, 3, 1] (by decide) rfl⟩, hS.F ht⟩) hS.2.2 dX9_walkItem_252 hlk
                    · skip
                      refine lv_sipush (v := 377) hx hb dX9_walkItem_183 (by decide) ?_
                      refine lv_bipush (v := 9) hx hb dX9_walkItem_186 (by decide) ?_
                      refine lv_aload_n hx hb dX9_walkItem_188 rfl (lv_at hl 3 rfl) ?_
                      refine lv_aload_n hx hb dX9_walkItem_189 rfl (lv_at hl 3 rfl) ?_
                      refine xg hF kf_X9_40 hK hP 2 rfl rfl dX9_walkItem_190 ?_
                      refine lv_iconst (v := 0) hx hb dX9_walkItem_193 (by decide) ?_
                      refine va_iald hx hb hK hP 1 0 rfl rfl (xin 0 6 (by decide) (by decide)) dX9_walkItem_194 ?_
                      refine xl_i (y := a8 0) (congrArg a8 rfl) ?_
                      obtain ⟨z_1001, ez_1001, hz_10010⟩ := wk_A.get hA8 (i_965 (i_976 (i_988 (i_999 c_1000).1).1).1).1 (show 0 < n8 by omega)
                      refine xl_i (y := nI (z_1001)) ez_1001 ?_
                      refine lv_aload_n hx hb dX9_walkItem_195 rfl (lv_at hl 3 rfl) ?_
                      refine xg hF kf_X9_40 hK hP 2 rfl rfl dX9_walkItem_196 ?_
                      refine lv_iconst (v := 1) hx hb dX9_walkItem_199 (by decide) ?_
                      refine va_iald hx hb hK hP 1 0 rfl rfl (xin 1 6 (by decide) (by decide)) dX9_walkItem_200 ?_
                      refine xl_i (y := a8 1) (congrArg a8 rfl) ?_
                      obtain ⟨z_1002, ez_1002, hz_10020⟩ := wk_A.get hA8 (i_965 (i_976 (i_988 (i_999 c_1000).1).1).1).1 (show 1 < n8 by omega)
                      refine xl_i (y := nI (z_1002)) ez_1002 ?_
                      refine lv_iload_n hx hb dX9_walkItem_201 rfl (lv_at hl 1 rfl) ?_
                      refine lv_iload_n hx hb dX9_walkItem_202 rfl (lv_at hl 0 rfl) ?_
                      refine xc_Vi (wr := [(ywa, .inl (cI, 6, .inl a8)), (yta, .inl (cI, 120, .inl tp))]) hF (c_X9_newWalk l D cI cJ cZ cS ta sa sv H.size h0 ys yk yo yt mk0 yfa yfe mL mS mM yro yhe ygr mF mC mY yta mz f2_990 t2_991 v2_992 w2_993 ywa ybi ysi ynu ymo ms P Rn Wn z_1001 z_1002 v2_969 v2_992 (by omega) (by omega) (by omega) hs0 hs1 hs2 hsS hsM hsp hsr hsw hsR) kv_X9_196 ⟨rfl, rfl, Nat.le_of_ble_eq_true rfl, Nat.le_of_ble_eq_true rfl⟩ ⟨Nat.le_of_ble_eq_true rfl, Nat.le_of_ble_eq_true rfl⟩ hK hN hZ hP hD hS hA [2, 0] [1, 3] rfl rfl rfl rfl (by decide) 0 rfl rfl rfl rfl hl.1 rfl (Nat.le_of_ble_eq_true rfl) dX9_walkItem_203 (fun r_1003 u_r_1003 H locs hw_r_1003 hP hD hS => ?_)
                      obtain ⟨ms2_1004, rfl⟩ : ∃ z, z = u_r_1003 := ⟨_, rfl⟩
                      try dsimp only at hw_r_1003
                      obtain ⟨hw_r_1003, i_1005, i_1006, i_1007, i_1008, i_1009, i_1010, i_1011, i_1012, i_1013⟩ := hw_r_1003
                      have hP : va_P D vwCl [(ywa, .inl (cI, 6, .inl a8)), (yta, .inl (cI, 120, .inl tp)), (h0, .inr (9, [.ref ys, .ref yk, .ref yo, .ref yt, .int mk0, .ref yfa, .ref yfe, .int mL, .int mS, .int mM, .ref yro, .ref yhe, .ref ygr, .int mF, .int mC, .int mY, .ref yta, .int (nI (mz)), .int (nI (f2_990)), .int (nI (t2_991)), .int v2_992, .int w2_993, .ref ywa, .ref ybi, .ref ysi, .ref ynu, .ref ymo])), (ys, .inl (cI, 449, .inl ms2_1004))] H := hP
                      have hD : va_D A [(ywa, .inl (cI, 6, .inl a8)), (yta, .inl (cI, 120, .inl tp)), (h0, .inr (9, [.ref ys, .ref yk, .ref yo, .ref yt, .int mk0, .ref yfa, .ref yfe, .int mL, .int mS, .int mM, .ref yro, .ref yhe, .ref ygr, .int mF, .int mC, .int mY, .ref yta, .int (nI (mz)), .int (nI (f2_990)), .int (nI (t2_991)), .int v2_992, .int w2_993, .ref ywa, .ref ybi, .ref ysi, .ref ynu, .ref ymo])), (ys, .inl (cI, 449, .inl ms2_1004))] := hD
                      subst hw_r_1003
                      refine lv_imul hx hb dX9_walkItem_206 ?_
                      refine xl_i (y := nI (9 * Wn)) (pk_mul 9 Wn) ?_
                      refine lv_iadd hx hb dX9_walkItem_207 ?_
                      refine xl_i (y := nI (377 + (9 * Wn))) (nI_add 377 (9 * Wn)) ?_
                      refine lv_istore (lv' := [(4, .int (nI (377 + (9 * Wn)))), (3, .int v2_992), (2, .int v2_969), (1, .int (nI (n8))), (0, .ref h0)]) hx hb dX9_walkItem_208 hl (by decide) rfl (fun ls hl => ?_)
                      refine lv_aload_n hx hb dX9_walkItem_210 rfl (lv_at hl 4 rfl) ?_
                      refine xg hF kf_X9_7 hK hP 2 rfl rfl dX9_walkItem_211 ?_
                      refine lv_iload hx hb dX9_walkItem_214 (lv_at hl 0 rfl) ?_
                      refine lv_iload_n hx hb dX9_walkItem_216 rfl (lv_at hl 3 rfl) ?_
                      refine va_iast hx hb hK hP hD hS 3 0 rfl rfl (vp_in_nI (show 377 + (9 * Wn) < 449 by omega) (by decide)) dX9_walkItem_217 (fun H locs hP hD hS => ?_)
                      rw [nI_clamp (show 377 + (9 * Wn) < 2 ^ 31 by omega)] at hP hD
                      obtain ⟨f_1014, ef_1014⟩ : ∃ g, g = upd ms2_1004 (377 + (9 * Wn)) (nI (n8)) := ⟨_, rfl⟩
                      rw [← ef_1014] at hP hD
                      have k0_f_1014 : f_1014 0 = nI P := by rw [ef_1014]; exact (pk_un (show 0 ≠ (377 + (9 * Wn)) by omega)).trans i_1005
                      have k1_f_1014 : f_1014 1 = nI Rn := by rw [ef_1014]; exact (pk_un (show 1 ≠ (377 + (9 * Wn)) by omega)).trans i_1006
                      have k2_f_1014 : f_1014 2 = nI (Wn + 1) := by rw [ef_1014]; exact (pk_un (show 2 ≠ (377 + (9 * Wn)) by omega)).trans i_1007
                      have kS_f_1014 : SI f_1014 := by rw [ef_1014]; exact SI.upd i_1008 (okS.wl (w := Wn) (q := n8) (by omega) (by omega) (by omega))
                      have kM_f_1014 : MI f_1014 := by rw [ef_1014]; exact MI.upd i_1009 (okM.out (show (377 + (9 * Wn)) < 13 ∨ 113 ≤ (377 + (9 * Wn)) by omega))
                      have kR_f_1014 : RI Rn f_1014 := by rw [ef_1014]; exact RI.upd i_1013 (fun r9 hr9 e9 => by omega)
                      have hP : va_P D vwCl [(ywa, .inl (cI, 6, .inl a8)), (yta, .inl (cI, 120, .inl tp)), (h0, .inr (9, [.ref ys, .ref yk, .ref yo, .ref yt, .int mk0, .ref yfa, .ref yfe, .int mL, .int mS, .int mM, .ref yro, .ref yhe, .ref ygr, .int mF, .int mC, .int mY, .ref yta, .int (nI (mz)), .int (nI (f2_990)), .int (nI (t2_991)), .int v2_992, .int w2_993, .ref ywa, .ref ybi, .ref ysi, .ref ynu, .ref ymo])), (ys, .inl (cI, 449, .inl f_1014))] H := hP
                      have hD : va_D A [(ywa, .inl (cI, 6, .inl a8)), (yta, .inl (cI, 120, .inl tp)), (h0, .inr (9, [.ref ys, .ref yk, .ref yo, .ref yt, .int mk0, .ref yfa, .ref yfe, .int mL, .int mS, .int mM, .ref yro, .ref yhe, .ref ygr, .int mF, .int mC, .int mY, .ref yta, .int (nI (mz)), .int (nI (f2_990)), .int (nI (t2_991)), .int v2_992, .int w2_993, .ref ywa, .ref ybi, .ref ysi, .ref ynu, .ref ymo])), (ys, .inl (cI, 449, .inl f_1014))] := hD
                      refine lv_iconst (v := 2) hx hb dX9_walkItem_218 (by decide) ?_
                      refine lv_istore (lv' := [(5, .int 2), (4, .int (nI (377 + (9 * Wn)))), (3, .int v2_992), (2, .int v2_969), (1, .int (nI (n8))), (0, .ref h0)]) hx hb dX9_walkItem_219 hl (by decide) rfl (fun ls hl => ?_)
                      suffices loop_221 : ∀ (n_221 : Nat) (i : Nat) (s8 : Nat → Int32) (H : Heap) (locs : List Loc) (ls : Array Slot), n8 - i < n_221 → (2 ≤ i) → (i ≤ n8) → (s8 0 = nI P) → (s8 1 = nI Rn) → (s8 2 = nI (Wn + 1)) → (SI s8) → (MI s8) → (P ≤ 10) → (Rn ≤ 8) → (Wn + 1 ≤ 8) → (RI Rn s8) → va_P D vwCl [(ywa, .inl (cI, 6, .inl a8)), (yta, .inl (cI, 120, .inl tp)), (h0, .inr (9, [.ref ys, .ref yk, .ref yo, .ref yt, .int mk0, .ref yfa, .ref yfe, .int mL, .int mS, .int mM, .ref yro, .ref yhe, .ref ygr, .int mF, .int mC, .int mY, .ref yta, .int (nI (mz)), .int (nI (f2_990)), .int (nI (t2_991)), .int v2_992, .int w2_993, .ref ywa, .ref ybi, .ref ysi, .ref ynu, .ref ymo])), (ys, .inl (cI, 449, .inl s8))] H → va_D A [(ywa, .inl (cI, 6, .inl a8)), (yta, .inl (cI, 120, .inl tp)), (h0, .inr (9, [.ref ys, .ref yk, .ref yo, .ref yt, .int mk0, .ref yfa, .ref yfe, .int mL, .int mS, .int mM, .ref yro, .ref yhe, .ref ygr, .int mF, .int mC, .int mY, .ref yta, .int (nI (mz)), .int (nI (f2_990)), .int (nI (t2_991)), .int v2_992, .int w2_993, .ref ywa, .ref ybi, .ref ysi, .ref ynu, .ref ymo])), (ys, .inl (cI, 449, .inl s8))] → va_S A s.heap H locs → lv_has ls 6 [(5, .int (nI (i))), (4, .int (nI (377 + (9 * Wn)))), (3, .int v2_992), (2, .int v2_969), (1, .int (nI (n8))), (0, .ref h0)] → W p l e ({ frames := 6, cells := 0, slots := 0, locals := 136 }) s m ([.ref h0] : List Value).toArray below meth c H locs 0 0 (MQ below (XQv (fun (u : Nat × Nat × Int32 × Int32 × (Nat → Int32) × (Nat → Int32) × Nat) => match u with | (f2, t2, v2, w2, ms2, wa2, W2) => (f2 ≤ mz) ∧ (t2 ≤ mz) ∧ (f2 ≤ t2) ∧ (f2 < t2 ∨ f2 = mz) ∧ (mf ≤ f2) ∧ (w2 = 0 → mw = 0 ∧ True) ∧ (ms2 0 = nI P) ∧ (ms2 1 = nI Rn) ∧ (ms2 2 = nI W2) ∧ (SI ms2) ∧ (MI ms2) ∧ (P ≤ 10) ∧ (Rn ≤ 8) ∧ (W2 ≤ 8) ∧ (RI Rn ms2)) D (fun (u : Nat × Nat × Int32 × Int32 × (Nat → Int32) × (Nat → Int32) × Nat) => match u with | (f2, t2, v2, w2, ms2, wa2, W2) => [(h0, .inr (9, [.ref ys, .ref yk, .ref yo, .ref yt, .int mk0, .ref yfa, .ref yfe, .int mL, .int mS, .int mM, .ref yro, .ref yhe, .ref ygr, .int mF, .int mC, .int mY, .ref yta, .int (nI (mz)), .int (nI (f2)), .int (nI (t2)), .int v2, .int w2, .ref ywa, .ref ybi, .ref ysi, .ref ynu, .ref ymo])), (ys, .inl (cI, 449, .inl ms2)), (yta, .inl (cI, 120, .inl tp)), (ywa, .inl (cI, 6, .inl wa2))]) A) ([.ref h0] : List Value).toArray s 0 0 A) (F0 m 221 ls []) by
                        exact loop_221 _ 2 f_1014 _ _ _ (Nat.lt_succ_self _) (by omega) (by omega) k0_f_1014 k1_f_1014 k2_f_1014 kS_f_1014 kM_f_1014 i_1010 i_1011 i_1012 kR_f_1014 hP hD hS (lv_sub hl [0, 1, 2, 3, 4, 5] rfl)
                      intro n_221
                      induction n_221 with
                      | zero =>
                        intro i s8 H locs ls hm_221
                        exact absurd hm_221 (Nat.not_lt_zero _)
                      | succ n_221 ih_221 =>
                        intro i s8 H locs ls hm_221 hi2 hi ht0 ht1 ht2 htS htM htp htr htw htR hP hD hS hl
                        refine lv_iload hx hb dX9_walkItem_221 (lv_at hl 0 rfl) ?_
                        refine lv_iload_n hx hb dX9_walkItem_223 rfl (lv_at hl 4 rfl) ?_
                        refine lv_icmp_ge (tgt := 252) hx hb dX9_walkItem_224 (by decide) (fun c_1015 => ?_) (fun c_1015 => ?_)
                        · skip
                          have nc_1015 : n8 ≤ i := xn_le (a := n8) (b := i) (by omega) (by omega) c_1015
                          exact W.vret hx hb hr (fun t ht hW => ⟨⟨(f2_990, t2_991, v2_992, w2_993, s8, a8, Wn + 1), rfl, ⟨(by first | assumption | omega), (by first | assumption | omega), (by first | assumption | omega), (by first | assumption | omega), (by first | assumption | omega), (fun h => ⟨(i_578 (hc8 (i_965 (i_976 (i_988 (i_999 h).1).1).1).1).1).1, trivial⟩), ht0, ht1, ht2, htS, htM, htp, htr, htw, htR⟩, by rw [ht]; exact hP.sub [2, 3, 1, 0] rfl, hD.sub [2, 3, 1, 0] (by decide) rfl⟩, hS.F ht⟩) hS.2.2 dX9_walkItem_252 hlk
                        · skip
                          have nc_1015 : i < n8 := xn_nle (a := n8) (b := i) (by omega) (by omega) c_1015
                          refine lv_aload_n hx hb dX9_walkItem_227 rfl (lv_at hl 5 rfl) ?_
                          refine xg hF kf_X9_7 hK hP 2 rfl rfl dX9_walkItem_228 ?_
                          refine lv_iload hx hb dX9_walkItem_231 (lv_at hl 1 rfl) ?_
                          refine lv_iconst (v := 3) hx hb dX9_walkItem_233 (by decide) ?_
                          refine lv_iadd hx hb dX9_walkItem_234 ?_
                          refine xl_i (y := nI (377 + (9 * Wn) + 3)) (nI_add (377 + (9 * Wn)) 3) ?_
                          refine lv_iload hx hb dX9_walkItem_235 (lv_at hl 0 rfl) ?_
                          refine lv_iadd hx hb dX9_walkItem_237 ?_
                          refine xl_i (y := nI (377 + (9 * Wn) + 3 + i)) (nI_add (377 + (9 * Wn) + 3) i) ?_
                          refine lv_aload_n hx hb dX9_walkItem_238 rfl (lv_at hl 5 rfl) ?_
                          refine xg hF kf_X9_40 hK hP 2 rfl rfl dX9_walkItem_239 ?_
                          refine lv_iload hx hb dX9_walkItem_242 (lv_at hl 0 rfl) ?_
                          refine va_iald hx hb hK hP 0 0 rfl rfl (vp_in_nI (show i < 6 by omega) (by decide)) dX9_walkItem_244 ?_
                          refine xl_i (y := a8 i) (congrArg a8 (nI_clamp (show i < 2 ^ 31 by omega))) ?_
                          obtain ⟨z_1016, ez_1016, hz_10160⟩ := wk_A.get hA8 (i_965 (i_976 (i_988 (i_999 c_1000).1).1).1).1 (show i < n8 by omega)
                          refine xl_i (y := nI (z_1016)) ez_1016 ?_
                          refine va_iast hx hb hK hP hD hS 3 0 rfl rfl (vp_in_nI (show 377 + (9 * Wn) + 3 + i < 449 by omega) (by decide)) dX9_walkItem_245 (fun H locs hP hD hS => ?_)
                          rw [nI_clamp (show 377 + (9 * Wn) + 3 + i < 2 ^ 31 by omega)] at hP hD
                          obtain ⟨f_1017, ef_1017⟩ : ∃ g, g = upd s8 (377 + (9 * Wn) + 3 + i) (nI (z_1016)) := ⟨_, rfl⟩
                          rw [← ef_1017] at hP hD
                          have k0_f_1017 : f_1017 0 = nI P := by rw [ef_1017]; exact (pk_un (show 0 ≠ (377 + (9 * Wn) + 3 + i) by omega)).trans ht0
                          have k1_f_1017 : f_1017 1 = nI Rn := by rw [ef_1017]; exact (pk_un (show 1 ≠ (377 + (9 * Wn) + 3 + i) by omega)).trans ht1
                          have k2_f_1017 : f_1017 2 = nI (Wn + 1) := by rw [ef_1017]; exact (pk_un (show 2 ≠ (377 + (9 * Wn) + 3 + i) by omega)).trans ht2
                          have kS_f_1017 : SI f_1017 := by rw [ef_1017]; exact SI.upd htS (okS.ws (w := Wn) (i := i) (by omega) (by omega) (by omega) (show z_1016 < 10 by omega))
                          have kM_f_1017 : MI f_1017 := by rw [ef_1017]; exact MI.upd htM (okM.out (show (377 + (9 * Wn) + 3 + i) < 13 ∨ 113 ≤ (377 + (9 * Wn) + 3 + i) by omega))
                          have kR_f_1017 : RI Rn f_1017 := by rw [ef_1017]; exact RI.upd htR (fun r9 hr9 e9 => by omega)
                          have hP : va_P D vwCl [(ywa, .inl (cI, 6, .inl a8)), (yta, .inl (cI, 120, .inl tp)), (h0, .inr (9, [.ref ys, .ref yk, .ref yo, .ref yt, .int mk0, .ref yfa, .ref yfe, .int mL, .int mS, .int mM, .ref yro, .ref yhe, .ref ygr, .int mF, .int mC, .int mY, .ref yta, .int (nI (mz)), .int (nI (f2_990)), .int (nI (t2_991)), .int v2_992, .int w2_993, .ref ywa, .ref ybi, .ref ysi, .ref ynu, .ref ymo])), (ys, .inl (cI, 449, .inl f_1017))] H := hP
                          have hD : va_D A [(ywa, .inl (cI, 6, .inl a8)), (yta, .inl (cI, 120, .inl tp)), (h0, .inr (9, [.ref ys, .ref yk, .ref yo, .ref yt, .int mk0, .ref yfa, .ref yfe, .int mL, .int mS, .int mM, .ref yro, .ref yhe, .ref ygr, .int mF, .int mC, .int mY, .ref yta, .int (nI (mz)), .int (nI (f2_990)), .int (nI (t2_991)), .int v2_992, .int w2_993, .ref ywa, .ref ybi, .ref ysi, .ref ynu, .ref ymo])), (ys, .inl (cI, 449, .inl f_1017))] := hD
                          refine lv_iinc (v := nI (i + 1)) (lv' := [(5, .int (nI (i + 1))), (4, .int (nI (377 + (9 * Wn)))), (3, .int v2_992), (2, .int v2_969), (1, .int (nI (n8))), (0, .ref h0)]) hx hb dX9_walkItem_246 hl (k := 0) rfl (nI_1 (i)) (by decide) rfl (fun ls hl => ?_)
                          refine lv_goto (tgt := 221) hx hb dX9_walkItem_249 (by decide) ?_
                          exact ih_221 (i + 1) f_1017 _ _ _ (by omega) (by omega) (by omega) k0_f_1017 k1_f_1017 k2_f_1017 kS_f_1017 kM_f_1017 htp htr htw kR_f_1017 (hP.sub [0, 1, 2, 3] rfl) (hD.sub [0, 1, 2, 3] (by decide) rfl) hS (lv_sub hl [0, 1, 2, 3, 4, 5] rfl)
                  · skip
                    refine lv_if_eq (tgt := 176) hx hb dX9_walkItem_156 (by decide) (fun c_1018 => ?_) (fun c_1018 => absurd (by decide) c_1018)
                    refine lv_aload_n hx hb dX9_walkItem_176 rfl (lv_at hl 3 rfl) ?_
                    refine xg hF kf_X9_266 hK hP 2 rfl rfl dX9_walkItem_177 ?_
                    refine lv_if_ne (tgt := 252) hx hb dX9_walkItem_180 (by decide) (fun c_1019 => ?_) (fun c_1019 => ?_)
                    · skip
                      exact W.vret hx hb hr (fun t ht hW => ⟨⟨(f2_967, t2_968, v2_969, w2_970, ms, a8, Wn), rfl, ⟨(by first | assumption | omega), (by first | assumption | omega), (by first | assumption | omega), (by first | assumption | omega), (by first | assumption | omega), (fun h => ⟨(i_578 (hc8 (i_965 (i_976 h).1).1).1).1, trivial⟩), hs0, hs1, hs2, hsS, hsM, hsp, hsr, hsw, hsR⟩, by rw [ht]; exact hP.sub [2, 0, 3, 1] rfl, hD.sub [2, 0, 3, 1] (by decide) rfl⟩, hS.F ht⟩) hS.2.2 dX9_walkItem_252 hlk
                    · skip
                      refine lv_sipush (v := 377) hx hb dX9_walkItem_183 (by decide) ?_
                      refine lv_bipush (v := 9) hx hb dX9_walkItem_186 (by decide) ?_
                      refine lv_aload_n hx hb dX9_walkItem_188 rfl (lv_at hl 3 rfl) ?_
                      refine lv_aload_n hx hb dX9_walkItem_189 rfl (lv_at hl 3 rfl) ?_
                      refine xg hF kf_X9_40 hK hP 2 rfl rfl dX9_walkItem_190 ?_
                      refine lv_iconst (v := 0) hx hb dX9_walkItem_193 (by decide) ?_
                      refine va_iald hx hb hK hP 1 0 rfl rfl (xin 0 6 (by decide) (by decide)) dX9_walkItem_194 ?_
                      refine xl_i (y := a8 0) (congrArg a8 rfl) ?_
                      obtain ⟨z_1020, ez_1020, hz_10200⟩ := wk_A.get hA8 (i_965 (i_976 c_1019).1).1 (show 0 < n8 by omega)
                      refine xl_i (y := nI (z_1020)) ez_1020 ?_
                      refine lv_aload_n hx hb dX9_walkItem_195 rfl (lv_at hl 3 rfl) ?_
                      refine xg hF kf_X9_40 hK hP 2 rfl rfl dX9_walkItem_196 ?_
                      refine lv_iconst (v := 1) hx hb dX9_walkItem_199 (by decide) ?_
                      refine va_iald hx hb hK hP 1 0 rfl rfl (xin 1 6 (by decide) (by decide)) dX9_walkItem_200 ?_
                      refine xl_i (y := a8 1) (congrArg a8 rfl) ?_
                      obtain ⟨z_1021, ez_1021, hz_10210⟩ := wk_A.get hA8 (i_965 (i_976 c_1019).1).1 (show 1 < n8 by omega)
                      refine xl_i (y := nI (z_1021)) ez_1021 ?_
                      refine lv_iload_n hx hb dX9_walkItem_201 rfl (lv_at hl 1 rfl) ?_
                      refine lv_iload_n hx hb dX9_walkItem_202 rfl (lv_at hl 0 rfl) ?_
                      refine xc_Vi (wr := [(ywa, .inl (cI, 6, .inl a8)), (yta, .inl (cI, 120, .inl tp))]) hF (c_X9_newWalk l D cI cJ cZ cS ta sa sv H.size h0 ys yk yo yt mk0 yfa yfe mL mS mM yro yhe ygr mF mC mY yta mz f2_967 t2_968 v2_969 w2_970 ywa ybi ysi ynu ymo ms P Rn Wn z_1020 z_1021 v2_969 0 (by omega) (by omega) (by omega) hs0 hs1 hs2 hsS hsM hsp hsr hsw hsR) kv_X9_196 ⟨rfl, rfl, Nat.le_of_ble_eq_true rfl, Nat.le_of_ble_eq_true rfl⟩ ⟨Nat.le_of_ble_eq_true rfl, Nat.le_of_ble_eq_true rfl⟩ hK hN hZ hP hD hS hA [2, 0] [1, 3] rfl rfl rfl rfl (by decide) 0 rfl rfl rfl rfl hl.1 rfl (Nat.le_of_ble_eq_true rfl) dX9_walkItem_203 (fun r_1022 u_r_1022 H locs hw_r_1022 hP hD hS => ?_)
                      obtain ⟨ms2_1023, rfl⟩ : ∃ z, z = u_r_1022 := ⟨_, rfl⟩
                      try dsimp only at hw_r_1022
                      obtain ⟨hw_r_1022, i_1024, i_1025, i_1026, i_1027, i_1028, i_1029, i_1030, i_1031, i_1032⟩ := hw_r_1022
                      have hP : va_P D vwCl [(ywa, .inl (cI, 6, .inl a8)), (yta, .inl (cI, 120, .inl tp)), (h0, .inr (9, [.ref ys, .ref yk, .ref yo, .ref yt, .int mk0, .ref yfa, .ref yfe, .int mL, .int mS, .int mM, .ref yro, .ref yhe, .ref ygr, .int mF, .int mC, .int mY, .ref yta, .int (nI (mz)), .int (nI (f2_967)), .int (nI (t2_968)), .int v2_969, .int w2_970, .ref ywa, .ref ybi, .ref ysi, .ref ynu, .ref ymo])), (ys, .inl (cI, 449, .inl ms2_1023))] H := hP
                      have hD : va_D A [(ywa, .inl (cI, 6, .inl a8)), (yta, .inl (cI, 120, .inl tp)), (h0, .inr (9, [.ref ys, .ref yk, .ref yo, .ref yt, .int mk0, .ref yfa, .ref yfe, .int mL, .int mS, .int mM, .ref yro, .ref yhe, .ref ygr, .int mF, .int mC, .int mY, .ref yta, .int (nI (mz)), .int (nI (f2_967)), .int (nI (t2_968)), .int v2_969, .int w2_970, .ref ywa, .ref ybi, .ref ysi, .ref ynu, .ref ymo])), (ys, .inl (cI, 449, .inl ms2_1023))] := hD
                      subst hw_r_1022
                      refine lv_imul hx hb dX9_walkItem_206 ?_
                      refine xl_i (y := nI (9 * Wn)) (pk_mul 9 Wn) ?_
                      refine lv_iadd hx hb dX9_walkItem_207 ?_
                      refine xl_i (y := nI (377 + (9 * Wn))) (nI_add 377 (9 * Wn)) ?_
                      refine lv_istore (lv' := [(4, .int (nI (377 + (9 * Wn)))), (3, .int 0), (2, .int v2_969), (1, .int (nI (n8))), (0, .ref h0)]) hx hb dX9_walkItem_208 hl (by decide) rfl (fun ls hl => ?_)
                      refine lv_aload_n hx hb dX9_walkItem_210 rfl (lv_at hl 4 rfl) ?_
                      refine xg hF kf_X9_7 hK hP 2 rfl rfl dX9_walkItem_211 ?_
                      refine lv_iload hx hb dX9_walkItem_214 (lv_at hl 0 rfl) ?_
                      refine lv_iload_n hx hb dX9_walkItem_216 rfl (lv_at hl 3 rfl) ?_
                      refine va_iast hx hb hK hP hD hS 3 0 rfl rfl (vp_in_nI (show 377 + (9 * Wn) < 449 by omega) (by decide)) dX9_walkItem_217 (fun H locs hP hD hS => ?_)
                      rw [nI_clamp (show 377 + (9 * Wn) < 2 ^ 31 by omega)] at hP hD
                      obtain ⟨f_1033, ef_1033⟩ : ∃ g, g = upd ms2_1023 (377 + (9 * Wn)) (nI (n8)) := ⟨_, rfl⟩
                      rw [← ef_1033] at hP hD
                      have k0_f_1033 : f_1033 0 = nI P := by rw [ef_1033]; exact (pk_un (show 0 ≠ (377 + (9 * Wn)) by omega)).trans i_1024
                      have k1_f_1033 : f_1033 1 = nI Rn := by rw [ef_1033]; exact (pk_un (show 1 ≠ (377 + (9 * Wn)) by omega)).trans i_1025
                      have k2_f_1033 : f_1033 2 = nI (Wn + 1) := by rw [ef_1033]; exact (pk_un (show 2 ≠ (377 + (9 * Wn)) by omega)).trans i_1026
                      have kS_f_1033 : SI f_1033 := by rw [ef_1033]; exact SI.upd i_1027 (okS.wl (w := Wn) (q := n8) (by omega) (by omega) (by omega))
                      have kM_f_1033 : MI f_1033 := by rw [ef_1033]; exact MI.upd i_1028 (okM.out (show (377 + (9 * Wn)) < 13 ∨ 113 ≤ (377 + (9 * Wn)) by omega))
                      have kR_f_1033 : RI Rn f_1033 := by rw [ef_1033]; exact RI.upd i_1032 (fun r9 hr9 e9 => by omega)
                      have hP : va_P D vwCl [(ywa, .inl (cI, 6, .inl a8)), (yta, .inl (cI, 120, .inl tp)), (h0, .inr (9, [.ref ys, .ref yk, .ref yo, .ref yt, .int mk0, .ref yfa, .ref yfe, .int mL, .int mS, .int mM, .ref yro, .ref yhe, .ref ygr, .int mF, .int mC, .int mY, .ref yta, .int (nI (mz)), .int (nI (f2_967)), .int (nI (t2_968)), .int v2_969, .int w2_970, .ref ywa, .ref ybi, .ref ysi, .ref ynu, .ref ymo])), (ys, .inl (cI, 449, .inl f_1033))] H := hP
                      have hD : va_D A [(ywa, .inl (cI, 6, .inl a8)), (yta, .inl (cI, 120, .inl tp)), (h0, .inr (9, [.ref ys, .ref yk, .ref yo, .ref yt, .int mk0, .ref yfa, .ref yfe, .int mL, .int mS, .int mM, .ref yro, .ref yhe, .ref ygr, .int mF, .int mC, .int mY, .ref yta, .int (nI (mz)), .int (nI (f2_967)), .int (nI (t2_968)), .int v2_969, .int w2_970, .ref ywa, .ref ybi, .ref ysi, .ref ynu, .ref ymo])), (ys, .inl (cI, 449, .inl f_1033))] := hD
                      refine lv_iconst (v := 2) hx hb dX9_walkItem_218 (by decide) ?_
                      refine lv_istore (lv' := [(5, .int 2), (4, .int (nI (377 + (9 * Wn)))), (3, .int 0), (2, .int v2_969), (1, .int (nI (n8))), (0, .ref h0)]) hx hb dX9_walkItem_219 hl (by decide) rfl (fun ls hl => ?_)
                      suffices loop_221 : ∀ (n_221 : Nat) (i : Nat) (s8 : Nat → Int32) (H : Heap) (locs : List Loc) (ls : Array Slot), n8 - i < n_221 → (2 ≤ i) → (i ≤ n8) → (s8 0 = nI P) → (s8 1 = nI Rn) → (s8 2 = nI (Wn + 1)) → (SI s8) → (MI s8) → (P ≤ 10) → (Rn ≤ 8) → (Wn + 1 ≤ 8) → (RI Rn s8) → va_P D vwCl [(ywa, .inl (cI, 6, .inl a8)), (yta, .inl (cI, 120, .inl tp)), (h0, .inr (9, [.ref ys, .ref yk, .ref yo, .ref yt, .int mk0, .ref yfa, .ref yfe, .int mL, .int mS, .int mM, .ref yro, .ref yhe, .ref ygr, .int mF, .int mC, .int mY, .ref yta, .int (nI (mz)), .int (nI (f2_967)), .int (nI (t2_968)), .int v2_969, .int w2_970, .ref ywa, .ref ybi, .ref ysi, .ref ynu, .ref ymo])), (ys, .inl (cI, 449, .inl s8))] H → va_D A [(ywa, .inl (cI, 6, .inl a8)), (yta, .inl (cI, 120, .inl tp)), (h0, .inr (9, [.ref ys, .ref yk, .ref yo, .ref yt, .int mk0, .ref yfa, .ref yfe, .int mL, .int mS, .int mM, .ref yro, .ref yhe, .ref ygr, .int mF, .int mC, .int mY, .ref yta, .int (nI (mz)), .int (nI (f2_967)), .int (nI (t2_968)), .int v2_969, .int w2_970, .ref ywa, .ref ybi, .ref ysi, .ref ynu, .ref ymo])), (ys, .inl (cI, 449, .inl s8))] → va_S A s.heap H locs → lv_has ls 6 [(5, .int (nI (i))), (4, .int (nI (377 + (9 * Wn)))), (3, .int 0), (2, .int v2_969), (1, .int (nI (n8))), (0, .ref h0)] → W p l e ({ frames := 6, cells := 0, slots := 0, locals := 136 }) s m ([.ref h0] : List Value).toArray below meth c H locs 0 0 (MQ below (XQv (fun (u : Nat × Nat × Int32 × Int32 × (Nat → Int32) × (Nat → Int32) × Nat) => match u with | (f2, t2, v2, w2, ms2, wa2, W2) => (f2 ≤ mz) ∧ (t2 ≤ mz) ∧ (f2 ≤ t2) ∧ (f2 < t2 ∨ f2 = mz) ∧ (mf ≤ f2) ∧ (w2 = 0 → mw = 0 ∧ True) ∧ (ms2 0 = nI P) ∧ (ms2 1 = nI Rn) ∧ (ms2 2 = nI W2) ∧ (SI ms2) ∧ (MI ms2) ∧ (P ≤ 10) ∧ (Rn ≤ 8) ∧ (W2 ≤ 8) ∧ (RI Rn ms2)) D (fun (u : Nat × Nat × Int32 × Int32 × (Nat → Int32) × (Nat → Int32) × Nat) => match u with | (f2, t2, v2, w2, ms2, wa2, W2) => [(h0, .inr (9, [.ref ys, .ref yk, .ref yo, .ref yt, .int mk0, .ref yfa, .ref yfe, .int mL, .int mS, .int mM, .ref yro, .ref yhe, .ref ygr, .int mF, .int mC, .int mY, .ref yta, .int (nI (mz)), .int (nI (f2)), .int (nI (t2)), .int v2, .int w2, .ref ywa, .ref ybi, .ref ysi, .ref ynu, .ref ymo])), (ys, .inl (cI, 449, .inl ms2)), (yta, .inl (cI, 120, .inl tp)), (ywa, .inl (cI, 6, .inl wa2))]) A) ([.ref h0] : List Value).toArray s 0 0 A) (F0 m 221 ls []) by
                        exact loop_221 _ 2 f_1033 _ _ _ (Nat.lt_succ_self _) (by omega) (by omega) k0_f_1033 k1_f_1033 k2_f_1033 kS_f_1033 kM_f_1033 i_1029 i_1030 i_1031 kR_f_1033 hP hD hS (lv_sub hl [0, 1, 2, 3, 4, 5] rfl)
                      intro n_221
                      induction n_221 with
                      | zero =>
                        intro i s8 H locs ls hm_221
                        exact absurd hm_221 (Nat.not_lt_zero _)
                      | succ n_221 ih_221 =>
                        intro i s8 H locs ls hm_221 hi2 hi ht0 ht1 ht2 htS htM htp htr htw htR hP hD hS hl
                        refine lv_iload hx hb dX9_walkItem_221 (lv_at hl 0 rfl) ?_
                        refine lv_iload_n hx hb dX9_walkItem_223 rfl (lv_at hl 4 rfl) ?_
                        refine lv_icmp_ge (tgt := 252) hx hb dX9_walkItem_224 (by decide) (fun c_1034 => ?_) (fun c_1034 => ?_)
                        · skip
                          have nc_1034 : n8 ≤ i := xn_le (a := n8) (b := i) (by omega) (by omega) c_1034
                          exact W.vret hx hb hr (fun t ht hW => ⟨⟨(f2_967, t2_968, v2_969, w2_970, s8, a8, Wn + 1), rfl, ⟨(by first | assumption | omega), (by first | assumption | omega), (by first | assumption | omega), (by first | assumption | omega), (by first | assumption | omega), (fun h => ⟨(i_578 (hc8 (i_965 (i_976 h).1).1).1).1, trivial⟩), ht0, ht1, ht2, htS, htM, htp, htr, htw, htR⟩, by rw [ht]; exact hP.sub [2, 3, 1, 0] rfl, hD.sub [2, 3, 1, 0] (by decide) rfl⟩, hS.F ht⟩) hS.2.2 dX9_walkItem_252 hlk
                        · skip
                          have nc_1034 : i < n8 := xn_nle (a := n8) (b := i) (by omega) (by omega) c_1034
                          refine lv_aload_n hx hb dX9_walkItem_227 rfl (lv_at hl 5 rfl) ?_
                          refine xg hF kf_X9_7 hK hP 2 rfl rfl dX9_walkItem_228 ?_
                          refine lv_iload hx hb dX9_walkItem_231 (lv_at hl 1 rfl) ?_
                          refine lv_iconst (v := 3) hx hb dX9_walkItem_233 (by decide) ?_
                          refine lv_iadd hx hb dX9_walkItem_234 ?_
                          refine xl_i (y := nI (377 + (9 * Wn) + 3)) (nI_add (377 + (9 * Wn)) 3) ?_
                          refine lv_iload hx hb dX9_walkItem_235 (lv_at hl 0 rfl) ?_
                          refine lv_iadd hx hb dX9_walkItem_237 ?_
                          refine xl_i (y := nI (377 + (9 * Wn) + 3 + i)) (nI_add (377 + (9 * Wn) + 3) i) ?_
                          refine lv_aload_n hx hb dX9_walkItem_238 rfl (lv_at hl 5 rfl) ?_
                          refine xg hF kf_X9_40 hK hP 2 rfl rfl dX9_walkItem_239 ?_
                          refine lv_iload hx hb dX9_walkItem_242 (lv_at hl 0 rfl) ?_
                          refine va_iald hx hb hK hP 0 0 rfl rfl (vp_in_nI (show i < 6 by omega) (by decide)) dX9_walkItem_244 ?_
                          refine xl_i (y := a8 i) (congrArg a8 (nI_clamp (show i < 2 ^ 31 by omega))) ?_
                          obtain ⟨z_1035, ez_1035, hz_10350⟩ := wk_A.get hA8 (i_965 (i_976 c_1019).1).1 (show i < n8 by omega)
                          refine xl_i (y := nI (z_1035)) ez_1035 ?_
                          refine va_iast hx hb hK hP hD hS 3 0 rfl rfl (vp_in_nI (show 377 + (9 * Wn) + 3 + i < 449 by omega) (by decide)) dX9_walkItem_245 (fun H locs hP hD hS => ?_)
                          rw [nI_clamp (show 377 + (9 * Wn) + 3 + i < 2 ^ 31 by omega)] at hP hD
                          obtain ⟨f_1036, ef_1036⟩ : ∃ g, g = upd s8 (377 + (9 * Wn) + 3 + i) (nI (z_1035)) := ⟨_, rfl⟩
                          rw [← ef_1036] at hP hD
                          have k0_f_1036 : f_1036 0 = nI P := by rw [ef_1036]; exact (pk_un (show 0 ≠ (377 + (9 * Wn) + 3 + i) by omega)).trans ht0
                          have k1_f_1036 : f_1036 1 = nI Rn := by rw [ef_1036]; exact (pk_un (show 1 ≠ (377 + (9 * Wn) + 3 + i) by omega)).trans ht1
                          have k2_f_1036 : f_1036 2 = nI (Wn + 1) := by rw [ef_1036]; exact (pk_un (show 2 ≠ (377 + (9 * Wn) + 3 + i) by omega)).trans ht2
                          have kS_f_1036 : SI f_1036 := by rw [ef_1036]; exact SI.upd htS (okS.ws (w := Wn) (i := i) (by omega) (by omega) (by omega) (show z_1035 < 10 by omega))
                          have kM_f_1036 : MI f_1036 := by rw [ef_1036]; exact MI.upd htM (okM.out (show (377 + (9 * Wn) + 3 + i) < 13 ∨ 113 ≤ (377 + (9 * Wn) + 3 + i) by omega))
                          have kR_f_1036 : RI Rn f_1036 := by rw [ef_1036]; exact RI.upd htR (fun r9 hr9 e9 => by omega)
                          have hP : va_P D vwCl [(ywa, .inl (cI, 6, .inl a8)), (yta, .inl (cI, 120, .inl tp)), (h0, .inr (9, [.ref ys, .ref yk, .ref yo, .ref yt, .int mk0, .ref yfa, .ref yfe, .int mL, .int mS, .int mM, .ref yro, .ref yhe, .ref ygr, .int mF, .int mC, .int mY, .ref yta, .int (nI (mz)), .int (nI (f2_967)), .int (nI (t2_968)), .int v2_969, .int w2_970, .ref ywa, .ref ybi, .ref ysi, .ref ynu, .ref ymo])), (ys, .inl (cI, 449, .inl f_1036))] H := hP
                          have hD : va_D A [(ywa, .inl (cI, 6, .inl a8)), (yta, .inl (cI, 120, .inl tp)), (h0, .inr (9, [.ref ys, .ref yk, .ref yo, .ref yt, .int mk0, .ref yfa, .ref yfe, .int mL, .int mS, .int mM, .ref yro, .ref yhe, .ref ygr, .int mF, .int mC, .int mY, .ref yta, .int (nI (mz)), .int (nI (f2_967)), .int (nI (t2_968)), .int v2_969, .int w2_970, .ref ywa, .ref ybi, .ref ysi, .ref ynu, .ref ymo])), (ys, .inl (cI, 449, .inl f_1036))] := hD
                          refine lv_iinc (v := nI (i + 1)) (lv' := [(5, .int (nI (i + 1))), (4, .int (nI (377 + (9 * Wn)))), (3, .int 0), (2, .int v2_969), (1, .int (nI (n8))), (0, .ref h0)]) hx hb dX9_walkItem_246 hl (k := 0) rfl (nI_1 (i)) (by decide) rfl (fun ls hl => ?_)
                          refine lv_goto (tgt := 221) hx hb dX9_walkItem_249 (by decide) ?_
                          exact ih_221 (i + 1) f_1036 _ _ _ (by omega) (by omega) (by omega) k0_f_1036 k1_f_1036 k2_f_1036 kS_f_1036 kM_f_1036 htp htr htw kR_f_1036 (hP.sub [0, 1, 2, 3] rfl) (hD.sub [0, 1, 2, 3] (by decide) rfl) hS (lv_sub hl [0, 1, 2, 3, 4, 5] rfl)
                · skip
                  refine xc_Vv (wr := [(ys, .inl (cI, 449, .inl ms)), (ywa, .inl (cI, 6, .inl a8))]) hF (c_X9_needs l D cI cJ cZ cS ta sa sv H.size h0 ys yk yo yt mk0 yfa yfe mL mS mM yro yhe ygr mF mC mY yta mz f8 t8 mv w8 ywa ybi ysi ynu ymo tp 0 (by omega) (by omega) (by omega) (by omega) (by omega)) kv_X9_278 ⟨rfl, rfl, Nat.le_of_ble_eq_true rfl, Nat.le_of_ble_eq_true rfl⟩ ⟨Nat.le_of_ble_eq_true rfl, Nat.le_of_ble_eq_true rfl⟩ hK hN hZ hP hD hS hA [2, 3] [0, 1] rfl rfl rfl rfl (by decide) 0 rfl rfl rfl rfl hl.1 rfl (Nat.le_of_ble_eq_true rfl) dX9_walkItem_120 (fun u_r_1037 H locs hw_r_1037 hP hD hS => ?_)
                  obtain ⟨f2_1038, t2_1039, w2_1040⟩ := u_r_1037
                  try dsimp only at hw_r_1037
                  obtain ⟨i_1041, i_1042, i_1043, i_1044, i_1045, i_1046⟩ := hw_r_1037
                  have hP : va_P D vwCl [(ys, .inl (cI, 449, .inl ms)), (ywa, .inl (cI, 6, .inl a8)), (h0, .inr (9, [.ref ys, .ref yk, .ref yo, .ref yt, .int mk0, .ref yfa, .ref yfe, .int mL, .int mS, .int mM, .ref yro, .ref yhe, .ref ygr, .int mF, .int mC, .int mY, .ref yta, .int (nI (mz)), .int (nI (f2_1038)), .int (nI (t2_1039)), .int mv, .int w2_1040, .ref ywa, .ref ybi, .ref ysi, .ref ynu, .ref ymo])), (yta, .inl (cI, 120, .inl tp))] H := hP
                  have hD : va_D A [(ys, .inl (cI, 449, .inl ms)), (ywa, .inl (cI, 6, .inl a8)), (h0, .inr (9, [.ref ys, .ref yk, .ref yo, .ref yt, .int mk0, .ref yfa, .ref yfe, .int mL, .int mS, .int mM, .ref yro, .ref yhe, .ref ygr, .int mF, .int mC, .int mY, .ref yta, .int (nI (mz)), .int (nI (f2_1038)), .int (nI (t2_1039)), .int mv, .int w2_1040, .ref ywa, .ref ybi, .ref ysi, .ref ynu, .ref ymo])), (yta, .inl (cI, 120, .inl tp))] := hD
                  refine lv_aload_n hx hb dX9_walkItem_123 rfl (lv_at hl 1 rfl) ?_
                  refine lv_sipush (v := (-9999)) hx hb dX9_walkItem_124 (by decide) ?_
                  refine lv_sipush (v := 9999) hx hb dX9_walkItem_127 (by decide) ?_
                  refine xc_Vv (wr := [(ys, .inl (cI, 449, .inl ms)), (ywa, .inl (cI, 6, .inl a8))]) hF (c_X9_mile l D cI cJ cZ cS ta sa sv H.size h0 ys yk yo yt mk0 yfa yfe mL mS mM yro yhe ygr mF mC mY yta mz f2_1038 t2_1039 mv w2_1040 ywa ybi ysi ynu ymo tp (-9999) 9999 (by omega) (by omega) (by omega) (by omega) (by omega)) kv_X9_287 ⟨rfl, rfl, Nat.le_of_ble_eq_true rfl, Nat.le_of_ble_eq_true rfl⟩ ⟨Nat.le_of_ble_eq_true rfl, Nat.le_of_ble_eq_true rfl⟩ hK hN hZ hP hD hS hA [2, 3] [0, 1] rfl rfl rfl rfl (by decide) 0 rfl rfl rfl rfl hl.1 rfl (Nat.le_of_ble_eq_true rfl) dX9_walkItem_130 (fun u_r_1047 H locs hw_r_1047 hP hD hS => ?_)
                  obtain ⟨f2_1048, t2_1049, v2_1050, w2_1051⟩ := u_r_1047
                  try dsimp only at hw_r_1047
                  obtain ⟨i_1052, i_1053, i_1054, i_1055, i_1056, i_1057⟩ := hw_r_1047
                  have hP : va_P D vwCl [(ys, .inl (cI, 449, .inl ms)), (ywa, .inl (cI, 6, .inl a8)), (h0, .inr (9, [.ref ys, .ref yk, .ref yo, .ref yt, .int mk0, .ref yfa, .ref yfe, .int mL, .int mS, .int mM, .ref yro, .ref yhe, .ref ygr, .int mF, .int mC, .int mY, .ref yta, .int (nI (mz)), .int (nI (f2_1048)), .int (nI (t2_1049)), .int v2_1050, .int w2_1051, .ref ywa, .ref ybi, .ref ysi, .ref ynu, .ref ymo])), (yta, .inl (cI, 120, .inl tp))] H := hP
                  have hD : va_D A [(ys, .inl (cI, 449, .inl ms)), (ywa, .inl (cI, 6, .inl a8)), (h0, .inr (9, [.ref ys, .ref yk, .ref yo, .ref yt, .int mk0, .ref yfa, .ref yfe, .int mL, .int mS, .int mM, .ref yro, .ref yhe, .ref ygr, .int mF, .int mC, .int mY, .ref yta, .int (nI (mz)), .int (nI (f2_1048)), .int (nI (t2_1049)), .int v2_1050, .int w2_1051, .ref ywa, .ref ybi, .ref ysi, .ref ynu, .ref ymo])), (yta, .inl (cI, 120, .inl tp))] := hD
                  refine lv_aload_n hx hb dX9_walkItem_133 rfl (lv_at hl 1 rfl) ?_
                  refine xg hF kf_X9_275 hK hP 2 rfl rfl dX9_walkItem_134 ?_
                  refine lv_istore_n (lv' := [(2, .int v2_1050), (1, .int (nI (n8))), (0, .ref h0)]) hx hb dX9_walkItem_137 rfl hl (by decide) rfl (fun ls hl => ?_)
                  refine lv_iconst (v := 0) hx hb dX9_walkItem_138 (by decide) ?_
                  refine lv_istore_n (lv' := [(3, .int 0), (2, .int v2_1050), (1, .int (nI (n8))), (0, .ref h0)]) hx hb dX9_walkItem_139 rfl hl (by decide) rfl (fun ls hl => ?_)
                  refine lv_aload_n hx hb dX9_walkItem_140 rfl (lv_at hl 3 rfl) ?_
                  refine lv_bipush (v := 115) hx hb dX9_walkItem_141 (by decide) ?_
                  refine lv_bipush (v := 108) hx hb dX9_walkItem_143 (by decide) ?_
                  refine lv_bipush (v := 97) hx hb dX9_walkItem_145 (by decide) ?_
                  refine lv_bipush (v := 99) hx hb dX9_walkItem_147 (by decide) ?_
                  refine lv_bipush (v := 107) hx hb dX9_walkItem_149 (by decide) ?_
                  refine lv_iconst (v := 0) hx hb dX9_walkItem_151 (by decide) ?_
                  refine lv_iconst (v := 0) hx hb dX9_walkItem_152 (by decide) ?_
                  refine xc_Vr hF (c_X9_isWord l D cI cJ cZ cS ta sa sv H.size h0 ys yk yo yt mk0 yfa yfe mL mS mM yro yhe ygr mF mC mY yta mz f2_1048 t2_1049 v2_1050 w2_1051 ywa ybi ysi ynu ymo tp 115 108 97 99 107 0 0 (by omega) (by omega)) kv_X9_290 ⟨rfl, rfl, Nat.le_of_ble_eq_true rfl, Nat.le_of_ble_eq_true rfl⟩ ⟨Nat.le_of_ble_eq_true rfl, Nat.le_of_ble_eq_true rfl⟩ hK hN hZ hP hD hS hA [2, 3] rfl rfl 0 rfl rfl rfl rfl hl.1 rfl (Nat.le_of_ble_eq_true rfl) dX9_walkItem_153 (fun r_1058 hw_r_1058 => ?_)
                  rcases hw_r_1058 with rfl | rfl
                  · skip
                    refine lv_if_eq (tgt := 176) hx hb dX9_walkItem_156 (by decide) (fun c_1059 => absurd c_1059 (by decide)) (fun c_1059 => ?_)
                    refine lv_aload_n hx hb dX9_walkItem_159 rfl (lv_at hl 3 rfl) ?_
                    refine lv_iconst (v := 1) hx hb dX9_walkItem_160 (by decide) ?_
                    refine xc_Vv (wr := [(ys, .inl (cI, 449, .inl ms)), (ywa, .inl (cI, 6, .inl a8))]) hF (c_X9_needs l D cI cJ cZ cS ta sa sv H.size h0 ys yk yo yt mk0 yfa yfe mL mS mM yro yhe ygr mF mC mY yta mz f2_1048 t2_1049 v2_1050 w2_1051 ywa ybi ysi ynu ymo tp 1 (by omega) (by omega) (by omega) (by omega) (by omega)) kv_X9_278 ⟨rfl, rfl, Nat.le_of_ble_eq_true rfl, Nat.le_of_ble_eq_true rfl⟩ ⟨Nat.le_of_ble_eq_true rfl, Nat.le_of_ble_eq_true rfl⟩ hK hN hZ hP hD hS hA [2, 3] [0, 1] rfl rfl rfl rfl (by decide) 0 rfl rfl rfl rfl hl.1 rfl (Nat.le_of_ble_eq_true rfl) dX9_walkItem_161 (fun u_r_1060 H locs hw_r_1060 hP hD hS => ?_)
                    obtain ⟨f2_1061, t2_1062, w2_1063⟩ := u_r_1060
                    try dsimp only at hw_r_1060
                    obtain ⟨i_1064, i_1065, i_1066, i_1067, i_1068, i_1069⟩ := hw_r_1060
                    have hP : va_P D vwCl [(ys, .inl (cI, 449, .inl ms)), (ywa, .inl (cI, 6, .inl a8)), (h0, .inr (9, [.ref ys, .ref yk, .ref yo, .ref yt, .int mk0, .ref yfa, .ref yfe, .int mL, .int mS, .int mM, .ref yro, .ref yhe, .ref ygr, .int mF, .int mC, .int mY, .ref yta, .int (nI (mz)), .int (nI (f2_1061)), .int (nI (t2_1062)), .int v2_1050, .int w2_1063, .ref ywa, .ref ybi, .ref ysi, .ref ynu, .ref ymo])), (yta, .inl (cI, 120, .inl tp))] H := hP
                    have hD : va_D A [(ys, .inl (cI, 449, .inl ms)), (ywa, .inl (cI, 6, .inl a8)), (h0, .inr (9, [.ref ys, .ref yk, .ref yo, .ref yt, .int mk0, .ref yfa, .ref yfe, .int mL, .int mS, .int mM, .ref yro, .ref yhe, .ref ygr, .int mF, .int mC, .int mY, .ref yta, .int (nI (mz)), .int (nI (f2_1061)), .int (nI (t2_1062)), .int v2_1050, .int w2_1063, .ref ywa, .ref ybi, .ref ysi, .ref ynu, .ref ymo])), (yta, .inl (cI, 120, .inl tp))] := hD
                    refine lv_aload_n hx hb dX9_walkItem_164 rfl (lv_at hl 3 rfl) ?_
                    refine lv_iconst (v := 0) hx hb dX9_walkItem_165 (by decide) ?_
                    refine lv_bipush (v := 99) hx hb dX9_walkItem_166 (by decide) ?_
                    refine xc_Vv (wr := [(ys, .inl (cI, 449, .inl ms)), (ywa, .inl (cI, 6, .inl a8))]) hF (c_X9_number l D cI cJ cZ cS ta sa sv H.size h0 ys yk yo yt mk0 yfa yfe mL mS mM yro yhe ygr mF mC mY yta mz f2_1061 t2_1062 v2_1050 w2_1063 ywa ybi ysi ynu ymo tp 0 99 (by omega) (by omega) (by omega) (by omega) (by omega)) kv_X9_282 ⟨rfl, rfl, Nat.le_of_ble_eq_true rfl, Nat.le_of_ble_eq_true rfl⟩ ⟨Nat.le_of_ble_eq_true rfl, Nat.le_of_ble_eq_true rfl⟩ hK hN hZ hP hD hS hA [2, 3] [0, 1] rfl rfl rfl rfl (by decide) 0 rfl rfl rfl rfl hl.1 rfl (Nat.le_of_ble_eq_true rfl) dX9_walkItem_168 (fun u_r_1070 H locs hw_r_1070 hP hD hS => ?_)
                    obtain ⟨f2_1071, t2_1072, v2_1073, w2_1074⟩ := u_r_1070
                    try dsimp only at hw_r_1070
                    obtain ⟨i_1075, i_1076, i_1077, i_1078, i_1079, i_1080⟩ := hw_r_1070
                    have hP : va_P D vwCl [(ys, .inl (cI, 449, .inl ms)), (ywa, .inl (cI, 6, .inl a8)), (h0, .inr (9, [.ref ys, .ref yk, .ref yo, .ref yt, .int mk0, .ref yfa, .ref yfe, .int mL, .int mS, .int mM, .ref yro, .ref yhe, .ref ygr, .int mF, .int mC, .int mY, .ref yta, .int (nI (mz)), .int (nI (f2_1071)), .int (nI (t2_1072)), .int v2_1073, .int w2_1074, .ref ywa, .ref ybi, .ref ysi, .ref ynu, .ref ymo])), (yta, .inl (cI, 120, .inl tp))] H := hP
                    have hD : va_D A [(ys, .inl (cI, 449, .inl ms)), (ywa, .inl (cI, 6, .inl a8)), (h0, .inr (9, [.ref ys, .ref yk, .ref yo, .ref yt, .int mk0, .ref yfa, .ref yfe, .int mL, .int mS, .int mM, .ref yro, .ref yhe, .ref ygr, .int mF, .int mC, .int mY, .ref yta, .int (nI (mz)), .int (nI (f2_1071)), .int (nI (t2_1072)), .int v2_1073, .int w2_1074, .ref ywa, .ref ybi, .ref ysi, .ref ynu, .ref ymo])), (yta, .inl (cI, 120, .inl tp))] := hD
                    refine lv_aload_n hx hb dX9_walkItem_171 rfl (lv_at hl 3 rfl) ?_
                    refine xg hF kf_X9_275 hK hP 2 rfl rfl dX9_walkItem_172 ?_
                    refine lv_istore_n (lv' := [(3, .int v2_1073), (2, .int v2_1050), (1, .int (nI (n8))), (0, .ref h0)]) hx hb dX9_walkItem_175 rfl hl (by decide) rfl (fun ls hl => ?_)
                    refine lv_aload_n hx hb dX9_walkItem_176 rfl (lv_at hl 3 rfl) ?_
                    refine xg hF kf_X9_266 hK hP 2 rfl rfl dX9_walkItem_177 ?_
                    refine lv_if_ne (tgt := 252) hx hb dX9_walkItem_180 (by decide) (fun c_1081 => ?_) (fun c_1081 => absurd rfl (i_1046 (i_1057 (i_1069 (i_1080 c_1081).1).1).1).2.1)
                    exact W.vret hx hb hr (fun t ht hW => ⟨⟨(f2_1071, t2_1072, v2_1073, w2_1074, ms, a8, Wn), rfl, ⟨(by first | assumption | omega), (by first | assumption | omega), (by first | assumption | omega), (by first | assumption | omega), (by first | assumption | omega), (fun h => ⟨(i_578 (hc8 (i_1046 (i_1057 (i_1069 (i_1080 h).1).1).1).1).1).1, trivial⟩), hs0, hs1, hs2, hsS, hsM, hsp, hsr, hsw, hsR⟩, by rw [ht]; exact hP.sub [2, 0, 3, 1] rfl, hD.sub [2, 0, 3, 1] (by decide) rfl⟩, hS.F ht⟩) hS.2.2 dX9_walkItem_252 hlk
                  · skip
                    refine lv_if_eq (tgt := 176) hx hb dX9_walkItem_156 (by decide) (fun c_1082 => ?_) (fun c_1082 => absurd (by decide) c_1082)
                    refine lv_aload_n hx hb dX9_walkItem_176 rfl (lv_at hl 3 rfl) ?_
                    refine xg hF kf_X9_266 hK hP 2 rfl rfl dX9_walkItem_177 ?_
                    refine lv_if_ne (tgt := 252) hx hb dX9_walkItem_180 (by decide) (fun c_1083 => ?_) (fun c_1083 => absurd rfl (i_1046 (i_1057 c_1083).1).2.1)
                    exact W.vret hx hb hr (fun t ht hW => ⟨⟨(f2_1048, t2_1049, v2_1050, w2_1051, ms, a8, Wn), rfl, ⟨(by first | assumption | omega), (by first | assumption | omega), (by first | assumption | omega), (by first | assumption | omega), (by first | assumption | omega), (fun h => ⟨(i_578 (hc8 (i_1046 (i_1057 h).1).1).1).1, trivial⟩), hs0, hs1, hs2, hsS, hsM, hsp, hsr, hsw, hsR⟩, by rw [ht]; exact hP.sub [2, 0, 3, 1] rfl, hD.sub [2, 0, 3, 1] (by decide) rfl⟩, hS.F ht⟩) hS.2.2 dX9_walkItem_252 hlk
            · skip
              refine xc_Sr hF (c_X9_isDigit l D cI cJ cZ cS ta sa sv H.size (-1) ) ks_X9_263 ⟨rfl, rfl, Nat.le_of_ble_eq_true rfl, Nat.le_of_ble_eq_true rfl⟩ ⟨Nat.le_of_ble_eq_true rfl, Nat.le_of_ble_eq_true rfl⟩ hK hN hZ hP hD hS hA [] rfl rfl rfl hl.1 rfl (Nat.le_of_ble_eq_true rfl) dX9_walkItem_48 (fun r_1084 hw_r_1084 => ?_)
              rcases hw_r_1084 with ⟨rfl, h_1085, h_1086⟩ | ⟨rfl, h_1087⟩
              · skip
                refine lv_if_eq (tgt := 105) hx hb dX9_walkItem_51 (by decide) (fun c_1088 => absurd c_1088 (by decide)) (fun c_1088 => ?_)
                refine lv_aload_n hx hb dX9_walkItem_54 rfl (lv_at hl 1 rfl) ?_
                refine xc_Vr hF (c_X9_numberHere l D cI cJ cZ cS ta sa sv H.size h0 ys yk yo yt mk0 yfa yfe mL mS mM yro yhe ygr mF mC mY yta mz f8 t8 mv w8 ywa ybi ysi ynu ymo tp (by omega) (by omega) (by omega) (by omega) (by omega)) kv_X9_284 ⟨rfl, rfl, Nat.le_of_ble_eq_true rfl, Nat.le_of_ble_eq_true rfl⟩ ⟨Nat.le_of_ble_eq_true rfl, Nat.le_of_ble_eq_true rfl⟩ hK hN hZ hP hD hS hA [2, 3] rfl rfl 0 rfl rfl rfl rfl hl.1 rfl (Nat.le_of_ble_eq_true rfl) dX9_walkItem_55 (fun r_1089 hw_r_1089 => ?_)
                refine lv_istore_n (lv' := [(2, .int r_1089), (1, .int (nI (n8))), (0, .ref h0)]) hx hb dX9_walkItem_58 rfl hl (by decide) rfl (fun ls hl => ?_)
                refine lv_aload_n hx hb dX9_walkItem_59 rfl (lv_at hl 2 rfl) ?_
                refine lv_aload_n hx hb dX9_walkItem_60 rfl (lv_at hl 2 rfl) ?_
                refine lv_iload_n hx hb dX9_walkItem_61 rfl (lv_at hl 0 rfl) ?_
                refine xc_Vr hF (c_X9_isPlace l D cI cJ cZ cS ta sa sv H.size h0 ys yk yo yt mk0 yfa yfe mL mS mM yro yhe ygr mF mC mY yta mz f8 t8 mv w8 ywa ybi ysi ynu ymo ms P Rn Wn r_1089 hs0 hs1 hs2 hsS hsM hsp hsr hsw hsR) kv_X9_61 ⟨rfl, rfl, Nat.le_of_ble_eq_true rfl, Nat.le_of_ble_eq_true rfl⟩ ⟨Nat.le_of_ble_eq_true rfl, Nat.le_of_ble_eq_true rfl⟩ hK hN hZ hP hD hS hA [2, 0] rfl rfl 0 rfl rfl rfl rfl hl.1 rfl (Nat.le_of_ble_eq_true rfl) dX9_walkItem_62 (fun r_1090 hw_r_1090 => ?_)
                rcases hw_r_1090 with ⟨k_1091, rfl, rfl, h_1093⟩ | rfl
                · skip
                  refine lv_if_eq (tgt := 88) hx hb dX9_walkItem_65 (by decide) (fun c_1094 => absurd c_1094 (by decide)) (fun c_1094 => ?_)
                  refine lv_iload_n hx hb dX9_walkItem_68 rfl (lv_at hl 1 rfl) ?_
                  refine lv_if_eq (tgt := 84) hx hb dX9_walkItem_69 (by decide) (fun c_1095 => ?_) (fun c_1095 => ?_)
                  · skip
                    have nc_1095 : n8 = 0 := xn_eq (a := n8) (b := 0) (by omega) (by omega) c_1095
                    refine lv_iconst (v := 1) hx hb dX9_walkItem_84 (by decide) ?_
                    refine lv_goto (tgt := 89) hx hb dX9_walkItem_85 (by decide) ?_
                    refine xc_Vv (wr := [(ys, .inl (cI, 449, .inl ms)), (ywa, .inl (cI, 6, .inl a8))]) hF (c_X9_needs l D cI cJ cZ cS ta sa sv H.size h0 ys yk yo yt mk0 yfa yfe mL mS mM yro yhe ygr mF mC mY yta mz f8 t8 mv w8 ywa ybi ysi ynu ymo tp 1 (by omega) (by omega) (by omega) (by omega) (by omega)) kv_X9_278 ⟨rfl, rfl, Nat.le_of_ble_eq_true rfl, Nat.le_of_ble_eq_true rfl⟩ ⟨Nat.le_of_ble_eq_true rfl, Nat.le_of_ble_eq_true rfl⟩ hK hN hZ hP hD hS hA [2, 3] [0, 1] rfl rfl rfl rfl (by decide) 0 rfl rfl rfl rfl hl.1 rfl (Nat.le_of_ble_eq_true rfl) dX9_walkItem_89 (fun u_r_1096 H locs hw_r_1096 hP hD hS => ?_)
                    obtain ⟨f2_1097, t2_1098, w2_1099⟩ := u_r_1096
                    try dsimp only at hw_r_1096
                    obtain ⟨i_1100, i_1101, i_1102, i_1103, i_1104, i_1105⟩ := hw_r_1096
                    have hP : va_P D vwCl [(ys, .inl (cI, 449, .inl ms)), (ywa, .inl (cI, 6, .inl a8)), (h0, .inr (9, [.ref ys, .ref yk, .ref yo, .ref yt, .int mk0, .ref yfa, .ref yfe, .int mL, .int mS, .int mM, .ref yro, .ref yhe, .ref ygr, .int mF, .int mC, .int mY, .ref yta, .int (nI (mz)), .int (nI (f2_1097)), .int (nI (t2_1098)), .int mv, .int w2_1099, .ref ywa, .ref ybi, .ref ysi, .ref ynu, .ref ymo])), (yta, .inl (cI, 120, .inl tp))] H := hP
                    have hD : va_D A [(ys, .inl (cI, 449, .inl ms)), (ywa, .inl (cI, 6, .inl a8)), (h0, .inr (9, [.ref ys, .ref yk, .ref yo, .ref yt, .int mk0, .ref yfa, .ref yfe, .int mL, .int mS, .int mM, .ref yro, .ref yhe, .ref ygr, .int mF, .int mC, .int mY, .ref yta, .int (nI (mz)), .int (nI (f2_1097)), .int (nI (t2_1098)), .int mv, .int w2_1099, .ref ywa, .ref ybi, .ref ysi, .ref ynu, .ref ymo])), (yta, .inl (cI, 120, .inl tp))] := hD
                    refine lv_aload_n hx hb dX9_walkItem_92 rfl (lv_at hl 2 rfl) ?_
                    refine xg hF kf_X9_40 hK hP 2 rfl rfl dX9_walkItem_93 ?_
                    refine lv_iload_n hx hb dX9_walkItem_96 rfl (lv_at hl 1 rfl) ?_
                    refine lv_iload_n hx hb dX9_walkItem_97 rfl (lv_at hl 0 rfl) ?_
                    refine va_iast hx hb hK hP hD hS 1 0 rfl rfl (vp_in_nI (show n8 < 6 by omega) (by decide)) dX9_walkItem_98 (fun H locs hP hD hS => ?_)
                    rw [nI_clamp (show n8 < 2 ^ 31 by omega)] at hP hD
                    obtain ⟨f_1106, ef_1106⟩ : ∃ g, g = upd a8 n8 (nI (k_1091)) := ⟨_, rfl⟩
                    rw [← ef_1106] at hP hD
                    have hP : va_P D vwCl [(ys, .inl (cI, 449, .inl ms)), (ywa, .inl (cI, 6, .inl f_1106)), (h0, .inr (9, [.ref ys, .ref yk, .ref yo, .ref yt, .int mk0, .ref yfa, .ref yfe, .int mL, .int mS, .int mM, .ref yro, .ref yhe, .ref ygr, .int mF, .int mC, .int mY, .ref yta, .int (nI (mz)), .int (nI (f2_1097)), .int (nI (t2_1098)), .int mv, .int w2_1099, .ref ywa, .ref ybi, .ref ysi, .ref ynu, .ref ymo])), (yta, .inl (cI, 120, .inl tp))] H := hP
                    have hD : va_D A [(ys, .inl (cI, 449, .inl ms)), (ywa, .inl (cI, 6, .inl f_1106)), (h0, .inr (9, [.ref ys, .ref yk, .ref yo, .ref yt, .int mk0, .ref yfa, .ref yfe, .int mL, .int mS, .int mM, .ref yro, .ref yhe, .ref ygr, .int mF, .int mC, .int mY, .ref yta, .int (nI (mz)), .int (nI (f2_1097)), .int (nI (t2_1098)), .int mv, .int w2_1099, .ref ywa, .ref ybi, .ref ysi, .ref ynu, .ref ymo])), (yta, .inl (cI, 120, .inl tp))] := hD
                    refine lv_iinc (v := nI (n8 + 1)) (lv' := [(1, .int (nI (n8 + 1))), (2, .int (nI (k_1091))), (0, .ref h0)]) hx hb dX9_walkItem_99 hl (k := 1) rfl (nI_1 (n8)) (by decide) rfl (fun ls hl => ?_)
                    refine lv_goto (tgt := 22) hx hb dX9_walkItem_102 (by decide) ?_
                    exact ih_22 (n8 + 1) f2_1097 t2_1098 w2_1099 f_1106 _ _ _ (by omega) (by omega) (by omega) (by omega) (by omega) (by omega) (by omega) (fun h => ⟨(hc8 (i_1105 h).1).1, trivial⟩) (wk_A.put hA8 c_579 (show k_1091 < 10 by omega) ef_1106) (hP.sub [0, 1, 2, 3] rfl) (hD.sub [0, 1, 2, 3] (by decide) rfl) hS (lv_sub hl [0, 2] rfl)
                  · skip
                    have nc_1095 : n8 ≠ 0 := xn_ne (a := n8) (b := 0) (by omega) (by omega) c_1095
                    refine lv_iload_n hx hb dX9_walkItem_72 rfl (lv_at hl 0 rfl) ?_
                    refine lv_aload_n hx hb dX9_walkItem_73 rfl (lv_at hl 2 rfl) ?_
                    refine xg hF kf_X9_40 hK hP 2 rfl rfl dX9_walkItem_74 ?_
                    refine lv_iload_n hx hb dX9_walkItem_77 rfl (lv_at hl 1 rfl) ?_
                    refine lv_iconst (v := 1) hx hb dX9_walkItem_78 (by decide) ?_
                    refine lv_isub hx hb dX9_walkItem_79 ?_
                    refine xl_i (y := nI (n8 - 1)) (pk_sub (show 1 ≤ n8 by omega)) ?_
                    refine va_iald hx hb hK hP 1 0 rfl rfl (vp_in_nI (show n8 - 1 < 6 by omega) (by decide)) dX9_walkItem_80 ?_
                    refine xl_i (y := a8 (n8 - 1)) (congrArg a8 (nI_clamp (show n8 - 1 < 2 ^ 31 by omega))) ?_
                    refine lv_icmp_eq (tgt := 88) hx hb dX9_walkItem_81 (by decide) (fun c_1107 => ?_) (fun c_1107 => ?_)
                    · skip
                      refine lv_iconst (v := 0) hx hb dX9_walkItem_88 (by decide) ?_
                      refine xc_Vv (wr := [(ys, .inl (cI, 449, .inl ms)), (ywa, .inl (cI, 6, .inl a8))]) hF (c_X9_needs l D cI cJ cZ cS ta sa sv H.size h0 ys yk yo yt mk0 yfa yfe mL mS mM yro yhe ygr mF mC mY yta mz f8 t8 mv w8 ywa ybi ysi ynu ymo tp 0 (by omega) (by omega) (by omega) (by omega) (by omega)) kv_X9_278 ⟨rfl, rfl, Nat.le_of_ble_eq_true rfl, Nat.le_of_ble_eq_true rfl⟩ ⟨Nat.le_of_ble_eq_true rfl, Nat.le_of_ble_eq_true rfl⟩ hK hN hZ hP hD hS hA [2, 3] [0, 1] rfl rfl rfl rfl (by decide) 0 rfl rfl rfl rfl hl.1 rfl (Nat.le_of_ble_eq_true rfl) dX9_walkItem_89 (fun u_r_1108 H locs hw_r_1108 hP hD hS => ?_)
                      obtain ⟨f2_1109, t2_1110, w2_1111⟩ := u_r_1108
                      try dsimp only at hw_r_1108
                      obtain ⟨i_1112, i_1113, i_1114, i_1115, i_1116, i_1117⟩ := hw_r_1108
                      have hP : va_P D vwCl [(ys, .inl (cI, 449, .inl ms)), (ywa, .inl (cI, 6, .inl a8)), (h0, .inr (9, [.ref ys, .ref yk, .ref yo, .ref yt, .int mk0, .ref yfa, .ref yfe, .int mL, .int mS, .int mM, .ref yro, .ref yhe, .ref ygr, .int mF, .int mC, .int mY, .ref yta, .int (nI (mz)), .int (nI (f2_1109)), .int (nI (t2_1110)), .int mv, .int w2_1111, .ref ywa, .ref ybi, .ref ysi, .ref ynu, .ref ymo])), (yta, .inl (cI, 120, .inl tp))] H := hP
                      have hD : va_D A [(ys, .inl (cI, 449, .inl ms)), (ywa, .inl (cI, 6, .inl a8)), (h0, .inr (9, [.ref ys, .ref yk, .ref yo, .ref yt, .int mk0, .ref yfa, .ref yfe, .int mL, .int mS, .int mM, .ref yro, .ref yhe, .ref ygr, .int mF, .int mC, .int mY, .ref yta, .int (nI (mz)), .int (nI (f2_1109)), .int (nI (t2_1110)), .int mv, .int w2_1111, .ref ywa, .ref ybi, .ref ysi, .ref ynu, .ref ymo])), (yta, .inl (cI, 120, .inl tp))] := hD
                      refine lv_aload_n hx hb dX9_walkItem_92 rfl (lv_at hl 2 rfl) ?_
                      refine xg hF kf_X9_40 hK hP 2 rfl rfl dX9_walkItem_93 ?_
                      refine lv_iload_n hx hb dX9_walkItem_96 rfl (lv_at hl 1 rfl) ?_
                      refine lv_iload_n hx hb dX9_walkItem_97 rfl (lv_at hl 0 rfl) ?_
                      refine va_iast hx hb hK hP hD hS 1 0 rfl rfl (vp_in_nI (show n8 < 6 by omega) (by decide)) dX9_walkItem_98 (fun H locs hP hD hS => ?_)
                      rw [nI_clamp (show n8 < 2 ^ 31 by omega)] at hP hD
                      obtain ⟨f_1118, ef_1118⟩ : ∃ g, g = upd a8 n8 (nI (k_1091)) := ⟨_, rfl⟩
                      rw [← ef_1118] at hP hD
                      have hP : va_P D vwCl [(ys, .inl (cI, 449, .inl ms)), (ywa, .inl (cI, 6, .inl f_1118)), (h0, .inr (9, [.ref ys, .ref yk, .ref yo, .ref yt, .int mk0, .ref yfa, .ref yfe, .int mL, .int mS, .int mM, .ref yro, .ref yhe, .ref ygr, .int mF, .int mC, .int mY, .ref yta, .int (nI (mz)), .int (nI (f2_1109)), .int (nI (t2_1110)), .int mv, .int w2_1111, .ref ywa, .ref ybi, .ref ysi, .ref ynu, .ref ymo])), (yta, .inl (cI, 120, .inl tp))] H := hP
                      have hD : va_D A [(ys, .inl (cI, 449, .inl ms)), (ywa, .inl (cI, 6, .inl f_1118)), (h0, .inr (9, [.ref ys, .ref yk, .ref yo, .ref yt, .int mk0, .ref yfa, .ref yfe, .int mL, .int mS, .int mM, .ref yro, .ref yhe, .ref ygr, .int mF, .int mC, .int mY, .ref yta, .int (nI (mz)), .int (nI (f2_1109)), .int (nI (t2_1110)), .int mv, .int w2_1111, .ref ywa, .ref ybi, .ref ysi, .ref ynu, .ref ymo])), (yta, .inl (cI, 120, .inl tp))] := hD
                      refine lv_iinc (v := nI (n8 + 1)) (lv' := [(1, .int (nI (n8 + 1))), (2, .int (nI (k_1091))), (0, .ref h0)]) hx hb dX9_walkItem_99 hl (k := 1) rfl (nI_1 (n8)) (by decide) rfl (fun ls hl => ?_)
                      refine lv_goto (tgt := 22) hx hb dX9_walkItem_102 (by decide) ?_
                      exact ih_22 (n8 + 1) f2_1109 t2_1110 w2_1111 f_1118 _ _ _ (by omega) (by omega) (by omega) (by omega) (by omega) (by omega) (by omega) (fun h => ⟨(hc8 (i_1117 h).1).1, trivial⟩) (wk_A.no (fun h => absurd rfl (i_1117 h).2.1)) (hP.sub [0, 1, 2, 3] rfl) (hD.sub [0, 1, 2, 3] (by decide) rfl) hS (lv_sub hl [0, 2] rfl)
                    · skip
                      refine lv_iconst (v := 1) hx hb dX9_walkItem_84 (by decide) ?_
                      refine lv_goto (tgt := 89) hx hb dX9_walkItem_85 (by decide) ?_
                      refine xc_Vv (wr := [(ys, .inl (cI, 449, .inl ms)), (ywa, .inl (cI, 6, .inl a8))]) hF (c_X9_needs l D cI cJ cZ cS ta sa sv H.size h0 ys yk yo yt mk0 yfa yfe mL mS mM yro yhe ygr mF mC mY yta mz f8 t8 mv w8 ywa ybi ysi ynu ymo tp 1 (by omega) (by omega) (by omega) (by omega) (by omega)) kv_X9_278 ⟨rfl, rfl, Nat.le_of_ble_eq_true rfl, Nat.le_of_ble_eq_true rfl⟩ ⟨Nat.le_of_ble_eq_true rfl, Nat.le_of_ble_eq_true rfl⟩ hK hN hZ hP hD hS hA [2, 3] [0, 1] rfl rfl rfl rfl (by decide) 0 rfl rfl rfl rfl hl.1 rfl (Nat.le_of_ble_eq_true rfl) dX9_walkItem_89 (fun u_r_1119 H locs hw_r_1119 hP hD hS => ?_)
                      obtain ⟨f2_1120, t2_1121, w2_1122⟩ := u_r_1119
                      try dsimp only at hw_r_1119
                      obtain ⟨i_1123, i_1124, i_1125, i_1126, i_1127, i_1128⟩ := hw_r_1119
                      have hP : va_P D vwCl [(ys, .inl (cI, 449, .inl ms)), (ywa, .inl (cI, 6, .inl a8)), (h0, .inr (9, [.ref ys, .ref yk, .ref yo, .ref yt, .int mk0, .ref yfa, .ref yfe, .int mL, .int mS, .int mM, .ref yro, .ref yhe, .ref ygr, .int mF, .int mC, .int mY, .ref yta, .int (nI (mz)), .int (nI (f2_1120)), .int (nI (t2_1121)), .int mv, .int w2_1122, .ref ywa, .ref ybi, .ref ysi, .ref ynu, .ref ymo])), (yta, .inl (cI, 120, .inl tp))] H := hP
                      have hD : va_D A [(ys, .inl (cI, 449, .inl ms)), (ywa, .inl (cI, 6, .inl a8)), (h0, .inr (9, [.ref ys, .ref yk, .ref yo, .ref yt, .int mk0, .ref yfa, .ref yfe, .int mL, .int mS, .int mM, .ref yro, .ref yhe, .ref ygr, .int mF, .int mC, .int mY, .ref yta, .int (nI (mz)), .int (nI (f2_1120)), .int (nI (t2_1121)), .int mv, .int w2_1122, .ref ywa, .ref ybi, .ref ysi, .ref ynu, .ref ymo])), (yta, .inl (cI, 120, .inl tp))] := hD
                      refine lv_aload_n hx hb dX9_walkItem_92 rfl (lv_at hl 2 rfl) ?_
                      refine xg hF kf_X9_40 hK hP 2 rfl rfl dX9_walkItem_93 ?_
                      refine lv_iload_n hx hb dX9_walkItem_96 rfl (lv_at hl 1 rfl) ?_
                      refine lv_iload_n hx hb dX9_walkItem_97 rfl (lv_at hl 0 rfl) ?_
                      refine va_iast hx hb hK hP hD hS 1 0 rfl rfl (vp_in_nI (show n8 < 6 by omega) (by decide)) dX9_walkItem_98 (fun H locs hP hD hS => ?_)
                      rw [nI_clamp (show n8 < 2 ^ 31 by omega)] at hP hD
                      obtain ⟨f_1129, ef_1129⟩ : ∃ g, g = upd a8 n8 (nI (k_1091)) := ⟨_, rfl⟩
                      rw [← ef_1129] at hP hD
                      have hP : va_P D vwCl [(ys, .inl (cI, 449, .inl ms)), (ywa, .inl (cI, 6, .inl f_1129)), (h0, .inr (9, [.ref ys, .ref yk, .ref yo, .ref yt, .int mk0, .ref yfa, .ref yfe, .int mL, .int mS, .int mM, .ref yro, .ref yhe, .ref ygr, .int mF, .int mC, .int mY, .ref yta, .int (nI (mz)), .int (nI (f2_1120)), .int (nI (t2_1121)), .int mv, .int w2_1122, .ref ywa, .ref ybi, .ref ysi, .ref ynu, .ref ymo])), (yta, .inl (cI, 120, .inl tp))] H := hP
                      have hD : va_D A [(ys, .inl (cI, 449, .inl ms)), (ywa, .inl (cI, 6, .inl f_1129)), (h0, .inr (9, [.ref ys, .ref yk, .ref yo, .ref yt, .int mk0, .ref yfa, .ref yfe, .int mL, .int mS, .int mM, .ref yro, .ref yhe, .ref ygr, .int mF, .int mC, .int mY, .ref yta, .int (nI (mz)), .int (nI (f2_1120)), .int (nI (t2_1121)), .int mv, .int w2_1122, .ref ywa, .ref ybi, .ref ysi, .ref ynu, .ref ymo])), (yta, .inl (cI, 120, .inl tp))] := hD
                      refine lv_iinc (v := nI (n8 + 1)) (lv' := [(1, .int (nI (n8 + 1))), (2, .int (nI (k_1091))), (0, .ref h0)]) hx hb dX9_walkItem_99 hl (k := 1) rfl (nI_1 (n8)) (by decide) rfl (fun ls hl => ?_)
                      refine lv_goto (tgt := 22) hx hb dX9_walkItem_102 (by decide) ?_
                      exact ih_22 (n8 + 1) f2_1120 t2_1121 w2_1122 f_1129 _ _ _ (by omega) (by omega) (by omega) (by omega) (by omega) (by omega) (by omega) (fun h => ⟨(hc8 (i_1128 h).1).1, trivial⟩) (wk_A.put hA8 c_579 (show k_1091 < 10 by omega) ef_1129) (hP.sub [0, 1, 2, 3] rfl) (hD.sub [0, 1, 2, 3] (by decide) rfl) hS (lv_sub hl [0, 2] rfl)
                · skip
                  refine lv_if_eq (tgt := 88) hx hb dX9_walkItem_65 (by decide) (fun c_1130 => ?_) (fun c_1130 => absurd (by decide) c_1130)
                  refine lv_iconst (v := 0) hx hb dX9_walkItem_88 (by decide) ?_
                  refine xc_Vv (wr := [(ys, .inl (cI, 449, .inl ms)), (ywa, .inl (cI, 6, .inl a8))]) hF (c_X9_needs l D cI cJ cZ cS ta sa sv H.size h0 ys yk yo yt mk0 yfa yfe mL mS mM yro yhe ygr mF mC mY yta mz f8 t8 mv w8 ywa ybi ysi ynu ymo tp 0 (by omega) (by omega) (by omega) (by omega) (by omega)) kv_X9_278 ⟨rfl, rfl, Nat.le_of_ble_eq_true rfl, Nat.le_of_ble_eq_true rfl⟩ ⟨Nat.le_of_ble_eq_true rfl, Nat.le_of_ble_eq_true rfl⟩ hK hN hZ hP hD hS hA [2, 3] [0, 1] rfl rfl rfl rfl (by decide) 0 rfl rfl rfl rfl hl.1 rfl (Nat.le_of_ble_eq_true rfl) dX9_walkItem_89 (fun u_r_1131 H locs hw_r_1131 hP hD hS => ?_)
                  obtain ⟨f2_1132, t2_1133, w2_1134⟩ := u_r_1131
                  try dsimp only at hw_r_1131
                  obtain ⟨i_1135, i_1136, i_1137, i_1138, i_1139, i_1140⟩ := hw_r_1131
                  have hP : va_P D vwCl [(ys, .inl (cI, 449, .inl ms)), (ywa, .inl (cI, 6, .inl a8)), (h0, .inr (9, [.ref ys, .ref yk, .ref yo, .ref yt, .int mk0, .ref yfa, .ref yfe, .int mL, .int mS, .int mM, .ref yro, .ref yhe, .ref ygr, .int mF, .int mC, .int mY, .ref yta, .int (nI (mz)), .int (nI (f2_1132)), .int (nI (t2_1133)), .int mv, .int w2_1134, .ref ywa, .ref ybi, .ref ysi, .ref ynu, .ref ymo])), (yta, .inl (cI, 120, .inl tp))] H := hP
                  have hD : va_D A [(ys, .inl (cI, 449, .inl ms)), (ywa, .inl (cI, 6, .inl a8)), (h0, .inr (9, [.ref ys, .ref yk, .ref yo, .ref yt, .int mk0, .ref yfa, .ref yfe, .int mL, .int mS, .int mM, .ref yro, .ref yhe, .ref ygr, .int mF, .int mC, .int mY, .ref yta, .int (nI (mz)), .int (nI (f2_1132)), .int (nI (t2_1133)), .int mv, .int w2_1134, .ref ywa, .ref ybi, .ref ysi, .ref ynu, .ref ymo])), (yta, .inl (cI, 120, .inl tp))] := hD
                  refine lv_aload_n hx hb dX9_walkItem_92 rfl (lv_at hl 2 rfl) ?_
                  refine xg hF kf_X9_40 hK hP 2 rfl rfl dX9_walkItem_93 ?_
                  refine lv_iload_n hx hb dX9_walkItem_96 rfl (lv_at hl 1 rfl) ?_
                  refine lv_iload_n hx hb dX9_walkItem_97 rfl (lv_at hl 0 rfl) ?_
                  refine va_iast hx hb hK hP hD hS 1 0 rfl rfl (vp_in_nI (show n8 < 6 by omega) (by decide)) dX9_walkItem_98 (fun H locs hP hD hS => ?_)
                  rw [nI_clamp (show n8 < 2 ^ 31 by omega)] at hP hD
                  obtain ⟨f_1141, ef_1141⟩ : ∃ g, g = upd a8 n8 r_1089 := ⟨_, rfl⟩
                  rw [← ef_1141] at hP hD
                  have hP : va_P D vwCl [(ys, .inl (cI, 449, .inl ms)), (ywa, .inl (cI, 6, .inl f_1141)), (h0, .inr (9, [.ref ys, .ref yk, .ref yo, .ref yt, .int mk0, .ref yfa, .ref yfe, .int mL, .int mS, .int mM, .ref yro, .ref yhe, .ref ygr, .int mF, .int mC, .int mY, .ref yta, .int (nI (mz)), .int (nI (f2_1132)), .int (nI (t2_1133)), .int mv, .int w2_1134, .ref ywa, .ref ybi, .ref ysi, .ref ynu, .ref ymo])), (yta, .inl (cI, 120, .inl tp))] H := hP
                  have hD : va_D A [(ys, .inl (cI, 449, .inl ms)), (ywa, .inl (cI, 6, .inl f_1141)), (h0, .inr (9, [.ref ys, .ref yk, .ref yo, .ref yt, .int mk0, .ref yfa, .ref yfe, .int mL, .int mS, .int mM, .ref yro, .ref yhe, .ref ygr, .int mF, .int mC, .int mY, .ref yta, .int (nI (mz)), .int (nI (f2_1132)), .int (nI (t2_1133)), .int mv, .int w2_1134, .ref ywa, .ref ybi, .ref ysi, .ref ynu, .ref ymo])), (yta, .inl (cI, 120, .inl tp))] := hD
                  refine lv_iinc (v := nI (n8 + 1)) (lv' := [(1, .int (nI (n8 + 1))), (2, .int r_1089), (0, .ref h0)]) hx hb dX9_walkItem_99 hl (k := 1) rfl (nI_1 (n8)) (by decide) rfl (fun ls hl => ?_)
                  refine lv_goto (tgt := 22) hx hb dX9_walkItem_102 (by decide) ?_
                  exact ih_22 (n8 + 1) f2_1132 t2_1133 w2_1134 f_1141 _ _ _ (by omega) (by omega) (by omega) (by omega) (by omega) (by omega) (by omega) (fun h => ⟨(hc8 (i_1140 h).1).1, trivial⟩) (wk_A.no (fun h => absurd rfl (i_1140 h).2.1)) (hP.sub [0, 1, 2, 3] rfl) (hD.sub [0, 1, 2, 3] (by decide) rfl) hS (lv_sub hl [0, 2] rfl)
              · skip
                refine lv_if_eq (tgt := 105) hx hb dX9_walkItem_51 (by decide) (fun c_1142 => ?_) (fun c_1142 => absurd (by decide) c_1142)
                refine lv_aload_n hx hb dX9_walkItem_105 rfl (lv_at hl 1 rfl) ?_
                refine lv_aload_n hx hb dX9_walkItem_106 rfl (lv_at hl 1 rfl) ?_
                refine lv_bipush (v := 97) hx hb dX9_walkItem_107 (by decide) ?_
                refine lv_bipush (v := 108) hx hb dX9_walkItem_109 (by decide) ?_
                refine lv_bipush (v := 108) hx hb dX9_walkItem_111 (by decide) ?_
                refine lv_iconst (v := 0) hx hb dX9_walkItem_113 (by decide) ?_
                refine lv_iconst (v := 0) hx hb dX9_walkItem_114 (by decide) ?_
                refine lv_iconst (v := 0) hx hb dX9_walkItem_115 (by decide) ?_
                refine lv_iconst (v := 0) hx hb dX9_walkItem_116 (by decide) ?_
                refine xc_Vr hF (c_X9_isWord l D cI cJ cZ cS ta sa sv H.size h0 ys yk yo yt mk0 yfa yfe mL mS mM yro yhe ygr mF mC mY yta mz f8 t8 mv w8 ywa ybi ysi ynu ymo tp 97 108 108 0 0 0 0 (by omega) (by omega)) kv_X9_290 ⟨rfl, rfl, Nat.le_of_ble_eq_true rfl, Nat.le_of_ble_eq_true rfl⟩ ⟨Nat.le_of_ble_eq_true rfl, Nat.le_of_ble_eq_true rfl⟩ hK hN hZ hP hD hS hA [2, 3] rfl rfl 0 rfl rfl rfl rfl hl.1 rfl (Nat.le_of_ble_eq_true rfl) dX9_walkItem_117 (fun r_1143 hw_r_1143 => ?_)
                rcases hw_r_1143 with rfl | rfl
                · skip
                  refine xc_Vv (wr := [(ys, .inl (cI, 449, .inl ms)), (ywa, .inl (cI, 6, .inl a8))]) hF (c_X9_needs l D cI cJ cZ cS ta sa sv H.size h0 ys yk yo yt mk0 yfa yfe mL mS mM yro yhe ygr mF mC mY yta mz f8 t8 mv w8 ywa ybi ysi ynu ymo tp 1 (by omega) (by omega) (by omega) (by omega) (by omega)) kv_X9_278 ⟨rfl, rfl, Nat.le_of_ble_eq_true rfl, Nat.le_of_ble_eq_true rfl⟩ ⟨Nat.le_of_ble_eq_true rfl, Nat.le_of_ble_eq_true rfl⟩ hK hN hZ hP hD hS hA [2, 3] [0, 1] rfl rfl rfl rfl (by decide) 0 rfl rfl rfl rfl hl.1 rfl (Nat.le_of_ble_eq_true rfl) dX9_walkItem_120 (fun u_r_1144 H locs hw_r_1144 hP hD hS => ?_)
                  obtain ⟨f2_1145, t2_1146, w2_1147⟩ := u_r_1144
                  try dsimp only at hw_r_1144
                  obtain ⟨i_1148, i_1149, i_1150, i_1151, i_1152, i_1153⟩ := hw_r_1144
                  have hP : va_P D vwCl [(ys, .inl (cI, 449, .inl ms)), (ywa, .inl (cI, 6, .inl a8)), (h0, .inr (9, [.ref ys, .ref yk, .ref yo, .ref yt, .int mk0, .ref yfa, .ref yfe, .int mL, .int mS, .int mM, .ref yro, .ref yhe, .ref ygr, .int mF, .int mC, .int mY, .ref yta, .int (nI (mz)), .int (nI (f2_1145)), .int (nI (t2_1146)), .int mv, .int w2_1147, .ref ywa, .ref ybi, .ref ysi, .ref ynu, .ref ymo])), (yta, .inl (cI, 120, .inl tp))] H := hP
                  have hD : va_D A [(ys, .inl (cI, 449, .inl ms)), (ywa, .inl (cI, 6, .inl a8)), (h0, .inr (9, [.ref ys, .ref yk, .ref yo, .ref yt, .int mk0, .ref yfa, .ref yfe, .int mL, .int mS, .int mM, .ref yro, .ref yhe, .ref ygr, .int mF, .int mC, .int mY, .ref yta, .int (nI (mz)), .int (nI (f2_1145)), .int (nI (t2_1146)), .int mv, .int w2_1147, .ref ywa, .ref ybi, .ref ysi, .ref ynu, .ref ymo])), (yta, .inl (cI, 120, .inl tp))] := hD
                  refine lv_aload_n hx hb dX9_walkItem_123 rfl (lv_at hl 1 rfl) ?_
                  refine lv_sipush (v := (-9999)) hx hb dX9_walkItem_124 (by decide) ?_
                  refine lv_sipush (v := 9999) hx hb dX9_walkItem_127 (by decide) ?_
                  refine xc_Vv (wr := [(ys, .inl (cI, 449, .inl ms)), (ywa, .inl (cI, 6, .inl a8))]) hF (c_X9_mile l D cI cJ cZ cS ta sa sv H.size h0 ys yk yo yt mk0 yfa yfe mL mS mM yro yhe ygr mF mC mY yta mz f2_1145 t2_1146 mv w2_1147 ywa ybi ysi ynu ymo tp (-9999) 9999 (by omega) (by omega) (by omega) (by omega) (by omega)) kv_X9_287 ⟨rfl, rfl, Nat.le_of_ble_eq_true rfl, Nat.le_of_ble_eq_true rfl⟩ ⟨Nat.le_of_ble_eq_true rfl, Nat.le_of_ble_eq_true rfl⟩ hK hN hZ hP hD hS hA [2, 3] [0, 1] rfl rfl rfl rfl (by decide) 0 rfl rfl rfl rfl hl.1 rfl (Nat.le_of_ble_eq_true rfl) dX9_walkItem_130 (fun u_r_1154 H locs hw_r_1154 hP hD hS => ?_)
                  obtain ⟨f2_1155, t2_1156, v2_1157, w2_1158⟩ := u_r_1154
                  try dsimp only at hw_r_1154
                  obtain ⟨i_1159, i_1160, i_1161, i_1162, i_1163, i_1164⟩ := hw_r_1154
                  have hP : va_P D vwCl [(ys, .inl (cI, 449, .inl ms)), (ywa, .inl (cI, 6, .inl a8)), (h0, .inr (9, [.ref ys, .ref yk, .ref yo, .ref yt, .int mk0, .ref yfa, .ref yfe, .int mL, .int mS, .int mM, .ref yro, .ref yhe, .ref ygr, .int mF, .int mC, .int mY, .ref yta, .int (nI (mz)), .int (nI (f2_1155)), .int (nI (t2_1156)), .int v2_1157, .int w2_1158, .ref ywa, .ref ybi, .ref ysi, .ref ynu, .ref ymo])), (yta, .inl (cI, 120, .inl tp))] H := hP
                  have hD : va_D A [(ys, .inl (cI, 449, .inl ms)), (ywa, .inl (cI, 6, .inl a8)), (h0, .inr (9, [.ref ys, .ref yk, .ref yo, .ref yt, .int mk0, .ref yfa, .ref yfe, .int mL, .int mS, .int mM, .ref yro, .ref yhe, .ref ygr, .int mF, .int mC, .int mY, .ref yta, .int (nI (mz)), .int (nI (f2_1155)), .int (nI (t2_1156)), .int v2_1157, .int w2_1158, .ref ywa, .ref ybi, .ref ysi, .ref ynu, .ref ymo])), (yta, .inl (cI, 120, .inl tp))] := hD
                  refine lv_aload_n hx hb dX9_walkItem_133 rfl (lv_at hl 1 rfl) ?_
                  refine xg hF kf_X9_275 hK hP 2 rfl rfl dX9_walkItem_134 ?_
                  refine lv_istore_n (lv' := [(2, .int v2_1157), (1, .int (nI (n8))), (0, .ref h0)]) hx hb dX9_walkItem_137 rfl hl (by decide) rfl (fun ls hl => ?_)
                  refine lv_iconst (v := 0) hx hb dX9_walkItem_138 (by decide) ?_
                  refine lv_istore_n (lv' := [(3, .int 0), (2, .int v2_1157), (1, .int (nI (n8))), (0, .ref h0)]) hx hb dX9_walkItem_139 rfl hl (by decide) rfl (fun ls hl => ?_)
                  refine lv_aload_n hx hb dX9_walkItem_140 rfl (lv_at hl 3 rfl) ?_
                  refine lv_bipush (v := 115) hx hb dX9_walkItem_141 (by decide) ?_
                  refine lv_bipush (v := 108) hx hb dX9_walkItem_143 (by decide) ?_
                  refine lv_bipush (v := 97) hx hb dX9_walkItem_145 (by decide) ?_
                  refine lv_bipush (v := 99) hx hb dX9_walkItem_147 (by decide) ?_
                  refine lv_bipush (v := 107) hx hb dX9_walkItem_149 (by decide) ?_
                  refine lv_iconst (v := 0) hx hb dX9_walkItem_151 (by decide) ?_
                  refine lv_iconst (v := 0) hx hb dX9_walkItem_152 (by decide) ?_
                  refine xc_Vr hF (c_X9_isWord l D cI cJ cZ cS ta sa sv H.size h0 ys yk yo yt mk0 yfa yfe mL mS mM yro yhe ygr mF mC mY yta mz f2_1155 t2_1156 v2_1157 w2_1158 ywa ybi ysi ynu ymo tp 115 108 97 99 107 0 0 (by omega) (by omega)) kv_X9_290 ⟨rfl, rfl, Nat.le_of_ble_eq_true rfl, Nat.le_of_ble_eq_true rfl⟩ ⟨Nat.le_of_ble_eq_true rfl, Nat.le_of_ble_eq_true rfl⟩ hK hN hZ hP hD hS hA [2, 3] rfl rfl 0 rfl rfl rfl rfl hl.1 rfl (Nat.le_of_ble_eq_true rfl) dX9_walkItem_153 (fun r_1165 hw_r_1165 => ?_)
                  rcases hw_r_1165 with rfl | rfl
                  · skip
                    refine lv_if_eq (tgt := 176) hx hb dX9_walkItem_156 (by decide) (fun c_1166 => absurd c_1166 (by decide)) (fun c_1166 => ?_)
                    refine lv_aload_n hx hb dX9_walkItem_159 rfl (lv_at hl 3 rfl) ?_
                    refine lv_iconst (v := 1) hx hb dX9_walkItem_160 (by decide) ?_
                    refine xc_Vv (wr := [(ys, .inl (cI, 449, .inl ms)), (ywa, .inl (cI, 6, .inl a8))]) hF (c_X9_needs l D cI cJ cZ cS ta sa sv H.size h0 ys yk yo yt mk0 yfa yfe mL mS mM yro yhe ygr mF mC mY yta mz f2_1155 t2_1156 v2_1157 w2_1158 ywa ybi ysi ynu ymo tp 1 (by omega) (by omega) (by omega) (by omega) (by omega)) kv_X9_278 ⟨rfl, rfl, Nat.le_of_ble_eq_true rfl, Nat.le_of_ble_eq_true rfl⟩ ⟨Nat.le_of_ble_eq_true rfl, Nat.le_of_ble_eq_true rfl⟩ hK hN hZ hP hD hS hA [2, 3] [0, 1] rfl rfl rfl rfl (by decide) 0 rfl rfl rfl rfl hl.1 rfl (Nat.le_of_ble_eq_true rfl) dX9_walkItem_161 (fun u_r_1167 H locs hw_r_1167 hP hD hS => ?_)
                    obtain ⟨f2_1168, t2_1169, w2_1170⟩ := u_r_1167
                    try dsimp only at hw_r_1167
                    obtain ⟨i_1171, i_1172, i_1173, i_1174, i_1175, i_1176⟩ := hw_r_1167
                    have hP : va_P D vwCl [(ys, .inl (cI, 449, .inl ms)), (ywa, .inl (cI, 6, .inl a8)), (h0, .inr (9, [.ref ys, .ref yk, .ref yo, .ref yt, .int mk0, .ref yfa, .ref yfe, .int mL, .int mS, .int mM, .ref yro, .ref yhe, .ref ygr, .int mF, .int mC, .int mY, .ref yta, .int (nI (mz)), .int (nI (f2_1168)), .int (nI (t2_1169)), .int v2_1157, .int w2_1170, .ref ywa, .ref ybi, .ref ysi, .ref ynu, .ref ymo])), (yta, .inl (cI, 120, .inl tp))] H := hP
                    have hD : va_D A [(ys, .inl (cI, 449, .inl ms)), (ywa, .inl (cI, 6, .inl a8)), (h0, .inr (9, [.ref ys, .ref yk, .ref yo, .ref yt, .int mk0, .ref yfa, .ref yfe, .int mL, .int mS, .int mM, .ref yro, .ref yhe, .ref ygr, .int mF, .int mC, .int mY, .ref yta, .int (nI (mz)), .int (nI (f2_1168)), .int (nI (t2_1169)), .int v2_1157, .int w2_1170, .ref ywa, .ref ybi, .ref ysi, .ref ynu, .ref ymo])), (yta, .inl (cI, 120, .inl tp))] := hD
                    refine lv_aload_n hx hb dX9_walkItem_164 rfl (lv_at hl 3 rfl) ?_
                    refine lv_iconst (v := 0) hx hb dX9_walkItem_165 (by decide) ?_
                    refine lv_bipush (v := 99) hx hb dX9_walkItem_166 (by decide) ?_
                    refine xc_Vv (wr := [(ys, .inl (cI, 449, .inl ms)), (ywa, .inl (cI, 6, .inl a8))]) hF (c_X9_number l D cI cJ cZ cS ta sa sv H.size h0 ys yk yo yt mk0 yfa yfe mL mS mM yro yhe ygr mF mC mY yta mz f2_1168 t2_1169 v2_1157 w2_1170 ywa ybi ysi ynu ymo tp 0 99 (by omega) (by omega) (by omega) (by omega) (by omega)) kv_X9_282 ⟨rfl, rfl, Nat.le_of_ble_eq_true rfl, Nat.le_of_ble_eq_true rfl⟩ ⟨Nat.le_of_ble_eq_true rfl, Nat.le_of_ble_eq_true rfl⟩ hK hN hZ hP hD hS hA [2, 3] [0, 1] rfl rfl rfl rfl (by decide) 0 rfl rfl rfl rfl hl.1 rfl (Nat.le_of_ble_eq_true rfl) dX9_walkItem_168 (fun u_r_1177 H locs hw_r_1177 hP hD hS => ?_)
                    obtain ⟨f2_1178, t2_1179, v2_1180, w2_1181⟩ := u_r_1177
                    try dsimp only at hw_r_1177
                    obtain ⟨i_1182, i_1183, i_1184, i_1185, i_1186, i_1187⟩ := hw_r_1177
                    have hP : va_P D vwCl [(ys, .inl (cI, 449, .inl ms)), (ywa, .inl (cI, 6, .inl a8)), (h0, .inr (9, [.ref ys, .ref yk, .ref yo, .ref yt, .int mk0, .ref yfa, .ref yfe, .int mL, .int mS, .int mM, .ref yro, .ref yhe, .ref ygr, .int mF, .int mC, .int mY, .ref yta, .int (nI (mz)), .int (nI (f2_1178)), .int (nI (t2_1179)), .int v2_1180, .int w2_1181, .ref ywa, .ref ybi, .ref ysi, .ref ynu, .ref ymo])), (yta, .inl (cI, 120, .inl tp))] H := hP
                    have hD : va_D A [(ys, .inl (cI, 449, .inl ms)), (ywa, .inl (cI, 6, .inl a8)), (h0, .inr (9, [.ref ys, .ref yk, .ref yo, .ref yt, .int mk0, .ref yfa, .ref yfe, .int mL, .int mS, .int mM, .ref yro, .ref yhe, .ref ygr, .int mF, .int mC, .int mY, .ref yta, .int (nI (mz)), .int (nI (f2_1178)), .int (nI (t2_1179)), .int v2_1180, .int w2_1181, .ref ywa, .ref ybi, .ref ysi, .ref ynu, .ref ymo])), (yta, .inl (cI, 120, .inl tp))] := hD
                    refine lv_aload_n hx hb dX9_walkItem_171 rfl (lv_at hl 3 rfl) ?_
                    refine xg hF kf_X9_275 hK hP 2 rfl rfl dX9_walkItem_172 ?_
                    refine lv_istore_n (lv' := [(3, .int v2_1180), (2, .int v2_1157), (1, .int (nI (n8))), (0, .ref h0)]) hx hb dX9_walkItem_175 rfl hl (by decide) rfl (fun ls hl => ?_)
                    refine lv_aload_n hx hb dX9_walkItem_176 rfl (lv_at hl 3 rfl) ?_
                    refine xg hF kf_X9_266 hK hP 2 rfl rfl dX9_walkItem_177 ?_
                    refine lv_if_ne (tgt := 252) hx hb dX9_walkItem_180 (by decide) (fun c_1188 => ?_) (fun c_1188 => ?_)
                    · skip
                      exact W.vret hx hb hr (fun t ht hW => ⟨⟨(f2_1178, t2_1179, v2_1180, w2_1181, ms, a8, Wn), rfl, ⟨(by first | assumption | omega), (by first | assumption | omega), (by first | assumption | omega), (by first | assumption | omega), (by first | assumption | omega), (fun h => ⟨(i_578 (hc8 (i_1153 (i_1164 (i_1176 (i_1187 h).1).1).1).1).1).1, trivial⟩), hs0, hs1, hs2, hsS, hsM, hsp, hsr, hsw, hsR⟩, by rw [ht]; exact hP.sub [2, 0, 3, 1] rfl, hD.sub [2, 0, 3, 1] (by decide) rfl⟩, hS.F ht⟩) hS.2.2 dX9_walkItem_252 hlk
                    · skip
                      refine lv_sipush (v := 377) hx hb dX9_walkItem_183 (by decide) ?_
                      refine lv_bipush (v := 9) hx hb dX9_walkItem_186 (by decide) ?_
                      refine lv_aload_n hx hb dX9_walkItem_188 rfl (lv_at hl 3 rfl) ?_
                      refine lv_aload_n hx hb dX9_walkItem_189 rfl (lv_at hl 3 rfl) ?_
                      refine xg hF kf_X9_40 hK hP 2 rfl rfl dX9_walkItem_190 ?_
                      refine lv_iconst (v := 0) hx hb dX9_walkItem_193 (by decide) ?_
                      refine va_iald hx hb hK hP 1 0 rfl rfl (xin 0 6 (by decide) (by decide)) dX9_walkItem_194 ?_
                      refine xl_i (y := a8 0) (congrArg a8 rfl) ?_
                      obtain ⟨z_1189, ez_1189, hz_11890⟩ := wk_A.get hA8 (i_1153 (i_1164 (i_1176 (i_1187 c_1188).1).1).1).1 (show 0 < n8 by omega)
                      refine xl_i (y := nI (z_1189)) ez_1189 ?_
                      refine lv_aload_n hx hb dX9_walkItem_195 rfl (lv_at hl 3 rfl) ?_
                      refine xg hF kf_X9_40 hK hP 2 rfl rfl dX9_walkItem_196 ?_
                      refine lv_iconst (v := 1) hx hb dX9_walkItem_199 (by decide) ?_
                      refine va_iald hx hb hK hP 1 0 rfl rfl (xin 1 6 (by decide) (by decide)) dX9_walkItem_200 ?_
                      refine xl_i (y := a8 1) (congrArg a8 rfl) ?_
                      obtain ⟨z_1190, ez_1190, hz_11900⟩ := wk_A.get hA8 (i_1153 (i_1164 (i_1176 (i_1187 c_1188).1).1).1).1 (show 1 < n8 by omega)
                      refine xl_i (y := nI (z_1190)) ez_1190 ?_
                      refine lv_iload_n hx hb dX9_walkItem_201 rfl (lv_at hl 1 rfl) ?_
                      refine lv_iload_n hx hb dX9_walkItem_202 rfl (lv_at hl 0 rfl) ?_
                      refine xc_Vi (wr := [(ywa, .inl (cI, 6, .inl a8)), (yta, .inl (cI, 120, .inl tp))]) hF (c_X9_newWalk l D cI cJ cZ cS ta sa sv H.size h0 ys yk yo yt mk0 yfa yfe mL mS mM yro yhe ygr mF mC mY yta mz f2_1178 t2_1179 v2_1180 w2_1181 ywa ybi ysi ynu ymo ms P Rn Wn z_1189 z_1190 v2_1157 v2_1180 (by omega) (by omega) (by omega) hs0 hs1 hs2 hsS hsM hsp hsr hsw hsR) kv_X9_196 ⟨rfl, rfl, Nat.le_of_ble_eq_true rfl, Nat.le_of_ble_eq_true rfl⟩ ⟨Nat.le_of_ble_eq_true rfl, Nat.le_of_ble_eq_true rfl⟩ hK hN hZ hP hD hS hA [2, 0] [1, 3] rfl rfl rfl rfl (by decide) 0 rfl rfl rfl rfl hl.1 rfl (Nat.le_of_ble_eq_true rfl) dX9_walkItem_203 (fun r_1191 u_r_1191 H locs hw_r_1191 hP hD hS => ?_)
                      obtain ⟨ms2_1192, rfl⟩ : ∃ z, z = u_r_1191 := ⟨_, rfl⟩
                      try dsimp only at hw_r_1191
                      obtain ⟨hw_r_1191, i_1193, i_1194, i_1195, i_1196, i_1197, i_1198, i_1199, i_1200, i_1201⟩ := hw_r_1191
                      have hP : va_P D vwCl [(ywa, .inl (cI, 6, .inl a8)), (yta, .inl (cI, 120, .inl tp)), (h0, .inr (9, [.ref ys, .ref yk, .ref yo, .ref yt, .int mk0, .ref yfa, .ref yfe, .int mL, .int mS, .int mM, .ref yro, .ref yhe, .ref ygr, .int mF, .int mC, .int mY, .ref yta, .int (nI (mz)), .int (nI (f2_1178)), .int (nI (t2_1179)), .int v2_1180, .int w2_1181, .ref ywa, .ref ybi, .ref ysi, .ref ynu, .ref ymo])), (ys, .inl (cI, 449, .inl ms2_1192))] H := hP
                      have hD : va_D A [(ywa, .inl (cI, 6, .inl a8)), (yta, .inl (cI, 120, .inl tp)), (h0, .inr (9, [.ref ys, .ref yk, .ref yo, .ref yt, .int mk0, .ref yfa, .ref yfe, .int mL, .int mS, .int mM, .ref yro, .ref yhe, .ref ygr, .int mF, .int mC, .int mY, .ref yta, .int (nI (mz)), .int (nI (f2_1178)), .int (nI (t2_1179)), .int v2_1180, .int w2_1181, .ref ywa, .ref ybi, .ref ysi, .ref ynu, .ref ymo])), (ys, .inl (cI, 449, .inl ms2_1192))] := hD
                      subst hw_r_1191
                      refine lv_imul hx hb dX9_walkItem_206 ?_
                      refine xl_i (y := nI (9 * Wn)) (pk_mul 9 Wn) ?_
                      refine lv_iadd hx hb dX9_walkItem_207 ?_
                      refine xl_i (y := nI (377 + (9 * Wn))) (nI_add 377 (9 * Wn)) ?_
                      refine lv_istore (lv' := [(4, .int (nI (377 + (9 * Wn)))), (3, .int v2_1180), (2, .int v2_1157), (1, .int (nI (n8))), (0, .ref h0)]) hx hb dX9_walkItem_208 hl (by decide) rfl (fun ls hl => ?_)
                      refine lv_aload_n hx hb dX9_walkItem_210 rfl (lv_at hl 4 rfl) ?_
                      refine xg hF kf_X9_7 hK hP 2 rfl rfl dX9_walkItem_211 ?_
                      refine lv_iload hx hb dX9_walkItem_214 (lv_at hl 0 rfl) ?_
                      refine lv_iload_n hx hb dX9_walkItem_216 rfl (lv_at hl 3 rfl) ?_
                      refine va_iast hx hb hK hP hD hS 3 0 rfl rfl (vp_in_nI (show 377 + (9 * Wn) < 449 by omega) (by decide)) dX9_walkItem_217 (fun H locs hP hD hS => ?_)
                      rw [nI_clamp (show 377 + (9 * Wn) < 2 ^ 31 by omega)] at hP hD
                      obtain ⟨f_1202, ef_1202⟩ : ∃ g, g = upd ms2_1192 (377 + (9 * Wn)) (nI (n8)) := ⟨_, rfl⟩
                      rw [← ef_1202] at hP hD
                      have k0_f_1202 : f_1202 0 = nI P := by rw [ef_1202]; exact (pk_un (show 0 ≠ (377 + (9 * Wn)) by omega)).trans i_1193
                      have k1_f_1202 : f_1202 1 = nI Rn := by rw [ef_1202]; exact (pk_un (show 1 ≠ (377 + (9 * Wn)) by omega)).trans i_1194
                      have k2_f_1202 : f_1202 2 = nI (Wn + 1) := by rw [ef_1202]; exact (pk_un (show 2 ≠ (377 + (9 * Wn)) by omega)).trans i_1195
                      have kS_f_1202 : SI f_1202 := by rw [ef_1202]; exact SI.upd i_1196 (okS.wl (w := Wn) (q := n8) (by omega) (by omega) (by omega))
                      have kM_f_1202 : MI f_1202 := by rw [ef_1202]; exact MI.upd i_1197 (okM.out (show (377 + (9 * Wn)) < 13 ∨ 113 ≤ (377 + (9 * Wn)) by omega))
                      have kR_f_1202 : RI Rn f_1202 := by rw [ef_1202]; exact RI.upd i_1201 (fun r9 hr9 e9 => by omega)
                      have hP : va_P D vwCl [(ywa, .inl (cI, 6, .inl a8)), (yta, .inl (cI, 120, .inl tp)), (h0, .inr (9, [.ref ys, .ref yk, .ref yo, .ref yt, .int mk0, .ref yfa, .ref yfe, .int mL, .int mS, .int mM, .ref yro, .ref yhe, .ref ygr, .int mF, .int mC, .int mY, .ref yta, .int (nI (mz)), .int (nI (f2_1178)), .int (nI (t2_1179)), .int v2_1180, .int w2_1181, .ref ywa, .ref ybi, .ref ysi, .ref ynu, .ref ymo])), (ys, .inl (cI, 449, .inl f_1202))] H := hP
                      have hD : va_D A [(ywa, .inl (cI, 6, .inl a8)), (yta, .inl (cI, 120, .inl tp)), (h0, .inr (9, [.ref ys, .ref yk, .ref yo, .ref yt, .int mk0, .ref yfa, .ref yfe, .int mL, .int mS, .int mM, .ref yro, .ref yhe, .ref ygr, .int mF, .int mC, .int mY, .ref yta, .int (nI (mz)), .int (nI (f2_1178)), .int (nI (t2_1179)), .int v2_1180, .int w2_1181, .ref ywa, .ref ybi, .ref ysi, .ref ynu, .ref ymo])), (ys, .inl (cI, 449, .inl f_1202))] := hD
                      refine lv_iconst (v := 2) hx hb dX9_walkItem_218 (by decide) ?_
                      refine lv_istore (lv' := [(5, .int 2), (4, .int (nI (377 + (9 * Wn)))), (3, .int v2_1180), (2, .int v2_1157), (1, .int (nI (n8))), (0, .ref h0)]) hx hb dX9_walkItem_219 hl (by decide) rfl (fun ls hl => ?_)
                      suffices loop_221 : ∀ (n_221 : Nat) (i : Nat) (s8 : Nat → Int32) (H : Heap) (locs : List Loc) (ls : Array Slot), n8 - i < n_221 → (2 ≤ i) → (i ≤ n8) → (s8 0 = nI P) → (s8 1 = nI Rn) → (s8 2 = nI (Wn + 1)) → (SI s8) → (MI s8) → (P ≤ 10) → (Rn ≤ 8) → (Wn + 1 ≤ 8) → (RI Rn s8) → va_P D vwCl [(ywa, .inl (cI, 6, .inl a8)), (yta, .inl (cI, 120, .inl tp)), (h0, .inr (9, [.ref ys, .ref yk, .ref yo, .ref yt, .int mk0, .ref yfa, .ref yfe, .int mL, .int mS, .int mM, .ref yro, .ref yhe, .ref ygr, .int mF, .int mC, .int mY, .ref yta, .int (nI (mz)), .int (nI (f2_1178)), .int (nI (t2_1179)), .int v2_1180, .int w2_1181, .ref ywa, .ref ybi, .ref ysi, .ref ynu, .ref ymo])), (ys, .inl (cI, 449, .inl s8))] H → va_D A [(ywa, .inl (cI, 6, .inl a8)), (yta, .inl (cI, 120, .inl tp)), (h0, .inr (9, [.ref ys, .ref yk, .ref yo, .ref yt, .int mk0, .ref yfa, .ref yfe, .int mL, .int mS, .int mM, .ref yro, .ref yhe, .ref ygr, .int mF, .int mC, .int mY, .ref yta, .int (nI (mz)), .int (nI (f2_1178)), .int (nI (t2_1179)), .int v2_1180, .int w2_1181, .ref ywa, .ref ybi, .ref ysi, .ref ynu, .ref ymo])), (ys, .inl (cI, 449, .inl s8))] → va_S A s.heap H locs → lv_has ls 6 [(5, .int (nI (i))), (4, .int (nI (377 + (9 * Wn)))), (3, .int v2_1180), (2, .int v2_1157), (1, .int (nI (n8))), (0, .ref h0)] → W p l e ({ frames := 6, cells := 0, slots := 0, locals := 136 }) s m ([.ref h0] : List Value).toArray below meth c H locs 0 0 (MQ below (XQv (fun (u : Nat × Nat × Int32 × Int32 × (Nat → Int32) × (Nat → Int32) × Nat) => match u with | (f2, t2, v2, w2, ms2, wa2, W2) => (f2 ≤ mz) ∧ (t2 ≤ mz) ∧ (f2 ≤ t2) ∧ (f2 < t2 ∨ f2 = mz) ∧ (mf ≤ f2) ∧ (w2 = 0 → mw = 0 ∧ True) ∧ (ms2 0 = nI P) ∧ (ms2 1 = nI Rn) ∧ (ms2 2 = nI W2) ∧ (SI ms2) ∧ (MI ms2) ∧ (P ≤ 10) ∧ (Rn ≤ 8) ∧ (W2 ≤ 8) ∧ (RI Rn ms2)) D (fun (u : Nat × Nat × Int32 × Int32 × (Nat → Int32) × (Nat → Int32) × Nat) => match u with | (f2, t2, v2, w2, ms2, wa2, W2) => [(h0, .inr (9, [.ref ys, .ref yk, .ref yo, .ref yt, .int mk0, .ref yfa, .ref yfe, .int mL, .int mS, .int mM, .ref yro, .ref yhe, .ref ygr, .int mF, .int mC, .int mY, .ref yta, .int (nI (mz)), .int (nI (f2)), .int (nI (t2)), .int v2, .int w2, .ref ywa, .ref ybi, .ref ysi, .ref ynu, .ref ymo])), (ys, .inl (cI, 449, .inl ms2)), (yta, .inl (cI, 120, .inl tp)), (ywa, .inl (cI, 6, .inl wa2))]) A) ([.ref h0] : List Value).toArray s 0 0 A) (F0 m 221 ls []) by
                        exact loop_221 _ 2 f_1202 _ _ _ (Nat.lt_succ_self _) (by omega) (by omega) k0_f_1202 k1_f_1202 k2_f_1202 kS_f_1202 kM_f_1202 i_1198 i_1199 i_1200 kR_f_1202 hP hD hS (lv_sub hl [0, 1, 2, 3, 4, 5] rfl)
                      intro n_221
                      induction n_221 with
                      | zero =>
                        intro i s8 H locs ls hm_221
                        exact absurd hm_221 (Nat.not_lt_zero _)
                      | succ n_221 ih_221 =>
                        intro i s8 H locs ls hm_221 hi2 hi ht0 ht1 ht2 htS htM htp htr htw htR hP hD hS hl
                        refine lv_iload hx hb dX9_walkItem_221 (lv_at hl 0 rfl) ?_
                        refine lv_iload_n hx hb dX9_walkItem_223 rfl (lv_at hl 4 rfl) ?_
                        refine lv_icmp_ge (tgt := 252) hx hb dX9_walkItem_224 (by decide) (fun c_1203 => ?_) (fun c_1203 => ?_)
                        · skip
                          have nc_1203 : n8 ≤ i := xn_le (a := n8) (b := i) (by omega) (by omega) c_1203
                          exact W.vret hx hb hr (fun t ht hW => ⟨⟨(f2_1178, t2_1179, v2_1180, w2_1181, s8, a8, Wn + 1), rfl, ⟨(by first | assumption | omega), (by first | assumption | omega), (by first | assumption | omega), (by first | assumption | omega), (by first | assumption | omega), (fun h => ⟨(i_578 (hc8 (i_1153 (i_1164 (i_1176 (i_1187 h).1).1).1).1).1).1, trivial⟩), ht0, ht1, ht2, htS, htM, htp, htr, htw, htR⟩, by rw [ht]; exact hP.sub [2, 3, 1, 0] rfl, hD.sub [2, 3, 1, 0] (by decide) rfl⟩, hS.F ht⟩) hS.2.2 dX9_walkItem_252 hlk
                        · skip
                          have nc_1203 : i < n8 := xn_nle (a := n8) (b := i) (by omega) (by omega) c_1203
                          refine lv_aload_n hx hb dX9_walkItem_227 rfl (lv_at hl 5 rfl) ?_
                          refine xg hF kf_X9_7 hK hP 2 rfl rfl dX9_walkItem_228 ?_
                          refine lv_iload hx hb dX9_walkItem_231 (lv_at hl 1 rfl) ?_
                          refine lv_iconst (v := 3) hx hb dX9_walkItem_233 (by decide) ?_
                          refine lv_iadd hx hb dX9_walkItem_234 ?_
                          refine xl_i (y := nI (377 + (9 * Wn) + 3)) (nI_add (377 + (9 * Wn)) 3) ?_
                          refine lv_iload hx hb dX9_walkItem_235 (lv_at hl 0 rfl) ?_
                          refine lv_iadd hx hb dX9_walkItem_237 ?_
                          refine xl_i (y := nI (377 + (9 * Wn) + 3 + i)) (nI_add (377 + (9 * Wn) + 3) i) ?_
                          refine lv_aload_n hx hb dX9_walkItem_238 rfl (lv_at hl 5 rfl) ?_
                          refine xg hF kf_X9_40 hK hP 2 rfl rfl dX9_walkItem_239 ?_
                          refine lv_iload hx hb dX9_walkItem_242 (lv_at hl 0 rfl) ?_
                          refine va_iald hx hb hK hP 0 0 rfl rfl (vp_in_nI (show i < 6 by omega) (by decide)) dX9_walkItem_244 ?_
                          refine xl_i (y := a8 i) (congrArg a8 (nI_clamp (show i < 2 ^ 31 by omega))) ?_
                          obtain ⟨z_1204, ez_1204, hz_12040⟩ := wk_A.get hA8 (i_1153 (i_1164 (i_1176 (i_1187 c_1188).1).1).1).1 (show i < n8 by omega)
                          refine xl_i (y := nI (z_1204)) ez_1204 ?_
                          refine va_iast hx hb hK hP hD hS 3 0 rfl rfl (vp_in_nI (show 377 + (9 * Wn) + 3 + i < 449 by omega) (by decide)) dX9_walkItem_245 (fun H locs hP hD hS => ?_)
                          rw [nI_clamp (show 377 + (9 * Wn) + 3 + i < 2 ^ 31 by omega)] at hP hD
                          obtain ⟨f_1205, ef_1205⟩ : ∃ g, g = upd s8 (377 + (9 * Wn) + 3 + i) (nI (z_1204)) := ⟨_, rfl⟩
                          rw [← ef_1205] at hP hD
                          have k0_f_1205 : f_1205 0 = nI P := by rw [ef_1205]; exact (pk_un (show 0 ≠ (377 + (9 * Wn) + 3 + i) by omega)).trans ht0
                          have k1_f_1205 : f_1205 1 = nI Rn := by rw [ef_1205]; exact (pk_un (show 1 ≠ (377 + (9 * Wn) + 3 + i) by omega)).trans ht1
                          have k2_f_1205 : f_1205 2 = nI (Wn + 1) := by rw [ef_1205]; exact (pk_un (show 2 ≠ (377 + (9 * Wn) + 3 + i) by omega)).trans ht2
                          have kS_f_1205 : SI f_1205 := by rw [ef_1205]; exact SI.upd htS (okS.ws (w := Wn) (i := i) (by omega) (by omega) (by omega) (show z_1204 < 10 by omega))
                          have kM_f_1205 : MI f_1205 := by rw [ef_1205]; exact MI.upd htM (okM.out (show (377 + (9 * Wn) + 3 + i) < 13 ∨ 113 ≤ (377 + (9 * Wn) + 3 + i) by omega))
                          have kR_f_1205 : RI Rn f_1205 := by rw [ef_1205]; exact RI.upd htR (fun r9 hr9 e9 => by omega)
                          have hP : va_P D vwCl [(ywa, .inl (cI, 6, .inl a8)), (yta, .inl (cI, 120, .inl tp)), (h0, .inr (9, [.ref ys, .ref yk, .ref yo, .ref yt, .int mk0, .ref yfa, .ref yfe, .int mL, .int mS, .int mM, .ref yro, .ref yhe, .ref ygr, .int mF, .int mC, .int mY, .ref yta, .int (nI (mz)), .int (nI (f2_1178)), .int (nI (t2_1179)), .int v2_1180, .int w2_1181, .ref ywa, .ref ybi, .ref ysi, .ref ynu, .ref ymo])), (ys, .inl (cI, 449, .inl f_1205))] H := hP
                          have hD : va_D A [(ywa, .inl (cI, 6, .inl a8)), (yta, .inl (cI, 120, .inl tp)), (h0, .inr (9, [.ref ys, .ref yk, .ref yo, .ref yt, .int mk0, .ref yfa, .ref yfe, .int mL, .int mS, .int mM, .ref yro, .ref yhe, .ref ygr, .int mF, .int mC, .int mY, .ref yta, .int (nI (mz)), .int (nI (f2_1178)), .int (nI (t2_1179)), .int v2_1180, .int w2_1181, .ref ywa, .ref ybi, .ref ysi, .ref ynu, .ref ymo])), (ys, .inl (cI, 449, .inl f_1205))] := hD
                          refine lv_iinc (v := nI (i + 1)) (lv' := [(5, .int (nI (i + 1))), (4, .int (nI (377 + (9 * Wn)))), (3, .int v2_1180), (2, .int v2_1157), (1, .int (nI (n8))), (0, .ref h0)]) hx hb dX9_walkItem_246 hl (k := 0) rfl (nI_1 (i)) (by decide) rfl (fun ls hl => ?_)
                          refine lv_goto (tgt := 221) hx hb dX9_walkItem_249 (by decide) ?_
                          exact ih_221 (i + 1) f_1205 _ _ _ (by omega) (by omega) (by omega) k0_f_1205 k1_f_1205 k2_f_1205 kS_f_1205 kM_f_1205 htp htr htw kR_f_1205 (hP.sub [0, 1, 2, 3] rfl) (hD.sub [0, 1, 2, 3] (by decide) rfl) hS (lv_sub hl [0, 1, 2, 3, 4, 5] rfl)
                  · skip
                    refine lv_if_eq (tgt := 176) hx hb dX9_walkItem_156 (by decide) (fun c_1206 => ?_) (fun c_1206 => absurd (by decide) c_1206)
                    refine lv_aload_n hx hb dX9_walkItem_176 rfl (lv_at hl 3 rfl) ?_
                    refine xg hF kf_X9_266 hK hP 2 rfl rfl dX9_walkItem_177 ?_
                    refine lv_if_ne (tgt := 252) hx hb dX9_walkItem_180 (by decide) (fun c_1207 => ?_) (fun c_1207 => ?_)
                    · skip
                      exact W.vret hx hb hr (fun t ht hW => ⟨⟨(f2_1155, t2_1156, v2_1157, w2_1158, ms, a8, Wn), rfl, ⟨(by first | assumption | omega), (by first | assumption | omega), (by first | assumption | omega), (by first | assumption | omega), (by first | assumption | omega), (fun h => ⟨(i_578 (hc8 (i_1153 (i_1164 h).1).1).1).1, trivial⟩), hs0, hs1, hs2, hsS, hsM, hsp, hsr, hsw, hsR⟩, by rw [ht]; exact hP.sub [2, 0, 3, 1] rfl, hD.sub [2, 0, 3, 1] (by decide) rfl⟩, hS.F ht⟩) hS.2.2 dX9_walkItem_252 hlk
                    · skip
                      refine lv_sipush (v := 377) hx hb dX9_walkItem_183 (by decide) ?_
                      refine lv_bipush (v := 9) hx hb dX9_walkItem_186 (by decide) ?_
                      refine lv_aload_n hx hb dX9_walkItem_188 rfl (lv_at hl 3 rfl) ?_
                      refine lv_aload_n hx hb dX9_walkItem_189 rfl (lv_at hl 3 rfl) ?_
                      refine xg hF kf_X9_40 hK hP 2 rfl rfl dX9_walkItem_190 ?_
                      refine lv_iconst (v := 0) hx hb dX9_walkItem_193 (by decide) ?_
                      refine va_iald hx hb hK hP 1 0 rfl rfl (xin 0 6 (by decide) (by decide)) dX9_walkItem_194 ?_
                      refine xl_i (y := a8 0) (congrArg a8 rfl) ?_
                      obtain ⟨z_1208, ez_1208, hz_12080⟩ := wk_A.get hA8 (i_1153 (i_1164 c_1207).1).1 (show 0 < n8 by omega)
                      refine xl_i (y := nI (z_1208)) ez_1208 ?_
                      refine lv_aload_n hx hb dX9_walkItem_195 rfl (lv_at hl 3 rfl) ?_
                      refine xg hF kf_X9_40 hK hP 2 rfl rfl dX9_walkItem_196 ?_
                      refine lv_iconst (v := 1) hx hb dX9_walkItem_199 (by decide) ?_
                      refine va_iald hx hb hK hP 1 0 rfl rfl (xin 1 6 (by decide) (by decide)) dX9_walkItem_200 ?_
                      refine xl_i (y := a8 1) (congrArg a8 rfl) ?_
                      obtain ⟨z_1209, ez_1209, hz_12090⟩ := wk_A.get hA8 (i_1153 (i_1164 c_1207).1).1 (show 1 < n8 by omega)
                      refine xl_i (y := nI (z_1209)) ez_1209 ?_
                      refine lv_iload_n hx hb dX9_walkItem_201 rfl (lv_at hl 1 rfl) ?_
                      refine lv_iload_n hx hb dX9_walkItem_202 rfl (lv_at hl 0 rfl) ?_
                      refine xc_Vi (wr := [(ywa, .inl (cI, 6, .inl a8)), (yta, .inl (cI, 120, .inl tp))]) hF (c_X9_newWalk l D cI cJ cZ cS ta sa sv H.size h0 ys yk yo yt mk0 yfa yfe mL mS mM yro yhe ygr mF mC mY yta mz f2_1155 t2_1156 v2_1157 w2_1158 ywa ybi ysi ynu ymo ms P Rn Wn z_1208 z_1209 v2_1157 0 (by omega) (by omega) (by omega) hs0 hs1 hs2 hsS hsM hsp hsr hsw hsR) kv_X9_196 ⟨rfl, rfl, Nat.le_of_ble_eq_true rfl, Nat.le_of_ble_eq_true rfl⟩ ⟨Nat.le_of_ble_eq_true rfl, Nat.le_of_ble_eq_true rfl⟩ hK hN hZ hP hD hS hA [2, 0] [1, 3] rfl rfl rfl rfl (by decide) 0 rfl rfl rfl rfl hl.1 rfl (Nat.le_of_ble_eq_true rfl) dX9_walkItem_203 (fun r_1210 u_r_1210 H locs hw_r_1210 hP hD hS => ?_)
                      obtain ⟨ms2_1211, rfl⟩ : ∃ z, z = u_r_1210 := ⟨_, rfl⟩
                      try dsimp only at hw_r_1210
                      obtain ⟨hw_r_1210, i_1212, i_1213, i_1214, i_1215, i_1216, i_1217, i_1218, i_1219, i_1220⟩ := hw_r_1210
                      have hP : va_P D vwCl [(ywa, .inl (cI, 6, .inl a8)), (yta, .inl (cI, 120, .inl tp)), (h0, .inr (9, [.ref ys, .ref yk, .ref yo, .ref yt, .int mk0, .ref yfa, .ref yfe, .int mL, .int mS, .int mM, .ref yro, .ref yhe, .ref ygr, .int mF, .int mC, .int mY, .ref yta, .int (nI (mz)), .int (nI (f2_1155)), .int (nI (t2_1156)), .int v2_1157, .int w2_1158, .ref ywa, .ref ybi, .ref ysi, .ref ynu, .ref ymo])), (ys, .inl (cI, 449, .inl ms2_1211))] H := hP
                      have hD : va_D A [(ywa, .inl (cI, 6, .inl a8)), (yta, .inl (cI, 120, .inl tp)), (h0, .inr (9, [.ref ys, .ref yk, .ref yo, .ref yt, .int mk0, .ref yfa, .ref yfe, .int mL, .int mS, .int mM, .ref yro, .ref yhe, .ref ygr, .int mF, .int mC, .int mY, .ref yta, .int (nI (mz)), .int (nI (f2_1155)), .int (nI (t2_1156)), .int v2_1157, .int w2_1158, .ref ywa, .ref ybi, .ref ysi, .ref ynu, .ref ymo])), (ys, .inl (cI, 449, .inl ms2_1211))] := hD
                      subst hw_r_1210
                      refine lv_imul hx hb dX9_walkItem_206 ?_
                      refine xl_i (y := nI (9 * Wn)) (pk_mul 9 Wn) ?_
                      refine lv_iadd hx hb dX9_walkItem_207 ?_
                      refine xl_i (y := nI (377 + (9 * Wn))) (nI_add 377 (9 * Wn)) ?_
                      refine lv_istore (lv' := [(4, .int (nI (377 + (9 * Wn)))), (3, .int 0), (2, .int v2_1157), (1, .int (nI (n8))), (0, .ref h0)]) hx hb dX9_walkItem_208 hl (by decide) rfl (fun ls hl => ?_)
                      refine lv_aload_n hx hb dX9_walkItem_210 rfl (lv_at hl 4 rfl) ?_
                      refine xg hF kf_X9_7 hK hP 2 rfl rfl dX9_walkItem_211 ?_
                      refine lv_iload hx hb dX9_walkItem_214 (lv_at hl 0 rfl) ?_
                      refine lv_iload_n hx hb dX9_walkItem_216 rfl (lv_at hl 3 rfl) ?_
                      refine va_iast hx hb hK hP hD hS 3 0 rfl rfl (vp_in_nI (show 377 + (9 * Wn) < 449 by omega) (by decide)) dX9_walkItem_217 (fun H locs hP hD hS => ?_)
                      rw [nI_clamp (show 377 + (9 * Wn) < 2 ^ 31 by omega)] at hP hD
                      obtain ⟨f_1221, ef_1221⟩ : ∃ g, g = upd ms2_1211 (377 + (9 * Wn)) (nI (n8)) := ⟨_, rfl⟩
                      rw [← ef_1221] at hP hD
                      have k0_f_1221 : f_1221 0 = nI P := by rw [ef_1221]; exact (pk_un (show 0 ≠ (377 + (9 * Wn)) by omega)).trans i_1212
                      have k1_f_1221 : f_1221 1 = nI Rn := by rw [ef_1221]; exact (pk_un (show 1 ≠ (377 + (9 * Wn)) by omega)).trans i_1213
                      have k2_f_1221 : f_1221 2 = nI (Wn + 1) := by rw [ef_1221]; exact (pk_un (show 2 ≠ (377 + (9 * Wn)) by omega)).trans i_1214
                      have kS_f_1221 : SI f_1221 := by rw [ef_1221]; exact SI.upd i_1215 (okS.wl (w := Wn) (q := n8) (by omega) (by omega) (by omega))
                      have kM_f_1221 : MI f_1221 := by rw [ef_1221]; exact MI.upd i_1216 (okM.out (show (377 + (9 * Wn)) < 13 ∨ 113 ≤ (377 + (9 * Wn)) by omega))
                      have kR_f_1221 : RI Rn f_1221 := by rw [ef_1221]; exact RI.upd i_1220 (fun r9 hr9 e9 => by omega)
                      have hP : va_P D vwCl [(ywa, .inl (cI, 6, .inl a8)), (yta, .inl (cI, 120, .inl tp)), (h0, .inr (9, [.ref ys, .ref yk, .ref yo, .ref yt, .int mk0, .ref yfa, .ref yfe, .int mL, .int mS, .int mM, .ref yro, .ref yhe, .ref ygr, .int mF, .int mC, .int mY, .ref yta, .int (nI (mz)), .int (nI (f2_1155)), .int (nI (t2_1156)), .int v2_1157, .int w2_1158, .ref ywa, .ref ybi, .ref ysi, .ref ynu, .ref ymo])), (ys, .inl (cI, 449, .inl f_1221))] H := hP
                      have hD : va_D A [(ywa, .inl (cI, 6, .inl a8)), (yta, .inl (cI, 120, .inl tp)), (h0, .inr (9, [.ref ys, .ref yk, .ref yo, .ref yt, .int mk0, .ref yfa, .ref yfe, .int mL, .int mS, .int mM, .ref yro, .ref yhe, .ref ygr, .int mF, .int mC, .int mY, .ref yta, .int (nI (mz)), .int (nI (f2_1155)), .int (nI (t2_1156)), .int v2_1157, .int w2_1158, .ref ywa, .ref ybi, .ref ysi, .ref ynu, .ref ymo])), (ys, .inl (cI, 449, .inl f_1221))] := hD
                      refine lv_iconst (v := 2) hx hb dX9_walkItem_218 (by decide) ?_
                      refine lv_istore (lv' := [(5, .int 2), (4, .int (nI (377 + (9 * Wn)))), (3, .int 0), (2, .int v2_1157), (1, .int (nI (n8))), (0, .ref h0)]) hx hb dX9_walkItem_219 hl (by decide) rfl (fun ls hl => ?_)
                      suffices loop_221 : ∀ (n_221 : Nat) (i : Nat) (s8 : Nat → Int32) (H : Heap) (locs : List Loc) (ls : Array Slot), n8 - i < n_221 → (2 ≤ i) → (i ≤ n8) → (s8 0 = nI P) → (s8 1 = nI Rn) → (s8 2 = nI (Wn + 1)) → (SI s8) → (MI s8) → (P ≤ 10) → (Rn ≤ 8) → (Wn + 1 ≤ 8) → (RI Rn s8) → va_P D vwCl [(ywa, .inl (cI, 6, .inl a8)), (yta, .inl (cI, 120, .inl tp)), (h0, .inr (9, [.ref ys, .ref yk, .ref yo, .ref yt, .int mk0, .ref yfa, .ref yfe, .int mL, .int mS, .int mM, .ref yro, .ref yhe, .ref ygr, .int mF, .int mC, .int mY, .ref yta, .int (nI (mz)), .int (nI (f2_1155)), .int (nI (t2_1156)), .int v2_1157, .int w2_1158, .ref ywa, .ref ybi, .ref ysi, .ref ynu, .ref ymo])), (ys, .inl (cI, 449, .inl s8))] H → va_D A [(ywa, .inl (cI, 6, .inl a8)), (yta, .inl (cI, 120, .inl tp)), (h0, .inr (9, [.ref ys, .ref yk, .ref yo, .ref yt, .int mk0, .ref yfa, .ref yfe, .int mL, .int mS, .int mM, .ref yro, .ref yhe, .ref ygr, .int mF, .int mC, .int mY, .ref yta, .int (nI (mz)), .int (nI (f2_1155)), .int (nI (t2_1156)), .int v2_1157, .int w2_1158, .ref ywa, .ref ybi, .ref ysi, .ref ynu, .ref ymo])), (ys, .inl (cI, 449, .inl s8))] → va_S A s.heap H locs → lv_has ls 6 [(5, .int (nI (i))), (4, .int (nI (377 + (9 * Wn)))), (3, .int 0), (2, .int v2_1157), (1, .int (nI (n8))), (0, .ref h0)] → W p l e ({ frames := 6, cells := 0, slots := 0, locals := 136 }) s m ([.ref h0] : List Value).toArray below meth c H locs 0 0 (MQ below (XQv (fun (u : Nat × Nat × Int32 × Int32 × (Nat → Int32) × (Nat → Int32) × Nat) => match u with | (f2, t2, v2, w2, ms2, wa2, W2) => (f2 ≤ mz) ∧ (t2 ≤ mz) ∧ (f2 ≤ t2) ∧ (f2 < t2 ∨ f2 = mz) ∧ (mf ≤ f2) ∧ (w2 = 0 → mw = 0 ∧ True) ∧ (ms2 0 = nI P) ∧ (ms2 1 = nI Rn) ∧ (ms2 2 = nI W2) ∧ (SI ms2) ∧ (MI ms2) ∧ (P ≤ 10) ∧ (Rn ≤ 8) ∧ (W2 ≤ 8) ∧ (RI Rn ms2)) D (fun (u : Nat × Nat × Int32 × Int32 × (Nat → Int32) × (Nat → Int32) × Nat) => match u with | (f2, t2, v2, w2, ms2, wa2, W2) => [(h0, .inr (9, [.ref ys, .ref yk, .ref yo, .ref yt, .int mk0, .ref yfa, .ref yfe, .int mL, .int mS, .int mM, .ref yro, .ref yhe, .ref ygr, .int mF, .int mC, .int mY, .ref yta, .int (nI (mz)), .int (nI (f2)), .int (nI (t2)), .int v2, .int w2, .ref ywa, .ref ybi, .ref ysi, .ref ynu, .ref ymo])), (ys, .inl (cI, 449, .inl ms2)), (yta, .inl (cI, 120, .inl tp)), (ywa, .inl (cI, 6, .inl wa2))]) A) ([.ref h0] : List Value).toArray s 0 0 A) (F0 m 221 ls []) by
                        exact loop_221 _ 2 f_1221 _ _ _ (Nat.lt_succ_self _) (by omega) (by omega) k0_f_1221 k1_f_1221 k2_f_1221 kS_f_1221 kM_f_1221 i_1217 i_1218 i_1219 kR_f_1221 hP hD hS (lv_sub hl [0, 1, 2, 3, 4, 5] rfl)
                      intro n_221
                      induction n_221 with
                      | zero =>
                        intro i s8 H locs ls hm_221
                        exact absurd hm_221 (Nat.not_lt_zero _)
                      | succ n_221 ih_221 =>
                        intro i s8 H locs ls hm_221 hi2 hi ht0 ht1 ht2 htS htM htp htr htw htR hP hD hS hl
                        refine lv_iload hx hb dX9_walkItem_221 (lv_at hl 0 rfl) ?_
                        refine lv_iload_n hx hb dX9_walkItem_223 rfl (lv_at hl 4 rfl) ?_
                        refine lv_icmp_ge (tgt := 252) hx hb dX9_walkItem_224 (by decide) (fun c_1222 => ?_) (fun c_1222 => ?_)
                        · skip
                          have nc_1222 : n8 ≤ i := xn_le (a := n8) (b := i) (by omega) (by omega) c_1222
                          exact W.vret hx hb hr (fun t ht hW => ⟨⟨(f2_1155, t2_1156, v2_1157, w2_1158, s8, a8, Wn + 1), rfl, ⟨(by first | assumption | omega), (by first | assumption | omega), (by first | assumption | omega), (by first | assumption | omega), (by first | assumption | omega), (fun h => ⟨(i_578 (hc8 (i_1153 (i_1164 h).1).1).1).1, trivial⟩), ht0, ht1, ht2, htS, htM, htp, htr, htw, htR⟩, by rw [ht]; exact hP.sub [2, 3, 1, 0] rfl, hD.sub [2, 3, 1, 0] (by decide) rfl⟩, hS.F ht⟩) hS.2.2 dX9_walkItem_252 hlk
                        · skip
                          have nc_1222 : i < n8 := xn_nle (a := n8) (b := i) (by omega) (by omega) c_1222
                          refine lv_aload_n hx hb dX9_walkItem_227 rfl (lv_at hl 5 rfl) ?_
                          refine xg hF kf_X9_7 hK hP 2 rfl rfl dX9_walkItem_228 ?_
                          refine lv_iload hx hb dX9_walkItem_231 (lv_at hl 1 rfl) ?_
                          refine lv_iconst (v := 3) hx hb dX9_walkItem_233 (by decide) ?_
                          refine lv_iadd hx hb dX9_walkItem_234 ?_
                          refine xl_i (y := nI (377 + (9 * Wn) + 3)) (nI_add (377 + (9 * Wn)) 3) ?_
                          refine lv_iload hx hb dX9_walkItem_235 (lv_at hl 0 rfl) ?_
                          refine lv_iadd hx hb dX9_walkItem_237 ?_
                          refine xl_i (y := nI (377 + (9 * Wn) + 3 + i)) (nI_add (377 + (9 * Wn) + 3) i) ?_
                          refine lv_aload_n hx hb dX9_walkItem_238 rfl (lv_at hl 5 rfl) ?_
                          refine xg hF kf_X9_40 hK hP 2 rfl rfl dX9_walkItem_239 ?_
                          refine lv_iload hx hb dX9_walkItem_242 (lv_at hl 0 rfl) ?_
                          refine va_iald hx hb hK hP 0 0 rfl rfl (vp_in_nI (show i < 6 by omega) (by decide)) dX9_walkItem_244 ?_
                          refine xl_i (y := a8 i) (congrArg a8 (nI_clamp (show i < 2 ^ 31 by omega))) ?_
                          obtain ⟨z_1223, ez_1223, hz_12230⟩ := wk_A.get hA8 (i_1153 (i_1164 c_1207).1).1 (show i < n8 by omega)
                          refine xl_i (y := nI (z_1223)) ez_1223 ?_
                          refine va_iast hx hb hK hP hD hS 3 0 rfl rfl (vp_in_nI (show 377 + (9 * Wn) + 3 + i < 449 by omega) (by decide)) dX9_walkItem_245 (fun H locs hP hD hS => ?_)
                          rw [nI_clamp (show 377 + (9 * Wn) + 3 + i < 2 ^ 31 by omega)] at hP hD
                          obtain ⟨f_1224, ef_1224⟩ : ∃ g, g = upd s8 (377 + (9 * Wn) + 3 + i) (nI (z_1223)) := ⟨_, rfl⟩
                          rw [← ef_1224] at hP hD
                          have k0_f_1224 : f_1224 0 = nI P := by rw [ef_1224]; exact (pk_un (show 0 ≠ (377 + (9 * Wn) + 3 + i) by omega)).trans ht0
                          have k1_f_1224 : f_1224 1 = nI Rn := by rw [ef_1224]; exact (pk_un (show 1 ≠ (377 + (9 * Wn) + 3 + i) by omega)).trans ht1
                          have k2_f_1224 : f_1224 2 = nI (Wn + 1) := by rw [ef_1224]; exact (pk_un (show 2 ≠ (377 + (9 * Wn) + 3 + i) by omega)).trans ht2
                          have kS_f_1224 : SI f_1224 := by rw [ef_1224]; exact SI.upd htS (okS.ws (w := Wn) (i := i) (by omega) (by omega) (by omega) (show z_1223 < 10 by omega))
                          have kM_f_1224 : MI f_1224 := by rw [ef_1224]; exact MI.upd htM (okM.out (show (377 + (9 * Wn) + 3 + i) < 13 ∨ 113 ≤ (377 + (9 * Wn) + 3 + i) by omega))
                          have kR_f_1224 : RI Rn f_1224 := by rw [ef_1224]; exact RI.upd htR (fun r9 hr9 e9 => by omega)
                          have hP : va_P D vwCl [(ywa, .inl (cI, 6, .inl a8)), (yta, .inl (cI, 120, .inl tp)), (h0, .inr (9, [.ref ys, .ref yk, .ref yo, .ref yt, .int mk0, .ref yfa, .ref yfe, .int mL, .int mS, .int mM, .ref yro, .ref yhe, .ref ygr, .int mF, .int mC, .int mY, .ref yta, .int (nI (mz)), .int (nI (f2_1155)), .int (nI (t2_1156)), .int v2_1157, .int w2_1158, .ref ywa, .ref ybi, .ref ysi, .ref ynu, .ref ymo])), (ys, .inl (cI, 449, .inl f_1224))] H := hP
                          have hD : va_D A [(ywa, .inl (cI, 6, .inl a8)), (yta, .inl (cI, 120, .inl tp)), (h0, .inr (9, [.ref ys, .ref yk, .ref yo, .ref yt, .int mk0, .ref yfa, .ref yfe, .int mL, .int mS, .int mM, .ref yro, .ref yhe, .ref ygr, .int mF, .int mC, .int mY, .ref yta, .int (nI (mz)), .int (nI (f2_1155)), .int (nI (t2_1156)), .int v2_1157, .int w2_1158, .ref ywa, .ref ybi, .ref ysi, .ref ynu, .ref ymo])), (ys, .inl (cI, 449, .inl f_1224))] := hD
                          refine lv_iinc (v := nI (i + 1)) (lv' := [(5, .int (nI (i + 1))), (4, .int (nI (377 + (9 * Wn)))), (3, .int 0), (2, .int v2_1157), (1, .int (nI (n8))), (0, .ref h0)]) hx hb dX9_walkItem_246 hl (k := 0) rfl (nI_1 (i)) (by decide) rfl (fun ls hl => ?_)
                          refine lv_goto (tgt := 221) hx hb dX9_walkItem_249 (by decide) ?_
                          exact ih_221 (i + 1) f_1224 _ _ _ (by omega) (by omega) (by omega) k0_f_1224 k1_f_1224 k2_f_1224 kS_f_1224 kM_f_1224 htp htr htw kR_f_1224 (hP.sub [0, 1, 2, 3] rfl) (hD.sub [0, 1, 2, 3] (by decide) rfl) hS (lv_sub hl [0, 1, 2, 3, 4, 5] rfl)
                · skip
                  refine xc_Vv (wr := [(ys, .inl (cI, 449, .inl ms)), (ywa, .inl (cI, 6, .inl a8))]) hF (c_X9_needs l D cI cJ cZ cS ta sa sv H.size h0 ys yk yo yt mk0 yfa yfe mL mS mM yro yhe ygr mF mC mY yta mz f8 t8 mv w8 ywa ybi ysi ynu ymo tp 0 (by omega) (by omega) (by omega) (by omega) (by omega)) kv_X9_278 ⟨rfl, rfl, Nat.le_of_ble_eq_true rfl, Nat.le_of_ble_eq_true rfl⟩ ⟨Nat.le_of_ble_eq_true rfl, Nat.le_of_ble_eq_true rfl⟩ hK hN hZ hP hD hS hA [2, 3] [0, 1] rfl rfl rfl rfl (by decide) 0 rfl rfl rfl rfl hl.1 rfl (Nat.le_of_ble_eq_true rfl) dX9_walkItem_120 (fun u_r_1225 H locs hw_r_1225 hP hD hS => ?_)
                  obtain ⟨f2_1226, t2_1227, w2_1228⟩ := u_r_1225
                  try dsimp only at hw_r_1225
                  obtain ⟨i_1229, i_1230, i_1231, i_1232, i_1233, i_1234⟩ := hw_r_1225
                  have hP : va_P D vwCl [(ys, .inl (cI, 449, .inl ms)), (ywa, .inl (cI, 6, .inl a8)), (h0, .inr (9, [.ref ys, .ref yk, .ref yo, .ref yt, .int mk0, .ref yfa, .ref yfe, .int mL, .int mS, .int mM, .ref yro, .ref yhe, .ref ygr, .int mF, .int mC, .int mY, .ref yta, .int (nI (mz)), .int (nI (f2_1226)), .int (nI (t2_1227)), .int mv, .int w2_1228, .ref ywa, .ref ybi, .ref ysi, .ref ynu, .ref ymo])), (yta, .inl (cI, 120, .inl tp))] H := hP
                  have hD : va_D A [(ys, .inl (cI, 449, .inl ms)), (ywa, .inl (cI, 6, .inl a8)), (h0, .inr (9, [.ref ys, .ref yk, .ref yo, .ref yt, .int mk0, .ref yfa, .ref yfe, .int mL, .int mS, .int mM, .ref yro, .ref yhe, .ref ygr, .int mF, .int mC, .int mY, .ref yta, .int (nI (mz)), .int (nI (f2_1226)), .int (nI (t2_1227)), .int mv, .int w2_1228, .ref ywa, .ref ybi, .ref ysi, .ref ynu, .ref ymo])), (yta, .inl (cI, 120, .inl tp))] := hD
                  refine lv_aload_n hx hb dX9_walkItem_123 rfl (lv_at hl 1 rfl) ?_
                  refine lv_sipush (v := (-9999)) hx hb dX9_walkItem_124 (by decide) ?_
                  refine lv_sipush (v := 9999) hx hb dX9_walkItem_127 (by decide) ?_
                  refine xc_Vv (wr := [(ys, .inl (cI, 449, .inl ms)), (ywa, .inl (cI, 6, .inl a8))]) hF (c_X9_mile l D cI cJ cZ cS ta sa sv H.size h0 ys yk yo yt mk0 yfa yfe mL mS mM yro yhe ygr mF mC mY yta mz f2_1226 t2_1227 mv w2_1228 ywa ybi ysi ynu ymo tp (-9999) 9999 (by omega) (by omega) (by omega) (by omega) (by omega)) kv_X9_287 ⟨rfl, rfl, Nat.le_of_ble_eq_true rfl, Nat.le_of_ble_eq_true rfl⟩ ⟨Nat.le_of_ble_eq_true rfl, Nat.le_of_ble_eq_true rfl⟩ hK hN hZ hP hD hS hA [2, 3] [0, 1] rfl rfl rfl rfl (by decide) 0 rfl rfl rfl rfl hl.1 rfl (Nat.le_of_ble_eq_true rfl) dX9_walkItem_130 (fun u_r_1235 H locs hw_r_1235 hP hD hS => ?_)
                  obtain ⟨f2_1236, t2_1237, v2_1238, w2_1239⟩ := u_r_1235
                  try dsimp only at hw_r_1235
                  obtain ⟨i_1240, i_1241, i_1242, i_1243, i_1244, i_1245⟩ := hw_r_1235
                  have hP : va_P D vwCl [(ys, .inl (cI, 449, .inl ms)), (ywa, .inl (cI, 6, .inl a8)), (h0, .inr (9, [.ref ys, .ref yk, .ref yo, .ref yt, .int mk0, .ref yfa, .ref yfe, .int mL, .int mS, .int mM, .ref yro, .ref yhe, .ref ygr, .int mF, .int mC, .int mY, .ref yta, .int (nI (mz)), .int (nI (f2_1236)), .int (nI (t2_1237)), .int v2_1238, .int w2_1239, .ref ywa, .ref ybi, .ref ysi, .ref ynu, .ref ymo])), (yta, .inl (cI, 120, .inl tp))] H := hP
                  have hD : va_D A [(ys, .inl (cI, 449, .inl ms)), (ywa, .inl (cI, 6, .inl a8)), (h0, .inr (9, [.ref ys, .ref yk, .ref yo, .ref yt, .int mk0, .ref yfa, .ref yfe, .int mL, .int mS, .int mM, .ref yro, .ref yhe, .ref ygr, .int mF, .int mC, .int mY, .ref yta, .int (nI (mz)), .int (nI (f2_1236)), .int (nI (t2_1237)), .int v2_1238, .int w2_1239, .ref ywa, .ref ybi, .ref ysi, .ref ynu, .ref ymo])), (yta, .inl (cI, 120, .inl tp))] := hD
                  refine lv_aload_n hx hb dX9_walkItem_133 rfl (lv_at hl 1 rfl) ?_
                  refine xg hF kf_X9_275 hK hP 2 rfl rfl dX9_walkItem_134 ?_
                  refine lv_istore_n (lv' := [(2, .int v2_1238), (1, .int (nI (n8))), (0, .ref h0)]) hx hb dX9_walkItem_137 rfl hl (by decide) rfl (fun ls hl => ?_)
                  refine lv_iconst (v := 0) hx hb dX9_walkItem_138 (by decide) ?_
                  refine lv_istore_n (lv' := [(3, .int 0), (2, .int v2_1238), (1, .int (nI (n8))), (0, .ref h0)]) hx hb dX9_walkItem_139 rfl hl (by decide) rfl (fun ls hl => ?_)
                  refine lv_aload_n hx hb dX9_walkItem_140 rfl (lv_at hl 3 rfl) ?_
                  refine lv_bipush (v := 115) hx hb dX9_walkItem_141 (by decide) ?_
                  refine lv_bipush (v := 108) hx hb dX9_walkItem_143 (by decide) ?_
                  refine lv_bipush (v := 97) hx hb dX9_walkItem_145 (by decide) ?_
                  refine lv_bipush (v := 99) hx hb dX9_walkItem_147 (by decide) ?_
                  refine lv_bipush (v := 107) hx hb dX9_walkItem_149 (by decide) ?_
                  refine lv_iconst (v := 0) hx hb dX9_walkItem_151 (by decide) ?_
                  refine lv_iconst (v := 0) hx hb dX9_walkItem_152 (by decide) ?_
                  refine xc_Vr hF (c_X9_isWord l D cI cJ cZ cS ta sa sv H.size h0 ys yk yo yt mk0 yfa yfe mL mS mM yro yhe ygr mF mC mY yta mz f2_1236 t2_1237 v2_1238 w2_1239 ywa ybi ysi ynu ymo tp 115 108 97 99 107 0 0 (by omega) (by omega)) kv_X9_290 ⟨rfl, rfl, Nat.le_of_ble_eq_true rfl, Nat.le_of_ble_eq_true rfl⟩ ⟨Nat.le_of_ble_eq_true rfl, Nat.le_of_ble_eq_true rfl⟩ hK hN hZ hP hD hS hA [2, 3] rfl rfl 0 rfl rfl rfl rfl hl.1 rfl (Nat.le_of_ble_eq_true rfl) dX9_walkItem_153 (fun r_1246 hw_r_1246 => ?_)
                  rcases hw_r_1246 with rfl | rfl
                  · skip
                    refine lv_if_eq (tgt := 176) hx hb dX9_walkItem_156 (by decide) (fun c_1247 => absurd c_1247 (by decide)) (fun c_1247 => ?_)
                    refine lv_aload_n hx hb dX9_walkItem_159 rfl (lv_at hl 3 rfl) ?_
                    refine lv_iconst (v := 1) hx hb dX9_walkItem_160 (by decide) ?_
                    refine xc_Vv (wr := [(ys, .inl (cI, 449, .inl ms)), (ywa, .inl (cI, 6, .inl a8))]) hF (c_X9_needs l D cI cJ cZ cS ta sa sv H.size h0 ys yk yo yt mk0 yfa yfe mL mS mM yro yhe ygr mF mC mY yta mz f2_1236 t2_1237 v2_1238 w2_1239 ywa ybi ysi ynu ymo tp 1 (by omega) (by omega) (by omega) (by omega) (by omega)) kv_X9_278 ⟨rfl, rfl, Nat.le_of_ble_eq_true rfl, Nat.le_of_ble_eq_true rfl⟩ ⟨Nat.le_of_ble_eq_true rfl, Nat.le_of_ble_eq_true rfl⟩ hK hN hZ hP hD hS hA [2, 3] [0, 1] rfl rfl rfl rfl (by decide) 0 rfl rfl rfl rfl hl.1 rfl (Nat.le_of_ble_eq_true rfl) dX9_walkItem_161 (fun u_r_1248 H locs hw_r_1248 hP hD hS => ?_)
                    obtain ⟨f2_1249, t2_1250, w2_1251⟩ := u_r_1248
                    try dsimp only at hw_r_1248
                    obtain ⟨i_1252, i_1253, i_1254, i_1255, i_1256, i_1257⟩ := hw_r_1248
                    have hP : va_P D vwCl [(ys, .inl (cI, 449, .inl ms)), (ywa, .inl (cI, 6, .inl a8)), (h0, .inr (9, [.ref ys, .ref yk, .ref yo, .ref yt, .int mk0, .ref yfa, .ref yfe, .int mL, .int mS, .int mM, .ref yro, .ref yhe, .ref ygr, .int mF, .int mC, .int mY, .ref yta, .int (nI (mz)), .int (nI (f2_1249)), .int (nI (t2_1250)), .int v2_1238, .int w2_1251, .ref ywa, .ref ybi, .ref ysi, .ref ynu, .ref ymo])), (yta, .inl (cI, 120, .inl tp))] H := hP
                    have hD : va_D A [(ys, .inl (cI, 449, .inl ms)), (ywa, .inl (cI, 6, .inl a8)), (h0, .inr (9, [.ref ys, .ref yk, .ref yo, .ref yt, .int mk0, .ref yfa, .ref yfe, .int mL, .int mS, .int mM, .ref yro, .ref yhe, .ref ygr, .int mF, .int mC, .int mY, .ref yta, .int (nI (mz)), .int (nI (f2_1249)), .int (nI (t2_1250)), .int v2_1238, .int w2_1251, .ref ywa, .ref ybi, .ref ysi, .ref ynu, .ref ymo])), (yta, .inl (cI, 120, .inl tp))] := hD
                    refine lv_aload_n hx hb dX9_walkItem_164 rfl (lv_at hl 3 rfl) ?_
                    refine lv_iconst (v := 0) hx hb dX9_walkItem_165 (by decide) ?_
                    refine lv_bipush (v := 99) hx hb dX9_walkItem_166 (by decide) ?_
                    refine xc_Vv (wr := [(ys, .inl (cI, 449, .inl ms)), (ywa, .inl (cI, 6, .inl a8))]) hF (c_X9_number l D cI cJ cZ cS ta sa sv H.size h0 ys yk yo yt mk0 yfa yfe mL mS mM yro yhe ygr mF mC mY yta mz f2_1249 t2_1250 v2_1238 w2_1251 ywa ybi ysi ynu ymo tp 0 99 (by omega) (by omega) (by omega) (by omega) (by omega)) kv_X9_282 ⟨rfl, rfl, Nat.le_of_ble_eq_true rfl, Nat.le_of_ble_eq_true rfl⟩ ⟨Nat.le_of_ble_eq_true rfl, Nat.le_of_ble_eq_true rfl⟩ hK hN hZ hP hD hS hA [2, 3] [0, 1] rfl rfl rfl rfl (by decide) 0 rfl rfl rfl rfl hl.1 rfl (Nat.le_of_ble_eq_true rfl) dX9_walkItem_168 (fun u_r_1258 H locs hw_r_1258 hP hD hS => ?_)
                    obtain ⟨f2_1259, t2_1260, v2_1261, w2_1262⟩ := u_r_1258
                    try dsimp only at hw_r_1258
                    obtain ⟨i_1263, i_1264, i_1265, i_1266, i_1267, i_1268⟩ := hw_r_1258
                    have hP : va_P D vwCl [(ys, .inl (cI, 449, .inl ms)), (ywa, .inl (cI, 6, .inl a8)), (h0, .inr (9, [.ref ys, .ref yk, .ref yo, .ref yt, .int mk0, .ref yfa, .ref yfe, .int mL, .int mS, .int mM, .ref yro, .ref yhe, .ref ygr, .int mF, .int mC, .int mY, .ref yta, .int (nI (mz)), .int (nI (f2_1259)), .int (nI (t2_1260)), .int v2_1261, .int w2_1262, .ref ywa, .ref ybi, .ref ysi, .ref ynu, .ref ymo])), (yta, .inl (cI, 120, .inl tp))] H := hP
                    have hD : va_D A [(ys, .inl (cI, 449, .inl ms)), (ywa, .inl (cI, 6, .inl a8)), (h0, .inr (9, [.ref ys, .ref yk, .ref yo, .ref yt, .int mk0, .ref yfa, .ref yfe, .int mL, .int mS, .int mM, .ref yro, .ref yhe, .ref ygr, .int mF, .int mC, .int mY, .ref yta, .int (nI (mz)), .int (nI (f2_1259)), .int (nI (t2_1260)), .int v2_1261, .int w2_1262, .ref ywa, .ref ybi, .ref ysi, .ref ynu, .ref ymo])), (yta, .inl (cI, 120, .inl tp))] := hD
                    refine lv_aload_n hx hb dX9_walkItem_171 rfl (lv_at hl 3 rfl) ?_
                    refine xg hF kf_X9_275 hK hP 2 rfl rfl dX9_walkItem_172 ?_
                    refine lv_istore_n (lv' := [(3, .int v2_1261), (2, .int v2_1238), (1, .int (nI (n8))), (0, .ref h0)]) hx hb dX9_walkItem_175 rfl hl (by decide) rfl (fun ls hl => ?_)
                    refine lv_aload_n hx hb dX9_walkItem_176 rfl (lv_at hl 3 rfl) ?_
                    refine xg hF kf_X9_266 hK hP 2 rfl rfl dX9_walkItem_177 ?_
                    refine lv_if_ne (tgt := 252) hx hb dX9_walkItem_180 (by decide) (fun c_1269 => ?_) (fun c_1269 => absurd rfl (i_1234 (i_1245 (i_1257 (i_1268 c_1269).1).1).1).2.1)
                    exact W.vret hx hb hr (fun t ht hW => ⟨⟨(f2_1259, t2_1260, v2_1261, w2_1262, ms, a8, Wn), rfl, ⟨(by first | assumption | omega), (by first | assumption | omega), (by first | assumption | omega), (by first | assumption | omega), (by first | assumption | omega), (fun h => ⟨(i_578 (hc8 (i_1234 (i_1245 (i_1257 (i_1268 h).1).1).1).1).1).1, trivial⟩), hs0, hs1, hs2, hsS, hsM, hsp, hsr, hsw, hsR⟩, by rw [ht]; exact hP.sub [2, 0, 3, 1] rfl, hD.sub [2, 0, 3, 1] (by decide) rfl⟩, hS.F ht⟩) hS.2.2 dX9_walkItem_252 hlk
                  · skip
                    refine lv_if_eq (tgt := 176) hx hb dX9_walkItem_156 (by decide) (fun c_1270 => ?_) (fun c_1270 => absurd (by decide) c_1270)
                    refine lv_aload_n hx hb dX9_walkItem_176 rfl (lv_at hl 3 rfl) ?_
                    refine xg hF kf_X9_266 hK hP 2 rfl rfl dX9_walkItem_177 ?_
                    refine lv_if_ne (tgt := 252) hx hb dX9_walkItem_180 (by decide) (fun c_1271 => ?_) (fun c_1271 => absurd rfl (i_1234 (i_1245 c_1271).1).2.1)
                    exact W.vret hx hb hr (fun t ht hW => ⟨⟨(f2_1236, t2_1237, v2_1238, w2_1239, ms, a8, Wn), rfl, ⟨(by first | assumption | omega), (by first | assumption | omega), (by first | assumption | omega), (by first | assumption | omega), (by first | assumption | omega), (fun h => ⟨(i_578 (hc8 (i_1234 (i_1245 h).1).1).1).1, trivial⟩), hs0, hs1, hs2, hsS, hsM, hsp, hsr, hsw, hsR⟩, by rw [ht]; exact hP.sub [2, 0, 3, 1] rfl, hD.sub [2, 0, 3, 1] (by decide) rfl⟩, hS.F ht⟩) hS.2.2 dX9_walkItem_252 hlk
set_option maxHeartbeats 4000000 in
set_option maxRecDepth 100000 in
theorem c_X9_item (l : Launch) (D : va_G) (cI cJ cZ cS : ClassId) (ta : Nat) (sa sv : Nat → Nat) (sz : Nat) (h0 : Nat) (ys : Nat) (yk : Nat) (yo : Nat) (yt : Nat) (mk0 : Int32) (yfa : Nat) (yfe : Nat) (mL : Int32) (mS : Int32) (mM : Int32) (yro : Nat) (yhe : Nat) (ygr : Nat) (mF : Int32) (mC : Int32) (mY : Int32) (yta : Nat) (mz : Nat) (mf : Nat) (mt : Nat) (mv : Int32) (mw : Int32) (ywa : Nat) (ybi : Nat) (ysi : Nat) (ynu : Nat) (ymo : Nat) (ms : Nat → Int32) (tp : Nat → Int32) (wa : Nat → Int32) (P : Nat) (Rn : Nat) (Wn : Nat) (hz : mz ≤ 120) (k1 : mf ≤ mz) (k2 : mt ≤ mz) (k3 : mf ≤ mt) (k4 : mf < mt ∨ mf = mz) (hs0 : ms 0 = nI P) (hs1 : ms 1 = nI Rn) (hs2 : ms 2 = nI Wn) (hsS : SI ms) (hsM : MI ms) (hsp : P ≤ 10) (hsr : Rn ≤ 8) (hsw : Wn ≤ 8) (hsR : RI Rn ms) : Met l yX9_item (Cond.code yX9_item cX9_item 2 none :: wsU) ({ frames := 7, cells := 0, slots := 0, locals := 162 }) (va_Pc [.ref h0] (XW D (xT cI cJ cZ cS) ta sa sv [(h0, .inr (9, [.ref ys, .ref yk, .ref yo, .ref yt, .int mk0, .ref yfa, .ref yfe, .int mL, .int mS, .int mM, .ref yro, .ref yhe, .ref ygr, .int mF, .int mC, .int mY, .ref yta, .int (nI (mz)), .int (nI (mf)), .int (nI (mt)), .int mv, .int mw, .ref ywa, .ref ybi, .ref ysi, .ref ynu, .ref ymo])), (ys, .inl (cI, 449, .inl ms)), (yta, .inl (cI, 120, .inl tp)), (ywa, .inl (cI, 6, .inl wa))] sz)) (XQv (fun (u : Nat × Nat × Int32 × Int32 × (Nat → Int32) × (Nat → Int32) × Nat × Nat) => match u with | (f2, t2, v2, w2, ms2, wa2, P2, W2) => (f2 ≤ mz) ∧ (t2 ≤ mz) ∧ (f2 ≤ t2) ∧ (f2 < t2 ∨ f2 = mz) ∧ (mf ≤ f2) ∧ (w2 = 0 → mw = 0 ∧ True) ∧ (ms2 0 = nI P2) ∧ (ms2 1 = nI Rn) ∧ (ms2 2 = nI W2) ∧ (SI ms2) ∧ (MI ms2) ∧ (P2 ≤ 10) ∧ (Rn ≤ 8) ∧ (W2 ≤ 8) ∧ (RI Rn ms2)) D (fun (u : Nat × Nat × Int32 × Int32 × (Nat → Int32) × (Nat → Int32) × Nat × Nat) => match u with | (f2, t2, v2, w2, ms2, wa2, P2, W2) => [(h0, .inr (9, [.ref ys, .ref yk, .ref yo, .ref yt, .int mk0, .ref yfa, .ref yfe, .int mL, .int mS, .int mM, .ref yro, .ref yhe, .ref ygr, .int mF, .int mC, .int mY, .ref yta, .int (nI (mz)), .int (nI (f2)), .int (nI (t2)), .int v2, .int w2, .ref ywa, .ref ybi, .ref ysi, .ref ynu, .ref ymo])), (ys, .inl (cI, 449, .inl ms2)), (yta, .inl (cI, 120, .inl tp)), (ywa, .inl (cI, 6, .inl wa2))]) (va_A [(h0, .inr (9, [.ref ys, .ref yk, .ref yo, .ref yt, .int mk0, .ref yfa, .ref yfe, .int mL, .int mS, .int mM, .ref yro, .ref yhe, .ref ygr, .int mF, .int mC, .int mY, .ref yta, .int (nI (mz)), .int (nI (mf)), .int (nI (mt)), .int mv, .int mw, .ref ywa, .ref ybi, .ref ysi, .ref ynu, .ref ymo])), (ys, .inl (cI, 449, .inl ms)), (yta, .inl (cI, 120, .inl tp)), (ywa, .inl (cI, 6, .inl wa))] sz)) 0 0 (va_A [(h0, .inr (9, [.ref ys, .ref yk, .ref yo, .ref yt, .int mk0, .ref yfa, .ref yfe, .int mL, .int mS, .int mM, .ref yro, .ref yhe, .ref ygr, .int mF, .int mC, .int mY, .ref yta, .int (nI (mz)), .int (nI (mf)), .int (nI (mt)), .int mv, .int mw, .ref ywa, .ref ybi, .ref ysi, .ref ynu, .ref ymo])), (ys, .inl (cI, 449, .inl ms)), (yta, .inl (cI, 120, .inl tp)), (ywa, .inl (cI, 6, .inl wa))] sz) := by
  refine xh (QA := fun A => XQv (fun (u : Nat × Nat × Int32 × Int32 × (Nat → Int32) × (Nat → Int32) × Nat × Nat) => match u with | (f2, t2, v2, w2, ms2, wa2, P2, W2) => (f2 ≤ mz) ∧ (t2 ≤ mz) ∧ (f2 ≤ t2) ∧ (f2 < t2 ∨ f2 = mz) ∧ (mf ≤ f2) ∧ (w2 = 0 → mw = 0 ∧ True) ∧ (ms2 0 = nI P2) ∧ (ms2 1 = nI Rn) ∧ (ms2 2 = nI W2) ∧ (SI ms2) ∧ (MI ms2) ∧ (P2 ≤ 10) ∧ (Rn ≤ 8) ∧ (W2 ≤ 8) ∧ (RI Rn ms2)) D (fun (u : Nat × Nat × Int32 × Int32 × (Nat → Int32) × (Nat → Int32) × Nat × Nat) => match u with | (f2, t2, v2, w2, ms2, wa2, P2, W2) => [(h0, .inr (9, [.ref ys, .ref yk, .ref yo, .ref yt, .int mk0, .ref yfa, .ref yfe, .int mL, .int mS, .int mM, .ref yro, .ref yhe, .ref ygr, .int mF, .int mC, .int mY, .ref yta, .int (nI (mz)), .int (nI (f2)), .int (nI (t2)), .int v2, .int w2, .ref ywa, .ref ybi, .ref ysi, .ref ynu, .ref ymo])), (ys, .inl (cI, 449, .inl ms2)), (yta, .inl (cI, 120, .inl tp)), (ywa, .inl (cI, 6, .inl wa2))]) A) (fr := fun A => A) (by decide) (Nat.le_of_ble_eq_true rfl) ?_
  intro p e s m below meth c ls A hF hr hlk hin hsz hP hK hD hN hZ hA hS hl
  have hF : CallFix p m c cX9_item 2 s _ _ RX9 := hF
  have hx := hF.1
  have hb := hF.2.1
  have hml := hF.2.2.1
  have hown := hF.2.2.2.1
  have hu : ∀ w ∈ wsU, w.before _ s = true := fun w h => hF.2.2.2.2 w (List.mem_cons_of_mem _ h)
  have hl : lv_has ls 2 [(0, .ref h0)] := hl
  refine lv_aload_n hx hb dX9_item_0 rfl (lv_at hl 0 rfl) ?_
  refine lv_bipush (v := 119) hx hb dX9_item_1 (by decide) ?_
  refine lv_bipush (v := 97) hx hb dX9_item_3 (by decide) ?_
  refine lv_bipush (v := 121) hx hb dX9_item_5 (by decide) ?_
  refine lv_iconst (v := 0) hx hb dX9_item_7 (by decide) ?_
  refine lv_iconst (v := 0) hx hb dX9_item_8 (by decide) ?_
  refine lv_iconst (v := 0) hx hb dX9_item_9 (by decide) ?_
  refine lv_iconst (v := 0) hx hb dX9_item_10 (by decide) ?_
  refine xc_Vr hF (c_X9_isWord l D cI cJ cZ cS ta sa sv s.heap.size h0 ys yk yo yt mk0 yfa yfe mL mS mM yro yhe ygr mF mC mY yta mz mf mt mv mw ywa ybi ysi ynu ymo tp 119 97 121 0 0 0 0 (by omega) (by omega)) kv_X9_290 ⟨rfl, rfl, Nat.le_of_ble_eq_true rfl, Nat.le_of_ble_eq_true rfl⟩ ⟨Nat.le_of_ble_eq_true rfl, Nat.le_of_ble_eq_true rfl⟩ hK hN hZ hP hD hS hA [0, 2] rfl rfl 0 rfl rfl rfl rfl hl.1 rfl (Nat.le_of_ble_eq_true rfl) dX9_item_11 (fun r_1 hw_r_1 => ?_)
  rcases hw_r_1 with rfl | rfl
  · skip
    refine lv_if_eq (tgt := 24) hx hb dX9_item_14 (by decide) (fun c_2 => absurd c_2 (by decide)) (fun c_2 => ?_)
    refine lv_aload_n hx hb dX9_item_17 rfl (lv_at hl 0 rfl) ?_
    refine xc_Vv (wr := [(ywa, .inl (cI, 6, .inl wa))]) hF (c_X9_wayItem l D cI cJ cZ cS ta sa sv s.heap.size h0 ys yk yo yt mk0 yfa yfe mL mS mM yro yhe ygr mF mC mY yta mz mf mt mv mw ywa ybi ysi ynu ymo ms tp P Rn Wn (by omega) (by omega) (by omega) (by omega) (by omega) hs0 hs1 hs2 hsS hsM hsp hsr hsw hsR) kv_X9_294 ⟨rfl, rfl, Nat.le_of_ble_eq_true rfl, Nat.le_of_ble_eq_true rfl⟩ ⟨Nat.le_of_ble_eq_true rfl, Nat.le_of_ble_eq_true rfl⟩ hK hN hZ hP hD hS hA [0, 1, 2] [3] rfl rfl rfl rfl (by decide) 0 rfl rfl rfl rfl hl.1 rfl (Nat.le_of_ble_eq_true rfl) dX9_item_18 (fun u_r_3 H locs hw_r_3 hP hD hS => ?_)
    obtain ⟨f2_4, t2_5, v2_6, w2_7, ms2_8⟩ := u_r_3
    try dsimp only at hw_r_3
    obtain ⟨i_9, i_10, i_11, i_12, i_13, i_14, i_15, i_16, i_17, i_18, i_19, i_20, i_21, i_22, i_23⟩ := hw_r_3
    have hP : va_P D vwCl [(ywa, .inl (cI, 6, .inl wa)), (h0, .inr (9, [.ref ys, .ref yk, .ref yo, .ref yt, .int mk0, .ref yfa, .ref yfe, .int mL, .int mS, .int mM, .ref yro, .ref yhe, .ref ygr, .int mF, .int mC, .int mY, .ref yta, .int (nI (mz)), .int (nI (f2_4)), .int (nI (t2_5)), .int v2_6, .int w2_7, .ref ywa, .ref ybi, .ref ysi, .ref ynu, .ref ymo])), (ys, .inl (cI, 449, .inl ms2_8)), (yta, .inl (cI, 120, .inl tp))] H := hP
    have hD : va_D A [(ywa, .inl (cI, 6, .inl wa)), (h0, .inr (9, [.ref ys, .ref yk, .ref yo, .ref yt, .int mk0, .ref yfa, .ref yfe, .int mL, .int mS, .int mM, .ref yro, .ref yhe, .ref ygr, .int mF, .int mC, .int mY, .ref yta, .int (nI (mz)), .int (nI (f2_4)), .int (nI (t2_5)), .int v2_6, .int w2_7, .ref ywa, .ref ybi, .ref ysi, .ref ynu, .ref ymo])), (ys, .inl (cI, 449, .inl ms2_8)), (yta, .inl (cI, 120, .inl tp))] := hD
    refine lv_goto (tgt := 156) hx hb dX9_item_21 (by decide) ?_
    exact W.vret hx hb hr (fun t ht hW => ⟨⟨(f2_4, t2_5, v2_6, w2_7, ms2_8, wa, P, Wn), rfl, ⟨(by first | assumption | omega), (by first | assumption | omega), (by first | assumption | omega), (by first | assumption | omega), (by first | assumption | omega), (fun h => ⟨(i_14 h).1, trivial⟩), i_15, i_16, i_17, i_18, i_19, i_20, i_21, i_22, i_23⟩, by rw [ht]; exact hP.sub [1, 2, 3, 0] rfl, hD.sub [1, 2, 3, 0] (by decide) rfl⟩, hS.F ht⟩) hS.2.2 dX9_item_156 hlk
  · skip
    refine lv_if_eq (tgt := 24) hx hb dX9_item_14 (by decide) (fun c_24 => ?_) (fun c_24 => absurd (by decide) c_24)
    refine lv_aload_n hx hb dX9_item_24 rfl (lv_at hl 0 rfl) ?_
    refine lv_bipush (v := 119) hx hb dX9_item_25 (by decide) ?_
    refine lv_bipush (v := 97) hx hb dX9_item_27 (by decide) ?_
    refine lv_bipush (v := 108) hx hb dX9_item_29 (by decide) ?_
    refine lv_bipush (v := 107) hx hb dX9_item_31 (by decide) ?_
    refine lv_iconst (v := 0) hx hb dX9_item_33 (by decide) ?_
    refine lv_iconst (v := 0) hx hb dX9_item_34 (by decide) ?_
    refine lv_iconst (v := 0) hx hb dX9_item_35 (by decide) ?_
    refine xc_Vr hF (c_X9_isWord l D cI cJ cZ cS ta sa sv s.heap.size h0 ys yk yo yt mk0 yfa yfe mL mS mM yro yhe ygr mF mC mY yta mz mf mt mv mw ywa ybi ysi ynu ymo tp 119 97 108 107 0 0 0 (by omega) (by omega)) kv_X9_290 ⟨rfl, rfl, Nat.le_of_ble_eq_true rfl, Nat.le_of_ble_eq_true rfl⟩ ⟨Nat.le_of_ble_eq_true rfl, Nat.le_of_ble_eq_true rfl⟩ hK hN hZ hP hD hS hA [0, 2] rfl rfl 0 rfl rfl rfl rfl hl.1 rfl (Nat.le_of_ble_eq_true rfl) dX9_item_36 (fun r_25 hw_r_25 => ?_)
    rcases hw_r_25 with rfl | rfl
    · skip
      refine lv_if_eq (tgt := 49) hx hb dX9_item_39 (by decide) (fun c_26 => absurd c_26 (by decide)) (fun c_26 => ?_)
      refine lv_aload_n hx hb dX9_item_42 rfl (lv_at hl 0 rfl) ?_
      refine xc_Vv (wr := []) hF (c_X9_walkItem l D cI cJ cZ cS ta sa sv s.heap.size h0 ys yk yo yt mk0 yfa yfe mL mS mM yro yhe ygr mF mC mY yta mz mf mt mv mw ywa ybi ysi ynu ymo ms tp wa P Rn Wn (by omega) (by omega) (by omega) (by omega) (by omega) hs0 hs1 hs2 hsS hsM hsp hsr hsw hsR) kv_X9_297 ⟨rfl, rfl, Nat.le_of_ble_eq_true rfl, Nat.le_of_ble_eq_true rfl⟩ ⟨Nat.le_of_ble_eq_true rfl, Nat.le_of_ble_eq_true rfl⟩ hK hN hZ hP hD hS hA [0, 1, 2, 3] [] rfl rfl rfl rfl (by decide) 0 rfl rfl rfl rfl hl.1 rfl (Nat.le_of_ble_eq_true rfl) dX9_item_43 (fun u_r_27 H locs hw_r_27 hP hD hS => ?_)
      obtain ⟨f2_28, t2_29, v2_30, w2_31, ms2_32, wa2_33, W2_34⟩ := u_r_27
      try dsimp only at hw_r_27
      obtain ⟨i_35, i_36, i_37, i_38, i_39, i_40, i_41, i_42, i_43, i_44, i_45, i_46, i_47, i_48, i_49⟩ := hw_r_27
      have hP : va_P D vwCl [(h0, .inr (9, [.ref ys, .ref yk, .ref yo, .ref yt, .int mk0, .ref yfa, .ref yfe, .int mL, .int mS, .int mM, .ref yro, .ref yhe, .ref ygr, .int mF, .int mC, .int mY, .ref yta, .int (nI (mz)), .int (nI (f2_28)), .int (nI (t2_29)), .int v2_30, .int w2_31, .ref ywa, .ref ybi, .ref ysi, .ref ynu, .ref ymo])), (ys, .inl (cI, 449, .inl ms2_32)), (yta, .inl (cI, 120, .inl tp)), (ywa, .inl (cI, 6, .inl wa2_33))] H := hP
      have hD : va_D A [(h0, .inr (9, [.ref ys, .ref yk, .ref yo, .ref yt, .int mk0, .ref yfa, .ref yfe, .int mL, .int mS, .int mM, .ref yro, .ref yhe, .ref ygr, .int mF, .int mC, .int mY, .ref yta, .int (nI (mz)), .int (nI (f2_28)), .int (nI (t2_29)), .int v2_30, .int w2_31, .ref ywa, .ref ybi, .ref ysi, .ref ynu, .ref ymo])), (ys, .inl (cI, 449, .inl ms2_32)), (yta, .inl (cI, 120, .inl tp)), (ywa, .inl (cI, 6, .inl wa2_33))] := hD
      refine lv_goto (tgt := 156) hx hb dX9_item_46 (by decide) ?_
      exact W.vret hx hb hr (fun t ht hW => ⟨⟨(f2_28, t2_29, v2_30, w2_31, ms2_32, wa2_33, P, W2_34), rfl, ⟨(by first | assumption | omega), (by first | assumption | omega), (by first | assumption | omega), (by first | assumption | omega), (by first | assumption | omega), (fun h => ⟨(i_40 h).1, trivial⟩), i_41, i_42, i_43, i_44, i_45, i_46, i_47, i_48, i_49⟩, by rw [ht]; exact hP.sub [0, 1, 2, 3] rfl, hD.sub [0, 1, 2, 3] (by decide) rfl⟩, hS.F ht⟩) hS.2.2 dX9_item_156 hlk
    · skip
      refine lv_if_eq (tgt := 49) hx hb dX9_item_39 (by decide) (fun c_50 => ?_) (fun c_50 => absurd (by decide) c_50)
      refine lv_aload_n hx hb dX9_item_49 rfl (lv_at hl 0 rfl) ?_
      refine lv_aload_n hx hb dX9_item_50 rfl (lv_at hl 0 rfl) ?_
      refine lv_bipush (v := 112) hx hb dX9_item_51 (by decide) ?_
      refine lv_bipush (v := 108) hx hb dX9_item_53 (by decide) ?_
      refine lv_bipush (v := 97) hx hb dX9_item_55 (by decide) ?_
      refine lv_bipush (v := 99) hx hb dX9_item_57 (by decide) ?_
      refine lv_bipush (v := 101) hx hb dX9_item_59 (by decide) ?_
      refine lv_iconst (v := 0) hx hb dX9_item_61 (by decide) ?_
      refine lv_iconst (v := 0) hx hb dX9_item_62 (by decide) ?_
      refine xc_Vr hF (c_X9_isWord l D cI cJ cZ cS ta sa sv s.heap.size h0 ys yk yo yt mk0 yfa yfe mL mS mM yro yhe ygr mF mC mY yta mz mf mt mv mw ywa ybi ysi ynu ymo tp 112 108 97 99 101 0 0 (by omega) (by omega)) kv_X9_290 ⟨rfl, rfl, Nat.le_of_ble_eq_true rfl, Nat.le_of_ble_eq_true rfl⟩ ⟨Nat.le_of_ble_eq_true rfl, Nat.le_of_ble_eq_true rfl⟩ hK hN hZ hP hD hS hA [0, 2] rfl rfl 0 rfl rfl rfl rfl hl.1 rfl (Nat.le_of_ble_eq_true rfl) dX9_item_63 (fun r_51 hw_r_51 => ?_)
      rcases hw_r_51 with rfl | rfl
      · skip
        refine lv_if_eq (tgt := 84) hx hb dX9_item_66 (by decide) (fun c_52 => absurd c_52 (by decide)) (fun c_52 => ?_)
        refine lv_aload_n hx hb dX9_item_69 rfl (lv_at hl 0 rfl) ?_
        refine xg hF kf_X9_7 hK hP 0 rfl rfl dX9_item_70 ?_
        refine lv_iconst (v := 0) hx hb dX9_item_73 (by decide) ?_
        refine va_iald hx hb hK hP 1 0 rfl rfl (xin 0 449 (by decide) (by decide)) dX9_item_74 ?_
        refine xl_i (y := nI (P)) hs0 ?_
        refine lv_bipush (v := 10) hx hb dX9_item_75 (by decide) ?_
        refine lv_icmp_ge (tgt := 84) hx hb dX9_item_77 (by decide) (fun c_53 => ?_) (fun c_53 => ?_)
        · skip
          have nc_53 : 10 ≤ P := xn_le (a := 10) (b := P) (by omega) (by omega) c_53
          refine lv_iconst (v := 0) hx hb dX9_item_84 (by decide) ?_
          refine xc_Vv (wr := [(ys, .inl (cI, 449, .inl ms)), (ywa, .inl (cI, 6, .inl wa))]) hF (c_X9_needs l D cI cJ cZ cS ta sa sv s.heap.size h0 ys yk yo yt mk0 yfa yfe mL mS mM yro yhe ygr mF mC mY yta mz mf mt mv mw ywa ybi ysi ynu ymo tp 0 (by omega) (by omega) (by omega) (by omega) (by omega)) kv_X9_278 ⟨rfl, rfl, Nat.le_of_ble_eq_true rfl, Nat.le_of_ble_eq_true rfl⟩ ⟨Nat.le_of_ble_eq_true rfl, Nat.le_of_ble_eq_true rfl⟩ hK hN hZ hP hD hS hA [0, 2] [1, 3] rfl rfl rfl rfl (by decide) 0 rfl rfl rfl rfl hl.1 rfl (Nat.le_of_ble_eq_true rfl) dX9_item_85 (fun u_r_54 H locs hw_r_54 hP hD hS => ?_)
          obtain ⟨f2_55, t2_56, w2_57⟩ := u_r_54
          try dsimp only at hw_r_54
          obtain ⟨i_58, i_59, i_60, i_61, i_62, i_63⟩ := hw_r_54
          have hP : va_P D vwCl [(ys, .inl (cI, 449, .inl ms)), (ywa, .inl (cI, 6, .inl wa)), (h0, .inr (9, [.ref ys, .ref yk, .ref yo, .ref yt, .int mk0, .ref yfa, .ref yfe, .int mL, .int mS, .int mM, .ref yro, .ref yhe, .ref ygr, .int mF, .int mC, .int mY, .ref yta, .int (nI (mz)), .int (nI (f2_55)), .int (nI (t2_56)), .int mv, .int w2_57, .ref ywa, .ref ybi, .ref ysi, .ref ynu, .ref ymo])), (yta, .inl (cI, 120, .inl tp))] H := hP
          have hD : va_D A [(ys, .inl (cI, 449, .inl ms)), (ywa, .inl (cI, 6, .inl wa)), (h0, .inr (9, [.ref ys, .ref yk, .ref yo, .ref yt, .int mk0, .ref yfa, .ref yfe, .int mL, .int mS, .int mM, .ref yro, .ref yhe, .ref ygr, .int mF, .int mC, .int mY, .ref yta, .int (nI (mz)), .int (nI (f2_55)), .int (nI (t2_56)), .int mv, .int w2_57, .ref ywa, .ref ybi, .ref ysi, .ref ynu, .ref ymo])), (yta, .inl (cI, 120, .inl tp))] := hD
          refine lv_aload_n hx hb dX9_item_88 rfl (lv_at hl 0 rfl) ?_
          refine xg hF kf_X9_266 hK hP 2 rfl rfl dX9_item_89 ?_
          refine lv_if_eq (tgt := 99) hx hb dX9_item_92 (by decide) (fun c_64 => absurd rfl (i_63 c_64).2.1) (fun c_64 => ?_)
          refine lv_iconst (v := 0) hx hb dX9_item_95 (by decide) ?_
          refine lv_goto (tgt := 103) hx hb dX9_item_96 (by decide) ?_
          refine lv_istore_n (lv' := [(1, .int 0), (0, .ref h0)]) hx hb dX9_item_103 rfl hl (by decide) rfl (fun ls hl => ?_)
          refine lv_aload_n hx hb dX9_item_104 rfl (lv_at hl 1 rfl) ?_
          refine lv_bipush (v := 101) hx hb dX9_item_105 (by decide) ?_
          refine lv_bipush (v := 114) hx hb dX9_item_107 (by decide) ?_
          refine lv_bipush (v := 114) hx hb dX9_item_109 (by decide) ?_
          refine lv_bipush (v := 97) hx hb dX9_item_111 (by decide) ?_
          refine lv_bipush (v := 110) hx hb dX9_item_113 (by decide) ?_
          refine lv_bipush (v := 100) hx hb dX9_item_115 (by decide) ?_
          refine lv_bipush (v := 115) hx hb dX9_item_117 (by decide) ?_
          refine xc_Vr hF (c_X9_isWord l D cI cJ cZ cS ta sa sv H.size h0 ys yk yo yt mk0 yfa yfe mL mS mM yro yhe ygr mF mC mY yta mz f2_55 t2_56 mv w2_57 ywa ybi ysi ynu ymo tp 101 114 114 97 110 100 115 (by omega) (by omega)) kv_X9_290 ⟨rfl, rfl, Nat.le_of_ble_eq_true rfl, Nat.le_of_ble_eq_true rfl⟩ ⟨Nat.le_of_ble_eq_true rfl, Nat.le_of_ble_eq_true rfl⟩ hK hN hZ hP hD hS hA [2, 3] rfl rfl 0 rfl rfl rfl rfl hl.1 rfl (Nat.le_of_ble_eq_true rfl) dX9_item_119 (fun r_65 hw_r_65 => ?_)
          rcases hw_r_65 with rfl | rfl
          · skip
            refine lv_if_eq (tgt := 156) hx hb dX9_item_122 (by decide) (fun c_66 => absurd c_66 (by decide)) (fun c_66 => ?_)
            refine lv_aload_n hx hb dX9_item_125 rfl (lv_at hl 1 rfl) ?_
            refine lv_iconst (v := 1) hx hb dX9_item_126 (by decide) ?_
            refine xc_Vv (wr := [(ys, .inl (cI, 449, .inl ms)), (ywa, .inl (cI, 6, .inl wa))]) hF (c_X9_needs l D cI cJ cZ cS ta sa sv H.size h0 ys yk yo yt mk0 yfa yfe mL mS mM yro yhe ygr mF mC mY yta mz f2_55 t2_56 mv w2_57 ywa ybi ysi ynu ymo tp 1 (by omega) (by omega) (by omega) (by omega) (by omega)) kv_X9_278 ⟨rfl, rfl, Nat.le_of_ble_eq_true rfl, Nat.le_of_ble_eq_true rfl⟩ ⟨Nat.le_of_ble_eq_true rfl, Nat.le_of_ble_eq_true rfl⟩ hK hN hZ hP hD hS hA [2, 3] [0, 1] rfl rfl rfl rfl (by decide) 0 rfl rfl rfl rfl hl.1 rfl (Nat.le_of_ble_eq_true rfl) dX9_item_127 (fun u_r_67 H locs hw_r_67 hP hD hS => ?_)
            obtain ⟨f2_68, t2_69, w2_70⟩ := u_r_67
            try dsimp only at hw_r_67
            obtain ⟨i_71, i_72, i_73, i_74, i_75, i_76⟩ := hw_r_67
            have hP : va_P D vwCl [(ys, .inl (cI, 449, .inl ms)), (ywa, .inl (cI, 6, .inl wa)), (h0, .inr (9, [.ref ys, .ref yk, .ref yo, .ref yt, .int mk0, .ref yfa, .ref yfe, .int mL, .int mS, .int mM, .ref yro, .ref yhe, .ref ygr, .int mF, .int mC, .int mY, .ref yta, .int (nI (mz)), .int (nI (f2_68)), .int (nI (t2_69)), .int mv, .int w2_70, .ref ywa, .ref ybi, .ref ysi, .ref ynu, .ref ymo])), (yta, .inl (cI, 120, .inl tp))] H := hP
            have hD : va_D A [(ys, .inl (cI, 449, .inl ms)), (ywa, .inl (cI, 6, .inl wa)), (h0, .inr (9, [.ref ys, .ref yk, .ref yo, .ref yt, .int mk0, .ref yfa, .ref yfe, .int mL, .int mS, .int mM, .ref yro, .ref yhe, .ref ygr, .int mF, .int mC, .int mY, .ref yta, .int (nI (mz)), .int (nI (f2_68)), .int (nI (t2_69)), .int mv, .int w2_70, .ref ywa, .ref ybi, .ref ysi, .ref ynu, .ref ymo])), (yta, .inl (cI, 120, .inl tp))] := hD
            refine lv_aload_n hx hb dX9_item_130 rfl (lv_at hl 1 rfl) ?_
            refine lv_iconst (v := 0) hx hb dX9_item_131 (by decide) ?_
            refine lv_bipush (v := 99) hx hb dX9_item_132 (by decide) ?_
            refine xc_Vv (wr := [(ys, .inl (cI, 449, .inl ms)), (ywa, .inl (cI, 6, .inl wa))]) hF (c_X9_number l D cI cJ cZ cS ta sa sv H.size h0 ys yk yo yt mk0 yfa yfe mL mS mM yro yhe ygr mF mC mY yta mz f2_68 t2_69 mv w2_70 ywa ybi ysi ynu ymo tp 0 99 (by omega) (by omega) (by omega) (by omega) (by omega)) kv_X9_282 ⟨rfl, rfl, Nat.le_of_ble_eq_true rfl, Nat.le_of_ble_eq_true rfl⟩ ⟨Nat.le_of_ble_eq_true rfl, Nat.le_of_ble_eq_true rfl⟩ hK hN hZ hP hD hS hA [2, 3] [0, 1] rfl rfl rfl rfl (by decide) 0 rfl rfl rfl rfl hl.1 rfl (Nat.le_of_ble_eq_true rfl) dX9_item_134 (fun u_r_77 H locs hw_r_77 hP hD hS => ?_)
            obtain ⟨f2_78, t2_79, v2_80, w2_81⟩ := u_r_77
            try dsimp only at hw_r_77
            obtain ⟨i_82, i_83, i_84, i_85, i_86, i_87⟩ := hw_r_77
            have hP : va_P D vwCl [(ys, .inl (cI, 449, .inl ms)), (ywa, .inl (cI, 6, .inl wa)), (h0, .inr (9, [.ref ys, .ref yk, .ref yo, .ref yt, .int mk0, .ref yfa, .ref yfe, .int mL, .int mS, .int mM, .ref yro, .ref yhe, .ref ygr, .int mF, .int mC, .int mY, .ref yta, .int (nI (mz)), .int (nI (f2_78)), .int (nI (t2_79)), .int v2_80, .int w2_81, .ref ywa, .ref ybi, .ref ysi, .ref ynu, .ref ymo])), (yta, .inl (cI, 120, .inl tp))] H := hP
            have hD : va_D A [(ys, .inl (cI, 449, .inl ms)), (ywa, .inl (cI, 6, .inl wa)), (h0, .inr (9, [.ref ys, .ref yk, .ref yo, .ref yt, .int mk0, .ref yfa, .ref yfe, .int mL, .int mS, .int mM, .ref yro, .ref yhe, .ref ygr, .int mF, .int mC, .int mY, .ref yta, .int (nI (mz)), .int (nI (f2_78)), .int (nI (t2_79)), .int v2_80, .int w2_81, .ref ywa, .ref ybi, .ref ysi, .ref ynu, .ref ymo])), (yta, .inl (cI, 120, .inl tp))] := hD
            refine lv_aload_n hx hb dX9_item_137 rfl (lv_at hl 1 rfl) ?_
            refine xg hF kf_X9_266 hK hP 2 rfl rfl dX9_item_138 ?_
            refine lv_if_ne (tgt := 156) hx hb dX9_item_141 (by decide) (fun c_88 => ?_) (fun c_88 => ?_)
            · skip
              exact W.vret hx hb hr (fun t ht hW => ⟨⟨(f2_78, t2_79, v2_80, w2_81, ms, wa, P, Wn), rfl, ⟨(by first | assumption | omega), (by first | assumption | omega), (by first | assumption | omega), (by first | assumption | omega), (by first | assumption | omega), (fun h => ⟨(i_63 (i_76 (i_87 h).1).1).1, trivial⟩), hs0, hs1, hs2, hsS, hsM, hsp, hsr, hsw, hsR⟩, by rw [ht]; exact hP.sub [2, 0, 3, 1] rfl, hD.sub [2, 0, 3, 1] (by decide) rfl⟩, hS.F ht⟩) hS.2.2 dX9_item_156 hlk
            · skip
              refine lv_aload_n hx hb dX9_item_144 rfl (lv_at hl 1 rfl) ?_
              refine xg hF kf_X9_7 hK hP 2 rfl rfl dX9_item_145 ?_
              refine lv_iconst (v := 3) hx hb dX9_item_148 (by decide) ?_
              refine lv_iload_n hx hb dX9_item_149 rfl (lv_at hl 0 rfl) ?_
              refine lv_iadd hx hb dX9_item_150 ?_
              refine xl_i (y := 3) (by decide) ?_
              refine lv_aload_n hx hb dX9_item_151 rfl (lv_at hl 1 rfl) ?_
              refine xg hF kf_X9_275 hK hP 2 rfl rfl dX9_item_152 ?_
              refine va_iast hx hb hK hP hD hS 0 0 rfl rfl (xin 3 449 (by decide) (by decide)) dX9_item_155 (fun H locs hP hD hS => ?_)
              obtain ⟨f_89, ef_89⟩ : ∃ g, g = upd ms 3 v2_80 := ⟨_, rfl⟩
              have hP : va_P D vwCl [(ys, .inl (cI, 449, .inl (upd ms 3 v2_80))), (ywa, .inl (cI, 6, .inl wa)), (h0, .inr (9, [.ref ys, .ref yk, .ref yo, .ref yt, .int mk0, .ref yfa, .ref yfe, .int mL, .int mS, .int mM, .ref yro, .ref yhe, .ref ygr, .int mF, .int mC, .int mY, .ref yta, .int (nI (mz)), .int (nI (f2_78)), .int (nI (t2_79)), .int v2_80, .int w2_81, .ref ywa, .ref ybi, .ref ysi, .ref ynu, .ref ymo])), (yta, .inl (cI, 120, .inl tp))] H := hP
              have hD : va_D A [(ys, .inl (cI, 449, .inl (upd ms 3 v2_80))), (ywa, .inl (cI, 6, .inl wa)), (h0, .inr (9, [.ref ys, .ref yk, .ref yo, .ref yt, .int mk0, .ref yfa, .ref yfe, .int mL, .int mS, .int mM, .ref yro, .ref yhe, .ref ygr, .int mF, .int mC, .int mY, .ref yta, .int (nI (mz)), .int (nI (f2_78)), .int (nI (t2_79)), .int v2_80, .int w2_81, .ref ywa, .ref ybi, .ref ysi, .ref ynu, .ref ymo])), (yta, .inl (cI, 120, .inl tp))] := hD
              rw [← ef_89] at hP hD
              have k0_f_89 : f_89 0 = nI P := by rw [ef_89]; exact (pk_un (show 0 ≠ 3 by omega)).trans hs0
              have k1_f_89 : f_89 1 = nI Rn := by rw [ef_89]; exact (pk_un (show 1 ≠ 3 by omega)).trans hs1
              have k2_f_89 : f_89 2 = nI Wn := by rw [ef_89]; exact (pk_un (show 2 ≠ 3 by omega)).trans hs2
              have kS_f_89 : SI f_89 := by rw [ef_89]; exact SI.upd hsS (okS.low (show 3 < 313 by omega))
              have kM_f_89 : MI f_89 := by rw [ef_89]; exact MI.upd hsM (okM.out (show 3 < 13 ∨ 113 ≤ 3 by omega))
              have kR_f_89 : RI Rn f_89 := by rw [ef_89]; exact RI.upd hsR (fun r9 hr9 e9 => by omega)
              have hP : va_P D vwCl [(ys, .inl (cI, 449, .inl f_89)), (ywa, .inl (cI, 6, .inl wa)), (h0, .inr (9, [.ref ys, .ref yk, .ref yo, .ref yt, .int mk0, .ref yfa, .ref yfe, .int mL, .int mS, .int mM, .ref yro, .ref yhe, .ref ygr, .int mF, .int mC, .int mY, .ref yta, .int (nI (mz)), .int (nI (f2_78)), .int (nI (t2_79)), .int v2_80, .int w2_81, .ref ywa, .ref ybi, .ref ysi, .ref ynu, .ref ymo])), (yta, .inl (cI, 120, .inl tp))] H := hP
              have hD : va_D A [(ys, .inl (cI, 449, .inl f_89)), (ywa, .inl (cI, 6, .inl wa)), (h0, .inr (9, [.ref ys, .ref yk, .ref yo, .ref yt, .int mk0, .ref yfa, .ref yfe, .int mL, .int mS, .int mM, .ref yro, .ref yhe, .ref ygr, .int mF, .int mC, .int mY, .ref yta, .int (nI (mz)), .int (nI (f2_78)), .int (nI (t2_79)), .int v2_80, .int w2_81, .ref ywa, .ref ybi, .ref ysi, .ref ynu, .ref ymo])), (yta, .inl (cI, 120, .inl tp))] := hD
              exact W.vret hx hb hr (fun t ht hW => ⟨⟨(f2_78, t2_79, v2_80, w2_81, f_89, wa, P, Wn), rfl, ⟨(by first | assumption | omega), (by first | assumption | omega), (by first | assumption | omega), (by first | assumption | omega), (by first | assumption | omega), (fun h => ⟨(i_63 (i_76 (i_87 h).1).1).1, trivial⟩), k0_f_89, k1_f_89, k2_f_89, kS_f_89, kM_f_89, hsp, hsr, hsw, kR_f_89⟩, by rw [ht]; exact hP.sub [2, 0, 3, 1] rfl, hD.sub [2, 0, 3, 1] (by decide) rfl⟩, hS.F ht⟩) hS.2.2 dX9_item_156 hlk
          · skip
            refine lv_if_eq (tgt := 156) hx hb dX9_item_122 (by decide) (fun c_90 => ?_) (fun c_90 => absurd (by decide) c_90)
            exact W.vret hx hb hr (fun t ht hW => ⟨⟨(f2_55, t2_56, mv, w2_57, ms, wa, P, Wn), rfl, ⟨(by first | assumption | omega), (by first | assumption | omega), (by first | assumption | omega), (by first | assumption | omega), (by first | assumption | omega), (fun h => ⟨(i_63 h).1, trivial⟩), hs0, hs1, hs2, hsS, hsM, hsp, hsr, hsw, hsR⟩, by rw [ht]; exact hP.sub [2, 0, 3, 1] rfl, hD.sub [2, 0, 3, 1] (by decide) rfl⟩, hS.F ht⟩) hS.2.2 dX9_item_156 hlk
        · skip
          have nc_53 : P < 10 := xn_nle (a := 10) (b := P) (by omega) (by omega) c_53
          refine lv_iconst (v := 1) hx hb dX9_item_80 (by decide) ?_
          refine lv_goto (tgt := 85) hx hb dX9_item_81 (by decide) ?_
          refine xc_Vv (wr := [(ys, .inl (cI, 449, .inl ms)), (ywa, .inl (cI, 6, .inl wa))]) hF (c_X9_needs l D cI cJ cZ cS ta sa sv s.heap.size h0 ys yk yo yt mk0 yfa yfe mL mS mM yro yhe ygr mF mC mY yta mz mf mt mv mw ywa ybi ysi ynu ymo tp 1 (by omega) (by omega) (by omega) (by omega) (by omega)) kv_X9_278 ⟨rfl, rfl, Nat.le_of_ble_eq_true rfl, Nat.le_of_ble_eq_true rfl⟩ ⟨Nat.le_of_ble_eq_true rfl, Nat.le_of_ble_eq_true rfl⟩ hK hN hZ hP hD hS hA [0, 2] [1, 3] rfl rfl rfl rfl (by decide) 0 rfl rfl rfl rfl hl.1 rfl (Nat.le_of_ble_eq_true rfl) dX9_item_85 (fun u_r_91 H locs hw_r_91 hP hD hS => ?_)
          obtain ⟨f2_92, t2_93, w2_94⟩ := u_r_91
          try dsimp only at hw_r_91
          obtain ⟨i_95, i_96, i_97, i_98, i_99, i_100⟩ := hw_r_91
          have hP : va_P D vwCl [(ys, .inl (cI, 449, .inl ms)), (ywa, .inl (cI, 6, .inl wa)), (h0, .inr (9, [.ref ys, .ref yk, .ref yo, .ref yt, .int mk0, .ref yfa, .ref yfe, .int mL, .int mS, .int mM, .ref yro, .ref yhe, .ref ygr, .int mF, .int mC, .int mY, .ref yta, .int (nI (mz)), .int (nI (f2_92)), .int (nI (t2_93)), .int mv, .int w2_94, .ref ywa, .ref ybi, .ref ysi, .ref ynu, .ref ymo])), (yta, .inl (cI, 120, .inl tp))] H := hP
          have hD : va_D A [(ys, .inl (cI, 449, .inl ms)), (ywa, .inl (cI, 6, .inl wa)), (h0, .inr (9, [.ref ys, .ref yk, .ref yo, .ref yt, .int mk0, .ref yfa, .ref yfe, .int mL, .int mS, .int mM, .ref yro, .ref yhe, .ref ygr, .int mF, .int mC, .int mY, .ref yta, .int (nI (mz)), .int (nI (f2_92)), .int (nI (t2_93)), .int mv, .int w2_94, .ref ywa, .ref ybi, .ref ysi, .ref ynu, .ref ymo])), (yta, .inl (cI, 120, .inl tp))] := hD
          refine lv_aload_n hx hb dX9_item_88 rfl (lv_at hl 0 rfl) ?_
          refine xg hF kf_X9_266 hK hP 2 rfl rfl dX9_item_89 ?_
          refine lv_if_eq (tgt := 99) hx hb dX9_item_92 (by decide) (fun c_101 => ?_) (fun c_101 => ?_)
          · skip
            refine lv_aload_n hx hb dX9_item_99 rfl (lv_at hl 0 rfl) ?_
            refine xc_Vi (wr := [(ywa, .inl (cI, 6, .inl wa)), (yta, .inl (cI, 120, .inl tp))]) hF (c_X9_newPlace l D cI cJ cZ cS ta sa sv H.size h0 ys yk yo yt mk0 yfa yfe mL mS mM yro yhe ygr mF mC mY yta mz f2_92 t2_93 mv w2_94 ywa ybi ysi ynu ymo ms P Rn Wn (by omega) hs0 hs1 hs2 hsS hsM hsp hsr hsw hsR) kv_X9_74 ⟨rfl, rfl, Nat.le_of_ble_eq_true rfl, Nat.le_of_ble_eq_true rfl⟩ ⟨Nat.le_of_ble_eq_true rfl, Nat.le_of_ble_eq_true rfl⟩ hK hN hZ hP hD hS hA [2, 0] [1, 3] rfl rfl rfl rfl (by decide) 0 rfl rfl rfl rfl hl.1 rfl (Nat.le_of_ble_eq_true rfl) dX9_item_100 (fun r_102 u_r_102 H locs hw_r_102 hP hD hS => ?_)
            obtain ⟨ms2_103, rfl⟩ : ∃ z, z = u_r_102 := ⟨_, rfl⟩
            try dsimp only at hw_r_102
            obtain ⟨hw_r_102, i_104, i_105, i_106, i_107, i_108, i_109, i_110, i_111, i_112⟩ := hw_r_102
            have hP : va_P D vwCl [(ywa, .inl (cI, 6, .inl wa)), (yta, .inl (cI, 120, .inl tp)), (h0, .inr (9, [.ref ys, .ref yk, .ref yo, .ref yt, .int mk0, .ref yfa, .ref yfe, .int mL, .int mS, .int mM, .ref yro, .ref yhe, .ref ygr, .int mF, .int mC, .int mY, .ref yta, .int (nI (mz)), .int (nI (f2_92)), .int (nI (t2_93)), .int mv, .int w2_94, .ref ywa, .ref ybi, .ref ysi, .ref ynu, .ref ymo])), (ys, .inl (cI, 449, .inl ms2_103))] H := hP
            have hD : va_D A [(ywa, .inl (cI, 6, .inl wa)), (yta, .inl (cI, 120, .inl tp)), (h0, .inr (9, [.ref ys, .ref yk, .ref yo, .ref yt, .int mk0, .ref yfa, .ref yfe, .int mL, .int mS, .int mM, .ref yro, .ref yhe, .ref ygr, .int mF, .int mC, .int mY, .ref yta, .int (nI (mz)), .int (nI (f2_92)), .int (nI (t2_93)), .int mv, .int w2_94, .ref ywa, .ref ybi, .ref ysi, .ref ynu, .ref ymo])), (ys, .inl (cI, 449, .inl ms2_103))] := hD
            subst hw_r_102
            refine lv_istore_n (lv' := [(1, .int (nI (P))), (0, .ref h0)]) hx hb dX9_item_103 rfl hl (by decide) rfl (fun ls hl => ?_)
            refine lv_aload_n hx hb dX9_item_104 rfl (lv_at hl 1 rfl) ?_
            refine lv_bipush (v := 101) hx hb dX9_item_105 (by decide) ?_
            refine lv_bipush (v := 114) hx hb dX9_item_107 (by decide) ?_
            refine lv_bipush (v := 114) hx hb dX9_item_109 (by decide) ?_
            refine lv_bipush (v := 97) hx hb dX9_item_111 (by decide) ?_
            refine lv_bipush (v := 110) hx hb dX9_item_113 (by decide) ?_
            refine lv_bipush (v := 100) hx hb dX9_item_115 (by decide) ?_
            refine lv_bipush (v := 115) hx hb dX9_item_117 (by decide) ?_
            refine xc_Vr hF (c_X9_isWord l D cI cJ cZ cS ta sa sv H.size h0 ys yk yo yt mk0 yfa yfe mL mS mM yro yhe ygr mF mC mY yta mz f2_92 t2_93 mv w2_94 ywa ybi ysi ynu ymo tp 101 114 114 97 110 100 115 (by omega) (by omega)) kv_X9_290 ⟨rfl, rfl, Nat.le_of_ble_eq_true rfl, Nat.le_of_ble_eq_true rfl⟩ ⟨Nat.le_of_ble_eq_true rfl, Nat.le_of_ble_eq_true rfl⟩ hK hN hZ hP hD hS hA [2, 1] rfl rfl 0 rfl rfl rfl rfl hl.1 rfl (Nat.le_of_ble_eq_true rfl) dX9_item_119 (fun r_113 hw_r_113 => ?_)
            rcases hw_r_113 with rfl | rfl
            · skip
              refine lv_if_eq (tgt := 156) hx hb dX9_item_122 (by decide) (fun c_114 => absurd c_114 (by decide)) (fun c_114 => ?_)
              refine lv_aload_n hx hb dX9_item_125 rfl (lv_at hl 1 rfl) ?_
              refine lv_iconst (v := 1) hx hb dX9_item_126 (by decide) ?_
              refine xc_Vv (wr := [(ywa, .inl (cI, 6, .inl wa)), (ys, .inl (cI, 449, .inl ms2_103))]) hF (c_X9_needs l D cI cJ cZ cS ta sa sv H.size h0 ys yk yo yt mk0 yfa yfe mL mS mM yro yhe ygr mF mC mY yta mz f2_92 t2_93 mv w2_94 ywa ybi ysi ynu ymo tp 1 (by omega) (by omega) (by omega) (by omega) (by omega)) kv_X9_278 ⟨rfl, rfl, Nat.le_of_ble_eq_true rfl, Nat.le_of_ble_eq_true rfl⟩ ⟨Nat.le_of_ble_eq_true rfl, Nat.le_of_ble_eq_true rfl⟩ hK hN hZ hP hD hS hA [2, 1] [0, 3] rfl rfl rfl rfl (by decide) 0 rfl rfl rfl rfl hl.1 rfl (Nat.le_of_ble_eq_true rfl) dX9_item_127 (fun u_r_115 H locs hw_r_115 hP hD hS => ?_)
              obtain ⟨f2_116, t2_117, w2_118⟩ := u_r_115
              try dsimp only at hw_r_115
              obtain ⟨i_119, i_120, i_121, i_122, i_123, i_124⟩ := hw_r_115
              have hP : va_P D vwCl [(ywa, .inl (cI, 6, .inl wa)), (ys, .inl (cI, 449, .inl ms2_103)), (h0, .inr (9, [.ref ys, .ref yk, .ref yo, .ref yt, .int mk0, .ref yfa, .ref yfe, .int mL, .int mS, .int mM, .ref yro, .ref yhe, .ref ygr, .int mF, .int mC, .int mY, .ref yta, .int (nI (mz)), .int (nI (f2_116)), .int (nI (t2_117)), .int mv, .int w2_118, .ref ywa, .ref ybi, .ref ysi, .ref ynu, .ref ymo])), (yta, .inl (cI, 120, .inl tp))] H := hP
              have hD : va_D A [(ywa, .inl (cI, 6, .inl wa)), (ys, .inl (cI, 449, .inl ms2_103)), (h0, .inr (9, [.ref ys, .ref yk, .ref yo, .ref yt, .int mk0, .ref yfa, .ref yfe, .int mL, .int mS, .int mM, .ref yro, .ref yhe, .ref ygr, .int mF, .int mC, .int mY, .ref yta, .int (nI (mz)), .int (nI (f2_116)), .int (nI (t2_117)), .int mv, .int w2_118, .ref ywa, .ref ybi, .ref ysi, .ref ynu, .ref ymo])), (yta, .inl (cI, 120, .inl tp))] := hD
              refine lv_aload_n hx hb dX9_item_130 rfl (lv_at hl 1 rfl) ?_
              refine lv_iconst (v := 0) hx hb dX9_item_131 (by decide) ?_
              refine lv_bipush (v := 99) hx hb dX9_item_132 (by decide) ?_
              refine xc_Vv (wr := [(ywa, .inl (cI, 6, .inl wa)), (ys, .inl (cI, 449, .inl ms2_103))]) hF (c_X9_number l D cI cJ cZ cS ta sa sv H.size h0 ys yk yo yt mk0 yfa yfe mL mS mM yro yhe ygr mF mC mY yta mz f2_116 t2_117 mv w2_118 ywa ybi ysi ynu ymo tp 0 99 (by omega) (by omega) (by omega) (by omega) (by omega)) kv_X9_282 ⟨rfl, rfl, Nat.le_of_ble_eq_true rfl, Nat.le_of_ble_eq_true rfl⟩ ⟨Nat.le_of_ble_eq_true rfl, Nat.le_of_ble_eq_true rfl⟩ hK hN hZ hP hD hS hA [2, 3] [0, 1] rfl rfl rfl rfl (by decide) 0 rfl rfl rfl rfl hl.1 rfl (Nat.le_of_ble_eq_true rfl) dX9_item_134 (fun u_r_125 H locs hw_r_125 hP hD hS => ?_)
              obtain ⟨f2_126, t2_127, v2_128, w2_129⟩ := u_r_125
              try dsimp only at hw_r_125
              obtain ⟨i_130, i_131, i_132, i_133, i_134, i_135⟩ := hw_r_125
              have hP : va_P D vwCl [(ywa, .inl (cI, 6, .inl wa)), (ys, .inl (cI, 449, .inl ms2_103)), (h0, .inr (9, [.ref ys, .ref yk, .ref yo, .ref yt, .int mk0, .ref yfa, .ref yfe, .int mL, .int mS, .int mM, .ref yro, .ref yhe, .ref ygr, .int mF, .int mC, .int mY, .ref yta, .int (nI (mz)), .int (nI (f2_126)), .int (nI (t2_127)), .int v2_128, .int w2_129, .ref ywa, .ref ybi, .ref ysi, .ref ynu, .ref ymo])), (yta, .inl (cI, 120, .inl tp))] H := hP
              have hD : va_D A [(ywa, .inl (cI, 6, .inl wa)), (ys, .inl (cI, 449, .inl ms2_103)), (h0, .inr (9, [.ref ys, .ref yk, .ref yo, .ref yt, .int mk0, .ref yfa, .ref yfe, .int mL, .int mS, .int mM, .ref yro, .ref yhe, .ref ygr, .int mF, .int mC, .int mY, .ref yta, .int (nI (mz)), .int (nI (f2_126)), .int (nI (t2_127)), .int v2_128, .int w2_129, .ref ywa, .ref ybi, .ref ysi, .ref ynu, .ref ymo])), (yta, .inl (cI, 120, .inl tp))] := hD
              refine lv_aload_n hx hb dX9_item_137 rfl (lv_at hl 1 rfl) ?_
              refine xg hF kf_X9_266 hK hP 2 rfl rfl dX9_item_138 ?_
              refine lv_if_ne (tgt := 156) hx hb dX9_item_141 (by decide) (fun c_136 => ?_) (fun c_136 => ?_)
              · skip
                exact W.vret hx hb hr (fun t ht hW => ⟨⟨(f2_126, t2_127, v2_128, w2_129, ms2_103, wa, P + 1, Wn), rfl, ⟨(by first | assumption | omega), (by first | assumption | omega), (by first | assumption | omega), (by first | assumption | omega), (by first | assumption | omega), (fun h => ⟨(i_100 (i_124 (i_135 h).1).1).1, trivial⟩), i_104, i_105, i_106, i_107, i_108, i_109, i_110, i_111, i_112⟩, by rw [ht]; exact hP.sub [2, 1, 3, 0] rfl, hD.sub [2, 1, 3, 0] (by decide) rfl⟩, hS.F ht⟩) hS.2.2 dX9_item_156 hlk
              · skip
                refine lv_aload_n hx hb dX9_item_144 rfl (lv_at hl 1 rfl) ?_
                refine xg hF kf_X9_7 hK hP 2 rfl rfl dX9_item_145 ?_
                refine lv_iconst (v := 3) hx hb dX9_item_148 (by decide) ?_
                refine lv_iload_n hx hb dX9_item_149 rfl (lv_at hl 0 rfl) ?_
                refine lv_iadd hx hb dX9_item_150 ?_
                refine xl_i (y := nI (3 + P)) (nI_add 3 P) ?_
                refine lv_aload_n hx hb dX9_item_151 rfl (lv_at hl 1 rfl) ?_
                refine xg hF kf_X9_275 hK hP 2 rfl rfl dX9_item_152 ?_
                refine va_iast hx hb hK hP hD hS 1 0 rfl rfl (vp_in_nI (show 3 + P < 449 by omega) (by decide)) dX9_item_155 (fun H locs hP hD hS => ?_)
                rw [nI_clamp (show 3 + P < 2 ^ 31 by omega)] at hP hD
                obtain ⟨f_137, ef_137⟩ : ∃ g, g = upd ms2_103 (3 + P) v2_128 := ⟨_, rfl⟩
                rw [← ef_137] at hP hD
                have k0_f_137 : f_137 0 = nI (P + 1) := by rw [ef_137]; exact (pk_un (show 0 ≠ (3 + P) by omega)).trans i_104
                have k1_f_137 : f_137 1 = nI Rn := by rw [ef_137]; exact (pk_un (show 1 ≠ (3 + P) by omega)).trans i_105
                have k2_f_137 : f_137 2 = nI Wn := by rw [ef_137]; exact (pk_un (show 2 ≠ (3 + P) by omega)).trans i_106
                have kS_f_137 : SI f_137 := by rw [ef_137]; exact SI.upd i_107 (okS.low (show (3 + P) < 313 by omega))
                have kM_f_137 : MI f_137 := by rw [ef_137]; exact MI.upd i_108 (okM.out (show (3 + P) < 13 ∨ 113 ≤ (3 + P) by omega))
                have kR_f_137 : RI Rn f_137 := by rw [ef_137]; exact RI.upd i_112 (fun r9 hr9 e9 => by omega)
                have hP : va_P D vwCl [(ywa, .inl (cI, 6, .inl wa)), (ys, .inl (cI, 449, .inl f_137)), (h0, .inr (9, [.ref ys, .ref yk, .ref yo, .ref yt, .int mk0, .ref yfa, .ref yfe, .int mL, .int mS, .int mM, .ref yro, .ref yhe, .ref ygr, .int mF, .int mC, .int mY, .ref yta, .int (nI (mz)), .int (nI (f2_126)), .int (nI (t2_127)), .int v2_128, .int w2_129, .ref ywa, .ref ybi, .ref ysi, .ref ynu, .ref ymo])), (yta, .inl (cI, 120, .inl tp))] H := hP
                have hD : va_D A [(ywa, .inl (cI, 6, .inl wa)), (ys, .inl (cI, 449, .inl f_137)), (h0, .inr (9, [.ref ys, .ref yk, .ref yo, .ref yt, .int mk0, .ref yfa, .ref yfe, .int mL, .int mS, .int mM, .ref yro, .ref yhe, .ref ygr, .int mF, .int mC, .int mY, .ref yta, .int (nI (mz)), .int (nI (f2_126)), .int (nI (t2_127)), .int v2_128, .int w2_129, .ref ywa, .ref ybi, .ref ysi, .ref ynu, .ref ymo])), (yta, .inl (cI, 120, .inl tp))] := hD
                exact W.vret hx hb hr (fun t ht hW => ⟨⟨(f2_126, t2_127, v2_128, w2_129, f_137, wa, P + 1, Wn), rfl, ⟨(by first | assumption | omega), (by first | assumption | omega), (by first | assumption | omega), (by first | assumption | omega), (by first | assumption | omega), (fun h => ⟨(i_100 (i_124 (i_135 h).1).1).1, trivial⟩), k0_f_137, k1_f_137, k2_f_137, kS_f_137, kM_f_137, i_109, i_110, i_111, kR_f_137⟩, by rw [ht]; exact hP.sub [2, 1, 3, 0] rfl, hD.sub [2, 1, 3, 0] (by decide) rfl⟩, hS.F ht⟩) hS.2.2 dX9_item_156 hlk
            · skip
              refine lv_if_eq (tgt := 156) hx hb dX9_item_122 (by decide) (fun c_138 => ?_) (fun c_138 => absurd (by decide) c_138)
              exact W.vret hx hb hr (fun t ht hW => ⟨⟨(f2_92, t2_93, mv, w2_94, ms2_103, wa, P + 1, Wn), rfl, ⟨(by first | assumption | omega), (by first | assumption | omega), (by first | assumption | omega), (by first | assumption | omega), (by first | assumption | omega), (fun h => ⟨(i_100 h).1, trivial⟩), i_104, i_105, i_106, i_107, i_108, i_109, i_110, i_111, i_112⟩, by rw [ht]; exact hP.sub [2, 3, 1, 0] rfl, hD.sub [2, 3, 1, 0] (by decide) rfl⟩, hS.F ht⟩) hS.2.2 dX9_item_156 hlk
          · skip
            refine lv_iconst (v := 0) hx hb dX9_item_95 (by decide) ?_
            refine lv_goto (tgt := 103) hx hb dX9_item_96 (by decide) ?_
            refine lv_istore_n (lv' := [(1, .int 0), (0, .ref h0)]) hx hb dX9_item_103 rfl hl (by decide) rfl (fun ls hl => ?_)
            refine lv_aload_n hx hb dX9_item_104 rfl (lv_at hl 1 rfl) ?_
            refine lv_bipush (v := 101) hx hb dX9_item_105 (by decide) ?_
            refine lv_bipush (v := 114) hx hb dX9_item_107 (by decide) ?_
            refine lv_bipush (v := 114) hx hb dX9_item_109 (by decide) ?_
            refine lv_bipush (v := 97) hx hb dX9_item_111 (by decide) ?_
            refine lv_bipush (v := 110) hx hb dX9_item_113 (by decide) ?_
            refine lv_bipush (v := 100) hx hb dX9_item_115 (by decide) ?_
            refine lv_bipush (v := 115) hx hb dX9_item_117 (by decide) ?_
            refine xc_Vr hF (c_X9_isWord l D cI cJ cZ cS ta sa sv H.size h0 ys yk yo yt mk0 yfa yfe mL mS mM yro yhe ygr mF mC mY yta mz f2_92 t2_93 mv w2_94 ywa ybi ysi ynu ymo tp 101 114 114 97 110 100 115 (by omega) (by omega)) kv_X9_290 ⟨rfl, rfl, Nat.le_of_ble_eq_true rfl, Nat.le_of_ble_eq_true rfl⟩ ⟨Nat.le_of_ble_eq_true rfl, Nat.le_of_ble_eq_true rfl⟩ hK hN hZ hP hD hS hA [2, 3] rfl rfl 0 rfl rfl rfl rfl hl.1 rfl (Nat.le_of_ble_eq_true rfl) dX9_item_119 (fun r_139 hw_r_139 => ?_)
            rcases hw_r_139 with rfl | rfl
            · skip
              refine lv_if_eq (tgt := 156) hx hb dX9_item_122 (by decide) (fun c_140 => absurd c_140 (by decide)) (fun c_140 => ?_)
              refine lv_aload_n hx hb dX9_item_125 rfl (lv_at hl 1 rfl) ?_
              refine lv_iconst (v := 1) hx hb dX9_item_126 (by decide) ?_
              refine xc_Vv (wr := [(ys, .inl (cI, 449, .inl ms)), (ywa, .inl (cI, 6, .inl wa))]) hF (c_X9_needs l D cI cJ cZ cS ta sa sv H.size h0 ys yk yo yt mk0 yfa yfe mL mS mM yro yhe ygr mF mC mY yta mz f2_92 t2_93 mv w2_94 ywa ybi ysi ynu ymo tp 1 (by omega) (by omega) (by omega) (by omega) (by omega)) kv_X9_278 ⟨rfl, rfl, Nat.le_of_ble_eq_true rfl, Nat.le_of_ble_eq_true rfl⟩ ⟨Nat.le_of_ble_eq_true rfl, Nat.le_of_ble_eq_true rfl⟩ hK hN hZ hP hD hS hA [2, 3] [0, 1] rfl rfl rfl rfl (by decide) 0 rfl rfl rfl rfl hl.1 rfl (Nat.le_of_ble_eq_true rfl) dX9_item_127 (fun u_r_141 H locs hw_r_141 hP hD hS => ?_)
              obtain ⟨f2_142, t2_143, w2_144⟩ := u_r_141
              try dsimp only at hw_r_141
              obtain ⟨i_145, i_146, i_147, i_148, i_149, i_150⟩ := hw_r_141
              have hP : va_P D vwCl [(ys, .inl (cI, 449, .inl ms)), (ywa, .inl (cI, 6, .inl wa)), (h0, .inr (9, [.ref ys, .ref yk, .ref yo, .ref yt, .int mk0, .ref yfa, .ref yfe, .int mL, .int mS, .int mM, .ref yro, .ref yhe, .ref ygr, .int mF, .int mC, .int mY, .ref yta, .int (nI (mz)), .int (nI (f2_142)), .int (nI (t2_143)), .int mv, .int w2_144, .ref ywa, .ref ybi, .ref ysi, .ref ynu, .ref ymo])), (yta, .inl (cI, 120, .inl tp))] H := hP
              have hD : va_D A [(ys, .inl (cI, 449, .inl ms)), (ywa, .inl (cI, 6, .inl wa)), (h0, .inr (9, [.ref ys, .ref yk, .ref yo, .ref yt, .int mk0, .ref yfa, .ref yfe, .int mL, .int mS, .int mM, .ref yro, .ref yhe, .ref ygr, .int mF, .int mC, .int mY, .ref yta, .int (nI (mz)), .int (nI (f2_142)), .int (nI (t2_143)), .int mv, .int w2_144, .ref ywa, .ref ybi, .ref ysi, .ref ynu, .ref ymo])), (yta, .inl (cI, 120, .inl tp))] := hD
              refine lv_aload_n hx hb dX9_item_130 rfl (lv_at hl 1 rfl) ?_
              refine lv_iconst (v := 0) hx hb dX9_item_131 (by decide) ?_
              refine lv_bipush (v := 99) hx hb dX9_item_132 (by decide) ?_
              refine xc_Vv (wr := [(ys, .inl (cI, 449, .inl ms)), (ywa, .inl (cI, 6, .inl wa))]) hF (c_X9_number l D cI cJ cZ cS ta sa sv H.size h0 ys yk yo yt mk0 yfa yfe mL mS mM yro yhe ygr mF mC mY yta mz f2_142 t2_143 mv w2_144 ywa ybi ysi ynu ymo tp 0 99 (by omega) (by omega) (by omega) (by omega) (by omega)) kv_X9_282 ⟨rfl, rfl, Nat.le_of_ble_eq_true rfl, Nat.le_of_ble_eq_true rfl⟩ ⟨Nat.le_of_ble_eq_true rfl, Nat.le_of_ble_eq_true rfl⟩ hK hN hZ hP hD hS hA [2, 3] [0, 1] rfl rfl rfl rfl (by decide) 0 rfl rfl rfl rfl hl.1 rfl (Nat.le_of_ble_eq_true rfl) dX9_item_134 (fun u_r_151 H locs hw_r_151 hP hD hS => ?_)
              obtain ⟨f2_152, t2_153, v2_154, w2_155⟩ := u_r_151
              try dsimp only at hw_r_151
              obtain ⟨i_156, i_157, i_158, i_159, i_160, i_161⟩ := hw_r_151
              have hP : va_P D vwCl [(ys, .inl (cI, 449, .inl ms)), (ywa, .inl (cI, 6, .inl wa)), (h0, .inr (9, [.ref ys, .ref yk, .ref yo, .ref yt, .int mk0, .ref yfa, .ref yfe, .int mL, .int mS, .int mM, .ref yro, .ref yhe, .ref ygr, .int mF, .int mC, .int mY, .ref yta, .int (nI (mz)), .int (nI (f2_152)), .int (nI (t2_153)), .int v2_154, .int w2_155, .ref ywa, .ref ybi, .ref ysi, .ref ynu, .ref ymo])), (yta, .inl (cI, 120, .inl tp))] H := hP
              have hD : va_D A [(ys, .inl (cI, 449, .inl ms)), (ywa, .inl (cI, 6, .inl wa)), (h0, .inr (9, [.ref ys, .ref yk, .ref yo, .ref yt, .int mk0, .ref yfa, .ref yfe, .int mL, .int mS, .int mM, .ref yro, .ref yhe, .ref ygr, .int mF, .int mC, .int mY, .ref yta, .int (nI (mz)), .int (nI (f2_152)), .int (nI (t2_153)), .int v2_154, .int w2_155, .ref ywa, .ref ybi, .ref ysi, .ref ynu, .ref ymo])), (yta, .inl (cI, 120, .inl tp))] := hD
              refine lv_aload_n hx hb dX9_item_137 rfl (lv_at hl 1 rfl) ?_
              refine xg hF kf_X9_266 hK hP 2 rfl rfl dX9_item_138 ?_
              refine lv_if_ne (tgt := 156) hx hb dX9_item_141 (by decide) (fun c_162 => ?_) (fun c_162 => ?_)
              · skip
                exact W.vret hx hb hr (fun t ht hW => ⟨⟨(f2_152, t2_153, v2_154, w2_155, ms, wa, P, Wn), rfl, ⟨(by first | assumption | omega), (by first | assumption | omega), (by first | assumption | omega), (by first | assumption | omega), (by first | assumption | omega), (fun h => ⟨(i_100 (i_150 (i_161 h).1).1).1, trivial⟩), hs0, hs1, hs2, hsS, hsM, hsp, hsr, hsw, hsR⟩, by rw [ht]; exact hP.sub [2, 0, 3, 1] rfl, hD.sub [2, 0, 3, 1] (by decide) rfl⟩, hS.F ht⟩) hS.2.2 dX9_item_156 hlk
              · skip
                refine lv_aload_n hx hb dX9_item_144 rfl (lv_at hl 1 rfl) ?_
                refine xg hF kf_X9_7 hK hP 2 rfl rfl dX9_item_145 ?_
                refine lv_iconst (v := 3) hx hb dX9_item_148 (by decide) ?_
                refine lv_iload_n hx hb dX9_item_149 rfl (lv_at hl 0 rfl) ?_
                refine lv_iadd hx hb dX9_item_150 ?_
                refine xl_i (y := 3) (by decide) ?_
                refine lv_aload_n hx hb dX9_item_151 rfl (lv_at hl 1 rfl) ?_
                refine xg hF kf_X9_275 hK hP 2 rfl rfl dX9_item_152 ?_
                refine va_iast hx hb hK hP hD hS 0 0 rfl rfl (xin 3 449 (by decide) (by decide)) dX9_item_155 (fun H locs hP hD hS => ?_)
                obtain ⟨f_163, ef_163⟩ : ∃ g, g = upd ms 3 v2_154 := ⟨_, rfl⟩
                have hP : va_P D vwCl [(ys, .inl (cI, 449, .inl (upd ms 3 v2_154))), (ywa, .inl (cI, 6, .inl wa)), (h0, .inr (9, [.ref ys, .ref yk, .ref yo, .ref yt, .int mk0, .ref yfa, .ref yfe, .int mL, .int mS, .int mM, .ref yro, .ref yhe, .ref ygr, .int mF, .int mC, .int mY, .ref yta, .int (nI (mz)), .int (nI (f2_152)), .int (nI (t2_153)), .int v2_154, .int w2_155, .ref ywa, .ref ybi, .ref ysi, .ref ynu, .ref ymo])), (yta, .inl (cI, 120, .inl tp))] H := hP
                have hD : va_D A [(ys, .inl (cI, 449, .inl (upd ms 3 v2_154))), (ywa, .inl (cI, 6, .inl wa)), (h0, .inr (9, [.ref ys, .ref yk, .ref yo, .ref yt, .int mk0, .ref yfa, .ref yfe, .int mL, .int mS, .int mM, .ref yro, .ref yhe, .ref ygr, .int mF, .int mC, .int mY, .ref yta, .int (nI (mz)), .int (nI (f2_152)), .int (nI (t2_153)), .int v2_154, .int w2_155, .ref ywa, .ref ybi, .ref ysi, .ref ynu, .ref ymo])), (yta, .inl (cI, 120, .inl tp))] := hD
                rw [← ef_163] at hP hD
                have k0_f_163 : f_163 0 = nI P := by rw [ef_163]; exact (pk_un (show 0 ≠ 3 by omega)).trans hs0
                have k1_f_163 : f_163 1 = nI Rn := by rw [ef_163]; exact (pk_un (show 1 ≠ 3 by omega)).trans hs1
                have k2_f_163 : f_163 2 = nI Wn := by rw [ef_163]; exact (pk_un (show 2 ≠ 3 by omega)).trans hs2
                have kS_f_163 : SI f_163 := by rw [ef_163]; exact SI.upd hsS (okS.low (show 3 < 313 by omega))
                have kM_f_163 : MI f_163 := by rw [ef_163]; exact MI.upd hsM (okM.out (show 3 < 13 ∨ 113 ≤ 3 by omega))
                have kR_f_163 : RI Rn f_163 := by rw [ef_163]; exact RI.upd hsR (fun r9 hr9 e9 => by omega)
                have hP : va_P D vwCl [(ys, .inl (cI, 449, .inl f_163)), (ywa, .inl (cI, 6, .inl wa)), (h0, .inr (9, [.ref ys, .ref yk, .ref yo, .ref yt, .int mk0, .ref yfa, .ref yfe, .int mL, .int mS, .int mM, .ref yro, .ref yhe, .ref ygr, .int mF, .int mC, .int mY, .ref yta, .int (nI (mz)), .int (nI (f2_152)), .int (nI (t2_153)), .int v2_154, .int w2_155, .ref ywa, .ref ybi, .ref ysi, .ref ynu, .ref ymo])), (yta, .inl (cI, 120, .inl tp))] H := hP
                have hD : va_D A [(ys, .inl (cI, 449, .inl f_163)), (ywa, .inl (cI, 6, .inl wa)), (h0, .inr (9, [.ref ys, .ref yk, .ref yo, .ref yt, .int mk0, .ref yfa, .ref yfe, .int mL, .int mS, .int mM, .ref yro, .ref yhe, .ref ygr, .int mF, .int mC, .int mY, .ref yta, .int (nI (mz)), .int (nI (f2_152)), .int (nI (t2_153)), .int v2_154, .int w2_155, .ref ywa, .ref ybi, .ref ysi, .ref ynu, .ref ymo])), (yta, .inl (cI, 120, .inl tp))] := hD
                exact W.vret hx hb hr (fun t ht hW => ⟨⟨(f2_152, t2_153, v2_154, w2_155, f_163, wa, P, Wn), rfl, ⟨(by first | assumption | omega), (by first | assumption | omega), (by first | assumption | omega), (by first | assumption | omega), (by first | assumption | omega), (fun h => ⟨(i_100 (i_150 (i_161 h).1).1).1, trivial⟩), k0_f_163, k1_f_163, k2_f_163, kS_f_163, kM_f_163, hsp, hsr, hsw, kR_f_163⟩, by rw [ht]; exact hP.sub [2, 0, 3, 1] rfl, hD.sub [2, 0, 3, 1] (by decide) rfl⟩, hS.F ht⟩) hS.2.2 dX9_item_156 hlk
            · skip
              refine lv_if_eq (tgt := 156) hx hb dX9_item_122 (by decide) (fun c_164 => ?_) (fun c_164 => absurd (by decide) c_164)
              exact W.vret hx hb hr (fun t ht hW => ⟨⟨(f2_92, t2_93, mv, w2_94, ms, wa, P, Wn), rfl, ⟨(by first | assumption | omega), (by first | assumption | omega), (by first | assumption | omega), (by first | assumption | omega), (by first | assumption | omega), (fun h => ⟨(i_100 h).1, trivial⟩), hs0, hs1, hs2, hsS, hsM, hsp, hsr, hsw, hsR⟩, by rw [ht]; exact hP.sub [2, 0, 3, 1] rfl, hD.sub [2, 0, 3, 1] (by decide) rfl⟩, hS.F ht⟩) hS.2.2 dX9_item_156 hlk
      · skip
        refine lv_if_eq (tgt := 84) hx hb dX9_item_66 (by decide) (fun c_165 => ?_) (fun c_165 => absurd (by decide) c_165)
        refine lv_iconst (v := 0) hx hb dX9_item_84 (by decide) ?_
        refine xc_Vv (wr := [(ys, .inl (cI, 449, .inl ms)), (ywa, .inl (cI, 6, .inl wa))]) hF (c_X9_needs l D cI cJ cZ cS ta sa sv s.heap.size h0 ys yk yo yt mk0 yfa yfe mL mS mM yro yhe ygr mF mC mY yta mz mf mt mv mw ywa ybi ysi ynu ymo tp 0 (by omega) (by omega) (by omega) (by omega) (by omega)) kv_X9_278 ⟨rfl, rfl, Nat.le_of_ble_eq_true rfl, Nat.le_of_ble_eq_true rfl⟩ ⟨Nat.le_of_ble_eq_true rfl, Nat.le_of_ble_eq_true rfl⟩ hK hN hZ hP hD hS hA [0, 2] [1, 3] rfl rfl rfl rfl (by decide) 0 rfl rfl rfl rfl hl.1 rfl (Nat.le_of_ble_eq_true rfl) dX9_item_85 (fun u_r_166 H locs hw_r_166 hP hD hS => ?_)
        obtain ⟨f2_167, t2_168, w2_169⟩ := u_r_166
        try dsimp only at hw_r_166
        obtain ⟨i_170, i_171, i_172, i_173, i_174, i_175⟩ := hw_r_166
        have hP : va_P D vwCl [(ys, .inl (cI, 449, .inl ms)), (ywa, .inl (cI, 6, .inl wa)), (h0, .inr (9, [.ref ys, .ref yk, .ref yo, .ref yt, .int mk0, .ref yfa, .ref yfe, .int mL, .int mS, .int mM, .ref yro, .ref yhe, .ref ygr, .int mF, .int mC, .int mY, .ref yta, .int (nI (mz)), .int (nI (f2_167)), .int (nI (t2_168)), .int mv, .int w2_169, .ref ywa, .ref ybi, .ref ysi, .ref ynu, .ref ymo])), (yta, .inl (cI, 120, .inl tp))] H := hP
        have hD : va_D A [(ys, .inl (cI, 449, .inl ms)), (ywa, .inl (cI, 6, .inl wa)), (h0, .inr (9, [.ref ys, .ref yk, .ref yo, .ref yt, .int mk0, .ref yfa, .ref yfe, .int mL, .int mS, .int mM, .ref yro, .ref yhe, .ref ygr, .int mF, .int mC, .int mY, .ref yta, .int (nI (mz)), .int (nI (f2_167)), .int (nI (t2_168)), .int mv, .int w2_169, .ref ywa, .ref ybi, .ref ysi, .ref ynu, .ref ymo])), (yta, .inl (cI, 120, .inl tp))] := hD
        refine lv_aload_n hx hb dX9_item_88 rfl (lv_at hl 0 rfl) ?_
        refine xg hF kf_X9_266 hK hP 2 rfl rfl dX9_item_89 ?_
        refine lv_if_eq (tgt := 99) hx hb dX9_item_92 (by decide) (fun c_176 => absurd rfl (i_175 c_176).2.1) (fun c_176 => ?_)
        refine lv_iconst (v := 0) hx hb dX9_item_95 (by decide) ?_
        refine lv_goto (tgt := 103) hx hb dX9_item_96 (by decide) ?_
        refine lv_istore_n (lv' := [(1, .int 0), (0, .ref h0)]) hx hb dX9_item_103 rfl hl (by decide) rfl (fun ls hl => ?_)
        refine lv_aload_n hx hb dX9_item_104 rfl (lv_at hl 1 rfl) ?_
        refine lv_bipush (v := 101) hx hb dX9_item_105 (by decide) ?_
        refine lv_bipush (v := 114) hx hb dX9_item_107 (by decide) ?_
        refine lv_bipush (v := 114) hx hb dX9_item_109 (by decide) ?_
        refine lv_bipush (v := 97) hx hb dX9_item_111 (by decide) ?_
        refine lv_bipush (v := 110) hx hb dX9_item_113 (by decide) ?_
        refine lv_bipush (v := 100) hx hb dX9_item_115 (by decide) ?_
        refine lv_bipush (v := 115) hx hb dX9_item_117 (by decide) ?_
        refine xc_Vr hF (c_X9_isWord l D cI cJ cZ cS ta sa sv H.size h0 ys yk yo yt mk0 yfa yfe mL mS mM yro yhe ygr mF mC mY yta mz f2_167 t2_168 mv w2_169 ywa ybi ysi ynu ymo tp 101 114 114 97 110 100 115 (by omega) (by omega)) kv_X9_290 ⟨rfl, rfl, Nat.le_of_ble_eq_true rfl, Nat.le_of_ble_eq_true rfl⟩ ⟨Nat.le_of_ble_eq_true rfl, Nat.le_of_ble_eq_true rfl⟩ hK hN hZ hP hD hS hA [2, 3] rfl rfl 0 rfl rfl rfl rfl hl.1 rfl (Nat.le_of_ble_eq_true rfl) dX9_item_119 (fun r_177 hw_r_177 => ?_)
        rcases hw_r_177 with rfl | rfl
        · skip
          refine lv_if_eq (tgt := 156) hx hb dX9_item_122 (by decide) (fun c_178 => absurd c_178 (by decide)) (fun c_178 => ?_)
          refine lv_aload_n hx hb dX9_item_125 rfl (lv_at hl 1 rfl) ?_
          refine lv_iconst (v := 1) hx hb dX9_item_126 (by decide) ?_
          refine xc_Vv (wr := [(ys, .inl (cI, 449, .inl ms)), (ywa, .inl (cI, 6, .inl wa))]) hF (c_X9_needs l D cI cJ cZ cS ta sa sv H.size h0 ys yk yo yt mk0 yfa yfe mL mS mM yro yhe ygr mF mC mY yta mz f2_167 t2_168 mv w2_169 ywa ybi ysi ynu ymo tp 1 (by omega) (by omega) (by omega) (by omega) (by omega)) kv_X9_278 ⟨rfl, rfl, Nat.le_of_ble_eq_true rfl, Nat.le_of_ble_eq_true rfl⟩ ⟨Nat.le_of_ble_eq_true rfl, Nat.le_of_ble_eq_true rfl⟩ hK hN hZ hP hD hS hA [2, 3] [0, 1] rfl rfl rfl rfl (by decide) 0 rfl rfl rfl rfl hl.1 rfl (Nat.le_of_ble_eq_true rfl) dX9_item_127 (fun u_r_179 H locs hw_r_179 hP hD hS => ?_)
          obtain ⟨f2_180, t2_181, w2_182⟩ := u_r_179
          try dsimp only at hw_r_179
          obtain ⟨i_183, i_184, i_185, i_186, i_187, i_188⟩ := hw_r_179
          have hP : va_P D vwCl [(ys, .inl (cI, 449, .inl ms)), (ywa, .inl (cI, 6, .inl wa)), (h0, .inr (9, [.ref ys, .ref yk, .ref yo, .ref yt, .int mk0, .ref yfa, .ref yfe, .int mL, .int mS, .int mM, .ref yro, .ref yhe, .ref ygr, .int mF, .int mC, .int mY, .ref yta, .int (nI (mz)), .int (nI (f2_180)), .int (nI (t2_181)), .int mv, .int w2_182, .ref ywa, .ref ybi, .ref ysi, .ref ynu, .ref ymo])), (yta, .inl (cI, 120, .inl tp))] H := hP
          have hD : va_D A [(ys, .inl (cI, 449, .inl ms)), (ywa, .inl (cI, 6, .inl wa)), (h0, .inr (9, [.ref ys, .ref yk, .ref yo, .ref yt, .int mk0, .ref yfa, .ref yfe, .int mL, .int mS, .int mM, .ref yro, .ref yhe, .ref ygr, .int mF, .int mC, .int mY, .ref yta, .int (nI (mz)), .int (nI (f2_180)), .int (nI (t2_181)), .int mv, .int w2_182, .ref ywa, .ref ybi, .ref ysi, .ref ynu, .ref ymo])), (yta, .inl (cI, 120, .inl tp))] := hD
          refine lv_aload_n hx hb dX9_item_130 rfl (lv_at hl 1 rfl) ?_
          refine lv_iconst (v := 0) hx hb dX9_item_131 (by decide) ?_
          refine lv_bipush (v := 99) hx hb dX9_item_132 (by decide) ?_
          refine xc_Vv (wr := [(ys, .inl (cI, 449, .inl ms)), (ywa, .inl (cI, 6, .inl wa))]) hF (c_X9_number l D cI cJ cZ cS ta sa sv H.size h0 ys yk yo yt mk0 yfa yfe mL mS mM yro yhe ygr mF mC mY yta mz f2_180 t2_181 mv w2_182 ywa ybi ysi ynu ymo tp 0 99 (by omega) (by omega) (by omega) (by omega) (by omega)) kv_X9_282 ⟨rfl, rfl, Nat.le_of_ble_eq_true rfl, Nat.le_of_ble_eq_true rfl⟩ ⟨Nat.le_of_ble_eq_true rfl, Nat.le_of_ble_eq_true rfl⟩ hK hN hZ hP hD hS hA [2, 3] [0, 1] rfl rfl rfl rfl (by decide) 0 rfl rfl rfl rfl hl.1 rfl (Nat.le_of_ble_eq_true rfl) dX9_item_134 (fun u_r_189 H locs hw_r_189 hP hD hS => ?_)
          obtain ⟨f2_190, t2_191, v2_192, w2_193⟩ := u_r_189
          try dsimp only at hw_r_189
          obtain ⟨i_194, i_195, i_196, i_197, i_198, i_199⟩ := hw_r_189
          have hP : va_P D vwCl [(ys, .inl (cI, 449, .inl ms)), (ywa, .inl (cI, 6, .inl wa)), (h0, .inr (9, [.ref ys, .ref yk, .ref yo, .ref yt, .int mk0, .ref yfa, .ref yfe, .int mL, .int mS, .int mM, .ref yro, .ref yhe, .ref ygr, .int mF, .int mC, .int mY, .ref yta, .int (nI (mz)), .int (nI (f2_190)), .int (nI (t2_191)), .int v2_192, .int w2_193, .ref ywa, .ref ybi, .ref ysi, .ref ynu, .ref ymo])), (yta, .inl (cI, 120, .inl tp))] H := hP
          have hD : va_D A [(ys, .inl (cI, 449, .inl ms)), (ywa, .inl (cI, 6, .inl wa)), (h0, .inr (9, [.ref ys, .ref yk, .ref yo, .ref yt, .int mk0, .ref yfa, .ref yfe, .int mL, .int mS, .int mM, .ref yro, .ref yhe, .ref ygr, .int mF, .int mC, .int mY, .ref yta, .int (nI (mz)), .int (nI (f2_190)), .int (nI (t2_191)), .int v2_192, .int w2_193, .ref ywa, .ref ybi, .ref ysi, .ref ynu, .ref ymo])), (yta, .inl (cI, 120, .inl tp))] := hD
          refine lv_aload_n hx hb dX9_item_137 rfl (lv_at hl 1 rfl) ?_
          refine xg hF kf_X9_266 hK hP 2 rfl rfl dX9_item_138 ?_
          refine lv_if_ne (tgt := 156) hx hb dX9_item_141 (by decide) (fun c_200 => ?_) (fun c_200 => ?_)
          · skip
            exact W.vret hx hb hr (fun t ht hW => ⟨⟨(f2_190, t2_191, v2_192, w2_193, ms, wa, P, Wn), rfl, ⟨(by first | assumption | omega), (by first | assumption | omega), (by first | assumption | omega), (by first | assumption | omega), (by first | assumption | omega), (fun h => ⟨(i_175 (i_188 (i_199 h).1).1).1, trivial⟩), hs0, hs1, hs2, hsS, hsM, hsp, hsr, hsw, hsR⟩, by rw [ht]; exact hP.sub [2, 0, 3, 1] rfl, hD.sub [2, 0, 3, 1] (by decide) rfl⟩, hS.F ht⟩) hS.2.2 dX9_item_156 hlk
          · skip
            refine lv_aload_n hx hb dX9_item_144 rfl (lv_at hl 1 rfl) ?_
            refine xg hF kf_X9_7 hK hP 2 rfl rfl dX9_item_145 ?_
            refine lv_iconst (v := 3) hx hb dX9_item_148 (by decide) ?_
            refine lv_iload_n hx hb dX9_item_149 rfl (lv_at hl 0 rfl) ?_
            refine lv_iadd hx hb dX9_item_150 ?_
            refine xl_i (y := 3) (by decide) ?_
            refine lv_aload_n hx hb dX9_item_151 rfl (lv_at hl 1 rfl) ?_
            refine xg hF kf_X9_275 hK hP 2 rfl rfl dX9_item_152 ?_
            refine va_iast hx hb hK hP hD hS 0 0 rfl rfl (xin 3 449 (by decide) (by decide)) dX9_item_155 (fun H locs hP hD hS => ?_)
            obtain ⟨f_201, ef_201⟩ : ∃ g, g = upd ms 3 v2_192 := ⟨_, rfl⟩
            have hP : va_P D vwCl [(ys, .inl (cI, 449, .inl (upd ms 3 v2_192))), (ywa, .inl (cI, 6, .inl wa)), (h0, .inr (9, [.ref ys, .ref yk, .ref yo, .ref yt, .int mk0, .ref yfa, .ref yfe, .int mL, .int mS, .int mM, .ref yro, .ref yhe, .ref ygr, .int mF, .int mC, .int mY, .ref yta, .int (nI (mz)), .int (nI (f2_190)), .int (nI (t2_191)), .int v2_192, .int w2_193, .ref ywa, .ref ybi, .ref ysi, .ref ynu, .ref ymo])), (yta, .inl (cI, 120, .inl tp))] H := hP
            have hD : va_D A [(ys, .inl (cI, 449, .inl (upd ms 3 v2_192))), (ywa, .inl (cI, 6, .inl wa)), (h0, .inr (9, [.ref ys, .ref yk, .ref yo, .ref yt, .int mk0, .ref yfa, .ref yfe, .int mL, .int mS, .int mM, .ref yro, .ref yhe, .ref ygr, .int mF, .int mC, .int mY, .ref yta, .int (nI (mz)), .int (nI (f2_190)), .int (nI (t2_191)), .int v2_192, .int w2_193, .ref ywa, .ref ybi, .ref ysi, .ref ynu, .ref ymo])), (yta, .inl (cI, 120, .inl tp))] := hD
            rw [← ef_201] at hP hD
            have k0_f_201 : f_201 0 = nI P := by rw [ef_201]; exact (pk_un (show 0 ≠ 3 by omega)).trans hs0
            have k1_f_201 : f_201 1 = nI Rn := by rw [ef_201]; exact (pk_un (show 1 ≠ 3 by omega)).trans hs1
            have k2_f_201 : f_201 2 = nI Wn := by rw [ef_201]; exact (pk_un (show 2 ≠ 3 by omega)).trans hs2
            have kS_f_201 : SI f_201 := by rw [ef_201]; exact SI.upd hsS (okS.low (show 3 < 313 by omega))
            have kM_f_201 : MI f_201 := by rw [ef_201]; exact MI.upd hsM (okM.out (show 3 < 13 ∨ 113 ≤ 3 by omega))
            have kR_f_201 : RI Rn f_201 := by rw [ef_201]; exact RI.upd hsR (fun r9 hr9 e9 => by omega)
            have hP : va_P D vwCl [(ys, .inl (cI, 449, .inl f_201)), (ywa, .inl (cI, 6, .inl wa)), (h0, .inr (9, [.ref ys, .ref yk, .ref yo, .ref yt, .int mk0, .ref yfa, .ref yfe, .int mL, .int mS, .int mM, .ref yro, .ref yhe, .ref ygr, .int mF, .int mC, .int mY, .ref yta, .int (nI (mz)), .int (nI (f2_190)), .int (nI (t2_191)), .int v2_192, .int w2_193, .ref ywa, .ref ybi, .ref ysi, .ref ynu, .ref ymo])), (yta, .inl (cI, 120, .inl tp))] H := hP
            have hD : va_D A [(ys, .inl (cI, 449, .inl f_201)), (ywa, .inl (cI, 6, .inl wa)), (h0, .inr (9, [.ref ys, .ref yk, .ref yo, .ref yt, .int mk0, .ref yfa, .ref yfe, .int mL, .int mS, .int mM, .ref yro, .ref yhe, .ref ygr, .int mF, .int mC, .int mY, .ref yta, .int (nI (mz)), .int (nI (f2_190)), .int (nI (t2_191)), .int v2_192, .int w2_193, .ref ywa, .ref ybi, .ref ysi, .ref ynu, .ref ymo])), (yta, .inl (cI, 120, .inl tp))] := hD
            exact W.vret hx hb hr (fun t ht hW => ⟨⟨(f2_190, t2_191, v2_192, w2_193, f_201, wa, P, Wn), rfl, ⟨(by first | assumption | omega), (by first | assumption | omega), (by first | assumption | omega), (by first | assumption | omega), (by first | assumption | omega), (fun h => ⟨(i_175 (i_188 (i_199 h).1).1).1, trivial⟩), k0_f_201, k1_f_201, k2_f_201, kS_f_201, kM_f_201, hsp, hsr, hsw, kR_f_201⟩, by rw [ht]; exact hP.sub [2, 0, 3, 1] rfl, hD.sub [2, 0, 3, 1] (by decide) rfl⟩, hS.F ht⟩) hS.2.2 dX9_item_156 hlk
        · skip
          refine lv_if_eq (tgt := 156) hx hb dX9_item_122 (by decide) (fun c_202 => ?_) (fun c_202 => absurd (by decide) c_202)
          exact W.vret hx hb hr (fun t ht hW => ⟨⟨(f2_167, t2_168, mv, w2_169, ms, wa, P, Wn), rfl, ⟨(by first | assumption | omega), (by first | assumption | omega), (by first | assumption | omega), (by first | assumption | omega), (by first | assumption | omega), (fun h => ⟨(i_175 h).1, trivial⟩), hs0, hs1, hs2, hsS, hsM, hsp, hsr, hsw, hsR⟩, by rw [ht]; exact hP.sub [2, 0, 3, 1] rfl, hD.sub [2, 0, 3, 1] (by decide) rfl⟩, hS.F ht⟩) hS.2.2 dX9_item_156 hlk
set_option maxHeartbeats 4000000 in
set_option maxRecDepth 100000 in
theorem c_X9_land (l : Launch) (D : va_G) (cI cJ cZ cS : ClassId) (ta : Nat) (sa sv : Nat → Nat) (sz : Nat) (h0 : Nat) (ys : Nat) (yk : Nat) (yo : Nat) (yt : Nat) (mk0 : Int32) (yfa : Nat) (yfe : Nat) (mL : Int32) (mS : Int32) (mM : Int32) (yro : Nat) (yhe : Nat) (ygr : Nat) (mF : Int32) (mC : Int32) (mY : Int32) (yta : Nat) (mz : Nat) (mf : Nat) (mt : Nat) (mv : Int32) (mw : Int32) (ywa : Nat) (ybi : Nat) (ysi : Nat) (ynu : Nat) (ymo : Nat) (ms : Nat → Int32) (oo : Nat → Int32) (tp : Nat → Int32) (wa : Nat → Int32) (P : Nat) (Rn : Nat) (Wn : Nat) (hz : mz ≤ 120) (hs0 : ms 0 = nI P) (hs1 : ms 1 = nI Rn) (hs2 : ms 2 = nI Wn) (hsS : SI ms) (hsM : MI ms) (hsp : P ≤ 10) (hsr : Rn ≤ 8) (hsw : Wn ≤ 8) (hsR : RI Rn ms) : Met l yX9_land (Cond.code yX9_land cX9_land 2 (some .int) :: wsU) ({ frames := 8, cells := 0, slots := 0, locals := 183 }) (va_Pc [.ref h0] (XW D (xT cI cJ cZ cS) ta sa sv [(h0, .inr (9, [.ref ys, .ref yk, .ref yo, .ref yt, .int mk0, .ref yfa, .ref yfe, .int mL, .int mS, .int mM, .ref yro, .ref yhe, .ref ygr, .int mF, .int mC, .int mY, .ref yta, .int (nI (mz)), .int (nI (mf)), .int (nI (mt)), .int mv, .int mw, .ref ywa, .ref ybi, .ref ysi, .ref ynu, .ref ymo])), (ys, .inl (cI, 449, .inl ms)), (yo, .inl (cI, 449, .inl oo)), (yta, .inl (cI, 120, .inl tp)), (ywa, .inl (cI, 6, .inl wa))] sz)) (XQi (fun (r : Int32) (u : Nat × Nat × Int32 × Int32 × (Nat → Int32) × (Nat → Int32) × (Nat → Int32) × Nat × Nat × Nat) => match u with | (f2, t2, v2, w2, ms2, oo2, wa2, P2, R2, W2) => (True) ∧ (ms2 0 = nI P2) ∧ (ms2 1 = nI R2) ∧ (ms2 2 = nI W2) ∧ (SI ms2) ∧ (MI ms2) ∧ (P2 ≤ 10) ∧ (R2 ≤ 8) ∧ (W2 ≤ 8) ∧ (RI R2 ms2)) D (fun (u : Nat × Nat × Int32 × Int32 × (Nat → Int32) × (Nat → Int32) × (Nat → Int32) × Nat × Nat × Nat) => match u with | (f2, t2, v2, w2, ms2, oo2, wa2, P2, R2, W2) => [(h0, .inr (9, [.ref ys, .ref yk, .ref yo, .ref yt, .int mk0, .ref yfa, .ref yfe, .int mL, .int mS, .int mM, .ref yro, .ref yhe, .ref ygr, .int mF, .int mC, .int mY, .ref yta, .int 0, .int (nI (f2)), .int (nI (t2)), .int v2, .int w2, .ref ywa, .ref ybi, .ref ysi, .ref ynu, .ref ymo])), (ys, .inl (cI, 449, .inl ms2)), (yo, .inl (cI, 449, .inl oo2)), (yta, .inl (cI, 120, .inl tp)), (ywa, .inl (cI, 6, .inl wa2))]) (va_A [(h0, .inr (9, [.ref ys, .ref yk, .ref yo, .ref yt, .int mk0, .ref yfa, .ref yfe, .int mL, .int mS, .int mM, .ref yro, .ref yhe, .ref ygr, .int mF, .int mC, .int mY, .ref yta, .int (nI (mz)), .int (nI (mf)), .int (nI (mt)), .int mv, .int mw, .ref ywa, .ref ybi, .ref ysi, .ref ynu, .ref ymo])), (ys, .inl (cI, 449, .inl ms)), (yo, .inl (cI, 449, .inl oo)), (yta, .inl (cI, 120, .inl tp)), (ywa, .inl (cI, 6, .inl wa))] sz)) 0 0 (va_A [(h0, .inr (9, [.ref ys, .ref yk, .ref yo, .ref yt, .int mk0, .ref yfa, .ref yfe, .int mL, .int mS, .int mM, .ref yro, .ref yhe, .ref ygr, .int mF, .int mC, .int mY, .ref yta, .int (nI (mz)), .int (nI (mf)), .int (nI (mt)), .int mv, .int mw, .ref ywa, .ref ybi, .ref ysi, .ref ynu, .ref ymo])), (ys, .inl (cI, 449, .inl ms)), (yo, .inl (cI, 449, .inl oo)), (yta, .inl (cI, 120, .inl tp)), (ywa, .inl (cI, 6, .inl wa))] sz) := by
  refine xh (QA := fun A => XQi (fun (r : Int32) (u : Nat × Nat × Int32 × Int32 × (Nat → Int32) × (Nat → Int32) × (Nat → Int32) × Nat × Nat × Nat) => match u with | (f2, t2, v2, w2, ms2, oo2, wa2, P2, R2, W2) => (True) ∧ (ms2 0 = nI P2) ∧ (ms2 1 = nI R2) ∧ (ms2 2 = nI W2) ∧ (SI ms2) ∧ (MI ms2) ∧ (P2 ≤ 10) ∧ (R2 ≤ 8) ∧ (W2 ≤ 8) ∧ (RI R2 ms2)) D (fun (u : Nat × Nat × Int32 × Int32 × (Nat → Int32) × (Nat → Int32) × (Nat → Int32) × Nat × Nat × Nat) => match u with | (f2, t2, v2, w2, ms2, oo2, wa2, P2, R2, W2) => [(h0, .inr (9, [.ref ys, .ref yk, .ref yo, .ref yt, .int mk0, .ref yfa, .ref yfe, .int mL, .int mS, .int mM, .ref yro, .ref yhe, .ref ygr, .int mF, .int mC, .int mY, .ref yta, .int 0, .int (nI (f2)), .int (nI (t2)), .int v2, .int w2, .ref ywa, .ref ybi, .ref ysi, .ref ynu, .ref ymo])), (ys, .inl (cI, 449, .inl ms2)), (yo, .inl (cI, 449, .inl oo2)), (yta, .inl (cI, 120, .inl tp)), (ywa, .inl (cI, 6, .inl wa2))]) A) (fr := fun A => A) (by decide) (Nat.le_of_ble_eq_true rfl) ?_
  intro p e s m below meth c ls A hF hr hlk hin hsz hP hK hD hN hZ hA hS hl
  have hF : CallFix p m c cX9_land 2 s _ _ RX9 := hF
  have hx := hF.1
  have hb := hF.2.1
  have hml := hF.2.2.1
  have hown := hF.2.2.2.1
  have hu : ∀ w ∈ wsU, w.before _ s = true := fun w h => hF.2.2.2.2 w (List.mem_cons_of_mem _ h)
  have hl : lv_has ls 2 [(0, .ref h0)] := hl
  refine lv_aload_n hx hb dX9_land_0 rfl (lv_at hl 0 rfl) ?_
  refine xc_Vv (wr := [(yta, .inl (cI, 120, .inl tp)), (ywa, .inl (cI, 6, .inl wa))]) hF (c_X9_puts l D cI cJ cZ cS ta sa sv s.heap.size h0 ys yk yo yt mk0 yfa yfe mL mS mM yro yhe ygr mF mC mY yta mz mf mt mv mw ywa ybi ysi ynu ymo ms oo P Rn Wn hs0 hs1 hs2 hsS hsM hsp hsr hsw hsR) kv_X9_217 ⟨rfl, rfl, Nat.le_of_ble_eq_true rfl, Nat.le_of_ble_eq_true rfl⟩ ⟨Nat.le_of_ble_eq_true rfl, Nat.le_of_ble_eq_true rfl⟩ hK hN hZ hP hD hS hA [0, 1, 2] [3, 4] rfl rfl rfl rfl (by decide) 0 rfl rfl rfl rfl hl.1 rfl (Nat.le_of_ble_eq_true rfl) dX9_land_1 (fun u_r_1 H locs hw_r_1 hP hD hS => ?_)
  obtain ⟨oo2_2, rfl⟩ : ∃ z, z = u_r_1 := ⟨_, rfl⟩
  try dsimp only at hw_r_1
  obtain ⟨i_3, i_4, i_5, i_6, i_7, i_8, i_9, i_10, i_11, i_12⟩ := hw_r_1
  have hP : va_P D vwCl [(yta, .inl (cI, 120, .inl tp)), (ywa, .inl (cI, 6, .inl wa)), (h0, .inr (9, [.ref ys, .ref yk, .ref yo, .ref yt, .int mk0, .ref yfa, .ref yfe, .int mL, .int mS, .int mM, .ref yro, .ref yhe, .ref ygr, .int mF, .int mC, .int mY, .ref yta, .int (nI (mz)), .int (nI (mf)), .int (nI (mt)), .int mv, .int mw, .ref ywa, .ref ybi, .ref ysi, .ref ynu, .ref ymo])), (ys, .inl (cI, 449, .inl ms)), (yo, .inl (cI, 449, .inl oo2_2))] H := hP
  have hD : va_D A [(yta, .inl (cI, 120, .inl tp)), (ywa, .inl (cI, 6, .inl wa)), (h0, .inr (9, [.ref ys, .ref yk, .ref yo, .ref yt, .int mk0, .ref yfa, .ref yfe, .int mL, .int mS, .int mM, .ref yro, .ref yhe, .ref ygr, .int mF, .int mC, .int mY, .ref yta, .int (nI (mz)), .int (nI (mf)), .int (nI (mt)), .int mv, .int mw, .ref ywa, .ref ybi, .ref ysi, .ref ynu, .ref ymo])), (ys, .inl (cI, 449, .inl ms)), (yo, .inl (cI, 449, .inl oo2_2))] := hD
  refine lv_aload_n hx hb dX9_land_4 rfl (lv_at hl 0 rfl) ?_
  refine lv_iconst (v := 0) hx hb dX9_land_5 (by decide) ?_
  refine xp hF kf_X9_251 tyX9_ok nmX9 hK hP hD hS 2 rfl rfl rfl rfl (Nat.le_of_ble_eq_true rfl) dX9_land_6 (fun H locs hP hD hS => ?_)
  have hP : va_P D vwCl [(yta, .inl (cI, 120, .inl tp)), (ywa, .inl (cI, 6, .inl wa)), (h0, .inr (9, [.ref ys, .ref yk, .ref yo, .ref yt, .int mk0, .ref yfa, .ref yfe, .int mL, .int mS, .int mM, .ref yro, .ref yhe, .ref ygr, .int mF, .int mC, .int mY, .ref yta, .int (nI (mz)), .int (nI (mf)), .int 0, .int mv, .int mw, .ref ywa, .ref ybi, .ref ysi, .ref ynu, .ref ymo])), (ys, .inl (cI, 449, .inl ms)), (yo, .inl (cI, 449, .inl oo2_2))] H := hP
  have hD : va_D A [(yta, .inl (cI, 120, .inl tp)), (ywa, .inl (cI, 6, .inl wa)), (h0, .inr (9, [.ref ys, .ref yk, .ref yo, .ref yt, .int mk0, .ref yfa, .ref yfe, .int mL, .int mS, .int mM, .ref yro, .ref yhe, .ref ygr, .int mF, .int mC, .int mY, .ref yta, .int (nI (mz)), .int (nI (mf)), .int 0, .int mv, .int mw, .ref ywa, .ref ybi, .ref ysi, .ref ynu, .ref ymo])), (ys, .inl (cI, 449, .inl ms)), (yo, .inl (cI, 449, .inl oo2_2))] := hD
  refine lv_aload_n hx hb dX9_land_9 rfl (lv_at hl 0 rfl) ?_
  refine lv_iconst (v := 0) hx hb dX9_land_10 (by decide) ?_
  refine xp hF kf_X9_266 tyX9_ok nmX9 hK hP hD hS 2 rfl rfl rfl rfl (Nat.le_of_ble_eq_true rfl) dX9_land_11 (fun H locs hP hD hS => ?_)
  have hP : va_P D vwCl [(yta, .inl (cI, 120, .inl tp)), (ywa, .inl (cI, 6, .inl wa)), (h0, .inr (9, [.ref ys, .ref yk, .ref yo, .ref yt, .int mk0, .ref yfa, .ref yfe, .int mL, .int mS, .int mM, .ref yro, .ref yhe, .ref ygr, .int mF, .int mC, .int mY, .ref yta, .int (nI (mz)), .int (nI (mf)), .int 0, .int mv, .int 0, .ref ywa, .ref ybi, .ref ysi, .ref ynu, .ref ymo])), (ys, .inl (cI, 449, .inl ms)), (yo, .inl (cI, 449, .inl oo2_2))] H := hP
  have hD : va_D A [(yta, .inl (cI, 120, .inl tp)), (ywa, .inl (cI, 6, .inl wa)), (h0, .inr (9, [.ref ys, .ref yk, .ref yo, .ref yt, .int mk0, .ref yfa, .ref yfe, .int mL, .int mS, .int mM, .ref yro, .ref yhe, .ref ygr, .int mF, .int mC, .int mY, .ref yta, .int (nI (mz)), .int (nI (mf)), .int 0, .int mv, .int 0, .ref ywa, .ref ybi, .ref ysi, .ref ynu, .ref ymo])), (ys, .inl (cI, 449, .inl ms)), (yo, .inl (cI, 449, .inl oo2_2))] := hD
  refine lv_aload_n hx hb dX9_land_14 rfl (lv_at hl 0 rfl) ?_
  refine xc_Vv (wr := [(ywa, .inl (cI, 6, .inl wa)), (ys, .inl (cI, 449, .inl ms)), (yo, .inl (cI, 449, .inl oo2_2))]) hF (c_X9_next l D cI cJ cZ cS ta sa sv H.size h0 ys yk yo yt mk0 yfa yfe mL mS mM yro yhe ygr mF mC mY yta mz mf 0 mv 0 ywa ybi ysi ynu ymo tp (by omega) (by omega)) kv_X9_269 ⟨rfl, rfl, Nat.le_of_ble_eq_true rfl, Nat.le_of_ble_eq_true rfl⟩ ⟨Nat.le_of_ble_eq_true rfl, Nat.le_of_ble_eq_true rfl⟩ hK hN hZ hP hD hS hA [2, 0] [1, 3, 4] rfl rfl rfl rfl (by decide) 0 rfl rfl rfl rfl hl.1 rfl (Nat.le_of_ble_eq_true rfl) dX9_land_15 (fun u_r_13 H locs hw_r_13 hP hD hS => ?_)
  obtain ⟨f2_14, t2_15⟩ := u_r_13
  try dsimp only at hw_r_13
  obtain ⟨i_16, i_17, i_18, i_19, i_20⟩ := hw_r_13
  have hP : va_P D vwCl [(ywa, .inl (cI, 6, .inl wa)), (ys, .inl (cI, 449, .inl ms)), (yo, .inl (cI, 449, .inl oo2_2)), (h0, .inr (9, [.ref ys, .ref yk, .ref yo, .ref yt, .int mk0, .ref yfa, .ref yfe, .int mL, .int mS, .int mM, .ref yro, .ref yhe, .ref ygr, .int mF, .int mC, .int mY, .ref yta, .int (nI (mz)), .int (nI (f2_14)), .int (nI (t2_15)), .int mv, .int 0, .ref ywa, .ref ybi, .ref ysi, .ref ynu, .ref ymo])), (yta, .inl (cI, 120, .inl tp))] H := hP
  have hD : va_D A [(ywa, .inl (cI, 6, .inl wa)), (ys, .inl (cI, 449, .inl ms)), (yo, .inl (cI, 449, .inl oo2_2)), (h0, .inr (9, [.ref ys, .ref yk, .ref yo, .ref yt, .int mk0, .ref yfa, .ref yfe, .int mL, .int mS, .int mM, .ref yro, .ref yhe, .ref ygr, .int mF, .int mC, .int mY, .ref yta, .int (nI (mz)), .int (nI (f2_14)), .int (nI (t2_15)), .int mv, .int 0, .ref ywa, .ref ybi, .ref ysi, .ref ynu, .ref ymo])), (yta, .inl (cI, 120, .inl tp))] := hD
  refine lv_iconst (v := 1) hx hb dX9_land_18 (by decide) ?_
  refine lv_istore_n (lv' := [(1, .int 1), (0, .ref h0)]) hx hb dX9_land_19 rfl hl (by decide) rfl (fun ls hl => ?_)
  refine lv_aload_n hx hb dX9_land_20 rfl (lv_at hl 1 rfl) ?_
  refine xc_Vv (wr := [(yo, .inl (cI, 449, .inl oo2_2))]) hF (c_X9_item l D cI cJ cZ cS ta sa sv H.size h0 ys yk yo yt mk0 yfa yfe mL mS mM yro yhe ygr mF mC mY yta mz f2_14 t2_15 mv 0 ywa ybi ysi ynu ymo ms tp wa P Rn Wn (by omega) (by omega) (by omega) (by omega) (by omega) hs0 hs1 hs2 hsS hsM hsp hsr hsw hsR) kv_X9_300 ⟨rfl, rfl, Nat.le_of_ble_eq_true rfl, Nat.le_of_ble_eq_true rfl⟩ ⟨Nat.le_of_ble_eq_true rfl, Nat.le_of_ble_eq_true rfl⟩ hK hN hZ hP hD hS hA [3, 1, 4, 0] [2] rfl rfl rfl rfl (by decide) 0 rfl rfl rfl rfl hl.1 rfl (Nat.le_of_ble_eq_true rfl) dX9_land_21 (fun u_r_21 H locs hw_r_21 hP hD hS => ?_)
  obtain ⟨f2_22, t2_23, v2_24, w2_25, ms2_26, wa2_27, P2_28, W2_29⟩ := u_r_21
  try dsimp only at hw_r_21
  obtain ⟨i_30, i_31, i_32, i_33, i_34, i_35, i_36, i_37, i_38, i_39, i_40, i_41, i_42, i_43, i_44⟩ := hw_r_21
  have hP : va_P D vwCl [(yo, .inl (cI, 449, .inl oo2_2)), (h0, .inr (9, [.ref ys, .ref yk, .ref yo, .ref yt, .int mk0, .ref yfa, .ref yfe, .int mL, .int mS, .int mM, .ref yro, .ref yhe, .ref ygr, .int mF, .int mC, .int mY, .ref yta, .int (nI (mz)), .int (nI (f2_22)), .int (nI (t2_23)), .int v2_24, .int w2_25, .ref ywa, .ref ybi, .ref ysi, .ref ynu, .ref ymo])), (ys, .inl (cI, 449, .inl ms2_26)), (yta, .inl (cI, 120, .inl tp)), (ywa, .inl (cI, 6, .inl wa2_27))] H := hP
  have hD : va_D A [(yo, .inl (cI, 449, .inl oo2_2)), (h0, .inr (9, [.ref ys, .ref yk, .ref yo, .ref yt, .int mk0, .ref yfa, .ref yfe, .int mL, .int mS, .int mM, .ref yro, .ref yhe, .ref ygr, .int mF, .int mC, .int mY, .ref yta, .int (nI (mz)), .int (nI (f2_22)), .int (nI (t2_23)), .int v2_24, .int w2_25, .ref ywa, .ref ybi, .ref ysi, .ref ynu, .ref ymo])), (ys, .inl (cI, 449, .inl ms2_26)), (yta, .inl (cI, 120, .inl tp)), (ywa, .inl (cI, 6, .inl wa2_27))] := hD
  suffices loop_24 : ∀ (n_24 : Nat) (u8 : Int32) (f8 : Nat) (t8 : Nat) (w8 : Int32) (v8 : Int32) (P8 : Nat) (W8 : Nat) (s8 : Nat → Int32) (a8 : Nat → Int32) (H : Heap) (locs : List Loc) (ls : Array Slot), lm_M w8 (mz - f8) < n_24 → (f8 ≤ mz) → (t8 ≤ mz) → (f8 ≤ t8) → (f8 < t8 ∨ f8 = mz) → (s8 0 = nI P8) → (s8 1 = nI Rn) → (s8 2 = nI W8) → (SI s8) → (MI s8) → (P8 ≤ 10) → (Rn ≤ 8) → (W8 ≤ 8) → (RI Rn s8) → va_P D vwCl [(yo, .inl (cI, 449, .inl oo2_2)), (h0, .inr (9, [.ref ys, .ref yk, .ref yo, .ref yt, .int mk0, .ref yfa, .ref yfe, .int mL, .int mS, .int mM, .ref yro, .ref yhe, .ref ygr, .int mF, .int mC, .int mY, .ref yta, .int (nI (mz)), .int (nI (f8)), .int (nI (t8)), .int v8, .int w8, .ref ywa, .ref ybi, .ref ysi, .ref ynu, .ref ymo])), (ys, .inl (cI, 449, .inl s8)), (yta, .inl (cI, 120, .inl tp)), (ywa, .inl (cI, 6, .inl a8))] H → va_D A [(yo, .inl (cI, 449, .inl oo2_2)), (h0, .inr (9, [.ref ys, .ref yk, .ref yo, .ref yt, .int mk0, .ref yfa, .ref yfe, .int mL, .int mS, .int mM, .ref yro, .ref yhe, .ref ygr, .int mF, .int mC, .int mY, .ref yta, .int (nI (mz)), .int (nI (f8)), .int (nI (t8)), .int v8, .int w8, .ref ywa, .ref ybi, .ref ysi, .ref ynu, .ref ymo])), (ys, .inl (cI, 449, .inl s8)), (yta, .inl (cI, 120, .inl tp)), (ywa, .inl (cI, 6, .inl a8))] → va_S A s.heap H locs → lv_has ls 2 [(1, .int u8), (0, .ref h0)] → W p l e ({ frames := 8, cells := 0, slots := 0, locals := 183 }) s m ([.ref h0] : List Value).toArray below meth c H locs 0 0 (MQ below (XQi (fun (r : Int32) (u : Nat × Nat × Int32 × Int32 × (Nat → Int32) × (Nat → Int32) × (Nat → Int32) × Nat × Nat × Nat) => match u with | (f2, t2, v2, w2, ms2, oo2, wa2, P2, R2, W2) => (True) ∧ (ms2 0 = nI P2) ∧ (ms2 1 = nI R2) ∧ (ms2 2 = nI W2) ∧ (SI ms2) ∧ (MI ms2) ∧ (P2 ≤ 10) ∧ (R2 ≤ 8) ∧ (W2 ≤ 8) ∧ (RI R2 ms2)) D (fun (u : Nat × Nat × Int32 × Int32 × (Nat → Int32) × (Nat → Int32) × (Nat → Int32) × Nat × Nat × Nat) => match u with | (f2, t2, v2, w2, ms2, oo2, wa2, P2, R2, W2) => [(h0, .inr (9, [.ref ys, .ref yk, .ref yo, .ref yt, .int mk0, .ref yfa, .ref yfe, .int mL, .int mS, .int mM, .ref yro, .ref yhe, .ref ygr, .int mF, .int mC, .int mY, .ref yta, .int 0, .int (nI (f2)), .int (nI (t2)), .int v2, .int w2, .ref ywa, .ref ybi, .ref ysi, .ref ynu, .ref ymo])), (ys, .inl (cI, 449, .inl ms2)), (yo, .inl (cI, 449, .inl oo2)), (yta, .inl (cI, 120, .inl tp)), (ywa, .inl (cI, 6, .inl wa2))]) A) ([.ref h0] : List Value).toArray s 0 0 A) (F0 m 24 ls []) by
    exact loop_24 _ 1 f2_22 t2_23 w2_25 v2_24 P2_28 W2_29 ms2_26 wa2_27 _ _ _ (Nat.lt_succ_self _) (by omega) (by omega) (by omega) (by omega) i_36 i_37 i_38 i_39 i_40 i_41 i_42 i_43 i_44 hP hD hS (lv_sub hl [0, 1] rfl)
  intro n_24
  induction n_24 with
  | zero =>
    intro u8 f8 t8 w8 v8 P8 W8 s8 a8 H locs ls hm_24
    exact absurd hm_24 (Nat.not_lt_zero _)
  | succ n_24 ih_24 =>
    intro u8 f8 t8 w8 v8 P8 W8 s8 a8 H locs ls hm_24 hf81 hf82 hf83 hf84 ht0 ht1 ht2 htS htM htp htr htw htR hP hD hS hl
    refine lv_aload_n hx hb dX9_land_24 rfl (lv_at hl 1 rfl) ?_
    refine xg hF kf_X9_266 hK hP 1 rfl rfl dX9_land_25 ?_
    refine lv_if_ne (tgt := 74) hx hb dX9_land_28 (by decide) (fun c_45 => ?_) (fun c_45 => ?_)
    · skip
      refine lv_aload_n hx hb dX9_land_74 rfl (lv_at hl 1 rfl) ?_
      refine lv_iconst (v := 0) hx hb dX9_land_75 (by decide) ?_
      refine xp hF kf_X9_240 tyX9_ok nmX9 hK hP hD hS 1 rfl rfl rfl rfl (Nat.le_of_ble_eq_true rfl) dX9_land_76 (fun H locs hP hD hS => ?_)
      have hP : va_P D vwCl [(yo, .inl (cI, 449, .inl oo2_2)), (h0, .inr (9, [.ref ys, .ref yk, .ref yo, .ref yt, .int mk0, .ref yfa, .ref yfe, .int mL, .int mS, .int mM, .ref yro, .ref yhe, .ref ygr, .int mF, .int mC, .int mY, .ref yta, .int 0, .int (nI (f8)), .int (nI (t8)), .int v8, .int w8, .ref ywa, .ref ybi, .ref ysi, .ref ynu, .ref ymo])), (ys, .inl (cI, 449, .inl s8)), (yta, .inl (cI, 120, .inl tp)), (ywa, .inl (cI, 6, .inl a8))] H := hP
      have hD : va_D A [(yo, .inl (cI, 449, .inl oo2_2)), (h0, .inr (9, [.ref ys, .ref yk, .ref yo, .ref yt, .int mk0, .ref yfa, .ref yfe, .int mL, .int mS, .int mM, .ref yro, .ref yhe, .ref ygr, .int mF, .int mC, .int mY, .ref yta, .int 0, .int (nI (f8)), .int (nI (t8)), .int v8, .int w8, .ref ywa, .ref ybi, .ref ysi, .ref ynu, .ref ymo])), (ys, .inl (cI, 449, .inl s8)), (yta, .inl (cI, 120, .inl tp)), (ywa, .inl (cI, 6, .inl a8))] := hD
      refine lv_aload_n hx hb dX9_land_79 rfl (lv_at hl 1 rfl) ?_
      refine xg hF kf_X9_266 hK hP 1 rfl rfl dX9_land_80 ?_
      refine lv_if_eq (tgt := 97) hx hb dX9_land_83 (by decide) (fun c_46 => ?_) (fun c_46 => ?_)
      · skip
        refine lv_iload_n hx hb dX9_land_97 rfl (lv_at hl 0 rfl) ?_
        exact W.iret (v := u8) hx hb hr (fun t ht hW => ⟨⟨u8, (f8, t8, v8, w8, s8, oo2_2, a8, P8, Rn, W8), rfl, ⟨trivial, ht0, ht1, ht2, htS, htM, htp, htr, htw, htR⟩, by rw [ht]; exact hP.sub [1, 2, 0, 3, 4] rfl, hD.sub [1, 2, 0, 3, 4] (by decide) rfl⟩, hS.F ht⟩) hS.2.2 dX9_land_98 hlk
      · skip
        refine lv_aload_n hx hb dX9_land_86 rfl (lv_at hl 1 rfl) ?_
        refine xc_Vv (wr := [(yta, .inl (cI, 120, .inl tp)), (ywa, .inl (cI, 6, .inl a8))]) hF (c_X9_putsBack l D cI cJ cZ cS ta sa sv H.size h0 ys yk yo yt mk0 yfa yfe mL mS mM yro yhe ygr mF mC mY yta 0 f8 t8 v8 w8 ywa ybi ysi ynu ymo s8 oo2_2 P Rn Wn i_4 i_5 i_6 i_7 i_8 i_9 i_10 i_11 i_12) kv_X9_220 ⟨rfl, rfl, Nat.le_of_ble_eq_true rfl, Nat.le_of_ble_eq_true rfl⟩ ⟨Nat.le_of_ble_eq_true rfl, Nat.le_of_ble_eq_true rfl⟩ hK hN hZ hP hD hS hA [1, 2, 0] [3, 4] rfl rfl rfl rfl (by decide) 0 rfl rfl rfl rfl hl.1 rfl (Nat.le_of_ble_eq_true rfl) dX9_land_87 (fun u_r_47 H locs hw_r_47 hP hD hS => ?_)
        obtain ⟨ms2_48, rfl⟩ : ∃ z, z = u_r_47 := ⟨_, rfl⟩
        try dsimp only at hw_r_47
        obtain ⟨i_49, i_50, i_51, i_52, i_53, i_54, i_55, i_56, i_57, i_58⟩ := hw_r_47
        have hP : va_P D vwCl [(yta, .inl (cI, 120, .inl tp)), (ywa, .inl (cI, 6, .inl a8)), (h0, .inr (9, [.ref ys, .ref yk, .ref yo, .ref yt, .int mk0, .ref yfa, .ref yfe, .int mL, .int mS, .int mM, .ref yro, .ref yhe, .ref ygr, .int mF, .int mC, .int mY, .ref yta, .int 0, .int (nI (f8)), .int (nI (t8)), .int v8, .int w8, .ref ywa, .ref ybi, .ref ysi, .ref ynu, .ref ymo])), (ys, .inl (cI, 449, .inl ms2_48)), (yo, .inl (cI, 449, .inl oo2_2))] H := hP
        have hD : va_D A [(yta, .inl (cI, 120, .inl tp)), (ywa, .inl (cI, 6, .inl a8)), (h0, .inr (9, [.ref ys, .ref yk, .ref yo, .ref yt, .int mk0, .ref yfa, .ref yfe, .int mL, .int mS, .int mM, .ref yro, .ref yhe, .ref ygr, .int mF, .int mC, .int mY, .ref yta, .int 0, .int (nI (f8)), .int (nI (t8)), .int v8, .int w8, .ref ywa, .ref ybi, .ref ysi, .ref ynu, .ref ymo])), (ys, .inl (cI, 449, .inl ms2_48)), (yo, .inl (cI, 449, .inl oo2_2))] := hD
        refine lv_iconst (v := (-1)) hx hb dX9_land_90 (by decide) ?_
        refine lv_aload_n hx hb dX9_land_91 rfl (lv_at hl 1 rfl) ?_
        refine xg hF kf_X9_254 hK hP 2 rfl rfl dX9_land_92 ?_
        refine lv_isub hx hb dX9_land_95 ?_
        refine lv_topi (fun x_59 ex_59 => ?_)
        exact W.iret (v := x_59) hx hb hr (fun t ht hW => ⟨⟨x_59, (f8, t8, v8, w8, ms2_48, oo2_2, a8, P, Rn, Wn), rfl, ⟨trivial, i_50, i_51, i_52, i_53, i_54, i_55, i_56, i_57, i_58⟩, by rw [ht]; exact hP.sub [2, 3, 4, 0, 1] rfl, hD.sub [2, 3, 4, 0, 1] (by decide) rfl⟩, hS.F ht⟩) hS.2.2 dX9_land_96 hlk
    · skip
      refine lv_aload_n hx hb dX9_land_31 rfl (lv_at hl 1 rfl) ?_
      refine xg hF kf_X9_254 hK hP 1 rfl rfl dX9_land_32 ?_
      refine lv_aload_n hx hb dX9_land_35 rfl (lv_at hl 1 rfl) ?_
      refine xg hF kf_X9_240 hK hP 1 rfl rfl dX9_land_36 ?_
      refine lv_icmp_ge (tgt := 74) hx hb dX9_land_39 (by decide) (fun c_60 => ?_) (fun c_60 => ?_)
      · skip
        have nc_60 : mz ≤ f8 := xn_le (a := mz) (b := f8) (by omega) (by omega) c_60
        refine lv_aload_n hx hb dX9_land_74 rfl (lv_at hl 1 rfl) ?_
        refine lv_iconst (v := 0) hx hb dX9_land_75 (by decide) ?_
        refine xp hF kf_X9_240 tyX9_ok nmX9 hK hP hD hS 1 rfl rfl rfl rfl (Nat.le_of_ble_eq_true rfl) dX9_land_76 (fun H locs hP hD hS => ?_)
        have hP : va_P D vwCl [(yo, .inl (cI, 449, .inl oo2_2)), (h0, .inr (9, [.ref ys, .ref yk, .ref yo, .ref yt, .int mk0, .ref yfa, .ref yfe, .int mL, .int mS, .int mM, .ref yro, .ref yhe, .ref ygr, .int mF, .int mC, .int mY, .ref yta, .int 0, .int (nI (f8)), .int (nI (t8)), .int v8, .int w8, .ref ywa, .ref ybi, .ref ysi, .ref ynu, .ref ymo])), (ys, .inl (cI, 449, .inl s8)), (yta, .inl (cI, 120, .inl tp)), (ywa, .inl (cI, 6, .inl a8))] H := hP
        have hD : va_D A [(yo, .inl (cI, 449, .inl oo2_2)), (h0, .inr (9, [.ref ys, .ref yk, .ref yo, .ref yt, .int mk0, .ref yfa, .ref yfe, .int mL, .int mS, .int mM, .ref yro, .ref yhe, .ref ygr, .int mF, .int mC, .int mY, .ref yta, .int 0, .int (nI (f8)), .int (nI (t8)), .int v8, .int w8, .ref ywa, .ref ybi, .ref ysi, .ref ynu, .ref ymo])), (ys, .inl (cI, 449, .inl s8)), (yta, .inl (cI, 120, .inl tp)), (ywa, .inl (cI, 6, .inl a8))] := hD
        refine lv_aload_n hx hb dX9_land_79 rfl (lv_at hl 1 rfl) ?_
        refine xg hF kf_X9_266 hK hP 1 rfl rfl dX9_land_80 ?_
        refine lv_if_eq (tgt := 97) hx hb dX9_land_83 (by decide) (fun c_61 => ?_) (fun c_61 => ?_)
        · skip
          refine lv_iload_n hx hb dX9_land_97 rfl (lv_at hl 0 rfl) ?_
          exact W.iret (v := u8) hx hb hr (fun t ht hW => ⟨⟨u8, (f8, t8, v8, w8, s8, oo2_2, a8, P8, Rn, W8), rfl, ⟨trivial, ht0, ht1, ht2, htS, htM, htp, htr, htw, htR⟩, by rw [ht]; exact hP.sub [1, 2, 0, 3, 4] rfl, hD.sub [1, 2, 0, 3, 4] (by decide) rfl⟩, hS.F ht⟩) hS.2.2 dX9_land_98 hlk
        · skip
          refine lv_aload_n hx hb dX9_land_86 rfl (lv_at hl 1 rfl) ?_
          refine xc_Vv (wr := [(yta, .inl (cI, 120, .inl tp)), (ywa, .inl (cI, 6, .inl a8))]) hF (c_X9_putsBack l D cI cJ cZ cS ta sa sv H.size h0 ys yk yo yt mk0 yfa yfe mL mS mM yro yhe ygr mF mC mY yta 0 f8 t8 v8 w8 ywa ybi ysi ynu ymo s8 oo2_2 P Rn Wn i_4 i_5 i_6 i_7 i_8 i_9 i_10 i_11 i_12) kv_X9_220 ⟨rfl, rfl, Nat.le_of_ble_eq_true rfl, Nat.le_of_ble_eq_true rfl⟩ ⟨Nat.le_of_ble_eq_true rfl, Nat.le_of_ble_eq_true rfl⟩ hK hN hZ hP hD hS hA [1, 2, 0] [3, 4] rfl rfl rfl rfl (by decide) 0 rfl rfl rfl rfl hl.1 rfl (Nat.le_of_ble_eq_true rfl) dX9_land_87 (fun u_r_62 H locs hw_r_62 hP hD hS => ?_)
          obtain ⟨ms2_63, rfl⟩ : ∃ z, z = u_r_62 := ⟨_, rfl⟩
          try dsimp only at hw_r_62
          obtain ⟨i_64, i_65, i_66, i_67, i_68, i_69, i_70, i_71, i_72, i_73⟩ := hw_r_62
          have hP : va_P D vwCl [(yta, .inl (cI, 120, .inl tp)), (ywa, .inl (cI, 6, .inl a8)), (h0, .inr (9, [.ref ys, .ref yk, .ref yo, .ref yt, .int mk0, .ref yfa, .ref yfe, .int mL, .int mS, .int mM, .ref yro, .ref yhe, .ref ygr, .int mF, .int mC, .int mY, .ref yta, .int 0, .int (nI (f8)), .int (nI (t8)), .int v8, .int w8, .ref ywa, .ref ybi, .ref ysi, .ref ynu, .ref ymo])), (ys, .inl (cI, 449, .inl ms2_63)), (yo, .inl (cI, 449, .inl oo2_2))] H := hP
          have hD : va_D A [(yta, .inl (cI, 120, .inl tp)), (ywa, .inl (cI, 6, .inl a8)), (h0, .inr (9, [.ref ys, .ref yk, .ref yo, .ref yt, .int mk0, .ref yfa, .ref yfe, .int mL, .int mS, .int mM, .ref yro, .ref yhe, .ref ygr, .int mF, .int mC, .int mY, .ref yta, .int 0, .int (nI (f8)), .int (nI (t8)), .int v8, .int w8, .ref ywa, .ref ybi, .ref ysi, .ref ynu, .ref ymo])), (ys, .inl (cI, 449, .inl ms2_63)), (yo, .inl (cI, 449, .inl oo2_2))] := hD
          refine lv_iconst (v := (-1)) hx hb dX9_land_90 (by decide) ?_
          refine lv_aload_n hx hb dX9_land_91 rfl (lv_at hl 1 rfl) ?_
          refine xg hF kf_X9_254 hK hP 2 rfl rfl dX9_land_92 ?_
          refine lv_isub hx hb dX9_land_95 ?_
          refine lv_topi (fun x_74 ex_74 => ?_)
          exact W.iret (v := x_74) hx hb hr (fun t ht hW => ⟨⟨x_74, (f8, t8, v8, w8, ms2_63, oo2_2, a8, P, Rn, Wn), rfl, ⟨trivial, i_65, i_66, i_67, i_68, i_69, i_70, i_71, i_72, i_73⟩, by rw [ht]; exact hP.sub [2, 3, 4, 0, 1] rfl, hD.sub [2, 3, 4, 0, 1] (by decide) rfl⟩, hS.F ht⟩) hS.2.2 dX9_land_96 hlk
      · skip
        have nc_60 : f8 < mz := xn_nle (a := mz) (b := f8) (by omega) (by omega) c_60
        refine lv_aload_n hx hb dX9_land_42 rfl (lv_at hl 1 rfl) ?_
        refine lv_aload_n hx hb dX9_land_43 rfl (lv_at hl 1 rfl) ?_
        refine lv_aload_n hx hb dX9_land_44 rfl (lv_at hl 1 rfl) ?_
        refine xg hF kf_X9_254 hK hP 1 rfl rfl dX9_land_45 ?_
        refine xc_Vr hF (c_X9_byteAt l D cI cJ cZ cS ta sa sv H.size h0 ys yk yo yt mk0 yfa yfe mL mS mM yro yhe ygr mF mC mY yta mz f8 t8 v8 w8 ywa ybi ysi ynu ymo tp f8 (by omega) (by omega)) kv_X9_257 ⟨rfl, rfl, Nat.le_of_ble_eq_true rfl, Nat.le_of_ble_eq_true rfl⟩ ⟨Nat.le_of_ble_eq_true rfl, Nat.le_of_ble_eq_true rfl⟩ hK hN hZ hP hD hS hA [1, 3] rfl rfl 0 rfl rfl rfl rfl hl.1 rfl (Nat.le_of_ble_eq_true rfl) dX9_land_48 (fun r_75 hw_r_75 => ?_)
        rcases hw_r_75 with ⟨rfl, h_76⟩ | ⟨rfl, h_77⟩
        · skip
          refine lv_bipush (v := 59) hx hb dX9_land_51 (by decide) ?_
          refine lv_icmp_ne (tgt := 60) hx hb dX9_land_53 (by decide) (fun c_78 => ?_) (fun c_78 => ?_)
          · skip
            refine lv_iconst (v := 0) hx hb dX9_land_60 (by decide) ?_
            refine xc_Vv (wr := [(yo, .inl (cI, 449, .inl oo2_2)), (ys, .inl (cI, 449, .inl s8)), (ywa, .inl (cI, 6, .inl a8))]) hF (c_X9_needs l D cI cJ cZ cS ta sa sv H.size h0 ys yk yo yt mk0 yfa yfe mL mS mM yro yhe ygr mF mC mY yta mz f8 t8 v8 w8 ywa ybi ysi ynu ymo tp 0 (by omega) (by omega) (by omega) (by omega) (by omega)) kv_X9_278 ⟨rfl, rfl, Nat.le_of_ble_eq_true rfl, Nat.le_of_ble_eq_true rfl⟩ ⟨Nat.le_of_ble_eq_true rfl, Nat.le_of_ble_eq_true rfl⟩ hK hN hZ hP hD hS hA [1, 3] [0, 2, 4] rfl rfl rfl rfl (by decide) 0 rfl rfl rfl rfl hl.1 rfl (Nat.le_of_ble_eq_true rfl) dX9_land_61 (fun u_r_79 H locs hw_r_79 hP hD hS => ?_)
            obtain ⟨f2_80, t2_81, w2_82⟩ := u_r_79
            try dsimp only at hw_r_79
            obtain ⟨i_83, i_84, i_85, i_86, i_87, i_88⟩ := hw_r_79
            have hP : va_P D vwCl [(yo, .inl (cI, 449, .inl oo2_2)), (ys, .inl (cI, 449, .inl s8)), (ywa, .inl (cI, 6, .inl a8)), (h0, .inr (9, [.ref ys, .ref yk, .ref yo, .ref yt, .int mk0, .ref yfa, .ref yfe, .int mL, .int mS, .int mM, .ref yro, .ref yhe, .ref ygr, .int mF, .int mC, .int mY, .ref yta, .int (nI (mz)), .int (nI (f2_80)), .int (nI (t2_81)), .int v8, .int w2_82, .ref ywa, .ref ybi, .ref ysi, .ref ynu, .ref ymo])), (yta, .inl (cI, 120, .inl tp))] H := hP
            have hD : va_D A [(yo, .inl (cI, 449, .inl oo2_2)), (ys, .inl (cI, 449, .inl s8)), (ywa, .inl (cI, 6, .inl a8)), (h0, .inr (9, [.ref ys, .ref yk, .ref yo, .ref yt, .int mk0, .ref yfa, .ref yfe, .int mL, .int mS, .int mM, .ref yro, .ref yhe, .ref ygr, .int mF, .int mC, .int mY, .ref yta, .int (nI (mz)), .int (nI (f2_80)), .int (nI (t2_81)), .int v8, .int w2_82, .ref ywa, .ref ybi, .ref ysi, .ref ynu, .ref ymo])), (yta, .inl (cI, 120, .inl tp))] := hD
            refine lv_aload_n hx hb dX9_land_64 rfl (lv_at hl 1 rfl) ?_
            refine xc_Vv (wr := [(yo, .inl (cI, 449, .inl oo2_2))]) hF (c_X9_item l D cI cJ cZ cS ta sa sv H.size h0 ys yk yo yt mk0 yfa yfe mL mS mM yro yhe ygr mF mC mY yta mz f2_80 t2_81 v8 w2_82 ywa ybi ysi ynu ymo s8 tp a8 P8 Rn W8 (by omega) (by omega) (by omega) (by omega) (by omega) ht0 ht1 ht2 htS htM htp htr htw htR) kv_X9_300 ⟨rfl, rfl, Nat.le_of_ble_eq_true rfl, Nat.le_of_ble_eq_true rfl⟩ ⟨Nat.le_of_ble_eq_true rfl, Nat.le_of_ble_eq_true rfl⟩ hK hN hZ hP hD hS hA [3, 1, 4, 2] [0] rfl rfl rfl rfl (by decide) 0 rfl rfl rfl rfl hl.1 rfl (Nat.le_of_ble_eq_true rfl) dX9_land_65 (fun u_r_89 H locs hw_r_89 hP hD hS => ?_)
            obtain ⟨f2_90, t2_91, v2_92, w2_93, ms2_94, wa2_95, P2_96, W2_97⟩ := u_r_89
            try dsimp only at hw_r_89
            obtain ⟨i_98, i_99, i_100, i_101, i_102, i_103, i_104, i_105, i_106, i_107, i_108, i_109, i_110, i_111, i_112⟩ := hw_r_89
            have hP : va_P D vwCl [(yo, .inl (cI, 449, .inl oo2_2)), (h0, .inr (9, [.ref ys, .ref yk, .ref yo, .ref yt, .int mk0, .ref yfa, .ref yfe, .int mL, .int mS, .int mM, .ref yro, .ref yhe, .ref ygr, .int mF, .int mC, .int mY, .ref yta, .int (nI (mz)), .int (nI (f2_90)), .int (nI (t2_91)), .int v2_92, .int w2_93, .ref ywa, .ref ybi, .ref ysi, .ref ynu, .ref ymo])), (ys, .inl (cI, 449, .inl ms2_94)), (yta, .inl (cI, 120, .inl tp)), (ywa, .inl (cI, 6, .inl wa2_95))] H := hP
            have hD : va_D A [(yo, .inl (cI, 449, .inl oo2_2)), (h0, .inr (9, [.ref ys, .ref yk, .ref yo, .ref yt, .int mk0, .ref yfa, .ref yfe, .int mL, .int mS, .int mM, .ref yro, .ref yhe, .ref ygr, .int mF, .int mC, .int mY, .ref yta, .int (nI (mz)), .int (nI (f2_90)), .int (nI (t2_91)), .int v2_92, .int w2_93, .ref ywa, .ref ybi, .ref ysi, .ref ynu, .ref ymo])), (ys, .inl (cI, 449, .inl ms2_94)), (yta, .inl (cI, 120, .inl tp)), (ywa, .inl (cI, 6, .inl wa2_95))] := hD
            refine lv_iinc (v := u8 + 1) (lv' := [(1, .int (u8 + 1)), (0, .ref h0)]) hx hb dX9_land_68 hl (k := 0) rfl rfl (by decide) rfl (fun ls hl => ?_)
            refine lv_goto (tgt := 24) hx hb dX9_land_71 (by decide) ?_
            have hd9 : lm_M w2_93 (mz - f2_90) < lm_M w8 (mz - f8) := lm_dec c_45 (by omega) (fun h => by have h1 := i_103 h; have h2 := i_88 h1.1; omega)
            exact ih_24 (u8 + 1) f2_90 t2_91 w2_93 v2_92 P2_96 W2_97 ms2_94 wa2_95 _ _ _ (by omega) (by omega) (by omega) (by omega) (by omega) i_104 i_105 i_106 i_107 i_108 i_109 i_110 i_111 i_112 (hP.sub [0, 1, 2, 3, 4] rfl) (hD.sub [0, 1, 2, 3, 4] (by decide) rfl) hS (lv_sub hl [0, 1] rfl)
          · skip
            refine lv_iconst (v := 1) hx hb dX9_land_56 (by decide) ?_
            refine lv_goto (tgt := 61) hx hb dX9_land_57 (by decide) ?_
            refine xc_Vv (wr := [(yo, .inl (cI, 449, .inl oo2_2)), (ys, .inl (cI, 449, .inl s8)), (ywa, .inl (cI, 6, .inl a8))]) hF (c_X9_needs l D cI cJ cZ cS ta sa sv H.size h0 ys yk yo yt mk0 yfa yfe mL mS mM yro yhe ygr mF mC mY yta mz f8 t8 v8 w8 ywa ybi ysi ynu ymo tp 1 (by omega) (by omega) (by omega) (by omega) (by omega)) kv_X9_278 ⟨rfl, rfl, Nat.le_of_ble_eq_true rfl, Nat.le_of_ble_eq_true rfl⟩ ⟨Nat.le_of_ble_eq_true rfl, Nat.le_of_ble_eq_true rfl⟩ hK hN hZ hP hD hS hA [1, 3] [0, 2, 4] rfl rfl rfl rfl (by decide) 0 rfl rfl rfl rfl hl.1 rfl (Nat.le_of_ble_eq_true rfl) dX9_land_61 (fun u_r_113 H locs hw_r_113 hP hD hS => ?_)
            obtain ⟨f2_114, t2_115, w2_116⟩ := u_r_113
            try dsimp only at hw_r_113
            obtain ⟨i_117, i_118, i_119, i_120, i_121, i_122⟩ := hw_r_113
            have hP : va_P D vwCl [(yo, .inl (cI, 449, .inl oo2_2)), (ys, .inl (cI, 449, .inl s8)), (ywa, .inl (cI, 6, .inl a8)), (h0, .inr (9, [.ref ys, .ref yk, .ref yo, .ref yt, .int mk0, .ref yfa, .ref yfe, .int mL, .int mS, .int mM, .ref yro, .ref yhe, .ref ygr, .int mF, .int mC, .int mY, .ref yta, .int (nI (mz)), .int (nI (f2_114)), .int (nI (t2_115)), .int v8, .int w2_116, .ref ywa, .ref ybi, .ref ysi, .ref ynu, .ref ymo])), (yta, .inl (cI, 120, .inl tp))] H := hP
            have hD : va_D A [(yo, .inl (cI, 449, .inl oo2_2)), (ys, .inl (cI, 449, .inl s8)), (ywa, .inl (cI, 6, .inl a8)), (h0, .inr (9, [.ref ys, .ref yk, .ref yo, .ref yt, .int mk0, .ref yfa, .ref yfe, .int mL, .int mS, .int mM, .ref yro, .ref yhe, .ref ygr, .int mF, .int mC, .int mY, .ref yta, .int (nI (mz)), .int (nI (f2_114)), .int (nI (t2_115)), .int v8, .int w2_116, .ref ywa, .ref ybi, .ref ysi, .ref ynu, .ref ymo])), (yta, .inl (cI, 120, .inl tp))] := hD
            refine lv_aload_n hx hb dX9_land_64 rfl (lv_at hl 1 rfl) ?_
            refine xc_Vv (wr := [(yo, .inl (cI, 449, .inl oo2_2))]) hF (c_X9_item l D cI cJ cZ cS ta sa sv H.size h0 ys yk yo yt mk0 yfa yfe mL mS mM yro yhe ygr mF mC mY yta mz f2_114 t2_115 v8 w2_116 ywa ybi ysi ynu ymo s8 tp a8 P8 Rn W8 (by omega) (by omega) (by omega) (by omega) (by omega) ht0 ht1 ht2 htS htM htp htr htw htR) kv_X9_300 ⟨rfl, rfl, Nat.le_of_ble_eq_true rfl, Nat.le_of_ble_eq_true rfl⟩ ⟨Nat.le_of_ble_eq_true rfl, Nat.le_of_ble_eq_true rfl⟩ hK hN hZ hP hD hS hA [3, 1, 4, 2] [0] rfl rfl rfl rfl (by decide) 0 rfl rfl rfl rfl hl.1 rfl (Nat.le_of_ble_eq_true rfl) dX9_land_65 (fun u_r_123 H locs hw_r_123 hP hD hS => ?_)
            obtain ⟨f2_124, t2_125, v2_126, w2_127, ms2_128, wa2_129, P2_130, W2_131⟩ := u_r_123
            try dsimp only at hw_r_123
            obtain ⟨i_132, i_133, i_134, i_135, i_136, i_137, i_138, i_139, i_140, i_141, i_142, i_143, i_144, i_145, i_146⟩ := hw_r_123
            have hP : va_P D vwCl [(yo, .inl (cI, 449, .inl oo2_2)), (h0, .inr (9, [.ref ys, .ref yk, .ref yo, .ref yt, .int mk0, .ref yfa, .ref yfe, .int mL, .int mS, .int mM, .ref yro, .ref yhe, .ref ygr, .int mF, .int mC, .int mY, .ref yta, .int (nI (mz)), .int (nI (f2_124)), .int (nI (t2_125)), .int v2_126, .int w2_127, .ref ywa, .ref ybi, .ref ysi, .ref ynu, .ref ymo])), (ys, .inl (cI, 449, .inl ms2_128)), (yta, .inl (cI, 120, .inl tp)), (ywa, .inl (cI, 6, .inl wa2_129))] H := hP
            have hD : va_D A [(yo, .inl (cI, 449, .inl oo2_2)), (h0, .inr (9, [.ref ys, .ref yk, .ref yo, .ref yt, .int mk0, .ref yfa, .ref yfe, .int mL, .int mS, .int mM, .ref yro, .ref yhe, .ref ygr, .int mF, .int mC, .int mY, .ref yta, .int (nI (mz)), .int (nI (f2_124)), .int (nI (t2_125)), .int v2_126, .int w2_127, .ref ywa, .ref ybi, .ref ysi, .ref ynu, .ref ymo])), (ys, .inl (cI, 449, .inl ms2_128)), (yta, .inl (cI, 120, .inl tp)), (ywa, .inl (cI, 6, .inl wa2_129))] := hD
            refine lv_iinc (v := u8 + 1) (lv' := [(1, .int (u8 + 1)), (0, .ref h0)]) hx hb dX9_land_68 hl (k := 0) rfl rfl (by decide) rfl (fun ls hl => ?_)
            refine lv_goto (tgt := 24) hx hb dX9_land_71 (by decide) ?_
            have hd9 : lm_M w2_127 (mz - f2_124) < lm_M w8 (mz - f8) := lm_dec c_45 (by omega) (fun h => by have h1 := i_137 h; have h2 := i_122 h1.1; omega)
            exact ih_24 (u8 + 1) f2_124 t2_125 w2_127 v2_126 P2_130 W2_131 ms2_128 wa2_129 _ _ _ (by omega) (by omega) (by omega) (by omega) (by omega) i_138 i_139 i_140 i_141 i_142 i_143 i_144 i_145 i_146 (hP.sub [0, 1, 2, 3, 4] rfl) (hD.sub [0, 1, 2, 3, 4] (by decide) rfl) hS (lv_sub hl [0, 1] rfl)
        · skip
          refine lv_bipush (v := 59) hx hb dX9_land_51 (by decide) ?_
          refine lv_icmp_ne (tgt := 60) hx hb dX9_land_53 (by decide) (fun c_147 => ?_) (fun c_147 => absurd c_147 (by decide))
          refine lv_iconst (v := 0) hx hb dX9_land_60 (by decide) ?_
          refine xc_Vv (wr := [(yo, .inl (cI, 449, .inl oo2_2)), (ys, .inl (cI, 449, .inl s8)), (ywa, .inl (cI, 6, .inl a8))]) hF (c_X9_needs l D cI cJ cZ cS ta sa sv H.size h0 ys yk yo yt mk0 yfa yfe mL mS mM yro yhe ygr mF mC mY yta mz f8 t8 v8 w8 ywa ybi ysi ynu ymo tp 0 (by omega) (by omega) (by omega) (by omega) (by omega)) kv_X9_278 ⟨rfl, rfl, Nat.le_of_ble_eq_true rfl, Nat.le_of_ble_eq_true rfl⟩ ⟨Nat.le_of_ble_eq_true rfl, Nat.le_of_ble_eq_true rfl⟩ hK hN hZ hP hD hS hA [1, 3] [0, 2, 4] rfl rfl rfl rfl (by decide) 0 rfl rfl rfl rfl hl.1 rfl (Nat.le_of_ble_eq_true rfl) dX9_land_61 (fun u_r_148 H locs hw_r_148 hP hD hS => ?_)
          obtain ⟨f2_149, t2_150, w2_151⟩ := u_r_148
          try dsimp only at hw_r_148
          obtain ⟨i_152, i_153, i_154, i_155, i_156, i_157⟩ := hw_r_148
          have hP : va_P D vwCl [(yo, .inl (cI, 449, .inl oo2_2)), (ys, .inl (cI, 449, .inl s8)), (ywa, .inl (cI, 6, .inl a8)), (h0, .inr (9, [.ref ys, .ref yk, .ref yo, .ref yt, .int mk0, .ref yfa, .ref yfe, .int mL, .int mS, .int mM, .ref yro, .ref yhe, .ref ygr, .int mF, .int mC, .int mY, .ref yta, .int (nI (mz)), .int (nI (f2_149)), .int (nI (t2_150)), .int v8, .int w2_151, .ref ywa, .ref ybi, .ref ysi, .ref ynu, .ref ymo])), (yta, .inl (cI, 120, .inl tp))] H := hP
          have hD : va_D A [(yo, .inl (cI, 449, .inl oo2_2)), (ys, .inl (cI, 449, .inl s8)), (ywa, .inl (cI, 6, .inl a8)), (h0, .inr (9, [.ref ys, .ref yk, .ref yo, .ref yt, .int mk0, .ref yfa, .ref yfe, .int mL, .int mS, .int mM, .ref yro, .ref yhe, .ref ygr, .int mF, .int mC, .int mY, .ref yta, .int (nI (mz)), .int (nI (f2_149)), .int (nI (t2_150)), .int v8, .int w2_151, .ref ywa, .ref ybi, .ref ysi, .ref ynu, .ref ymo])), (yta, .inl (cI, 120, .inl tp))] := hD
          refine lv_aload_n hx hb dX9_land_64 rfl (lv_at hl 1 rfl) ?_
          refine xc_Vv (wr := [(yo, .inl (cI, 449, .inl oo2_2))]) hF (c_X9_item l D cI cJ cZ cS ta sa sv H.size h0 ys yk yo yt mk0 yfa yfe mL mS mM yro yhe ygr mF mC mY yta mz f2_149 t2_150 v8 w2_151 ywa ybi ysi ynu ymo s8 tp a8 P8 Rn W8 (by omega) (by omega) (by omega) (by omega) (by omega) ht0 ht1 ht2 htS htM htp htr htw htR) kv_X9_300 ⟨rfl, rfl, Nat.le_of_ble_eq_true rfl, Nat.le_of_ble_eq_true rfl⟩ ⟨Nat.le_of_ble_eq_true rfl, Nat.le_of_ble_eq_true rfl⟩ hK hN hZ hP hD hS hA [3, 1, 4, 2] [0] rfl rfl rfl rfl (by decide) 0 rfl rfl rfl rfl hl.1 rfl (Nat.le_of_ble_eq_true rfl) dX9_land_65 (fun u_r_158 H locs hw_r_158 hP hD hS => ?_)
          obtain ⟨f2_159, t2_160, v2_161, w2_162, ms2_163, wa2_164, P2_165, W2_166⟩ := u_r_158
          try dsimp only at hw_r_158
          obtain ⟨i_167, i_168, i_169, i_170, i_171, i_172, i_173, i_174, i_175, i_176, i_177, i_178, i_179, i_180, i_181⟩ := hw_r_158
          have hP : va_P D vwCl [(yo, .inl (cI, 449, .inl oo2_2)), (h0, .inr (9, [.ref ys, .ref yk, .ref yo, .ref yt, .int mk0, .ref yfa, .ref yfe, .int mL, .int mS, .int mM, .ref yro, .ref yhe, .ref ygr, .int mF, .int mC, .int mY, .ref yta, .int (nI (mz)), .int (nI (f2_159)), .int (nI (t2_160)), .int v2_161, .int w2_162, .ref ywa, .ref ybi, .ref ysi, .ref ynu, .ref ymo])), (ys, .inl (cI, 449, .inl ms2_163)), (yta, .inl (cI, 120, .inl tp)), (ywa, .inl (cI, 6, .inl wa2_164))] H := hP
          have hD : va_D A [(yo, .inl (cI, 449, .inl oo2_2)), (h0, .inr (9, [.ref ys, .ref yk, .ref yo, .ref yt, .int mk0, .ref yfa, .ref yfe, .int mL, .int mS, .int mM, .ref yro, .ref yhe, .ref ygr, .int mF, .int mC, .int mY, .ref yta, .int (nI (mz)), .int (nI (f2_159)), .int (nI (t2_160)), .int v2_161, .int w2_162, .ref ywa, .ref ybi, .ref ysi, .ref ynu, .ref ymo])), (ys, .inl (cI, 449, .inl ms2_163)), (yta, .inl (cI, 120, .inl tp)), (ywa, .inl (cI, 6, .inl wa2_164))] := hD
          refine lv_iinc (v := u8 + 1) (lv' := [(1, .int (u8 + 1)), (0, .ref h0)]) hx hb dX9_land_68 hl (k := 0) rfl rfl (by decide) rfl (fun ls hl => ?_)
          refine lv_goto (tgt := 24) hx hb dX9_land_71 (by decide) ?_
          have hd9 : lm_M w2_162 (mz - f2_159) < lm_M w8 (mz - f8) := lm_dec c_45 (by omega) (fun h => by have h1 := i_172 h; have h2 := i_157 h1.1; omega)
          exact ih_24 (u8 + 1) f2_159 t2_160 w2_162 v2_161 P2_165 W2_166 ms2_163 wa2_164 _ _ _ (by omega) (by omega) (by omega) (by omega) (by omega) i_173 i_174 i_175 i_176 i_177 i_178 i_179 i_180 i_181 (hP.sub [0, 1, 2, 3, 4] rfl) (hD.sub [0, 1, 2, 3, 4] (by decide) rfl) hS (lv_sub hl [0, 1] rfl)
