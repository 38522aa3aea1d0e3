theorem d_Ha_putWord_0 : decode b_Ha_putWord 0 = .ok (.iconst 0, 1) := by decide +kernel
theorem d_Ha_putWord_1 : decode b_Ha_putWord 1 = .ok (.istore 4, 2) := by decide +kernel
theorem d_Ha_putWord_3 : decode b_Ha_putWord 3 = .ok (.iload 4, 2) := by decide +kernel
theorem d_Ha_putWord_5 : decode b_Ha_putWord 5 = .ok (.bipush 8, 2) := by decide +kernel
theorem d_Ha_putWord_7 : decode b_Ha_putWord 7 = .ok (.if_icmp .ge 27, 3) := by decide +kernel
theorem d_Ha_putWord_10 : decode b_Ha_putWord 10 = .ok (.aload_n 0, 1) := by decide +kernel
theorem d_Ha_putWord_11 : decode b_Ha_putWord 11 = .ok (.iload_n 1, 1) := by decide +kernel
theorem d_Ha_putWord_12 : decode b_Ha_putWord 12 = .ok (.iload 4, 2) := by decide +kernel
theorem d_Ha_putWord_14 : decode b_Ha_putWord 14 = .ok (.iadd, 1) := by decide +kernel
theorem d_Ha_putWord_15 : decode b_Ha_putWord 15 = .ok (.lload_n 2, 1) := by decide +kernel
theorem d_Ha_putWord_16 : decode b_Ha_putWord 16 = .ok (.bipush 56, 2) := by decide +kernel
theorem d_Ha_putWord_18 : decode b_Ha_putWord 18 = .ok (.bipush 8, 2) := by decide +kernel
theorem d_Ha_putWord_20 : decode b_Ha_putWord 20 = .ok (.iload 4, 2) := by decide +kernel
theorem d_Ha_putWord_22 : decode b_Ha_putWord 22 = .ok (.imul, 1) := by decide +kernel
theorem d_Ha_putWord_23 : decode b_Ha_putWord 23 = .ok (.isub, 1) := by decide +kernel
theorem d_Ha_putWord_24 : decode b_Ha_putWord 24 = .ok (.lshr, 1) := by decide +kernel
theorem d_Ha_putWord_25 : decode b_Ha_putWord 25 = .ok (.l2i, 1) := by decide +kernel
theorem d_Ha_putWord_26 : decode b_Ha_putWord 26 = .ok (.i2b, 1) := by decide +kernel
theorem d_Ha_putWord_27 : decode b_Ha_putWord 27 = .ok (.bastore, 1) := by decide +kernel
theorem d_Ha_putWord_28 : decode b_Ha_putWord 28 = .ok (.iinc 4 1, 3) := by decide +kernel
theorem d_Ha_putWord_31 : decode b_Ha_putWord 31 = .ok (.goto (-28), 3) := by decide +kernel
theorem d_Ha_putWord_34 : decode b_Ha_putWord 34 = .ok (.return_, 1) := by decide +kernel
theorem d_Ha_spreadWords_0 : decode b_Ha_spreadWords 0 = .ok (.iconst 0, 1) := by decide +kernel
theorem d_Ha_spreadWords_1 : decode b_Ha_spreadWords 1 = .ok (.istore_n 1, 1) := by decide +kernel
theorem d_Ha_spreadWords_2 : decode b_Ha_spreadWords 2 = .ok (.iload_n 1, 1) := by decide +kernel
theorem d_Ha_spreadWords_3 : decode b_Ha_spreadWords 3 = .ok (.bipush 16, 2) := by decide +kernel
theorem d_Ha_spreadWords_5 : decode b_Ha_spreadWords 5 = .ok (.if_icmp .ge 60, 3) := by decide +kernel
theorem d_Ha_spreadWords_8 : decode b_Ha_spreadWords 8 = .ok (.lconst 0, 1) := by decide +kernel
theorem d_Ha_spreadWords_9 : decode b_Ha_spreadWords 9 = .ok (.lstore_n 2, 1) := by decide +kernel
theorem d_Ha_spreadWords_10 : decode b_Ha_spreadWords 10 = .ok (.bipush 8, 2) := by decide +kernel
theorem d_Ha_spreadWords_12 : decode b_Ha_spreadWords 12 = .ok (.iload_n 1, 1) := by decide +kernel
theorem d_Ha_spreadWords_13 : decode b_Ha_spreadWords 13 = .ok (.imul, 1) := by decide +kernel
theorem d_Ha_spreadWords_14 : decode b_Ha_spreadWords 14 = .ok (.istore 4, 2) := by decide +kernel
theorem d_Ha_spreadWords_16 : decode b_Ha_spreadWords 16 = .ok (.iload 4, 2) := by decide +kernel
theorem d_Ha_spreadWords_18 : decode b_Ha_spreadWords 18 = .ok (.bipush 8, 2) := by decide +kernel
theorem d_Ha_spreadWords_20 : decode b_Ha_spreadWords 20 = .ok (.iload_n 1, 1) := by decide +kernel
theorem d_Ha_spreadWords_21 : decode b_Ha_spreadWords 21 = .ok (.imul, 1) := by decide +kernel
theorem d_Ha_spreadWords_22 : decode b_Ha_spreadWords 22 = .ok (.bipush 8, 2) := by decide +kernel
theorem d_Ha_spreadWords_24 : decode b_Ha_spreadWords 24 = .ok (.iadd, 1) := by decide +kernel
theorem d_Ha_spreadWords_25 : decode b_Ha_spreadWords 25 = .ok (.if_icmp .ge 27, 3) := by decide +kernel
theorem d_Ha_spreadWords_28 : decode b_Ha_spreadWords 28 = .ok (.lload_n 2, 1) := by decide +kernel
theorem d_Ha_spreadWords_29 : decode b_Ha_spreadWords 29 = .ok (.bipush 8, 2) := by decide +kernel
theorem d_Ha_spreadWords_31 : decode b_Ha_spreadWords 31 = .ok (.lshl, 1) := by decide +kernel
theorem d_Ha_spreadWords_32 : decode b_Ha_spreadWords 32 = .ok (.aload_n 0, 1) := by decide +kernel
theorem d_Ha_spreadWords_33 : decode b_Ha_spreadWords 33 = .ok (.getfield 16, 3) := by decide +kernel
theorem d_Ha_spreadWords_36 : decode b_Ha_spreadWords 36 = .ok (.iload 4, 2) := by decide +kernel
theorem d_Ha_spreadWords_38 : decode b_Ha_spreadWords 38 = .ok (.baload, 1) := by decide +kernel
theorem d_Ha_spreadWords_39 : decode b_Ha_spreadWords 39 = .ok (.sipush 255, 3) := by decide +kernel
theorem d_Ha_spreadWords_42 : decode b_Ha_spreadWords 42 = .ok (.iand, 1) := by decide +kernel
theorem d_Ha_spreadWords_43 : decode b_Ha_spreadWords 43 = .ok (.i2l, 1) := by decide +kernel
theorem d_Ha_spreadWords_44 : decode b_Ha_spreadWords 44 = .ok (.lor, 1) := by decide +kernel
theorem d_Ha_spreadWords_45 : decode b_Ha_spreadWords 45 = .ok (.lstore_n 2, 1) := by decide +kernel
theorem d_Ha_spreadWords_46 : decode b_Ha_spreadWords 46 = .ok (.iinc 4 1, 3) := by decide +kernel
theorem d_Ha_spreadWords_49 : decode b_Ha_spreadWords 49 = .ok (.goto (-33), 3) := by decide +kernel
theorem d_Ha_spreadWords_52 : decode b_Ha_spreadWords 52 = .ok (.aload_n 0, 1) := by decide +kernel
theorem d_Ha_spreadWords_53 : decode b_Ha_spreadWords 53 = .ok (.getfield 13, 3) := by decide +kernel
theorem d_Ha_spreadWords_56 : decode b_Ha_spreadWords 56 = .ok (.iload_n 1, 1) := by decide +kernel
theorem d_Ha_spreadWords_57 : decode b_Ha_spreadWords 57 = .ok (.lload_n 2, 1) := by decide +kernel
theorem d_Ha_spreadWords_58 : decode b_Ha_spreadWords 58 = .ok (.lastore, 1) := by decide +kernel
theorem d_Ha_spreadWords_59 : decode b_Ha_spreadWords 59 = .ok (.iinc 1 1, 3) := by decide +kernel
theorem d_Ha_spreadWords_62 : decode b_Ha_spreadWords 62 = .ok (.goto (-60), 3) := by decide +kernel
theorem d_Ha_spreadWords_65 : decode b_Ha_spreadWords 65 = .ok (.bipush 16, 2) := by decide +kernel
theorem d_Ha_spreadWords_67 : decode b_Ha_spreadWords 67 = .ok (.istore_n 1, 1) := by decide +kernel
theorem d_Ha_spreadWords_68 : decode b_Ha_spreadWords 68 = .ok (.iload_n 1, 1) := by decide +kernel
theorem d_Ha_spreadWords_69 : decode b_Ha_spreadWords 69 = .ok (.bipush 80, 2) := by decide +kernel
theorem d_Ha_spreadWords_71 : decode b_Ha_spreadWords 71 = .ok (.if_icmp .ge 115, 3) := by decide +kernel
theorem d_Ha_spreadWords_74 : decode b_Ha_spreadWords 74 = .ok (.aload_n 0, 1) := by decide +kernel
theorem d_Ha_spreadWords_75 : decode b_Ha_spreadWords 75 = .ok (.getfield 13, 3) := by decide +kernel
theorem d_Ha_spreadWords_78 : decode b_Ha_spreadWords 78 = .ok (.iload_n 1, 1) := by decide +kernel
theorem d_Ha_spreadWords_79 : decode b_Ha_spreadWords 79 = .ok (.bipush 15, 2) := by decide +kernel
theorem d_Ha_spreadWords_81 : decode b_Ha_spreadWords 81 = .ok (.isub, 1) := by decide +kernel
theorem d_Ha_spreadWords_82 : decode b_Ha_spreadWords 82 = .ok (.laload, 1) := by decide +kernel
theorem d_Ha_spreadWords_83 : decode b_Ha_spreadWords 83 = .ok (.lstore_n 2, 1) := by decide +kernel
theorem d_Ha_spreadWords_84 : decode b_Ha_spreadWords 84 = .ok (.aload_n 0, 1) := by decide +kernel
theorem d_Ha_spreadWords_85 : decode b_Ha_spreadWords 85 = .ok (.getfield 13, 3) := by decide +kernel
theorem d_Ha_spreadWords_88 : decode b_Ha_spreadWords 88 = .ok (.iload_n 1, 1) := by decide +kernel
theorem d_Ha_spreadWords_89 : decode b_Ha_spreadWords 89 = .ok (.iconst 2, 1) := by decide +kernel
theorem d_Ha_spreadWords_90 : decode b_Ha_spreadWords 90 = .ok (.isub, 1) := by decide +kernel
theorem d_Ha_spreadWords_91 : decode b_Ha_spreadWords 91 = .ok (.laload, 1) := by decide +kernel
theorem d_Ha_spreadWords_92 : decode b_Ha_spreadWords 92 = .ok (.lstore 4, 2) := by decide +kernel
theorem d_Ha_spreadWords_94 : decode b_Ha_spreadWords 94 = .ok (.lload_n 2, 1) := by decide +kernel
theorem d_Ha_spreadWords_95 : decode b_Ha_spreadWords 95 = .ok (.iconst 1, 1) := by decide +kernel
theorem d_Ha_spreadWords_96 : decode b_Ha_spreadWords 96 = .ok (.lushr, 1) := by decide +kernel
theorem d_Ha_spreadWords_97 : decode b_Ha_spreadWords 97 = .ok (.lload_n 2, 1) := by decide +kernel
theorem d_Ha_spreadWords_98 : decode b_Ha_spreadWords 98 = .ok (.bipush 63, 2) := by decide +kernel
theorem d_Ha_spreadWords_100 : decode b_Ha_spreadWords 100 = .ok (.lshl, 1) := by decide +kernel
theorem d_Ha_spreadWords_101 : decode b_Ha_spreadWords 101 = .ok (.lor, 1) := by decide +kernel
theorem d_Ha_spreadWords_102 : decode b_Ha_spreadWords 102 = .ok (.lload_n 2, 1) := by decide +kernel
theorem d_Ha_spreadWords_103 : decode b_Ha_spreadWords 103 = .ok (.bipush 8, 2) := by decide +kernel
theorem d_Ha_spreadWords_105 : decode b_Ha_spreadWords 105 = .ok (.lushr, 1) := by decide +kernel
theorem d_Ha_spreadWords_106 : decode b_Ha_spreadWords 106 = .ok (.lload_n 2, 1) := by decide +kernel
theorem d_Ha_spreadWords_107 : decode b_Ha_spreadWords 107 = .ok (.bipush 56, 2) := by decide +kernel
theorem d_Ha_spreadWords_109 : decode b_Ha_spreadWords 109 = .ok (.lshl, 1) := by decide +kernel
theorem d_Ha_spreadWords_110 : decode b_Ha_spreadWords 110 = .ok (.lor, 1) := by decide +kernel
theorem d_Ha_spreadWords_111 : decode b_Ha_spreadWords 111 = .ok (.lxor, 1) := by decide +kernel
theorem d_Ha_spreadWords_112 : decode b_Ha_spreadWords 112 = .ok (.lload_n 2, 1) := by decide +kernel
theorem d_Ha_spreadWords_113 : decode b_Ha_spreadWords 113 = .ok (.bipush 7, 2) := by decide +kernel
theorem d_Ha_spreadWords_115 : decode b_Ha_spreadWords 115 = .ok (.lushr, 1) := by decide +kernel
theorem d_Ha_spreadWords_116 : decode b_Ha_spreadWords 116 = .ok (.lxor, 1) := by decide +kernel
theorem d_Ha_spreadWords_117 : decode b_Ha_spreadWords 117 = .ok (.lstore 6, 2) := by decide +kernel
theorem d_Ha_spreadWords_119 : decode b_Ha_spreadWords 119 = .ok (.lload 4, 2) := by decide +kernel
theorem d_Ha_spreadWords_121 : decode b_Ha_spreadWords 121 = .ok (.bipush 19, 2) := by decide +kernel
theorem d_Ha_spreadWords_123 : decode b_Ha_spreadWords 123 = .ok (.lushr, 1) := by decide +kernel
theorem d_Ha_spreadWords_124 : decode b_Ha_spreadWords 124 = .ok (.lload 4, 2) := by decide +kernel
theorem d_Ha_spreadWords_126 : decode b_Ha_spreadWords 126 = .ok (.bipush 45, 2) := by decide +kernel
theorem d_Ha_spreadWords_128 : decode b_Ha_spreadWords 128 = .ok (.lshl, 1) := by decide +kernel
theorem d_Ha_spreadWords_129 : decode b_Ha_spreadWords 129 = .ok (.lor, 1) := by decide +kernel
theorem d_Ha_spreadWords_130 : decode b_Ha_spreadWords 130 = .ok (.lload 4, 2) := by decide +kernel
theorem d_Ha_spreadWords_132 : decode b_Ha_spreadWords 132 = .ok (.bipush 61, 2) := by decide +kernel
theorem d_Ha_spreadWords_134 : decode b_Ha_spreadWords 134 = .ok (.lushr, 1) := by decide +kernel
theorem d_Ha_spreadWords_135 : decode b_Ha_spreadWords 135 = .ok (.lload 4, 2) := by decide +kernel
theorem d_Ha_spreadWords_137 : decode b_Ha_spreadWords 137 = .ok (.iconst 3, 1) := by decide +kernel
theorem d_Ha_spreadWords_138 : decode b_Ha_spreadWords 138 = .ok (.lshl, 1) := by decide +kernel
theorem d_Ha_spreadWords_139 : decode b_Ha_spreadWords 139 = .ok (.lor, 1) := by decide +kernel
theorem d_Ha_spreadWords_140 : decode b_Ha_spreadWords 140 = .ok (.lxor, 1) := by decide +kernel
theorem d_Ha_spreadWords_141 : decode b_Ha_spreadWords 141 = .ok (.lload 4, 2) := by decide +kernel
theorem d_Ha_spreadWords_143 : decode b_Ha_spreadWords 143 = .ok (.bipush 6, 2) := by decide +kernel
theorem d_Ha_spreadWords_145 : decode b_Ha_spreadWords 145 = .ok (.lushr, 1) := by decide +kernel
theorem d_Ha_spreadWords_146 : decode b_Ha_spreadWords 146 = .ok (.lxor, 1) := by decide +kernel
theorem d_Ha_spreadWords_147 : decode b_Ha_spreadWords 147 = .ok (.lstore 8, 2) := by decide +kernel
theorem d_Ha_spreadWords_149 : decode b_Ha_spreadWords 149 = .ok (.aload_n 0, 1) := by decide +kernel
theorem d_Ha_spreadWords_150 : decode b_Ha_spreadWords 150 = .ok (.getfield 13, 3) := by decide +kernel
theorem d_Ha_spreadWords_153 : decode b_Ha_spreadWords 153 = .ok (.iload_n 1, 1) := by decide +kernel
theorem d_Ha_spreadWords_154 : decode b_Ha_spreadWords 154 = .ok (.aload_n 0, 1) := by decide +kernel
theorem d_Ha_spreadWords_155 : decode b_Ha_spreadWords 155 = .ok (.getfield 13, 3) := by decide +kernel
theorem d_Ha_spreadWords_158 : decode b_Ha_spreadWords 158 = .ok (.iload_n 1, 1) := by decide +kernel
theorem d_Ha_spreadWords_159 : decode b_Ha_spreadWords 159 = .ok (.bipush 16, 2) := by decide +kernel
theorem d_Ha_spreadWords_161 : decode b_Ha_spreadWords 161 = .ok (.isub, 1) := by decide +kernel
theorem d_Ha_spreadWords_162 : decode b_Ha_spreadWords 162 = .ok (.laload, 1) := by decide +kernel
theorem d_Ha_spreadWords_163 : decode b_Ha_spreadWords 163 = .ok (.lload 6, 2) := by decide +kernel
theorem d_Ha_spreadWords_165 : decode b_Ha_spreadWords 165 = .ok (.ladd, 1) := by decide +kernel
theorem d_Ha_spreadWords_166 : decode b_Ha_spreadWords 166 = .ok (.aload_n 0, 1) := by decide +kernel
theorem d_Ha_spreadWords_167 : decode b_Ha_spreadWords 167 = .ok (.getfield 13, 3) := by decide +kernel
theorem d_Ha_spreadWords_170 : decode b_Ha_spreadWords 170 = .ok (.iload_n 1, 1) := by decide +kernel
theorem d_Ha_spreadWords_171 : decode b_Ha_spreadWords 171 = .ok (.bipush 7, 2) := by decide +kernel
theorem d_Ha_spreadWords_173 : decode b_Ha_spreadWords 173 = .ok (.isub, 1) := by decide +kernel
theorem d_Ha_spreadWords_174 : decode b_Ha_spreadWords 174 = .ok (.laload, 1) := by decide +kernel
theorem d_Ha_spreadWords_175 : decode b_Ha_spreadWords 175 = .ok (.ladd, 1) := by decide +kernel
theorem d_Ha_spreadWords_176 : decode b_Ha_spreadWords 176 = .ok (.lload 8, 2) := by decide +kernel
theorem d_Ha_spreadWords_178 : decode b_Ha_spreadWords 178 = .ok (.ladd, 1) := by decide +kernel
theorem d_Ha_spreadWords_179 : decode b_Ha_spreadWords 179 = .ok (.lastore, 1) := by decide +kernel
theorem d_Ha_spreadWords_180 : decode b_Ha_spreadWords 180 = .ok (.iinc 1 1, 3) := by decide +kernel
theorem d_Ha_spreadWords_183 : decode b_Ha_spreadWords 183 = .ok (.goto (-115), 3) := by decide +kernel
theorem d_Ha_spreadWords_186 : decode b_Ha_spreadWords 186 = .ok (.return_, 1) := by decide +kernel
theorem d_Ha_mix_0 : decode b_Ha_mix 0 = .ok (.aload_n 0, 1) := by decide +kernel
theorem d_Ha_mix_1 : decode b_Ha_mix 1 = .ok (.invokevirtual 54, 3) := by decide +kernel
theorem d_Ha_mix_4 : decode b_Ha_mix 4 = .ok (.aload_n 0, 1) := by decide +kernel
theorem d_Ha_mix_5 : decode b_Ha_mix 5 = .ok (.getfield 7, 3) := by decide +kernel
theorem d_Ha_mix_8 : decode b_Ha_mix 8 = .ok (.iconst 0, 1) := by decide +kernel
theorem d_Ha_mix_9 : decode b_Ha_mix 9 = .ok (.laload, 1) := by decide +kernel
theorem d_Ha_mix_10 : decode b_Ha_mix 10 = .ok (.lstore_n 1, 1) := by decide +kernel
theorem d_Ha_mix_11 : decode b_Ha_mix 11 = .ok (.aload_n 0, 1) := by decide +kernel
theorem d_Ha_mix_12 : decode b_Ha_mix 12 = .ok (.getfield 7, 3) := by decide +kernel
theorem d_Ha_mix_15 : decode b_Ha_mix 15 = .ok (.iconst 1, 1) := by decide +kernel
theorem d_Ha_mix_16 : decode b_Ha_mix 16 = .ok (.laload, 1) := by decide +kernel
theorem d_Ha_mix_17 : decode b_Ha_mix 17 = .ok (.lstore_n 3, 1) := by decide +kernel
theorem d_Ha_mix_18 : decode b_Ha_mix 18 = .ok (.aload_n 0, 1) := by decide +kernel
theorem d_Ha_mix_19 : decode b_Ha_mix 19 = .ok (.getfield 7, 3) := by decide +kernel
theorem d_Ha_mix_22 : decode b_Ha_mix 22 = .ok (.iconst 2, 1) := by decide +kernel
theorem d_Ha_mix_23 : decode b_Ha_mix 23 = .ok (.laload, 1) := by decide +kernel
theorem d_Ha_mix_24 : decode b_Ha_mix 24 = .ok (.lstore 5, 2) := by decide +kernel
theorem d_Ha_mix_26 : decode b_Ha_mix 26 = .ok (.aload_n 0, 1) := by decide +kernel
theorem d_Ha_mix_27 : decode b_Ha_mix 27 = .ok (.getfield 7, 3) := by decide +kernel
theorem d_Ha_mix_30 : decode b_Ha_mix 30 = .ok (.iconst 3, 1) := by decide +kernel
theorem d_Ha_mix_31 : decode b_Ha_mix 31 = .ok (.laload, 1) := by decide +kernel
theorem d_Ha_mix_32 : decode b_Ha_mix 32 = .ok (.lstore 7, 2) := by decide +kernel
theorem d_Ha_mix_34 : decode b_Ha_mix 34 = .ok (.aload_n 0, 1) := by decide +kernel
theorem d_Ha_mix_35 : decode b_Ha_mix 35 = .ok (.getfield 7, 3) := by decide +kernel
theorem d_Ha_mix_38 : decode b_Ha_mix 38 = .ok (.iconst 4, 1) := by decide +kernel
theorem d_Ha_mix_39 : decode b_Ha_mix 39 = .ok (.laload, 1) := by decide +kernel
theorem d_Ha_mix_40 : decode b_Ha_mix 40 = .ok (.lstore 9, 2) := by decide +kernel
theorem d_Ha_mix_42 : decode b_Ha_mix 42 = .ok (.aload_n 0, 1) := by decide +kernel
theorem d_Ha_mix_43 : decode b_Ha_mix 43 = .ok (.getfield 7, 3) := by decide +kernel
theorem d_Ha_mix_46 : decode b_Ha_mix 46 = .ok (.iconst 5, 1) := by decide +kernel
theorem d_Ha_mix_47 : decode b_Ha_mix 47 = .ok (.laload, 1) := by decide +kernel
theorem d_Ha_mix_48 : decode b_Ha_mix 48 = .ok (.lstore 11, 2) := by decide +kernel
theorem d_Ha_mix_50 : decode b_Ha_mix 50 = .ok (.aload_n 0, 1) := by decide +kernel
theorem d_Ha_mix_51 : decode b_Ha_mix 51 = .ok (.getfield 7, 3) := by decide +kernel
theorem d_Ha_mix_54 : decode b_Ha_mix 54 = .ok (.bipush 6, 2) := by decide +kernel
theorem d_Ha_mix_56 : decode b_Ha_mix 56 = .ok (.laload, 1) := by decide +kernel
theorem d_Ha_mix_57 : decode b_Ha_mix 57 = .ok (.lstore 13, 2) := by decide +kernel
theorem d_Ha_mix_59 : decode b_Ha_mix 59 = .ok (.aload_n 0, 1) := by decide +kernel
theorem d_Ha_mix_60 : decode b_Ha_mix 60 = .ok (.getfield 7, 3) := by decide +kernel
theorem d_Ha_mix_63 : decode b_Ha_mix 63 = .ok (.bipush 7, 2) := by decide +kernel
theorem d_Ha_mix_65 : decode b_Ha_mix 65 = .ok (.laload, 1) := by decide +kernel
theorem d_Ha_mix_66 : decode b_Ha_mix 66 = .ok (.lstore 15, 2) := by decide +kernel
theorem d_Ha_mix_68 : decode b_Ha_mix 68 = .ok (.iconst 0, 1) := by decide +kernel
theorem d_Ha_mix_69 : decode b_Ha_mix 69 = .ok (.istore 17, 2) := by decide +kernel
theorem d_Ha_mix_71 : decode b_Ha_mix 71 = .ok (.iload 17, 2) := by decide +kernel
theorem d_Ha_mix_73 : decode b_Ha_mix 73 = .ok (.bipush 80, 2) := by decide +kernel
theorem d_Ha_mix_75 : decode b_Ha_mix 75 = .ok (.if_icmp .ge 167, 3) := by decide +kernel
theorem d_Ha_mix_78 : decode b_Ha_mix 78 = .ok (.lload 9, 2) := by decide +kernel
theorem d_Ha_mix_80 : decode b_Ha_mix 80 = .ok (.bipush 14, 2) := by decide +kernel
theorem d_Ha_mix_82 : decode b_Ha_mix 82 = .ok (.lushr, 1) := by decide +kernel
theorem d_Ha_mix_83 : decode b_Ha_mix 83 = .ok (.lload 9, 2) := by decide +kernel
theorem d_Ha_mix_85 : decode b_Ha_mix 85 = .ok (.bipush 50, 2) := by decide +kernel
theorem d_Ha_mix_87 : decode b_Ha_mix 87 = .ok (.lshl, 1) := by decide +kernel
theorem d_Ha_mix_88 : decode b_Ha_mix 88 = .ok (.lor, 1) := by decide +kernel
theorem d_Ha_mix_89 : decode b_Ha_mix 89 = .ok (.lload 9, 2) := by decide +kernel
theorem d_Ha_mix_91 : decode b_Ha_mix 91 = .ok (.bipush 18, 2) := by decide +kernel
theorem d_Ha_mix_93 : decode b_Ha_mix 93 = .ok (.lushr, 1) := by decide +kernel
theorem d_Ha_mix_94 : decode b_Ha_mix 94 = .ok (.lload 9, 2) := by decide +kernel
theorem d_Ha_mix_96 : decode b_Ha_mix 96 = .ok (.bipush 46, 2) := by decide +kernel
theorem d_Ha_mix_98 : decode b_Ha_mix 98 = .ok (.lshl, 1) := by decide +kernel
theorem d_Ha_mix_99 : decode b_Ha_mix 99 = .ok (.lor, 1) := by decide +kernel
theorem d_Ha_mix_100 : decode b_Ha_mix 100 = .ok (.lxor, 1) := by decide +kernel
theorem d_Ha_mix_101 : decode b_Ha_mix 101 = .ok (.lload 9, 2) := by decide +kernel
theorem d_Ha_mix_103 : decode b_Ha_mix 103 = .ok (.bipush 41, 2) := by decide +kernel
theorem d_Ha_mix_105 : decode b_Ha_mix 105 = .ok (.lushr, 1) := by decide +kernel
theorem d_Ha_mix_106 : decode b_Ha_mix 106 = .ok (.lload 9, 2) := by decide +kernel
theorem d_Ha_mix_108 : decode b_Ha_mix 108 = .ok (.bipush 23, 2) := by decide +kernel
theorem d_Ha_mix_110 : decode b_Ha_mix 110 = .ok (.lshl, 1) := by decide +kernel
theorem d_Ha_mix_111 : decode b_Ha_mix 111 = .ok (.lor, 1) := by decide +kernel
theorem d_Ha_mix_112 : decode b_Ha_mix 112 = .ok (.lxor, 1) := by decide +kernel
theorem d_Ha_mix_113 : decode b_Ha_mix 113 = .ok (.lstore 18, 2) := by decide +kernel
theorem d_Ha_mix_115 : decode b_Ha_mix 115 = .ok (.lload_n 1, 1) := by decide +kernel
theorem d_Ha_mix_116 : decode b_Ha_mix 116 = .ok (.bipush 28, 2) := by decide +kernel
theorem d_Ha_mix_118 : decode b_Ha_mix 118 = .ok (.lushr, 1) := by decide +kernel
theorem d_Ha_mix_119 : decode b_Ha_mix 119 = .ok (.lload_n 1, 1) := by decide +kernel
theorem d_Ha_mix_120 : decode b_Ha_mix 120 = .ok (.bipush 36, 2) := by decide +kernel
theorem d_Ha_mix_122 : decode b_Ha_mix 122 = .ok (.lshl, 1) := by decide +kernel
theorem d_Ha_mix_123 : decode b_Ha_mix 123 = .ok (.lor, 1) := by decide +kernel
theorem d_Ha_mix_124 : decode b_Ha_mix 124 = .ok (.lload_n 1, 1) := by decide +kernel
theorem d_Ha_mix_125 : decode b_Ha_mix 125 = .ok (.bipush 34, 2) := by decide +kernel
theorem d_Ha_mix_127 : decode b_Ha_mix 127 = .ok (.lushr, 1) := by decide +kernel
theorem d_Ha_mix_128 : decode b_Ha_mix 128 = .ok (.lload_n 1, 1) := by decide +kernel
theorem d_Ha_mix_129 : decode b_Ha_mix 129 = .ok (.bipush 30, 2) := by decide +kernel
theorem d_Ha_mix_131 : decode b_Ha_mix 131 = .ok (.lshl, 1) := by decide +kernel
theorem d_Ha_mix_132 : decode b_Ha_mix 132 = .ok (.lor, 1) := by decide +kernel
theorem d_Ha_mix_133 : decode b_Ha_mix 133 = .ok (.lxor, 1) := by decide +kernel
theorem d_Ha_mix_134 : decode b_Ha_mix 134 = .ok (.lload_n 1, 1) := by decide +kernel
theorem d_Ha_mix_135 : decode b_Ha_mix 135 = .ok (.bipush 39, 2) := by decide +kernel
theorem d_Ha_mix_137 : decode b_Ha_mix 137 = .ok (.lushr, 1) := by decide +kernel
theorem d_Ha_mix_138 : decode b_Ha_mix 138 = .ok (.lload_n 1, 1) := by decide +kernel
theorem d_Ha_mix_139 : decode b_Ha_mix 139 = .ok (.bipush 25, 2) := by decide +kernel
theorem d_Ha_mix_141 : decode b_Ha_mix 141 = .ok (.lshl, 1) := by decide +kernel
theorem d_Ha_mix_142 : decode b_Ha_mix 142 = .ok (.lor, 1) := by decide +kernel
theorem d_Ha_mix_143 : decode b_Ha_mix 143 = .ok (.lxor, 1) := by decide +kernel
theorem d_Ha_mix_144 : decode b_Ha_mix 144 = .ok (.lstore 20, 2) := by decide +kernel
theorem d_Ha_mix_146 : decode b_Ha_mix 146 = .ok (.lload 15, 2) := by decide +kernel
theorem d_Ha_mix_148 : decode b_Ha_mix 148 = .ok (.lload 18, 2) := by decide +kernel
theorem d_Ha_mix_150 : decode b_Ha_mix 150 = .ok (.ladd, 1) := by decide +kernel
theorem d_Ha_mix_151 : decode b_Ha_mix 151 = .ok (.lload 9, 2) := by decide +kernel
theorem d_Ha_mix_153 : decode b_Ha_mix 153 = .ok (.lload 11, 2) := by decide +kernel
theorem d_Ha_mix_155 : decode b_Ha_mix 155 = .ok (.land, 1) := by decide +kernel
theorem d_Ha_mix_156 : decode b_Ha_mix 156 = .ok (.lload 9, 2) := by decide +kernel
theorem d_Ha_mix_158 : decode b_Ha_mix 158 = .ok (.ldc2_w 57, 3) := by decide +kernel
theorem d_Ha_mix_161 : decode b_Ha_mix 161 = .ok (.lxor, 1) := by decide +kernel
theorem d_Ha_mix_162 : decode b_Ha_mix 162 = .ok (.lload 13, 2) := by decide +kernel
theorem d_Ha_mix_164 : decode b_Ha_mix 164 = .ok (.land, 1) := by decide +kernel
theorem d_Ha_mix_165 : decode b_Ha_mix 165 = .ok (.lxor, 1) := by decide +kernel
theorem d_Ha_mix_166 : decode b_Ha_mix 166 = .ok (.ladd, 1) := by decide +kernel
theorem d_Ha_mix_167 : decode b_Ha_mix 167 = .ok (.getstatic 59, 3) := by decide +kernel
theorem d_Ha_mix_170 : decode b_Ha_mix 170 = .ok (.iload 17, 2) := by decide +kernel
theorem d_Ha_mix_172 : decode b_Ha_mix 172 = .ok (.laload, 1) := by decide +kernel
theorem d_Ha_mix_173 : decode b_Ha_mix 173 = .ok (.ladd, 1) := by decide +kernel
theorem d_Ha_mix_174 : decode b_Ha_mix 174 = .ok (.aload_n 0, 1) := by decide +kernel
theorem d_Ha_mix_175 : decode b_Ha_mix 175 = .ok (.getfield 13, 3) := by decide +kernel
theorem d_Ha_mix_178 : decode b_Ha_mix 178 = .ok (.iload 17, 2) := by decide +kernel
theorem d_Ha_mix_180 : decode b_Ha_mix 180 = .ok (.laload, 1) := by decide +kernel
theorem d_Ha_mix_181 : decode b_Ha_mix 181 = .ok (.ladd, 1) := by decide +kernel
theorem d_Ha_mix_182 : decode b_Ha_mix 182 = .ok (.lstore 22, 2) := by decide +kernel
theorem d_Ha_mix_184 : decode b_Ha_mix 184 = .ok (.lload 20, 2) := by decide +kernel
theorem d_Ha_mix_186 : decode b_Ha_mix 186 = .ok (.lload_n 1, 1) := by decide +kernel
theorem d_Ha_mix_187 : decode b_Ha_mix 187 = .ok (.lload_n 3, 1) := by decide +kernel
theorem d_Ha_mix_188 : decode b_Ha_mix 188 = .ok (.land, 1) := by decide +kernel
theorem d_Ha_mix_189 : decode b_Ha_mix 189 = .ok (.lload_n 1, 1) := by decide +kernel
theorem d_Ha_mix_190 : decode b_Ha_mix 190 = .ok (.lload 5, 2) := by decide +kernel
theorem d_Ha_mix_192 : decode b_Ha_mix 192 = .ok (.land, 1) := by decide +kernel
theorem d_Ha_mix_193 : decode b_Ha_mix 193 = .ok (.lxor, 1) := by decide +kernel
theorem d_Ha_mix_194 : decode b_Ha_mix 194 = .ok (.lload_n 3, 1) := by decide +kernel
theorem d_Ha_mix_195 : decode b_Ha_mix 195 = .ok (.lload 5, 2) := by decide +kernel
theorem d_Ha_mix_197 : decode b_Ha_mix 197 = .ok (.land, 1) := by decide +kernel
theorem d_Ha_mix_198 : decode b_Ha_mix 198 = .ok (.lxor, 1) := by decide +kernel
theorem d_Ha_mix_199 : decode b_Ha_mix 199 = .ok (.ladd, 1) := by decide +kernel
theorem d_Ha_mix_200 : decode b_Ha_mix 200 = .ok (.lstore 24, 2) := by decide +kernel
theorem d_Ha_mix_202 : decode b_Ha_mix 202 = .ok (.lload 13, 2) := by decide +kernel
theorem d_Ha_mix_204 : decode b_Ha_mix 204 = .ok (.lstore 15, 2) := by decide +kernel
theorem d_Ha_mix_206 : decode b_Ha_mix 206 = .ok (.lload 11, 2) := by decide +kernel
theorem d_Ha_mix_208 : decode b_Ha_mix 208 = .ok (.lstore 13, 2) := by decide +kernel
theorem d_Ha_mix_210 : decode b_Ha_mix 210 = .ok (.lload 9, 2) := by decide +kernel
theorem d_Ha_mix_212 : decode b_Ha_mix 212 = .ok (.lstore 11, 2) := by decide +kernel
theorem d_Ha_mix_214 : decode b_Ha_mix 214 = .ok (.lload 7, 2) := by decide +kernel
theorem d_Ha_mix_216 : decode b_Ha_mix 216 = .ok (.lload 22, 2) := by decide +kernel
theorem d_Ha_mix_218 : decode b_Ha_mix 218 = .ok (.ladd, 1) := by decide +kernel
theorem d_Ha_mix_219 : decode b_Ha_mix 219 = .ok (.lstore 9, 2) := by decide +kernel
theorem d_Ha_mix_221 : decode b_Ha_mix 221 = .ok (.lload 5, 2) := by decide +kernel
theorem d_Ha_mix_223 : decode b_Ha_mix 223 = .ok (.lstore 7, 2) := by decide +kernel
theorem d_Ha_mix_225 : decode b_Ha_mix 225 = .ok (.lload_n 3, 1) := by decide +kernel
theorem d_Ha_mix_226 : decode b_Ha_mix 226 = .ok (.lstore 5, 2) := by decide +kernel
theorem d_Ha_mix_228 : decode b_Ha_mix 228 = .ok (.lload_n 1, 1) := by decide +kernel
theorem d_Ha_mix_229 : decode b_Ha_mix 229 = .ok (.lstore_n 3, 1) := by decide +kernel
theorem d_Ha_mix_230 : decode b_Ha_mix 230 = .ok (.lload 22, 2) := by decide +kernel
theorem d_Ha_mix_232 : decode b_Ha_mix 232 = .ok (.lload 24, 2) := by decide +kernel
theorem d_Ha_mix_234 : decode b_Ha_mix 234 = .ok (.ladd, 1) := by decide +kernel
theorem d_Ha_mix_235 : decode b_Ha_mix 235 = .ok (.lstore_n 1, 1) := by decide +kernel
theorem d_Ha_mix_236 : decode b_Ha_mix 236 = .ok (.iinc 17 1, 3) := by decide +kernel
theorem d_Ha_mix_239 : decode b_Ha_mix 239 = .ok (.goto (-168), 3) := by decide +kernel
theorem d_Ha_mix_242 : decode b_Ha_mix 242 = .ok (.aload_n 0, 1) := by decide +kernel
theorem d_Ha_mix_243 : decode b_Ha_mix 243 = .ok (.getfield 7, 3) := by decide +kernel
theorem d_Ha_mix_246 : decode b_Ha_mix 246 = .ok (.iconst 0, 1) := by decide +kernel
theorem d_Ha_mix_247 : decode b_Ha_mix 247 = .ok (.dup2, 1) := by decide +kernel
theorem d_Ha_mix_248 : decode b_Ha_mix 248 = .ok (.laload, 1) := by decide +kernel
theorem d_Ha_mix_249 : decode b_Ha_mix 249 = .ok (.lload_n 1, 1) := by decide +kernel
theorem d_Ha_mix_250 : decode b_Ha_mix 250 = .ok (.ladd, 1) := by decide +kernel
theorem d_Ha_mix_251 : decode b_Ha_mix 251 = .ok (.lastore, 1) := by decide +kernel
theorem d_Ha_mix_252 : decode b_Ha_mix 252 = .ok (.aload_n 0, 1) := by decide +kernel
theorem d_Ha_mix_253 : decode b_Ha_mix 253 = .ok (.getfield 7, 3) := by decide +kernel
theorem d_Ha_mix_256 : decode b_Ha_mix 256 = .ok (.iconst 1, 1) := by decide +kernel
theorem d_Ha_mix_257 : decode b_Ha_mix 257 = .ok (.dup2, 1) := by decide +kernel
theorem d_Ha_mix_258 : decode b_Ha_mix 258 = .ok (.laload, 1) := by decide +kernel
theorem d_Ha_mix_259 : decode b_Ha_mix 259 = .ok (.lload_n 3, 1) := by decide +kernel
theorem d_Ha_mix_260 : decode b_Ha_mix 260 = .ok (.ladd, 1) := by decide +kernel
theorem d_Ha_mix_261 : decode b_Ha_mix 261 = .ok (.lastore, 1) := by decide +kernel
theorem d_Ha_mix_262 : decode b_Ha_mix 262 = .ok (.aload_n 0, 1) := by decide +kernel
theorem d_Ha_mix_263 : decode b_Ha_mix 263 = .ok (.getfield 7, 3) := by decide +kernel
theorem d_Ha_mix_266 : decode b_Ha_mix 266 = .ok (.iconst 2, 1) := by decide +kernel
theorem d_Ha_mix_267 : decode b_Ha_mix 267 = .ok (.dup2, 1) := by decide +kernel
theorem d_Ha_mix_268 : decode b_Ha_mix 268 = .ok (.laload, 1) := by decide +kernel
theorem d_Ha_mix_269 : decode b_Ha_mix 269 = .ok (.lload 5, 2) := by decide +kernel
theorem d_Ha_mix_271 : decode b_Ha_mix 271 = .ok (.ladd, 1) := by decide +kernel
theorem d_Ha_mix_272 : decode b_Ha_mix 272 = .ok (.lastore, 1) := by decide +kernel
theorem d_Ha_mix_273 : decode b_Ha_mix 273 = .ok (.aload_n 0, 1) := by decide +kernel
theorem d_Ha_mix_274 : decode b_Ha_mix 274 = .ok (.getfield 7, 3) := by decide +kernel
theorem d_Ha_mix_277 : decode b_Ha_mix 277 = .ok (.iconst 3, 1) := by decide +kernel
theorem d_Ha_mix_278 : decode b_Ha_mix 278 = .ok (.dup2, 1) := by decide +kernel
theorem d_Ha_mix_279 : decode b_Ha_mix 279 = .ok (.laload, 1) := by decide +kernel
theorem d_Ha_mix_280 : decode b_Ha_mix 280 = .ok (.lload 7, 2) := by decide +kernel
theorem d_Ha_mix_282 : decode b_Ha_mix 282 = .ok (.ladd, 1) := by decide +kernel
theorem d_Ha_mix_283 : decode b_Ha_mix 283 = .ok (.lastore, 1) := by decide +kernel
theorem d_Ha_mix_284 : decode b_Ha_mix 284 = .ok (.aload_n 0, 1) := by decide +kernel
theorem d_Ha_mix_285 : decode b_Ha_mix 285 = .ok (.getfield 7, 3) := by decide +kernel
theorem d_Ha_mix_288 : decode b_Ha_mix 288 = .ok (.iconst 4, 1) := by decide +kernel
theorem d_Ha_mix_289 : decode b_Ha_mix 289 = .ok (.dup2, 1) := by decide +kernel
theorem d_Ha_mix_290 : decode b_Ha_mix 290 = .ok (.laload, 1) := by decide +kernel
theorem d_Ha_mix_291 : decode b_Ha_mix 291 = .ok (.lload 9, 2) := by decide +kernel
theorem d_Ha_mix_293 : decode b_Ha_mix 293 = .ok (.ladd, 1) := by decide +kernel
theorem d_Ha_mix_294 : decode b_Ha_mix 294 = .ok (.lastore, 1) := by decide +kernel
theorem d_Ha_mix_295 : decode b_Ha_mix 295 = .ok (.aload_n 0, 1) := by decide +kernel
theorem d_Ha_mix_296 : decode b_Ha_mix 296 = .ok (.getfield 7, 3) := by decide +kernel
theorem d_Ha_mix_299 : decode b_Ha_mix 299 = .ok (.iconst 5, 1) := by decide +kernel
theorem d_Ha_mix_300 : decode b_Ha_mix 300 = .ok (.dup2, 1) := by decide +kernel
theorem d_Ha_mix_301 : decode b_Ha_mix 301 = .ok (.laload, 1) := by decide +kernel
theorem d_Ha_mix_302 : decode b_Ha_mix 302 = .ok (.lload 11, 2) := by decide +kernel
theorem d_Ha_mix_304 : decode b_Ha_mix 304 = .ok (.ladd, 1) := by decide +kernel
theorem d_Ha_mix_305 : decode b_Ha_mix 305 = .ok (.lastore, 1) := by decide +kernel
theorem d_Ha_mix_306 : decode b_Ha_mix 306 = .ok (.aload_n 0, 1) := by decide +kernel
theorem d_Ha_mix_307 : decode b_Ha_mix 307 = .ok (.getfield 7, 3) := by decide +kernel
theorem d_Ha_mix_310 : decode b_Ha_mix 310 = .ok (.bipush 6, 2) := by decide +kernel
theorem d_Ha_mix_312 : decode b_Ha_mix 312 = .ok (.dup2, 1) := by decide +kernel
theorem d_Ha_mix_313 : decode b_Ha_mix 313 = .ok (.laload, 1) := by decide +kernel
theorem d_Ha_mix_314 : decode b_Ha_mix 314 = .ok (.lload 13, 2) := by decide +kernel
theorem d_Ha_mix_316 : decode b_Ha_mix 316 = .ok (.ladd, 1) := by decide +kernel
theorem d_Ha_mix_317 : decode b_Ha_mix 317 = .ok (.lastore, 1) := by decide +kernel
theorem d_Ha_mix_318 : decode b_Ha_mix 318 = .ok (.aload_n 0, 1) := by decide +kernel
theorem d_Ha_mix_319 : decode b_Ha_mix 319 = .ok (.getfield 7, 3) := by decide +kernel
theorem d_Ha_mix_322 : decode b_Ha_mix 322 = .ok (.bipush 7, 2) := by decide +kernel
theorem d_Ha_mix_324 : decode b_Ha_mix 324 = .ok (.dup2, 1) := by decide +kernel
theorem d_Ha_mix_325 : decode b_Ha_mix 325 = .ok (.laload, 1) := by decide +kernel
theorem d_Ha_mix_326 : decode b_Ha_mix 326 = .ok (.lload 15, 2) := by decide +kernel
theorem d_Ha_mix_328 : decode b_Ha_mix 328 = .ok (.ladd, 1) := by decide +kernel
theorem d_Ha_mix_329 : decode b_Ha_mix 329 = .ok (.lastore, 1) := by decide +kernel
theorem d_Ha_mix_330 : decode b_Ha_mix 330 = .ok (.return_, 1) := by decide +kernel
