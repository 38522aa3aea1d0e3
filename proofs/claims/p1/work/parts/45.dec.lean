theorem d_Ed_init_0 : decode b_Ed_init 0 = .ok (.aload_n 0, 1) := by decide +kernel
theorem d_Ed_init_1 : decode b_Ed_init 1 = .ok (.invokespecial 3, 3) := by decide +kernel
theorem d_Ed_init_4 : decode b_Ed_init 4 = .ok (.aload_n 0, 1) := by decide +kernel
theorem d_Ed_init_5 : decode b_Ed_init 5 = .ok (.new 9, 3) := by decide +kernel
theorem d_Ed_init_8 : decode b_Ed_init 8 = .ok (.dup, 1) := by decide +kernel
theorem d_Ed_init_9 : decode b_Ed_init 9 = .ok (.invokespecial 11, 3) := by decide +kernel
theorem d_Ed_init_12 : decode b_Ed_init 12 = .ok (.putfield 12, 3) := by decide +kernel
theorem d_Ed_init_15 : decode b_Ed_init 15 = .ok (.aload_n 0, 1) := by decide +kernel
theorem d_Ed_init_16 : decode b_Ed_init 16 = .ok (.new 9, 3) := by decide +kernel
theorem d_Ed_init_19 : decode b_Ed_init 19 = .ok (.dup, 1) := by decide +kernel
theorem d_Ed_init_20 : decode b_Ed_init 20 = .ok (.invokespecial 11, 3) := by decide +kernel
theorem d_Ed_init_23 : decode b_Ed_init 23 = .ok (.putfield 18, 3) := by decide +kernel
theorem d_Ed_init_26 : decode b_Ed_init 26 = .ok (.aload_n 0, 1) := by decide +kernel
theorem d_Ed_init_27 : decode b_Ed_init 27 = .ok (.bipush 16, 2) := by decide +kernel
theorem d_Ed_init_29 : decode b_Ed_init 29 = .ok (.anewarray 21, 3) := by decide +kernel
theorem d_Ed_init_32 : decode b_Ed_init 32 = .ok (.putfield 23, 3) := by decide +kernel
theorem d_Ed_init_35 : decode b_Ed_init 35 = .ok (.aload_n 0, 1) := by decide +kernel
theorem d_Ed_init_36 : decode b_Ed_init 36 = .ok (.bipush 16, 2) := by decide +kernel
theorem d_Ed_init_38 : decode b_Ed_init 38 = .ok (.anewarray 21, 3) := by decide +kernel
theorem d_Ed_init_41 : decode b_Ed_init 41 = .ok (.putfield 27, 3) := by decide +kernel
theorem d_Ed_init_44 : decode b_Ed_init 44 = .ok (.aload_n 0, 1) := by decide +kernel
theorem d_Ed_init_45 : decode b_Ed_init 45 = .ok (.bipush 32, 2) := by decide +kernel
theorem d_Ed_init_47 : decode b_Ed_init 47 = .ok (.newarray .byte, 2) := by decide +kernel
theorem d_Ed_init_49 : decode b_Ed_init 49 = .ok (.putfield 30, 3) := by decide +kernel
theorem d_Ed_init_52 : decode b_Ed_init 52 = .ok (.aload_n 0, 1) := by decide +kernel
theorem d_Ed_init_53 : decode b_Ed_init 53 = .ok (.bipush 32, 2) := by decide +kernel
theorem d_Ed_init_55 : decode b_Ed_init 55 = .ok (.newarray .byte, 2) := by decide +kernel
theorem d_Ed_init_57 : decode b_Ed_init 57 = .ok (.putfield 34, 3) := by decide +kernel
theorem d_Ed_init_60 : decode b_Ed_init 60 = .ok (.aload_n 0, 1) := by decide +kernel
theorem d_Ed_init_61 : decode b_Ed_init 61 = .ok (.bipush 10, 2) := by decide +kernel
theorem d_Ed_init_63 : decode b_Ed_init 63 = .ok (.newarray .long, 2) := by decide +kernel
theorem d_Ed_init_65 : decode b_Ed_init 65 = .ok (.putfield 39, 3) := by decide +kernel
theorem d_Ed_init_68 : decode b_Ed_init 68 = .ok (.aload_n 0, 1) := by decide +kernel
theorem d_Ed_init_69 : decode b_Ed_init 69 = .ok (.bipush 10, 2) := by decide +kernel
theorem d_Ed_init_71 : decode b_Ed_init 71 = .ok (.newarray .long, 2) := by decide +kernel
theorem d_Ed_init_73 : decode b_Ed_init 73 = .ok (.putfield 43, 3) := by decide +kernel
theorem d_Ed_init_76 : decode b_Ed_init 76 = .ok (.aload_n 0, 1) := by decide +kernel
theorem d_Ed_init_77 : decode b_Ed_init 77 = .ok (.bipush 10, 2) := by decide +kernel
theorem d_Ed_init_79 : decode b_Ed_init 79 = .ok (.newarray .long, 2) := by decide +kernel
theorem d_Ed_init_81 : decode b_Ed_init 81 = .ok (.putfield 46, 3) := by decide +kernel
theorem d_Ed_init_84 : decode b_Ed_init 84 = .ok (.aload_n 0, 1) := by decide +kernel
theorem d_Ed_init_85 : decode b_Ed_init 85 = .ok (.bipush 10, 2) := by decide +kernel
theorem d_Ed_init_87 : decode b_Ed_init 87 = .ok (.newarray .long, 2) := by decide +kernel
theorem d_Ed_init_89 : decode b_Ed_init 89 = .ok (.putfield 49, 3) := by decide +kernel
theorem d_Ed_init_92 : decode b_Ed_init 92 = .ok (.aload_n 0, 1) := by decide +kernel
theorem d_Ed_init_93 : decode b_Ed_init 93 = .ok (.bipush 10, 2) := by decide +kernel
theorem d_Ed_init_95 : decode b_Ed_init 95 = .ok (.newarray .long, 2) := by decide +kernel
theorem d_Ed_init_97 : decode b_Ed_init 97 = .ok (.putfield 52, 3) := by decide +kernel
theorem d_Ed_init_100 : decode b_Ed_init 100 = .ok (.aload_n 0, 1) := by decide +kernel
theorem d_Ed_init_101 : decode b_Ed_init 101 = .ok (.bipush 10, 2) := by decide +kernel
theorem d_Ed_init_103 : decode b_Ed_init 103 = .ok (.newarray .long, 2) := by decide +kernel
theorem d_Ed_init_105 : decode b_Ed_init 105 = .ok (.putfield 55, 3) := by decide +kernel
theorem d_Ed_init_108 : decode b_Ed_init 108 = .ok (.aload_n 0, 1) := by decide +kernel
theorem d_Ed_init_109 : decode b_Ed_init 109 = .ok (.bipush 10, 2) := by decide +kernel
theorem d_Ed_init_111 : decode b_Ed_init 111 = .ok (.newarray .long, 2) := by decide +kernel
theorem d_Ed_init_113 : decode b_Ed_init 113 = .ok (.putfield 58, 3) := by decide +kernel
theorem d_Ed_init_116 : decode b_Ed_init 116 = .ok (.aload_n 0, 1) := by decide +kernel
theorem d_Ed_init_117 : decode b_Ed_init 117 = .ok (.bipush 10, 2) := by decide +kernel
theorem d_Ed_init_119 : decode b_Ed_init 119 = .ok (.newarray .long, 2) := by decide +kernel
theorem d_Ed_init_121 : decode b_Ed_init 121 = .ok (.putfield 61, 3) := by decide +kernel
theorem d_Ed_init_124 : decode b_Ed_init 124 = .ok (.aload_n 0, 1) := by decide +kernel
theorem d_Ed_init_125 : decode b_Ed_init 125 = .ok (.aload_n 1, 1) := by decide +kernel
theorem d_Ed_init_126 : decode b_Ed_init 126 = .ok (.putfield 64, 3) := by decide +kernel
theorem d_Ed_init_129 : decode b_Ed_init 129 = .ok (.iconst 0, 1) := by decide +kernel
theorem d_Ed_init_130 : decode b_Ed_init 130 = .ok (.istore_n 2, 1) := by decide +kernel
theorem d_Ed_init_131 : decode b_Ed_init 131 = .ok (.iload_n 2, 1) := by decide +kernel
theorem d_Ed_init_132 : decode b_Ed_init 132 = .ok (.bipush 16, 2) := by decide +kernel
theorem d_Ed_init_134 : decode b_Ed_init 134 = .ok (.if_icmp .ge 35, 3) := by decide +kernel
theorem d_Ed_init_137 : decode b_Ed_init 137 = .ok (.aload_n 0, 1) := by decide +kernel
theorem d_Ed_init_138 : decode b_Ed_init 138 = .ok (.getfield 23, 3) := by decide +kernel
theorem d_Ed_init_141 : decode b_Ed_init 141 = .ok (.iload_n 2, 1) := by decide +kernel
theorem d_Ed_init_142 : decode b_Ed_init 142 = .ok (.new 21, 3) := by decide +kernel
theorem d_Ed_init_145 : decode b_Ed_init 145 = .ok (.dup, 1) := by decide +kernel
theorem d_Ed_init_146 : decode b_Ed_init 146 = .ok (.invokespecial 68, 3) := by decide +kernel
theorem d_Ed_init_149 : decode b_Ed_init 149 = .ok (.aastore, 1) := by decide +kernel
theorem d_Ed_init_150 : decode b_Ed_init 150 = .ok (.aload_n 0, 1) := by decide +kernel
theorem d_Ed_init_151 : decode b_Ed_init 151 = .ok (.getfield 27, 3) := by decide +kernel
theorem d_Ed_init_154 : decode b_Ed_init 154 = .ok (.iload_n 2, 1) := by decide +kernel
theorem d_Ed_init_155 : decode b_Ed_init 155 = .ok (.new 21, 3) := by decide +kernel
theorem d_Ed_init_158 : decode b_Ed_init 158 = .ok (.dup, 1) := by decide +kernel
theorem d_Ed_init_159 : decode b_Ed_init 159 = .ok (.invokespecial 68, 3) := by decide +kernel
theorem d_Ed_init_162 : decode b_Ed_init 162 = .ok (.aastore, 1) := by decide +kernel
theorem d_Ed_init_163 : decode b_Ed_init 163 = .ok (.iinc 2 1, 3) := by decide +kernel
theorem d_Ed_init_166 : decode b_Ed_init 166 = .ok (.goto (-35), 3) := by decide +kernel
theorem d_Ed_init_169 : decode b_Ed_init 169 = .ok (.aload_n 0, 1) := by decide +kernel
theorem d_Ed_init_170 : decode b_Ed_init 170 = .ok (.getfield 18, 3) := by decide +kernel
theorem d_Ed_init_173 : decode b_Ed_init 173 = .ok (.getstatic 69, 3) := by decide +kernel
theorem d_Ed_init_176 : decode b_Ed_init 176 = .ok (.getstatic 72, 3) := by decide +kernel
theorem d_Ed_init_179 : decode b_Ed_init 179 = .ok (.invokevirtual 75, 3) := by decide +kernel
theorem d_Ed_init_182 : decode b_Ed_init 182 = .ok (.aload_n 0, 1) := by decide +kernel
theorem d_Ed_init_183 : decode b_Ed_init 183 = .ok (.aload_n 0, 1) := by decide +kernel
theorem d_Ed_init_184 : decode b_Ed_init 184 = .ok (.getfield 23, 3) := by decide +kernel
theorem d_Ed_init_187 : decode b_Ed_init 187 = .ok (.aload_n 0, 1) := by decide +kernel
theorem d_Ed_init_188 : decode b_Ed_init 188 = .ok (.getfield 18, 3) := by decide +kernel
theorem d_Ed_init_191 : decode b_Ed_init 191 = .ok (.invokevirtual 79, 3) := by decide +kernel
theorem d_Ed_init_194 : decode b_Ed_init 194 = .ok (.return_, 1) := by decide +kernel
