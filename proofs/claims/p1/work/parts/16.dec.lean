theorem d_M_raise_0 : decode b_M_raise 0 = .ok (.iconst 0, 1) := by decide +kernel
theorem d_M_raise_1 : decode b_M_raise 1 = .ok (.istore 5, 2) := by decide +kernel
theorem d_M_raise_3 : decode b_M_raise 3 = .ok (.iload 5, 2) := by decide +kernel
theorem d_M_raise_5 : decode b_M_raise 5 = .ok (.bipush 8, 2) := by decide +kernel
theorem d_M_raise_7 : decode b_M_raise 7 = .ok (.if_icmp .ge 17, 3) := by decide +kernel
theorem d_M_raise_10 : decode b_M_raise 10 = .ok (.aload_n 0, 1) := by decide +kernel
theorem d_M_raise_11 : decode b_M_raise 11 = .ok (.getfield 156, 3) := by decide +kernel
theorem d_M_raise_14 : decode b_M_raise 14 = .ok (.iload 5, 2) := by decide +kernel
theorem d_M_raise_16 : decode b_M_raise 16 = .ok (.lconst 0, 1) := by decide +kernel
theorem d_M_raise_17 : decode b_M_raise 17 = .ok (.lastore, 1) := by decide +kernel
theorem d_M_raise_18 : decode b_M_raise 18 = .ok (.iinc 5 1, 3) := by decide +kernel
theorem d_M_raise_21 : decode b_M_raise 21 = .ok (.goto (-18), 3) := by decide +kernel
theorem d_M_raise_24 : decode b_M_raise 24 = .ok (.iconst 0, 1) := by decide +kernel
theorem d_M_raise_25 : decode b_M_raise 25 = .ok (.istore 5, 2) := by decide +kernel
theorem d_M_raise_27 : decode b_M_raise 27 = .ok (.iload 5, 2) := by decide +kernel
theorem d_M_raise_29 : decode b_M_raise 29 = .ok (.iconst 3, 1) := by decide +kernel
theorem d_M_raise_30 : decode b_M_raise 30 = .ok (.if_icmp .ge 109, 3) := by decide +kernel
theorem d_M_raise_33 : decode b_M_raise 33 = .ok (.iload 5, 2) := by decide +kernel
theorem d_M_raise_35 : decode b_M_raise 35 = .ok (.ifCond .ne 11, 3) := by decide +kernel
theorem d_M_raise_38 : decode b_M_raise 38 = .ok (.lload_n 3, 1) := by decide +kernel
theorem d_M_raise_39 : decode b_M_raise 39 = .ok (.ldc2_w 256, 3) := by decide +kernel
theorem d_M_raise_42 : decode b_M_raise 42 = .ok (.land, 1) := by decide +kernel
theorem d_M_raise_43 : decode b_M_raise 43 = .ok (.goto 17, 3) := by decide +kernel
theorem d_M_raise_46 : decode b_M_raise 46 = .ok (.iload 5, 2) := by decide +kernel
theorem d_M_raise_48 : decode b_M_raise 48 = .ok (.iconst 1, 1) := by decide +kernel
theorem d_M_raise_49 : decode b_M_raise 49 = .ok (.if_icmp .ne 10, 3) := by decide +kernel
theorem d_M_raise_52 : decode b_M_raise 52 = .ok (.lload_n 3, 1) := by decide +kernel
theorem d_M_raise_53 : decode b_M_raise 53 = .ok (.bipush 32, 2) := by decide +kernel
theorem d_M_raise_55 : decode b_M_raise 55 = .ok (.lushr, 1) := by decide +kernel
theorem d_M_raise_56 : decode b_M_raise 56 = .ok (.goto 4, 3) := by decide +kernel
theorem d_M_raise_59 : decode b_M_raise 59 = .ok (.lload_n 1, 1) := by decide +kernel
theorem d_M_raise_60 : decode b_M_raise 60 = .ok (.lstore 6, 2) := by decide +kernel
theorem d_M_raise_62 : decode b_M_raise 62 = .ok (.lconst 0, 1) := by decide +kernel
theorem d_M_raise_63 : decode b_M_raise 63 = .ok (.lstore 8, 2) := by decide +kernel
theorem d_M_raise_65 : decode b_M_raise 65 = .ok (.iconst 0, 1) := by decide +kernel
theorem d_M_raise_66 : decode b_M_raise 66 = .ok (.istore 10, 2) := by decide +kernel
theorem d_M_raise_68 : decode b_M_raise 68 = .ok (.iload 5, 2) := by decide +kernel
theorem d_M_raise_70 : decode b_M_raise 70 = .ok (.iload 10, 2) := by decide +kernel
theorem d_M_raise_72 : decode b_M_raise 72 = .ok (.iadd, 1) := by decide +kernel
theorem d_M_raise_73 : decode b_M_raise 73 = .ok (.bipush 8, 2) := by decide +kernel
theorem d_M_raise_75 : decode b_M_raise 75 = .ok (.if_icmp .ge 58, 3) := by decide +kernel
theorem d_M_raise_78 : decode b_M_raise 78 = .ok (.aload_n 0, 1) := by decide +kernel
theorem d_M_raise_79 : decode b_M_raise 79 = .ok (.getfield 156, 3) := by decide +kernel
theorem d_M_raise_82 : decode b_M_raise 82 = .ok (.iload 5, 2) := by decide +kernel
theorem d_M_raise_84 : decode b_M_raise 84 = .ok (.iload 10, 2) := by decide +kernel
theorem d_M_raise_86 : decode b_M_raise 86 = .ok (.iadd, 1) := by decide +kernel
theorem d_M_raise_87 : decode b_M_raise 87 = .ok (.laload, 1) := by decide +kernel
theorem d_M_raise_88 : decode b_M_raise 88 = .ok (.lload 6, 2) := by decide +kernel
theorem d_M_raise_90 : decode b_M_raise 90 = .ok (.aload_n 0, 1) := by decide +kernel
theorem d_M_raise_91 : decode b_M_raise 91 = .ok (.getfield 153, 3) := by decide +kernel
theorem d_M_raise_94 : decode b_M_raise 94 = .ok (.iload 10, 2) := by decide +kernel
theorem d_M_raise_96 : decode b_M_raise 96 = .ok (.laload, 1) := by decide +kernel
theorem d_M_raise_97 : decode b_M_raise 97 = .ok (.lmul, 1) := by decide +kernel
theorem d_M_raise_98 : decode b_M_raise 98 = .ok (.ladd, 1) := by decide +kernel
theorem d_M_raise_99 : decode b_M_raise 99 = .ok (.lload 8, 2) := by decide +kernel
theorem d_M_raise_101 : decode b_M_raise 101 = .ok (.ladd, 1) := by decide +kernel
theorem d_M_raise_102 : decode b_M_raise 102 = .ok (.lstore 11, 2) := by decide +kernel
theorem d_M_raise_104 : decode b_M_raise 104 = .ok (.aload_n 0, 1) := by decide +kernel
theorem d_M_raise_105 : decode b_M_raise 105 = .ok (.getfield 156, 3) := by decide +kernel
theorem d_M_raise_108 : decode b_M_raise 108 = .ok (.iload 5, 2) := by decide +kernel
theorem d_M_raise_110 : decode b_M_raise 110 = .ok (.iload 10, 2) := by decide +kernel
theorem d_M_raise_112 : decode b_M_raise 112 = .ok (.iadd, 1) := by decide +kernel
theorem d_M_raise_113 : decode b_M_raise 113 = .ok (.lload 11, 2) := by decide +kernel
theorem d_M_raise_115 : decode b_M_raise 115 = .ok (.ldc2_w 256, 3) := by decide +kernel
theorem d_M_raise_118 : decode b_M_raise 118 = .ok (.land, 1) := by decide +kernel
theorem d_M_raise_119 : decode b_M_raise 119 = .ok (.lastore, 1) := by decide +kernel
theorem d_M_raise_120 : decode b_M_raise 120 = .ok (.lload 11, 2) := by decide +kernel
theorem d_M_raise_122 : decode b_M_raise 122 = .ok (.bipush 32, 2) := by decide +kernel
theorem d_M_raise_124 : decode b_M_raise 124 = .ok (.lushr, 1) := by decide +kernel
theorem d_M_raise_125 : decode b_M_raise 125 = .ok (.lstore 8, 2) := by decide +kernel
theorem d_M_raise_127 : decode b_M_raise 127 = .ok (.iinc 10 1, 3) := by decide +kernel
theorem d_M_raise_130 : decode b_M_raise 130 = .ok (.goto (-62), 3) := by decide +kernel
theorem d_M_raise_133 : decode b_M_raise 133 = .ok (.iinc 5 1, 3) := by decide +kernel
theorem d_M_raise_136 : decode b_M_raise 136 = .ok (.goto (-109), 3) := by decide +kernel
theorem d_M_raise_139 : decode b_M_raise 139 = .ok (.iconst 0, 1) := by decide +kernel
theorem d_M_raise_140 : decode b_M_raise 140 = .ok (.istore 5, 2) := by decide +kernel
theorem d_M_raise_142 : decode b_M_raise 142 = .ok (.iload 5, 2) := by decide +kernel
theorem d_M_raise_144 : decode b_M_raise 144 = .ok (.bipush 8, 2) := by decide +kernel
theorem d_M_raise_146 : decode b_M_raise 146 = .ok (.if_icmp .ge 23, 3) := by decide +kernel
theorem d_M_raise_149 : decode b_M_raise 149 = .ok (.aload_n 0, 1) := by decide +kernel
theorem d_M_raise_150 : decode b_M_raise 150 = .ok (.getfield 153, 3) := by decide +kernel
theorem d_M_raise_153 : decode b_M_raise 153 = .ok (.iload 5, 2) := by decide +kernel
theorem d_M_raise_155 : decode b_M_raise 155 = .ok (.aload_n 0, 1) := by decide +kernel
theorem d_M_raise_156 : decode b_M_raise 156 = .ok (.getfield 156, 3) := by decide +kernel
theorem d_M_raise_159 : decode b_M_raise 159 = .ok (.iload 5, 2) := by decide +kernel
theorem d_M_raise_161 : decode b_M_raise 161 = .ok (.laload, 1) := by decide +kernel
theorem d_M_raise_162 : decode b_M_raise 162 = .ok (.lastore, 1) := by decide +kernel
theorem d_M_raise_163 : decode b_M_raise 163 = .ok (.iinc 5 1, 3) := by decide +kernel
theorem d_M_raise_166 : decode b_M_raise 166 = .ok (.goto (-24), 3) := by decide +kernel
theorem d_M_raise_169 : decode b_M_raise 169 = .ok (.return_, 1) := by decide +kernel
theorem d_M_fits_0 : decode b_M_fits 0 = .ok (.iconst 0, 1) := by decide +kernel
theorem d_M_fits_1 : decode b_M_fits 1 = .ok (.istore 7, 2) := by decide +kernel
theorem d_M_fits_3 : decode b_M_fits 3 = .ok (.iload 7, 2) := by decide +kernel
theorem d_M_fits_5 : decode b_M_fits 5 = .ok (.bipush 8, 2) := by decide +kernel
theorem d_M_fits_7 : decode b_M_fits 7 = .ok (.if_icmp .ge 26, 3) := by decide +kernel
theorem d_M_fits_10 : decode b_M_fits 10 = .ok (.aload_n 0, 1) := by decide +kernel
theorem d_M_fits_11 : decode b_M_fits 11 = .ok (.getfield 153, 3) := by decide +kernel
theorem d_M_fits_14 : decode b_M_fits 14 = .ok (.iload 7, 2) := by decide +kernel
theorem d_M_fits_16 : decode b_M_fits 16 = .ok (.iload 7, 2) := by decide +kernel
theorem d_M_fits_18 : decode b_M_fits 18 = .ok (.ifCond .ne 7, 3) := by decide +kernel
theorem d_M_fits_21 : decode b_M_fits 21 = .ok (.lconst 1, 1) := by decide +kernel
theorem d_M_fits_22 : decode b_M_fits 22 = .ok (.goto 4, 3) := by decide +kernel
theorem d_M_fits_25 : decode b_M_fits 25 = .ok (.lconst 0, 1) := by decide +kernel
theorem d_M_fits_26 : decode b_M_fits 26 = .ok (.lastore, 1) := by decide +kernel
theorem d_M_fits_27 : decode b_M_fits 27 = .ok (.iinc 7 1, 3) := by decide +kernel
theorem d_M_fits_30 : decode b_M_fits 30 = .ok (.goto (-27), 3) := by decide +kernel
theorem d_M_fits_33 : decode b_M_fits 33 = .ok (.iconst 0, 1) := by decide +kernel
theorem d_M_fits_34 : decode b_M_fits 34 = .ok (.istore 7, 2) := by decide +kernel
theorem d_M_fits_36 : decode b_M_fits 36 = .ok (.iload 7, 2) := by decide +kernel
theorem d_M_fits_38 : decode b_M_fits 38 = .ok (.iload 6, 2) := by decide +kernel
theorem d_M_fits_40 : decode b_M_fits 40 = .ok (.if_icmp .ge 15, 3) := by decide +kernel
theorem d_M_fits_43 : decode b_M_fits 43 = .ok (.aload_n 0, 1) := by decide +kernel
theorem d_M_fits_44 : decode b_M_fits 44 = .ok (.lload_n 1, 1) := by decide +kernel
theorem d_M_fits_45 : decode b_M_fits 45 = .ok (.lload_n 3, 1) := by decide +kernel
theorem d_M_fits_46 : decode b_M_fits 46 = .ok (.invokevirtual 252, 3) := by decide +kernel
theorem d_M_fits_49 : decode b_M_fits 49 = .ok (.iinc 7 1, 3) := by decide +kernel
theorem d_M_fits_52 : decode b_M_fits 52 = .ok (.goto (-16), 3) := by decide +kernel
theorem d_M_fits_55 : decode b_M_fits 55 = .ok (.lconst 0, 1) := by decide +kernel
theorem d_M_fits_56 : decode b_M_fits 56 = .ok (.lstore 7, 2) := by decide +kernel
theorem d_M_fits_58 : decode b_M_fits 58 = .ok (.bipush 7, 2) := by decide +kernel
theorem d_M_fits_60 : decode b_M_fits 60 = .ok (.istore 9, 2) := by decide +kernel
theorem d_M_fits_62 : decode b_M_fits 62 = .ok (.iload 9, 2) := by decide +kernel
theorem d_M_fits_64 : decode b_M_fits 64 = .ok (.iconst 2, 1) := by decide +kernel
theorem d_M_fits_65 : decode b_M_fits 65 = .ok (.iload 6, 2) := by decide +kernel
theorem d_M_fits_67 : decode b_M_fits 67 = .ok (.imul, 1) := by decide +kernel
theorem d_M_fits_68 : decode b_M_fits 68 = .ok (.if_icmp .lt 24, 3) := by decide +kernel
theorem d_M_fits_71 : decode b_M_fits 71 = .ok (.lload 7, 2) := by decide +kernel
theorem d_M_fits_73 : decode b_M_fits 73 = .ok (.bipush 32, 2) := by decide +kernel
theorem d_M_fits_75 : decode b_M_fits 75 = .ok (.lshl, 1) := by decide +kernel
theorem d_M_fits_76 : decode b_M_fits 76 = .ok (.aload_n 0, 1) := by decide +kernel
theorem d_M_fits_77 : decode b_M_fits 77 = .ok (.getfield 153, 3) := by decide +kernel
theorem d_M_fits_80 : decode b_M_fits 80 = .ok (.iload 9, 2) := by decide +kernel
theorem d_M_fits_82 : decode b_M_fits 82 = .ok (.laload, 1) := by decide +kernel
theorem d_M_fits_83 : decode b_M_fits 83 = .ok (.lor, 1) := by decide +kernel
theorem d_M_fits_84 : decode b_M_fits 84 = .ok (.lstore 7, 2) := by decide +kernel
theorem d_M_fits_86 : decode b_M_fits 86 = .ok (.iinc 9 (-1), 3) := by decide +kernel
theorem d_M_fits_89 : decode b_M_fits 89 = .ok (.goto (-27), 3) := by decide +kernel
theorem d_M_fits_92 : decode b_M_fits 92 = .ok (.lload 7, 2) := by decide +kernel
theorem d_M_fits_94 : decode b_M_fits 94 = .ok (.iload 5, 2) := by decide +kernel
theorem d_M_fits_96 : decode b_M_fits 96 = .ok (.i2l, 1) := by decide +kernel
theorem d_M_fits_97 : decode b_M_fits 97 = .ok (.lcmp, 1) := by decide +kernel
theorem d_M_fits_98 : decode b_M_fits 98 = .ok (.ifCond .eq 18, 3) := by decide +kernel
theorem d_M_fits_101 : decode b_M_fits 101 = .ok (.lload 7, 2) := by decide +kernel
theorem d_M_fits_103 : decode b_M_fits 103 = .ok (.iload 5, 2) := by decide +kernel
theorem d_M_fits_105 : decode b_M_fits 105 = .ok (.i2l, 1) := by decide +kernel
theorem d_M_fits_106 : decode b_M_fits 106 = .ok (.lcmp, 1) := by decide +kernel
theorem d_M_fits_107 : decode b_M_fits 107 = .ok (.ifCond .ge 7, 3) := by decide +kernel
theorem d_M_fits_110 : decode b_M_fits 110 = .ok (.iconst 1, 1) := by decide +kernel
theorem d_M_fits_111 : decode b_M_fits 111 = .ok (.goto 4, 3) := by decide +kernel
theorem d_M_fits_114 : decode b_M_fits 114 = .ok (.iconst 0, 1) := by decide +kernel
theorem d_M_fits_115 : decode b_M_fits 115 = .ok (.ireturn, 1) := by decide +kernel
theorem d_M_fits_116 : decode b_M_fits 116 = .ok (.iconst 0, 1) := by decide +kernel
theorem d_M_fits_117 : decode b_M_fits 117 = .ok (.istore 9, 2) := by decide +kernel
theorem d_M_fits_119 : decode b_M_fits 119 = .ok (.iload 9, 2) := by decide +kernel
theorem d_M_fits_121 : decode b_M_fits 121 = .ok (.iconst 2, 1) := by decide +kernel
theorem d_M_fits_122 : decode b_M_fits 122 = .ok (.iload 6, 2) := by decide +kernel
theorem d_M_fits_124 : decode b_M_fits 124 = .ok (.imul, 1) := by decide +kernel
theorem d_M_fits_125 : decode b_M_fits 125 = .ok (.if_icmp .ge 23, 3) := by decide +kernel
theorem d_M_fits_128 : decode b_M_fits 128 = .ok (.aload_n 0, 1) := by decide +kernel
theorem d_M_fits_129 : decode b_M_fits 129 = .ok (.getfield 153, 3) := by decide +kernel
theorem d_M_fits_132 : decode b_M_fits 132 = .ok (.iload 9, 2) := by decide +kernel
theorem d_M_fits_134 : decode b_M_fits 134 = .ok (.laload, 1) := by decide +kernel
theorem d_M_fits_135 : decode b_M_fits 135 = .ok (.lconst 0, 1) := by decide +kernel
theorem d_M_fits_136 : decode b_M_fits 136 = .ok (.lcmp, 1) := by decide +kernel
theorem d_M_fits_137 : decode b_M_fits 137 = .ok (.ifCond .eq 5, 3) := by decide +kernel
theorem d_M_fits_140 : decode b_M_fits 140 = .ok (.iconst 0, 1) := by decide +kernel
theorem d_M_fits_141 : decode b_M_fits 141 = .ok (.ireturn, 1) := by decide +kernel
theorem d_M_fits_142 : decode b_M_fits 142 = .ok (.iinc 9 1, 3) := by decide +kernel
theorem d_M_fits_145 : decode b_M_fits 145 = .ok (.goto (-26), 3) := by decide +kernel
theorem d_M_fits_148 : decode b_M_fits 148 = .ok (.iconst 1, 1) := by decide +kernel
theorem d_M_fits_149 : decode b_M_fits 149 = .ok (.ireturn, 1) := by decide +kernel
theorem d_M_root_0 : decode b_M_root 0 = .ok (.lconst 0, 1) := by decide +kernel
theorem d_M_root_1 : decode b_M_root 1 = .ok (.lstore_n 3, 1) := by decide +kernel
theorem d_M_root_2 : decode b_M_root 2 = .ok (.lconst 0, 1) := by decide +kernel
theorem d_M_root_3 : decode b_M_root 3 = .ok (.lstore 5, 2) := by decide +kernel
theorem d_M_root_5 : decode b_M_root 5 = .ok (.bipush 66, 2) := by decide +kernel
theorem d_M_root_7 : decode b_M_root 7 = .ok (.istore 7, 2) := by decide +kernel
theorem d_M_root_9 : decode b_M_root 9 = .ok (.iload 7, 2) := by decide +kernel
theorem d_M_root_11 : decode b_M_root 11 = .ok (.ifCond .lt 72, 3) := by decide +kernel
theorem d_M_root_14 : decode b_M_root 14 = .ok (.iload 7, 2) := by decide +kernel
theorem d_M_root_16 : decode b_M_root 16 = .ok (.bipush 63, 2) := by decide +kernel
theorem d_M_root_18 : decode b_M_root 18 = .ok (.if_icmp .le 15, 3) := by decide +kernel
theorem d_M_root_21 : decode b_M_root 21 = .ok (.lload_n 3, 1) := by decide +kernel
theorem d_M_root_22 : decode b_M_root 22 = .ok (.lconst 1, 1) := by decide +kernel
theorem d_M_root_23 : decode b_M_root 23 = .ok (.iload 7, 2) := by decide +kernel
theorem d_M_root_25 : decode b_M_root 25 = .ok (.bipush 64, 2) := by decide +kernel
theorem d_M_root_27 : decode b_M_root 27 = .ok (.isub, 1) := by decide +kernel
theorem d_M_root_28 : decode b_M_root 28 = .ok (.lshl, 1) := by decide +kernel
theorem d_M_root_29 : decode b_M_root 29 = .ok (.lor, 1) := by decide +kernel
theorem d_M_root_30 : decode b_M_root 30 = .ok (.goto 4, 3) := by decide +kernel
theorem d_M_root_33 : decode b_M_root 33 = .ok (.lload_n 3, 1) := by decide +kernel
theorem d_M_root_34 : decode b_M_root 34 = .ok (.lstore 8, 2) := by decide +kernel
theorem d_M_root_36 : decode b_M_root 36 = .ok (.iload 7, 2) := by decide +kernel
theorem d_M_root_38 : decode b_M_root 38 = .ok (.bipush 63, 2) := by decide +kernel
theorem d_M_root_40 : decode b_M_root 40 = .ok (.if_icmp .le 8, 3) := by decide +kernel
theorem d_M_root_43 : decode b_M_root 43 = .ok (.lload 5, 2) := by decide +kernel
theorem d_M_root_45 : decode b_M_root 45 = .ok (.goto 10, 3) := by decide +kernel
theorem d_M_root_48 : decode b_M_root 48 = .ok (.lload 5, 2) := by decide +kernel
theorem d_M_root_50 : decode b_M_root 50 = .ok (.lconst 1, 1) := by decide +kernel
theorem d_M_root_51 : decode b_M_root 51 = .ok (.iload 7, 2) := by decide +kernel
theorem d_M_root_53 : decode b_M_root 53 = .ok (.lshl, 1) := by decide +kernel
theorem d_M_root_54 : decode b_M_root 54 = .ok (.lor, 1) := by decide +kernel
theorem d_M_root_55 : decode b_M_root 55 = .ok (.lstore 10, 2) := by decide +kernel
theorem d_M_root_57 : decode b_M_root 57 = .ok (.aload_n 0, 1) := by decide +kernel
theorem d_M_root_58 : decode b_M_root 58 = .ok (.lload 8, 2) := by decide +kernel
theorem d_M_root_60 : decode b_M_root 60 = .ok (.lload 10, 2) := by decide +kernel
theorem d_M_root_62 : decode b_M_root 62 = .ok (.iload_n 1, 1) := by decide +kernel
theorem d_M_root_63 : decode b_M_root 63 = .ok (.iload_n 2, 1) := by decide +kernel
theorem d_M_root_64 : decode b_M_root 64 = .ok (.invokevirtual 248, 3) := by decide +kernel
theorem d_M_root_67 : decode b_M_root 67 = .ok (.ifCond .eq 10, 3) := by decide +kernel
theorem d_M_root_70 : decode b_M_root 70 = .ok (.lload 8, 2) := by decide +kernel
theorem d_M_root_72 : decode b_M_root 72 = .ok (.lstore_n 3, 1) := by decide +kernel
theorem d_M_root_73 : decode b_M_root 73 = .ok (.lload 10, 2) := by decide +kernel
theorem d_M_root_75 : decode b_M_root 75 = .ok (.lstore 5, 2) := by decide +kernel
theorem d_M_root_77 : decode b_M_root 77 = .ok (.iinc 7 (-1), 3) := by decide +kernel
theorem d_M_root_80 : decode b_M_root 80 = .ok (.goto (-71), 3) := by decide +kernel
theorem d_M_root_83 : decode b_M_root 83 = .ok (.lload 5, 2) := by decide +kernel
theorem d_M_root_85 : decode b_M_root 85 = .ok (.lreturn, 1) := by decide +kernel
theorem d_M_prime_0 : decode b_M_prime 0 = .ok (.iload_n 0, 1) := by decide +kernel
theorem d_M_prime_1 : decode b_M_prime 1 = .ok (.istore_n 1, 1) := by decide +kernel
theorem d_M_prime_2 : decode b_M_prime 2 = .ok (.iconst 0, 1) := by decide +kernel
theorem d_M_prime_3 : decode b_M_prime 3 = .ok (.istore_n 2, 1) := by decide +kernel
theorem d_M_prime_4 : decode b_M_prime 4 = .ok (.iload_n 2, 1) := by decide +kernel
theorem d_M_prime_5 : decode b_M_prime 5 = .ok (.ifCond .ne 34, 3) := by decide +kernel
theorem d_M_prime_8 : decode b_M_prime 8 = .ok (.iinc 1 1, 3) := by decide +kernel
theorem d_M_prime_11 : decode b_M_prime 11 = .ok (.iconst 1, 1) := by decide +kernel
theorem d_M_prime_12 : decode b_M_prime 12 = .ok (.istore_n 2, 1) := by decide +kernel
theorem d_M_prime_13 : decode b_M_prime 13 = .ok (.iconst 2, 1) := by decide +kernel
theorem d_M_prime_14 : decode b_M_prime 14 = .ok (.istore_n 3, 1) := by decide +kernel
theorem d_M_prime_15 : decode b_M_prime 15 = .ok (.iload_n 3, 1) := by decide +kernel
theorem d_M_prime_16 : decode b_M_prime 16 = .ok (.iload_n 3, 1) := by decide +kernel
theorem d_M_prime_17 : decode b_M_prime 17 = .ok (.imul, 1) := by decide +kernel
theorem d_M_prime_18 : decode b_M_prime 18 = .ok (.iload_n 1, 1) := by decide +kernel
theorem d_M_prime_19 : decode b_M_prime 19 = .ok (.if_icmp .gt 17, 3) := by decide +kernel
theorem d_M_prime_22 : decode b_M_prime 22 = .ok (.iload_n 1, 1) := by decide +kernel
theorem d_M_prime_23 : decode b_M_prime 23 = .ok (.iload_n 3, 1) := by decide +kernel
theorem d_M_prime_24 : decode b_M_prime 24 = .ok (.irem, 1) := by decide +kernel
theorem d_M_prime_25 : decode b_M_prime 25 = .ok (.ifCond .ne 5, 3) := by decide +kernel
theorem d_M_prime_28 : decode b_M_prime 28 = .ok (.iconst 0, 1) := by decide +kernel
theorem d_M_prime_29 : decode b_M_prime 29 = .ok (.istore_n 2, 1) := by decide +kernel
theorem d_M_prime_30 : decode b_M_prime 30 = .ok (.iinc 3 1, 3) := by decide +kernel
theorem d_M_prime_33 : decode b_M_prime 33 = .ok (.goto (-18), 3) := by decide +kernel
theorem d_M_prime_36 : decode b_M_prime 36 = .ok (.goto (-32), 3) := by decide +kernel
theorem d_M_prime_39 : decode b_M_prime 39 = .ok (.iload_n 1, 1) := by decide +kernel
theorem d_M_prime_40 : decode b_M_prime 40 = .ok (.ireturn, 1) := by decide +kernel
theorem d_M_constants_0 : decode b_M_constants 0 = .ok (.iconst 1, 1) := by decide +kernel
theorem d_M_constants_1 : decode b_M_constants 1 = .ok (.istore_n 1, 1) := by decide +kernel
theorem d_M_constants_2 : decode b_M_constants 2 = .ok (.iconst 0, 1) := by decide +kernel
theorem d_M_constants_3 : decode b_M_constants 3 = .ok (.istore_n 2, 1) := by decide +kernel
theorem d_M_constants_4 : decode b_M_constants 4 = .ok (.iload_n 2, 1) := by decide +kernel
theorem d_M_constants_5 : decode b_M_constants 5 = .ok (.bipush 80, 2) := by decide +kernel
theorem d_M_constants_7 : decode b_M_constants 7 = .ok (.if_icmp .ge 44, 3) := by decide +kernel
theorem d_M_constants_10 : decode b_M_constants 10 = .ok (.iload_n 1, 1) := by decide +kernel
theorem d_M_constants_11 : decode b_M_constants 11 = .ok (.invokestatic 241, 3) := by decide +kernel
theorem d_M_constants_14 : decode b_M_constants 14 = .ok (.istore_n 1, 1) := by decide +kernel
theorem d_M_constants_15 : decode b_M_constants 15 = .ok (.aload_n 0, 1) := by decide +kernel
theorem d_M_constants_16 : decode b_M_constants 16 = .ok (.getfield 141, 3) := by decide +kernel
theorem d_M_constants_19 : decode b_M_constants 19 = .ok (.iload_n 2, 1) := by decide +kernel
theorem d_M_constants_20 : decode b_M_constants 20 = .ok (.aload_n 0, 1) := by decide +kernel
theorem d_M_constants_21 : decode b_M_constants 21 = .ok (.iload_n 1, 1) := by decide +kernel
theorem d_M_constants_22 : decode b_M_constants 22 = .ok (.iconst 3, 1) := by decide +kernel
theorem d_M_constants_23 : decode b_M_constants 23 = .ok (.invokevirtual 245, 3) := by decide +kernel
theorem d_M_constants_26 : decode b_M_constants 26 = .ok (.lastore, 1) := by decide +kernel
theorem d_M_constants_27 : decode b_M_constants 27 = .ok (.iload_n 2, 1) := by decide +kernel
theorem d_M_constants_28 : decode b_M_constants 28 = .ok (.bipush 8, 2) := by decide +kernel
theorem d_M_constants_30 : decode b_M_constants 30 = .ok (.if_icmp .ge 15, 3) := by decide +kernel
theorem d_M_constants_33 : decode b_M_constants 33 = .ok (.aload_n 0, 1) := by decide +kernel
theorem d_M_constants_34 : decode b_M_constants 34 = .ok (.getfield 144, 3) := by decide +kernel
theorem d_M_constants_37 : decode b_M_constants 37 = .ok (.iload_n 2, 1) := by decide +kernel
theorem d_M_constants_38 : decode b_M_constants 38 = .ok (.aload_n 0, 1) := by decide +kernel
theorem d_M_constants_39 : decode b_M_constants 39 = .ok (.iload_n 1, 1) := by decide +kernel
theorem d_M_constants_40 : decode b_M_constants 40 = .ok (.iconst 2, 1) := by decide +kernel
theorem d_M_constants_41 : decode b_M_constants 41 = .ok (.invokevirtual 245, 3) := by decide +kernel
theorem d_M_constants_44 : decode b_M_constants 44 = .ok (.lastore, 1) := by decide +kernel
theorem d_M_constants_45 : decode b_M_constants 45 = .ok (.iinc 2 1, 3) := by decide +kernel
theorem d_M_constants_48 : decode b_M_constants 48 = .ok (.goto (-44), 3) := by decide +kernel
theorem d_M_constants_51 : decode b_M_constants 51 = .ok (.return_, 1) := by decide +kernel
theorem d_M_decode_0 : decode b_M_decode 0 = .ok (.iconst 0, 1) := by decide +kernel
theorem d_M_decode_1 : decode b_M_decode 1 = .ok (.istore_n 1, 1) := by decide +kernel
theorem d_M_decode_2 : decode b_M_decode 2 = .ok (.iload_n 1, 1) := by decide +kernel
theorem d_M_decode_3 : decode b_M_decode 3 = .ok (.bipush 16, 2) := by decide +kernel
theorem d_M_decode_5 : decode b_M_decode 5 = .ok (.if_icmp .ge 65, 3) := by decide +kernel
theorem d_M_decode_8 : decode b_M_decode 8 = .ok (.aload_n 0, 1) := by decide +kernel
theorem d_M_decode_9 : decode b_M_decode 9 = .ok (.getfield 61, 3) := by decide +kernel
theorem d_M_decode_12 : decode b_M_decode 12 = .ok (.iload_n 1, 1) := by decide +kernel
theorem d_M_decode_13 : decode b_M_decode 13 = .ok (.aload_n 0, 1) := by decide +kernel
theorem d_M_decode_14 : decode b_M_decode 14 = .ok (.getfield 103, 3) := by decide +kernel
theorem d_M_decode_17 : decode b_M_decode 17 = .ok (.iconst 2, 1) := by decide +kernel
theorem d_M_decode_18 : decode b_M_decode 18 = .ok (.iload_n 1, 1) := by decide +kernel
theorem d_M_decode_19 : decode b_M_decode 19 = .ok (.imul, 1) := by decide +kernel
theorem d_M_decode_20 : decode b_M_decode 20 = .ok (.baload, 1) := by decide +kernel
theorem d_M_decode_21 : decode b_M_decode 21 = .ok (.sipush 255, 3) := by decide +kernel
theorem d_M_decode_24 : decode b_M_decode 24 = .ok (.iand, 1) := by decide +kernel
theorem d_M_decode_25 : decode b_M_decode 25 = .ok (.iload_n 1, 1) := by decide +kernel
theorem d_M_decode_26 : decode b_M_decode 26 = .ok (.bipush 15, 2) := by decide +kernel
theorem d_M_decode_28 : decode b_M_decode 28 = .ok (.if_icmp .ne 16, 3) := by decide +kernel
theorem d_M_decode_31 : decode b_M_decode 31 = .ok (.aload_n 0, 1) := by decide +kernel
theorem d_M_decode_32 : decode b_M_decode 32 = .ok (.getfield 103, 3) := by decide +kernel
theorem d_M_decode_35 : decode b_M_decode 35 = .ok (.bipush 31, 2) := by decide +kernel
theorem d_M_decode_37 : decode b_M_decode 37 = .ok (.baload, 1) := by decide +kernel
theorem d_M_decode_38 : decode b_M_decode 38 = .ok (.bipush 127, 2) := by decide +kernel
theorem d_M_decode_40 : decode b_M_decode 40 = .ok (.iand, 1) := by decide +kernel
theorem d_M_decode_41 : decode b_M_decode 41 = .ok (.goto 17, 3) := by decide +kernel
theorem d_M_decode_44 : decode b_M_decode 44 = .ok (.aload_n 0, 1) := by decide +kernel
theorem d_M_decode_45 : decode b_M_decode 45 = .ok (.getfield 103, 3) := by decide +kernel
theorem d_M_decode_48 : decode b_M_decode 48 = .ok (.iconst 2, 1) := by decide +kernel
theorem d_M_decode_49 : decode b_M_decode 49 = .ok (.iload_n 1, 1) := by decide +kernel
theorem d_M_decode_50 : decode b_M_decode 50 = .ok (.imul, 1) := by decide +kernel
theorem d_M_decode_51 : decode b_M_decode 51 = .ok (.iconst 1, 1) := by decide +kernel
theorem d_M_decode_52 : decode b_M_decode 52 = .ok (.iadd, 1) := by decide +kernel
theorem d_M_decode_53 : decode b_M_decode 53 = .ok (.baload, 1) := by decide +kernel
theorem d_M_decode_54 : decode b_M_decode 54 = .ok (.sipush 255, 3) := by decide +kernel
theorem d_M_decode_57 : decode b_M_decode 57 = .ok (.iand, 1) := by decide +kernel
theorem d_M_decode_58 : decode b_M_decode 58 = .ok (.bipush 8, 2) := by decide +kernel
theorem d_M_decode_60 : decode b_M_decode 60 = .ok (.ishl, 1) := by decide +kernel
theorem d_M_decode_61 : decode b_M_decode 61 = .ok (.ior, 1) := by decide +kernel
theorem d_M_decode_62 : decode b_M_decode 62 = .ok (.i2l, 1) := by decide +kernel
theorem d_M_decode_63 : decode b_M_decode 63 = .ok (.lastore, 1) := by decide +kernel
theorem d_M_decode_64 : decode b_M_decode 64 = .ok (.iinc 1 1, 3) := by decide +kernel
theorem d_M_decode_67 : decode b_M_decode 67 = .ok (.goto (-65), 3) := by decide +kernel
theorem d_M_decode_70 : decode b_M_decode 70 = .ok (.aload_n 0, 1) := by decide +kernel
theorem d_M_decode_71 : decode b_M_decode 71 = .ok (.getfield 61, 3) := by decide +kernel
theorem d_M_decode_74 : decode b_M_decode 74 = .ok (.aload_n 0, 1) := by decide +kernel
theorem d_M_decode_75 : decode b_M_decode 75 = .ok (.getfield 27, 3) := by decide +kernel
theorem d_M_decode_78 : decode b_M_decode 78 = .ok (.invokestatic 215, 3) := by decide +kernel
theorem d_M_decode_81 : decode b_M_decode 81 = .ok (.ifCond .ne 5, 3) := by decide +kernel
theorem d_M_decode_84 : decode b_M_decode 84 = .ok (.iconst 0, 1) := by decide +kernel
theorem d_M_decode_85 : decode b_M_decode 85 = .ok (.ireturn, 1) := by decide +kernel
theorem d_M_decode_86 : decode b_M_decode 86 = .ok (.aload_n 0, 1) := by decide +kernel
theorem d_M_decode_87 : decode b_M_decode 87 = .ok (.aload_n 0, 1) := by decide +kernel
theorem d_M_decode_88 : decode b_M_decode 88 = .ok (.getfield 70, 3) := by decide +kernel
theorem d_M_decode_91 : decode b_M_decode 91 = .ok (.aload_n 0, 1) := by decide +kernel
theorem d_M_decode_92 : decode b_M_decode 92 = .ok (.getfield 61, 3) := by decide +kernel
theorem d_M_decode_95 : decode b_M_decode 95 = .ok (.aload_n 0, 1) := by decide +kernel
theorem d_M_decode_96 : decode b_M_decode 96 = .ok (.getfield 61, 3) := by decide +kernel
theorem d_M_decode_99 : decode b_M_decode 99 = .ok (.aload_n 0, 1) := by decide +kernel
theorem d_M_decode_100 : decode b_M_decode 100 = .ok (.getfield 27, 3) := by decide +kernel
theorem d_M_decode_103 : decode b_M_decode 103 = .ok (.aload_n 0, 1) := by decide +kernel
theorem d_M_decode_104 : decode b_M_decode 104 = .ok (.getfield 31, 3) := by decide +kernel
theorem d_M_decode_107 : decode b_M_decode 107 = .ok (.invokevirtual 188, 3) := by decide +kernel
theorem d_M_decode_110 : decode b_M_decode 110 = .ok (.aload_n 0, 1) := by decide +kernel
theorem d_M_decode_111 : decode b_M_decode 111 = .ok (.aload_n 0, 1) := by decide +kernel
theorem d_M_decode_112 : decode b_M_decode 112 = .ok (.getfield 73, 3) := by decide +kernel
theorem d_M_decode_115 : decode b_M_decode 115 = .ok (.aload_n 0, 1) := by decide +kernel
theorem d_M_decode_116 : decode b_M_decode 116 = .ok (.getfield 70, 3) := by decide +kernel
theorem d_M_decode_119 : decode b_M_decode 119 = .ok (.aload_n 0, 1) := by decide +kernel
theorem d_M_decode_120 : decode b_M_decode 120 = .ok (.getfield 40, 3) := by decide +kernel
theorem d_M_decode_123 : decode b_M_decode 123 = .ok (.aload_n 0, 1) := by decide +kernel
theorem d_M_decode_124 : decode b_M_decode 124 = .ok (.getfield 27, 3) := by decide +kernel
theorem d_M_decode_127 : decode b_M_decode 127 = .ok (.aload_n 0, 1) := by decide +kernel
theorem d_M_decode_128 : decode b_M_decode 128 = .ok (.getfield 31, 3) := by decide +kernel
theorem d_M_decode_131 : decode b_M_decode 131 = .ok (.invokevirtual 188, 3) := by decide +kernel
theorem d_M_decode_134 : decode b_M_decode 134 = .ok (.aload_n 0, 1) := by decide +kernel
theorem d_M_decode_135 : decode b_M_decode 135 = .ok (.getfield 70, 3) := by decide +kernel
theorem d_M_decode_138 : decode b_M_decode 138 = .ok (.aload_n 0, 1) := by decide +kernel
theorem d_M_decode_139 : decode b_M_decode 139 = .ok (.getfield 70, 3) := by decide +kernel
theorem d_M_decode_142 : decode b_M_decode 142 = .ok (.aload_n 0, 1) := by decide +kernel
theorem d_M_decode_143 : decode b_M_decode 143 = .ok (.getfield 88, 3) := by decide +kernel
theorem d_M_decode_146 : decode b_M_decode 146 = .ok (.aload_n 0, 1) := by decide +kernel
theorem d_M_decode_147 : decode b_M_decode 147 = .ok (.getfield 27, 3) := by decide +kernel
theorem d_M_decode_150 : decode b_M_decode 150 = .ok (.invokestatic 192, 3) := by decide +kernel
theorem d_M_decode_153 : decode b_M_decode 153 = .ok (.aload_n 0, 1) := by decide +kernel
theorem d_M_decode_154 : decode b_M_decode 154 = .ok (.getfield 73, 3) := by decide +kernel
theorem d_M_decode_157 : decode b_M_decode 157 = .ok (.aload_n 0, 1) := by decide +kernel
theorem d_M_decode_158 : decode b_M_decode 158 = .ok (.getfield 73, 3) := by decide +kernel
theorem d_M_decode_161 : decode b_M_decode 161 = .ok (.aload_n 0, 1) := by decide +kernel
theorem d_M_decode_162 : decode b_M_decode 162 = .ok (.getfield 88, 3) := by decide +kernel
theorem d_M_decode_165 : decode b_M_decode 165 = .ok (.aload_n 0, 1) := by decide +kernel
theorem d_M_decode_166 : decode b_M_decode 166 = .ok (.getfield 27, 3) := by decide +kernel
theorem d_M_decode_169 : decode b_M_decode 169 = .ok (.invokestatic 222, 3) := by decide +kernel
theorem d_M_decode_172 : decode b_M_decode 172 = .ok (.aload_n 0, 1) := by decide +kernel
theorem d_M_decode_173 : decode b_M_decode 173 = .ok (.aload_n 0, 1) := by decide +kernel
theorem d_M_decode_174 : decode b_M_decode 174 = .ok (.getfield 76, 3) := by decide +kernel
theorem d_M_decode_177 : decode b_M_decode 177 = .ok (.aload_n 0, 1) := by decide +kernel
theorem d_M_decode_178 : decode b_M_decode 178 = .ok (.getfield 73, 3) := by decide +kernel
theorem d_M_decode_181 : decode b_M_decode 181 = .ok (.aload_n 0, 1) := by decide +kernel
theorem d_M_decode_182 : decode b_M_decode 182 = .ok (.getfield 27, 3) := by decide +kernel
theorem d_M_decode_185 : decode b_M_decode 185 = .ok (.invokevirtual 185, 3) := by decide +kernel
theorem d_M_decode_188 : decode b_M_decode 188 = .ok (.aload_n 0, 1) := by decide +kernel
theorem d_M_decode_189 : decode b_M_decode 189 = .ok (.aload_n 0, 1) := by decide +kernel
theorem d_M_decode_190 : decode b_M_decode 190 = .ok (.getfield 70, 3) := by decide +kernel
theorem d_M_decode_193 : decode b_M_decode 193 = .ok (.aload_n 0, 1) := by decide +kernel
theorem d_M_decode_194 : decode b_M_decode 194 = .ok (.getfield 70, 3) := by decide +kernel
theorem d_M_decode_197 : decode b_M_decode 197 = .ok (.aload_n 0, 1) := by decide +kernel
theorem d_M_decode_198 : decode b_M_decode 198 = .ok (.getfield 76, 3) := by decide +kernel
theorem d_M_decode_201 : decode b_M_decode 201 = .ok (.aload_n 0, 1) := by decide +kernel
theorem d_M_decode_202 : decode b_M_decode 202 = .ok (.getfield 27, 3) := by decide +kernel
theorem d_M_decode_205 : decode b_M_decode 205 = .ok (.aload_n 0, 1) := by decide +kernel
theorem d_M_decode_206 : decode b_M_decode 206 = .ok (.getfield 31, 3) := by decide +kernel
theorem d_M_decode_209 : decode b_M_decode 209 = .ok (.invokevirtual 188, 3) := by decide +kernel
theorem d_M_decode_212 : decode b_M_decode 212 = .ok (.iconst 0, 1) := by decide +kernel
theorem d_M_decode_213 : decode b_M_decode 213 = .ok (.istore_n 1, 1) := by decide +kernel
theorem d_M_decode_214 : decode b_M_decode 214 = .ok (.iload_n 1, 1) := by decide +kernel
theorem d_M_decode_215 : decode b_M_decode 215 = .ok (.bipush 16, 2) := by decide +kernel
theorem d_M_decode_217 : decode b_M_decode 217 = .ok (.if_icmp .ge 40, 3) := by decide +kernel
theorem d_M_decode_220 : decode b_M_decode 220 = .ok (.aload_n 0, 1) := by decide +kernel
theorem d_M_decode_221 : decode b_M_decode 221 = .ok (.getfield 79, 3) := by decide +kernel
theorem d_M_decode_224 : decode b_M_decode 224 = .ok (.iload_n 1, 1) := by decide +kernel
theorem d_M_decode_225 : decode b_M_decode 225 = .ok (.iload_n 1, 1) := by decide +kernel
theorem d_M_decode_226 : decode b_M_decode 226 = .ok (.ifCond .ne 9, 3) := by decide +kernel
theorem d_M_decode_229 : decode b_M_decode 229 = .ok (.ldc2_w 277, 3) := by decide +kernel
theorem d_M_decode_232 : decode b_M_decode 232 = .ok (.goto 18, 3) := by decide +kernel
theorem d_M_decode_235 : decode b_M_decode 235 = .ok (.iload_n 1, 1) := by decide +kernel
theorem d_M_decode_236 : decode b_M_decode 236 = .ok (.bipush 15, 2) := by decide +kernel
theorem d_M_decode_238 : decode b_M_decode 238 = .ok (.if_icmp .ne 9, 3) := by decide +kernel
theorem d_M_decode_241 : decode b_M_decode 241 = .ok (.ldc2_w 279, 3) := by decide +kernel
theorem d_M_decode_244 : decode b_M_decode 244 = .ok (.goto 6, 3) := by decide +kernel
theorem d_M_decode_247 : decode b_M_decode 247 = .ok (.ldc2_w 169, 3) := by decide +kernel
theorem d_M_decode_250 : decode b_M_decode 250 = .ok (.lastore, 1) := by decide +kernel
theorem d_M_decode_251 : decode b_M_decode 251 = .ok (.iinc 1 1, 3) := by decide +kernel
theorem d_M_decode_254 : decode b_M_decode 254 = .ok (.goto (-40), 3) := by decide +kernel
theorem d_M_decode_257 : decode b_M_decode 257 = .ok (.aload_n 0, 1) := by decide +kernel
theorem d_M_decode_258 : decode b_M_decode 258 = .ok (.aload_n 0, 1) := by decide +kernel
theorem d_M_decode_259 : decode b_M_decode 259 = .ok (.getfield 58, 3) := by decide +kernel
theorem d_M_decode_262 : decode b_M_decode 262 = .ok (.aload_n 0, 1) := by decide +kernel
theorem d_M_decode_263 : decode b_M_decode 263 = .ok (.getfield 70, 3) := by decide +kernel
theorem d_M_decode_266 : decode b_M_decode 266 = .ok (.aload_n 0, 1) := by decide +kernel
theorem d_M_decode_267 : decode b_M_decode 267 = .ok (.getfield 79, 3) := by decide +kernel
theorem d_M_decode_270 : decode b_M_decode 270 = .ok (.invokevirtual 200, 3) := by decide +kernel
theorem d_M_decode_273 : decode b_M_decode 273 = .ok (.aload_n 0, 1) := by decide +kernel
theorem d_M_decode_274 : decode b_M_decode 274 = .ok (.aload_n 0, 1) := by decide +kernel
theorem d_M_decode_275 : decode b_M_decode 275 = .ok (.getfield 76, 3) := by decide +kernel
theorem d_M_decode_278 : decode b_M_decode 278 = .ok (.aload_n 0, 1) := by decide +kernel
theorem d_M_decode_279 : decode b_M_decode 279 = .ok (.getfield 58, 3) := by decide +kernel
theorem d_M_decode_282 : decode b_M_decode 282 = .ok (.aload_n 0, 1) := by decide +kernel
theorem d_M_decode_283 : decode b_M_decode 283 = .ok (.getfield 58, 3) := by decide +kernel
theorem d_M_decode_286 : decode b_M_decode 286 = .ok (.aload_n 0, 1) := by decide +kernel
theorem d_M_decode_287 : decode b_M_decode 287 = .ok (.getfield 27, 3) := by decide +kernel
theorem d_M_decode_290 : decode b_M_decode 290 = .ok (.aload_n 0, 1) := by decide +kernel
theorem d_M_decode_291 : decode b_M_decode 291 = .ok (.getfield 31, 3) := by decide +kernel
theorem d_M_decode_294 : decode b_M_decode 294 = .ok (.invokevirtual 188, 3) := by decide +kernel
theorem d_M_decode_297 : decode b_M_decode 297 = .ok (.aload_n 0, 1) := by decide +kernel
theorem d_M_decode_298 : decode b_M_decode 298 = .ok (.getfield 76, 3) := by decide +kernel
theorem d_M_decode_301 : decode b_M_decode 301 = .ok (.aload_n 0, 1) := by decide +kernel
theorem d_M_decode_302 : decode b_M_decode 302 = .ok (.getfield 70, 3) := by decide +kernel
theorem d_M_decode_305 : decode b_M_decode 305 = .ok (.invokestatic 281, 3) := by decide +kernel
theorem d_M_decode_308 : decode b_M_decode 308 = .ok (.ifCond .ne 27, 3) := by decide +kernel
theorem d_M_decode_311 : decode b_M_decode 311 = .ok (.aload_n 0, 1) := by decide +kernel
theorem d_M_decode_312 : decode b_M_decode 312 = .ok (.aload_n 0, 1) := by decide +kernel
theorem d_M_decode_313 : decode b_M_decode 313 = .ok (.getfield 58, 3) := by decide +kernel
theorem d_M_decode_316 : decode b_M_decode 316 = .ok (.aload_n 0, 1) := by decide +kernel
theorem d_M_decode_317 : decode b_M_decode 317 = .ok (.getfield 58, 3) := by decide +kernel
theorem d_M_decode_320 : decode b_M_decode 320 = .ok (.aload_n 0, 1) := by decide +kernel
theorem d_M_decode_321 : decode b_M_decode 321 = .ok (.getfield 43, 3) := by decide +kernel
theorem d_M_decode_324 : decode b_M_decode 324 = .ok (.aload_n 0, 1) := by decide +kernel
theorem d_M_decode_325 : decode b_M_decode 325 = .ok (.getfield 27, 3) := by decide +kernel
theorem d_M_decode_328 : decode b_M_decode 328 = .ok (.aload_n 0, 1) := by decide +kernel
theorem d_M_decode_329 : decode b_M_decode 329 = .ok (.getfield 31, 3) := by decide +kernel
theorem d_M_decode_332 : decode b_M_decode 332 = .ok (.invokevirtual 188, 3) := by decide +kernel
theorem d_M_decode_335 : decode b_M_decode 335 = .ok (.aload_n 0, 1) := by decide +kernel
theorem d_M_decode_336 : decode b_M_decode 336 = .ok (.aload_n 0, 1) := by decide +kernel
theorem d_M_decode_337 : decode b_M_decode 337 = .ok (.getfield 76, 3) := by decide +kernel
theorem d_M_decode_340 : decode b_M_decode 340 = .ok (.aload_n 0, 1) := by decide +kernel
theorem d_M_decode_341 : decode b_M_decode 341 = .ok (.getfield 58, 3) := by decide +kernel
theorem d_M_decode_344 : decode b_M_decode 344 = .ok (.aload_n 0, 1) := by decide +kernel
theorem d_M_decode_345 : decode b_M_decode 345 = .ok (.getfield 58, 3) := by decide +kernel
theorem d_M_decode_348 : decode b_M_decode 348 = .ok (.aload_n 0, 1) := by decide +kernel
theorem d_M_decode_349 : decode b_M_decode 349 = .ok (.getfield 27, 3) := by decide +kernel
theorem d_M_decode_352 : decode b_M_decode 352 = .ok (.aload_n 0, 1) := by decide +kernel
theorem d_M_decode_353 : decode b_M_decode 353 = .ok (.getfield 31, 3) := by decide +kernel
theorem d_M_decode_356 : decode b_M_decode 356 = .ok (.invokevirtual 188, 3) := by decide +kernel
theorem d_M_decode_359 : decode b_M_decode 359 = .ok (.aload_n 0, 1) := by decide +kernel
theorem d_M_decode_360 : decode b_M_decode 360 = .ok (.getfield 76, 3) := by decide +kernel
theorem d_M_decode_363 : decode b_M_decode 363 = .ok (.aload_n 0, 1) := by decide +kernel
theorem d_M_decode_364 : decode b_M_decode 364 = .ok (.getfield 70, 3) := by decide +kernel
theorem d_M_decode_367 : decode b_M_decode 367 = .ok (.invokestatic 281, 3) := by decide +kernel
theorem d_M_decode_370 : decode b_M_decode 370 = .ok (.ifCond .ne 5, 3) := by decide +kernel
theorem d_M_decode_373 : decode b_M_decode 373 = .ok (.iconst 0, 1) := by decide +kernel
theorem d_M_decode_374 : decode b_M_decode 374 = .ok (.ireturn, 1) := by decide +kernel
theorem d_M_decode_375 : decode b_M_decode 375 = .ok (.aload_n 0, 1) := by decide +kernel
theorem d_M_decode_376 : decode b_M_decode 376 = .ok (.getfield 103, 3) := by decide +kernel
theorem d_M_decode_379 : decode b_M_decode 379 = .ok (.bipush 31, 2) := by decide +kernel
theorem d_M_decode_381 : decode b_M_decode 381 = .ok (.baload, 1) := by decide +kernel
theorem d_M_decode_382 : decode b_M_decode 382 = .ok (.bipush 7, 2) := by decide +kernel
theorem d_M_decode_384 : decode b_M_decode 384 = .ok (.ishr, 1) := by decide +kernel
theorem d_M_decode_385 : decode b_M_decode 385 = .ok (.iconst 1, 1) := by decide +kernel
theorem d_M_decode_386 : decode b_M_decode 386 = .ok (.iand, 1) := by decide +kernel
theorem d_M_decode_387 : decode b_M_decode 387 = .ok (.istore_n 1, 1) := by decide +kernel
theorem d_M_decode_388 : decode b_M_decode 388 = .ok (.aload_n 0, 1) := by decide +kernel
theorem d_M_decode_389 : decode b_M_decode 389 = .ok (.getfield 58, 3) := by decide +kernel
theorem d_M_decode_392 : decode b_M_decode 392 = .ok (.invokestatic 228, 3) := by decide +kernel
theorem d_M_decode_395 : decode b_M_decode 395 = .ok (.ifCond .eq 10, 3) := by decide +kernel
theorem d_M_decode_398 : decode b_M_decode 398 = .ok (.iload_n 1, 1) := by decide +kernel
theorem d_M_decode_399 : decode b_M_decode 399 = .ok (.iconst 1, 1) := by decide +kernel
theorem d_M_decode_400 : decode b_M_decode 400 = .ok (.if_icmp .ne 5, 3) := by decide +kernel
theorem d_M_decode_403 : decode b_M_decode 403 = .ok (.iconst 0, 1) := by decide +kernel
theorem d_M_decode_404 : decode b_M_decode 404 = .ok (.ireturn, 1) := by decide +kernel
theorem d_M_decode_405 : decode b_M_decode 405 = .ok (.aload_n 0, 1) := by decide +kernel
theorem d_M_decode_406 : decode b_M_decode 406 = .ok (.getfield 58, 3) := by decide +kernel
theorem d_M_decode_409 : decode b_M_decode 409 = .ok (.iconst 0, 1) := by decide +kernel
theorem d_M_decode_410 : decode b_M_decode 410 = .ok (.laload, 1) := by decide +kernel
theorem d_M_decode_411 : decode b_M_decode 411 = .ok (.lconst 1, 1) := by decide +kernel
theorem d_M_decode_412 : decode b_M_decode 412 = .ok (.land, 1) := by decide +kernel
theorem d_M_decode_413 : decode b_M_decode 413 = .ok (.iload_n 1, 1) := by decide +kernel
theorem d_M_decode_414 : decode b_M_decode 414 = .ok (.i2l, 1) := by decide +kernel
theorem d_M_decode_415 : decode b_M_decode 415 = .ok (.lcmp, 1) := by decide +kernel
theorem d_M_decode_416 : decode b_M_decode 416 = .ok (.ifCond .eq 30, 3) := by decide +kernel
theorem d_M_decode_419 : decode b_M_decode 419 = .ok (.aload_n 0, 1) := by decide +kernel
theorem d_M_decode_420 : decode b_M_decode 420 = .ok (.getfield 76, 3) := by decide +kernel
theorem d_M_decode_423 : decode b_M_decode 423 = .ok (.iconst 0, 1) := by decide +kernel
theorem d_M_decode_424 : decode b_M_decode 424 = .ok (.invokestatic 177, 3) := by decide +kernel
theorem d_M_decode_427 : decode b_M_decode 427 = .ok (.aload_n 0, 1) := by decide +kernel
theorem d_M_decode_428 : decode b_M_decode 428 = .ok (.getfield 58, 3) := by decide +kernel
theorem d_M_decode_431 : decode b_M_decode 431 = .ok (.aload_n 0, 1) := by decide +kernel
theorem d_M_decode_432 : decode b_M_decode 432 = .ok (.getfield 76, 3) := by decide +kernel
theorem d_M_decode_435 : decode b_M_decode 435 = .ok (.aload_n 0, 1) := by decide +kernel
theorem d_M_decode_436 : decode b_M_decode 436 = .ok (.getfield 58, 3) := by decide +kernel
theorem d_M_decode_439 : decode b_M_decode 439 = .ok (.aload_n 0, 1) := by decide +kernel
theorem d_M_decode_440 : decode b_M_decode 440 = .ok (.getfield 27, 3) := by decide +kernel
theorem d_M_decode_443 : decode b_M_decode 443 = .ok (.invokestatic 192, 3) := by decide +kernel
theorem d_M_decode_446 : decode b_M_decode 446 = .ok (.iconst 1, 1) := by decide +kernel
theorem d_M_decode_447 : decode b_M_decode 447 = .ok (.ireturn, 1) := by decide +kernel
