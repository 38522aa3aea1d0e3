theorem d_M_raise_0 : decode b_M_raise 0 = .ok (.iconst 0, 1) := by decide +kernel
theorem d_M_raise_1 : decode b_M_raise 1 = .ok (.istore 5, 2) := by decide +kernel
theorem d_M_raise_3 : decode b_M_raise 3 = .ok (.iload 5, 2) := by decide +kernel
theorem d_M_raise_5 : decode b_M_raise 5 = .ok (.bipush 8, 2) := by decide +kernel
theorem d_M_raise_7 : decode b_M_raise 7 = .ok (.if_icmp .ge 17, 3) := by decide +kernel
theorem d_M_raise_10 : decode b_M_raise 10 = .ok (.aload_n 0, 1) := by decide +kernel
theorem d_M_raise_11 : decode b_M_raise 11 = .ok (.getfield 156, 3) := by decide +kernel
theorem d_M_raise_14 : decode b_M_raise 14 = .ok (.iload 5, 2) := by decide +kernel
theorem d_M_raise_16 : decode b_M_raise 16 = .ok (.lconst 0, 1) := by decide +kernel
theorem d_M_raise_17 : decode b_M_raise 17 = .ok (.lastore, 1) := by decide +kernel
theorem d_M_raise_18 : decode b_M_raise 18 = .ok (.iinc 5 1, 3) := by decide +kernel
theorem d_M_raise_21 : decode b_M_raise 21 = .ok (.goto (-18), 3) := by decide +kernel
theorem d_M_raise_24 : decode b_M_raise 24 = .ok (.iconst 0, 1) := by decide +kernel
theorem d_M_raise_25 : decode b_M_raise 25 = .ok (.istore 5, 2) := by decide +kernel
theorem d_M_raise_27 : decode b_M_raise 27 = .ok (.iload 5, 2) := by decide +kernel
theorem d_M_raise_29 : decode b_M_raise 29 = .ok (.iconst 3, 1) := by decide +kernel
theorem d_M_raise_30 : decode b_M_raise 30 = .ok (.if_icmp .ge 109, 3) := by decide +kernel
theorem d_M_raise_33 : decode b_M_raise 33 = .ok (.iload 5, 2) := by decide +kernel
theorem d_M_raise_35 : decode b_M_raise 35 = .ok (.ifCond .ne 11, 3) := by decide +kernel
theorem d_M_raise_38 : decode b_M_raise 38 = .ok (.lload_n 3, 1) := by decide +kernel
theorem d_M_raise_39 : decode b_M_raise 39 = .ok (.ldc2_w 256, 3) := by decide +kernel
theorem d_M_raise_42 : decode b_M_raise 42 = .ok (.land, 1) := by decide +kernel
theorem d_M_raise_43 : decode b_M_raise 43 = .ok (.goto 17, 3) := by decide +kernel
theorem d_M_raise_46 : decode b_M_raise 46 = .ok (.iload 5, 2) := by decide +kernel
theorem d_M_raise_48 : decode b_M_raise 48 = .ok (.iconst 1, 1) := by decide +kernel
theorem d_M_raise_49 : decode b_M_raise 49 = .ok (.if_icmp .ne 10, 3) := by decide +kernel
theorem d_M_raise_52 : decode b_M_raise 52 = .ok (.lload_n 3, 1) := by decide +kernel
theorem d_M_raise_53 : decode b_M_raise 53 = .ok (.bipush 32, 2) := by decide +kernel
theorem d_M_raise_55 : decode b_M_raise 55 = .ok (.lushr, 1) := by decide +kernel
theorem d_M_raise_56 : decode b_M_raise 56 = .ok (.goto 4, 3) := by decide +kernel
theorem d_M_raise_59 : decode b_M_raise 59 = .ok (.lload_n 1, 1) := by decide +kernel
theorem d_M_raise_60 : decode b_M_raise 60 = .ok (.lstore 6, 2) := by decide +kernel
theorem d_M_raise_62 : decode b_M_raise 62 = .ok (.lconst 0, 1) := by decide +kernel
theorem d_M_raise_63 : decode b_M_raise 63 = .ok (.lstore 8, 2) := by decide +kernel
theorem d_M_raise_65 : decode b_M_raise 65 = .ok (.iconst 0, 1) := by decide +kernel
theorem d_M_raise_66 : decode b_M_raise 66 = .ok (.istore 10, 2) := by decide +kernel
theorem d_M_raise_68 : decode b_M_raise 68 = .ok (.iload 5, 2) := by decide +kernel
theorem d_M_raise_70 : decode b_M_raise 70 = .ok (.iload 10, 2) := by decide +kernel
theorem d_M_raise_72 : decode b_M_raise 72 = .ok (.iadd, 1) := by decide +kernel
theorem d_M_raise_73 : decode b_M_raise 73 = .ok (.bipush 8, 2) := by decide +kernel
theorem d_M_raise_75 : decode b_M_raise 75 = .ok (.if_icmp .ge 58, 3) := by decide +kernel
theorem d_M_raise_78 : decode b_M_raise 78 = .ok (.aload_n 0, 1) := by decide +kernel
theorem d_M_raise_79 : decode b_M_raise 79 = .ok (.getfield 156, 3) := by decide +kernel
theorem d_M_raise_82 : decode b_M_raise 82 = .ok (.iload 5, 2) := by decide +kernel
theorem d_M_raise_84 : decode b_M_raise 84 = .ok (.iload 10, 2) := by decide +kernel
theorem d_M_raise_86 : decode b_M_raise 86 = .ok (.iadd, 1) := by decide +kernel
theorem d_M_raise_87 : decode b_M_raise 87 = .ok (.laload, 1) := by decide +kernel
theorem d_M_raise_88 : decode b_M_raise 88 = .ok (.lload 6, 2) := by decide +kernel
theorem d_M_raise_90 : decode b_M_raise 90 = .ok (.aload_n 0, 1) := by decide +kernel
theorem d_M_raise_91 : decode b_M_raise 91 = .ok (.getfield 153, 3) := by decide +kernel
theorem d_M_raise_94 : decode b_M_raise 94 = .ok (.iload 10, 2) := by decide +kernel
theorem d_M_raise_96 : decode b_M_raise 96 = .ok (.laload, 1) := by decide +kernel
theorem d_M_raise_97 : decode b_M_raise 97 = .ok (.lmul, 1) := by decide +kernel
theorem d_M_raise_98 : decode b_M_raise 98 = .ok (.ladd, 1) := by decide +kernel
theorem d_M_raise_99 : decode b_M_raise 99 = .ok (.lload 8, 2) := by decide +kernel
theorem d_M_raise_101 : decode b_M_raise 101 = .ok (.ladd, 1) := by decide +kernel
theorem d_M_raise_102 : decode b_M_raise 102 = .ok (.lstore 11, 2) := by decide +kernel
theorem d_M_raise_104 : decode b_M_raise 104 = .ok (.aload_n 0, 1) := by decide +kernel
theorem d_M_raise_105 : decode b_M_raise 105 = .ok (.getfield 156, 3) := by decide +kernel
theorem d_M_raise_108 : decode b_M_raise 108 = .ok (.iload 5, 2) := by decide +kernel
theorem d_M_raise_110 : decode b_M_raise 110 = .ok (.iload 10, 2) := by decide +kernel
theorem d_M_raise_112 : decode b_M_raise 112 = .ok (.iadd, 1) := by decide +kernel
theorem d_M_raise_113 : decode b_M_raise 113 = .ok (.lload 11, 2) := by decide +kernel
theorem d_M_raise_115 : decode b_M_raise 115 = .ok (.ldc2_w 256, 3) := by decide +kernel
theorem d_M_raise_118 : decode b_M_raise 118 = .ok (.land, 1) := by decide +kernel
theorem d_M_raise_119 : decode b_M_raise 119 = .ok (.lastore, 1) := by decide +kernel
theorem d_M_raise_120 : decode b_M_raise 120 = .ok (.lload 11, 2) := by decide +kernel
theorem d_M_raise_122 : decode b_M_raise 122 = .ok (.bipush 32, 2) := by decide +kernel
theorem d_M_raise_124 : decode b_M_raise 124 = .ok (.lushr, 1) := by decide +kernel
theorem d_M_raise_125 : decode b_M_raise 125 = .ok (.lstore 8, 2) := by decide +kernel
theorem d_M_raise_127 : decode b_M_raise 127 = .ok (.iinc 10 1, 3) := by decide +kernel
theorem d_M_raise_130 : decode b_M_raise 130 = .ok (.goto (-62), 3) := by decide +kernel
theorem d_M_raise_133 : decode b_M_raise 133 = .ok (.iinc 5 1, 3) := by decide +kernel
theorem d_M_raise_136 : decode b_M_raise 136 = .ok (.goto (-109), 3) := by decide +kernel
theorem d_M_raise_139 : decode b_M_raise 139 = .ok (.iconst 0, 1) := by decide +kernel
theorem d_M_raise_140 : decode b_M_raise 140 = .ok (.istore 5, 2) := by decide +kernel
theorem d_M_raise_142 : decode b_M_raise 142 = .ok (.iload 5, 2) := by decide +kernel
theorem d_M_raise_144 : decode b_M_raise 144 = .ok (.bipush 8, 2) := by decide +kernel
theorem d_M_raise_146 : decode b_M_raise 146 = .ok (.if_icmp .ge 23, 3) := by decide +kernel
theorem d_M_raise_149 : decode b_M_raise 149 = .ok (.aload_n 0, 1) := by decide +kernel
theorem d_M_raise_150 : decode b_M_raise 150 = .ok (.getfield 153, 3) := by decide +kernel
theorem d_M_raise_153 : decode b_M_raise 153 = .ok (.iload 5, 2) := by decide +kernel
theorem d_M_raise_155 : decode b_M_raise 155 = .ok (.aload_n 0, 1) := by decide +kernel
theorem d_M_raise_156 : decode b_M_raise 156 = .ok (.getfield 156, 3) := by decide +kernel
theorem d_M_raise_159 : decode b_M_raise 159 = .ok (.iload 5, 2) := by decide +kernel
theorem d_M_raise_161 : decode b_M_raise 161 = .ok (.laload, 1) := by decide +kernel
theorem d_M_raise_162 : decode b_M_raise 162 = .ok (.lastore, 1) := by decide +kernel
theorem d_M_raise_163 : decode b_M_raise 163 = .ok (.iinc 5 1, 3) := by decide +kernel
theorem d_M_raise_166 : decode b_M_raise 166 = .ok (.goto (-24), 3) := by decide +kernel
theorem d_M_raise_169 : decode b_M_raise 169 = .ok (.return_, 1) := by decide +kernel
theorem d_M_fits_0 : decode b_M_fits 0 = .ok (.iconst 0, 1) := by decide +kernel
theorem d_M_fits_1 : decode b_M_fits 1 = .ok (.istore 7, 2) := by decide +kernel
theorem d_M_fits_3 : decode b_M_fits 3 = .ok (.iload 7, 2) := by decide +kernel
theorem d_M_fits_5 : decode b_M_fits 5 = .ok (.bipush 8, 2) := by decide +kernel
theorem d_M_fits_7 : decode b_M_fits 7 = .ok (.if_icmp .ge 26, 3) := by decide +kernel
theorem d_M_fits_10 : decode b_M_fits 10 = .ok (.aload_n 0, 1) := by decide +kernel
theorem d_M_fits_11 : decode b_M_fits 11 = .ok (.getfield 153, 3) := by decide +kernel
theorem d_M_fits_14 : decode b_M_fits 14 = .ok (.iload 7, 2) := by decide +kernel
theorem d_M_fits_16 : decode b_M_fits 16 = .ok (.iload 7, 2) := by decide +kernel
theorem d_M_fits_18 : decode b_M_fits 18 = .ok (.ifCond .ne 7, 3) := by decide +kernel
theorem d_M_fits_21 : decode b_M_fits 21 = .ok (.lconst 1, 1) := by decide +kernel
theorem d_M_fits_22 : decode b_M_fits 22 = .ok (.goto 4, 3) := by decide +kernel
theorem d_M_fits_25 : decode b_M_fits 25 = .ok (.lconst 0, 1) := by decide +kernel
theorem d_M_fits_26 : decode b_M_fits 26 = .ok (.lastore, 1) := by decide +kernel
theorem d_M_fits_27 : decode b_M_fits 27 = .ok (.iinc 7 1, 3) := by decide +kernel
theorem d_M_fits_30 : decode b_M_fits 30 = .ok (.goto (-27), 3) := by decide +kernel
theorem d_M_fits_33 : decode b_M_fits 33 = .ok (.iconst 0, 1) := by decide +kernel
theorem d_M_fits_34 : decode b_M_fits 34 = .ok (.istore 7, 2) := by decide +kernel
theorem d_M_fits_36 : decode b_M_fits 36 = .ok (.iload 7, 2) := by decide +kernel
theorem d_M_fits_38 : decode b_M_fits 38 = .ok (.iload 6, 2) := by decide +kernel
theorem d_M_fits_40 : decode b_M_fits 40 = .ok (.if_icmp .ge 15, 3) := by decide +kernel
theorem d_M_fits_43 : decode b_M_fits 43 = .ok (.aload_n 0, 1) := by decide +kernel
theorem d_M_fits_44 : decode b_M_fits 44 = .ok (.lload_n 1, 1) := by decide +kernel
theorem d_M_fits_45 : decode b_M_fits 45 = .ok (.lload_n 3, 1) := by decide +kernel
theorem d_M_fits_46 : decode b_M_fits 46 = .ok (.invokevirtual 252, 3) := by decide +kernel
theorem d_M_fits_49 : decode b_M_fits 49 = .ok (.iinc 7 1, 3) := by decide +kernel
theorem d_M_fits_52 : decode b_M_fits 52 = .ok (.goto (-16), 3) := by decide +kernel
theorem d_M_fits_55 : decode b_M_fits 55 = .ok (.lconst 0, 1) := by decide +kernel
theorem d_M_fits_56 : decode b_M_fits 56 = .ok (.lstore 7, 2) := by decide +kernel
theorem d_M_fits_58 : decode b_M_fits 58 = .ok (.bipush 7, 2) := by decide +kernel
theorem d_M_fits_60 : decode b_M_fits 60 = .ok (.istore 9, 2) := by decide +kernel
theorem d_M_fits_62 : decode b_M_fits 62 = .ok (.iload 9, 2) := by decide +kernel
theorem d_M_fits_64 : decode b_M_fits 64 = .ok (.iconst 2, 1) := by decide +kernel
theorem d_M_fits_65 : decode b_M_fits 65 = .ok (.iload 6, 2) := by decide +kernel
theorem d_M_fits_67 : decode b_M_fits 67 = .ok (.imul, 1) := by decide +kernel
theorem d_M_fits_68 : decode b_M_fits 68 = .ok (.if_icmp .lt 24, 3) := by decide +kernel
theorem d_M_fits_71 : decode b_M_fits 71 = .ok (.lload 7, 2) := by decide +kernel
theorem d_M_fits_73 : decode b_M_fits 73 = .ok (.bipush 32, 2) := by decide +kernel
theorem d_M_fits_75 : decode b_M_fits 75 = .ok (.lshl, 1) := by decide +kernel
theorem d_M_fits_76 : decode b_M_fits 76 = .ok (.aload_n 0, 1) := by decide +kernel
theorem d_M_fits_77 : decode b_M_fits 77 = .ok (.getfield 153, 3) := by decide +kernel
theorem d_M_fits_80 : decode b_M_fits 80 = .ok (.iload 9, 2) := by decide +kernel
theorem d_M_fits_82 : decode b_M_fits 82 = .ok (.laload, 1) := by decide +kernel
theorem d_M_fits_83 : decode b_M_fits 83 = .ok (.lor, 1) := by decide +kernel
theorem d_M_fits_84 : decode b_M_fits 84 = .ok (.lstore 7, 2) := by decide +kernel
theorem d_M_fits_86 : decode b_M_fits 86 = .ok (.iinc 9 (-1), 3) := by decide +kernel
theorem d_M_fits_89 : decode b_M_fits 89 = .ok (.goto (-27), 3) := by decide +kernel
theorem d_M_fits_92 : decode b_M_fits 92 = .ok (.lload 7, 2) := by decide +kernel
theorem d_M_fits_94 : decode b_M_fits 94 = .ok (.iload 5, 2) := by decide +kernel
theorem d_M_fits_96 : decode b_M_fits 96 = .ok (.i2l, 1) := by decide +kernel
theorem d_M_fits_97 : decode b_M_fits 97 = .ok (.lcmp, 1) := by decide +kernel
theorem d_M_fits_98 : decode b_M_fits 98 = .ok (.ifCond .eq 18, 3) := by decide +kernel
theorem d_M_fits_101 : decode b_M_fits 101 = .ok (.lload 7, 2) := by decide +kernel
theorem d_M_fits_103 : decode b_M_fits 103 = .ok (.iload 5, 2) := by decide +kernel
theorem d_M_fits_105 : decode b_M_fits 105 = .ok (.i2l, 1) := by decide +kernel
theorem d_M_fits_106 : decode b_M_fits 106 = .ok (.lcmp, 1) := by decide +kernel
theorem d_M_fits_107 : decode b_M_fits 107 = .ok (.ifCond .ge 7, 3) := by decide +kernel
theorem d_M_fits_110 : decode b_M_fits 110 = .ok (.iconst 1, 1) := by decide +kernel
theorem d_M_fits_111 : decode b_M_fits 111 = .ok (.goto 4, 3) := by decide +kernel
theorem d_M_fits_114 : decode b_M_fits 114 = .ok (.iconst 0, 1) := by decide +kernel
theorem d_M_fits_115 : decode b_M_fits 115 = .ok (.ireturn, 1) := by decide +kernel
theorem d_M_fits_116 : decode b_M_fits 116 = .ok (.iconst 0, 1) := by decide +kernel
theorem d_M_fits_117 : decode b_M_fits 117 = .ok (.istore 9, 2) := by decide +kernel
theorem d_M_fits_119 : decode b_M_fits 119 = .ok (.iload 9, 2) := by decide +kernel
theorem d_M_fits_121 : decode b_M_fits 121 = .ok (.iconst 2, 1) := by decide +kernel
theorem d_M_fits_122 : decode b_M_fits 122 = .ok (.iload 6, 2) := by decide +kernel
theorem d_M_fits_124 : decode b_M_fits 124 = .ok (.imul, 1) := by decide +kernel
theorem d_M_fits_125 : decode b_M_fits 125 = .ok (.if_icmp .ge 23, 3) := by decide +kernel
theorem d_M_fits_128 : decode b_M_fits 128 = .ok (.aload_n 0, 1) := by decide +kernel
theorem d_M_fits_129 : decode b_M_fits 129 = .ok (.getfield 153, 3) := by decide +kernel
theorem d_M_fits_132 : decode b_M_fits 132 = .ok (.iload 9, 2) := by decide +kernel
theorem d_M_fits_134 : decode b_M_fits 134 = .ok (.laload, 1) := by decide +kernel
theorem d_M_fits_135 : decode b_M_fits 135 = .ok (.lconst 0, 1) := by decide +kernel
theorem d_M_fits_136 : decode b_M_fits 136 = .ok (.lcmp, 1) := by decide +kernel
theorem d_M_fits_137 : decode b_M_fits 137 = .ok (.ifCond .eq 5, 3) := by decide +kernel
theorem d_M_fits_140 : decode b_M_fits 140 = .ok (.iconst 0, 1) := by decide +kernel
theorem d_M_fits_141 : decode b_M_fits 141 = .ok (.ireturn, 1) := by decide +kernel
theorem d_M_fits_142 : decode b_M_fits 142 = .ok (.iinc 9 1, 3) := by decide +kernel
theorem d_M_fits_145 : decode b_M_fits 145 = .ok (.goto (-26), 3) := by decide +kernel
theorem d_M_fits_148 : decode b_M_fits 148 = .ok (.iconst 1, 1) := by decide +kernel
theorem d_M_fits_149 : decode b_M_fits 149 = .ok (.ireturn, 1) := by decide +kernel
theorem d_M_root_0 : decode b_M_root 0 = .ok (.lconst 0, 1) := by decide +kernel
theorem d_M_root_1 : decode b_M_root 1 = .ok (.lstore_n 3, 1) := by decide +kernel
theorem d_M_root_2 : decode b_M_root 2 = .ok (.lconst 0, 1) := by decide +kernel
theorem d_M_root_3 : decode b_M_root 3 = .ok (.lstore 5, 2) := by decide +kernel
theorem d_M_root_5 : decode b_M_root 5 = .ok (.bipush 66, 2) := by decide +kernel
theorem d_M_root_7 : decode b_M_root 7 = .ok (.istore 7, 2) := by decide +kernel
theorem d_M_root_9 : decode b_M_root 9 = .ok (.iload 7, 2) := by decide +kernel
theorem d_M_root_11 : decode b_M_root 11 = .ok (.ifCond .lt 72, 3) := by decide +kernel
theorem d_M_root_14 : decode b_M_root 14 = .ok (.iload 7, 2) := by decide +kernel
theorem d_M_root_16 : decode b_M_root 16 = .ok (.bipush 63, 2) := by decide +kernel
theorem d_M_root_18 : decode b_M_root 18 = .ok (.if_icmp .le 15, 3) := by decide +kernel
theorem d_M_root_21 : decode b_M_root 21 = .ok (.lload_n 3, 1) := by decide +kernel
theorem d_M_root_22 : decode b_M_root 22 = .ok (.lconst 1, 1) := by decide +kernel
theorem d_M_root_23 : decode b_M_root 23 = .ok (.iload 7, 2) := by decide +kernel
theorem d_M_root_25 : decode b_M_root 25 = .ok (.bipush 64, 2) := by decide +kernel
theorem d_M_root_27 : decode b_M_root 27 = .ok (.isub, 1) := by decide +kernel
theorem d_M_root_28 : decode b_M_root 28 = .ok (.lshl, 1) := by decide +kernel
theorem d_M_root_29 : decode b_M_root 29 = .ok (.lor, 1) := by decide +kernel
theorem d_M_root_30 : decode b_M_root 30 = .ok (.goto 4, 3) := by decide +kernel
theorem d_M_root_33 : decode b_M_root 33 = .ok (.lload_n 3, 1) := by decide +kernel
theorem d_M_root_34 : decode b_M_root 34 = .ok (.lstore 8, 2) := by decide +kernel
theorem d_M_root_36 : decode b_M_root 36 = .ok (.iload 7, 2) := by decide +kernel
theorem d_M_root_38 : decode b_M_root 38 = .ok (.bipush 63, 2) := by decide +kernel
theorem d_M_root_40 : decode b_M_root 40 = .ok (.if_icmp .le 8, 3) := by decide +kernel
theorem d_M_root_43 : decode b_M_root 43 = .ok (.lload 5, 2) := by decide +kernel
theorem d_M_root_45 : decode b_M_root 45 = .ok (.goto 10, 3) := by decide +kernel
theorem d_M_root_48 : decode b_M_root 48 = .ok (.lload 5, 2) := by decide +kernel
theorem d_M_root_50 : decode b_M_root 50 = .ok (.lconst 1, 1) := by decide +kernel
theorem d_M_root_51 : decode b_M_root 51 = .ok (.iload 7, 2) := by decide +kernel
theorem d_M_root_53 : decode b_M_root 53 = .ok (.lshl, 1) := by decide +kernel
theorem d_M_root_54 : decode b_M_root 54 = .ok (.lor, 1) := by decide +kernel
theorem d_M_root_55 : decode b_M_root 55 = .ok (.lstore 10, 2) := by decide +kernel
theorem d_M_root_57 : decode b_M_root 57 = .ok (.aload_n 0, 1) := by decide +kernel
theorem d_M_root_58 : decode b_M_root 58 = .ok (.lload 8, 2) := by decide +kernel
theorem d_M_root_60 : decode b_M_root 60 = .ok (.lload 10, 2) := by decide +kernel
theorem d_M_root_62 : decode b_M_root 62 = .ok (.iload_n 1, 1) := by decide +kernel
theorem d_M_root_63 : decode b_M_root 63 = .ok (.iload_n 2, 1) := by decide +kernel
theorem d_M_root_64 : decode b_M_root 64 = .ok (.invokevirtual 248, 3) := by decide +kernel
theorem d_M_root_67 : decode b_M_root 67 = .ok (.ifCond .eq 10, 3) := by decide +kernel
theorem d_M_root_70 : decode b_M_root 70 = .ok (.lload 8, 2) := by decide +kernel
theorem d_M_root_72 : decode b_M_root 72 = .ok (.lstore_n 3, 1) := by decide +kernel
theorem d_M_root_73 : decode b_M_root 73 = .ok (.lload 10, 2) := by decide +kernel
theorem d_M_root_75 : decode b_M_root 75 = .ok (.lstore 5, 2) := by decide +kernel
theorem d_M_root_77 : decode b_M_root 77 = .ok (.iinc 7 (-1), 3) := by decide +kernel
theorem d_M_root_80 : decode b_M_root 80 = .ok (.goto (-71), 3) := by decide +kernel
theorem d_M_root_83 : decode b_M_root 83 = .ok (.lload 5, 2) := by decide +kernel
theorem d_M_root_85 : decode b_M_root 85 = .ok (.lreturn, 1) := by decide +kernel
theorem d_M_prime_0 : decode b_M_prime 0 = .ok (.iload_n 0, 1) := by decide +kernel
theorem d_M_prime_1 : decode b_M_prime 1 = .ok (.istore_n 1, 1) := by decide +kernel
theorem d_M_prime_2 : decode b_M_prime 2 = .ok (.iconst 0, 1) := by decide +kernel
theorem d_M_prime_3 : decode b_M_prime 3 = .ok (.istore_n 2, 1) := by decide +kernel
theorem d_M_prime_4 : decode b_M_prime 4 = .ok (.iload_n 2, 1) := by decide +kernel
theorem d_M_prime_5 : decode b_M_prime 5 = .ok (.ifCond .ne 34, 3) := by decide +kernel
theorem d_M_prime_8 : decode b_M_prime 8 = .ok (.iinc 1 1, 3) := by decide +kernel
theorem d_M_prime_11 : decode b_M_prime 11 = .ok (.iconst 1, 1) := by decide +kernel
theorem d_M_prime_12 : decode b_M_prime 12 = .ok (.istore_n 2, 1) := by decide +kernel
theorem d_M_prime_13 : decode b_M_prime 13 = .ok (.iconst 2, 1) := by decide +kernel
theorem d_M_prime_14 : decode b_M_prime 14 = .ok (.istore_n 3, 1) := by decide +kernel
theorem d_M_prime_15 : decode b_M_prime 15 = .ok (.iload_n 3, 1) := by decide +kernel
theorem d_M_prime_16 : decode b_M_prime 16 = .ok (.iload_n 3, 1) := by decide +kernel
theorem d_M_prime_17 : decode b_M_prime 17 = .ok (.imul, 1) := by decide +kernel
theorem d_M_prime_18 : decode b_M_prime 18 = .ok (.iload_n 1, 1) := by decide +kernel
theorem d_M_prime_19 : decode b_M_prime 19 = .ok (.if_icmp .gt 17, 3) := by decide +kernel
theorem d_M_prime_22 : decode b_M_prime 22 = .ok (.iload_n 1, 1) := by decide +kernel
theorem d_M_prime_23 : decode b_M_prime 23 = .ok (.iload_n 3, 1) := by decide +kernel
theorem d_M_prime_24 : decode b_M_prime 24 = .ok (.irem, 1) := by decide +kernel
theorem d_M_prime_25 : decode b_M_prime 25 = .ok (.ifCond .ne 5, 3) := by decide +kernel
theorem d_M_prime_28 : decode b_M_prime 28 = .ok (.iconst 0, 1) := by decide +kernel
theorem d_M_prime_29 : decode b_M_prime 29 = .ok (.istore_n 2, 1) := by decide +kernel
theorem d_M_prime_30 : decode b_M_prime 30 = .ok (.iinc 3 1, 3) := by decide +kernel
theorem d_M_prime_33 : decode b_M_prime 33 = .ok (.goto (-18), 3) := by decide +kernel
theorem d_M_prime_36 : decode b_M_prime 36 = .ok (.goto (-32), 3) := by decide +kernel
theorem d_M_prime_39 : decode b_M_prime 39 = .ok (.iload_n 1, 1) := by decide +kernel
theorem d_M_prime_40 : decode b_M_prime 40 = .ok (.ireturn, 1) := by decide +kernel
theorem d_M_constants_0 : decode b_M_constants 0 = .ok (.iconst 1, 1) := by decide +kernel
theorem d_M_constants_1 : decode b_M_constants 1 = .ok (.istore_n 1, 1) := by decide +kernel
theorem d_M_constants_2 : decode b_M_constants 2 = .ok (.iconst 0, 1) := by decide +kernel
theorem d_M_constants_3 : decode b_M_constants 3 = .ok (.istore_n 2, 1) := by decide +kernel
theorem d_M_constants_4 : decode b_M_constants 4 = .ok (.iload_n 2, 1) := by decide +kernel
theorem d_M_constants_5 : decode b_M_constants 5 = .ok (.bipush 80, 2) := by decide +kernel
theorem d_M_constants_7 : decode b_M_constants 7 = .ok (.if_icmp .ge 44, 3) := by decide +kernel
theorem d_M_constants_10 : decode b_M_constants 10 = .ok (.iload_n 1, 1) := by decide +kernel
theorem d_M_constants_11 : decode b_M_constants 11 = .ok (.invokestatic 241, 3) := by decide +kernel
theorem d_M_constants_14 : decode b_M_constants 14 = .ok (.istore_n 1, 1) := by decide +kernel
theorem d_M_constants_15 : decode b_M_constants 15 = .ok (.aload_n 0, 1) := by decide +kernel
theorem d_M_constants_16 : decode b_M_constants 16 = .ok (.getfield 141, 3) := by decide +kernel
theorem d_M_constants_19 : decode b_M_constants 19 = .ok (.iload_n 2, 1) := by decide +kernel
theorem d_M_constants_20 : decode b_M_constants 20 = .ok (.aload_n 0, 1) := by decide +kernel
theorem d_M_constants_21 : decode b_M_constants 21 = .ok (.iload_n 1, 1) := by decide +kernel
theorem d_M_constants_22 : decode b_M_constants 22 = .ok (.iconst 3, 1) := by decide +kernel
theorem d_M_constants_23 : decode b_M_constants 23 = .ok (.invokevirtual 245, 3) := by decide +kernel
theorem d_M_constants_26 : decode b_M_constants 26 = .ok (.lastore, 1) := by decide +kernel
theorem d_M_constants_27 : decode b_M_constants 27 = .ok (.iload_n 2, 1) := by decide +kernel
theorem d_M_constants_28 : decode b_M_constants 28 = .ok (.bipush 8, 2) := by decide +kernel
theorem d_M_constants_30 : decode b_M_constants 30 = .ok (.if_icmp .ge 15, 3) := by decide +kernel
theorem d_M_constants_33 : decode b_M_constants 33 = .ok (.aload_n 0, 1) := by decide +kernel
theorem d_M_constants_34 : decode b_M_constants 34 = .ok (.getfield 144, 3) := by decide +kernel
theorem d_M_constants_37 : decode b_M_constants 37 = .ok (.iload_n 2, 1) := by decide +kernel
theorem d_M_constants_38 : decode b_M_constants 38 = .ok (.aload_n 0, 1) := by decide +kernel
theorem d_M_constants_39 : decode b_M_constants 39 = .ok (.iload_n 1, 1) := by decide +kernel
theorem d_M_constants_40 : decode b_M_constants 40 = .ok (.iconst 2, 1) := by decide +kernel
theorem d_M_constants_41 : decode b_M_constants 41 = .ok (.invokevirtual 245, 3) := by decide +kernel
theorem d_M_constants_44 : decode b_M_constants 44 = .ok (.lastore, 1) := by decide +kernel
theorem d_M_constants_45 : decode b_M_constants 45 = .ok (.iinc 2 1, 3) := by decide +kernel
theorem d_M_constants_48 : decode b_M_constants 48 = .ok (.goto (-44), 3) := by decide +kernel
theorem d_M_constants_51 : decode b_M_constants 51 = .ok (.return_, 1) := by decide +kernel
