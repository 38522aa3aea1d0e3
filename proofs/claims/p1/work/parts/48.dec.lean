theorem d_K_init_0 : decode b_K_init 0 = .ok (.aload_n 0, 1) := by decide +kernel
theorem d_K_init_1 : decode b_K_init 1 = .ok (.invokespecial 1, 3) := by decide +kernel
theorem d_K_init_4 : decode b_K_init 4 = .ok (.new 7, 3) := by decide +kernel
theorem d_K_init_7 : decode b_K_init 7 = .ok (.dup, 1) := by decide +kernel
theorem d_K_init_8 : decode b_K_init 8 = .ok (.invokespecial 9, 3) := by decide +kernel
theorem d_K_init_11 : decode b_K_init 11 = .ok (.astore_n 1, 1) := by decide +kernel
theorem d_K_init_12 : decode b_K_init 12 = .ok (.aload_n 0, 1) := by decide +kernel
theorem d_K_init_13 : decode b_K_init 13 = .ok (.bipush 100, 2) := by decide +kernel
theorem d_K_init_15 : decode b_K_init 15 = .ok (.anewarray 12, 3) := by decide +kernel
theorem d_K_init_18 : decode b_K_init 18 = .ok (.putfield 14, 3) := by decide +kernel
theorem d_K_init_21 : decode b_K_init 21 = .ok (.aload_n 0, 1) := by decide +kernel
theorem d_K_init_22 : decode b_K_init 22 = .ok (.bipush 64, 2) := by decide +kernel
theorem d_K_init_24 : decode b_K_init 24 = .ok (.newarray .byte, 2) := by decide +kernel
theorem d_K_init_26 : decode b_K_init 26 = .ok (.putfield 18, 3) := by decide +kernel
theorem d_K_init_29 : decode b_K_init 29 = .ok (.aload_n 0, 1) := by decide +kernel
theorem d_K_init_30 : decode b_K_init 30 = .ok (.iconst 4, 1) := by decide +kernel
theorem d_K_init_31 : decode b_K_init 31 = .ok (.newarray .int, 2) := by decide +kernel
theorem d_K_init_33 : decode b_K_init 33 = .ok (.putfield 22, 3) := by decide +kernel
theorem d_K_init_36 : decode b_K_init 36 = .ok (.aload_n 0, 1) := by decide +kernel
theorem d_K_init_37 : decode b_K_init 37 = .ok (.new 26, 3) := by decide +kernel
theorem d_K_init_40 : decode b_K_init 40 = .ok (.dup, 1) := by decide +kernel
theorem d_K_init_41 : decode b_K_init 41 = .ok (.aload_n 1, 1) := by decide +kernel
theorem d_K_init_42 : decode b_K_init 42 = .ok (.invokespecial 28, 3) := by decide +kernel
theorem d_K_init_45 : decode b_K_init 45 = .ok (.putfield 31, 3) := by decide +kernel
theorem d_K_init_48 : decode b_K_init 48 = .ok (.aload_n 0, 1) := by decide +kernel
theorem d_K_init_49 : decode b_K_init 49 = .ok (.new 35, 3) := by decide +kernel
theorem d_K_init_52 : decode b_K_init 52 = .ok (.dup, 1) := by decide +kernel
theorem d_K_init_53 : decode b_K_init 53 = .ok (.aload_n 1, 1) := by decide +kernel
theorem d_K_init_54 : decode b_K_init 54 = .ok (.invokespecial 37, 3) := by decide +kernel
theorem d_K_init_57 : decode b_K_init 57 = .ok (.putfield 38, 3) := by decide +kernel
theorem d_K_init_60 : decode b_K_init 60 = .ok (.aload_n 0, 1) := by decide +kernel
theorem d_K_init_61 : decode b_K_init 61 = .ok (.new 42, 3) := by decide +kernel
theorem d_K_init_64 : decode b_K_init 64 = .ok (.dup, 1) := by decide +kernel
theorem d_K_init_65 : decode b_K_init 65 = .ok (.aload_n 0, 1) := by decide +kernel
theorem d_K_init_66 : decode b_K_init 66 = .ok (.getfield 38, 3) := by decide +kernel
theorem d_K_init_69 : decode b_K_init 69 = .ok (.invokespecial 44, 3) := by decide +kernel
theorem d_K_init_72 : decode b_K_init 72 = .ok (.putfield 47, 3) := by decide +kernel
theorem d_K_init_75 : decode b_K_init 75 = .ok (.aload_n 0, 1) := by decide +kernel
theorem d_K_init_76 : decode b_K_init 76 = .ok (.new 51, 3) := by decide +kernel
theorem d_K_init_79 : decode b_K_init 79 = .ok (.dup, 1) := by decide +kernel
theorem d_K_init_80 : decode b_K_init 80 = .ok (.invokespecial 53, 3) := by decide +kernel
theorem d_K_init_83 : decode b_K_init 83 = .ok (.putfield 54, 3) := by decide +kernel
theorem d_K_init_86 : decode b_K_init 86 = .ok (.aload_n 0, 1) := by decide +kernel
theorem d_K_init_87 : decode b_K_init 87 = .ok (.new 51, 3) := by decide +kernel
theorem d_K_init_90 : decode b_K_init 90 = .ok (.dup, 1) := by decide +kernel
theorem d_K_init_91 : decode b_K_init 91 = .ok (.invokespecial 53, 3) := by decide +kernel
theorem d_K_init_94 : decode b_K_init 94 = .ok (.putfield 58, 3) := by decide +kernel
theorem d_K_init_97 : decode b_K_init 97 = .ok (.return_, 1) := by decide +kernel
