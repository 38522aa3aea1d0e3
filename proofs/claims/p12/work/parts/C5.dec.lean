abbrev b_JA_copyOf : ByteArray := prog_30_method_121_code
def y_JA_copyOf : MethodName := ⟨R_JA, "copyOf", "([BI)[B"⟩
theorem d_JA_copyOf_0 : decode b_JA_copyOf 0 = .ok (.iload_n 1, 1) := by decide +kernel
theorem d_JA_copyOf_1 : decode b_JA_copyOf 1 = .ok (.aload_n 0, 1) := by decide +kernel
theorem d_JA_copyOf_2 : decode b_JA_copyOf 2 = .ok (.arraylength, 1) := by decide +kernel
theorem d_JA_copyOf_3 : decode b_JA_copyOf 3 = .ok (.if_icmp .ne 11, 3) := by decide +kernel
theorem d_JA_copyOf_14 : decode b_JA_copyOf 14 = .ok (.iload_n 1, 1) := by decide +kernel
theorem d_JA_copyOf_15 : decode b_JA_copyOf 15 = .ok (.newarray .byte, 2) := by decide +kernel
theorem d_JA_copyOf_17 : decode b_JA_copyOf 17 = .ok (.astore_n 2, 1) := by decide +kernel
theorem d_JA_copyOf_18 : decode b_JA_copyOf 18 = .ok (.aload_n 0, 1) := by decide +kernel
theorem d_JA_copyOf_19 : decode b_JA_copyOf 19 = .ok (.iconst 0, 1) := by decide +kernel
theorem d_JA_copyOf_20 : decode b_JA_copyOf 20 = .ok (.aload_n 2, 1) := by decide +kernel
theorem d_JA_copyOf_21 : decode b_JA_copyOf 21 = .ok (.iconst 0, 1) := by decide +kernel
theorem d_JA_copyOf_22 : decode b_JA_copyOf 22 = .ok (.aload_n 0, 1) := by decide +kernel
theorem d_JA_copyOf_23 : decode b_JA_copyOf 23 = .ok (.arraylength, 1) := by decide +kernel
theorem d_JA_copyOf_24 : decode b_JA_copyOf 24 = .ok (.iload_n 1, 1) := by decide +kernel
theorem d_JA_copyOf_25 : decode b_JA_copyOf 25 = .ok (.invokestatic 304, 3) := by decide +kernel
theorem d_JA_copyOf_28 : decode b_JA_copyOf 28 = .ok (.invokestatic 150, 3) := by decide +kernel
theorem d_JA_copyOf_31 : decode b_JA_copyOf 31 = .ok (.aload_n 2, 1) := by decide +kernel
theorem d_JA_copyOf_32 : decode b_JA_copyOf 32 = .ok (.areturn, 1) := by decide +kernel
theorem d_Ro_growBy_0 : decode b_Ro_growBy 0 = .ok (.aload_n 0, 1) := by decide +kernel
theorem d_Ro_growBy_1 : decode b_Ro_growBy 1 = .ok (.getfield 15, 3) := by decide +kernel
theorem d_Ro_growBy_4 : decode b_Ro_growBy 4 = .ok (.iload_n 1, 1) := by decide +kernel
theorem d_Ro_growBy_5 : decode b_Ro_growBy 5 = .ok (.iadd, 1) := by decide +kernel
theorem d_Ro_growBy_6 : decode b_Ro_growBy 6 = .ok (.aload_n 0, 1) := by decide +kernel
theorem d_Ro_growBy_7 : decode b_Ro_growBy 7 = .ok (.getfield 11, 3) := by decide +kernel
theorem d_Ro_growBy_10 : decode b_Ro_growBy 10 = .ok (.arraylength, 1) := by decide +kernel
theorem d_Ro_growBy_11 : decode b_Ro_growBy 11 = .ok (.if_icmp .le 21, 3) := by decide +kernel
theorem d_Ro_growBy_14 : decode b_Ro_growBy 14 = .ok (.aload_n 0, 1) := by decide +kernel
theorem d_Ro_growBy_15 : decode b_Ro_growBy 15 = .ok (.aload_n 0, 1) := by decide +kernel
theorem d_Ro_growBy_16 : decode b_Ro_growBy 16 = .ok (.getfield 11, 3) := by decide +kernel
theorem d_Ro_growBy_19 : decode b_Ro_growBy 19 = .ok (.iconst 2, 1) := by decide +kernel
theorem d_Ro_growBy_20 : decode b_Ro_growBy 20 = .ok (.aload_n 0, 1) := by decide +kernel
theorem d_Ro_growBy_21 : decode b_Ro_growBy 21 = .ok (.getfield 11, 3) := by decide +kernel
theorem d_Ro_growBy_24 : decode b_Ro_growBy 24 = .ok (.arraylength, 1) := by decide +kernel
theorem d_Ro_growBy_25 : decode b_Ro_growBy 25 = .ok (.imul, 1) := by decide +kernel
theorem d_Ro_growBy_26 : decode b_Ro_growBy 26 = .ok (.invokestatic 30, 3) := by decide +kernel
theorem d_Ro_growBy_29 : decode b_Ro_growBy 29 = .ok (.putfield 11, 3) := by decide +kernel
theorem d_Ro_growBy_32 : decode b_Ro_growBy 32 = .ok (.return_, 1) := by decide +kernel
theorem d_Ro_hasRoomFor_0 : decode b_Ro_hasRoomFor 0 = .ok (.aload_n 0, 1) := by decide +kernel
theorem d_Ro_hasRoomFor_1 : decode b_Ro_hasRoomFor 1 = .ok (.getfield 15, 3) := by decide +kernel
theorem d_Ro_hasRoomFor_4 : decode b_Ro_hasRoomFor 4 = .ok (.iload_n 1, 1) := by decide +kernel
theorem d_Ro_hasRoomFor_5 : decode b_Ro_hasRoomFor 5 = .ok (.iadd, 1) := by decide +kernel
theorem d_Ro_hasRoomFor_6 : decode b_Ro_hasRoomFor 6 = .ok (.ldc 19, 2) := by decide +kernel
theorem d_Ro_hasRoomFor_8 : decode b_Ro_hasRoomFor 8 = .ok (.if_icmp .gt 7, 3) := by decide +kernel
theorem d_Ro_hasRoomFor_11 : decode b_Ro_hasRoomFor 11 = .ok (.iconst 1, 1) := by decide +kernel
theorem d_Ro_hasRoomFor_12 : decode b_Ro_hasRoomFor 12 = .ok (.goto 4, 3) := by decide +kernel
theorem d_Ro_hasRoomFor_15 : decode b_Ro_hasRoomFor 15 = .ok (.iconst 0, 1) := by decide +kernel
theorem d_Ro_hasRoomFor_16 : decode b_Ro_hasRoomFor 16 = .ok (.ireturn, 1) := by decide +kernel
theorem d_Ro_appendNumber_0 : decode b_Ro_appendNumber 0 = .ok (.aload_n 0, 1) := by decide +kernel
theorem d_Ro_appendNumber_1 : decode b_Ro_appendNumber 1 = .ok (.iconst 4, 1) := by decide +kernel
theorem d_Ro_appendNumber_2 : decode b_Ro_appendNumber 2 = .ok (.invokevirtual 20, 3) := by decide +kernel
theorem d_Ro_appendNumber_5 : decode b_Ro_appendNumber 5 = .ok (.aload_n 0, 1) := by decide +kernel
theorem d_Ro_appendNumber_6 : decode b_Ro_appendNumber 6 = .ok (.getfield 11, 3) := by decide +kernel
theorem d_Ro_appendNumber_9 : decode b_Ro_appendNumber 9 = .ok (.aload_n 0, 1) := by decide +kernel
theorem d_Ro_appendNumber_10 : decode b_Ro_appendNumber 10 = .ok (.getfield 15, 3) := by decide +kernel
theorem d_Ro_appendNumber_13 : decode b_Ro_appendNumber 13 = .ok (.iload_n 1, 1) := by decide +kernel
theorem d_Ro_appendNumber_14 : decode b_Ro_appendNumber 14 = .ok (.bipush 24, 2) := by decide +kernel
theorem d_Ro_appendNumber_16 : decode b_Ro_appendNumber 16 = .ok (.ishr, 1) := by decide +kernel
theorem d_Ro_appendNumber_17 : decode b_Ro_appendNumber 17 = .ok (.i2b, 1) := by decide +kernel
theorem d_Ro_appendNumber_18 : decode b_Ro_appendNumber 18 = .ok (.bastore, 1) := by decide +kernel
theorem d_Ro_appendNumber_19 : decode b_Ro_appendNumber 19 = .ok (.aload_n 0, 1) := by decide +kernel
theorem d_Ro_appendNumber_20 : decode b_Ro_appendNumber 20 = .ok (.getfield 11, 3) := by decide +kernel
theorem d_Ro_appendNumber_23 : decode b_Ro_appendNumber 23 = .ok (.aload_n 0, 1) := by decide +kernel
theorem d_Ro_appendNumber_24 : decode b_Ro_appendNumber 24 = .ok (.getfield 15, 3) := by decide +kernel
theorem d_Ro_appendNumber_27 : decode b_Ro_appendNumber 27 = .ok (.iconst 1, 1) := by decide +kernel
theorem d_Ro_appendNumber_28 : decode b_Ro_appendNumber 28 = .ok (.iadd, 1) := by decide +kernel
theorem d_Ro_appendNumber_29 : decode b_Ro_appendNumber 29 = .ok (.iload_n 1, 1) := by decide +kernel
theorem d_Ro_appendNumber_30 : decode b_Ro_appendNumber 30 = .ok (.bipush 16, 2) := by decide +kernel
theorem d_Ro_appendNumber_32 : decode b_Ro_appendNumber 32 = .ok (.ishr, 1) := by decide +kernel
theorem d_Ro_appendNumber_33 : decode b_Ro_appendNumber 33 = .ok (.i2b, 1) := by decide +kernel
theorem d_Ro_appendNumber_34 : decode b_Ro_appendNumber 34 = .ok (.bastore, 1) := by decide +kernel
theorem d_Ro_appendNumber_35 : decode b_Ro_appendNumber 35 = .ok (.aload_n 0, 1) := by decide +kernel
theorem d_Ro_appendNumber_36 : decode b_Ro_appendNumber 36 = .ok (.getfield 11, 3) := by decide +kernel
theorem d_Ro_appendNumber_39 : decode b_Ro_appendNumber 39 = .ok (.aload_n 0, 1) := by decide +kernel
theorem d_Ro_appendNumber_40 : decode b_Ro_appendNumber 40 = .ok (.getfield 15, 3) := by decide +kernel
theorem d_Ro_appendNumber_43 : decode b_Ro_appendNumber 43 = .ok (.iconst 2, 1) := by decide +kernel
theorem d_Ro_appendNumber_44 : decode b_Ro_appendNumber 44 = .ok (.iadd, 1) := by decide +kernel
theorem d_Ro_appendNumber_45 : decode b_Ro_appendNumber 45 = .ok (.iload_n 1, 1) := by decide +kernel
theorem d_Ro_appendNumber_46 : decode b_Ro_appendNumber 46 = .ok (.bipush 8, 2) := by decide +kernel
theorem d_Ro_appendNumber_48 : decode b_Ro_appendNumber 48 = .ok (.ishr, 1) := by decide +kernel
theorem d_Ro_appendNumber_49 : decode b_Ro_appendNumber 49 = .ok (.i2b, 1) := by decide +kernel
theorem d_Ro_appendNumber_50 : decode b_Ro_appendNumber 50 = .ok (.bastore, 1) := by decide +kernel
theorem d_Ro_appendNumber_51 : decode b_Ro_appendNumber 51 = .ok (.aload_n 0, 1) := by decide +kernel
theorem d_Ro_appendNumber_52 : decode b_Ro_appendNumber 52 = .ok (.getfield 11, 3) := by decide +kernel
theorem d_Ro_appendNumber_55 : decode b_Ro_appendNumber 55 = .ok (.aload_n 0, 1) := by decide +kernel
theorem d_Ro_appendNumber_56 : decode b_Ro_appendNumber 56 = .ok (.getfield 15, 3) := by decide +kernel
theorem d_Ro_appendNumber_59 : decode b_Ro_appendNumber 59 = .ok (.iconst 3, 1) := by decide +kernel
theorem d_Ro_appendNumber_60 : decode b_Ro_appendNumber 60 = .ok (.iadd, 1) := by decide +kernel
theorem d_Ro_appendNumber_61 : decode b_Ro_appendNumber 61 = .ok (.iload_n 1, 1) := by decide +kernel
theorem d_Ro_appendNumber_62 : decode b_Ro_appendNumber 62 = .ok (.i2b, 1) := by decide +kernel
theorem d_Ro_appendNumber_63 : decode b_Ro_appendNumber 63 = .ok (.bastore, 1) := by decide +kernel
theorem d_Ro_appendNumber_64 : decode b_Ro_appendNumber 64 = .ok (.aload_n 0, 1) := by decide +kernel
theorem d_Ro_appendNumber_65 : decode b_Ro_appendNumber 65 = .ok (.dup, 1) := by decide +kernel
theorem d_Ro_appendNumber_66 : decode b_Ro_appendNumber 66 = .ok (.getfield 15, 3) := by decide +kernel
theorem d_Ro_appendNumber_69 : decode b_Ro_appendNumber 69 = .ok (.iconst 4, 1) := by decide +kernel
theorem d_Ro_appendNumber_70 : decode b_Ro_appendNumber 70 = .ok (.iadd, 1) := by decide +kernel
theorem d_Ro_appendNumber_71 : decode b_Ro_appendNumber 71 = .ok (.putfield 15, 3) := by decide +kernel
theorem d_Ro_appendNumber_74 : decode b_Ro_appendNumber 74 = .ok (.return_, 1) := by decide +kernel
theorem d_Ro_append_0 : decode b_Ro_append 0 = .ok (.aload_n 0, 1) := by decide +kernel
theorem d_Ro_append_1 : decode b_Ro_append 1 = .ok (.iload_n 2, 1) := by decide +kernel
theorem d_Ro_append_2 : decode b_Ro_append 2 = .ok (.invokevirtual 20, 3) := by decide +kernel
theorem d_Ro_append_5 : decode b_Ro_append 5 = .ok (.aload_n 1, 1) := by decide +kernel
theorem d_Ro_append_6 : decode b_Ro_append 6 = .ok (.iconst 0, 1) := by decide +kernel
theorem d_Ro_append_7 : decode b_Ro_append 7 = .ok (.aload_n 0, 1) := by decide +kernel
theorem d_Ro_append_8 : decode b_Ro_append 8 = .ok (.getfield 11, 3) := by decide +kernel
theorem d_Ro_append_11 : decode b_Ro_append 11 = .ok (.aload_n 0, 1) := by decide +kernel
theorem d_Ro_append_12 : decode b_Ro_append 12 = .ok (.getfield 15, 3) := by decide +kernel
theorem d_Ro_append_15 : decode b_Ro_append 15 = .ok (.iload_n 2, 1) := by decide +kernel
theorem d_Ro_append_16 : decode b_Ro_append 16 = .ok (.invokestatic 24, 3) := by decide +kernel
theorem d_Ro_append_19 : decode b_Ro_append 19 = .ok (.aload_n 0, 1) := by decide +kernel
theorem d_Ro_append_20 : decode b_Ro_append 20 = .ok (.dup, 1) := by decide +kernel
theorem d_Ro_append_21 : decode b_Ro_append 21 = .ok (.getfield 15, 3) := by decide +kernel
theorem d_Ro_append_24 : decode b_Ro_append 24 = .ok (.iload_n 2, 1) := by decide +kernel
theorem d_Ro_append_25 : decode b_Ro_append 25 = .ok (.iadd, 1) := by decide +kernel
theorem d_Ro_append_26 : decode b_Ro_append 26 = .ok (.putfield 15, 3) := by decide +kernel
theorem d_Ro_append_29 : decode b_Ro_append 29 = .ok (.return_, 1) := by decide +kernel
