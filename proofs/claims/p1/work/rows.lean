section
-- ===== PART A: goes FIRST, ahead of the names: the tables' words, and 'selects' of the private methods out of them =====
/-- a private method of a class that the tables say can be made, by its rows of tables_1 -/
def lw_okq (q : MethodName × Nat) : Prop := (q.1.cls ≠ "java/lang/invoke/MethodHandle" ∧ q.1.cls ≠ "java/lang/invoke/VarHandle") ∧ Cond.instantiable q.1.cls q.2 ∈ tables_1 ∧ Cond.privateMethod q.1 ∈ tables_1 ∧ Cond.instanceMethod q.1 ∈ tables_1
theorem lw_p0 : lw_okq (⟨"CurveKeys$Edwards", "fillMultiples", "([LCurveKeys$Addend;LCurveKeys$Point;)V"⟩, 15) := ⟨⟨by decide +kernel, by decide +kernel⟩, List.mem_of_getElem? (i := 117) (by decide +kernel), List.mem_of_getElem? (i := 204) (by decide +kernel), List.mem_of_getElem? (i := 205) (by decide +kernel)⟩
theorem lw_p1 : lw_okq (⟨"CurveKeys$Edwards", "add", "(LCurveKeys$Point;LCurveKeys$Addend;)V"⟩, 15) := ⟨⟨by decide +kernel, by decide +kernel⟩, List.mem_of_getElem? (i := 117) (by decide +kernel), List.mem_of_getElem? (i := 221) (by decide +kernel), List.mem_of_getElem? (i := 222) (by decide +kernel)⟩
theorem lw_p2 : lw_okq (⟨"CurveKeys$Edwards", "join", "(LCurveKeys$Point;)V"⟩, 15) := ⟨⟨by decide +kernel, by decide +kernel⟩, List.mem_of_getElem? (i := 117) (by decide +kernel), List.mem_of_getElem? (i := 228) (by decide +kernel), List.mem_of_getElem? (i := 229) (by decide +kernel)⟩
theorem lw_p3 : lw_okq (⟨"java/lang/Throwable", "fillInStackTrace", "(I)Ljava/lang/Throwable;"⟩, 6) := ⟨⟨by decide +kernel, by decide +kernel⟩, List.mem_of_getElem? (i := 459) (by decide +kernel), List.mem_of_getElem? (i := 457) (by decide +kernel), List.mem_of_getElem? (i := 458) (by decide +kernel)⟩
theorem lw_p4 : lw_okq (⟨"CurveKeys$Row", "growBy", "(I)V"⟩, 2) := ⟨⟨by decide +kernel, by decide +kernel⟩, List.mem_of_getElem? (i := 344) (by decide +kernel), List.mem_of_getElem? (i := 492) (by decide +kernel), List.mem_of_getElem? (i := 493) (by decide +kernel)⟩
theorem lw_p5 : lw_okq (⟨"CurveKeys", "requireTape", "(I)V"⟩, 12) := ⟨⟨by decide +kernel, by decide +kernel⟩, List.mem_of_getElem? (i := 33) (by decide +kernel), List.mem_of_getElem? (i := 541) (by decide +kernel), List.mem_of_getElem? (i := 542) (by decide +kernel)⟩
theorem lw_p6 : lw_okq (⟨"CurveKeys", "existingKey", "(I)LCurveKeys$Key;"⟩, 12) := ⟨⟨by decide +kernel, by decide +kernel⟩, List.mem_of_getElem? (i := 33) (by decide +kernel), List.mem_of_getElem? (i := 583) (by decide +kernel), List.mem_of_getElem? (i := 584) (by decide +kernel)⟩
theorem lw_p7 : lw_okq (⟨"CurveKeys$Ladder", "climb", "()V"⟩, 12) := ⟨⟨by decide +kernel, by decide +kernel⟩, List.mem_of_getElem? (i := 72) (by decide +kernel), List.mem_of_getElem? (i := 625) (by decide +kernel), List.mem_of_getElem? (i := 626) (by decide +kernel)⟩
theorem lw_p8 : lw_okq (⟨"CurveKeys$Ladder", "step", "([J[J[J[J)V"⟩, 12) := ⟨⟨by decide +kernel, by decide +kernel⟩, List.mem_of_getElem? (i := 72) (by decide +kernel), List.mem_of_getElem? (i := 631) (by decide +kernel), List.mem_of_getElem? (i := 632) (by decide +kernel)⟩
theorem lw_p9 : lw_okq (⟨"CurveKeys$Field", "raiseToOnes", "([J)V"⟩, 7) := ⟨⟨by decide +kernel, by decide +kernel⟩, List.mem_of_getElem? (i := 41) (by decide +kernel), List.mem_of_getElem? (i := 649) (by decide +kernel), List.mem_of_getElem? (i := 650) (by decide +kernel)⟩
theorem lw_p10 : lw_okq (⟨"CurveKeys$Field", "stretch", "([J[JI[J)V"⟩, 7) := ⟨⟨by decide +kernel, by decide +kernel⟩, List.mem_of_getElem? (i := 41) (by decide +kernel), List.mem_of_getElem? (i := 654) (by decide +kernel), List.mem_of_getElem? (i := 655) (by decide +kernel)⟩
theorem lw_p11 : lw_okq (⟨"CurveKeys$Field", "settle", "([J)V"⟩, 7) := ⟨⟨by decide +kernel, by decide +kernel⟩, List.mem_of_getElem? (i := 41) (by decide +kernel), List.mem_of_getElem? (i := 664) (by decide +kernel), List.mem_of_getElem? (i := 665) (by decide +kernel)⟩
theorem lw_p12 : lw_okq (⟨"CurveKeys$Hash", "mix", "()V"⟩, 5) := ⟨⟨by decide +kernel, by decide +kernel⟩, List.mem_of_getElem? (i := 284) (by decide +kernel), List.mem_of_getElem? (i := 683) (by decide +kernel), List.mem_of_getElem? (i := 684) (by decide +kernel)⟩
theorem lw_p13 : lw_okq (⟨"CurveKeys$Hash", "spreadWords", "()V"⟩, 5) := ⟨⟨by decide +kernel, by decide +kernel⟩, List.mem_of_getElem? (i := 284) (by decide +kernel), List.mem_of_getElem? (i := 687) (by decide +kernel), List.mem_of_getElem? (i := 688) (by decide +kernel)⟩
theorem lw_p14 : lw_okq (⟨"CurveKeys$Edwards", "addUp", "([B[B)V"⟩, 15) := ⟨⟨by decide +kernel, by decide +kernel⟩, List.mem_of_getElem? (i := 117) (by decide +kernel), List.mem_of_getElem? (i := 966) (by decide +kernel), List.mem_of_getElem? (i := 967) (by decide +kernel)⟩
theorem lw_p15 : lw_okq (⟨"CurveKeys$Edwards", "twice", "(LCurveKeys$Point;)V"⟩, 15) := ⟨⟨by decide +kernel, by decide +kernel⟩, List.mem_of_getElem? (i := 117) (by decide +kernel), List.mem_of_getElem? (i := 974) (by decide +kernel), List.mem_of_getElem? (i := 975) (by decide +kernel)⟩
def lw_privs_1 : List (MethodName × Nat) := [(⟨"CurveKeys$Edwards", "fillMultiples", "([LCurveKeys$Addend;LCurveKeys$Point;)V"⟩, 15), (⟨"CurveKeys$Edwards", "add", "(LCurveKeys$Point;LCurveKeys$Addend;)V"⟩, 15), (⟨"CurveKeys$Edwards", "join", "(LCurveKeys$Point;)V"⟩, 15), (⟨"java/lang/Throwable", "fillInStackTrace", "(I)Ljava/lang/Throwable;"⟩, 6), (⟨"CurveKeys$Row", "growBy", "(I)V"⟩, 2), (⟨"CurveKeys", "requireTape", "(I)V"⟩, 12), (⟨"CurveKeys", "existingKey", "(I)LCurveKeys$Key;"⟩, 12), (⟨"CurveKeys$Ladder", "climb", "()V"⟩, 12), (⟨"CurveKeys$Ladder", "step", "([J[J[J[J)V"⟩, 12), (⟨"CurveKeys$Field", "raiseToOnes", "([J)V"⟩, 7), (⟨"CurveKeys$Field", "stretch", "([J[JI[J)V"⟩, 7), (⟨"CurveKeys$Field", "settle", "([J)V"⟩, 7), (⟨"CurveKeys$Hash", "mix", "()V"⟩, 5), (⟨"CurveKeys$Hash", "spreadWords", "()V"⟩, 5), (⟨"CurveKeys$Edwards", "addUp", "([B[B)V"⟩, 15), (⟨"CurveKeys$Edwards", "twice", "(LCurveKeys$Point;)V"⟩, 15)]
theorem lw_r1 : ∀ q ∈ lw_privs_1, lw_okq q := List.forall_mem_cons.mpr ⟨lw_p0, List.forall_mem_cons.mpr ⟨lw_p1, List.forall_mem_cons.mpr ⟨lw_p2, List.forall_mem_cons.mpr ⟨lw_p3, List.forall_mem_cons.mpr ⟨lw_p4, List.forall_mem_cons.mpr ⟨lw_p5, List.forall_mem_cons.mpr ⟨lw_p6, List.forall_mem_cons.mpr ⟨lw_p7, List.forall_mem_cons.mpr ⟨lw_p8, List.forall_mem_cons.mpr ⟨lw_p9, List.forall_mem_cons.mpr ⟨lw_p10, List.forall_mem_cons.mpr ⟨lw_p11, List.forall_mem_cons.mpr ⟨lw_p12, List.forall_mem_cons.mpr ⟨lw_p13, List.forall_mem_cons.mpr ⟨lw_p14, List.forall_mem_cons.mpr ⟨lw_p15, fun _ h => absurd h List.not_mem_nil⟩⟩⟩⟩⟩⟩⟩⟩⟩⟩⟩⟩⟩⟩⟩⟩
theorem lw_p16 : lw_okq (⟨"CurveKeys$Order", "reduceWide", "([B)V"⟩, 1) := ⟨⟨by decide +kernel, by decide +kernel⟩, List.mem_of_getElem? (i := 306) (by decide +kernel), List.mem_of_getElem? (i := 1014) (by decide +kernel), List.mem_of_getElem? (i := 1015) (by decide +kernel)⟩
theorem lw_p17 : lw_okq (⟨"CurveKeys$Order", "foldPlace", "(I)V"⟩, 1) := ⟨⟨by decide +kernel, by decide +kernel⟩, List.mem_of_getElem? (i := 306) (by decide +kernel), List.mem_of_getElem? (i := 1018) (by decide +kernel), List.mem_of_getElem? (i := 1019) (by decide +kernel)⟩
theorem lw_p18 : lw_okq (⟨"CurveKeys$Order", "subtractMultiple", "(J)V"⟩, 1) := ⟨⟨by decide +kernel, by decide +kernel⟩, List.mem_of_getElem? (i := 306) (by decide +kernel), List.mem_of_getElem? (i := 1026) (by decide +kernel), List.mem_of_getElem? (i := 1027) (by decide +kernel)⟩
theorem lw_p19 : lw_okq (⟨"CurveKeys$Signatures", "hashChallenge", "([BLCurveKeys$Row;)V"⟩, 9) := ⟨⟨by decide +kernel, by decide +kernel⟩, List.mem_of_getElem? (i := 278) (by decide +kernel), List.mem_of_getElem? (i := 1032) (by decide +kernel), List.mem_of_getElem? (i := 1033) (by decide +kernel)⟩
theorem lw_p20 : lw_okq (⟨"CurveKeys$Edwards", "isBelowPrime", "([B)Z"⟩, 15) := ⟨⟨by decide +kernel, by decide +kernel⟩, List.mem_of_getElem? (i := 117) (by decide +kernel), List.mem_of_getElem? (i := 1060) (by decide +kernel), List.mem_of_getElem? (i := 1061) (by decide +kernel)⟩
theorem lw_p21 : lw_okq (⟨"CurveKeys$Edwards", "setRatio", "()V"⟩, 15) := ⟨⟨by decide +kernel, by decide +kernel⟩, List.mem_of_getElem? (i := 117) (by decide +kernel), List.mem_of_getElem? (i := 1067) (by decide +kernel), List.mem_of_getElem? (i := 1068) (by decide +kernel)⟩
theorem lw_p22 : lw_okq (⟨"CurveKeys$Edwards", "mendRoot", "()Z"⟩, 15) := ⟨⟨by decide +kernel, by decide +kernel⟩, List.mem_of_getElem? (i := 117) (by decide +kernel), List.mem_of_getElem? (i := 1078) (by decide +kernel), List.mem_of_getElem? (i := 1079) (by decide +kernel)⟩
theorem lw_p23 : lw_okq (⟨"CurveKeys$Edwards", "isMultipleOfPrime", "([J)Z"⟩, 15) := ⟨⟨by decide +kernel, by decide +kernel⟩, List.mem_of_getElem? (i := 117) (by decide +kernel), List.mem_of_getElem? (i := 1082) (by decide +kernel), List.mem_of_getElem? (i := 1083) (by decide +kernel)⟩
theorem lw_p24 : lw_okq (⟨"CurveKeys$Edwards", "takeSign", "(I)Z"⟩, 15) := ⟨⟨by decide +kernel, by decide +kernel⟩, List.mem_of_getElem? (i := 117) (by decide +kernel), List.mem_of_getElem? (i := 1089) (by decide +kernel), List.mem_of_getElem? (i := 1090) (by decide +kernel)⟩
theorem lw_p25 : lw_okq (⟨"CurveKeysModel", "constants", "()V"⟩, 53) := ⟨⟨by decide +kernel, by decide +kernel⟩, List.mem_of_getElem? (i := 1157) (by decide +kernel), List.mem_of_getElem? (i := 1169) (by decide +kernel), List.mem_of_getElem? (i := 1170) (by decide +kernel)⟩
theorem lw_p26 : lw_okq (⟨"CurveKeysModel", "root", "(II)J"⟩, 53) := ⟨⟨by decide +kernel, by decide +kernel⟩, List.mem_of_getElem? (i := 1157) (by decide +kernel), List.mem_of_getElem? (i := 1176) (by decide +kernel), List.mem_of_getElem? (i := 1177) (by decide +kernel)⟩
theorem lw_p27 : lw_okq (⟨"CurveKeysModel", "fits", "(JJII)Z"⟩, 53) := ⟨⟨by decide +kernel, by decide +kernel⟩, List.mem_of_getElem? (i := 1157) (by decide +kernel), List.mem_of_getElem? (i := 1180) (by decide +kernel), List.mem_of_getElem? (i := 1181) (by decide +kernel)⟩
theorem lw_p28 : lw_okq (⟨"CurveKeysModel", "raise", "(JJ)V"⟩, 53) := ⟨⟨by decide +kernel, by decide +kernel⟩, List.mem_of_getElem? (i := 1157) (by decide +kernel), List.mem_of_getElem? (i := 1184) (by decide +kernel), List.mem_of_getElem? (i := 1185) (by decide +kernel)⟩
theorem lw_p29 : lw_okq (⟨"CurveKeysModel", "inverse", "([J[J[J)V"⟩, 53) := ⟨⟨by decide +kernel, by decide +kernel⟩, List.mem_of_getElem? (i := 1157) (by decide +kernel), List.mem_of_getElem? (i := 1210) (by decide +kernel), List.mem_of_getElem? (i := 1211) (by decide +kernel)⟩
theorem lw_p30 : lw_okq (⟨"CurveKeysModel", "times", "([J[J[J[J[J)V"⟩, 53) := ⟨⟨by decide +kernel, by decide +kernel⟩, List.mem_of_getElem? (i := 1157) (by decide +kernel), List.mem_of_getElem? (i := 1232) (by decide +kernel), List.mem_of_getElem? (i := 1233) (by decide +kernel)⟩
theorem lw_p31 : lw_okq (⟨"CurveKeysModel", "reduce", "([J[J[J)V"⟩, 53) := ⟨⟨by decide +kernel, by decide +kernel⟩, List.mem_of_getElem? (i := 1157) (by decide +kernel), List.mem_of_getElem? (i := 1236) (by decide +kernel), List.mem_of_getElem? (i := 1237) (by decide +kernel)⟩
def lw_privs_2 : List (MethodName × Nat) := [(⟨"CurveKeys$Order", "reduceWide", "([B)V"⟩, 1), (⟨"CurveKeys$Order", "foldPlace", "(I)V"⟩, 1), (⟨"CurveKeys$Order", "subtractMultiple", "(J)V"⟩, 1), (⟨"CurveKeys$Signatures", "hashChallenge", "([BLCurveKeys$Row;)V"⟩, 9), (⟨"CurveKeys$Edwards", "isBelowPrime", "([B)Z"⟩, 15), (⟨"CurveKeys$Edwards", "setRatio", "()V"⟩, 15), (⟨"CurveKeys$Edwards", "mendRoot", "()Z"⟩, 15), (⟨"CurveKeys$Edwards", "isMultipleOfPrime", "([J)Z"⟩, 15), (⟨"CurveKeys$Edwards", "takeSign", "(I)Z"⟩, 15), (⟨"CurveKeysModel", "constants", "()V"⟩, 53), (⟨"CurveKeysModel", "root", "(II)J"⟩, 53), (⟨"CurveKeysModel", "fits", "(JJII)Z"⟩, 53), (⟨"CurveKeysModel", "raise", "(JJ)V"⟩, 53), (⟨"CurveKeysModel", "inverse", "([J[J[J)V"⟩, 53), (⟨"CurveKeysModel", "times", "([J[J[J[J[J)V"⟩, 53), (⟨"CurveKeysModel", "reduce", "([J[J[J)V"⟩, 53)]
theorem lw_r2 : ∀ q ∈ lw_privs_2, lw_okq q := List.forall_mem_cons.mpr ⟨lw_p16, List.forall_mem_cons.mpr ⟨lw_p17, List.forall_mem_cons.mpr ⟨lw_p18, List.forall_mem_cons.mpr ⟨lw_p19, List.forall_mem_cons.mpr ⟨lw_p20, List.forall_mem_cons.mpr ⟨lw_p21, List.forall_mem_cons.mpr ⟨lw_p22, List.forall_mem_cons.mpr ⟨lw_p23, List.forall_mem_cons.mpr ⟨lw_p24, List.forall_mem_cons.mpr ⟨lw_p25, List.forall_mem_cons.mpr ⟨lw_p26, List.forall_mem_cons.mpr ⟨lw_p27, List.forall_mem_cons.mpr ⟨lw_p28, List.forall_mem_cons.mpr ⟨lw_p29, List.forall_mem_cons.mpr ⟨lw_p30, List.forall_mem_cons.mpr ⟨lw_p31, fun _ h => absurd h List.not_mem_nil⟩⟩⟩⟩⟩⟩⟩⟩⟩⟩⟩⟩⟩⟩⟩⟩
theorem lw_p32 : lw_okq (⟨"CurveKeysModel", "power", "([J[J[J)V"⟩, 53) := ⟨⟨by decide +kernel, by decide +kernel⟩, List.mem_of_getElem? (i := 1157) (by decide +kernel), List.mem_of_getElem? (i := 1242) (by decide +kernel), List.mem_of_getElem? (i := 1243) (by decide +kernel)⟩
theorem lw_p33 : lw_okq (⟨"CurveKeysModel", "decode", "()Z"⟩, 53) := ⟨⟨by decide +kernel, by decide +kernel⟩, List.mem_of_getElem? (i := 1157) (by decide +kernel), List.mem_of_getElem? (i := 1249) (by decide +kernel), List.mem_of_getElem? (i := 1250) (by decide +kernel)⟩
theorem lw_p34 : lw_okq (⟨"CurveKeysModel", "fail", "(I)I"⟩, 53) := ⟨⟨by decide +kernel, by decide +kernel⟩, List.mem_of_getElem? (i := 1157) (by decide +kernel), List.mem_of_getElem? (i := 1427) (by decide +kernel), List.mem_of_getElem? (i := 1428) (by decide +kernel)⟩
theorem lw_p35 : lw_okq (⟨"CurveKeysModel", "none", "(I)Z"⟩, 53) := ⟨⟨by decide +kernel, by decide +kernel⟩, List.mem_of_getElem? (i := 1157) (by decide +kernel), List.mem_of_getElem? (i := 1443) (by decide +kernel), List.mem_of_getElem? (i := 1444) (by decide +kernel)⟩
theorem lw_p36 : lw_okq (⟨"CurveKeysModel", "opened", "(I)V"⟩, 53) := ⟨⟨by decide +kernel, by decide +kernel⟩, List.mem_of_getElem? (i := 1157) (by decide +kernel), List.mem_of_getElem? (i := 1447) (by decide +kernel), List.mem_of_getElem? (i := 1448) (by decide +kernel)⟩
theorem lw_p37 : lw_okq (⟨"CurveKeysModel", "hash", "([BI)V"⟩, 53) := ⟨⟨by decide +kernel, by decide +kernel⟩, List.mem_of_getElem? (i := 1157) (by decide +kernel), List.mem_of_getElem? (i := 1451) (by decide +kernel), List.mem_of_getElem? (i := 1452) (by decide +kernel)⟩
theorem lw_p38 : lw_okq (⟨"CurveKeysModel", "over", "()V"⟩, 53) := ⟨⟨by decide +kernel, by decide +kernel⟩, List.mem_of_getElem? (i := 1157) (by decide +kernel), List.mem_of_getElem? (i := 1459) (by decide +kernel), List.mem_of_getElem? (i := 1460) (by decide +kernel)⟩
theorem lw_p39 : lw_okq (⟨"CurveKeysModel", "clamped", "([J[BI)V"⟩, 53) := ⟨⟨by decide +kernel, by decide +kernel⟩, List.mem_of_getElem? (i := 1157) (by decide +kernel), List.mem_of_getElem? (i := 1467) (by decide +kernel), List.mem_of_getElem? (i := 1468) (by decide +kernel)⟩
theorem lw_p40 : lw_okq (⟨"CurveKeysModel", "fromBase", "([J)V"⟩, 53) := ⟨⟨by decide +kernel, by decide +kernel⟩, List.mem_of_getElem? (i := 1157) (by decide +kernel), List.mem_of_getElem? (i := 1473) (by decide +kernel), List.mem_of_getElem? (i := 1474) (by decide +kernel)⟩
theorem lw_p41 : lw_okq (⟨"CurveKeysModel", "multiply", "([J)V"⟩, 53) := ⟨⟨by decide +kernel, by decide +kernel⟩, List.mem_of_getElem? (i := 1157) (by decide +kernel), List.mem_of_getElem? (i := 1477) (by decide +kernel), List.mem_of_getElem? (i := 1478) (by decide +kernel)⟩
theorem lw_p42 : lw_okq (⟨"CurveKeysModel", "add", "([J[J[J[J)V"⟩, 53) := ⟨⟨by decide +kernel, by decide +kernel⟩, List.mem_of_getElem? (i := 1157) (by decide +kernel), List.mem_of_getElem? (i := 1481) (by decide +kernel), List.mem_of_getElem? (i := 1482) (by decide +kernel)⟩
theorem lw_p43 : lw_okq (⟨"CurveKeysModel", "encode", "([B[J[J)V"⟩, 53) := ⟨⟨by decide +kernel, by decide +kernel⟩, List.mem_of_getElem? (i := 1157) (by decide +kernel), List.mem_of_getElem? (i := 1485) (by decide +kernel), List.mem_of_getElem? (i := 1486) (by decide +kernel)⟩
theorem lw_p44 : lw_okq (⟨"CurveKeysModel", "tell", "([BII)V"⟩, 53) := ⟨⟨by decide +kernel, by decide +kernel⟩, List.mem_of_getElem? (i := 1157) (by decide +kernel), List.mem_of_getElem? (i := 1489) (by decide +kernel), List.mem_of_getElem? (i := 1490) (by decide +kernel)⟩
theorem lw_p45 : lw_okq (⟨"CurveKeysModel", "ladder", "()V"⟩, 53) := ⟨⟨by decide +kernel, by decide +kernel⟩, List.mem_of_getElem? (i := 1157) (by decide +kernel), List.mem_of_getElem? (i := 1493) (by decide +kernel), List.mem_of_getElem? (i := 1494) (by decide +kernel)⟩
theorem lw_p46 : lw_okq (⟨"CurveKeysModel", "step", "([J[J[J[J)V"⟩, 53) := ⟨⟨by decide +kernel, by decide +kernel⟩, List.mem_of_getElem? (i := 1157) (by decide +kernel), List.mem_of_getElem? (i := 1497) (by decide +kernel), List.mem_of_getElem? (i := 1498) (by decide +kernel)⟩
theorem lw_p47 : lw_okq (⟨"CurveKeysModel", "hashMessage", "(I)V"⟩, 53) := ⟨⟨by decide +kernel, by decide +kernel⟩, List.mem_of_getElem? (i := 1157) (by decide +kernel), List.mem_of_getElem? (i := 1513) (by decide +kernel), List.mem_of_getElem? (i := 1514) (by decide +kernel)⟩
def lw_privs_3 : List (MethodName × Nat) := [(⟨"CurveKeysModel", "power", "([J[J[J)V"⟩, 53), (⟨"CurveKeysModel", "decode", "()Z"⟩, 53), (⟨"CurveKeysModel", "fail", "(I)I"⟩, 53), (⟨"CurveKeysModel", "none", "(I)Z"⟩, 53), (⟨"CurveKeysModel", "opened", "(I)V"⟩, 53), (⟨"CurveKeysModel", "hash", "([BI)V"⟩, 53), (⟨"CurveKeysModel", "over", "()V"⟩, 53), (⟨"CurveKeysModel", "clamped", "([J[BI)V"⟩, 53), (⟨"CurveKeysModel", "fromBase", "([J)V"⟩, 53), (⟨"CurveKeysModel", "multiply", "([J)V"⟩, 53), (⟨"CurveKeysModel", "add", "([J[J[J[J)V"⟩, 53), (⟨"CurveKeysModel", "encode", "([B[J[J)V"⟩, 53), (⟨"CurveKeysModel", "tell", "([BII)V"⟩, 53), (⟨"CurveKeysModel", "ladder", "()V"⟩, 53), (⟨"CurveKeysModel", "step", "([J[J[J[J)V"⟩, 53), (⟨"CurveKeysModel", "hashMessage", "(I)V"⟩, 53)]
theorem lw_r3 : ∀ q ∈ lw_privs_3, lw_okq q := List.forall_mem_cons.mpr ⟨lw_p32, List.forall_mem_cons.mpr ⟨lw_p33, List.forall_mem_cons.mpr ⟨lw_p34, List.forall_mem_cons.mpr ⟨lw_p35, List.forall_mem_cons.mpr ⟨lw_p36, List.forall_mem_cons.mpr ⟨lw_p37, List.forall_mem_cons.mpr ⟨lw_p38, List.forall_mem_cons.mpr ⟨lw_p39, List.forall_mem_cons.mpr ⟨lw_p40, List.forall_mem_cons.mpr ⟨lw_p41, List.forall_mem_cons.mpr ⟨lw_p42, List.forall_mem_cons.mpr ⟨lw_p43, List.forall_mem_cons.mpr ⟨lw_p44, List.forall_mem_cons.mpr ⟨lw_p45, List.forall_mem_cons.mpr ⟨lw_p46, List.forall_mem_cons.mpr ⟨lw_p47, fun _ h => absurd h List.not_mem_nil⟩⟩⟩⟩⟩⟩⟩⟩⟩⟩⟩⟩⟩⟩⟩⟩
theorem lw_p48 : lw_okq (⟨"CurveKeysModel", "hashNumber", "([J)V"⟩, 53) := ⟨⟨by decide +kernel, by decide +kernel⟩, List.mem_of_getElem? (i := 1157) (by decide +kernel), List.mem_of_getElem? (i := 1517) (by decide +kernel), List.mem_of_getElem? (i := 1518) (by decide +kernel)⟩
theorem lw_p49 : lw_okq (⟨"CurveKeysModel", "verified", "()I"⟩, 53) := ⟨⟨by decide +kernel, by decide +kernel⟩, List.mem_of_getElem? (i := 1157) (by decide +kernel), List.mem_of_getElem? (i := 1525) (by decide +kernel), List.mem_of_getElem? (i := 1526) (by decide +kernel)⟩
def lw_privs_4 : List (MethodName × Nat) := [(⟨"CurveKeysModel", "hashNumber", "([J)V"⟩, 53), (⟨"CurveKeysModel", "verified", "()I"⟩, 53)]
theorem lw_r4 : ∀ q ∈ lw_privs_4, lw_okq q := List.forall_mem_cons.mpr ⟨lw_p48, List.forall_mem_cons.mpr ⟨lw_p49, fun _ h => absurd h List.not_mem_nil⟩⟩
def lw_privs : List (MethodName × Nat) := lw_privs_1 ++ (lw_privs_2 ++ (lw_privs_3 ++ (lw_privs_4)))
def lw_tbl : List Cond := k2_sels lw_privs ++ tables_1
theorem lw_privs_ok : ∀ q ∈ lw_privs, lw_okq q := by
  show ∀ q ∈ lw_privs_1 ++ (lw_privs_2 ++ (lw_privs_3 ++ (lw_privs_4))), lw_okq q
  exact List.forall_mem_append.mpr ⟨lw_r1, List.forall_mem_append.mpr ⟨lw_r2, List.forall_mem_append.mpr ⟨lw_r3, lw_r4⟩⟩⟩
end
section
def R_M : String := "CurveKeysModel"
def F_M : u_T := fun k => match k with
  | 0 => ("CurveKeysModel", "thrown", "I", false)
  | 1 => ("CurveKeysModel", "tape", "[B", true)
  | 2 => ("CurveKeysModel", "message", "[B", true)
  | 3 => ("CurveKeysModel", "result", "[B", true)
  | 4 => ("CurveKeysModel", "keys", "[B", true)
  | 5 => ("CurveKeysModel", "tapes", "I", false)
  | 6 => ("CurveKeysModel", "messages", "I", false)
  | 7 => ("CurveKeysModel", "results", "I", false)
  | 8 => ("CurveKeysModel", "keyCount", "I", false)
  | 9 => ("CurveKeysModel", "told", "[I", true)
  | 10 => ("CurveKeysModel", "p", "[J", true)
  | 11 => ("CurveKeysModel", "pt", "[J", true)
  | 12 => ("CurveKeysModel", "order", "[J", true)
  | 13 => ("CurveKeysModel", "ot", "[J", true)
  | 14 => ("CurveKeysModel", "d", "[J", true)
  | 15 => ("CurveKeysModel", "root", "[J", true)
  | 16 => ("CurveKeysModel", "baseX", "[J", true)
  | 17 => ("CurveKeysModel", "baseY", "[J", true)
  | 18 => ("CurveKeysModel", "px", "[J", true)
  | 19 => ("CurveKeysModel", "py", "[J", true)
  | 20 => ("CurveKeysModel", "qx", "[J", true)
  | 21 => ("CurveKeysModel", "qy", "[J", true)
  | 22 => ("CurveKeysModel", "rx", "[J", true)
  | 23 => ("CurveKeysModel", "ry", "[J", true)
  | 24 => ("CurveKeysModel", "a", "[J", true)
  | 25 => ("CurveKeysModel", "b", "[J", true)
  | 26 => ("CurveKeysModel", "c", "[J", true)
  | 27 => ("CurveKeysModel", "e", "[J", true)
  | 28 => ("CurveKeysModel", "f", "[J", true)
  | 29 => ("CurveKeysModel", "g", "[J", true)
  | 30 => ("CurveKeysModel", "one", "[J", true)
  | 31 => ("CurveKeysModel", "scalar", "[J", true)
  | 32 => ("CurveKeysModel", "secret", "[J", true)
  | 33 => ("CurveKeysModel", "number", "[J", true)
  | 34 => ("CurveKeysModel", "ten", "[J", true)
  | 35 => ("CurveKeysModel", "row", "[B", true)
  | 36 => ("CurveKeysModel", "open", "[B", true)
  | 37 => ("CurveKeysModel", "first", "[B", true)
  | 38 => ("CurveKeysModel", "work", "[B", true)
  | 39 => ("CurveKeysModel", "low", "[I", true)
  | 40 => ("CurveKeysModel", "product", "[J", true)
  | 41 => ("CurveKeysModel", "sum", "[J", true)
  | 42 => ("CurveKeysModel", "u", "[J", true)
  | 43 => ("CurveKeysModel", "v", "[J", true)
  | 44 => ("CurveKeysModel", "x1", "[J", true)
  | 45 => ("CurveKeysModel", "x2", "[J", true)
  | 46 => ("CurveKeysModel", "roots", "[J", true)
  | 47 => ("CurveKeysModel", "starts", "[J", true)
  | 48 => ("CurveKeysModel", "words", "[J", true)
  | 49 => ("CurveKeysModel", "state", "[J", true)
  | 50 => ("CurveKeysModel", "left", "[J", true)
  | 51 => ("CurveKeysModel", "cube", "[J", true)
  | _ => ("CurveKeysModel", "hashed", "[B", true)
def t_M : Nat → FieldType := fun k => match k with
  | 0 => .int
  | 1 => .array .byte
  | 2 => .array .byte
  | 3 => .array .byte
  | 4 => .array .byte
  | 5 => .int
  | 6 => .int
  | 7 => .int
  | 8 => .int
  | 9 => .array .int
  | 10 => .array .long
  | 11 => .array .long
  | 12 => .array .long
  | 13 => .array .long
  | 14 => .array .long
  | 15 => .array .long
  | 16 => .array .long
  | 17 => .array .long
  | 18 => .array .long
  | 19 => .array .long
  | 20 => .array .long
  | 21 => .array .long
  | 22 => .array .long
  | 23 => .array .long
  | 24 => .array .long
  | 25 => .array .long
  | 26 => .array .long
  | 27 => .array .long
  | 28 => .array .long
  | 29 => .array .long
  | 30 => .array .long
  | 31 => .array .long
  | 32 => .array .long
  | 33 => .array .long
  | 34 => .array .long
  | 35 => .array .byte
  | 36 => .array .byte
  | 37 => .array .byte
  | 38 => .array .byte
  | 39 => .array .int
  | 40 => .array .long
  | 41 => .array .long
  | 42 => .array .long
  | 43 => .array .long
  | 44 => .array .long
  | 45 => .array .long
  | 46 => .array .long
  | 47 => .array .long
  | 48 => .array .long
  | 49 => .array .long
  | 50 => .array .long
  | 51 => .array .long
  | _ => .array .byte
theorem n_M : ∀ a, a < 53 → ∀ b, b < 53 → a ≠ b → (F_M a).2.1 ≠ (F_M b).2.1 := by decide +kernel
theorem tok_M : ∀ k, k < 53 → parseFieldDescriptor (F_M k).2.2.1 = some (t_M k) := by decide +kernel
def R_K : String := "CurveKeys"
def F_K : u_T := fun k => match k with
  | 0 => ("CurveKeys", "keys", "[LCurveKeys$Key;", true)
  | 1 => ("CurveKeys", "result", "[B", true)
  | 2 => ("CurveKeys", "verdicts", "[I", true)
  | 3 => ("CurveKeys", "ladder", "LCurveKeys$Ladder;", true)
  | 4 => ("CurveKeys", "edwards", "LCurveKeys$Edwards;", true)
  | 5 => ("CurveKeys", "signatures", "LCurveKeys$Signatures;", true)
  | 6 => ("CurveKeys", "tape", "LCurveKeys$Row;", false)
  | 7 => ("CurveKeys", "message", "LCurveKeys$Row;", false)
  | 8 => ("CurveKeys", "keyCount", "I", false)
  | 9 => ("CurveKeys", "resultLength", "I", false)
  | 10 => ("CurveKeys", "signed", "I", false)
  | _ => ("CurveKeys", "zeroAgreements", "I", false)
def t_K : Nat → FieldType := fun k => match k with
  | 0 => .array (.object "CurveKeys$Key")
  | 1 => .array .byte
  | 2 => .array .int
  | 3 => .object "CurveKeys$Ladder"
  | 4 => .object "CurveKeys$Edwards"
  | 5 => .object "CurveKeys$Signatures"
  | 6 => .object "CurveKeys$Row"
  | 7 => .object "CurveKeys$Row"
  | 8 => .int
  | 9 => .int
  | 10 => .int
  | _ => .int
theorem n_K : ∀ a, a < 12 → ∀ b, b < 12 → a ≠ b → (F_K a).2.1 ≠ (F_K b).2.1 := by decide +kernel
theorem tok_K : ∀ k, k < 12 → parseFieldDescriptor (F_K k).2.2.1 = some (t_K k) := by decide +kernel
def R_F : String := "CurveKeys$Field"
def F_F : u_T := fun k => match k with
  | 0 => ("CurveKeys$Field", "eleven", "[J", true)
  | 1 => ("CurveKeys$Field", "ten", "[J", true)
  | 2 => ("CurveKeys$Field", "fifty", "[J", true)
  | 3 => ("CurveKeys$Field", "ones", "[J", true)
  | 4 => ("CurveKeys$Field", "first", "[J", true)
  | 5 => ("CurveKeys$Field", "second", "[J", true)
  | _ => ("CurveKeys$Field", "spare", "[J", true)
def t_F : Nat → FieldType := fun k => match k with
  | 0 => .array .long
  | 1 => .array .long
  | 2 => .array .long
  | 3 => .array .long
  | 4 => .array .long
  | 5 => .array .long
  | _ => .array .long
theorem n_F : ∀ a, a < 7 → ∀ b, b < 7 → a ≠ b → (F_F a).2.1 ≠ (F_F b).2.1 := by decide +kernel
theorem tok_F : ∀ k, k < 7 → parseFieldDescriptor (F_F k).2.2.1 = some (t_F k) := by decide +kernel
def R_La : String := "CurveKeys$Ladder"
def F_La : u_T := fun k => match k with
  | 0 => ("CurveKeys$Ladder", "field", "LCurveKeys$Field;", true)
  | 1 => ("CurveKeys$Ladder", "scalar", "[B", true)
  | 2 => ("CurveKeys$Ladder", "nine", "[B", true)
  | 3 => ("CurveKeys$Ladder", "u", "[J", true)
  | 4 => ("CurveKeys$Ladder", "lowX", "[J", true)
  | 5 => ("CurveKeys$Ladder", "lowZ", "[J", true)
  | 6 => ("CurveKeys$Ladder", "highX", "[J", true)
  | 7 => ("CurveKeys$Ladder", "highZ", "[J", true)
  | 8 => ("CurveKeys$Ladder", "a", "[J", true)
  | 9 => ("CurveKeys$Ladder", "b", "[J", true)
  | 10 => ("CurveKeys$Ladder", "c", "[J", true)
  | _ => ("CurveKeys$Ladder", "d", "[J", true)
def t_La : Nat → FieldType := fun k => match k with
  | 0 => .object "CurveKeys$Field"
  | 1 => .array .byte
  | 2 => .array .byte
  | 3 => .array .long
  | 4 => .array .long
  | 5 => .array .long
  | 6 => .array .long
  | 7 => .array .long
  | 8 => .array .long
  | 9 => .array .long
  | 10 => .array .long
  | _ => .array .long
theorem n_La : ∀ a, a < 12 → ∀ b, b < 12 → a ≠ b → (F_La a).2.1 ≠ (F_La b).2.1 := by decide +kernel
theorem tok_La : ∀ k, k < 12 → parseFieldDescriptor (F_La k).2.2.1 = some (t_La k) := by decide +kernel
def R_Pt : String := "CurveKeys$Point"
def F_Pt : u_T := fun k => match k with
  | 0 => ("CurveKeys$Point", "x", "[J", true)
  | 1 => ("CurveKeys$Point", "y", "[J", true)
  | 2 => ("CurveKeys$Point", "z", "[J", true)
  | _ => ("CurveKeys$Point", "t", "[J", true)
def t_Pt : Nat → FieldType := fun k => match k with
  | 0 => .array .long
  | 1 => .array .long
  | 2 => .array .long
  | _ => .array .long
theorem n_Pt : ∀ a, a < 4 → ∀ b, b < 4 → a ≠ b → (F_Pt a).2.1 ≠ (F_Pt b).2.1 := by decide +kernel
theorem tok_Pt : ∀ k, k < 4 → parseFieldDescriptor (F_Pt k).2.2.1 = some (t_Pt k) := by decide +kernel
def R_Ad : String := "CurveKeys$Addend"
def F_Ad : u_T := fun k => match k with
  | 0 => ("CurveKeys$Addend", "less", "[J", true)
  | 1 => ("CurveKeys$Addend", "more", "[J", true)
  | 2 => ("CurveKeys$Addend", "twiceZ", "[J", true)
  | _ => ("CurveKeys$Addend", "twiceDT", "[J", true)
def t_Ad : Nat → FieldType := fun k => match k with
  | 0 => .array .long
  | 1 => .array .long
  | 2 => .array .long
  | _ => .array .long
theorem n_Ad : ∀ a, a < 4 → ∀ b, b < 4 → a ≠ b → (F_Ad a).2.1 ≠ (F_Ad b).2.1 := by decide +kernel
theorem tok_Ad : ∀ k, k < 4 → parseFieldDescriptor (F_Ad k).2.2.1 = some (t_Ad k) := by decide +kernel
def R_Ed : String := "CurveKeys$Edwards"
def F_Ed : u_T := fun k => match k with
  | 0 => ("CurveKeys$Edwards", "field", "LCurveKeys$Field;", true)
  | 1 => ("CurveKeys$Edwards", "sum", "LCurveKeys$Point;", true)
  | 2 => ("CurveKeys$Edwards", "found", "LCurveKeys$Point;", true)
  | 3 => ("CurveKeys$Edwards", "ofBase", "[LCurveKeys$Addend;", true)
  | 4 => ("CurveKeys$Edwards", "ofOther", "[LCurveKeys$Addend;", true)
  | 5 => ("CurveKeys$Edwards", "zeroScalar", "[B", true)
  | 6 => ("CurveKeys$Edwards", "form", "[B", true)
  | 7 => ("CurveKeys$Edwards", "a", "[J", true)
  | 8 => ("CurveKeys$Edwards", "b", "[J", true)
  | 9 => ("CurveKeys$Edwards", "c", "[J", true)
  | 10 => ("CurveKeys$Edwards", "d", "[J", true)
  | 11 => ("CurveKeys$Edwards", "e", "[J", true)
  | 12 => ("CurveKeys$Edwards", "f", "[J", true)
  | 13 => ("CurveKeys$Edwards", "g", "[J", true)
  | _ => ("CurveKeys$Edwards", "h", "[J", true)
def t_Ed : Nat → FieldType := fun k => match k with
  | 0 => .object "CurveKeys$Field"
  | 1 => .object "CurveKeys$Point"
  | 2 => .object "CurveKeys$Point"
  | 3 => .array (.object "CurveKeys$Addend")
  | 4 => .array (.object "CurveKeys$Addend")
  | 5 => .array .byte
  | 6 => .array .byte
  | 7 => .array .long
  | 8 => .array .long
  | 9 => .array .long
  | 10 => .array .long
  | 11 => .array .long
  | 12 => .array .long
  | 13 => .array .long
  | _ => .array .long
theorem n_Ed : ∀ a, a < 15 → ∀ b, b < 15 → a ≠ b → (F_Ed a).2.1 ≠ (F_Ed b).2.1 := by decide +kernel
theorem tok_Ed : ∀ k, k < 15 → parseFieldDescriptor (F_Ed k).2.2.1 = some (t_Ed k) := by decide +kernel
def R_Ha : String := "CurveKeys$Hash"
def F_Ha : u_T := fun k => match k with
  | 0 => ("CurveKeys$Hash", "state", "[J", true)
  | 1 => ("CurveKeys$Hash", "words", "[J", true)
  | 2 => ("CurveKeys$Hash", "block", "[B", true)
  | 3 => ("CurveKeys$Hash", "held", "I", false)
  | _ => ("CurveKeys$Hash", "total", "I", false)
def t_Ha : Nat → FieldType := fun k => match k with
  | 0 => .array .long
  | 1 => .array .long
  | 2 => .array .byte
  | 3 => .int
  | _ => .int
theorem n_Ha : ∀ a, a < 5 → ∀ b, b < 5 → a ≠ b → (F_Ha a).2.1 ≠ (F_Ha b).2.1 := by decide +kernel
theorem tok_Ha : ∀ k, k < 5 → parseFieldDescriptor (F_Ha k).2.2.1 = some (t_Ha k) := by decide +kernel
def R_Or : String := "CurveKeys$Order"
def F_Or : u_T := fun k => match k with
  | _ => ("CurveKeys$Order", "wide", "[J", true)
def t_Or : Nat → FieldType := fun k => match k with
  | _ => .array .long
theorem n_Or : ∀ a, a < 1 → ∀ b, b < 1 → a ≠ b → (F_Or a).2.1 ≠ (F_Or b).2.1 := by decide +kernel
theorem tok_Or : ∀ k, k < 1 → parseFieldDescriptor (F_Or k).2.2.1 = some (t_Or k) := by decide +kernel
def R_Ro : String := "CurveKeys$Row"
def F_Ro : u_T := fun k => match k with
  | 0 => ("CurveKeys$Row", "bytes", "[B", false)
  | _ => ("CurveKeys$Row", "length", "I", false)
def t_Ro : Nat → FieldType := fun k => match k with
  | 0 => .array .byte
  | _ => .int
theorem n_Ro : ∀ a, a < 2 → ∀ b, b < 2 → a ≠ b → (F_Ro a).2.1 ≠ (F_Ro b).2.1 := by decide +kernel
theorem tok_Ro : ∀ k, k < 2 → parseFieldDescriptor (F_Ro k).2.2.1 = some (t_Ro k) := by decide +kernel
def R_Ke : String := "CurveKeys$Key"
def F_Ke : u_T := fun k => match k with
  | 0 => ("CurveKeys$Key", "secret", "[B", true)
  | 1 => ("CurveKeys$Key", "scalar", "[B", true)
  | 2 => ("CurveKeys$Key", "prefix", "[B", true)
  | 3 => ("CurveKeys$Key", "publicKey", "[B", true)
  | _ => ("CurveKeys$Key", "ready", "Z", false)
def t_Ke : Nat → FieldType := fun k => match k with
  | 0 => .array .byte
  | 1 => .array .byte
  | 2 => .array .byte
  | 3 => .array .byte
  | _ => .boolean
theorem n_Ke : ∀ a, a < 5 → ∀ b, b < 5 → a ≠ b → (F_Ke a).2.1 ≠ (F_Ke b).2.1 := by decide +kernel
theorem tok_Ke : ∀ k, k < 5 → parseFieldDescriptor (F_Ke k).2.2.1 = some (t_Ke k) := by decide +kernel
def R_Si : String := "CurveKeys$Signatures"
def F_Si : u_T := fun k => match k with
  | 0 => ("CurveKeys$Signatures", "edwards", "LCurveKeys$Edwards;", true)
  | 1 => ("CurveKeys$Signatures", "hash", "LCurveKeys$Hash;", true)
  | 2 => ("CurveKeys$Signatures", "order", "LCurveKeys$Order;", true)
  | 3 => ("CurveKeys$Signatures", "digest", "[B", true)
  | 4 => ("CurveKeys$Signatures", (String.singleton 'r'), "[B", true)
  | 5 => ("CurveKeys$Signatures", "k", "[B", true)
  | 6 => ("CurveKeys$Signatures", "s", "[B", true)
  | 7 => ("CurveKeys$Signatures", "commitment", "[B", true)
  | _ => ("CurveKeys$Signatures", "due", "[B", true)
def t_Si : Nat → FieldType := fun k => match k with
  | 0 => .object "CurveKeys$Edwards"
  | 1 => .object "CurveKeys$Hash"
  | 2 => .object "CurveKeys$Order"
  | 3 => .array .byte
  | 4 => .array .byte
  | 5 => .array .byte
  | 6 => .array .byte
  | 7 => .array .byte
  | _ => .array .byte
theorem n_Si : ∀ a, a < 9 → ∀ b, b < 9 → a ≠ b → (F_Si a).2.1 ≠ (F_Si b).2.1 := by decide +kernel
theorem tok_Si : ∀ k, k < 9 → parseFieldDescriptor (F_Si k).2.2.1 = some (t_Si k) := by decide +kernel
abbrev classes : List vw_C := [(R_M, F_M, 53), (R_K, F_K, 12), (R_F, F_F, 7), (R_La, F_La, 12), (R_Pt, F_Pt, 4), (R_Ad, F_Ad, 4), (R_Ed, F_Ed, 15), (R_Ha, F_Ha, 5), (R_Or, F_Or, 1), (R_Ro, F_Ro, 2), (R_Ke, F_Ke, 5), (R_Si, F_Si, 9)]
abbrev b_M_init : ByteArray := prog_13_method_1_code
def y_M_init : MethodName := ⟨R_M, "<init>", "()V"⟩
abbrev b_M_thrown : ByteArray := prog_13_method_2_code
def y_M_thrown : MethodName := ⟨R_M, "thrown", "()I"⟩
abbrev b_M_fail : ByteArray := prog_13_method_3_code
def y_M_fail : MethodName := ⟨R_M, "fail", "(I)I"⟩
abbrev b_M_copy : ByteArray := prog_13_method_4_code
def y_M_copy : MethodName := ⟨R_M, "copy", "([J[J)V"⟩
abbrev b_M_set : ByteArray := prog_13_method_5_code
def y_M_set : MethodName := ⟨R_M, "set", "([JI)V"⟩
abbrev b_M_zero : ByteArray := prog_13_method_6_code
def y_M_zero : MethodName := ⟨R_M, "zero", "([J)Z"⟩
abbrev b_M_below : ByteArray := prog_13_method_7_code
def y_M_below : MethodName := ⟨R_M, "below", "([J[J)Z"⟩
abbrev b_M_alike : ByteArray := prog_13_method_8_code
def y_M_alike : MethodName := ⟨R_M, "alike", "([J[J)Z"⟩
abbrev b_M_less : ByteArray := prog_13_method_9_code
def y_M_less : MethodName := ⟨R_M, "less", "([J[J[J)V"⟩
abbrev b_M_plus : ByteArray := prog_13_method_10_code
def y_M_plus : MethodName := ⟨R_M, "plus", "([J[J[J[J)V"⟩
abbrev b_M_minus : ByteArray := prog_13_method_11_code
def y_M_minus : MethodName := ⟨R_M, "minus", "([J[J[J[J)V"⟩
abbrev b_M_remainders : ByteArray := prog_13_method_12_code
def y_M_remainders : MethodName := ⟨R_M, "remainders", "([J[J[J)V"⟩
abbrev b_M_reduce : ByteArray := prog_13_method_13_code
def y_M_reduce : MethodName := ⟨R_M, "reduce", "([J[J[J)V"⟩
abbrev b_M_times : ByteArray := prog_13_method_14_code
def y_M_times : MethodName := ⟨R_M, "times", "([J[J[J[J[J)V"⟩
abbrev b_M_half : ByteArray := prog_13_method_15_code
def y_M_half : MethodName := ⟨R_M, "half", "([J[J)V"⟩
abbrev b_M_halve : ByteArray := prog_13_method_16_code
def y_M_halve : MethodName := ⟨R_M, "halve", "([J)V"⟩
abbrev b_M_one : ByteArray := prog_13_method_17_code
def y_M_one : MethodName := ⟨R_M, "one", "([J)Z"⟩
abbrev b_M_inverse : ByteArray := prog_13_method_18_code
def y_M_inverse : MethodName := ⟨R_M, "inverse", "([J[J[J)V"⟩
abbrev b_M_bit : ByteArray := prog_13_method_19_code
def y_M_bit : MethodName := ⟨R_M, "bit", "([JI)I"⟩
abbrev b_M_prime : ByteArray := prog_13_method_20_code
def y_M_prime : MethodName := ⟨R_M, "prime", "(I)I"⟩
abbrev b_M_constants : ByteArray := prog_13_method_21_code
def y_M_constants : MethodName := ⟨R_M, "constants", "()V"⟩
abbrev b_M_root : ByteArray := prog_13_method_22_code
def y_M_root : MethodName := ⟨R_M, "root", "(II)J"⟩
abbrev b_M_fits : ByteArray := prog_13_method_23_code
def y_M_fits : MethodName := ⟨R_M, "fits", "(JJII)Z"⟩
abbrev b_M_raise : ByteArray := prog_13_method_24_code
def y_M_raise : MethodName := ⟨R_M, "raise", "(JJ)V"⟩
abbrev b_M_turned : ByteArray := prog_13_method_25_code
def y_M_turned : MethodName := ⟨R_M, "turned", "(JI)J"⟩
abbrev b_M_padded : ByteArray := prog_13_method_26_code
def y_M_padded : MethodName := ⟨R_M, "padded", "([BIII)I"⟩
abbrev b_M_hash : ByteArray := prog_13_method_27_code
def y_M_hash : MethodName := ⟨R_M, "hash", "([BI)V"⟩
abbrev b_M_over : ByteArray := prog_13_method_28_code
def y_M_over : MethodName := ⟨R_M, "over", "()V"⟩
abbrev b_M_power : ByteArray := prog_13_method_29_code
def y_M_power : MethodName := ⟨R_M, "power", "([J[J[J)V"⟩
abbrev b_M_decode : ByteArray := prog_13_method_30_code
def y_M_decode : MethodName := ⟨R_M, "decode", "()Z"⟩
abbrev b_M_encode : ByteArray := prog_13_method_31_code
def y_M_encode : MethodName := ⟨R_M, "encode", "([B[J[J)V"⟩
abbrev b_M_add : ByteArray := prog_13_method_32_code
def y_M_add : MethodName := ⟨R_M, "add", "([J[J[J[J)V"⟩
abbrev b_M_multiply : ByteArray := prog_13_method_33_code
def y_M_multiply : MethodName := ⟨R_M, "multiply", "([J)V"⟩
abbrev b_M_fromBase : ByteArray := prog_13_method_34_code
def y_M_fromBase : MethodName := ⟨R_M, "fromBase", "([J)V"⟩
abbrev b_M_hashNumber : ByteArray := prog_13_method_35_code
def y_M_hashNumber : MethodName := ⟨R_M, "hashNumber", "([J)V"⟩
abbrev b_M_clamped : ByteArray := prog_13_method_36_code
def y_M_clamped : MethodName := ⟨R_M, "clamped", "([J[BI)V"⟩
abbrev b_M_opened : ByteArray := prog_13_method_37_code
def y_M_opened : MethodName := ⟨R_M, "opened", "(I)V"⟩
abbrev b_M_hashMessage : ByteArray := prog_13_method_38_code
def y_M_hashMessage : MethodName := ⟨R_M, "hashMessage", "(I)V"⟩
abbrev b_M_ladder : ByteArray := prog_13_method_39_code
def y_M_ladder : MethodName := ⟨R_M, "ladder", "()V"⟩
abbrev b_M_step : ByteArray := prog_13_method_40_code
def y_M_step : MethodName := ⟨R_M, "step", "([J[J[J[J)V"⟩
abbrev b_M_feed : ByteArray := prog_13_method_41_code
def y_M_feed : MethodName := ⟨R_M, "feed", "(IIIII)I"⟩
abbrev b_M_end : ByteArray := prog_13_method_42_code
def y_M_end : MethodName := ⟨R_M, "end", "(I)I"⟩
abbrev b_M_none : ByteArray := prog_13_method_43_code
def y_M_none : MethodName := ⟨R_M, "none", "(I)Z"⟩
abbrev b_M_key : ByteArray := prog_13_method_44_code
def y_M_key : MethodName := ⟨R_M, "key", "()I"⟩
abbrev b_M_tell : ByteArray := prog_13_method_45_code
def y_M_tell : MethodName := ⟨R_M, "tell", "([BII)V"⟩
abbrev b_M_open : ByteArray := prog_13_method_46_code
def y_M_open : MethodName := ⟨R_M, "open", "(II)V"⟩
abbrev b_M_agree : ByteArray := prog_13_method_47_code
def y_M_agree : MethodName := ⟨R_M, "agree", "(I)Z"⟩
abbrev b_M_message : ByteArray := prog_13_method_48_code
def y_M_message : MethodName := ⟨R_M, "message", "()I"⟩
abbrev b_M_sign : ByteArray := prog_13_method_49_code
def y_M_sign : MethodName := ⟨R_M, "sign", "(I)V"⟩
abbrev b_M_verified : ByteArray := prog_13_method_50_code
def y_M_verified : MethodName := ⟨R_M, "verified", "()I"⟩
abbrev b_M_verify : ByteArray := prog_13_method_51_code
def y_M_verify : MethodName := ⟨R_M, "verify", "()I"⟩
abbrev b_M_point : ByteArray := prog_13_method_52_code
def y_M_point : MethodName := ⟨R_M, "point", "()Z"⟩
abbrev b_M_back : ByteArray := prog_13_method_53_code
def y_M_back : MethodName := ⟨R_M, "back", "(II)I"⟩
abbrev b_M_result : ByteArray := prog_13_method_54_code
def y_M_result : MethodName := ⟨R_M, "result", "(I)I"⟩
abbrev b_M_count : ByteArray := prog_13_method_55_code
def y_M_count : MethodName := ⟨R_M, "count", "(I)I"⟩
abbrev b_K_init : ByteArray := prog_1_method_1_code
def y_K_init : MethodName := ⟨R_K, "<init>", "()V"⟩
abbrev b_K_feed : ByteArray := prog_1_method_2_code
def y_K_feed : MethodName := ⟨R_K, "feed", "(IIIII)I"⟩
abbrev b_K_end : ByteArray := prog_1_method_3_code
def y_K_end : MethodName := ⟨R_K, "end", "(I)I"⟩
abbrev b_K_key : ByteArray := prog_1_method_4_code
def y_K_key : MethodName := ⟨R_K, "key", "()I"⟩
abbrev b_K_open : ByteArray := prog_1_method_5_code
def y_K_open : MethodName := ⟨R_K, "open", "(II)V"⟩
abbrev b_K_agree : ByteArray := prog_1_method_6_code
def y_K_agree : MethodName := ⟨R_K, "agree", "(I)Z"⟩
abbrev b_K_message : ByteArray := prog_1_method_7_code
def y_K_message : MethodName := ⟨R_K, "message", "()I"⟩
abbrev b_K_sign : ByteArray := prog_1_method_8_code
def y_K_sign : MethodName := ⟨R_K, "sign", "(I)V"⟩
abbrev b_K_verify : ByteArray := prog_1_method_9_code
def y_K_verify : MethodName := ⟨R_K, "verify", "()I"⟩
abbrev b_K_point : ByteArray := prog_1_method_10_code
def y_K_point : MethodName := ⟨R_K, "point", "()Z"⟩
abbrev b_K_back : ByteArray := prog_1_method_11_code
def y_K_back : MethodName := ⟨R_K, "back", "(II)I"⟩
abbrev b_K_result : ByteArray := prog_1_method_12_code
def y_K_result : MethodName := ⟨R_K, "result", "(I)I"⟩
abbrev b_K_count : ByteArray := prog_1_method_13_code
def y_K_count : MethodName := ⟨R_K, "count", "(I)I"⟩
abbrev b_K_existingKey : ByteArray := prog_1_method_14_code
def y_K_existingKey : MethodName := ⟨R_K, "existingKey", "(I)LCurveKeys$Key;"⟩
abbrev b_K_requireTape : ByteArray := prog_1_method_15_code
def y_K_requireTape : MethodName := ⟨R_K, "requireTape", "(I)V"⟩
abbrev b_K_isZeroStart : ByteArray := prog_1_method_16_code
def y_K_isZeroStart : MethodName := ⟨R_K, "isZeroStart", "([B)Z"⟩
abbrev b_K_isSameStart : ByteArray := prog_1_method_17_code
def y_K_isSameStart : MethodName := ⟨R_K, "isSameStart", "([B[B)Z"⟩
abbrev b_K_clamp : ByteArray := prog_1_method_18_code
def y_K_clamp : MethodName := ⟨R_K, "clamp", "([B)V"⟩
abbrev b_F_init : ByteArray := prog_4_method_1_code
def y_F_init : MethodName := ⟨R_F, "<init>", "()V"⟩
abbrev b_F_set : ByteArray := prog_4_method_2_code
def y_F_set : MethodName := ⟨R_F, "set", "([JJ)V"⟩
abbrev b_F_copy : ByteArray := prog_4_method_3_code
def y_F_copy : MethodName := ⟨R_F, "copy", "([J[J)V"⟩
abbrev b_F_add : ByteArray := prog_4_method_4_code
def y_F_add : MethodName := ⟨R_F, "add", "([J[J[J)V"⟩
abbrev b_F_subtract : ByteArray := prog_4_method_5_code
def y_F_subtract : MethodName := ⟨R_F, "subtract", "([J[J[J)V"⟩
abbrev b_F_negate : ByteArray := prog_4_method_6_code
def y_F_negate : MethodName := ⟨R_F, "negate", "([J[J)V"⟩
abbrev b_F_scale : ByteArray := prog_4_method_7_code
def y_F_scale : MethodName := ⟨R_F, "scale", "([J[JJ)V"⟩
abbrev b_F_times : ByteArray := prog_4_method_8_code
def y_F_times : MethodName := ⟨R_F, "times", "([J[J[J)V"⟩
abbrev b_F_square : ByteArray := prog_4_method_9_code
def y_F_square : MethodName := ⟨R_F, "square", "([J[J)V"⟩
abbrev b_F_carry : ByteArray := prog_4_method_10_code
def y_F_carry : MethodName := ⟨R_F, "carry", "([J)V"⟩
abbrev b_F_widthOf : ByteArray := prog_4_method_11_code
def y_F_widthOf : MethodName := ⟨R_F, "widthOf", "(I)I"⟩
abbrev b_F_read : ByteArray := prog_4_method_12_code
def y_F_read : MethodName := ⟨R_F, "read", "([J[B)V"⟩
abbrev b_F_write : ByteArray := prog_4_method_13_code
def y_F_write : MethodName := ⟨R_F, "write", "([B[J)V"⟩
abbrev b_F_settle : ByteArray := prog_4_method_14_code
def y_F_settle : MethodName := ⟨R_F, "settle", "([J)V"⟩
abbrev b_F_invert : ByteArray := prog_4_method_15_code
def y_F_invert : MethodName := ⟨R_F, "invert", "([J[J)V"⟩
abbrev b_F_raiseForRoot : ByteArray := prog_4_method_16_code
def y_F_raiseForRoot : MethodName := ⟨R_F, "raiseForRoot", "([J[J)V"⟩
abbrev b_F_raiseToOnes : ByteArray := prog_4_method_17_code
def y_F_raiseToOnes : MethodName := ⟨R_F, "raiseToOnes", "([J)V"⟩
abbrev b_F_stretch : ByteArray := prog_4_method_18_code
def y_F_stretch : MethodName := ⟨R_F, "stretch", "([J[JI[J)V"⟩
abbrev b_La_init : ByteArray := prog_7_method_1_code
def y_La_init : MethodName := ⟨R_La, "<init>", "(LCurveKeys$Field;)V"⟩
abbrev b_La_writePublicKey : ByteArray := prog_7_method_2_code
def y_La_writePublicKey : MethodName := ⟨R_La, "writePublicKey", "([B[B)V"⟩
abbrev b_La_writeProduct : ByteArray := prog_7_method_3_code
def y_La_writeProduct : MethodName := ⟨R_La, "writeProduct", "([B[B[B)V"⟩
abbrev b_La_climb : ByteArray := prog_7_method_4_code
def y_La_climb : MethodName := ⟨R_La, "climb", "()V"⟩
abbrev b_La_step : ByteArray := prog_7_method_5_code
def y_La_step : MethodName := ⟨R_La, "step", "([J[J[J[J)V"⟩
abbrev b_Pt_init : ByteArray := prog_9_method_1_code
def y_Pt_init : MethodName := ⟨R_Pt, "<init>", "()V"⟩
abbrev b_Pt_setNeutral : ByteArray := prog_9_method_2_code
def y_Pt_setNeutral : MethodName := ⟨R_Pt, "setNeutral", "()V"⟩
abbrev b_Pt_setAffine : ByteArray := prog_9_method_3_code
def y_Pt_setAffine : MethodName := ⟨R_Pt, "setAffine", "([J[J)V"⟩
abbrev b_Pt_negate : ByteArray := prog_9_method_4_code
def y_Pt_negate : MethodName := ⟨R_Pt, "negate", "()V"⟩
abbrev b_Ad_init : ByteArray := prog_2_method_1_code
def y_Ad_init : MethodName := ⟨R_Ad, "<init>", "()V"⟩
abbrev b_Ad_set : ByteArray := prog_2_method_2_code
def y_Ad_set : MethodName := ⟨R_Ad, "set", "(LCurveKeys$Point;)V"⟩
abbrev b_Ed_init : ByteArray := prog_3_method_1_code
def y_Ed_init : MethodName := ⟨R_Ed, "<init>", "(LCurveKeys$Field;)V"⟩
abbrev b_Ed_fillMultiples : ByteArray := prog_3_method_2_code
def y_Ed_fillMultiples : MethodName := ⟨R_Ed, "fillMultiples", "([LCurveKeys$Addend;LCurveKeys$Point;)V"⟩
abbrev b_Ed_add : ByteArray := prog_3_method_3_code
def y_Ed_add : MethodName := ⟨R_Ed, "add", "(LCurveKeys$Point;LCurveKeys$Addend;)V"⟩
abbrev b_Ed_twice : ByteArray := prog_3_method_4_code
def y_Ed_twice : MethodName := ⟨R_Ed, "twice", "(LCurveKeys$Point;)V"⟩
abbrev b_Ed_join : ByteArray := prog_3_method_5_code
def y_Ed_join : MethodName := ⟨R_Ed, "join", "(LCurveKeys$Point;)V"⟩
abbrev b_Ed_multiplyBase : ByteArray := prog_3_method_6_code
def y_Ed_multiplyBase : MethodName := ⟨R_Ed, "multiplyBase", "([B)V"⟩
abbrev b_Ed_subtractFromBase : ByteArray := prog_3_method_7_code
def y_Ed_subtractFromBase : MethodName := ⟨R_Ed, "subtractFromBase", "([B[B)V"⟩
abbrev b_Ed_addUp : ByteArray := prog_3_method_8_code
def y_Ed_addUp : MethodName := ⟨R_Ed, "addUp", "([B[B)V"⟩
abbrev b_Ed_digitAt : ByteArray := prog_3_method_9_code
def y_Ed_digitAt : MethodName := ⟨R_Ed, "digitAt", "([BI)I"⟩
abbrev b_Ed_writeSum : ByteArray := prog_3_method_10_code
def y_Ed_writeSum : MethodName := ⟨R_Ed, "writeSum", "([B)V"⟩
abbrev b_Ed_writeFoundX : ByteArray := prog_3_method_11_code
def y_Ed_writeFoundX : MethodName := ⟨R_Ed, "writeFoundX", "([B)V"⟩
abbrev b_Ed_find : ByteArray := prog_3_method_12_code
def y_Ed_find : MethodName := ⟨R_Ed, "find", "([B)Z"⟩
abbrev b_Ed_isBelowPrime : ByteArray := prog_3_method_13_code
def y_Ed_isBelowPrime : MethodName := ⟨R_Ed, "isBelowPrime", "([B)Z"⟩
abbrev b_Ed_setRatio : ByteArray := prog_3_method_14_code
def y_Ed_setRatio : MethodName := ⟨R_Ed, "setRatio", "()V"⟩
abbrev b_Ed_mendRoot : ByteArray := prog_3_method_15_code
def y_Ed_mendRoot : MethodName := ⟨R_Ed, "mendRoot", "()Z"⟩
abbrev b_Ed_takeSign : ByteArray := prog_3_method_16_code
def y_Ed_takeSign : MethodName := ⟨R_Ed, "takeSign", "(I)Z"⟩
abbrev b_Ed_isMultipleOfPrime : ByteArray := prog_3_method_17_code
def y_Ed_isMultipleOfPrime : MethodName := ⟨R_Ed, "isMultipleOfPrime", "([J)Z"⟩
abbrev b_Ha_init : ByteArray := prog_5_method_1_code
def y_Ha_init : MethodName := ⟨R_Ha, "<init>", "()V"⟩
abbrev b_Ha_begin : ByteArray := prog_5_method_2_code
def y_Ha_begin : MethodName := ⟨R_Ha, "begin", "()V"⟩
abbrev b_Ha_take : ByteArray := prog_5_method_3_code
def y_Ha_take : MethodName := ⟨R_Ha, "take", "([BI)V"⟩
abbrev b_Ha_finish : ByteArray := prog_5_method_4_code
def y_Ha_finish : MethodName := ⟨R_Ha, "finish", "([B)V"⟩
abbrev b_Ha_putWord : ByteArray := prog_5_method_5_code
def y_Ha_putWord : MethodName := ⟨R_Ha, "putWord", "([BIJ)V"⟩
abbrev b_Ha_spreadWords : ByteArray := prog_5_method_6_code
def y_Ha_spreadWords : MethodName := ⟨R_Ha, "spreadWords", "()V"⟩
abbrev b_Ha_mix : ByteArray := prog_5_method_7_code
def y_Ha_mix : MethodName := ⟨R_Ha, "mix", "()V"⟩
abbrev b_Or_init : ByteArray := prog_8_method_1_code
def y_Or_init : MethodName := ⟨R_Or, "<init>", "()V"⟩
abbrev b_Or_isBelow : ByteArray := prog_8_method_2_code
def y_Or_isBelow : MethodName := ⟨R_Or, "isBelow", "([B)Z"⟩
abbrev b_Or_reduce : ByteArray := prog_8_method_3_code
def y_Or_reduce : MethodName := ⟨R_Or, "reduce", "([B[B)V"⟩
abbrev b_Or_reduceForAnyPoint : ByteArray := prog_8_method_4_code
def y_Or_reduceForAnyPoint : MethodName := ⟨R_Or, "reduceForAnyPoint", "([B[B)V"⟩
abbrev b_Or_multiplyAndAdd : ByteArray := prog_8_method_5_code
def y_Or_multiplyAndAdd : MethodName := ⟨R_Or, "multiplyAndAdd", "([B[B[B[B)V"⟩
abbrev b_Or_reduceWide : ByteArray := prog_8_method_6_code
def y_Or_reduceWide : MethodName := ⟨R_Or, "reduceWide", "([B)V"⟩
abbrev b_Or_foldPlace : ByteArray := prog_8_method_7_code
def y_Or_foldPlace : MethodName := ⟨R_Or, "foldPlace", "(I)V"⟩
abbrev b_Or_subtractMultiple : ByteArray := prog_8_method_8_code
def y_Or_subtractMultiple : MethodName := ⟨R_Or, "subtractMultiple", "(J)V"⟩
abbrev b_Ro_init : ByteArray := prog_10_method_1_code
def y_Ro_init : MethodName := ⟨R_Ro, "<init>", "()V"⟩
abbrev b_Ro_hasRoomFor : ByteArray := prog_10_method_2_code
def y_Ro_hasRoomFor : MethodName := ⟨R_Ro, "hasRoomFor", "(I)Z"⟩
abbrev b_Ro_appendNumber : ByteArray := prog_10_method_3_code
def y_Ro_appendNumber : MethodName := ⟨R_Ro, "appendNumber", "(I)V"⟩
abbrev b_Ro_append : ByteArray := prog_10_method_4_code
def y_Ro_append : MethodName := ⟨R_Ro, "append", "([BI)V"⟩
abbrev b_Ro_growBy : ByteArray := prog_10_method_5_code
def y_Ro_growBy : MethodName := ⟨R_Ro, "growBy", "(I)V"⟩
abbrev b_Ke_init : ByteArray := prog_6_method_1_code
def y_Ke_init : MethodName := ⟨R_Ke, "<init>", "()V"⟩
abbrev b_Si_init : ByteArray := prog_11_method_1_code
def y_Si_init : MethodName := ⟨R_Si, "<init>", "(LCurveKeys$Edwards;)V"⟩
abbrev b_Si_makeReady : ByteArray := prog_11_method_2_code
def y_Si_makeReady : MethodName := ⟨R_Si, "makeReady", "(LCurveKeys$Key;)V"⟩
abbrev b_Si_writeSignature : ByteArray := prog_11_method_3_code
def y_Si_writeSignature : MethodName := ⟨R_Si, "writeSignature", "([BLCurveKeys$Key;LCurveKeys$Row;)V"⟩
abbrev b_Si_hashChallenge : ByteArray := prog_11_method_4_code
def y_Si_hashChallenge : MethodName := ⟨R_Si, "hashChallenge", "([BLCurveKeys$Row;)V"⟩
abbrev b_Si_judge : ByteArray := prog_11_method_5_code
def y_Si_judge : MethodName := ⟨R_Si, "judge", "([BLCurveKeys$Row;)I"⟩
end
section
/-! THE KIT OF SHAPES (sx_): which cells are arrays, of which type and length; what a method of arrays leaves as it is. No value is spoken of. -/
/-- the classes that are arrays of a type, by number -/
def sx_G (U : State) (g : ClassId → FieldType → Prop) : Prop := ∀ (c : ClassId) (t : FieldType), g c t ↔ ∃ k : Class, U.vm.classes[c]? = some k ∧ ∃ comp, k.kind = .array comp t
theorem sx_G.moved {u U : State} {g : ClassId → FieldType → Prop} (hvm : u.vm.Alike U.vm) (h : sx_G u g) : sx_G U g := by
  intro c t
  rw [h c t]
  constructor
  · rintro ⟨k, h1, comp, h2⟩
    obtain ⟨k', hk', he⟩ := hvm.2.2 _ _ h1
    exact ⟨k', hk', comp, by rw [he]; exact h2⟩
  · rintro ⟨k, h1, comp, h2⟩
    obtain ⟨k', hk', he⟩ := hvm.symm.2.2 _ _ h1
    exact ⟨k', hk', comp, by rw [he]; exact h2⟩
theorem sx_G.uniq {U : State} {g : ClassId → FieldType → Prop} (h : sx_G U g) {c : ClassId} {t t' : FieldType} (h1 : g c t) (h2 : g c t') : t = t' := by
  obtain ⟨k, a1, x, a2⟩ := (h c t).mp h1
  obtain ⟨k', b1, y, b2⟩ := (h c t').mp h2
  cases Option.some.inj (a1.symm.trans b1)
  have := a2.symm.trans b2
  injection this
theorem sx_G.arr {U : State} {g : ClassId → FieldType → Prop} (h : sx_G U g) {cell : Cell} {t : FieldType} (h1 : g cell.cls t) (h2 : ∀ k, cell.vm ≠ .statics k) : U.isArrayOf cell t := ⟨h2, (h cell.cls t).mp h1⟩
/-- what an element of an array of that type may be -/
def sx_V (t : FieldType) (v : Value) : Prop := match t with
  | .long => ∃ x : Int64, v = .long x
  | .byte => ∃ x : Int32, v = .int x ∧ fits .byte (.int x) = true
  | .int => ∃ x : Int32, v = .int x
  | _ => True
/-- a cell that is an array of type t, of length n at least -/
def sx_c (g : ClassId → FieldType → Prop) (t : FieldType) (n : Nat) (cell : Cell) : Prop := g cell.cls t ∧ (∀ k, cell.vm ≠ .statics k) ∧ cell.vm ≠ .unknown ∧ n ≤ cell.slots.size ∧ ∀ j : Nat, j < n → ∃ v : Value, cell.slots[j]? = some v ∧ sx_V t v
theorem sx_c.set {g : ClassId → FieldType → Prop} {t : FieldType} {n j : Nat} {cell : Cell} {v : Value} (h : sx_c g t n cell) (hv : sx_V t v) : sx_c g t n (cell.setSlot j v) := by
  obtain ⟨h2, h3, h4, h5, h6⟩ := h
  refine ⟨h2, h3, h4, by rw [k2_slotsz]; exact h5, fun k hk => ?_⟩
  have hk5 : k < cell.slots.size := Nat.lt_of_lt_of_le hk h5
  by_cases hkj : j = k
  · subst hkj
    refine ⟨v, ?_, hv⟩
    simp [Cell.setSlot, Array.getElem?_setIfInBounds, hk5]
  · obtain ⟨w, q1, q2⟩ := h6 k hk
    refine ⟨w, ?_, q2⟩
    simp [Cell.setSlot, Array.getElem?_setIfInBounds, hkj, q1]
theorem sx_c.pairs {g : ClassId → FieldType → Prop} {t : FieldType} {n a : Nat} : ∀ (vs : List (Value × Nat)) (cell : Cell), sx_c g t n cell → (∀ q ∈ vs, sx_V t q.1) → sx_c g t n (cell.storePairs a vs)
  | [], _, h, _ => h
  | q :: vs, x0, h, hv => sx_c.pairs vs (x0.setSlot (a + q.2) q.1) (h.set (hv q List.mem_cons_self)) (fun x hx => hv x (List.mem_cons_of_mem _ hx))
/-- an array of type t, of length n at least; sx_L: of just that length -/
def sx_A (g : ClassId → FieldType → Prop) (t : FieldType) (H : Heap) (a n : Nat) : Prop := ∃ cell : Cell, H[a]? = some cell ∧ sx_c g t n cell
def sx_L (H : Heap) (a n : Nat) : Prop := ∃ cell : Cell, H[a]? = some cell ∧ cell.slots.size = n
/-- since H0: what isn't in E is as it was; arrays are arrays of the same type and length -/
def sx_J (g : ClassId → FieldType → Prop) (E : Nat → Prop) (H0 H : Heap) : Prop := H0.size ≤ H.size ∧ (∀ q : Nat, q < H0.size → ¬ E q → H[q]? = H0[q]?) ∧ (∀ (t : FieldType) (a n : Nat), sx_A g t H0 a n → sx_A g t H a n) ∧ ∀ a n : Nat, sx_L H0 a n → sx_L H a n
theorem sx_J.rf {g : ClassId → FieldType → Prop} {E : Nat → Prop} {H : Heap} : sx_J g E H H := ⟨Nat.le_refl _, fun _ _ _ => rfl, fun _ _ _ h => h, fun _ _ h => h⟩
theorem sx_J.tr {g : ClassId → FieldType → Prop} {E : Nat → Prop} {H0 H1 H2 : Heap} (h1 : sx_J g E H0 H1) (h2 : sx_J g E H1 H2) : sx_J g E H0 H2 :=
  ⟨Nat.le_trans h1.1 h2.1, fun q a b => (h2.2.1 q (Nat.lt_of_lt_of_le a h1.1) b).trans (h1.2.1 q a b), fun t a n h => h2.2.2.1 t a n (h1.2.2.1 t a n h), fun a n h => h2.2.2.2 a n (h1.2.2.2 a n h)⟩
theorem sx_J.mono {g : ClassId → FieldType → Prop} {E E' : Nat → Prop} {H0 H1 : Heap} (h : sx_J g E H0 H1) (hE : ∀ q, E q → E' q) : sx_J g E' H0 H1 := ⟨h.1, fun q a b => h.2.1 q a (fun z => b (hE q z)), h.2.2⟩
/-- an array of longs, bytes or ints is written -/
theorem sx_J.cell {U : State} {g : ClassId → FieldType → Prop} {E : Nat → Prop} {a : Nat} {t : FieldType} {H H1 : Heap} {cell cell' : Cell} (hG : sx_G U g) (hc : H[a]? = some cell) (hg : g cell.cls t) (hsz : cell'.slots.size = cell.slots.size) (hk : ∀ n, sx_c g t n cell → sx_c g t n cell') (hlo : E a) (e : H1[a]? = some cell') (z : H1.size = H.size) (oq : ∀ q : Nat, q ≠ a → H1[q]? = H[q]?) : sx_J g E H H1 := by
  refine ⟨Nat.le_of_eq z.symm, fun q _ h => oq q (fun x => h (x ▸ hlo)), fun t' b n hb => ?_, fun b n hb => ?_⟩
  · obtain ⟨c0, h1, h2⟩ := hb
    by_cases hba : b = a
    · subst hba
      cases Option.some.inj (hc.symm.trans h1)
      cases hG.uniq hg h2.1
      exact ⟨_, e, hk n h2⟩
    · exact ⟨c0, (oq b hba).trans h1, h2⟩
  · obtain ⟨c0, h1, h2⟩ := hb
    by_cases hba : b = a
    · subst hba
      cases Option.some.inj (hc.symm.trans h1)
      exact ⟨_, e, hsz.trans h2⟩
    · exact ⟨c0, (oq b hba).trans h1, h2⟩
theorem sx_J.put {U : State} {g : ClassId → FieldType → Prop} {E : Nat → Prop} {a j : Nat} {t : FieldType} {H H1 : Heap} {cell : Cell} {v : Value} (hG : sx_G U g) (hc : H[a]? = some cell) (hg : g cell.cls t) (hv : sx_V t v) (hlo : E a) (e : H1[a]? = some (cell.setSlot j v)) (z : H1.size = H.size) (oq : ∀ q : Nat, q ≠ a → H1[q]? = H[q]?) : sx_J g E H H1 :=
  sx_J.cell hG hc hg (k2_slotsz _ _ _) (fun _ h => h.set hv) hlo e z oq
/-- cells are made; what was there stays -/
theorem sx_J.grow {g : ClassId → FieldType → Prop} {E : Nat → Prop} {H H1 : Heap} (z : H.size ≤ H1.size) (oq : ∀ q : Nat, q < H.size → H1[q]? = H[q]?) : sx_J g E H H1 := by
  have key : ∀ (q : Nat) (cell : Cell), H[q]? = some cell → H1[q]? = some cell := fun q cell h => (oq q (Array.getElem?_eq_some_iff.mp h).1).trans h
  exact ⟨z, fun q h _ => oq q h, fun t a n ⟨c0, h1, h2⟩ => ⟨c0, key a c0 h1, h2⟩, fun a n ⟨c0, h1, h2⟩ => ⟨c0, key a c0 h1, h2⟩⟩
/-- the walk so far: shapes by E; the slots that were written lie in F -/
def sx_S (g : ClassId → FieldType → Prop) (E F : Nat → Prop) (H0 H : Heap) (locs : List Loc) : Prop := sx_J g E H0 H ∧ (∀ q, E q → F q) ∧ ∀ q ∈ locs, F q.base
theorem sx_S.rf {g : ClassId → FieldType → Prop} {E : Nat → Prop} {H : Heap} : sx_S g E E H H [] := ⟨sx_J.rf, fun _ h => h, fun _ h => by cases h⟩
theorem sx_S.a {g : ClassId → FieldType → Prop} {E F : Nat → Prop} {H0 H : Heap} {locs : List Loc} (h : sx_S g E F H0 H locs) {t : FieldType} {a n : Nat} (ha : sx_A g t H0 a n) : sx_A g t H a n := h.1.2.2.1 t a n ha
theorem sx_in {i n : Nat} (h : i < n) (hn : n < 2 ^ 31) : vp_in (nI i) n := vp_in_nI h hn
section SX
variable {p : Program} {l : Launch} {e : Env} {R : Room} {s : State} {m : MethodId} {args : Array Value} {below : List Frame} {meth : Method} {c : Code} {H H0 : Heap} {locs : List Loc} {cells slots : Nat} {Q : State → Prop}
variable {cc : ByteArray} {pc : Nat} {ls : Array Slot} {rest : List Value} {g : ClassId → FieldType → Prop} {E F : Nat → Prop}
theorem sx_ti {x y : Int32} (h : x = y) (k : W p l e R s m args below meth c H locs cells slots Q (F0 m pc ls (.int y :: rest))) : W p l e R s m args below meth c H locs cells slots Q (F0 m pc ls (.int x :: rest)) := h ▸ k
theorem sx_lald {a n : Nat} {i : Int32} (hx : p.tables.exec = Jvm.exec) (hb : c.code = cc) (hG : sx_G s g) (hS : sx_S g E F H0 H locs) (ha : sx_A g .long H0 a n) (hin : vp_in i n) (hdg : decode cc pc = .ok (.laload, 1))
    (k : ∀ x : Int64, W p l e R s m args below meth c H locs cells slots Q (F0 m (pc + 1) ls (.long x :: rest))) : W p l e R s m args below meth c H locs cells slots Q (F0 m pc ls (.int i :: .ref a :: rest)) := by
  obtain ⟨cell, h1, h2, h3, h4, h5, h6⟩ := hS.a ha
  obtain ⟨v, q1, x, rfl⟩ := h6 i.toNatClampNeg (Nat.not_le.mp fun q => hin (Or.inr q))
  exact W.lald hx hb h1 (hG.arr h2 h3) h4 (fun z => hin (z.imp id (fun q => Nat.le_trans h5 q))) q1 rfl rfl hdg (k x)
theorem sx_iald {a n : Nat} {i : Int32} (hx : p.tables.exec = Jvm.exec) (hb : c.code = cc) (hG : sx_G s g) (hS : sx_S g E F H0 H locs) (ha : sx_A g .int H0 a n) (hin : vp_in i n) (hdg : decode cc pc = .ok (.iaload, 1))
    (k : ∀ x : Int32, W p l e R s m args below meth c H locs cells slots Q (F0 m (pc + 1) ls (.int x :: rest))) : W p l e R s m args below meth c H locs cells slots Q (F0 m pc ls (.int i :: .ref a :: rest)) := by
  obtain ⟨cell, h1, h2, h3, h4, h5, h6⟩ := hS.a ha
  obtain ⟨v, q1, x, rfl⟩ := h6 i.toNatClampNeg (Nat.not_le.mp fun q => hin (Or.inr q))
  exact W.iald hx hb h1 (hG.arr h2 h3) h4 (fun z => hin (z.imp id (fun q => Nat.le_trans h5 q))) q1 rfl rfl hdg (k x)
theorem sx_bald {a n : Nat} {i : Int32} (hx : p.tables.exec = Jvm.exec) (hb : c.code = cc) (hG : sx_G s g) (hS : sx_S g E F H0 H locs) (ha : sx_A g .byte H0 a n) (hin : vp_in i n) (hdg : decode cc pc = .ok (.baload, 1))
    (k : ∀ x : Int32, W p l e R s m args below meth c H locs cells slots Q (F0 m (pc + 1) ls (.int x :: rest))) : W p l e R s m args below meth c H locs cells slots Q (F0 m pc ls (.int i :: .ref a :: rest)) := by
  obtain ⟨cell, h1, h2, h3, h4, h5, h6⟩ := hS.a ha
  obtain ⟨v, q1, x, rfl, -⟩ := h6 i.toNatClampNeg (Nat.not_le.mp fun q => hin (Or.inr q))
  exact W.bald hx hb h1 (hG.arr h2 h3) h4 (fun z => hin (z.imp id (fun q => Nat.le_trans h5 q))) q1 rfl rfl hdg (k x)
theorem sx_last {a n : Nat} {i : Int32} {x : Int64} (hx : p.tables.exec = Jvm.exec) (hb : c.code = cc) (hG : sx_G s g) (hS : sx_S g E F H0 H locs) (ha : sx_A g .long H0 a n) (hlo : E a) (hin : vp_in i n) (hdg : decode cc pc = .ok (.lastore, 1))
    (k : ∀ (H1 : Heap) (locs1 : List Loc), sx_S g E F H0 H1 locs1 → W p l e R s m args below meth c H1 locs1 cells slots Q (F0 m (pc + 1) ls rest)) : W p l e R s m args below meth c H locs cells slots Q (F0 m pc ls (.long x :: .int i :: .ref a :: rest)) := by
  obtain ⟨cell, h1, h2, h3, h4, h5, h6⟩ := hS.a ha
  refine W.last hx hb h1 (hG.arr h2 h3) h4 (fun z => hin (z.imp id (fun q => Nat.le_trans h5 q))) rfl rfl hdg fun H1 e z oq => ?_
  exact k H1 _ ⟨hS.1.tr (sx_J.put hG h1 h2 ⟨x, rfl⟩ hlo e z oq), hS.2.1, fun q hq => by
    rcases List.mem_append.mp hq with h | h
    · exact hS.2.2 q h
    · rw [List.mem_singleton.mp h]; exact hS.2.1 _ hlo⟩
theorem sx_iast {a n : Nat} {i : Int32} {x : Int32} (hx : p.tables.exec = Jvm.exec) (hb : c.code = cc) (hG : sx_G s g) (hS : sx_S g E F H0 H locs) (ha : sx_A g .int H0 a n) (hlo : E a) (hin : vp_in i n) (hdg : decode cc pc = .ok (.iastore, 1))
    (k : ∀ (H1 : Heap) (locs1 : List Loc), sx_S g E F H0 H1 locs1 → W p l e R s m args below meth c H1 locs1 cells slots Q (F0 m (pc + 1) ls rest)) : W p l e R s m args below meth c H locs cells slots Q (F0 m pc ls (.int x :: .int i :: .ref a :: rest)) := by
  obtain ⟨cell, h1, h2, h3, h4, h5, h6⟩ := hS.a ha
  refine W.iast hx hb h1 (hG.arr h2 h3) h4 (fun z => hin (z.imp id (fun q => Nat.le_trans h5 q))) rfl rfl hdg fun H1 e z oq => ?_
  exact k H1 _ ⟨hS.1.tr (sx_J.put hG h1 h2 ⟨x, rfl⟩ hlo e z oq), hS.2.1, fun q hq => by
    rcases List.mem_append.mp hq with h | h
    · exact hS.2.2 q h
    · rw [List.mem_singleton.mp h]; exact hS.2.1 _ hlo⟩
theorem sx_bast {a n : Nat} {i : Int32} {x : Int32} (hx : p.tables.exec = Jvm.exec) (hb : c.code = cc) (hG : sx_G s g) (hS : sx_S g E F H0 H locs) (ha : sx_A g .byte H0 a n) (hlo : E a) (hin : vp_in i n) (hdg : decode cc pc = .ok (.bastore, 1))
    (k : ∀ (H1 : Heap) (locs1 : List Loc), sx_S g E F H0 H1 locs1 → W p l e R s m args below meth c H1 locs1 cells slots Q (F0 m (pc + 1) ls rest)) : W p l e R s m args below meth c H locs cells slots Q (F0 m pc ls (.int x :: .int i :: .ref a :: rest)) := by
  obtain ⟨cell, h1, h2, h3, h4, h5, h6⟩ := hS.a ha
  refine W.bast hx hb h1 (hG.arr h2 h3) h4 (fun z => hin (z.imp id (fun q => Nat.le_trans h5 q))) rfl rfl hdg fun H1 e z oq => ?_
  exact k H1 _ ⟨hS.1.tr (sx_J.put hG h1 h2 ⟨x.toInt8.toInt32, rfl, pk_fb x⟩ hlo e z oq), hS.2.1, fun q hq => by
    rcases List.mem_append.mp hq with h | h
    · exact hS.2.2 q h
    · rw [List.mem_singleton.mp h]; exact hS.2.1 _ hlo⟩
theorem sx_ladd {x y : Int64} (hx : p.tables.exec = Jvm.exec) (hb : c.code = cc) (hdg : decode cc pc = .ok (.ladd, 1)) (k : ∀ z : Int64, W p l e R s m args below meth c H locs cells slots Q (F0 m (pc + 1) ls (.long z :: rest))) : W p l e R s m args below meth c H locs cells slots Q (F0 m pc ls (.long y :: .long x :: rest)) := lv_ladd hx hb hdg (k _)
theorem sx_lsub {x y : Int64} (hx : p.tables.exec = Jvm.exec) (hb : c.code = cc) (hdg : decode cc pc = .ok (.lsub, 1)) (k : ∀ z : Int64, W p l e R s m args below meth c H locs cells slots Q (F0 m (pc + 1) ls (.long z :: rest))) : W p l e R s m args below meth c H locs cells slots Q (F0 m pc ls (.long y :: .long x :: rest)) := lv_lsub hx hb hdg (k _)
theorem sx_lmul {x y : Int64} (hx : p.tables.exec = Jvm.exec) (hb : c.code = cc) (hdg : decode cc pc = .ok (.lmul, 1)) (k : ∀ z : Int64, W p l e R s m args below meth c H locs cells slots Q (F0 m (pc + 1) ls (.long z :: rest))) : W p l e R s m args below meth c H locs cells slots Q (F0 m pc ls (.long y :: .long x :: rest)) := lv_lmul hx hb hdg (k _)
theorem sx_land {x y : Int64} (hx : p.tables.exec = Jvm.exec) (hb : c.code = cc) (hdg : decode cc pc = .ok (.land, 1)) (k : ∀ z : Int64, W p l e R s m args below meth c H locs cells slots Q (F0 m (pc + 1) ls (.long z :: rest))) : W p l e R s m args below meth c H locs cells slots Q (F0 m pc ls (.long y :: .long x :: rest)) := lv_land hx hb hdg (k _)
theorem sx_lor {x y : Int64} (hx : p.tables.exec = Jvm.exec) (hb : c.code = cc) (hdg : decode cc pc = .ok (.lor, 1)) (k : ∀ z : Int64, W p l e R s m args below meth c H locs cells slots Q (F0 m (pc + 1) ls (.long z :: rest))) : W p l e R s m args below meth c H locs cells slots Q (F0 m pc ls (.long y :: .long x :: rest)) := lv_lor hx hb hdg (k _)
theorem sx_lxor {x y : Int64} (hx : p.tables.exec = Jvm.exec) (hb : c.code = cc) (hdg : decode cc pc = .ok (.lxor, 1)) (k : ∀ z : Int64, W p l e R s m args below meth c H locs cells slots Q (F0 m (pc + 1) ls (.long z :: rest))) : W p l e R s m args below meth c H locs cells slots Q (F0 m pc ls (.long y :: .long x :: rest)) := lv_lxor hx hb hdg (k _)
theorem sx_lshl {x : Int64} {y : Int32} (hx : p.tables.exec = Jvm.exec) (hb : c.code = cc) (hdg : decode cc pc = .ok (.lshl, 1)) (k : ∀ z : Int64, W p l e R s m args below meth c H locs cells slots Q (F0 m (pc + 1) ls (.long z :: rest))) : W p l e R s m args below meth c H locs cells slots Q (F0 m pc ls (.int y :: .long x :: rest)) := lv_lshl hx hb hdg rfl (k _)
theorem sx_lshr {x : Int64} {y : Int32} (hx : p.tables.exec = Jvm.exec) (hb : c.code = cc) (hdg : decode cc pc = .ok (.lshr, 1)) (k : ∀ z : Int64, W p l e R s m args below meth c H locs cells slots Q (F0 m (pc + 1) ls (.long z :: rest))) : W p l e R s m args below meth c H locs cells slots Q (F0 m pc ls (.int y :: .long x :: rest)) := lv_lshr hx hb hdg rfl (k _)
theorem sx_lushr {x : Int64} {y : Int32} (hx : p.tables.exec = Jvm.exec) (hb : c.code = cc) (hdg : decode cc pc = .ok (.lushr, 1)) (k : ∀ z : Int64, W p l e R s m args below meth c H locs cells slots Q (F0 m (pc + 1) ls (.long z :: rest))) : W p l e R s m args below meth c H locs cells slots Q (F0 m pc ls (.int y :: .long x :: rest)) := lv_lushr hx hb hdg rfl (k _)
theorem sx_iadd {x y : Int32} (hx : p.tables.exec = Jvm.exec) (hb : c.code = cc) (hdg : decode cc pc = .ok (.iadd, 1)) (k : ∀ z : Int32, W p l e R s m args below meth c H locs cells slots Q (F0 m (pc + 1) ls (.int z :: rest))) : W p l e R s m args below meth c H locs cells slots Q (F0 m pc ls (.int y :: .int x :: rest)) := lv_iadd hx hb hdg (k _)
theorem sx_isub {x y : Int32} (hx : p.tables.exec = Jvm.exec) (hb : c.code = cc) (hdg : decode cc pc = .ok (.isub, 1)) (k : ∀ z : Int32, W p l e R s m args below meth c H locs cells slots Q (F0 m (pc + 1) ls (.int z :: rest))) : W p l e R s m args below meth c H locs cells slots Q (F0 m pc ls (.int y :: .int x :: rest)) := lv_isub hx hb hdg (k _)
theorem sx_imul {x y : Int32} (hx : p.tables.exec = Jvm.exec) (hb : c.code = cc) (hdg : decode cc pc = .ok (.imul, 1)) (k : ∀ z : Int32, W p l e R s m args below meth c H locs cells slots Q (F0 m (pc + 1) ls (.int z :: rest))) : W p l e R s m args below meth c H locs cells slots Q (F0 m pc ls (.int y :: .int x :: rest)) := lv_imul hx hb hdg (k _)
theorem sx_iand {x y : Int32} (hx : p.tables.exec = Jvm.exec) (hb : c.code = cc) (hdg : decode cc pc = .ok (.iand, 1)) (k : ∀ z : Int32, W p l e R s m args below meth c H locs cells slots Q (F0 m (pc + 1) ls (.int z :: rest))) : W p l e R s m args below meth c H locs cells slots Q (F0 m pc ls (.int y :: .int x :: rest)) := lv_iand hx hb hdg (k _)
theorem sx_ior {x y : Int32} (hx : p.tables.exec = Jvm.exec) (hb : c.code = cc) (hdg : decode cc pc = .ok (.ior, 1)) (k : ∀ z : Int32, W p l e R s m args below meth c H locs cells slots Q (F0 m (pc + 1) ls (.int z :: rest))) : W p l e R s m args below meth c H locs cells slots Q (F0 m pc ls (.int y :: .int x :: rest)) := lv_ior hx hb hdg (k _)
theorem sx_ixor {x y : Int32} (hx : p.tables.exec = Jvm.exec) (hb : c.code = cc) (hdg : decode cc pc = .ok (.ixor, 1)) (k : ∀ z : Int32, W p l e R s m args below meth c H locs cells slots Q (F0 m (pc + 1) ls (.int z :: rest))) : W p l e R s m args below meth c H locs cells slots Q (F0 m pc ls (.int y :: .int x :: rest)) := lv_ixor hx hb hdg (k _)
theorem sx_ishl {x y : Int32} (hx : p.tables.exec = Jvm.exec) (hb : c.code = cc) (hdg : decode cc pc = .ok (.ishl, 1)) (k : ∀ z : Int32, W p l e R s m args below meth c H locs cells slots Q (F0 m (pc + 1) ls (.int z :: rest))) : W p l e R s m args below meth c H locs cells slots Q (F0 m pc ls (.int y :: .int x :: rest)) := lv_ishl hx hb hdg (k _)
theorem sx_ishr {x y : Int32} (hx : p.tables.exec = Jvm.exec) (hb : c.code = cc) (hdg : decode cc pc = .ok (.ishr, 1)) (k : ∀ z : Int32, W p l e R s m args below meth c H locs cells slots Q (F0 m (pc + 1) ls (.int z :: rest))) : W p l e R s m args below meth c H locs cells slots Q (F0 m pc ls (.int y :: .int x :: rest)) := lv_ishr hx hb hdg (k _)
theorem sx_i2l {x : Int32} (hx : p.tables.exec = Jvm.exec) (hb : c.code = cc) (hdg : decode cc pc = .ok (.i2l, 1)) (k : ∀ z : Int64, W p l e R s m args below meth c H locs cells slots Q (F0 m (pc + 1) ls (.long z :: rest))) : W p l e R s m args below meth c H locs cells slots Q (F0 m pc ls (.int x :: rest)) := lv_i2l hx hb hdg rfl (k _)
theorem sx_l2i {x : Int64} (hx : p.tables.exec = Jvm.exec) (hb : c.code = cc) (hdg : decode cc pc = .ok (.l2i, 1)) (k : ∀ z : Int32, W p l e R s m args below meth c H locs cells slots Q (F0 m (pc + 1) ls (.int z :: rest))) : W p l e R s m args below meth c H locs cells slots Q (F0 m pc ls (.long x :: rest)) := lv_l2i hx hb hdg rfl (k _)
theorem sx_i2b {x : Int32} (hx : p.tables.exec = Jvm.exec) (hb : c.code = cc) (hdg : decode cc pc = .ok (.i2b, 1)) (k : ∀ z : Int32, W p l e R s m args below meth c H locs cells slots Q (F0 m (pc + 1) ls (.int z :: rest))) : W p l e R s m args below meth c H locs cells slots Q (F0 m pc ls (.int x :: rest)) := lv_i2b hx hb hdg rfl (k _)
theorem sx_lcmp {x y : Int64} (hx : p.tables.exec = Jvm.exec) (hb : c.code = cc) (hdg : decode cc pc = .ok (.lcmp, 1)) (k : ∀ z : Int32, W p l e R s m args below meth c H locs cells slots Q (F0 m (pc + 1) ls (.int z :: rest))) : W p l e R s m args below meth c H locs cells slots Q (F0 m pc ls (.long y :: .long x :: rest)) := W.lcmp hx hb hdg (k _)
theorem sx_lneg {x : Int64} (hx : p.tables.exec = Jvm.exec) (hb : c.code = cc) (hdg : decode cc pc = .ok (.lneg, 1)) (k : ∀ z : Int64, W p l e R s m args below meth c H locs cells slots Q (F0 m (pc + 1) ls (.long z :: rest))) : W p l e R s m args below meth c H locs cells slots Q (F0 m pc ls (.long x :: rest)) := lv_lneg hx hb hdg (k _)
/-- System.arraycopy of k longs, from the beginning of one to the beginning of the other -/
theorem sx_cpy {a0 a k : Nat} {own : String} {index : Nat} (hx : p.tables.exec = Jvm.exec) (hb : c.code = cc) (hml : c.maxLocals = ls.size) (hown : s.vm.findClass own = some m.cls) (hlink : (Cond.methodLink own index arraycopyName).before args s = true) (hnat : (Cond.native arraycopyName).before args s = true) (hstat : (Cond.static arraycopyName).before args s = true) (hini : (Cond.initialized "java/lang/System").before args s = true)
    (hG : sx_G s g) (hS : sx_S g E F H0 H locs) (h0 : sx_A g .long H0 a0 k) (h1 : sx_A g .long H0 a k) (hlo : E a) (hk : k < 2 ^ 31) (hframes : 1 ≤ R.frames) (hlocals : (rest.map fun v => v.category).sum + (nativeFrameWords "java/lang/System" "arraycopy" 5 + 11) ≤ R.locals) (hdg : decode cc pc = .ok (.invokestatic index, 3))
    (kk : ∀ (H1 : Heap) (locs1 : List Loc), sx_S g E F H0 H1 locs1 → W p l e R s m args below meth c H1 locs1 cells slots Q (F0 m (pc + 3) ls rest)) : W p l e R s m args below meth c H locs cells slots Q (F0 m pc ls (.int (nI k) :: .int (nI 0) :: .ref a :: .int (nI 0) :: .ref a0 :: rest)) := by
  intro T hT X
  obtain ⟨c0, q1, q2, q3, q4, q5, q6⟩ := hS.a h0
  obtain ⟨c1, w1, w2, w3, w4, w5, w6⟩ := hS.a h1
  obtain ⟨k0, hk0, cm0, hkk0⟩ := (hG _ _).mp q2
  obtain ⟨k1, hk1, cm1, hkk1⟩ := (hG _ _).mp w2
  have z0 : (nI 0).toNatClampNeg = 0 := nI_clamp (by decide)
  have zk : (nI k).toNatClampNeg = k := nI_clamp hk
  have i0 : (nI 0).toInt = 0 := nI_toInt (by decide)
  have ik : (nI k).toInt = (k : Int) := nI_toInt hk
  have hval : ∀ i, i < k → ∃ x : Int64, c0.slots.getD i .null = .long x := fun i hi => by
    obtain ⟨v, v1, x, rfl⟩ := q6 i hi
    exact ⟨x, by rw [Array.getD_eq_getD_getElem?, v1]; rfl⟩
  obtain ⟨vm', X', step⟩ := X.arraycopy hx hown hlink hnat hstat hini (src := a0) (dst := a) (cs := c0) (cd := c1) (srcPos := nI 0) (destPos := nI 0) (n := nI k) (by rw [hT]; exact q1) (by rw [hT]; exact w1) q3 w3 q4 w4 hk0 hk1 hkk0 hkk1 (by decide) (nI_pos (by decide)) (nI_pos (by decide)) (nI_pos hk)
    (by rw [i0, ik]; omega) (by rw [i0, ik]; omega)
    (fun vm₁ _ i hi => by
      rw [zk] at hi
      rw [z0, Nat.zero_add]
      obtain ⟨x, hx⟩ := hval i hi
      rw [hx]
      exact ⟨rfl, trivial⟩)
    (g := F0 m pc ls (.int (nI k) :: .int (nI 0) :: .ref a :: .int (nI 0) :: .ref a0 :: rest)) rfl (by rw [hml]) (rest := rest) rfl (by rw [hb]; exact hdg) hframes (by show 2 * 0 + _ + _ ≤ _; omega)
  have hl : a < H.size := (Array.getElem?_eq_some_iff.mp w1).1
  have hheap : ((T.setVm vm').setCell a (copied c0 c1 (nI 0) (nI 0) (nI k))).heap = H.setIfInBounds a (copied c0 c1 (nI 0) (nI 0) (nI k)) := by rw [← hT]; rfl
  have hval2 : ∀ q ∈ (c0.stretch (nI 0).toNatClampNeg (nI k).toNatClampNeg).zipIdx, sx_V .long q.1 := fun q hq => by
    have h1 : q.1 ∈ c0.stretch (nI 0).toNatClampNeg (nI k).toNatClampNeg := by
      have := List.mem_map_of_mem (f := Prod.fst) hq
      rwa [List.zipIdx_map_fst] at this
    unfold Cell.stretch at h1
    obtain ⟨i, hi, e1⟩ := List.mem_map.mp h1
    rw [z0, zk] at *
    obtain ⟨x, hx⟩ := hval i (List.mem_range.mp hi)
    rw [Nat.zero_add] at e1
    exact ⟨x, by rw [← e1]; exact hx⟩
  have hJ : sx_J g E H (H.setIfInBounds a (copied c0 c1 (nI 0) (nI 0) (nI k))) := sx_J.cell (cell' := copied c0 c1 (nI 0) (nI 0) (nI k)) hG w1 w2 (Cell.storePairs_facts _ _ _).2.2.1 (fun n hn => sx_c.pairs _ _ hn hval2) hlo (by simp [Array.getElem?_setIfInBounds, hl]) (by simp) (fun q hq => by simp [Array.getElem?_setIfInBounds, Ne.symm hq])
  obtain ⟨t, a1, b1⟩ := kk _ _ ⟨hS.1.tr hJ, hS.2.1, fun q hq => by
      rcases List.mem_append.mp hq with h | h
      · exact hS.2.2 q h
      · obtain ⟨z, -, hz⟩ := List.mem_map.mp h
        rw [← hz]
        exact hS.2.1 _ hlo⟩ _ hheap X'
  exact ⟨t, step t a1, b1⟩
end SX
end
section
/-! the nest mates' words -/
def sx_nw (w : Cond) : Bool := match w with
  | .fieldLinkNest .. => true
  | .methodLinkNest .. => true
  | _ => false
def nx_K (U : State) : Prop := ∀ w ∈ lw_tbl, sx_nw w = true → va_Nw w U
theorem nx_K.moved {u U : State} (hW : u.WarmedH U.vm) (h : nx_K u) : nx_K U := by
  intro w hw hn
  have h0 := h w hw hn
  cases w <;> first | exact va_Nw.warmF hW h0 | exact va_Nw.warmM hW h0 | (simp [sx_nw] at hn; done)
theorem nx_K.same {u U : State} (hv : u.vm = U.vm) (h : nx_K u) : nx_K U := by
  intro w hw hn
  have h0 := h w hw hn
  refine va_Nw.same ?_ hv h0
  cases w <;> first | rfl | (simp [sx_nw] at hn; done)
/-! the static arrays of Edwards: where they lie -/
def st_f (C n d : String) (a sl : Nat) (U : State) : Prop := ∃ (cf : ClassId) (kf : Class) (fi : Nat) (f : Field), U.fieldFound? C n d = some (cf, kf, fi, f) ∧ f.isStatic = true ∧ kf.init = .initialized ∧ kf.statics = some a ∧ f.slot = sl
theorem st_f.moved {C n d : String} {a sl : Nat} {u U : State} (hvm : u.vm.Alike U.vm) (h : st_f C n d a sl u) : st_f C n d a sl U := by
  obtain ⟨cf, kf, fi, f, h1, h2, h3, h4, h5⟩ := h
  obtain ⟨k', hi', he⟩ := State.fieldFound?_setVm hvm h1
  exact ⟨cf, k', fi, f, hi', h2, by rw [he]; exact h3, by rw [he]; exact h4, h5⟩
def st_K (D : va_G) (U : State) : Prop := st_f "CurveKeys$Edwards" "TWICE_CURVE_D" "[J" (D.2 1000 0) (D.2 1000 1) U ∧ st_f "CurveKeys$Edwards" "BASE_X" "[J" (D.2 1000 0) (D.2 1000 2) U ∧ st_f "CurveKeys$Edwards" "BASE_Y" "[J" (D.2 1000 0) (D.2 1000 3) U
theorem st_K.moved {D : va_G} {u U : State} (hvm : u.vm.Alike U.vm) (h : st_K D u) : st_K D U := ⟨h.1.moved hvm, h.2.1.moved hvm, h.2.2.moved hvm⟩
/-! words: the tables' words that a callee may take over, as one list for all methods -/
def sx_okw (w : Cond) : Bool := (w.onTables && w.keeps) || (match w with | .arrayClass _ => true | _ => false)
def G_ : List Cond := lw_tbl.filter sx_okw
theorem G_in {w : Cond} (h : w ∈ lw_tbl ∧ sx_okw w = true) : w ∈ G_ := List.mem_filter.mpr h
theorem G_ok {w : Cond} (h : w ∈ G_) : (w.onTables && w.keeps) = true ∨ ∃ ty, w = .arrayClass ty := by
  have h2 := (List.mem_filter.mp h).2
  rcases Bool.or_eq_true _ _ ▸ h2 with h3 | h3
  · exact Or.inl h3
  · right
    split at h3
    · exact ⟨_, rfl⟩
    · cases h3
theorem G_good {bs : List Cond} (h : ∀ w ∈ bs, w ∈ G_) : GoodIn G_ bs := fun w hw => ⟨h w hw, G_ok (h w hw)⟩
/-- a call's words: all are in the tables -/
def sx_w (ws : List Cond) (y : MethodName) (n : Nat) : Prop := (∀ w ∈ ws, w ∈ lw_tbl ∧ sx_okw w = true) ∧ (y.cls ≠ "java/lang/invoke/MethodHandle" ∧ y.cls ≠ "java/lang/invoke/VarHandle" ∧ (parseMethodDescriptor y.desc).map (fun d => d.parameters.length) = some n)
/-- what a state says to every method: which classes are arrays; our classes -/
def sx_U (D : va_G) (g : ClassId → FieldType → Prop) (U : State) : Prop := sx_G U g ∧ va_K D classes [] U ∧ nx_K U ∧ st_K D U
theorem sx_U.moved {D : va_G} {g : ClassId → FieldType → Prop} {u U : State} (hW : u.WarmedH U.vm) (h : sx_U D g u) : sx_U D g U := ⟨h.1.moved hW.alike, va_K.moved hW.alike h.2.1, h.2.2.1.moved hW, h.2.2.2.moved hW.alike⟩
def sx_E (p : Program) (s : State) (m : MethodId) (args : Array Value) (c : Code) (cc : ByteArray) (nL : Nat) (own : String) (D : va_G) (g : ClassId → FieldType → Prop) : Prop :=
  p.tables.exec = Jvm.exec ∧ c.code = cc ∧ c.maxLocals = nL ∧ s.vm.findClass own = some m.cls ∧ (∀ w ∈ G_, w.before args s = true) ∧ sx_U D g s
abbrev sx_Pc (vs : List Value) (H : Heap) (D : va_G) (g : ClassId → FieldType → Prop) : Array Value → State → Prop := va_Pc vs (fun U => U.heap = H ∧ sx_U D g U)
theorem sx_blind {vs : List Value} {H : Heap} {D : va_G} {g : ClassId → FieldType → Prop} : FrameBlind (sx_Pc vs H D g) := fun _ U f mk q => by
  obtain ⟨q0, q1, q2, q3, q4, q5⟩ := q
  exact ⟨q0, q1, q2.moved (u := U) (U := U.calling f mk _) (Vm.Alike.refl U.vm), va_K.moved (u := U) (U := U.calling f mk _) (Vm.Alike.refl U.vm) q3, nx_K.same (u := U) (U := U.calling f mk _) rfl q4, st_K.moved (u := U) (U := U.calling f mk _) (Vm.Alike.refl U.vm) q5⟩
def sx_Qv (g : ClassId → FieldType → Prop) (E : Nat → Prop) (H0 : Heap) : Array Value → State → Outcome → State → Prop := va_Qv (fun _ : Unit => True) (fun _ t => sx_J g E H0 t.heap) E
def sx_Qi (g : ClassId → FieldType → Prop) (E : Nat → Prop) (H0 : Heap) : Array Value → State → Outcome → State → Prop := va_Qi (fun _ (_ : Unit) => True) (fun _ t => sx_J g E H0 t.heap) E
def sx_Ql (g : ClassId → FieldType → Prop) (E : Nat → Prop) (H0 : Heap) : Array Value → State → Outcome → State → Prop := va_Ql (fun _ (_ : Unit) => True) (fun _ t => sx_J g E H0 t.heap) E
def sx_Qn (g : ClassId → FieldType → Prop) (E : Nat → Prop) (H0 : Heap) (post : Nat → Prop) : Array Value → State → Outcome → State → Prop := va_Qi (fun r (_ : Unit) => ∃ z : Nat, post z ∧ r = nI z) (fun _ t => sx_J g E H0 t.heap) E
abbrev sx_Qz (g : ClassId → FieldType → Prop) (E : Nat → Prop) (H0 : Heap) : Array Value → State → Outcome → State → Prop := sx_Qn g E H0 (fun z => z ≤ 1)
theorem sx_F {g : ClassId → FieldType → Prop} {E : Nat → Prop} {H0 : Heap} {s t : State} (h0 : s.heap = H0) (h : sx_J g E H0 t.heap) : va_F E s t := by
  subst h0
  exact ⟨h.1, h.2.1⟩
theorem sx_nz {z : Nat} (h : z ≤ 1) : narrow .boolean (.int (nI z)) = .int (nI z) := by
  rcases (show z = 0 ∨ z = 1 by omega) with rfl | rfl <;> rfl
theorem sx_inc (a b : Nat) : nI a + Int32.ofInt (b : Int) = nI (a + b) := by
  rw [← nI_add]; rfl
theorem sx_dn (a : Nat) : nI a + Int32.ofInt (-1) = nI a - 1 := by
  rw [show (Int32.ofInt (-1)) = -1 from by decide, Int32.sub_eq_add_neg]
theorem sx_dec {a : Nat} (h : 0 < a) : nI a + Int32.ofInt (-1) = nI (a - 1) := by
  rw [sx_dn]
  obtain ⟨b, rfl⟩ : ∃ b, a = b + 1 := ⟨a - 1, by omega⟩
  rw [nI_pred]; rfl
section SXM
variable {l : Launch} {D : va_G} {g : ClassId → FieldType → Prop} {E : Nat → Prop} {H0 : Heap} {y : MethodName} {cc : ByteArray} {maxL : Nat} {own : String} {vs : List Value} {rm : Room}
theorem sx_mv (hy : plainName y.cls = true) (ho : y.cls = own) (hc : rm.cells = 0) (hs : rm.slots = 0) (hlen : (lg_sl vs).length ≤ maxL)
    (body : ∀ (p : Program) (e : Env) (s : State) (m : MethodId) (args : Array Value) (below : List Frame) (meth : Method) (c : Code) (Q : State → Prop) (ls : Array Slot), sx_E p s m args c cc maxL own D g → lv_has ls maxL (lv_args 0 vs) →
      (∀ (H : Heap) (locs : List Loc) (ls : Array Slot) (pc : Nat), sx_S g E E H0 H locs → decode cc pc = .ok (.return_, 1) → W p l e rm s m args below meth c H locs 0 0 Q (F0 m pc ls [])) → W p l e rm s m args below meth c H0 [] 0 0 Q (F0 m 0 ls [])) :
    Met l y (.code y cc maxL none :: G_) rm (sx_Pc vs H0 D g) (sx_Qv g E H0) 0 0 E := by
  refine Met.ofW (cc := cc) (maxL := maxL) (ret := none) hy rfl ?_
  intro p e s m args below meth c s₁ B hml hv
  obtain ⟨rfl, hh, hU⟩ := hv
  have hl := lv_entry vs (n := maxL) hlen
  rw [lg_entry_eq]
  generalize (lg_sl vs ++ List.replicate (maxL - (lg_sl vs).length) Slot.unset).toArray = ls at hl ⊢
  have hb := B.bytes
  rw [hh]
  refine body p e s m _ below meth c _ ls ⟨B.exec, hb, hml, ho ▸ findClass_of_methodNamed B.named, fun w h => atoms_spec B.pre w (List.mem_cons_of_mem _ h), hU⟩ hl (fun H locs ls pc hS hd => ?_)
  exact W.vret B.exec hb B.returns (fun t ht hW => ⟨⟨(), rfl, trivial, (by rw [← ht] at hS; exact hS.1)⟩, sx_F hh (by rw [ht]; exact hS.1)⟩) hS.2.2 hd
theorem sx_mi (hy : plainName y.cls = true) (ho : y.cls = own) (hc : rm.cells = 0) (hs : rm.slots = 0) (hlen : (lg_sl vs).length ≤ maxL)
    (body : ∀ (p : Program) (e : Env) (s : State) (m : MethodId) (args : Array Value) (below : List Frame) (meth : Method) (c : Code) (Q : State → Prop) (ls : Array Slot), sx_E p s m args c cc maxL own D g → lv_has ls maxL (lv_args 0 vs) →
      (∀ (H : Heap) (locs : List Loc) (ls : Array Slot) (pc : Nat) (r : Int32), sx_S g E E H0 H locs → decode cc pc = .ok (.ireturn, 1) → W p l e rm s m args below meth c H locs 0 0 Q (F0 m pc ls [.int r])) → W p l e rm s m args below meth c H0 [] 0 0 Q (F0 m 0 ls [])) :
    Met l y (.code y cc maxL (some .int) :: G_) rm (sx_Pc vs H0 D g) (sx_Qi g E H0) 0 0 E := by
  refine Met.ofW (cc := cc) (maxL := maxL) (ret := some .int) hy rfl ?_
  intro p e s m args below meth c s₁ B hml hv
  obtain ⟨rfl, hh, hU⟩ := hv
  have hl := lv_entry vs (n := maxL) hlen
  rw [lg_entry_eq]
  generalize (lg_sl vs ++ List.replicate (maxL - (lg_sl vs).length) Slot.unset).toArray = ls at hl ⊢
  have hb := B.bytes
  rw [hh]
  refine body p e s m _ below meth c _ ls ⟨B.exec, hb, hml, ho ▸ findClass_of_methodNamed B.named, fun w h => atoms_spec B.pre w (List.mem_cons_of_mem _ h), hU⟩ hl (fun H locs ls pc r hS hd => ?_)
  exact W.iret (v := r) B.exec hb B.returns (fun t ht hW => ⟨⟨r, (), rfl, trivial, (by rw [← ht] at hS; exact hS.1)⟩, sx_F hh (by rw [ht]; exact hS.1)⟩) hS.2.2 hd
theorem sx_ml (hy : plainName y.cls = true) (ho : y.cls = own) (hc : rm.cells = 0) (hs : rm.slots = 0) (hlen : (lg_sl vs).length ≤ maxL)
    (body : ∀ (p : Program) (e : Env) (s : State) (m : MethodId) (args : Array Value) (below : List Frame) (meth : Method) (c : Code) (Q : State → Prop) (ls : Array Slot), sx_E p s m args c cc maxL own D g → lv_has ls maxL (lv_args 0 vs) →
      (∀ (H : Heap) (locs : List Loc) (ls : Array Slot) (pc : Nat) (r : Int64), sx_S g E E H0 H locs → decode cc pc = .ok (.lreturn, 1) → W p l e rm s m args below meth c H locs 0 0 Q (F0 m pc ls [.long r])) → W p l e rm s m args below meth c H0 [] 0 0 Q (F0 m 0 ls [])) :
    Met l y (.code y cc maxL (some .long) :: G_) rm (sx_Pc vs H0 D g) (sx_Ql g E H0) 0 0 E := by
  refine Met.ofW (cc := cc) (maxL := maxL) (ret := some .long) hy rfl ?_
  intro p e s m args below meth c s₁ B hml hv
  obtain ⟨rfl, hh, hU⟩ := hv
  have hl := lv_entry vs (n := maxL) hlen
  rw [lg_entry_eq]
  generalize (lg_sl vs ++ List.replicate (maxL - (lg_sl vs).length) Slot.unset).toArray = ls at hl ⊢
  have hb := B.bytes
  rw [hh]
  refine body p e s m _ below meth c _ ls ⟨B.exec, hb, hml, ho ▸ findClass_of_methodNamed B.named, fun w h => atoms_spec B.pre w (List.mem_cons_of_mem _ h), hU⟩ hl (fun H locs ls pc r hS hd => ?_)
  exact W.lret (v := r) B.exec hb B.returns (fun t ht hW => ⟨⟨r, (), rfl, trivial, (by rw [← ht] at hS; exact hS.1)⟩, sx_F hh (by rw [ht]; exact hS.1)⟩) hS.2.2 hd
theorem sx_mn {post : Nat → Prop} (hy : plainName y.cls = true) (ho : y.cls = own) (hc : rm.cells = 0) (hs : rm.slots = 0) (hlen : (lg_sl vs).length ≤ maxL)
    (body : ∀ (p : Program) (e : Env) (s : State) (m : MethodId) (args : Array Value) (below : List Frame) (meth : Method) (c : Code) (Q : State → Prop) (ls : Array Slot), sx_E p s m args c cc maxL own D g → lv_has ls maxL (lv_args 0 vs) →
      (∀ (H : Heap) (locs : List Loc) (ls : Array Slot) (pc : Nat) (z : Nat), post z → sx_S g E E H0 H locs → decode cc pc = .ok (.ireturn, 1) → W p l e rm s m args below meth c H locs 0 0 Q (F0 m pc ls [.int (nI z)])) → W p l e rm s m args below meth c H0 [] 0 0 Q (F0 m 0 ls [])) :
    Met l y (.code y cc maxL (some .int) :: G_) rm (sx_Pc vs H0 D g) (sx_Qn g E H0 post) 0 0 E := by
  refine Met.ofW (cc := cc) (maxL := maxL) (ret := some .int) hy rfl ?_
  intro p e s m args below meth c s₁ B hml hv
  obtain ⟨rfl, hh, hU⟩ := hv
  have hl := lv_entry vs (n := maxL) hlen
  rw [lg_entry_eq]
  generalize (lg_sl vs ++ List.replicate (maxL - (lg_sl vs).length) Slot.unset).toArray = ls at hl ⊢
  have hb := B.bytes
  rw [hh]
  refine body p e s m _ below meth c _ ls ⟨B.exec, hb, hml, ho ▸ findClass_of_methodNamed B.named, fun w h => atoms_spec B.pre w (List.mem_cons_of_mem _ h), hU⟩ hl (fun H locs ls pc z hz hS hd => ?_)
  exact W.iret (v := nI z) B.exec hb B.returns (fun t ht hW => ⟨⟨nI z, (), rfl, ⟨z, hz, rfl⟩, (by rw [← ht] at hS; exact hS.1)⟩, sx_F hh (by rw [ht]; exact hS.1)⟩) hS.2.2 hd
theorem sx_mz (hy : plainName y.cls = true) (ho : y.cls = own) (hc : rm.cells = 0) (hs : rm.slots = 0) (hlen : (lg_sl vs).length ≤ maxL)
    (body : ∀ (p : Program) (e : Env) (s : State) (m : MethodId) (args : Array Value) (below : List Frame) (meth : Method) (c : Code) (Q : State → Prop) (ls : Array Slot), sx_E p s m args c cc maxL own D g → lv_has ls maxL (lv_args 0 vs) →
      (∀ (H : Heap) (locs : List Loc) (ls : Array Slot) (pc : Nat) (z : Nat), z ≤ 1 → sx_S g E E H0 H locs → decode cc pc = .ok (.ireturn, 1) → W p l e rm s m args below meth c H locs 0 0 Q (F0 m pc ls [.int (nI z)])) → W p l e rm s m args below meth c H0 [] 0 0 Q (F0 m 0 ls [])) :
    Met l y (.code y cc maxL (some .boolean) :: G_) rm (sx_Pc vs H0 D g) (sx_Qz g E H0) 0 0 E := by
  refine Met.ofW (cc := cc) (maxL := maxL) (ret := some .boolean) hy rfl ?_
  intro p e s m args below meth c s₁ B hml hv
  obtain ⟨rfl, hh, hU⟩ := hv
  have hl := lv_entry vs (n := maxL) hlen
  rw [lg_entry_eq]
  generalize (lg_sl vs ++ List.replicate (maxL - (lg_sl vs).length) Slot.unset).toArray = ls at hl ⊢
  have hb := B.bytes
  rw [hh]
  refine body p e s m _ below meth c _ ls ⟨B.exec, hb, hml, ho ▸ findClass_of_methodNamed B.named, fun w h => atoms_spec B.pre w (List.mem_cons_of_mem _ h), hU⟩ hl (fun H locs ls pc z hz hS hd => ?_)
  exact W.zret (v := nI z) (ty := .boolean) B.exec hb B.returns (sx_nz hz) (fun t ht hW => ⟨⟨nI z, (), rfl, ⟨z, hz, rfl⟩, (by rw [← ht] at hS; exact hS.1)⟩, sx_F hh (by rw [ht]; exact hS.1)⟩) hS.2.2 hd
end SXM
section SXC
variable {p : Program} {l : Launch} {e : Env} {R : Room} {s : State} {m : MethodId} {args : Array Value} {below : List Frame} {meth : Method} {c : Code} {H H0 : Heap} {locs : List Loc} {cells slots : Nat} {Q : State → Prop}
variable {cc : ByteArray} {pc : Nat} {ls : Array Slot} {g : ClassId → FieldType → Prop} {E F : Nat → Prop} {D : va_G}
variable {y : MethodName} {bytes : ByteArray} {maxL nL n index : Nat} {ret : Option FieldType} {rm : Room} {own : String} {As rest st : List Value} {Qc : Array Value → State → Outcome → State → Prop}
/-- a static call's run -/
theorem sx_runS (EE : sx_E p s m args c cc nL own D g) (hM : Met l y (.code y bytes maxL ret :: G_) rm (sx_Pc As H D g) Qc 0 0 E) (hw : sx_w [.methodLink own index y, .static y, .initialized y.cls, .code y bytes maxL ret] y n) (hn : As.length = n) (hrm : rm.cells = 0 ∧ rm.slots = 0) (hR : rm.frames + 1 ≤ R.frames ∧ 8 + (maxL + 11) + rm.locals ≤ R.locals) (hcs : cells ≤ R.cells ∧ slots ≤ R.slots)
    (hsz : ls.size = nL) (hst : st = As.reverse ++ rest) (hrest : (rest.map fun v => v.category).sum ≤ 8) (hdg : decode cc pc = .ok (.invokestatic index, 3)) :
    va_Run p l e R s m args below meth c H locs cells slots 0 0 (F0 m pc ls st) rest (Qc As.toArray) E := by
  obtain ⟨hx, hb, hml, hown, hts, hU⟩ := EE
  have hin : ∀ w ∈ ([.methodLink own index y, .static y, .initialized y.cls, .code y bytes maxL ret] : List Cond), w ∈ G_ := fun w h => G_in (hw.1 w h)
  exact va_runS (As := As) (rest := rest) ⟨hx, hb, hml, hown, hts⟩ hM (va_cwS n hts (G_good (fun w h => by
      simp only [va_wsS, List.cons_append, List.nil_append, List.mem_cons] at h
      rcases h with rfl | rfl | rfl | rfl | h
      · exact hin _ (by simp)
      · exact hin _ (by simp)
      · exact hin _ (by simp)
      · exact hin _ (by simp)
      · exact h)) rfl hrm.1 hrm.2 hw.2 hR) ⟨sx_blind, fun U hU' hW => ⟨rfl, hU', hU.moved hW⟩⟩ rfl hn hsz hst (lv_room hrest) hdg hcs
/-- behind a call -/
theorem sx_Sm {H1 : Heap} {locs1 : List Loc} (hS : sx_S g E F H0 H locs) (hJ : sx_J g E H H1) (h1 : va_S F H H1 locs1) : sx_S g E F H0 H1 locs1 := ⟨hS.1.tr hJ, hS.2.1, h1.2.2⟩
theorem sx_vS (hS : sx_S g E F H0 H locs) : va_S F H H locs := ⟨Nat.le_refl _, fun _ _ _ => rfl, hS.2.2⟩
theorem sx_gv (hr : va_Run p l e R s m args below meth c H locs cells slots 0 0 (F0 m pc ls st) rest (sx_Qv g E H As.toArray) E) (hS : sx_S g E F H0 H locs)
    (k : ∀ (H1 : Heap) (locs1 : List Loc), sx_S g E F H0 H1 locs1 → W p l e R s m args below meth c H1 locs1 cells slots Q (F0 m (pc + 3) ls rest)) : W p l e R s m args below meth c H locs cells slots Q (F0 m pc ls st) :=
  va_callv hr (sx_vS hS) (fun _ _ h => hS.2.1 _ h) (fun _ h => hS.2.1 _ h) (fun u t H1 locs1 ht hvm hw hB hz hk hS1 => k H1 locs1 (sx_Sm hS (ht ▸ hB) hS1))
theorem sx_gi (hr : va_Run p l e R s m args below meth c H locs cells slots 0 0 (F0 m pc ls st) rest (sx_Qi g E H As.toArray) E) (hS : sx_S g E F H0 H locs)
    (k : ∀ (x : Int32) (H1 : Heap) (locs1 : List Loc), sx_S g E F H0 H1 locs1 → W p l e R s m args below meth c H1 locs1 cells slots Q (F0 m (pc + 3) ls (.int x :: rest))) : W p l e R s m args below meth c H locs cells slots Q (F0 m pc ls st) :=
  va_calli hr (sx_vS hS) (fun _ _ h => hS.2.1 _ h) (fun _ h => hS.2.1 _ h) (fun r u t H1 locs1 ht hvm hw hB hz hk hS1 => k r H1 locs1 (sx_Sm hS (ht ▸ hB) hS1))
theorem sx_gl (hr : va_Run p l e R s m args below meth c H locs cells slots 0 0 (F0 m pc ls st) rest (sx_Ql g E H As.toArray) E) (hS : sx_S g E F H0 H locs)
    (k : ∀ (x : Int64) (H1 : Heap) (locs1 : List Loc), sx_S g E F H0 H1 locs1 → W p l e R s m args below meth c H1 locs1 cells slots Q (F0 m (pc + 3) ls (.long x :: rest))) : W p l e R s m args below meth c H locs cells slots Q (F0 m pc ls st) :=
  va_calll hr (sx_vS hS) (fun _ _ h => hS.2.1 _ h) (fun _ h => hS.2.1 _ h) (fun r u t H1 locs1 ht hvm hw hB hz hk hS1 => k r H1 locs1 (sx_Sm hS (ht ▸ hB) hS1))
theorem sx_gn {post : Nat → Prop} (hr : va_Run p l e R s m args below meth c H locs cells slots 0 0 (F0 m pc ls st) rest (sx_Qn g E H post As.toArray) E) (hS : sx_S g E F H0 H locs)
    (k : ∀ (z : Nat) (_ : post z) (H1 : Heap) (locs1 : List Loc), sx_S g E F H0 H1 locs1 → W p l e R s m args below meth c H1 locs1 cells slots Q (F0 m (pc + 3) ls (.int (nI z) :: rest))) : W p l e R s m args below meth c H locs cells slots Q (F0 m pc ls st) :=
  va_calli hr (sx_vS hS) (fun _ _ h => hS.2.1 _ h) (fun _ h => hS.2.1 _ h) (fun r u t H1 locs1 ht hvm hw hB hz hk hS1 => by
    obtain ⟨z, hz, rfl⟩ := hw
    exact k z hz H1 locs1 (sx_Sm hS (ht ▸ hB) hS1))
end SXC
end
section
/-! objects of our classes: what is no array stays -/
theorem sx_noarr {s : State} {g : ClassId → FieldType → Prop} {D : va_G} {cl : List vw_C} {tys : List (ClassId × FieldType)} {ci : Nat} {q : vw_C} (hG : sx_G s g) (hK : va_K D cl tys s) (hc : cl[ci]? = some q) (t : FieldType) : ¬ g (D.1 ci) t := by
  intro h
  obtain ⟨k, h1, comp, h2⟩ := (hG _ _).mp h
  obtain ⟨hS, hfc, kC, hkC, hkind⟩ := hK.1 ci _ hc
  cases Option.some.inj (h1.symm.trans hkC)
  rw [hkind] at h2
  cases h2
theorem sx_J.ob {g : ClassId → FieldType → Prop} {E : Nat → Prop} {H0 H : Heap} {D : va_G} {cl : List vw_C} {o : Nat} {x : va_E} (h : sx_J g E H0 H) (hE : ¬ E o) (hP : va_P D cl [(o, x)] H0) : va_P D cl [(o, x)] H := by
  refine hP.kept (fun k q hk => ?_)
  match k, hk with
  | 0, hk =>
    cases hk
    exact h.2.1 o (hP 0 _ rfl).lt hE
section SXO
variable {p : Program} {l : Launch} {e : Env} {R : Room} {s : State} {m : MethodId} {args : Array Value} {below : List Frame} {meth : Method} {c : Code} {H H0 : Heap} {locs : List Loc} {cells slots : Nat} {Q : State → Prop}
variable {cc : ByteArray} {pc : Nat} {ls : Array Slot} {g : ClassId → FieldType → Prop} {E F : Nat → Prop} {D : va_G}
variable {y : MethodName} {bytes : ByteArray} {maxL nL n index : Nat} {ret : Option FieldType} {rm : Room} {own C : String} {As rest st : List Value} {Qc : Array Value → State → Outcome → State → Prop} {b ci : Nat} {fs : List Value} {T : u_T} {N : Nat}
theorem sx_alen {a k n0 : Nat} {t : FieldType} (hx : p.tables.exec = Jvm.exec) (hb : c.code = cc) (hG : sx_G s g) (hS : sx_S g E F H0 H locs) (ha : sx_A g t H0 a n0) (hL : sx_L H0 a k) (hdg : decode cc pc = .ok (.arraylength, 1))
    (kk : W p l e R s m args below meth c H locs cells slots Q (F0 m (pc + 1) ls (.int (nI k) :: rest))) : W p l e R s m args below meth c H locs cells slots Q (F0 m pc ls (.ref a :: rest)) := by
  obtain ⟨cell, h1, h2, h3, h4, h5, h6⟩ := hS.a ha
  obtain ⟨cell', q1, q2⟩ := hS.1.2.2.2 a k hL
  cases Option.some.inj (h1.symm.trans q1)
  exact W.alen (n := nI k) hx hb h1 (hG.arr h2 h3) (by rw [q2]; rfl) rfl rfl hdg kk
/-- a call of a method of the object b -/
theorem sx_runV (EE : sx_E p s m args c cc nL own D g) (hP : va_P D classes [(b, .inr (ci, fs))] H) (hc : classes[ci]? = some (C, T, N)) (hC : y.cls = C) (hM : Met l y (.code y bytes maxL ret :: G_) rm (sx_Pc (.ref b :: As) H D g) Qc 0 0 E) (hw : sx_w [.methodLink own index y, .instanceMethod y, .selects C y y, .initialized C, .code y bytes maxL ret] y n) (hn : As.length = n) (hrm : rm.cells = 0 ∧ rm.slots = 0) (hR : rm.frames + 1 ≤ R.frames ∧ 8 + (maxL + 11) + rm.locals ≤ R.locals) (hcs : cells ≤ R.cells ∧ slots ≤ R.slots)
    (hsz : ls.size = nL) (hst : st = As.reverse ++ .ref b :: rest) (hrest : (rest.map fun v => v.category).sum ≤ 8) (hdg : decode cc pc = .ok (.invokevirtual index, 3)) :
    va_Run p l e R s m args below meth c H locs cells slots 0 0 (F0 m pc ls st) rest (Qc (Value.ref b :: As).toArray) E := by
  obtain ⟨hx, hb, hml, hown, hts, hU⟩ := EE
  have hin : ∀ w ∈ ([.methodLink own index y, .instanceMethod y, .selects C y y, .initialized C, .code y bytes maxL ret] : List Cond), w ∈ G_ := fun w h => G_in (hw.1 w h)
  exact va_runV (As := As) (rest := rest) ⟨hx, hb, hml, hown, hts⟩ hM (cwV n hts (G_good (fun w h => by
      simp only [wsV, List.cons_append, List.nil_append, List.mem_cons] at h
      rcases h with rfl | rfl | rfl | rfl | rfl | h
      · exact hin _ (by simp)
      · exact hin _ (by simp)
      · exact hin _ (by simp)
      · exact hin _ (by simp)
      · exact hin _ (by simp)
      · exact h)) rfl hrm.1 hrm.2 ⟨hC, hw.2⟩ hR) ⟨sx_blind, va_recv hU.2.1 hP (ci := ci) (q0 := 0) hc rfl, fun U hU' hW => ⟨rfl, hU', hU.moved hW⟩⟩ rfl hn hsz hst (lv_room hrest) hdg hcs
/-- a field is read -/
theorem sx_get {o : Nat} {v : Value} {f d : String} (EE : sx_E p s m args c cc nL own D g) (hP : va_P D classes [(o, .inr (ci, fs))] H) (hc : classes[ci]? = some (C, T, N)) (hin : ∀ w ∈ u_ws C T N, w ∈ G_) (k : Nat) (hk : k < N) (hT : T k = (C, f, d, (T k).2.2.2)) (hl : Cond.fieldLink own index C f d ∈ lw_tbl ∧ sx_okw (Cond.fieldLink own index C f d) = true) (hv : fs[k]? = some v) (hdg : decode cc pc = .ok (.getfield index, 3))
    (kk : W p l e R s m args below meth c H locs cells slots Q (F0 m (pc + 3) ls (v :: rest))) : W p l e R s m args below meth c H locs cells slots Q (F0 m pc ls (.ref o :: rest)) := by
  obtain ⟨hx, hb, hml, hown, hts, hU⟩ := EE
  have e1 : (T k).1 = C := by rw [hT]
  have e2 : (T k).2.1 = f := by rw [hT]
  have e3 : (T k).2.2.1 = d := by rw [hT]
  exact va_get (D := D) (ci := ci) (v := v) (C := C) (T := T) (N := N) hx hb hts hin hown hU.2.1 hP 0 rfl hc k hk (ref := C) (by rw [e2, e3]; exact hts _ (G_in hl)) (fun x h => by rw [e1] at h; exact h) hv hdg kk
end SXO
/-! objects are written, cells are made -/
theorem sx_A.le {g : ClassId → FieldType → Prop} {t : FieldType} {H : Heap} {a n k : Nat} (h : sx_A g t H a n) (hk : k ≤ n) : sx_A g t H a k := by
  obtain ⟨cell, h1, h2, h3, h4, h5, h6⟩ := h
  exact ⟨cell, h1, h2, h3, h4, Nat.le_trans hk h5, fun j hj => h6 j (Nat.lt_of_lt_of_le hj hk)⟩
theorem sx_J.obj {g : ClassId → FieldType → Prop} {E : Nat → Prop} {H H1 : Heap} {o i : Nat} {cell : Cell} {v : Value} (hc : H[o]? = some cell) (hna : ∀ t, ¬ g cell.cls t) (e : H1[o]? = some (cell.setSlot i v)) (z : H1.size = H.size) (oq : ∀ q : Nat, q ≠ o → H1[q]? = H[q]?) (hE : E o) : sx_J g E H H1 := by
  refine ⟨Nat.le_of_eq z.symm, fun q _ h => oq q (fun x => h (x ▸ hE)), fun t b n hb => ?_, fun b n hb => ?_⟩
  · obtain ⟨c0, h1, h2, h3⟩ := hb
    by_cases hba : b = o
    · subst hba
      cases Option.some.inj (hc.symm.trans h1)
      exact absurd h2 (hna t)
    · exact ⟨c0, (oq b hba).trans h1, h2, h3⟩
  · obtain ⟨c0, h1, h2⟩ := hb
    by_cases hba : b = o
    · subst hba
      cases Option.some.inj (hc.symm.trans h1)
      exact ⟨_, e, by rw [k2_slotsz]; exact h2⟩
    · exact ⟨c0, (oq b hba).trans h1, h2⟩
section SXP
variable {p : Program} {l : Launch} {e : Env} {R : Room} {s : State} {m : MethodId} {args : Array Value} {below : List Frame} {meth : Method} {c : Code} {H H0 : Heap} {locs : List Loc} {cells slots : Nat} {Q : State → Prop}
variable {cc : ByteArray} {pc : Nat} {ls : Array Slot} {g : ClassId → FieldType → Prop} {E F : Nat → Prop} {D : va_G}
variable {nL index : Nat} {own C : String} {rest : List Value} {o ci : Nat} {fs : List Value} {T : u_T} {N : Nat}
/-- a field that isn't final is written -/
theorem sx_put {f d : String} {ty : FieldType} {v : Value} (EE : sx_E p s m args c cc nL own D g) (hP : va_P D classes [(o, .inr (ci, fs))] H) (hc : classes[ci]? = some (C, T, N)) (hin : ∀ w ∈ u_ws C T N, w ∈ G_) (ty0 : Nat → FieldType) (hty : ∀ k, k < N → parseFieldDescriptor (T k).2.2.1 = some (ty0 k)) (hnm : ∀ a, a < N → ∀ b, b < N → a ≠ b → (T a).2.1 ≠ (T b).2.1)
    (k : Nat) (hk : k < N) (hT : T k = (C, f, d, false)) (hl : Cond.fieldLink own index C f d ∈ lw_tbl ∧ sx_okw (Cond.fieldLink own index C f d) = true) (hd : parseFieldDescriptor d = some ty) (hn : narrow ty v = v) (hfit : fits ty v = true) (hlen : k < fs.length) (hE : E o) (hS : sx_S g E F H0 H locs) (hdg : decode cc pc = .ok (.putfield index, 3))
    (kk : ∀ (H1 : Heap) (locs1 : List Loc), va_P D classes [(o, .inr (ci, fs.set k v))] H1 → sx_J g E H H1 → (∀ q : Nat, q ≠ o → H1[q]? = H[q]?) → sx_S g E F H0 H1 locs1 → W p l e R s m args below meth c H1 locs1 cells slots Q (F0 m (pc + 3) ls rest)) : W p l e R s m args below meth c H locs cells slots Q (F0 m pc ls (v :: .ref o :: rest)) := by
  obtain ⟨hx, hb, hml, hown, hts, hU⟩ := EE
  have e1 : (T k).1 = C := by rw [hT]
  have e2 : (T k).2.1 = f := by rw [hT]
  have e3 : (T k).2.2.1 = d := by rw [hT]
  have e4 : (T k).2.2.2 = false := by rw [hT]
  have hK := hU.2.1
  have hap := va_apart (own := own) hts hin ty0 hty hnm hK hc
  obtain ⟨r, h1, cell, q1, q2, q3, q4⟩ := hP 0 _ rfl
  have hr : r = (C, T, N) := Option.some.inj (h1.symm.trans hc)
  subst hr
  obtain ⟨hS', hfc, kC, hkC, hkind⟩ := hK.1 ci _ hc
  obtain ⟨cf, kf, fi, fd, hi, hsl⟩ := hS' k hk
  have hlay := hts _ (hin _ (u_in_lay hk))
  unfold u_lay at hlay
  rw [if_neg (by rw [e4]; decide)] at hlay
  have hst := (u_facts hfc hkC (u_lays hts hin hk) hi).1
  have h6 := u_store hfc hkC hkind hlay hi (by rw [e3]; exact hd) hn hfit
  refine W.putK hx hb (f := fd) ⟨hown, hts _ (G_in hl), ⟨_, _, _, by rw [e1, e2, e3] at hi; exact hi⟩, hst⟩ (by rw [q2]; exact h6) q1 q3 (by rw [hsl]; exact k2_hasslot (q4 k hk)) rfl rfl hdg fun H' w1 w2 w3 => ?_
  have hJ : sx_J g E H H' := sx_J.obj q1 (fun t => by rw [q2]; exact sx_noarr hU.1 hK hc t) w1 w2 w3 hE
  rw [hsl] at w1
  refine kk H' _ ?_ hJ w3 ⟨hS.1.tr hJ, hS.2.1, fun q hq => by
    rcases List.mem_append.mp hq with h | h
    · exact hS.2.2 q h
    · rw [List.mem_singleton.mp h]; exact hS.2.1 _ hE⟩
  intro j q hj
  match j, hj with
  | 0, hj =>
    cases hj
    exact ⟨_, hc, t_OB.to (V := updV (vp_V fs) k v) ⟨_, w1, q2, q3, t_set q4 hap hk v⟩ (fun j _ => vp_updV_set hlen v j)⟩
/-- a final field is written in the constructor -/
theorem sx_putF {f d : String} {ty : FieldType} {v : Value} (EE : sx_E p s m args c cc nL C D g) (hin2 : meth.name = "<init>") (hP : va_P D classes [(o, .inr (ci, fs))] H) (hc : classes[ci]? = some (C, T, N)) (hin : ∀ w ∈ u_ws C T N, w ∈ G_) (ty0 : Nat → FieldType) (hty : ∀ k, k < N → parseFieldDescriptor (T k).2.2.1 = some (ty0 k)) (hnm : ∀ a, a < N → ∀ b, b < N → a ≠ b → (T a).2.1 ≠ (T b).2.1)
    (k : Nat) (hk : k < N) (hT : T k = (C, f, d, true)) (hl : Cond.fieldLink C index C f d ∈ lw_tbl ∧ sx_okw (Cond.fieldLink C index C f d) = true) (hd : parseFieldDescriptor d = some ty) (hn : narrow ty v = v) (hfit : fits ty v = true) (hlen : k < fs.length) (hE : E o) (hS : sx_S g E F H0 H locs) (hdg : decode cc pc = .ok (.putfield index, 3))
    (kk : ∀ (H1 : Heap) (locs1 : List Loc), va_P D classes [(o, .inr (ci, fs.set k v))] H1 → sx_J g E H H1 → (∀ q : Nat, q ≠ o → H1[q]? = H[q]?) → sx_S g E F H0 H1 locs1 → W p l e R s m args below meth c H1 locs1 cells slots Q (F0 m (pc + 3) ls rest)) : W p l e R s m args below meth c H locs cells slots Q (F0 m pc ls (v :: .ref o :: rest)) := by
  obtain ⟨hx, hb, hml, hown, hts, hU⟩ := EE
  have e1 : (T k).1 = C := by rw [hT]
  have e2 : (T k).2.1 = f := by rw [hT]
  have e3 : (T k).2.2.1 = d := by rw [hT]
  have e4 : (T k).2.2.2 = true := by rw [hT]
  have hK := hU.2.1
  have hap := va_apart (own := C) hts hin ty0 hty hnm hK hc
  obtain ⟨r, h1, cell, q1, q2, q3, q4⟩ := hP 0 _ rfl
  have hr : r = (C, T, N) := Option.some.inj (h1.symm.trans hc)
  subst hr
  obtain ⟨hS', hfc, kC, hkC, hkind⟩ := hK.1 ci _ hc
  obtain ⟨cf, kf, fi, fd, hi, hsl⟩ := hS' k hk
  have hlay := hts _ (hin _ (u_in_lay hk))
  unfold u_lay at hlay
  rw [if_pos e4] at hlay
  have hst := (u_facts hfc hkC (u_lays hts hin hk) hi).1
  have hcf : m.cls = cf := by
    obtain ⟨_, _, c', _, _, _, -, -, hf', -, -, -, hown2, -⟩ := Cond.laysFinal_spec hlay
    have e5 : c' = cf := by have := hi.symm.trans hf'; simp at this; exact this.1.symm
    rw [e1] at hown2
    rw [← e5]; exact Option.some.inj (hown.symm.trans hown2)
  have h6 := u_fits hfc hkC hkind (Or.inr hlay) hi (by rw [e3]; exact hd) hn hfit
  refine W.putFinK hx hb hown (hts _ (G_in hl)) (by rw [e1, e2, e3] at hi; exact hi) hst hcf hin2 (by rw [q2]; exact h6) q1 q3 (by rw [hsl]; exact k2_hasslot (q4 k hk)) rfl rfl hdg fun H' w1 w2 w3 => ?_
  have hJ : sx_J g E H H' := sx_J.obj q1 (fun t => by rw [q2]; exact sx_noarr hU.1 hK hc t) w1 w2 w3 hE
  rw [hsl] at w1
  refine kk H' _ ?_ hJ w3 ⟨hS.1.tr hJ, hS.2.1, fun q hq => by
    rcases List.mem_append.mp hq with h | h
    · exact hS.2.2 q h
    · rw [List.mem_singleton.mp h]; exact hS.2.1 _ hE⟩
  intro j q hj
  match j, hj with
  | 0, hj =>
    cases hj
    exact ⟨_, hc, t_OB.to (V := updV (vp_V fs) k v) ⟨_, w1, q2, q3, t_set q4 hap hk v⟩ (fun j _ => vp_updV_set hlen v j)⟩
/-- an array is made -/
theorem sx_newa {t : ArrayType} {ty : FieldType} {n cells' slots' : Nat} (hx : p.tables.exec = Jvm.exec) (hb : c.code = cc) (hG : sx_G s g) (hts : ∀ w ∈ G_, w.before args s = true) (hty : newarray.typeOf t = ty) (hp : ty = .long ∨ ty = .byte ∨ ty = .int) (hw : Cond.arrayClass ty ∈ lw_tbl) (hn : n < 2 ^ 31) (hbytes : n * componentBytes ty ≤ 536870912) (hc1 : cells + 1 = cells') (hs1 : slots + n = slots') (hcells : cells' ≤ R.cells) (hslots : slots' ≤ R.slots) (hS : sx_S g E F H0 H locs) (hdg : decode cc pc = .ok (.newarray t, 2))
    (kk : ∀ (q : Nat) (H1 : Heap), H.size = q → sx_A g ty H1 q n → sx_L H1 q n → (∃ cA : ClassId, H1[q]? = some (arrV cA n (fun _ => defaultValue ty))) → sx_J g E H H1 → (∀ z : Nat, z < H.size → H1[z]? = H[z]?) → sx_S g E F H0 H1 locs → W p l e R s m args below meth c H1 locs cells' slots' Q (F0 m (pc + 2) ls (.ref q :: rest))) : W p l e R s m args below meth c H locs cells slots Q (F0 m pc ls (.int (nI n) :: rest)) := by
  subst hty
  subst hc1
  subst hs1
  refine W.newaK hx hb (hts _ (G_in ⟨hw, by simp [sx_okw]⟩)) (n := nI n) rfl hdg rfl (nI_pos hn) (nI_clamp hn) hbytes hcells hslots rfl (fun H' cA h1 h2 h3 h4 => ?_)
  have hJ : sx_J g E H H' := sx_J.grow (by omega) h3
  refine kk H.size H' rfl ?_ ⟨_, h1, arrV_size _ _ _⟩ ⟨cA, h1⟩ hJ h3 ⟨hS.1.tr hJ, hS.2⟩
  obtain ⟨w1, w2⟩ := h4 n (fun _ => defaultValue (newarray.typeOf t))
  refine ⟨_, h1, (hG _ _).mpr w2, w1, (fun h => by cases h), by rw [arrV_size]; exact Nat.le_refl _, fun j hj => ⟨_, arrV_read _ _ hj, ?_⟩⟩
  rcases hp with h | h | h <;> rw [h]
  · exact ⟨0, rfl⟩
  · exact ⟨0, rfl, by decide +kernel⟩
  · exact ⟨0, rfl⟩
end SXP
/-- the arrays that were made so far -/
def sx_AR (g : ClassId → FieldType → Prop) (H : Heap) (L : List (Nat × FieldType × Nat)) : Prop := ∀ q ∈ L, sx_A g q.2.1 H q.1 q.2.2 ∧ sx_L H q.1 q.2.2
theorem sx_AR.nil {g : ClassId → FieldType → Prop} {H : Heap} : sx_AR g H [] := fun q h => by cases h
theorem sx_AR.cons {g : ClassId → FieldType → Prop} {H : Heap} {L : List (Nat × FieldType × Nat)} {q : Nat} {t : FieldType} {n : Nat} (h : sx_AR g H L) (h1 : sx_A g t H q n) (h2 : sx_L H q n) : sx_AR g H ((q, t, n) :: L) := fun z hz => by
  rcases List.mem_cons.mp hz with rfl | hz
  · exact ⟨h1, h2⟩
  · exact h z hz
theorem sx_AR.kept {g : ClassId → FieldType → Prop} {E : Nat → Prop} {H H1 : Heap} {L : List (Nat × FieldType × Nat)} (h : sx_AR g H L) (hJ : sx_J g E H H1) : sx_AR g H1 L := fun z hz => ⟨hJ.2.2.1 _ _ _ (h z hz).1, hJ.2.2.2 _ _ (h z hz).2⟩
/-- the object is as it was: only new cells came -/
theorem va_P.grown {D : va_G} {cl : List vw_C} {ws : va_W} {H H1 : Heap} (h : va_P D cl ws H) (hk : ∀ z : Nat, z < H.size → H1[z]? = H[z]?) : va_P D cl ws H1 := h.kept (fun k q hq => hk q.1 (h k q hq).lt)
/-- an array of ints, all 0 -/
def zi_ (H : Heap) (a n : Nat) : Prop := ∃ cA : ClassId, H[a]? = some (arrV cA n (fun _ => .int 0))
theorem zi_.lt {H : Heap} {a n : Nat} (h : zi_ H a n) : a < H.size := by
  obtain ⟨cA, h⟩ := h
  exact (Array.getElem?_eq_some_iff.mp h).1
theorem zi_.kept {H H1 : Heap} {a n : Nat} (h : zi_ H a n) (e : H1[a]? = H[a]?) : zi_ H1 a n := by
  obtain ⟨cA, h⟩ := h
  exact ⟨cA, e.trans h⟩
theorem zi_.grown {H H1 : Heap} {a n : Nat} (h : zi_ H a n) (hk : ∀ z : Nat, z < H.size → H1[z]? = H[z]?) : zi_ H1 a n := h.kept (hk a h.lt)
section SXB
variable {l : Launch} {D : va_G} {g : ClassId → FieldType → Prop} {E : Nat → Prop} {H0 : Heap} {y : MethodName} {cc : ByteArray} {maxL : Nat} {own : String} {vs : List Value} {rm : Room}
/-- a method that makes mc cells of ms slots and ends with P of the heap -/
theorem sx_mva {mc ms : Nat} {P : Heap → Prop} (hy : plainName y.cls = true) (ho : y.cls = own) (hlen : (lg_sl vs).length ≤ maxL)
    (body : ∀ (p : Program) (e : Env) (s : State) (m : MethodId) (args : Array Value) (below : List Frame) (meth : Method) (c : Code) (Q : State → Prop) (ls : Array Slot), sx_E p s m args c cc maxL own D g → meth.name = y.name → lv_has ls maxL (lv_args 0 vs) →
      (∀ (H : Heap) (locs : List Loc) (ls : Array Slot) (pc : Nat), P H → sx_J g E H0 H → (∀ q ∈ locs, E q.base) → decode cc pc = .ok (.return_, 1) → W p l e rm s m args below meth c H locs mc ms Q (F0 m pc ls [])) → W p l e rm s m args below meth c H0 [] 0 0 Q (F0 m 0 ls [])) :
    Met l y (.code y cc maxL none :: G_) rm (sx_Pc vs H0 D g) (va_Qv (fun _ : Unit => True) (fun _ t => sx_J g E H0 t.heap ∧ P t.heap) E) mc ms E := by
  refine Met.ofW (cc := cc) (maxL := maxL) (ret := none) hy rfl ?_
  intro p e s m args below meth c s₁ B hml hv
  obtain ⟨rfl, hh, hU⟩ := hv
  have hl := lv_entry vs (n := maxL) hlen
  rw [lg_entry_eq]
  generalize (lg_sl vs ++ List.replicate (maxL - (lg_sl vs).length) Slot.unset).toArray = ls at hl ⊢
  have hb := B.bytes
  rw [hh]
  refine body p e s m _ below meth c _ ls ⟨B.exec, hb, hml, ho ▸ findClass_of_methodNamed B.named, fun w h => atoms_spec B.pre w (List.mem_cons_of_mem _ h), hU⟩ (name_of_methodNamed B.named B.method).1 hl (fun H locs ls pc hP hJ hlo hd => ?_)
  exact W.vret B.exec hb B.returns (fun t ht hW => ⟨⟨(), rfl, trivial, (by rw [← ht] at hJ hP; exact ⟨hJ, hP⟩)⟩, sx_F hh (by rw [ht]; exact hJ)⟩) hlo hd
end SXB
theorem i0_M : ∀ w ∈ u_ws R_M F_M 53, w ∈ lw_tbl ∧ sx_okw w = true := by decide +kernel
theorem i_M : ∀ w ∈ u_ws R_M F_M 53, w ∈ G_ := fun w h => G_in (i0_M w h)
theorem i0_K : ∀ w ∈ u_ws R_K F_K 12, w ∈ lw_tbl ∧ sx_okw w = true := by decide +kernel
theorem i_K : ∀ w ∈ u_ws R_K F_K 12, w ∈ G_ := fun w h => G_in (i0_K w h)
theorem i0_F : ∀ w ∈ u_ws R_F F_F 7, w ∈ lw_tbl ∧ sx_okw w = true := by decide +kernel
theorem i_F : ∀ w ∈ u_ws R_F F_F 7, w ∈ G_ := fun w h => G_in (i0_F w h)
theorem i0_La : ∀ w ∈ u_ws R_La F_La 12, w ∈ lw_tbl ∧ sx_okw w = true := by decide +kernel
theorem i_La : ∀ w ∈ u_ws R_La F_La 12, w ∈ G_ := fun w h => G_in (i0_La w h)
theorem i0_Pt : ∀ w ∈ u_ws R_Pt F_Pt 4, w ∈ lw_tbl ∧ sx_okw w = true := by decide +kernel
theorem i_Pt : ∀ w ∈ u_ws R_Pt F_Pt 4, w ∈ G_ := fun w h => G_in (i0_Pt w h)
theorem i0_Ad : ∀ w ∈ u_ws R_Ad F_Ad 4, w ∈ lw_tbl ∧ sx_okw w = true := by decide +kernel
theorem i_Ad : ∀ w ∈ u_ws R_Ad F_Ad 4, w ∈ G_ := fun w h => G_in (i0_Ad w h)
theorem i0_Ed : ∀ w ∈ u_ws R_Ed F_Ed 15, w ∈ lw_tbl ∧ sx_okw w = true := by decide +kernel
theorem i_Ed : ∀ w ∈ u_ws R_Ed F_Ed 15, w ∈ G_ := fun w h => G_in (i0_Ed w h)
theorem i0_Ha : ∀ w ∈ u_ws R_Ha F_Ha 5, w ∈ lw_tbl ∧ sx_okw w = true := by decide +kernel
theorem i_Ha : ∀ w ∈ u_ws R_Ha F_Ha 5, w ∈ G_ := fun w h => G_in (i0_Ha w h)
theorem i0_Or : ∀ w ∈ u_ws R_Or F_Or 1, w ∈ lw_tbl ∧ sx_okw w = true := by decide +kernel
theorem i_Or : ∀ w ∈ u_ws R_Or F_Or 1, w ∈ G_ := fun w h => G_in (i0_Or w h)
theorem i0_Ro : ∀ w ∈ u_ws R_Ro F_Ro 2, w ∈ lw_tbl ∧ sx_okw w = true := by decide +kernel
theorem i_Ro : ∀ w ∈ u_ws R_Ro F_Ro 2, w ∈ G_ := fun w h => G_in (i0_Ro w h)
theorem i0_Ke : ∀ w ∈ u_ws R_Ke F_Ke 5, w ∈ lw_tbl ∧ sx_okw w = true := by decide +kernel
theorem i_Ke : ∀ w ∈ u_ws R_Ke F_Ke 5, w ∈ G_ := fun w h => G_in (i0_Ke w h)
theorem i0_Si : ∀ w ∈ u_ws R_Si F_Si 9, w ∈ lw_tbl ∧ sx_okw w = true := by decide +kernel
theorem i_Si : ∀ w ∈ u_ws R_Si F_Si 9, w ∈ G_ := fun w h => G_in (i0_Si w h)
/-! the reference object: its arrays and numbers -/
def mo_arr : List (Nat × FieldType × Nat) := [(1, .byte, 65536), (2, .byte, 65536), (3, .byte, 64), (4, .byte, 3200), (9, .int, 6), (10, .long, 16), (11, .long, 256), (12, .long, 16), (13, .long, 256), (14, .long, 16), (15, .long, 16), (16, .long, 16), (17, .long, 16), (18, .long, 16), (19, .long, 16), (20, .long, 16), (21, .long, 16), (22, .long, 16), (23, .long, 16), (24, .long, 16), (25, .long, 16), (26, .long, 16), (27, .long, 16), (28, .long, 16), (29, .long, 16), (30, .long, 16), (31, .long, 16), (32, .long, 16), (33, .long, 16), (34, .long, 16), (35, .byte, 32), (36, .byte, 32), (37, .byte, 32), (38, .byte, 65664), (39, .int, 8), (40, .long, 32), (41, .long, 18), (42, .long, 16), (43, .long, 16), (44, .long, 17), (45, .long, 17), (46, .long, 80), (47, .long, 8), (48, .long, 80), (49, .long, 8), (50, .long, 8), (51, .long, 8), (52, .byte, 64)]
def mo_fs (r : Nat → Nat) (i : Nat → Int32) : List Value := [.int (i 0), .ref (r 1), .ref (r 2), .ref (r 3), .ref (r 4), .int (i 5), .int (i 6), .int (i 7), .int (i 8), .ref (r 9), .ref (r 10), .ref (r 11), .ref (r 12), .ref (r 13), .ref (r 14), .ref (r 15), .ref (r 16), .ref (r 17), .ref (r 18), .ref (r 19), .ref (r 20), .ref (r 21), .ref (r 22), .ref (r 23), .ref (r 24), .ref (r 25), .ref (r 26), .ref (r 27), .ref (r 28), .ref (r 29), .ref (r 30), .ref (r 31), .ref (r 32), .ref (r 33), .ref (r 34), .ref (r 35), .ref (r 36), .ref (r 37), .ref (r 38), .ref (r 39), .ref (r 40), .ref (r 41), .ref (r 42), .ref (r 43), .ref (r 44), .ref (r 45), .ref (r 46), .ref (r 47), .ref (r 48), .ref (r 49), .ref (r 50), .ref (r 51), .ref (r 52)]
def mo_ (D : va_G) (g : ClassId → FieldType → Prop) (H : Heap) (o : Nat) (r : Nat → Nat) (i : Nat → Int32) : Prop := va_P D classes [(o, .inr (0, mo_fs r i))] H ∧ ∀ q ∈ mo_arr, sx_A g q.2.1 H (r q.1) q.2.2
theorem mo_.kept {D : va_G} {g : ClassId → FieldType → Prop} {E : Nat → Prop} {H0 H : Heap} {o : Nat} {r : Nat → Nat} {i : Nat → Int32} (h : mo_ D g H0 o r i) (hJ : sx_J g E H0 H) (hE : ¬ E o) : mo_ D g H o r i := ⟨hJ.ob hE h.1, fun q hq => hJ.2.2.1 _ _ _ (h.2 q hq)⟩
def mo_wr : List (Nat × FieldType × Nat) := [(10, .long, 16), (11, .long, 256), (12, .long, 16), (13, .long, 256), (14, .long, 16), (15, .long, 16), (16, .long, 16), (17, .long, 16), (18, .long, 16), (19, .long, 16), (20, .long, 16), (21, .long, 16), (22, .long, 16), (23, .long, 16), (24, .long, 16), (25, .long, 16), (26, .long, 16), (27, .long, 16), (28, .long, 16), (29, .long, 16), (30, .long, 16), (31, .long, 16), (32, .long, 16), (33, .long, 16), (34, .long, 16), (35, .byte, 32), (36, .byte, 32), (37, .byte, 32), (38, .byte, 65664), (39, .int, 8), (40, .long, 32), (41, .long, 18), (42, .long, 16), (43, .long, 16), (44, .long, 17), (45, .long, 17), (46, .long, 80), (47, .long, 8), (48, .long, 80), (49, .long, 8), (50, .long, 8), (51, .long, 8), (52, .byte, 64)]
theorem mo_1 {D : va_G} {g : ClassId → FieldType → Prop} {H : Heap} {o : Nat} {r : Nat → Nat} {i : Nat → Int32} (h : mo_ D g H o r i) : sx_A g .byte H (r 1) 65536 := h.2 (1, .byte, 65536) (by decide +kernel)
theorem mo_2 {D : va_G} {g : ClassId → FieldType → Prop} {H : Heap} {o : Nat} {r : Nat → Nat} {i : Nat → Int32} (h : mo_ D g H o r i) : sx_A g .byte H (r 2) 65536 := h.2 (2, .byte, 65536) (by decide +kernel)
theorem mo_3 {D : va_G} {g : ClassId → FieldType → Prop} {H : Heap} {o : Nat} {r : Nat → Nat} {i : Nat → Int32} (h : mo_ D g H o r i) : sx_A g .byte H (r 3) 64 := h.2 (3, .byte, 64) (by decide +kernel)
theorem mo_4 {D : va_G} {g : ClassId → FieldType → Prop} {H : Heap} {o : Nat} {r : Nat → Nat} {i : Nat → Int32} (h : mo_ D g H o r i) : sx_A g .byte H (r 4) 3200 := h.2 (4, .byte, 3200) (by decide +kernel)
theorem mo_9 {D : va_G} {g : ClassId → FieldType → Prop} {H : Heap} {o : Nat} {r : Nat → Nat} {i : Nat → Int32} (h : mo_ D g H o r i) : sx_A g .int H (r 9) 6 := h.2 (9, .int, 6) (by decide +kernel)
theorem mo_10 {D : va_G} {g : ClassId → FieldType → Prop} {H : Heap} {o : Nat} {r : Nat → Nat} {i : Nat → Int32} (h : mo_ D g H o r i) : sx_A g .long H (r 10) 16 := h.2 (10, .long, 16) (by decide +kernel)
theorem mow_10 {E : Nat → Prop} {r : Nat → Nat} (h : ∀ q ∈ mo_wr, E (r q.1)) : E (r 10) := h (10, .long, 16) (by decide +kernel)
theorem mo_11 {D : va_G} {g : ClassId → FieldType → Prop} {H : Heap} {o : Nat} {r : Nat → Nat} {i : Nat → Int32} (h : mo_ D g H o r i) : sx_A g .long H (r 11) 256 := h.2 (11, .long, 256) (by decide +kernel)
theorem mow_11 {E : Nat → Prop} {r : Nat → Nat} (h : ∀ q ∈ mo_wr, E (r q.1)) : E (r 11) := h (11, .long, 256) (by decide +kernel)
theorem mo_12 {D : va_G} {g : ClassId → FieldType → Prop} {H : Heap} {o : Nat} {r : Nat → Nat} {i : Nat → Int32} (h : mo_ D g H o r i) : sx_A g .long H (r 12) 16 := h.2 (12, .long, 16) (by decide +kernel)
theorem mow_12 {E : Nat → Prop} {r : Nat → Nat} (h : ∀ q ∈ mo_wr, E (r q.1)) : E (r 12) := h (12, .long, 16) (by decide +kernel)
theorem mo_13 {D : va_G} {g : ClassId → FieldType → Prop} {H : Heap} {o : Nat} {r : Nat → Nat} {i : Nat → Int32} (h : mo_ D g H o r i) : sx_A g .long H (r 13) 256 := h.2 (13, .long, 256) (by decide +kernel)
theorem mow_13 {E : Nat → Prop} {r : Nat → Nat} (h : ∀ q ∈ mo_wr, E (r q.1)) : E (r 13) := h (13, .long, 256) (by decide +kernel)
theorem mo_14 {D : va_G} {g : ClassId → FieldType → Prop} {H : Heap} {o : Nat} {r : Nat → Nat} {i : Nat → Int32} (h : mo_ D g H o r i) : sx_A g .long H (r 14) 16 := h.2 (14, .long, 16) (by decide +kernel)
theorem mow_14 {E : Nat → Prop} {r : Nat → Nat} (h : ∀ q ∈ mo_wr, E (r q.1)) : E (r 14) := h (14, .long, 16) (by decide +kernel)
theorem mo_15 {D : va_G} {g : ClassId → FieldType → Prop} {H : Heap} {o : Nat} {r : Nat → Nat} {i : Nat → Int32} (h : mo_ D g H o r i) : sx_A g .long H (r 15) 16 := h.2 (15, .long, 16) (by decide +kernel)
theorem mow_15 {E : Nat → Prop} {r : Nat → Nat} (h : ∀ q ∈ mo_wr, E (r q.1)) : E (r 15) := h (15, .long, 16) (by decide +kernel)
theorem mo_16 {D : va_G} {g : ClassId → FieldType → Prop} {H : Heap} {o : Nat} {r : Nat → Nat} {i : Nat → Int32} (h : mo_ D g H o r i) : sx_A g .long H (r 16) 16 := h.2 (16, .long, 16) (by decide +kernel)
theorem mow_16 {E : Nat → Prop} {r : Nat → Nat} (h : ∀ q ∈ mo_wr, E (r q.1)) : E (r 16) := h (16, .long, 16) (by decide +kernel)
theorem mo_17 {D : va_G} {g : ClassId → FieldType → Prop} {H : Heap} {o : Nat} {r : Nat → Nat} {i : Nat → Int32} (h : mo_ D g H o r i) : sx_A g .long H (r 17) 16 := h.2 (17, .long, 16) (by decide +kernel)
theorem mow_17 {E : Nat → Prop} {r : Nat → Nat} (h : ∀ q ∈ mo_wr, E (r q.1)) : E (r 17) := h (17, .long, 16) (by decide +kernel)
theorem mo_18 {D : va_G} {g : ClassId → FieldType → Prop} {H : Heap} {o : Nat} {r : Nat → Nat} {i : Nat → Int32} (h : mo_ D g H o r i) : sx_A g .long H (r 18) 16 := h.2 (18, .long, 16) (by decide +kernel)
theorem mow_18 {E : Nat → Prop} {r : Nat → Nat} (h : ∀ q ∈ mo_wr, E (r q.1)) : E (r 18) := h (18, .long, 16) (by decide +kernel)
theorem mo_19 {D : va_G} {g : ClassId → FieldType → Prop} {H : Heap} {o : Nat} {r : Nat → Nat} {i : Nat → Int32} (h : mo_ D g H o r i) : sx_A g .long H (r 19) 16 := h.2 (19, .long, 16) (by decide +kernel)
theorem mow_19 {E : Nat → Prop} {r : Nat → Nat} (h : ∀ q ∈ mo_wr, E (r q.1)) : E (r 19) := h (19, .long, 16) (by decide +kernel)
theorem mo_20 {D : va_G} {g : ClassId → FieldType → Prop} {H : Heap} {o : Nat} {r : Nat → Nat} {i : Nat → Int32} (h : mo_ D g H o r i) : sx_A g .long H (r 20) 16 := h.2 (20, .long, 16) (by decide +kernel)
theorem mow_20 {E : Nat → Prop} {r : Nat → Nat} (h : ∀ q ∈ mo_wr, E (r q.1)) : E (r 20) := h (20, .long, 16) (by decide +kernel)
theorem mo_21 {D : va_G} {g : ClassId → FieldType → Prop} {H : Heap} {o : Nat} {r : Nat → Nat} {i : Nat → Int32} (h : mo_ D g H o r i) : sx_A g .long H (r 21) 16 := h.2 (21, .long, 16) (by decide +kernel)
theorem mow_21 {E : Nat → Prop} {r : Nat → Nat} (h : ∀ q ∈ mo_wr, E (r q.1)) : E (r 21) := h (21, .long, 16) (by decide +kernel)
theorem mo_22 {D : va_G} {g : ClassId → FieldType → Prop} {H : Heap} {o : Nat} {r : Nat → Nat} {i : Nat → Int32} (h : mo_ D g H o r i) : sx_A g .long H (r 22) 16 := h.2 (22, .long, 16) (by decide +kernel)
theorem mow_22 {E : Nat → Prop} {r : Nat → Nat} (h : ∀ q ∈ mo_wr, E (r q.1)) : E (r 22) := h (22, .long, 16) (by decide +kernel)
theorem mo_23 {D : va_G} {g : ClassId → FieldType → Prop} {H : Heap} {o : Nat} {r : Nat → Nat} {i : Nat → Int32} (h : mo_ D g H o r i) : sx_A g .long H (r 23) 16 := h.2 (23, .long, 16) (by decide +kernel)
theorem mow_23 {E : Nat → Prop} {r : Nat → Nat} (h : ∀ q ∈ mo_wr, E (r q.1)) : E (r 23) := h (23, .long, 16) (by decide +kernel)
theorem mo_24 {D : va_G} {g : ClassId → FieldType → Prop} {H : Heap} {o : Nat} {r : Nat → Nat} {i : Nat → Int32} (h : mo_ D g H o r i) : sx_A g .long H (r 24) 16 := h.2 (24, .long, 16) (by decide +kernel)
theorem mow_24 {E : Nat → Prop} {r : Nat → Nat} (h : ∀ q ∈ mo_wr, E (r q.1)) : E (r 24) := h (24, .long, 16) (by decide +kernel)
theorem mo_25 {D : va_G} {g : ClassId → FieldType → Prop} {H : Heap} {o : Nat} {r : Nat → Nat} {i : Nat → Int32} (h : mo_ D g H o r i) : sx_A g .long H (r 25) 16 := h.2 (25, .long, 16) (by decide +kernel)
theorem mow_25 {E : Nat → Prop} {r : Nat → Nat} (h : ∀ q ∈ mo_wr, E (r q.1)) : E (r 25) := h (25, .long, 16) (by decide +kernel)
theorem mo_26 {D : va_G} {g : ClassId → FieldType → Prop} {H : Heap} {o : Nat} {r : Nat → Nat} {i : Nat → Int32} (h : mo_ D g H o r i) : sx_A g .long H (r 26) 16 := h.2 (26, .long, 16) (by decide +kernel)
theorem mow_26 {E : Nat → Prop} {r : Nat → Nat} (h : ∀ q ∈ mo_wr, E (r q.1)) : E (r 26) := h (26, .long, 16) (by decide +kernel)
theorem mo_27 {D : va_G} {g : ClassId → FieldType → Prop} {H : Heap} {o : Nat} {r : Nat → Nat} {i : Nat → Int32} (h : mo_ D g H o r i) : sx_A g .long H (r 27) 16 := h.2 (27, .long, 16) (by decide +kernel)
theorem mow_27 {E : Nat → Prop} {r : Nat → Nat} (h : ∀ q ∈ mo_wr, E (r q.1)) : E (r 27) := h (27, .long, 16) (by decide +kernel)
theorem mo_28 {D : va_G} {g : ClassId → FieldType → Prop} {H : Heap} {o : Nat} {r : Nat → Nat} {i : Nat → Int32} (h : mo_ D g H o r i) : sx_A g .long H (r 28) 16 := h.2 (28, .long, 16) (by decide +kernel)
theorem mow_28 {E : Nat → Prop} {r : Nat → Nat} (h : ∀ q ∈ mo_wr, E (r q.1)) : E (r 28) := h (28, .long, 16) (by decide +kernel)
theorem mo_29 {D : va_G} {g : ClassId → FieldType → Prop} {H : Heap} {o : Nat} {r : Nat → Nat} {i : Nat → Int32} (h : mo_ D g H o r i) : sx_A g .long H (r 29) 16 := h.2 (29, .long, 16) (by decide +kernel)
theorem mow_29 {E : Nat → Prop} {r : Nat → Nat} (h : ∀ q ∈ mo_wr, E (r q.1)) : E (r 29) := h (29, .long, 16) (by decide +kernel)
theorem mo_30 {D : va_G} {g : ClassId → FieldType → Prop} {H : Heap} {o : Nat} {r : Nat → Nat} {i : Nat → Int32} (h : mo_ D g H o r i) : sx_A g .long H (r 30) 16 := h.2 (30, .long, 16) (by decide +kernel)
theorem mow_30 {E : Nat → Prop} {r : Nat → Nat} (h : ∀ q ∈ mo_wr, E (r q.1)) : E (r 30) := h (30, .long, 16) (by decide +kernel)
theorem mo_31 {D : va_G} {g : ClassId → FieldType → Prop} {H : Heap} {o : Nat} {r : Nat → Nat} {i : Nat → Int32} (h : mo_ D g H o r i) : sx_A g .long H (r 31) 16 := h.2 (31, .long, 16) (by decide +kernel)
theorem mow_31 {E : Nat → Prop} {r : Nat → Nat} (h : ∀ q ∈ mo_wr, E (r q.1)) : E (r 31) := h (31, .long, 16) (by decide +kernel)
theorem mo_32 {D : va_G} {g : ClassId → FieldType → Prop} {H : Heap} {o : Nat} {r : Nat → Nat} {i : Nat → Int32} (h : mo_ D g H o r i) : sx_A g .long H (r 32) 16 := h.2 (32, .long, 16) (by decide +kernel)
theorem mow_32 {E : Nat → Prop} {r : Nat → Nat} (h : ∀ q ∈ mo_wr, E (r q.1)) : E (r 32) := h (32, .long, 16) (by decide +kernel)
theorem mo_33 {D : va_G} {g : ClassId → FieldType → Prop} {H : Heap} {o : Nat} {r : Nat → Nat} {i : Nat → Int32} (h : mo_ D g H o r i) : sx_A g .long H (r 33) 16 := h.2 (33, .long, 16) (by decide +kernel)
theorem mow_33 {E : Nat → Prop} {r : Nat → Nat} (h : ∀ q ∈ mo_wr, E (r q.1)) : E (r 33) := h (33, .long, 16) (by decide +kernel)
theorem mo_34 {D : va_G} {g : ClassId → FieldType → Prop} {H : Heap} {o : Nat} {r : Nat → Nat} {i : Nat → Int32} (h : mo_ D g H o r i) : sx_A g .long H (r 34) 16 := h.2 (34, .long, 16) (by decide +kernel)
theorem mow_34 {E : Nat → Prop} {r : Nat → Nat} (h : ∀ q ∈ mo_wr, E (r q.1)) : E (r 34) := h (34, .long, 16) (by decide +kernel)
theorem mo_35 {D : va_G} {g : ClassId → FieldType → Prop} {H : Heap} {o : Nat} {r : Nat → Nat} {i : Nat → Int32} (h : mo_ D g H o r i) : sx_A g .byte H (r 35) 32 := h.2 (35, .byte, 32) (by decide +kernel)
theorem mow_35 {E : Nat → Prop} {r : Nat → Nat} (h : ∀ q ∈ mo_wr, E (r q.1)) : E (r 35) := h (35, .byte, 32) (by decide +kernel)
theorem mo_36 {D : va_G} {g : ClassId → FieldType → Prop} {H : Heap} {o : Nat} {r : Nat → Nat} {i : Nat → Int32} (h : mo_ D g H o r i) : sx_A g .byte H (r 36) 32 := h.2 (36, .byte, 32) (by decide +kernel)
theorem mow_36 {E : Nat → Prop} {r : Nat → Nat} (h : ∀ q ∈ mo_wr, E (r q.1)) : E (r 36) := h (36, .byte, 32) (by decide +kernel)
theorem mo_37 {D : va_G} {g : ClassId → FieldType → Prop} {H : Heap} {o : Nat} {r : Nat → Nat} {i : Nat → Int32} (h : mo_ D g H o r i) : sx_A g .byte H (r 37) 32 := h.2 (37, .byte, 32) (by decide +kernel)
theorem mow_37 {E : Nat → Prop} {r : Nat → Nat} (h : ∀ q ∈ mo_wr, E (r q.1)) : E (r 37) := h (37, .byte, 32) (by decide +kernel)
theorem mo_38 {D : va_G} {g : ClassId → FieldType → Prop} {H : Heap} {o : Nat} {r : Nat → Nat} {i : Nat → Int32} (h : mo_ D g H o r i) : sx_A g .byte H (r 38) 65664 := h.2 (38, .byte, 65664) (by decide +kernel)
theorem mow_38 {E : Nat → Prop} {r : Nat → Nat} (h : ∀ q ∈ mo_wr, E (r q.1)) : E (r 38) := h (38, .byte, 65664) (by decide +kernel)
theorem mo_39 {D : va_G} {g : ClassId → FieldType → Prop} {H : Heap} {o : Nat} {r : Nat → Nat} {i : Nat → Int32} (h : mo_ D g H o r i) : sx_A g .int H (r 39) 8 := h.2 (39, .int, 8) (by decide +kernel)
theorem mow_39 {E : Nat → Prop} {r : Nat → Nat} (h : ∀ q ∈ mo_wr, E (r q.1)) : E (r 39) := h (39, .int, 8) (by decide +kernel)
theorem mo_40 {D : va_G} {g : ClassId → FieldType → Prop} {H : Heap} {o : Nat} {r : Nat → Nat} {i : Nat → Int32} (h : mo_ D g H o r i) : sx_A g .long H (r 40) 32 := h.2 (40, .long, 32) (by decide +kernel)
theorem mow_40 {E : Nat → Prop} {r : Nat → Nat} (h : ∀ q ∈ mo_wr, E (r q.1)) : E (r 40) := h (40, .long, 32) (by decide +kernel)
theorem mo_41 {D : va_G} {g : ClassId → FieldType → Prop} {H : Heap} {o : Nat} {r : Nat → Nat} {i : Nat → Int32} (h : mo_ D g H o r i) : sx_A g .long H (r 41) 18 := h.2 (41, .long, 18) (by decide +kernel)
theorem mow_41 {E : Nat → Prop} {r : Nat → Nat} (h : ∀ q ∈ mo_wr, E (r q.1)) : E (r 41) := h (41, .long, 18) (by decide +kernel)
theorem mo_42 {D : va_G} {g : ClassId → FieldType → Prop} {H : Heap} {o : Nat} {r : Nat → Nat} {i : Nat → Int32} (h : mo_ D g H o r i) : sx_A g .long H (r 42) 16 := h.2 (42, .long, 16) (by decide +kernel)
theorem mow_42 {E : Nat → Prop} {r : Nat → Nat} (h : ∀ q ∈ mo_wr, E (r q.1)) : E (r 42) := h (42, .long, 16) (by decide +kernel)
theorem mo_43 {D : va_G} {g : ClassId → FieldType → Prop} {H : Heap} {o : Nat} {r : Nat → Nat} {i : Nat → Int32} (h : mo_ D g H o r i) : sx_A g .long H (r 43) 16 := h.2 (43, .long, 16) (by decide +kernel)
theorem mow_43 {E : Nat → Prop} {r : Nat → Nat} (h : ∀ q ∈ mo_wr, E (r q.1)) : E (r 43) := h (43, .long, 16) (by decide +kernel)
theorem mo_44 {D : va_G} {g : ClassId → FieldType → Prop} {H : Heap} {o : Nat} {r : Nat → Nat} {i : Nat → Int32} (h : mo_ D g H o r i) : sx_A g .long H (r 44) 17 := h.2 (44, .long, 17) (by decide +kernel)
theorem mow_44 {E : Nat → Prop} {r : Nat → Nat} (h : ∀ q ∈ mo_wr, E (r q.1)) : E (r 44) := h (44, .long, 17) (by decide +kernel)
theorem mo_45 {D : va_G} {g : ClassId → FieldType → Prop} {H : Heap} {o : Nat} {r : Nat → Nat} {i : Nat → Int32} (h : mo_ D g H o r i) : sx_A g .long H (r 45) 17 := h.2 (45, .long, 17) (by decide +kernel)
theorem mow_45 {E : Nat → Prop} {r : Nat → Nat} (h : ∀ q ∈ mo_wr, E (r q.1)) : E (r 45) := h (45, .long, 17) (by decide +kernel)
theorem mo_46 {D : va_G} {g : ClassId → FieldType → Prop} {H : Heap} {o : Nat} {r : Nat → Nat} {i : Nat → Int32} (h : mo_ D g H o r i) : sx_A g .long H (r 46) 80 := h.2 (46, .long, 80) (by decide +kernel)
theorem mow_46 {E : Nat → Prop} {r : Nat → Nat} (h : ∀ q ∈ mo_wr, E (r q.1)) : E (r 46) := h (46, .long, 80) (by decide +kernel)
theorem mo_47 {D : va_G} {g : ClassId → FieldType → Prop} {H : Heap} {o : Nat} {r : Nat → Nat} {i : Nat → Int32} (h : mo_ D g H o r i) : sx_A g .long H (r 47) 8 := h.2 (47, .long, 8) (by decide +kernel)
theorem mow_47 {E : Nat → Prop} {r : Nat → Nat} (h : ∀ q ∈ mo_wr, E (r q.1)) : E (r 47) := h (47, .long, 8) (by decide +kernel)
theorem mo_48 {D : va_G} {g : ClassId → FieldType → Prop} {H : Heap} {o : Nat} {r : Nat → Nat} {i : Nat → Int32} (h : mo_ D g H o r i) : sx_A g .long H (r 48) 80 := h.2 (48, .long, 80) (by decide +kernel)
theorem mow_48 {E : Nat → Prop} {r : Nat → Nat} (h : ∀ q ∈ mo_wr, E (r q.1)) : E (r 48) := h (48, .long, 80) (by decide +kernel)
theorem mo_49 {D : va_G} {g : ClassId → FieldType → Prop} {H : Heap} {o : Nat} {r : Nat → Nat} {i : Nat → Int32} (h : mo_ D g H o r i) : sx_A g .long H (r 49) 8 := h.2 (49, .long, 8) (by decide +kernel)
theorem mow_49 {E : Nat → Prop} {r : Nat → Nat} (h : ∀ q ∈ mo_wr, E (r q.1)) : E (r 49) := h (49, .long, 8) (by decide +kernel)
theorem mo_50 {D : va_G} {g : ClassId → FieldType → Prop} {H : Heap} {o : Nat} {r : Nat → Nat} {i : Nat → Int32} (h : mo_ D g H o r i) : sx_A g .long H (r 50) 8 := h.2 (50, .long, 8) (by decide +kernel)
theorem mow_50 {E : Nat → Prop} {r : Nat → Nat} (h : ∀ q ∈ mo_wr, E (r q.1)) : E (r 50) := h (50, .long, 8) (by decide +kernel)
theorem mo_51 {D : va_G} {g : ClassId → FieldType → Prop} {H : Heap} {o : Nat} {r : Nat → Nat} {i : Nat → Int32} (h : mo_ D g H o r i) : sx_A g .long H (r 51) 8 := h.2 (51, .long, 8) (by decide +kernel)
theorem mow_51 {E : Nat → Prop} {r : Nat → Nat} (h : ∀ q ∈ mo_wr, E (r q.1)) : E (r 51) := h (51, .long, 8) (by decide +kernel)
theorem mo_52 {D : va_G} {g : ClassId → FieldType → Prop} {H : Heap} {o : Nat} {r : Nat → Nat} {i : Nat → Int32} (h : mo_ D g H o r i) : sx_A g .byte H (r 52) 64 := h.2 (52, .byte, 64) (by decide +kernel)
theorem mow_52 {E : Nat → Prop} {r : Nat → Nat} (h : ∀ q ∈ mo_wr, E (r q.1)) : E (r 52) := h (52, .byte, 64) (by decide +kernel)
end
section
/-! objects of the class: points, addends, the curve; private fields of a nest mate; static arrays -/
def o4_ (D : va_G) (g : ClassId → FieldType → Prop) (H : Heap) (ci o : Nat) (r : Nat → Nat) : Prop := va_P D classes [(o, .inr (ci, [.ref (r 0), .ref (r 1), .ref (r 2), .ref (r 3)]))] H ∧ ∀ k, k < 4 → sx_A g .long H (r k) 10 ∧ sx_L H (r k) 10
theorem o4_.kept {D : va_G} {g : ClassId → FieldType → Prop} {E : Nat → Prop} {H0 H : Heap} {ci o : Nat} {r : Nat → Nat} (h : o4_ D g H0 ci o r) (hJ : sx_J g E H0 H) (hn : ¬ E o) : o4_ D g H ci o r := ⟨hJ.ob hn h.1, fun k hk => ⟨hJ.2.2.1 _ _ _ (h.2 k hk).1, hJ.2.2.2 _ _ (h.2 k hk).2⟩⟩
def ed_ (D : va_G) (g : ClassId → FieldType → Prop) (H : Heap) (o : Nat) (r : Nat → Nat) : Prop := va_P D classes [(o, .inr (6, [.ref (r 0), .ref (r 1), .ref (r 2), .ref (r 3), .ref (r 4), .ref (r 5), .ref (r 6), .ref (r 7), .ref (r 8), .ref (r 9), .ref (r 10), .ref (r 11), .ref (r 12), .ref (r 13), .ref (r 14)]))] H ∧ ∀ k, 7 ≤ k → k < 15 → sx_A g .long H (r k) 10
theorem ed_.kept {D : va_G} {g : ClassId → FieldType → Prop} {E : Nat → Prop} {H0 H : Heap} {o : Nat} {r : Nat → Nat} (h : ed_ D g H0 o r) (hJ : sx_J g E H0 H) (hn : ¬ E o) : ed_ D g H o r := ⟨hJ.ob hn h.1, fun k h1 h2 => hJ.2.2.1 _ _ _ (h.2 k h1 h2)⟩
def ra_ (D : va_G) (g : ClassId → FieldType → Prop) (E : Nat → Prop) (H : Heap) (a : Nat) : Prop := ¬ E a ∧ ∃ cell : Cell, H[a]? = some cell ∧ g cell.cls (.object "CurveKeys$Addend") ∧ (∀ k, cell.vm ≠ .statics k) ∧ cell.vm ≠ .unknown ∧ 16 ≤ cell.slots.size ∧ ∀ j : Nat, j < 16 → ∃ (b : Nat) (r : Nat → Nat), cell.slots[j]? = some (.ref b) ∧ o4_ D g H 5 b r ∧ ¬ E b ∧ ∀ k, k < 4 → E (r k)
theorem ra_.kept {D : va_G} {g : ClassId → FieldType → Prop} {E : Nat → Prop} {H0 H : Heap} {a : Nat} (h : ra_ D g E H0 a) (hJ : sx_J g E H0 H) : ra_ D g E H a := by
  obtain ⟨h0, cell, h1, h2, h3, h4, h5, h6⟩ := h
  refine ⟨h0, cell, (hJ.2.1 a (Array.getElem?_eq_some_iff.mp h1).1 h0).trans h1, h2, h3, h4, h5, fun j hj => ?_⟩
  obtain ⟨b, r, q1, q2, q3, q4⟩ := h6 j hj
  exact ⟨b, r, q1, q2.kept hJ q3, q3, q4⟩
def st_H (D : va_G) (g : ClassId → FieldType → Prop) (E : Nat → Prop) (H : Heap) (t : Nat → Nat) : Prop := ¬ E (D.2 1000 0) ∧ (∃ cell : Cell, H[D.2 1000 0]? = some cell ∧ cell.vm.isStatics = true ∧ cell.slots[D.2 1000 1]? = some (.ref (t 1)) ∧ cell.slots[D.2 1000 2]? = some (.ref (t 2)) ∧ cell.slots[D.2 1000 3]? = some (.ref (t 3))) ∧ sx_A g .long H (t 1) 10 ∧ sx_A g .long H (t 2) 10 ∧ sx_A g .long H (t 3) 10
theorem st_H.kept {D : va_G} {g : ClassId → FieldType → Prop} {E : Nat → Prop} {H0 H : Heap} {t : Nat → Nat} (h : st_H D g E H0 t) (hJ : sx_J g E H0 H) : st_H D g E H t := by
  obtain ⟨h0, ⟨cell, h1, h2⟩, h3, h4, h5⟩ := h
  exact ⟨h0, ⟨cell, (hJ.2.1 _ (Array.getElem?_eq_some_iff.mp h1).1 h0).trans h1, h2⟩, hJ.2.2.1 _ _ _ h3, hJ.2.2.1 _ _ _ h4, hJ.2.2.1 _ _ _ h5⟩
theorem st_H.mono {D : va_G} {g : ClassId → FieldType → Prop} {E E' : Nat → Prop} {H : Heap} {t : Nat → Nat} (h : st_H D g E H t) (hE : ∀ q, E' q → E q) : st_H D g E' H t := ⟨fun z => h.1 (hE _ z), h.2⟩
/-- an object of ours is no array -/
theorem sx_nob {s : State} {g : ClassId → FieldType → Prop} {D : va_G} {cl : List vw_C} {tys : List (ClassId × FieldType)} {ci o n : Nat} {fs : List Value} {H : Heap} {t : FieldType} (hG : sx_G s g) (hK : va_K D cl tys s) (hP : va_P D cl [(o, .inr (ci, fs))] H) : ¬ sx_A g t H o n := by
  rintro ⟨c0, h1, h2, -⟩
  obtain ⟨r, q1, c1, q2, q3, -⟩ := hP 0 _ rfl
  cases Option.some.inj (h1.symm.trans q2)
  rw [q3] at h2
  exact sx_noarr hG hK q1 t h2
section SXQ
variable {p : Program} {l : Launch} {e : Env} {R : Room} {s : State} {m : MethodId} {args : Array Value} {below : List Frame} {meth : Method} {c : Code} {H H0 : Heap} {locs : List Loc} {cells slots : Nat} {Q : State → Prop}
variable {cc : ByteArray} {pc : Nat} {ls : Array Slot} {g : ClassId → FieldType → Prop} {E F : Nat → Prop} {D : va_G}
variable {nL index ci N : Nat} {own C host : String} {rest : List Value} {fs : List Value} {T : u_T}
/-- a private field of a nest mate is read -/
theorem sx_getN {o : Nat} {v : Value} {f d : String} (EE : sx_E p s m args c cc nL own D g) (hP : va_P D classes [(o, .inr (ci, fs))] H) (hc : classes[ci]? = some (C, T, N)) (hin : ∀ w ∈ u_ws C T N, w ∈ G_) (k : Nat) (hk : k < N) (hT : T k = (C, f, d, (T k).2.2.2)) (hl : Cond.fieldLinkNest own index C f d host ∈ lw_tbl) (hv : fs[k]? = some v) (hdg : decode cc pc = .ok (.getfield index, 3))
    (kk : W p l e R s m args below meth c H locs cells slots Q (F0 m (pc + 3) ls (v :: rest))) : W p l e R s m args below meth c H locs cells slots Q (F0 m pc ls (.ref o :: rest)) := by
  obtain ⟨hx, hb, hml, hown, hts, hU⟩ := EE
  have e1 : (T k).1 = C := by rw [hT]
  have e2 : (T k).2.1 = f := by rw [hT]
  have e3 : (T k).2.2.1 = d := by rw [hT]
  exact va_getN (D := D) (ci := ci) (v := v) (C := C) (T := T) (N := N) (host := host) hx hb hts hin hown hU.2.1 hP 0 rfl hc k hk (ref := C) (by rw [e2, e3]; exact va_Nw.use rfl (hU.2.2.1 _ hl rfl)) (fun x h => by rw [e1] at h; exact h) hv hdg kk
/-- a static field is read, its own class's and a nest mate's -/
theorem sx_gets {a sl : Nat} {v : Value} {cell : Cell} {f d : String} (EE : sx_E p s m args c cc nL own D g) (hf : st_f C f d a sl s) (hc : H[a]? = some cell) (hs : cell.vm.isStatics = true) (hv : cell.slots[sl]? = some v) (hl : Cond.fieldLink own index C f d ∈ lw_tbl ∧ sx_okw (Cond.fieldLink own index C f d) = true) (hdg : decode cc pc = .ok (.getstatic index, 3))
    (kk : W p l e R s m args below meth c H locs cells slots Q (F0 m (pc + 3) ls (v :: rest))) : W p l e R s m args below meth c H locs cells slots Q (F0 m pc ls rest) := by
  obtain ⟨hx, hb, hml, hown, hts, hU⟩ := EE
  obtain ⟨cf, kf, fi, fd, h1, h2, h3, h4, rfl⟩ := hf
  exact W.gets hx hb hown (hts _ (G_in hl)) h1 h2 h3 h4 hc (fun h => by rw [h] at hs; cases hs) hv rfl hdg kk
theorem sx_getsN {a sl : Nat} {v : Value} {cell : Cell} {f d : String} (EE : sx_E p s m args c cc nL own D g) (hf : st_f C f d a sl s) (hc : H[a]? = some cell) (hs : cell.vm.isStatics = true) (hv : cell.slots[sl]? = some v) (hl : Cond.fieldLinkNest own index C f d host ∈ lw_tbl) (hdg : decode cc pc = .ok (.getstatic index, 3))
    (kk : W p l e R s m args below meth c H locs cells slots Q (F0 m (pc + 3) ls (v :: rest))) : W p l e R s m args below meth c H locs cells slots Q (F0 m pc ls rest) := by
  obtain ⟨hx, hb, hml, hown, hts, hU⟩ := EE
  obtain ⟨cf, kf, fi, fd, h1, h2, h3, h4, rfl⟩ := hf
  exact va_WgetsN hx hb hown (va_Nw.use rfl (hU.2.2.1 _ hl rfl)) h1 h2 h3 h4 hc (fun h => by rw [h] at hs; cases hs) hv rfl hdg kk
/-- an addend out of the row -/
theorem sx_aald {a : Nat} {i : Nat} (hx : p.tables.exec = Jvm.exec) (hb : c.code = cc) (hG : sx_G s g) (hS : sx_S g E F H0 H locs) (ha : ra_ D g E H0 a) (hi : i < 16) (hdg : decode cc pc = .ok (.aaload, 1))
    (k : ∀ (b : Nat) (r : Nat → Nat), o4_ D g H0 5 b r → ¬ E b → (∀ k, k < 4 → E (r k)) → W p l e R s m args below meth c H locs cells slots Q (F0 m (pc + 1) ls (.ref b :: rest))) : W p l e R s m args below meth c H locs cells slots Q (F0 m pc ls (.int (nI i) :: .ref a :: rest)) := by
  obtain ⟨h0, cell, h1, h2, h3, h4, h5, h6⟩ := ha
  obtain ⟨b, r, q1, q2, q3, q4⟩ := h6 i hi
  have hz : (nI i).toNatClampNeg = i := nI_clamp (by omega)
  exact W.aald (ty := .object "CurveKeys$Addend") hx hb ((hS.1.2.1 a (Array.getElem?_eq_some_iff.mp h1).1 h0).trans h1) (hG.arr h2 h3) rfl h4 (by rw [hz]; rintro (z | z); exact nI_pos (by omega) z; omega) (by rw [hz]; exact q1) rfl rfl hdg (k b r q2 q3 q4)
end SXQ
def R_JA : String := "java/util/Arrays"
abbrev b_JA_fill : ByteArray := prog_30_method_101_code
def y_JA_fill : MethodName := ⟨R_JA, "fill", "([JJ)V"⟩
end
section
theorem d_M_copy_0 : decode b_M_copy 0 = .ok (.iconst 0, 1) := by decide +kernel
theorem d_M_copy_1 : decode b_M_copy 1 = .ok (.istore_n 2, 1) := by decide +kernel
theorem d_M_copy_2 : decode b_M_copy 2 = .ok (.iload_n 2, 1) := by decide +kernel
theorem d_M_copy_3 : decode b_M_copy 3 = .ok (.bipush 16, 2) := by decide +kernel
theorem d_M_copy_5 : decode b_M_copy 5 = .ok (.if_icmp .ge 15, 3) := by decide +kernel
theorem d_M_copy_8 : decode b_M_copy 8 = .ok (.aload_n 0, 1) := by decide +kernel
theorem d_M_copy_9 : decode b_M_copy 9 = .ok (.iload_n 2, 1) := by decide +kernel
theorem d_M_copy_10 : decode b_M_copy 10 = .ok (.aload_n 1, 1) := by decide +kernel
theorem d_M_copy_11 : decode b_M_copy 11 = .ok (.iload_n 2, 1) := by decide +kernel
theorem d_M_copy_12 : decode b_M_copy 12 = .ok (.laload, 1) := by decide +kernel
theorem d_M_copy_13 : decode b_M_copy 13 = .ok (.lastore, 1) := by decide +kernel
theorem d_M_copy_14 : decode b_M_copy 14 = .ok (.iinc 2 1, 3) := by decide +kernel
theorem d_M_copy_17 : decode b_M_copy 17 = .ok (.goto (-15), 3) := by decide +kernel
theorem d_M_copy_20 : decode b_M_copy 20 = .ok (.return_, 1) := by decide +kernel
theorem d_M_set_0 : decode b_M_set 0 = .ok (.iconst 0, 1) := by decide +kernel
theorem d_M_set_1 : decode b_M_set 1 = .ok (.istore_n 2, 1) := by decide +kernel
theorem d_M_set_2 : decode b_M_set 2 = .ok (.iload_n 2, 1) := by decide +kernel
theorem d_M_set_3 : decode b_M_set 3 = .ok (.bipush 16, 2) := by decide +kernel
theorem d_M_set_5 : decode b_M_set 5 = .ok (.if_icmp .ge 22, 3) := by decide +kernel
theorem d_M_set_8 : decode b_M_set 8 = .ok (.aload_n 0, 1) := by decide +kernel
theorem d_M_set_9 : decode b_M_set 9 = .ok (.iload_n 2, 1) := by decide +kernel
theorem d_M_set_10 : decode b_M_set 10 = .ok (.iload_n 2, 1) := by decide +kernel
theorem d_M_set_11 : decode b_M_set 11 = .ok (.ifCond .ne 8, 3) := by decide +kernel
theorem d_M_set_14 : decode b_M_set 14 = .ok (.iload_n 1, 1) := by decide +kernel
theorem d_M_set_15 : decode b_M_set 15 = .ok (.i2l, 1) := by decide +kernel
theorem d_M_set_16 : decode b_M_set 16 = .ok (.goto 4, 3) := by decide +kernel
theorem d_M_set_19 : decode b_M_set 19 = .ok (.lconst 0, 1) := by decide +kernel
theorem d_M_set_20 : decode b_M_set 20 = .ok (.lastore, 1) := by decide +kernel
theorem d_M_set_21 : decode b_M_set 21 = .ok (.iinc 2 1, 3) := by decide +kernel
theorem d_M_set_24 : decode b_M_set 24 = .ok (.goto (-22), 3) := by decide +kernel
theorem d_M_set_27 : decode b_M_set 27 = .ok (.return_, 1) := by decide +kernel
theorem d_M_zero_0 : decode b_M_zero 0 = .ok (.iconst 0, 1) := by decide +kernel
theorem d_M_zero_1 : decode b_M_zero 1 = .ok (.istore_n 1, 1) := by decide +kernel
theorem d_M_zero_2 : decode b_M_zero 2 = .ok (.iload_n 1, 1) := by decide +kernel
theorem d_M_zero_3 : decode b_M_zero 3 = .ok (.bipush 16, 2) := by decide +kernel
theorem d_M_zero_5 : decode b_M_zero 5 = .ok (.if_icmp .ge 19, 3) := by decide +kernel
theorem d_M_zero_8 : decode b_M_zero 8 = .ok (.aload_n 0, 1) := by decide +kernel
theorem d_M_zero_9 : decode b_M_zero 9 = .ok (.iload_n 1, 1) := by decide +kernel
theorem d_M_zero_10 : decode b_M_zero 10 = .ok (.laload, 1) := by decide +kernel
theorem d_M_zero_11 : decode b_M_zero 11 = .ok (.lconst 0, 1) := by decide +kernel
theorem d_M_zero_12 : decode b_M_zero 12 = .ok (.lcmp, 1) := by decide +kernel
theorem d_M_zero_13 : decode b_M_zero 13 = .ok (.ifCond .eq 5, 3) := by decide +kernel
theorem d_M_zero_16 : decode b_M_zero 16 = .ok (.iconst 0, 1) := by decide +kernel
theorem d_M_zero_17 : decode b_M_zero 17 = .ok (.ireturn, 1) := by decide +kernel
theorem d_M_zero_18 : decode b_M_zero 18 = .ok (.iinc 1 1, 3) := by decide +kernel
theorem d_M_zero_21 : decode b_M_zero 21 = .ok (.goto (-19), 3) := by decide +kernel
theorem d_M_zero_24 : decode b_M_zero 24 = .ok (.iconst 1, 1) := by decide +kernel
theorem d_M_zero_25 : decode b_M_zero 25 = .ok (.ireturn, 1) := by decide +kernel
theorem d_M_below_0 : decode b_M_below 0 = .ok (.bipush 15, 2) := by decide +kernel
theorem d_M_below_2 : decode b_M_below 2 = .ok (.istore_n 2, 1) := by decide +kernel
theorem d_M_below_3 : decode b_M_below 3 = .ok (.iload_n 2, 1) := by decide +kernel
theorem d_M_below_4 : decode b_M_below 4 = .ok (.ifCond .lt 35, 3) := by decide +kernel
theorem d_M_below_7 : decode b_M_below 7 = .ok (.aload_n 0, 1) := by decide +kernel
theorem d_M_below_8 : decode b_M_below 8 = .ok (.iload_n 2, 1) := by decide +kernel
theorem d_M_below_9 : decode b_M_below 9 = .ok (.laload, 1) := by decide +kernel
theorem d_M_below_10 : decode b_M_below 10 = .ok (.aload_n 1, 1) := by decide +kernel
theorem d_M_below_11 : decode b_M_below 11 = .ok (.iload_n 2, 1) := by decide +kernel
theorem d_M_below_12 : decode b_M_below 12 = .ok (.laload, 1) := by decide +kernel
theorem d_M_below_13 : decode b_M_below 13 = .ok (.lcmp, 1) := by decide +kernel
theorem d_M_below_14 : decode b_M_below 14 = .ok (.ifCond .eq 19, 3) := by decide +kernel
theorem d_M_below_17 : decode b_M_below 17 = .ok (.aload_n 0, 1) := by decide +kernel
theorem d_M_below_18 : decode b_M_below 18 = .ok (.iload_n 2, 1) := by decide +kernel
theorem d_M_below_19 : decode b_M_below 19 = .ok (.laload, 1) := by decide +kernel
theorem d_M_below_20 : decode b_M_below 20 = .ok (.aload_n 1, 1) := by decide +kernel
theorem d_M_below_21 : decode b_M_below 21 = .ok (.iload_n 2, 1) := by decide +kernel
theorem d_M_below_22 : decode b_M_below 22 = .ok (.laload, 1) := by decide +kernel
theorem d_M_below_23 : decode b_M_below 23 = .ok (.lcmp, 1) := by decide +kernel
theorem d_M_below_24 : decode b_M_below 24 = .ok (.ifCond .ge 7, 3) := by decide +kernel
theorem d_M_below_27 : decode b_M_below 27 = .ok (.iconst 1, 1) := by decide +kernel
theorem d_M_below_28 : decode b_M_below 28 = .ok (.goto 4, 3) := by decide +kernel
theorem d_M_below_31 : decode b_M_below 31 = .ok (.iconst 0, 1) := by decide +kernel
theorem d_M_below_32 : decode b_M_below 32 = .ok (.ireturn, 1) := by decide +kernel
theorem d_M_below_33 : decode b_M_below 33 = .ok (.iinc 2 (-1), 3) := by decide +kernel
theorem d_M_below_36 : decode b_M_below 36 = .ok (.goto (-33), 3) := by decide +kernel
theorem d_M_below_39 : decode b_M_below 39 = .ok (.iconst 0, 1) := by decide +kernel
theorem d_M_below_40 : decode b_M_below 40 = .ok (.ireturn, 1) := by decide +kernel
theorem d_M_alike_0 : decode b_M_alike 0 = .ok (.iconst 0, 1) := by decide +kernel
theorem d_M_alike_1 : decode b_M_alike 1 = .ok (.istore_n 2, 1) := by decide +kernel
theorem d_M_alike_2 : decode b_M_alike 2 = .ok (.iload_n 2, 1) := by decide +kernel
theorem d_M_alike_3 : decode b_M_alike 3 = .ok (.bipush 16, 2) := by decide +kernel
theorem d_M_alike_5 : decode b_M_alike 5 = .ok (.if_icmp .ge 21, 3) := by decide +kernel
theorem d_M_alike_8 : decode b_M_alike 8 = .ok (.aload_n 0, 1) := by decide +kernel
theorem d_M_alike_9 : decode b_M_alike 9 = .ok (.iload_n 2, 1) := by decide +kernel
theorem d_M_alike_10 : decode b_M_alike 10 = .ok (.laload, 1) := by decide +kernel
theorem d_M_alike_11 : decode b_M_alike 11 = .ok (.aload_n 1, 1) := by decide +kernel
theorem d_M_alike_12 : decode b_M_alike 12 = .ok (.iload_n 2, 1) := by decide +kernel
theorem d_M_alike_13 : decode b_M_alike 13 = .ok (.laload, 1) := by decide +kernel
theorem d_M_alike_14 : decode b_M_alike 14 = .ok (.lcmp, 1) := by decide +kernel
theorem d_M_alike_15 : decode b_M_alike 15 = .ok (.ifCond .eq 5, 3) := by decide +kernel
theorem d_M_alike_18 : decode b_M_alike 18 = .ok (.iconst 0, 1) := by decide +kernel
theorem d_M_alike_19 : decode b_M_alike 19 = .ok (.ireturn, 1) := by decide +kernel
theorem d_M_alike_20 : decode b_M_alike 20 = .ok (.iinc 2 1, 3) := by decide +kernel
theorem d_M_alike_23 : decode b_M_alike 23 = .ok (.goto (-21), 3) := by decide +kernel
theorem d_M_alike_26 : decode b_M_alike 26 = .ok (.iconst 1, 1) := by decide +kernel
theorem d_M_alike_27 : decode b_M_alike 27 = .ok (.ireturn, 1) := by decide +kernel
theorem d_M_less_0 : decode b_M_less 0 = .ok (.lconst 0, 1) := by decide +kernel
theorem d_M_less_1 : decode b_M_less 1 = .ok (.lstore_n 3, 1) := by decide +kernel
theorem d_M_less_2 : decode b_M_less 2 = .ok (.iconst 0, 1) := by decide +kernel
theorem d_M_less_3 : decode b_M_less 3 = .ok (.istore 5, 2) := by decide +kernel
theorem d_M_less_5 : decode b_M_less 5 = .ok (.iload 5, 2) := by decide +kernel
theorem d_M_less_7 : decode b_M_less 7 = .ok (.bipush 16, 2) := by decide +kernel
theorem d_M_less_9 : decode b_M_less 9 = .ok (.if_icmp .ge 45, 3) := by decide +kernel
theorem d_M_less_12 : decode b_M_less 12 = .ok (.aload_n 1, 1) := by decide +kernel
theorem d_M_less_13 : decode b_M_less 13 = .ok (.iload 5, 2) := by decide +kernel
theorem d_M_less_15 : decode b_M_less 15 = .ok (.laload, 1) := by decide +kernel
theorem d_M_less_16 : decode b_M_less 16 = .ok (.aload_n 2, 1) := by decide +kernel
theorem d_M_less_17 : decode b_M_less 17 = .ok (.iload 5, 2) := by decide +kernel
theorem d_M_less_19 : decode b_M_less 19 = .ok (.laload, 1) := by decide +kernel
theorem d_M_less_20 : decode b_M_less 20 = .ok (.lsub, 1) := by decide +kernel
theorem d_M_less_21 : decode b_M_less 21 = .ok (.lload_n 3, 1) := by decide +kernel
theorem d_M_less_22 : decode b_M_less 22 = .ok (.lsub, 1) := by decide +kernel
theorem d_M_less_23 : decode b_M_less 23 = .ok (.lstore 6, 2) := by decide +kernel
theorem d_M_less_25 : decode b_M_less 25 = .ok (.lload 6, 2) := by decide +kernel
theorem d_M_less_27 : decode b_M_less 27 = .ok (.lconst 0, 1) := by decide +kernel
theorem d_M_less_28 : decode b_M_less 28 = .ok (.lcmp, 1) := by decide +kernel
theorem d_M_less_29 : decode b_M_less 29 = .ok (.ifCond .ge 7, 3) := by decide +kernel
theorem d_M_less_32 : decode b_M_less 32 = .ok (.lconst 1, 1) := by decide +kernel
theorem d_M_less_33 : decode b_M_less 33 = .ok (.goto 4, 3) := by decide +kernel
theorem d_M_less_36 : decode b_M_less 36 = .ok (.lconst 0, 1) := by decide +kernel
theorem d_M_less_37 : decode b_M_less 37 = .ok (.lstore_n 3, 1) := by decide +kernel
theorem d_M_less_38 : decode b_M_less 38 = .ok (.aload_n 0, 1) := by decide +kernel
theorem d_M_less_39 : decode b_M_less 39 = .ok (.iload 5, 2) := by decide +kernel
theorem d_M_less_41 : decode b_M_less 41 = .ok (.lload 6, 2) := by decide +kernel
theorem d_M_less_43 : decode b_M_less 43 = .ok (.ldc2_w 169, 3) := by decide +kernel
theorem d_M_less_46 : decode b_M_less 46 = .ok (.land, 1) := by decide +kernel
theorem d_M_less_47 : decode b_M_less 47 = .ok (.lastore, 1) := by decide +kernel
theorem d_M_less_48 : decode b_M_less 48 = .ok (.iinc 5 1, 3) := by decide +kernel
theorem d_M_less_51 : decode b_M_less 51 = .ok (.goto (-46), 3) := by decide +kernel
theorem d_M_less_54 : decode b_M_less 54 = .ok (.return_, 1) := by decide +kernel
theorem d_M_plus_0 : decode b_M_plus 0 = .ok (.lconst 0, 1) := by decide +kernel
theorem d_M_plus_1 : decode b_M_plus 1 = .ok (.lstore 4, 2) := by decide +kernel
theorem d_M_plus_3 : decode b_M_plus 3 = .ok (.iconst 0, 1) := by decide +kernel
theorem d_M_plus_4 : decode b_M_plus 4 = .ok (.istore 6, 2) := by decide +kernel
theorem d_M_plus_6 : decode b_M_plus 6 = .ok (.iload 6, 2) := by decide +kernel
theorem d_M_plus_8 : decode b_M_plus 8 = .ok (.bipush 16, 2) := by decide +kernel
theorem d_M_plus_10 : decode b_M_plus 10 = .ok (.if_icmp .ge 40, 3) := by decide +kernel
theorem d_M_plus_13 : decode b_M_plus 13 = .ok (.lload 4, 2) := by decide +kernel
theorem d_M_plus_15 : decode b_M_plus 15 = .ok (.aload_n 1, 1) := by decide +kernel
theorem d_M_plus_16 : decode b_M_plus 16 = .ok (.iload 6, 2) := by decide +kernel
theorem d_M_plus_18 : decode b_M_plus 18 = .ok (.laload, 1) := by decide +kernel
theorem d_M_plus_19 : decode b_M_plus 19 = .ok (.aload_n 2, 1) := by decide +kernel
theorem d_M_plus_20 : decode b_M_plus 20 = .ok (.iload 6, 2) := by decide +kernel
theorem d_M_plus_22 : decode b_M_plus 22 = .ok (.laload, 1) := by decide +kernel
theorem d_M_plus_23 : decode b_M_plus 23 = .ok (.ladd, 1) := by decide +kernel
theorem d_M_plus_24 : decode b_M_plus 24 = .ok (.ladd, 1) := by decide +kernel
theorem d_M_plus_25 : decode b_M_plus 25 = .ok (.lstore 4, 2) := by decide +kernel
theorem d_M_plus_27 : decode b_M_plus 27 = .ok (.aload_n 0, 1) := by decide +kernel
theorem d_M_plus_28 : decode b_M_plus 28 = .ok (.iload 6, 2) := by decide +kernel
theorem d_M_plus_30 : decode b_M_plus 30 = .ok (.lload 4, 2) := by decide +kernel
theorem d_M_plus_32 : decode b_M_plus 32 = .ok (.ldc2_w 169, 3) := by decide +kernel
theorem d_M_plus_35 : decode b_M_plus 35 = .ok (.land, 1) := by decide +kernel
theorem d_M_plus_36 : decode b_M_plus 36 = .ok (.lastore, 1) := by decide +kernel
theorem d_M_plus_37 : decode b_M_plus 37 = .ok (.lload 4, 2) := by decide +kernel
theorem d_M_plus_39 : decode b_M_plus 39 = .ok (.bipush 16, 2) := by decide +kernel
theorem d_M_plus_41 : decode b_M_plus 41 = .ok (.lshr, 1) := by decide +kernel
theorem d_M_plus_42 : decode b_M_plus 42 = .ok (.lstore 4, 2) := by decide +kernel
theorem d_M_plus_44 : decode b_M_plus 44 = .ok (.iinc 6 1, 3) := by decide +kernel
theorem d_M_plus_47 : decode b_M_plus 47 = .ok (.goto (-41), 3) := by decide +kernel
theorem d_M_plus_50 : decode b_M_plus 50 = .ok (.lload 4, 2) := by decide +kernel
theorem d_M_plus_52 : decode b_M_plus 52 = .ok (.lconst 0, 1) := by decide +kernel
theorem d_M_plus_53 : decode b_M_plus 53 = .ok (.lcmp, 1) := by decide +kernel
theorem d_M_plus_54 : decode b_M_plus 54 = .ok (.ifCond .gt 11, 3) := by decide +kernel
theorem d_M_plus_57 : decode b_M_plus 57 = .ok (.aload_n 0, 1) := by decide +kernel
theorem d_M_plus_58 : decode b_M_plus 58 = .ok (.aload_n 3, 1) := by decide +kernel
theorem d_M_plus_59 : decode b_M_plus 59 = .ok (.invokestatic 215, 3) := by decide +kernel
theorem d_M_plus_62 : decode b_M_plus 62 = .ok (.ifCond .ne 9, 3) := by decide +kernel
theorem d_M_plus_65 : decode b_M_plus 65 = .ok (.aload_n 0, 1) := by decide +kernel
theorem d_M_plus_66 : decode b_M_plus 66 = .ok (.aload_n 0, 1) := by decide +kernel
theorem d_M_plus_67 : decode b_M_plus 67 = .ok (.aload_n 3, 1) := by decide +kernel
theorem d_M_plus_68 : decode b_M_plus 68 = .ok (.invokestatic 219, 3) := by decide +kernel
theorem d_M_plus_71 : decode b_M_plus 71 = .ok (.return_, 1) := by decide +kernel
theorem d_M_minus_0 : decode b_M_minus 0 = .ok (.lconst 0, 1) := by decide +kernel
theorem d_M_minus_1 : decode b_M_minus 1 = .ok (.lstore 4, 2) := by decide +kernel
theorem d_M_minus_3 : decode b_M_minus 3 = .ok (.iconst 0, 1) := by decide +kernel
theorem d_M_minus_4 : decode b_M_minus 4 = .ok (.istore 6, 2) := by decide +kernel
theorem d_M_minus_6 : decode b_M_minus 6 = .ok (.iload 6, 2) := by decide +kernel
theorem d_M_minus_8 : decode b_M_minus 8 = .ok (.bipush 16, 2) := by decide +kernel
theorem d_M_minus_10 : decode b_M_minus 10 = .ok (.if_icmp .ge 47, 3) := by decide +kernel
theorem d_M_minus_13 : decode b_M_minus 13 = .ok (.aload_n 1, 1) := by decide +kernel
theorem d_M_minus_14 : decode b_M_minus 14 = .ok (.iload 6, 2) := by decide +kernel
theorem d_M_minus_16 : decode b_M_minus 16 = .ok (.laload, 1) := by decide +kernel
theorem d_M_minus_17 : decode b_M_minus 17 = .ok (.aload_n 2, 1) := by decide +kernel
theorem d_M_minus_18 : decode b_M_minus 18 = .ok (.iload 6, 2) := by decide +kernel
theorem d_M_minus_20 : decode b_M_minus 20 = .ok (.laload, 1) := by decide +kernel
theorem d_M_minus_21 : decode b_M_minus 21 = .ok (.lsub, 1) := by decide +kernel
theorem d_M_minus_22 : decode b_M_minus 22 = .ok (.lload 4, 2) := by decide +kernel
theorem d_M_minus_24 : decode b_M_minus 24 = .ok (.lsub, 1) := by decide +kernel
theorem d_M_minus_25 : decode b_M_minus 25 = .ok (.lstore 7, 2) := by decide +kernel
theorem d_M_minus_27 : decode b_M_minus 27 = .ok (.lload 7, 2) := by decide +kernel
theorem d_M_minus_29 : decode b_M_minus 29 = .ok (.lconst 0, 1) := by decide +kernel
theorem d_M_minus_30 : decode b_M_minus 30 = .ok (.lcmp, 1) := by decide +kernel
theorem d_M_minus_31 : decode b_M_minus 31 = .ok (.ifCond .ge 7, 3) := by decide +kernel
theorem d_M_minus_34 : decode b_M_minus 34 = .ok (.lconst 1, 1) := by decide +kernel
theorem d_M_minus_35 : decode b_M_minus 35 = .ok (.goto 4, 3) := by decide +kernel
theorem d_M_minus_38 : decode b_M_minus 38 = .ok (.lconst 0, 1) := by decide +kernel
theorem d_M_minus_39 : decode b_M_minus 39 = .ok (.lstore 4, 2) := by decide +kernel
theorem d_M_minus_41 : decode b_M_minus 41 = .ok (.aload_n 0, 1) := by decide +kernel
theorem d_M_minus_42 : decode b_M_minus 42 = .ok (.iload 6, 2) := by decide +kernel
theorem d_M_minus_44 : decode b_M_minus 44 = .ok (.lload 7, 2) := by decide +kernel
theorem d_M_minus_46 : decode b_M_minus 46 = .ok (.ldc2_w 169, 3) := by decide +kernel
theorem d_M_minus_49 : decode b_M_minus 49 = .ok (.land, 1) := by decide +kernel
theorem d_M_minus_50 : decode b_M_minus 50 = .ok (.lastore, 1) := by decide +kernel
theorem d_M_minus_51 : decode b_M_minus 51 = .ok (.iinc 6 1, 3) := by decide +kernel
theorem d_M_minus_54 : decode b_M_minus 54 = .ok (.goto (-48), 3) := by decide +kernel
theorem d_M_minus_57 : decode b_M_minus 57 = .ok (.lload 4, 2) := by decide +kernel
theorem d_M_minus_59 : decode b_M_minus 59 = .ok (.lconst 0, 1) := by decide +kernel
theorem d_M_minus_60 : decode b_M_minus 60 = .ok (.lcmp, 1) := by decide +kernel
theorem d_M_minus_61 : decode b_M_minus 61 = .ok (.ifCond .ne 4, 3) := by decide +kernel
theorem d_M_minus_64 : decode b_M_minus 64 = .ok (.return_, 1) := by decide +kernel
theorem d_M_minus_65 : decode b_M_minus 65 = .ok (.lconst 0, 1) := by decide +kernel
theorem d_M_minus_66 : decode b_M_minus 66 = .ok (.lstore 6, 2) := by decide +kernel
theorem d_M_minus_68 : decode b_M_minus 68 = .ok (.iconst 0, 1) := by decide +kernel
theorem d_M_minus_69 : decode b_M_minus 69 = .ok (.istore 8, 2) := by decide +kernel
theorem d_M_minus_71 : decode b_M_minus 71 = .ok (.iload 8, 2) := by decide +kernel
theorem d_M_minus_73 : decode b_M_minus 73 = .ok (.bipush 16, 2) := by decide +kernel
theorem d_M_minus_75 : decode b_M_minus 75 = .ok (.if_icmp .ge 40, 3) := by decide +kernel
theorem d_M_minus_78 : decode b_M_minus 78 = .ok (.lload 6, 2) := by decide +kernel
theorem d_M_minus_80 : decode b_M_minus 80 = .ok (.aload_n 0, 1) := by decide +kernel
theorem d_M_minus_81 : decode b_M_minus 81 = .ok (.iload 8, 2) := by decide +kernel
theorem d_M_minus_83 : decode b_M_minus 83 = .ok (.laload, 1) := by decide +kernel
theorem d_M_minus_84 : decode b_M_minus 84 = .ok (.aload_n 3, 1) := by decide +kernel
theorem d_M_minus_85 : decode b_M_minus 85 = .ok (.iload 8, 2) := by decide +kernel
theorem d_M_minus_87 : decode b_M_minus 87 = .ok (.laload, 1) := by decide +kernel
theorem d_M_minus_88 : decode b_M_minus 88 = .ok (.ladd, 1) := by decide +kernel
theorem d_M_minus_89 : decode b_M_minus 89 = .ok (.ladd, 1) := by decide +kernel
theorem d_M_minus_90 : decode b_M_minus 90 = .ok (.lstore 6, 2) := by decide +kernel
theorem d_M_minus_92 : decode b_M_minus 92 = .ok (.aload_n 0, 1) := by decide +kernel
theorem d_M_minus_93 : decode b_M_minus 93 = .ok (.iload 8, 2) := by decide +kernel
theorem d_M_minus_95 : decode b_M_minus 95 = .ok (.lload 6, 2) := by decide +kernel
theorem d_M_minus_97 : decode b_M_minus 97 = .ok (.ldc2_w 169, 3) := by decide +kernel
theorem d_M_minus_100 : decode b_M_minus 100 = .ok (.land, 1) := by decide +kernel
theorem d_M_minus_101 : decode b_M_minus 101 = .ok (.lastore, 1) := by decide +kernel
theorem d_M_minus_102 : decode b_M_minus 102 = .ok (.lload 6, 2) := by decide +kernel
theorem d_M_minus_104 : decode b_M_minus 104 = .ok (.bipush 16, 2) := by decide +kernel
theorem d_M_minus_106 : decode b_M_minus 106 = .ok (.lshr, 1) := by decide +kernel
theorem d_M_minus_107 : decode b_M_minus 107 = .ok (.lstore 6, 2) := by decide +kernel
theorem d_M_minus_109 : decode b_M_minus 109 = .ok (.iinc 8 1, 3) := by decide +kernel
theorem d_M_minus_112 : decode b_M_minus 112 = .ok (.goto (-41), 3) := by decide +kernel
theorem d_M_minus_115 : decode b_M_minus 115 = .ok (.return_, 1) := by decide +kernel
theorem d_M_remainders_0 : decode b_M_remainders 0 = .ok (.aload_n 2, 1) := by decide +kernel
theorem d_M_remainders_1 : decode b_M_remainders 1 = .ok (.iconst 1, 1) := by decide +kernel
theorem d_M_remainders_2 : decode b_M_remainders 2 = .ok (.invokestatic 177, 3) := by decide +kernel
theorem d_M_remainders_5 : decode b_M_remainders 5 = .ok (.iconst 0, 1) := by decide +kernel
theorem d_M_remainders_6 : decode b_M_remainders 6 = .ok (.istore_n 3, 1) := by decide +kernel
theorem d_M_remainders_7 : decode b_M_remainders 7 = .ok (.iload_n 3, 1) := by decide +kernel
theorem d_M_remainders_8 : decode b_M_remainders 8 = .ok (.sipush 496, 3) := by decide +kernel
theorem d_M_remainders_11 : decode b_M_remainders 11 = .ok (.if_icmp .ge 62, 3) := by decide +kernel
theorem d_M_remainders_14 : decode b_M_remainders 14 = .ok (.aload_n 2, 1) := by decide +kernel
theorem d_M_remainders_15 : decode b_M_remainders 15 = .ok (.aload_n 2, 1) := by decide +kernel
theorem d_M_remainders_16 : decode b_M_remainders 16 = .ok (.aload_n 2, 1) := by decide +kernel
theorem d_M_remainders_17 : decode b_M_remainders 17 = .ok (.aload_n 1, 1) := by decide +kernel
theorem d_M_remainders_18 : decode b_M_remainders 18 = .ok (.invokestatic 222, 3) := by decide +kernel
theorem d_M_remainders_21 : decode b_M_remainders 21 = .ok (.iload_n 3, 1) := by decide +kernel
theorem d_M_remainders_22 : decode b_M_remainders 22 = .ok (.sipush 255, 3) := by decide +kernel
theorem d_M_remainders_25 : decode b_M_remainders 25 = .ok (.if_icmp .lt 42, 3) := by decide +kernel
theorem d_M_remainders_28 : decode b_M_remainders 28 = .ok (.iload_n 3, 1) := by decide +kernel
theorem d_M_remainders_29 : decode b_M_remainders 29 = .ok (.bipush 16, 2) := by decide +kernel
theorem d_M_remainders_31 : decode b_M_remainders 31 = .ok (.irem, 1) := by decide +kernel
theorem d_M_remainders_32 : decode b_M_remainders 32 = .ok (.bipush 15, 2) := by decide +kernel
theorem d_M_remainders_34 : decode b_M_remainders 34 = .ok (.if_icmp .ne 33, 3) := by decide +kernel
theorem d_M_remainders_37 : decode b_M_remainders 37 = .ok (.iconst 0, 1) := by decide +kernel
theorem d_M_remainders_38 : decode b_M_remainders 38 = .ok (.istore 4, 2) := by decide +kernel
theorem d_M_remainders_40 : decode b_M_remainders 40 = .ok (.iload 4, 2) := by decide +kernel
theorem d_M_remainders_42 : decode b_M_remainders 42 = .ok (.bipush 16, 2) := by decide +kernel
theorem d_M_remainders_44 : decode b_M_remainders 44 = .ok (.if_icmp .ge 23, 3) := by decide +kernel
theorem d_M_remainders_47 : decode b_M_remainders 47 = .ok (.aload_n 0, 1) := by decide +kernel
theorem d_M_remainders_48 : decode b_M_remainders 48 = .ok (.iload_n 3, 1) := by decide +kernel
theorem d_M_remainders_49 : decode b_M_remainders 49 = .ok (.sipush 255, 3) := by decide +kernel
theorem d_M_remainders_52 : decode b_M_remainders 52 = .ok (.isub, 1) := by decide +kernel
theorem d_M_remainders_53 : decode b_M_remainders 53 = .ok (.iload 4, 2) := by decide +kernel
theorem d_M_remainders_55 : decode b_M_remainders 55 = .ok (.iadd, 1) := by decide +kernel
theorem d_M_remainders_56 : decode b_M_remainders 56 = .ok (.aload_n 2, 1) := by decide +kernel
theorem d_M_remainders_57 : decode b_M_remainders 57 = .ok (.iload 4, 2) := by decide +kernel
theorem d_M_remainders_59 : decode b_M_remainders 59 = .ok (.laload, 1) := by decide +kernel
theorem d_M_remainders_60 : decode b_M_remainders 60 = .ok (.lastore, 1) := by decide +kernel
theorem d_M_remainders_61 : decode b_M_remainders 61 = .ok (.iinc 4 1, 3) := by decide +kernel
theorem d_M_remainders_64 : decode b_M_remainders 64 = .ok (.goto (-24), 3) := by decide +kernel
theorem d_M_remainders_67 : decode b_M_remainders 67 = .ok (.iinc 3 1, 3) := by decide +kernel
theorem d_M_remainders_70 : decode b_M_remainders 70 = .ok (.goto (-63), 3) := by decide +kernel
theorem d_M_remainders_73 : decode b_M_remainders 73 = .ok (.return_, 1) := by decide +kernel
theorem d_M_half_0 : decode b_M_half 0 = .ok (.aload_n 0, 1) := by decide +kernel
theorem d_M_half_1 : decode b_M_half 1 = .ok (.iconst 0, 1) := by decide +kernel
theorem d_M_half_2 : decode b_M_half 2 = .ok (.laload, 1) := by decide +kernel
theorem d_M_half_3 : decode b_M_half 3 = .ok (.lconst 1, 1) := by decide +kernel
theorem d_M_half_4 : decode b_M_half 4 = .ok (.land, 1) := by decide +kernel
theorem d_M_half_5 : decode b_M_half 5 = .ok (.lconst 1, 1) := by decide +kernel
theorem d_M_half_6 : decode b_M_half 6 = .ok (.lcmp, 1) := by decide +kernel
theorem d_M_half_7 : decode b_M_half 7 = .ok (.ifCond .ne 55, 3) := by decide +kernel
theorem d_M_half_10 : decode b_M_half 10 = .ok (.lconst 0, 1) := by decide +kernel
theorem d_M_half_11 : decode b_M_half 11 = .ok (.lstore_n 2, 1) := by decide +kernel
theorem d_M_half_12 : decode b_M_half 12 = .ok (.iconst 0, 1) := by decide +kernel
theorem d_M_half_13 : decode b_M_half 13 = .ok (.istore 4, 2) := by decide +kernel
theorem d_M_half_15 : decode b_M_half 15 = .ok (.iload 4, 2) := by decide +kernel
theorem d_M_half_17 : decode b_M_half 17 = .ok (.bipush 16, 2) := by decide +kernel
theorem d_M_half_19 : decode b_M_half 19 = .ok (.if_icmp .ge 35, 3) := by decide +kernel
theorem d_M_half_22 : decode b_M_half 22 = .ok (.lload_n 2, 1) := by decide +kernel
theorem d_M_half_23 : decode b_M_half 23 = .ok (.aload_n 0, 1) := by decide +kernel
theorem d_M_half_24 : decode b_M_half 24 = .ok (.iload 4, 2) := by decide +kernel
theorem d_M_half_26 : decode b_M_half 26 = .ok (.laload, 1) := by decide +kernel
theorem d_M_half_27 : decode b_M_half 27 = .ok (.aload_n 1, 1) := by decide +kernel
theorem d_M_half_28 : decode b_M_half 28 = .ok (.iload 4, 2) := by decide +kernel
theorem d_M_half_30 : decode b_M_half 30 = .ok (.laload, 1) := by decide +kernel
theorem d_M_half_31 : decode b_M_half 31 = .ok (.ladd, 1) := by decide +kernel
theorem d_M_half_32 : decode b_M_half 32 = .ok (.ladd, 1) := by decide +kernel
theorem d_M_half_33 : decode b_M_half 33 = .ok (.lstore_n 2, 1) := by decide +kernel
theorem d_M_half_34 : decode b_M_half 34 = .ok (.aload_n 0, 1) := by decide +kernel
theorem d_M_half_35 : decode b_M_half 35 = .ok (.iload 4, 2) := by decide +kernel
theorem d_M_half_37 : decode b_M_half 37 = .ok (.lload_n 2, 1) := by decide +kernel
theorem d_M_half_38 : decode b_M_half 38 = .ok (.ldc2_w 169, 3) := by decide +kernel
theorem d_M_half_41 : decode b_M_half 41 = .ok (.land, 1) := by decide +kernel
theorem d_M_half_42 : decode b_M_half 42 = .ok (.lastore, 1) := by decide +kernel
theorem d_M_half_43 : decode b_M_half 43 = .ok (.lload_n 2, 1) := by decide +kernel
theorem d_M_half_44 : decode b_M_half 44 = .ok (.bipush 16, 2) := by decide +kernel
theorem d_M_half_46 : decode b_M_half 46 = .ok (.lshr, 1) := by decide +kernel
theorem d_M_half_47 : decode b_M_half 47 = .ok (.lstore_n 2, 1) := by decide +kernel
theorem d_M_half_48 : decode b_M_half 48 = .ok (.iinc 4 1, 3) := by decide +kernel
theorem d_M_half_51 : decode b_M_half 51 = .ok (.goto (-36), 3) := by decide +kernel
theorem d_M_half_54 : decode b_M_half 54 = .ok (.aload_n 0, 1) := by decide +kernel
theorem d_M_half_55 : decode b_M_half 55 = .ok (.bipush 16, 2) := by decide +kernel
theorem d_M_half_57 : decode b_M_half 57 = .ok (.dup2, 1) := by decide +kernel
theorem d_M_half_58 : decode b_M_half 58 = .ok (.laload, 1) := by decide +kernel
theorem d_M_half_59 : decode b_M_half 59 = .ok (.lload_n 2, 1) := by decide +kernel
theorem d_M_half_60 : decode b_M_half 60 = .ok (.ladd, 1) := by decide +kernel
theorem d_M_half_61 : decode b_M_half 61 = .ok (.lastore, 1) := by decide +kernel
theorem d_M_half_62 : decode b_M_half 62 = .ok (.iconst 0, 1) := by decide +kernel
theorem d_M_half_63 : decode b_M_half 63 = .ok (.istore_n 2, 1) := by decide +kernel
theorem d_M_half_64 : decode b_M_half 64 = .ok (.iload_n 2, 1) := by decide +kernel
theorem d_M_half_65 : decode b_M_half 65 = .ok (.bipush 16, 2) := by decide +kernel
theorem d_M_half_67 : decode b_M_half 67 = .ok (.if_icmp .ge 28, 3) := by decide +kernel
theorem d_M_half_70 : decode b_M_half 70 = .ok (.aload_n 0, 1) := by decide +kernel
theorem d_M_half_71 : decode b_M_half 71 = .ok (.iload_n 2, 1) := by decide +kernel
theorem d_M_half_72 : decode b_M_half 72 = .ok (.aload_n 0, 1) := by decide +kernel
theorem d_M_half_73 : decode b_M_half 73 = .ok (.iload_n 2, 1) := by decide +kernel
theorem d_M_half_74 : decode b_M_half 74 = .ok (.laload, 1) := by decide +kernel
theorem d_M_half_75 : decode b_M_half 75 = .ok (.iconst 1, 1) := by decide +kernel
theorem d_M_half_76 : decode b_M_half 76 = .ok (.lshr, 1) := by decide +kernel
theorem d_M_half_77 : decode b_M_half 77 = .ok (.aload_n 0, 1) := by decide +kernel
theorem d_M_half_78 : decode b_M_half 78 = .ok (.iload_n 2, 1) := by decide +kernel
theorem d_M_half_79 : decode b_M_half 79 = .ok (.iconst 1, 1) := by decide +kernel
theorem d_M_half_80 : decode b_M_half 80 = .ok (.iadd, 1) := by decide +kernel
theorem d_M_half_81 : decode b_M_half 81 = .ok (.laload, 1) := by decide +kernel
theorem d_M_half_82 : decode b_M_half 82 = .ok (.lconst 1, 1) := by decide +kernel
theorem d_M_half_83 : decode b_M_half 83 = .ok (.land, 1) := by decide +kernel
theorem d_M_half_84 : decode b_M_half 84 = .ok (.bipush 15, 2) := by decide +kernel
theorem d_M_half_86 : decode b_M_half 86 = .ok (.lshl, 1) := by decide +kernel
theorem d_M_half_87 : decode b_M_half 87 = .ok (.lor, 1) := by decide +kernel
theorem d_M_half_88 : decode b_M_half 88 = .ok (.lastore, 1) := by decide +kernel
theorem d_M_half_89 : decode b_M_half 89 = .ok (.iinc 2 1, 3) := by decide +kernel
theorem d_M_half_92 : decode b_M_half 92 = .ok (.goto (-28), 3) := by decide +kernel
theorem d_M_half_95 : decode b_M_half 95 = .ok (.aload_n 0, 1) := by decide +kernel
theorem d_M_half_96 : decode b_M_half 96 = .ok (.bipush 16, 2) := by decide +kernel
theorem d_M_half_98 : decode b_M_half 98 = .ok (.dup2, 1) := by decide +kernel
theorem d_M_half_99 : decode b_M_half 99 = .ok (.laload, 1) := by decide +kernel
theorem d_M_half_100 : decode b_M_half 100 = .ok (.iconst 1, 1) := by decide +kernel
theorem d_M_half_101 : decode b_M_half 101 = .ok (.lshr, 1) := by decide +kernel
theorem d_M_half_102 : decode b_M_half 102 = .ok (.lastore, 1) := by decide +kernel
theorem d_M_half_103 : decode b_M_half 103 = .ok (.return_, 1) := by decide +kernel
theorem d_M_halve_0 : decode b_M_halve 0 = .ok (.iconst 0, 1) := by decide +kernel
theorem d_M_halve_1 : decode b_M_halve 1 = .ok (.istore_n 1, 1) := by decide +kernel
theorem d_M_halve_2 : decode b_M_halve 2 = .ok (.iload_n 1, 1) := by decide +kernel
theorem d_M_halve_3 : decode b_M_halve 3 = .ok (.bipush 16, 2) := by decide +kernel
theorem d_M_halve_5 : decode b_M_halve 5 = .ok (.if_icmp .ge 38, 3) := by decide +kernel
theorem d_M_halve_8 : decode b_M_halve 8 = .ok (.aload_n 0, 1) := by decide +kernel
theorem d_M_halve_9 : decode b_M_halve 9 = .ok (.iload_n 1, 1) := by decide +kernel
theorem d_M_halve_10 : decode b_M_halve 10 = .ok (.aload_n 0, 1) := by decide +kernel
theorem d_M_halve_11 : decode b_M_halve 11 = .ok (.iload_n 1, 1) := by decide +kernel
theorem d_M_halve_12 : decode b_M_halve 12 = .ok (.laload, 1) := by decide +kernel
theorem d_M_halve_13 : decode b_M_halve 13 = .ok (.iconst 1, 1) := by decide +kernel
theorem d_M_halve_14 : decode b_M_halve 14 = .ok (.lshr, 1) := by decide +kernel
theorem d_M_halve_15 : decode b_M_halve 15 = .ok (.iload_n 1, 1) := by decide +kernel
theorem d_M_halve_16 : decode b_M_halve 16 = .ok (.bipush 15, 2) := by decide +kernel
theorem d_M_halve_18 : decode b_M_halve 18 = .ok (.if_icmp .ge 16, 3) := by decide +kernel
theorem d_M_halve_21 : decode b_M_halve 21 = .ok (.aload_n 0, 1) := by decide +kernel
theorem d_M_halve_22 : decode b_M_halve 22 = .ok (.iload_n 1, 1) := by decide +kernel
theorem d_M_halve_23 : decode b_M_halve 23 = .ok (.iconst 1, 1) := by decide +kernel
theorem d_M_halve_24 : decode b_M_halve 24 = .ok (.iadd, 1) := by decide +kernel
theorem d_M_halve_25 : decode b_M_halve 25 = .ok (.laload, 1) := by decide +kernel
theorem d_M_halve_26 : decode b_M_halve 26 = .ok (.lconst 1, 1) := by decide +kernel
theorem d_M_halve_27 : decode b_M_halve 27 = .ok (.land, 1) := by decide +kernel
theorem d_M_halve_28 : decode b_M_halve 28 = .ok (.bipush 15, 2) := by decide +kernel
theorem d_M_halve_30 : decode b_M_halve 30 = .ok (.lshl, 1) := by decide +kernel
theorem d_M_halve_31 : decode b_M_halve 31 = .ok (.goto 4, 3) := by decide +kernel
theorem d_M_halve_34 : decode b_M_halve 34 = .ok (.lconst 0, 1) := by decide +kernel
theorem d_M_halve_35 : decode b_M_halve 35 = .ok (.lor, 1) := by decide +kernel
theorem d_M_halve_36 : decode b_M_halve 36 = .ok (.lastore, 1) := by decide +kernel
theorem d_M_halve_37 : decode b_M_halve 37 = .ok (.iinc 1 1, 3) := by decide +kernel
theorem d_M_halve_40 : decode b_M_halve 40 = .ok (.goto (-38), 3) := by decide +kernel
theorem d_M_halve_43 : decode b_M_halve 43 = .ok (.return_, 1) := by decide +kernel
theorem d_M_one_0 : decode b_M_one 0 = .ok (.aload_n 0, 1) := by decide +kernel
theorem d_M_one_1 : decode b_M_one 1 = .ok (.iconst 0, 1) := by decide +kernel
theorem d_M_one_2 : decode b_M_one 2 = .ok (.laload, 1) := by decide +kernel
theorem d_M_one_3 : decode b_M_one 3 = .ok (.lconst 1, 1) := by decide +kernel
theorem d_M_one_4 : decode b_M_one 4 = .ok (.lcmp, 1) := by decide +kernel
theorem d_M_one_5 : decode b_M_one 5 = .ok (.ifCond .eq 5, 3) := by decide +kernel
theorem d_M_one_8 : decode b_M_one 8 = .ok (.iconst 0, 1) := by decide +kernel
theorem d_M_one_9 : decode b_M_one 9 = .ok (.ireturn, 1) := by decide +kernel
theorem d_M_one_10 : decode b_M_one 10 = .ok (.iconst 1, 1) := by decide +kernel
theorem d_M_one_11 : decode b_M_one 11 = .ok (.istore_n 1, 1) := by decide +kernel
theorem d_M_one_12 : decode b_M_one 12 = .ok (.iload_n 1, 1) := by decide +kernel
theorem d_M_one_13 : decode b_M_one 13 = .ok (.bipush 16, 2) := by decide +kernel
theorem d_M_one_15 : decode b_M_one 15 = .ok (.if_icmp .ge 19, 3) := by decide +kernel
theorem d_M_one_18 : decode b_M_one 18 = .ok (.aload_n 0, 1) := by decide +kernel
theorem d_M_one_19 : decode b_M_one 19 = .ok (.iload_n 1, 1) := by decide +kernel
theorem d_M_one_20 : decode b_M_one 20 = .ok (.laload, 1) := by decide +kernel
theorem d_M_one_21 : decode b_M_one 21 = .ok (.lconst 0, 1) := by decide +kernel
theorem d_M_one_22 : decode b_M_one 22 = .ok (.lcmp, 1) := by decide +kernel
theorem d_M_one_23 : decode b_M_one 23 = .ok (.ifCond .eq 5, 3) := by decide +kernel
theorem d_M_one_26 : decode b_M_one 26 = .ok (.iconst 0, 1) := by decide +kernel
theorem d_M_one_27 : decode b_M_one 27 = .ok (.ireturn, 1) := by decide +kernel
theorem d_M_one_28 : decode b_M_one 28 = .ok (.iinc 1 1, 3) := by decide +kernel
theorem d_M_one_31 : decode b_M_one 31 = .ok (.goto (-19), 3) := by decide +kernel
theorem d_M_one_34 : decode b_M_one 34 = .ok (.iconst 1, 1) := by decide +kernel
theorem d_M_one_35 : decode b_M_one 35 = .ok (.ireturn, 1) := by decide +kernel
theorem d_M_bit_0 : decode b_M_bit 0 = .ok (.aload_n 0, 1) := by decide +kernel
theorem d_M_bit_1 : decode b_M_bit 1 = .ok (.iload_n 1, 1) := by decide +kernel
theorem d_M_bit_2 : decode b_M_bit 2 = .ok (.iconst 4, 1) := by decide +kernel
theorem d_M_bit_3 : decode b_M_bit 3 = .ok (.ishr, 1) := by decide +kernel
theorem d_M_bit_4 : decode b_M_bit 4 = .ok (.laload, 1) := by decide +kernel
theorem d_M_bit_5 : decode b_M_bit 5 = .ok (.iload_n 1, 1) := by decide +kernel
theorem d_M_bit_6 : decode b_M_bit 6 = .ok (.bipush 15, 2) := by decide +kernel
theorem d_M_bit_8 : decode b_M_bit 8 = .ok (.iand, 1) := by decide +kernel
theorem d_M_bit_9 : decode b_M_bit 9 = .ok (.lshr, 1) := by decide +kernel
theorem d_M_bit_10 : decode b_M_bit 10 = .ok (.lconst 1, 1) := by decide +kernel
theorem d_M_bit_11 : decode b_M_bit 11 = .ok (.land, 1) := by decide +kernel
theorem d_M_bit_12 : decode b_M_bit 12 = .ok (.l2i, 1) := by decide +kernel
theorem d_M_bit_13 : decode b_M_bit 13 = .ok (.ireturn, 1) := by decide +kernel
end
section
theorem d_M_reduce_0 : decode b_M_reduce 0 = .ok (.iconst 0, 1) := by decide +kernel
theorem d_M_reduce_1 : decode b_M_reduce 1 = .ok (.istore 4, 2) := by decide +kernel
theorem d_M_reduce_3 : decode b_M_reduce 3 = .ok (.iload 4, 2) := by decide +kernel
theorem d_M_reduce_5 : decode b_M_reduce 5 = .ok (.bipush 16, 2) := by decide +kernel
theorem d_M_reduce_7 : decode b_M_reduce 7 = .ok (.if_icmp .ge 69, 3) := by decide +kernel
theorem d_M_reduce_10 : decode b_M_reduce 10 = .ok (.aload_n 0, 1) := by decide +kernel
theorem d_M_reduce_11 : decode b_M_reduce 11 = .ok (.getfield 123, 3) := by decide +kernel
theorem d_M_reduce_14 : decode b_M_reduce 14 = .ok (.iload 4, 2) := by decide +kernel
theorem d_M_reduce_16 : decode b_M_reduce 16 = .ok (.laload, 1) := by decide +kernel
theorem d_M_reduce_17 : decode b_M_reduce 17 = .ok (.lstore 5, 2) := by decide +kernel
theorem d_M_reduce_19 : decode b_M_reduce 19 = .ok (.iconst 0, 1) := by decide +kernel
theorem d_M_reduce_20 : decode b_M_reduce 20 = .ok (.istore 7, 2) := by decide +kernel
theorem d_M_reduce_22 : decode b_M_reduce 22 = .ok (.iload 7, 2) := by decide +kernel
theorem d_M_reduce_24 : decode b_M_reduce 24 = .ok (.bipush 16, 2) := by decide +kernel
theorem d_M_reduce_26 : decode b_M_reduce 26 = .ok (.if_icmp .ge 35, 3) := by decide +kernel
theorem d_M_reduce_29 : decode b_M_reduce 29 = .ok (.lload 5, 2) := by decide +kernel
theorem d_M_reduce_31 : decode b_M_reduce 31 = .ok (.aload_n 0, 1) := by decide +kernel
theorem d_M_reduce_32 : decode b_M_reduce 32 = .ok (.getfield 123, 3) := by decide +kernel
theorem d_M_reduce_35 : decode b_M_reduce 35 = .ok (.bipush 16, 2) := by decide +kernel
theorem d_M_reduce_37 : decode b_M_reduce 37 = .ok (.iload 7, 2) := by decide +kernel
theorem d_M_reduce_39 : decode b_M_reduce 39 = .ok (.iadd, 1) := by decide +kernel
theorem d_M_reduce_40 : decode b_M_reduce 40 = .ok (.laload, 1) := by decide +kernel
theorem d_M_reduce_41 : decode b_M_reduce 41 = .ok (.aload_n 3, 1) := by decide +kernel
theorem d_M_reduce_42 : decode b_M_reduce 42 = .ok (.bipush 16, 2) := by decide +kernel
theorem d_M_reduce_44 : decode b_M_reduce 44 = .ok (.iload 7, 2) := by decide +kernel
theorem d_M_reduce_46 : decode b_M_reduce 46 = .ok (.imul, 1) := by decide +kernel
theorem d_M_reduce_47 : decode b_M_reduce 47 = .ok (.iload 4, 2) := by decide +kernel
theorem d_M_reduce_49 : decode b_M_reduce 49 = .ok (.iadd, 1) := by decide +kernel
theorem d_M_reduce_50 : decode b_M_reduce 50 = .ok (.laload, 1) := by decide +kernel
theorem d_M_reduce_51 : decode b_M_reduce 51 = .ok (.lmul, 1) := by decide +kernel
theorem d_M_reduce_52 : decode b_M_reduce 52 = .ok (.ladd, 1) := by decide +kernel
theorem d_M_reduce_53 : decode b_M_reduce 53 = .ok (.lstore 5, 2) := by decide +kernel
theorem d_M_reduce_55 : decode b_M_reduce 55 = .ok (.iinc 7 1, 3) := by decide +kernel
theorem d_M_reduce_58 : decode b_M_reduce 58 = .ok (.goto (-36), 3) := by decide +kernel
theorem d_M_reduce_61 : decode b_M_reduce 61 = .ok (.aload_n 0, 1) := by decide +kernel
theorem d_M_reduce_62 : decode b_M_reduce 62 = .ok (.getfield 126, 3) := by decide +kernel
theorem d_M_reduce_65 : decode b_M_reduce 65 = .ok (.iload 4, 2) := by decide +kernel
theorem d_M_reduce_67 : decode b_M_reduce 67 = .ok (.lload 5, 2) := by decide +kernel
theorem d_M_reduce_69 : decode b_M_reduce 69 = .ok (.lastore, 1) := by decide +kernel
theorem d_M_reduce_70 : decode b_M_reduce 70 = .ok (.iinc 4 1, 3) := by decide +kernel
theorem d_M_reduce_73 : decode b_M_reduce 73 = .ok (.goto (-70), 3) := by decide +kernel
theorem d_M_reduce_76 : decode b_M_reduce 76 = .ok (.lconst 1, 1) := by decide +kernel
theorem d_M_reduce_77 : decode b_M_reduce 77 = .ok (.lstore 4, 2) := by decide +kernel
theorem d_M_reduce_79 : decode b_M_reduce 79 = .ok (.iconst 0, 1) := by decide +kernel
theorem d_M_reduce_80 : decode b_M_reduce 80 = .ok (.istore 6, 2) := by decide +kernel
theorem d_M_reduce_82 : decode b_M_reduce 82 = .ok (.iload 6, 2) := by decide +kernel
theorem d_M_reduce_84 : decode b_M_reduce 84 = .ok (.bipush 9, 2) := by decide +kernel
theorem d_M_reduce_86 : decode b_M_reduce 86 = .ok (.if_icmp .ge 104, 3) := by decide +kernel
theorem d_M_reduce_89 : decode b_M_reduce 89 = .ok (.lload 4, 2) := by decide +kernel
theorem d_M_reduce_91 : decode b_M_reduce 91 = .ok (.lconst 0, 1) := by decide +kernel
theorem d_M_reduce_92 : decode b_M_reduce 92 = .ok (.lcmp, 1) := by decide +kernel
theorem d_M_reduce_93 : decode b_M_reduce 93 = .ok (.ifCond .le 97, 3) := by decide +kernel
theorem d_M_reduce_96 : decode b_M_reduce 96 = .ok (.lconst 0, 1) := by decide +kernel
theorem d_M_reduce_97 : decode b_M_reduce 97 = .ok (.lstore 7, 2) := by decide +kernel
theorem d_M_reduce_99 : decode b_M_reduce 99 = .ok (.iconst 0, 1) := by decide +kernel
theorem d_M_reduce_100 : decode b_M_reduce 100 = .ok (.istore 9, 2) := by decide +kernel
theorem d_M_reduce_102 : decode b_M_reduce 102 = .ok (.iload 9, 2) := by decide +kernel
theorem d_M_reduce_104 : decode b_M_reduce 104 = .ok (.bipush 16, 2) := by decide +kernel
theorem d_M_reduce_106 : decode b_M_reduce 106 = .ok (.if_icmp .ge 41, 3) := by decide +kernel
theorem d_M_reduce_109 : decode b_M_reduce 109 = .ok (.lload 7, 2) := by decide +kernel
theorem d_M_reduce_111 : decode b_M_reduce 111 = .ok (.aload_n 0, 1) := by decide +kernel
theorem d_M_reduce_112 : decode b_M_reduce 112 = .ok (.getfield 126, 3) := by decide +kernel
theorem d_M_reduce_115 : decode b_M_reduce 115 = .ok (.iload 9, 2) := by decide +kernel
theorem d_M_reduce_117 : decode b_M_reduce 117 = .ok (.laload, 1) := by decide +kernel
theorem d_M_reduce_118 : decode b_M_reduce 118 = .ok (.ladd, 1) := by decide +kernel
theorem d_M_reduce_119 : decode b_M_reduce 119 = .ok (.lstore 7, 2) := by decide +kernel
theorem d_M_reduce_121 : decode b_M_reduce 121 = .ok (.aload_n 0, 1) := by decide +kernel
theorem d_M_reduce_122 : decode b_M_reduce 122 = .ok (.getfield 126, 3) := by decide +kernel
theorem d_M_reduce_125 : decode b_M_reduce 125 = .ok (.iload 9, 2) := by decide +kernel
theorem d_M_reduce_127 : decode b_M_reduce 127 = .ok (.lload 7, 2) := by decide +kernel
theorem d_M_reduce_129 : decode b_M_reduce 129 = .ok (.ldc2_w 169, 3) := by decide +kernel
theorem d_M_reduce_132 : decode b_M_reduce 132 = .ok (.land, 1) := by decide +kernel
theorem d_M_reduce_133 : decode b_M_reduce 133 = .ok (.lastore, 1) := by decide +kernel
theorem d_M_reduce_134 : decode b_M_reduce 134 = .ok (.lload 7, 2) := by decide +kernel
theorem d_M_reduce_136 : decode b_M_reduce 136 = .ok (.bipush 16, 2) := by decide +kernel
theorem d_M_reduce_138 : decode b_M_reduce 138 = .ok (.lshr, 1) := by decide +kernel
theorem d_M_reduce_139 : decode b_M_reduce 139 = .ok (.lstore 7, 2) := by decide +kernel
theorem d_M_reduce_141 : decode b_M_reduce 141 = .ok (.iinc 9 1, 3) := by decide +kernel
theorem d_M_reduce_144 : decode b_M_reduce 144 = .ok (.goto (-42), 3) := by decide +kernel
theorem d_M_reduce_147 : decode b_M_reduce 147 = .ok (.lload 7, 2) := by decide +kernel
theorem d_M_reduce_149 : decode b_M_reduce 149 = .ok (.lstore 4, 2) := by decide +kernel
theorem d_M_reduce_151 : decode b_M_reduce 151 = .ok (.iconst 0, 1) := by decide +kernel
theorem d_M_reduce_152 : decode b_M_reduce 152 = .ok (.istore 9, 2) := by decide +kernel
theorem d_M_reduce_154 : decode b_M_reduce 154 = .ok (.iload 9, 2) := by decide +kernel
theorem d_M_reduce_156 : decode b_M_reduce 156 = .ok (.bipush 16, 2) := by decide +kernel
theorem d_M_reduce_158 : decode b_M_reduce 158 = .ok (.if_icmp .ge 26, 3) := by decide +kernel
theorem d_M_reduce_161 : decode b_M_reduce 161 = .ok (.aload_n 0, 1) := by decide +kernel
theorem d_M_reduce_162 : decode b_M_reduce 162 = .ok (.getfield 126, 3) := by decide +kernel
theorem d_M_reduce_165 : decode b_M_reduce 165 = .ok (.iload 9, 2) := by decide +kernel
theorem d_M_reduce_167 : decode b_M_reduce 167 = .ok (.dup2, 1) := by decide +kernel
theorem d_M_reduce_168 : decode b_M_reduce 168 = .ok (.laload, 1) := by decide +kernel
theorem d_M_reduce_169 : decode b_M_reduce 169 = .ok (.lload 4, 2) := by decide +kernel
theorem d_M_reduce_171 : decode b_M_reduce 171 = .ok (.aload_n 3, 1) := by decide +kernel
theorem d_M_reduce_172 : decode b_M_reduce 172 = .ok (.iload 9, 2) := by decide +kernel
theorem d_M_reduce_174 : decode b_M_reduce 174 = .ok (.laload, 1) := by decide +kernel
theorem d_M_reduce_175 : decode b_M_reduce 175 = .ok (.lmul, 1) := by decide +kernel
theorem d_M_reduce_176 : decode b_M_reduce 176 = .ok (.ladd, 1) := by decide +kernel
theorem d_M_reduce_177 : decode b_M_reduce 177 = .ok (.lastore, 1) := by decide +kernel
theorem d_M_reduce_178 : decode b_M_reduce 178 = .ok (.iinc 9 1, 3) := by decide +kernel
theorem d_M_reduce_181 : decode b_M_reduce 181 = .ok (.goto (-27), 3) := by decide +kernel
theorem d_M_reduce_184 : decode b_M_reduce 184 = .ok (.iinc 6 1, 3) := by decide +kernel
theorem d_M_reduce_187 : decode b_M_reduce 187 = .ok (.goto (-105), 3) := by decide +kernel
theorem d_M_reduce_190 : decode b_M_reduce 190 = .ok (.iconst 0, 1) := by decide +kernel
theorem d_M_reduce_191 : decode b_M_reduce 191 = .ok (.istore 6, 2) := by decide +kernel
theorem d_M_reduce_193 : decode b_M_reduce 193 = .ok (.iload 6, 2) := by decide +kernel
theorem d_M_reduce_195 : decode b_M_reduce 195 = .ok (.bipush 16, 2) := by decide +kernel
theorem d_M_reduce_197 : decode b_M_reduce 197 = .ok (.if_icmp .ge 20, 3) := by decide +kernel
theorem d_M_reduce_200 : decode b_M_reduce 200 = .ok (.aload_n 1, 1) := by decide +kernel
theorem d_M_reduce_201 : decode b_M_reduce 201 = .ok (.iload 6, 2) := by decide +kernel
theorem d_M_reduce_203 : decode b_M_reduce 203 = .ok (.aload_n 0, 1) := by decide +kernel
theorem d_M_reduce_204 : decode b_M_reduce 204 = .ok (.getfield 126, 3) := by decide +kernel
theorem d_M_reduce_207 : decode b_M_reduce 207 = .ok (.iload 6, 2) := by decide +kernel
theorem d_M_reduce_209 : decode b_M_reduce 209 = .ok (.laload, 1) := by decide +kernel
theorem d_M_reduce_210 : decode b_M_reduce 210 = .ok (.lastore, 1) := by decide +kernel
theorem d_M_reduce_211 : decode b_M_reduce 211 = .ok (.iinc 6 1, 3) := by decide +kernel
theorem d_M_reduce_214 : decode b_M_reduce 214 = .ok (.goto (-21), 3) := by decide +kernel
theorem d_M_reduce_217 : decode b_M_reduce 217 = .ok (.iconst 0, 1) := by decide +kernel
theorem d_M_reduce_218 : decode b_M_reduce 218 = .ok (.istore 6, 2) := by decide +kernel
theorem d_M_reduce_220 : decode b_M_reduce 220 = .ok (.iload 6, 2) := by decide +kernel
theorem d_M_reduce_222 : decode b_M_reduce 222 = .ok (.bipush 16, 2) := by decide +kernel
theorem d_M_reduce_224 : decode b_M_reduce 224 = .ok (.if_icmp .ge 23, 3) := by decide +kernel
theorem d_M_reduce_227 : decode b_M_reduce 227 = .ok (.aload_n 1, 1) := by decide +kernel
theorem d_M_reduce_228 : decode b_M_reduce 228 = .ok (.aload_n 2, 1) := by decide +kernel
theorem d_M_reduce_229 : decode b_M_reduce 229 = .ok (.invokestatic 215, 3) := by decide +kernel
theorem d_M_reduce_232 : decode b_M_reduce 232 = .ok (.ifCond .ne 15, 3) := by decide +kernel
theorem d_M_reduce_235 : decode b_M_reduce 235 = .ok (.aload_n 1, 1) := by decide +kernel
theorem d_M_reduce_236 : decode b_M_reduce 236 = .ok (.aload_n 1, 1) := by decide +kernel
theorem d_M_reduce_237 : decode b_M_reduce 237 = .ok (.aload_n 2, 1) := by decide +kernel
theorem d_M_reduce_238 : decode b_M_reduce 238 = .ok (.invokestatic 219, 3) := by decide +kernel
theorem d_M_reduce_241 : decode b_M_reduce 241 = .ok (.iinc 6 1, 3) := by decide +kernel
theorem d_M_reduce_244 : decode b_M_reduce 244 = .ok (.goto (-24), 3) := by decide +kernel
theorem d_M_reduce_247 : decode b_M_reduce 247 = .ok (.return_, 1) := by decide +kernel
theorem d_M_times_0 : decode b_M_times 0 = .ok (.iconst 0, 1) := by decide +kernel
theorem d_M_times_1 : decode b_M_times 1 = .ok (.istore 6, 2) := by decide +kernel
theorem d_M_times_3 : decode b_M_times 3 = .ok (.iload 6, 2) := by decide +kernel
theorem d_M_times_5 : decode b_M_times 5 = .ok (.bipush 32, 2) := by decide +kernel
theorem d_M_times_7 : decode b_M_times 7 = .ok (.if_icmp .ge 17, 3) := by decide +kernel
theorem d_M_times_10 : decode b_M_times 10 = .ok (.aload_n 0, 1) := by decide +kernel
theorem d_M_times_11 : decode b_M_times 11 = .ok (.getfield 123, 3) := by decide +kernel
theorem d_M_times_14 : decode b_M_times 14 = .ok (.iload 6, 2) := by decide +kernel
theorem d_M_times_16 : decode b_M_times 16 = .ok (.lconst 0, 1) := by decide +kernel
theorem d_M_times_17 : decode b_M_times 17 = .ok (.lastore, 1) := by decide +kernel
theorem d_M_times_18 : decode b_M_times 18 = .ok (.iinc 6 1, 3) := by decide +kernel
theorem d_M_times_21 : decode b_M_times 21 = .ok (.goto (-18), 3) := by decide +kernel
theorem d_M_times_24 : decode b_M_times 24 = .ok (.iconst 0, 1) := by decide +kernel
theorem d_M_times_25 : decode b_M_times 25 = .ok (.istore 6, 2) := by decide +kernel
theorem d_M_times_27 : decode b_M_times 27 = .ok (.iload 6, 2) := by decide +kernel
theorem d_M_times_29 : decode b_M_times 29 = .ok (.bipush 16, 2) := by decide +kernel
theorem d_M_times_31 : decode b_M_times 31 = .ok (.if_icmp .ge 88, 3) := by decide +kernel
theorem d_M_times_34 : decode b_M_times 34 = .ok (.lconst 0, 1) := by decide +kernel
theorem d_M_times_35 : decode b_M_times 35 = .ok (.lstore 7, 2) := by decide +kernel
theorem d_M_times_37 : decode b_M_times 37 = .ok (.iconst 0, 1) := by decide +kernel
theorem d_M_times_38 : decode b_M_times 38 = .ok (.istore 9, 2) := by decide +kernel
theorem d_M_times_40 : decode b_M_times 40 = .ok (.iload 9, 2) := by decide +kernel
theorem d_M_times_42 : decode b_M_times 42 = .ok (.bipush 16, 2) := by decide +kernel
theorem d_M_times_44 : decode b_M_times 44 = .ok (.if_icmp .ge 57, 3) := by decide +kernel
theorem d_M_times_47 : decode b_M_times 47 = .ok (.lload 7, 2) := by decide +kernel
theorem d_M_times_49 : decode b_M_times 49 = .ok (.aload_n 0, 1) := by decide +kernel
theorem d_M_times_50 : decode b_M_times 50 = .ok (.getfield 123, 3) := by decide +kernel
theorem d_M_times_53 : decode b_M_times 53 = .ok (.iload 6, 2) := by decide +kernel
theorem d_M_times_55 : decode b_M_times 55 = .ok (.iload 9, 2) := by decide +kernel
theorem d_M_times_57 : decode b_M_times 57 = .ok (.iadd, 1) := by decide +kernel
theorem d_M_times_58 : decode b_M_times 58 = .ok (.laload, 1) := by decide +kernel
theorem d_M_times_59 : decode b_M_times 59 = .ok (.aload_n 2, 1) := by decide +kernel
theorem d_M_times_60 : decode b_M_times 60 = .ok (.iload 6, 2) := by decide +kernel
theorem d_M_times_62 : decode b_M_times 62 = .ok (.laload, 1) := by decide +kernel
theorem d_M_times_63 : decode b_M_times 63 = .ok (.aload_n 3, 1) := by decide +kernel
theorem d_M_times_64 : decode b_M_times 64 = .ok (.iload 9, 2) := by decide +kernel
theorem d_M_times_66 : decode b_M_times 66 = .ok (.laload, 1) := by decide +kernel
theorem d_M_times_67 : decode b_M_times 67 = .ok (.lmul, 1) := by decide +kernel
theorem d_M_times_68 : decode b_M_times 68 = .ok (.ladd, 1) := by decide +kernel
theorem d_M_times_69 : decode b_M_times 69 = .ok (.ladd, 1) := by decide +kernel
theorem d_M_times_70 : decode b_M_times 70 = .ok (.lstore 7, 2) := by decide +kernel
theorem d_M_times_72 : decode b_M_times 72 = .ok (.aload_n 0, 1) := by decide +kernel
theorem d_M_times_73 : decode b_M_times 73 = .ok (.getfield 123, 3) := by decide +kernel
theorem d_M_times_76 : decode b_M_times 76 = .ok (.iload 6, 2) := by decide +kernel
theorem d_M_times_78 : decode b_M_times 78 = .ok (.iload 9, 2) := by decide +kernel
theorem d_M_times_80 : decode b_M_times 80 = .ok (.iadd, 1) := by decide +kernel
theorem d_M_times_81 : decode b_M_times 81 = .ok (.lload 7, 2) := by decide +kernel
theorem d_M_times_83 : decode b_M_times 83 = .ok (.ldc2_w 169, 3) := by decide +kernel
theorem d_M_times_86 : decode b_M_times 86 = .ok (.land, 1) := by decide +kernel
theorem d_M_times_87 : decode b_M_times 87 = .ok (.lastore, 1) := by decide +kernel
theorem d_M_times_88 : decode b_M_times 88 = .ok (.lload 7, 2) := by decide +kernel
theorem d_M_times_90 : decode b_M_times 90 = .ok (.bipush 16, 2) := by decide +kernel
theorem d_M_times_92 : decode b_M_times 92 = .ok (.lshr, 1) := by decide +kernel
theorem d_M_times_93 : decode b_M_times 93 = .ok (.lstore 7, 2) := by decide +kernel
theorem d_M_times_95 : decode b_M_times 95 = .ok (.iinc 9 1, 3) := by decide +kernel
theorem d_M_times_98 : decode b_M_times 98 = .ok (.goto (-58), 3) := by decide +kernel
theorem d_M_times_101 : decode b_M_times 101 = .ok (.aload_n 0, 1) := by decide +kernel
theorem d_M_times_102 : decode b_M_times 102 = .ok (.getfield 123, 3) := by decide +kernel
theorem d_M_times_105 : decode b_M_times 105 = .ok (.iload 6, 2) := by decide +kernel
theorem d_M_times_107 : decode b_M_times 107 = .ok (.bipush 16, 2) := by decide +kernel
theorem d_M_times_109 : decode b_M_times 109 = .ok (.iadd, 1) := by decide +kernel
theorem d_M_times_110 : decode b_M_times 110 = .ok (.lload 7, 2) := by decide +kernel
theorem d_M_times_112 : decode b_M_times 112 = .ok (.lastore, 1) := by decide +kernel
theorem d_M_times_113 : decode b_M_times 113 = .ok (.iinc 6 1, 3) := by decide +kernel
theorem d_M_times_116 : decode b_M_times 116 = .ok (.goto (-89), 3) := by decide +kernel
theorem d_M_times_119 : decode b_M_times 119 = .ok (.aload_n 0, 1) := by decide +kernel
theorem d_M_times_120 : decode b_M_times 120 = .ok (.aload_n 1, 1) := by decide +kernel
theorem d_M_times_121 : decode b_M_times 121 = .ok (.aload 4, 2) := by decide +kernel
theorem d_M_times_123 : decode b_M_times 123 = .ok (.aload 5, 2) := by decide +kernel
theorem d_M_times_125 : decode b_M_times 125 = .ok (.invokevirtual 225, 3) := by decide +kernel
theorem d_M_times_128 : decode b_M_times 128 = .ok (.return_, 1) := by decide +kernel
theorem d_M_inverse_0 : decode b_M_inverse 0 = .ok (.aload_n 0, 1) := by decide +kernel
theorem d_M_inverse_1 : decode b_M_inverse 1 = .ok (.getfield 129, 3) := by decide +kernel
theorem d_M_inverse_4 : decode b_M_inverse 4 = .ok (.aload_n 2, 1) := by decide +kernel
theorem d_M_inverse_5 : decode b_M_inverse 5 = .ok (.invokestatic 207, 3) := by decide +kernel
theorem d_M_inverse_8 : decode b_M_inverse 8 = .ok (.aload_n 0, 1) := by decide +kernel
theorem d_M_inverse_9 : decode b_M_inverse 9 = .ok (.getfield 132, 3) := by decide +kernel
theorem d_M_inverse_12 : decode b_M_inverse 12 = .ok (.aload_n 3, 1) := by decide +kernel
theorem d_M_inverse_13 : decode b_M_inverse 13 = .ok (.invokestatic 207, 3) := by decide +kernel
theorem d_M_inverse_16 : decode b_M_inverse 16 = .ok (.aload_n 0, 1) := by decide +kernel
theorem d_M_inverse_17 : decode b_M_inverse 17 = .ok (.getfield 135, 3) := by decide +kernel
theorem d_M_inverse_20 : decode b_M_inverse 20 = .ok (.iconst 1, 1) := by decide +kernel
theorem d_M_inverse_21 : decode b_M_inverse 21 = .ok (.invokestatic 177, 3) := by decide +kernel
theorem d_M_inverse_24 : decode b_M_inverse 24 = .ok (.aload_n 0, 1) := by decide +kernel
theorem d_M_inverse_25 : decode b_M_inverse 25 = .ok (.getfield 138, 3) := by decide +kernel
theorem d_M_inverse_28 : decode b_M_inverse 28 = .ok (.iconst 0, 1) := by decide +kernel
theorem d_M_inverse_29 : decode b_M_inverse 29 = .ok (.invokestatic 177, 3) := by decide +kernel
theorem d_M_inverse_32 : decode b_M_inverse 32 = .ok (.aload_n 0, 1) := by decide +kernel
theorem d_M_inverse_33 : decode b_M_inverse 33 = .ok (.getfield 135, 3) := by decide +kernel
theorem d_M_inverse_36 : decode b_M_inverse 36 = .ok (.bipush 16, 2) := by decide +kernel
theorem d_M_inverse_38 : decode b_M_inverse 38 = .ok (.lconst 0, 1) := by decide +kernel
theorem d_M_inverse_39 : decode b_M_inverse 39 = .ok (.lastore, 1) := by decide +kernel
theorem d_M_inverse_40 : decode b_M_inverse 40 = .ok (.aload_n 0, 1) := by decide +kernel
theorem d_M_inverse_41 : decode b_M_inverse 41 = .ok (.getfield 138, 3) := by decide +kernel
theorem d_M_inverse_44 : decode b_M_inverse 44 = .ok (.bipush 16, 2) := by decide +kernel
theorem d_M_inverse_46 : decode b_M_inverse 46 = .ok (.lconst 0, 1) := by decide +kernel
theorem d_M_inverse_47 : decode b_M_inverse 47 = .ok (.lastore, 1) := by decide +kernel
theorem d_M_inverse_48 : decode b_M_inverse 48 = .ok (.iconst 0, 1) := by decide +kernel
theorem d_M_inverse_49 : decode b_M_inverse 49 = .ok (.istore 4, 2) := by decide +kernel
theorem d_M_inverse_51 : decode b_M_inverse 51 = .ok (.iload 4, 2) := by decide +kernel
theorem d_M_inverse_53 : decode b_M_inverse 53 = .ok (.sipush 1100, 3) := by decide +kernel
theorem d_M_inverse_56 : decode b_M_inverse 56 = .ok (.if_icmp .ge 177, 3) := by decide +kernel
theorem d_M_inverse_59 : decode b_M_inverse 59 = .ok (.aload_n 2, 1) := by decide +kernel
theorem d_M_inverse_60 : decode b_M_inverse 60 = .ok (.invokestatic 228, 3) := by decide +kernel
theorem d_M_inverse_63 : decode b_M_inverse 63 = .ok (.ifCond .ne 170, 3) := by decide +kernel
theorem d_M_inverse_66 : decode b_M_inverse 66 = .ok (.aload_n 0, 1) := by decide +kernel
theorem d_M_inverse_67 : decode b_M_inverse 67 = .ok (.getfield 129, 3) := by decide +kernel
theorem d_M_inverse_70 : decode b_M_inverse 70 = .ok (.invokestatic 232, 3) := by decide +kernel
theorem d_M_inverse_73 : decode b_M_inverse 73 = .ok (.ifCond .ne 160, 3) := by decide +kernel
theorem d_M_inverse_76 : decode b_M_inverse 76 = .ok (.aload_n 0, 1) := by decide +kernel
theorem d_M_inverse_77 : decode b_M_inverse 77 = .ok (.getfield 132, 3) := by decide +kernel
theorem d_M_inverse_80 : decode b_M_inverse 80 = .ok (.invokestatic 232, 3) := by decide +kernel
theorem d_M_inverse_83 : decode b_M_inverse 83 = .ok (.ifCond .ne 150, 3) := by decide +kernel
theorem d_M_inverse_86 : decode b_M_inverse 86 = .ok (.aload_n 0, 1) := by decide +kernel
theorem d_M_inverse_87 : decode b_M_inverse 87 = .ok (.getfield 129, 3) := by decide +kernel
theorem d_M_inverse_90 : decode b_M_inverse 90 = .ok (.iconst 0, 1) := by decide +kernel
theorem d_M_inverse_91 : decode b_M_inverse 91 = .ok (.laload, 1) := by decide +kernel
theorem d_M_inverse_92 : decode b_M_inverse 92 = .ok (.lconst 1, 1) := by decide +kernel
theorem d_M_inverse_93 : decode b_M_inverse 93 = .ok (.land, 1) := by decide +kernel
theorem d_M_inverse_94 : decode b_M_inverse 94 = .ok (.lconst 0, 1) := by decide +kernel
theorem d_M_inverse_95 : decode b_M_inverse 95 = .ok (.lcmp, 1) := by decide +kernel
theorem d_M_inverse_96 : decode b_M_inverse 96 = .ok (.ifCond .ne 21, 3) := by decide +kernel
theorem d_M_inverse_99 : decode b_M_inverse 99 = .ok (.aload_n 0, 1) := by decide +kernel
theorem d_M_inverse_100 : decode b_M_inverse 100 = .ok (.getfield 129, 3) := by decide +kernel
theorem d_M_inverse_103 : decode b_M_inverse 103 = .ok (.invokestatic 234, 3) := by decide +kernel
theorem d_M_inverse_106 : decode b_M_inverse 106 = .ok (.aload_n 0, 1) := by decide +kernel
theorem d_M_inverse_107 : decode b_M_inverse 107 = .ok (.getfield 135, 3) := by decide +kernel
theorem d_M_inverse_110 : decode b_M_inverse 110 = .ok (.aload_n 3, 1) := by decide +kernel
theorem d_M_inverse_111 : decode b_M_inverse 111 = .ok (.invokestatic 238, 3) := by decide +kernel
theorem d_M_inverse_114 : decode b_M_inverse 114 = .ok (.goto 113, 3) := by decide +kernel
theorem d_M_inverse_117 : decode b_M_inverse 117 = .ok (.aload_n 0, 1) := by decide +kernel
theorem d_M_inverse_118 : decode b_M_inverse 118 = .ok (.getfield 132, 3) := by decide +kernel
theorem d_M_inverse_121 : decode b_M_inverse 121 = .ok (.iconst 0, 1) := by decide +kernel
theorem d_M_inverse_122 : decode b_M_inverse 122 = .ok (.laload, 1) := by decide +kernel
theorem d_M_inverse_123 : decode b_M_inverse 123 = .ok (.lconst 1, 1) := by decide +kernel
theorem d_M_inverse_124 : decode b_M_inverse 124 = .ok (.land, 1) := by decide +kernel
theorem d_M_inverse_125 : decode b_M_inverse 125 = .ok (.lconst 0, 1) := by decide +kernel
theorem d_M_inverse_126 : decode b_M_inverse 126 = .ok (.lcmp, 1) := by decide +kernel
theorem d_M_inverse_127 : decode b_M_inverse 127 = .ok (.ifCond .ne 21, 3) := by decide +kernel
theorem d_M_inverse_130 : decode b_M_inverse 130 = .ok (.aload_n 0, 1) := by decide +kernel
theorem d_M_inverse_131 : decode b_M_inverse 131 = .ok (.getfield 132, 3) := by decide +kernel
theorem d_M_inverse_134 : decode b_M_inverse 134 = .ok (.invokestatic 234, 3) := by decide +kernel
theorem d_M_inverse_137 : decode b_M_inverse 137 = .ok (.aload_n 0, 1) := by decide +kernel
theorem d_M_inverse_138 : decode b_M_inverse 138 = .ok (.getfield 138, 3) := by decide +kernel
theorem d_M_inverse_141 : decode b_M_inverse 141 = .ok (.aload_n 3, 1) := by decide +kernel
theorem d_M_inverse_142 : decode b_M_inverse 142 = .ok (.invokestatic 238, 3) := by decide +kernel
theorem d_M_inverse_145 : decode b_M_inverse 145 = .ok (.goto 82, 3) := by decide +kernel
theorem d_M_inverse_148 : decode b_M_inverse 148 = .ok (.aload_n 0, 1) := by decide +kernel
theorem d_M_inverse_149 : decode b_M_inverse 149 = .ok (.getfield 129, 3) := by decide +kernel
theorem d_M_inverse_152 : decode b_M_inverse 152 = .ok (.aload_n 0, 1) := by decide +kernel
theorem d_M_inverse_153 : decode b_M_inverse 153 = .ok (.getfield 132, 3) := by decide +kernel
theorem d_M_inverse_156 : decode b_M_inverse 156 = .ok (.invokestatic 215, 3) := by decide +kernel
theorem d_M_inverse_159 : decode b_M_inverse 159 = .ok (.ifCond .eq 37, 3) := by decide +kernel
theorem d_M_inverse_162 : decode b_M_inverse 162 = .ok (.aload_n 0, 1) := by decide +kernel
theorem d_M_inverse_163 : decode b_M_inverse 163 = .ok (.getfield 132, 3) := by decide +kernel
theorem d_M_inverse_166 : decode b_M_inverse 166 = .ok (.aload_n 0, 1) := by decide +kernel
theorem d_M_inverse_167 : decode b_M_inverse 167 = .ok (.getfield 132, 3) := by decide +kernel
theorem d_M_inverse_170 : decode b_M_inverse 170 = .ok (.aload_n 0, 1) := by decide +kernel
theorem d_M_inverse_171 : decode b_M_inverse 171 = .ok (.getfield 129, 3) := by decide +kernel
theorem d_M_inverse_174 : decode b_M_inverse 174 = .ok (.invokestatic 219, 3) := by decide +kernel
theorem d_M_inverse_177 : decode b_M_inverse 177 = .ok (.aload_n 0, 1) := by decide +kernel
theorem d_M_inverse_178 : decode b_M_inverse 178 = .ok (.getfield 138, 3) := by decide +kernel
theorem d_M_inverse_181 : decode b_M_inverse 181 = .ok (.aload_n 0, 1) := by decide +kernel
theorem d_M_inverse_182 : decode b_M_inverse 182 = .ok (.getfield 138, 3) := by decide +kernel
theorem d_M_inverse_185 : decode b_M_inverse 185 = .ok (.aload_n 0, 1) := by decide +kernel
theorem d_M_inverse_186 : decode b_M_inverse 186 = .ok (.getfield 135, 3) := by decide +kernel
theorem d_M_inverse_189 : decode b_M_inverse 189 = .ok (.aload_n 3, 1) := by decide +kernel
theorem d_M_inverse_190 : decode b_M_inverse 190 = .ok (.invokestatic 192, 3) := by decide +kernel
theorem d_M_inverse_193 : decode b_M_inverse 193 = .ok (.goto 34, 3) := by decide +kernel
theorem d_M_inverse_196 : decode b_M_inverse 196 = .ok (.aload_n 0, 1) := by decide +kernel
theorem d_M_inverse_197 : decode b_M_inverse 197 = .ok (.getfield 129, 3) := by decide +kernel
theorem d_M_inverse_200 : decode b_M_inverse 200 = .ok (.aload_n 0, 1) := by decide +kernel
theorem d_M_inverse_201 : decode b_M_inverse 201 = .ok (.getfield 129, 3) := by decide +kernel
theorem d_M_inverse_204 : decode b_M_inverse 204 = .ok (.aload_n 0, 1) := by decide +kernel
theorem d_M_inverse_205 : decode b_M_inverse 205 = .ok (.getfield 132, 3) := by decide +kernel
theorem d_M_inverse_208 : decode b_M_inverse 208 = .ok (.invokestatic 219, 3) := by decide +kernel
theorem d_M_inverse_211 : decode b_M_inverse 211 = .ok (.aload_n 0, 1) := by decide +kernel
theorem d_M_inverse_212 : decode b_M_inverse 212 = .ok (.getfield 135, 3) := by decide +kernel
theorem d_M_inverse_215 : decode b_M_inverse 215 = .ok (.aload_n 0, 1) := by decide +kernel
theorem d_M_inverse_216 : decode b_M_inverse 216 = .ok (.getfield 135, 3) := by decide +kernel
theorem d_M_inverse_219 : decode b_M_inverse 219 = .ok (.aload_n 0, 1) := by decide +kernel
theorem d_M_inverse_220 : decode b_M_inverse 220 = .ok (.getfield 138, 3) := by decide +kernel
theorem d_M_inverse_223 : decode b_M_inverse 223 = .ok (.aload_n 3, 1) := by decide +kernel
theorem d_M_inverse_224 : decode b_M_inverse 224 = .ok (.invokestatic 192, 3) := by decide +kernel
theorem d_M_inverse_227 : decode b_M_inverse 227 = .ok (.iinc 4 1, 3) := by decide +kernel
theorem d_M_inverse_230 : decode b_M_inverse 230 = .ok (.goto (-179), 3) := by decide +kernel
theorem d_M_inverse_233 : decode b_M_inverse 233 = .ok (.aload_n 2, 1) := by decide +kernel
theorem d_M_inverse_234 : decode b_M_inverse 234 = .ok (.invokestatic 228, 3) := by decide +kernel
theorem d_M_inverse_237 : decode b_M_inverse 237 = .ok (.ifCond .eq 11, 3) := by decide +kernel
theorem d_M_inverse_240 : decode b_M_inverse 240 = .ok (.aload_n 1, 1) := by decide +kernel
theorem d_M_inverse_241 : decode b_M_inverse 241 = .ok (.iconst 0, 1) := by decide +kernel
theorem d_M_inverse_242 : decode b_M_inverse 242 = .ok (.invokestatic 177, 3) := by decide +kernel
theorem d_M_inverse_245 : decode b_M_inverse 245 = .ok (.goto 28, 3) := by decide +kernel
theorem d_M_inverse_248 : decode b_M_inverse 248 = .ok (.aload_n 1, 1) := by decide +kernel
theorem d_M_inverse_249 : decode b_M_inverse 249 = .ok (.aload_n 0, 1) := by decide +kernel
theorem d_M_inverse_250 : decode b_M_inverse 250 = .ok (.getfield 129, 3) := by decide +kernel
theorem d_M_inverse_253 : decode b_M_inverse 253 = .ok (.invokestatic 232, 3) := by decide +kernel
theorem d_M_inverse_256 : decode b_M_inverse 256 = .ok (.ifCond .eq 10, 3) := by decide +kernel
theorem d_M_inverse_259 : decode b_M_inverse 259 = .ok (.aload_n 0, 1) := by decide +kernel
theorem d_M_inverse_260 : decode b_M_inverse 260 = .ok (.getfield 135, 3) := by decide +kernel
theorem d_M_inverse_263 : decode b_M_inverse 263 = .ok (.goto 7, 3) := by decide +kernel
theorem d_M_inverse_266 : decode b_M_inverse 266 = .ok (.aload_n 0, 1) := by decide +kernel
theorem d_M_inverse_267 : decode b_M_inverse 267 = .ok (.getfield 138, 3) := by decide +kernel
theorem d_M_inverse_270 : decode b_M_inverse 270 = .ok (.invokestatic 207, 3) := by decide +kernel
theorem d_M_inverse_273 : decode b_M_inverse 273 = .ok (.return_, 1) := by decide +kernel
theorem d_M_power_0 : decode b_M_power 0 = .ok (.aload_n 0, 1) := by decide +kernel
theorem d_M_power_1 : decode b_M_power 1 = .ok (.getfield 82, 3) := by decide +kernel
theorem d_M_power_4 : decode b_M_power 4 = .ok (.iconst 1, 1) := by decide +kernel
theorem d_M_power_5 : decode b_M_power 5 = .ok (.invokestatic 177, 3) := by decide +kernel
theorem d_M_power_8 : decode b_M_power 8 = .ok (.sipush 255, 3) := by decide +kernel
theorem d_M_power_11 : decode b_M_power 11 = .ok (.istore 4, 2) := by decide +kernel
theorem d_M_power_13 : decode b_M_power 13 = .ok (.iload 4, 2) := by decide +kernel
theorem d_M_power_15 : decode b_M_power 15 = .ok (.ifCond .lt 64, 3) := by decide +kernel
theorem d_M_power_18 : decode b_M_power 18 = .ok (.aload_n 0, 1) := by decide +kernel
theorem d_M_power_19 : decode b_M_power 19 = .ok (.aload_n 0, 1) := by decide +kernel
theorem d_M_power_20 : decode b_M_power 20 = .ok (.getfield 82, 3) := by decide +kernel
theorem d_M_power_23 : decode b_M_power 23 = .ok (.aload_n 0, 1) := by decide +kernel
theorem d_M_power_24 : decode b_M_power 24 = .ok (.getfield 82, 3) := by decide +kernel
theorem d_M_power_27 : decode b_M_power 27 = .ok (.aload_n 0, 1) := by decide +kernel
theorem d_M_power_28 : decode b_M_power 28 = .ok (.getfield 82, 3) := by decide +kernel
theorem d_M_power_31 : decode b_M_power 31 = .ok (.aload_n 0, 1) := by decide +kernel
theorem d_M_power_32 : decode b_M_power 32 = .ok (.getfield 27, 3) := by decide +kernel
theorem d_M_power_35 : decode b_M_power 35 = .ok (.aload_n 0, 1) := by decide +kernel
theorem d_M_power_36 : decode b_M_power 36 = .ok (.getfield 31, 3) := by decide +kernel
theorem d_M_power_39 : decode b_M_power 39 = .ok (.invokevirtual 188, 3) := by decide +kernel
theorem d_M_power_42 : decode b_M_power 42 = .ok (.aload_n 3, 1) := by decide +kernel
theorem d_M_power_43 : decode b_M_power 43 = .ok (.iload 4, 2) := by decide +kernel
theorem d_M_power_45 : decode b_M_power 45 = .ok (.invokestatic 273, 3) := by decide +kernel
theorem d_M_power_48 : decode b_M_power 48 = .ok (.iconst 1, 1) := by decide +kernel
theorem d_M_power_49 : decode b_M_power 49 = .ok (.if_icmp .ne 24, 3) := by decide +kernel
theorem d_M_power_52 : decode b_M_power 52 = .ok (.aload_n 0, 1) := by decide +kernel
theorem d_M_power_53 : decode b_M_power 53 = .ok (.aload_n 0, 1) := by decide +kernel
theorem d_M_power_54 : decode b_M_power 54 = .ok (.getfield 82, 3) := by decide +kernel
theorem d_M_power_57 : decode b_M_power 57 = .ok (.aload_n 0, 1) := by decide +kernel
theorem d_M_power_58 : decode b_M_power 58 = .ok (.getfield 82, 3) := by decide +kernel
theorem d_M_power_61 : decode b_M_power 61 = .ok (.aload_n 2, 1) := by decide +kernel
theorem d_M_power_62 : decode b_M_power 62 = .ok (.aload_n 0, 1) := by decide +kernel
theorem d_M_power_63 : decode b_M_power 63 = .ok (.getfield 27, 3) := by decide +kernel
theorem d_M_power_66 : decode b_M_power 66 = .ok (.aload_n 0, 1) := by decide +kernel
theorem d_M_power_67 : decode b_M_power 67 = .ok (.getfield 31, 3) := by decide +kernel
theorem d_M_power_70 : decode b_M_power 70 = .ok (.invokevirtual 188, 3) := by decide +kernel
theorem d_M_power_73 : decode b_M_power 73 = .ok (.iinc 4 (-1), 3) := by decide +kernel
theorem d_M_power_76 : decode b_M_power 76 = .ok (.goto (-63), 3) := by decide +kernel
theorem d_M_power_79 : decode b_M_power 79 = .ok (.aload_n 1, 1) := by decide +kernel
theorem d_M_power_80 : decode b_M_power 80 = .ok (.aload_n 0, 1) := by decide +kernel
theorem d_M_power_81 : decode b_M_power 81 = .ok (.getfield 82, 3) := by decide +kernel
theorem d_M_power_84 : decode b_M_power 84 = .ok (.invokestatic 207, 3) := by decide +kernel
theorem d_M_power_87 : decode b_M_power 87 = .ok (.return_, 1) := by decide +kernel
end
section
theorem fl_M_27 : Cond.fieldLink R_M 27 R_M "p" "[J" ∈ lw_tbl ∧ sx_okw (Cond.fieldLink R_M 27 R_M "p" "[J") = true := by decide +kernel
theorem fl_M_31 : Cond.fieldLink R_M 31 R_M "pt" "[J" ∈ lw_tbl ∧ sx_okw (Cond.fieldLink R_M 31 R_M "pt" "[J") = true := by decide +kernel
theorem fl_M_82 : Cond.fieldLink R_M 82 R_M "f" "[J" ∈ lw_tbl ∧ sx_okw (Cond.fieldLink R_M 82 R_M "f" "[J") = true := by decide +kernel
theorem fl_M_123 : Cond.fieldLink R_M 123 R_M "product" "[J" ∈ lw_tbl ∧ sx_okw (Cond.fieldLink R_M 123 R_M "product" "[J") = true := by decide +kernel
theorem fl_M_126 : Cond.fieldLink R_M 126 R_M "sum" "[J" ∈ lw_tbl ∧ sx_okw (Cond.fieldLink R_M 126 R_M "sum" "[J") = true := by decide +kernel
theorem fl_M_129 : Cond.fieldLink R_M 129 R_M "u" "[J" ∈ lw_tbl ∧ sx_okw (Cond.fieldLink R_M 129 R_M "u" "[J") = true := by decide +kernel
theorem fl_M_132 : Cond.fieldLink R_M 132 R_M "v" "[J" ∈ lw_tbl ∧ sx_okw (Cond.fieldLink R_M 132 R_M "v" "[J") = true := by decide +kernel
theorem fl_M_135 : Cond.fieldLink R_M 135 R_M "x1" "[J" ∈ lw_tbl ∧ sx_okw (Cond.fieldLink R_M 135 R_M "x1" "[J") = true := by decide +kernel
theorem fl_M_138 : Cond.fieldLink R_M 138 R_M "x2" "[J" ∈ lw_tbl ∧ sx_okw (Cond.fieldLink R_M 138 R_M "x2" "[J") = true := by decide +kernel
theorem w_M_177 : sx_w [.methodLink R_M 177 y_M_set, .static y_M_set, .initialized y_M_set.cls, .code y_M_set b_M_set 3 none] y_M_set 2 := ⟨by decide +kernel, by decide +kernel⟩
theorem w_M_188 : sx_w [.methodLink R_M 188 y_M_times, .instanceMethod y_M_times, .selects R_M y_M_times y_M_times, .initialized R_M, .code y_M_times b_M_times 10 none] y_M_times 5 := ⟨by decide +kernel, by decide +kernel⟩
theorem w_M_192 : sx_w [.methodLink R_M 192 y_M_minus, .static y_M_minus, .initialized y_M_minus.cls, .code y_M_minus b_M_minus 9 none] y_M_minus 4 := ⟨by decide +kernel, by decide +kernel⟩
theorem w_M_207 : sx_w [.methodLink R_M 207 y_M_copy, .static y_M_copy, .initialized y_M_copy.cls, .code y_M_copy b_M_copy 3 none] y_M_copy 2 := ⟨by decide +kernel, by decide +kernel⟩
theorem w_M_215 : sx_w [.methodLink R_M 215 y_M_below, .static y_M_below, .initialized y_M_below.cls, .code y_M_below b_M_below 3 (some .boolean)] y_M_below 2 := ⟨by decide +kernel, by decide +kernel⟩
theorem w_M_219 : sx_w [.methodLink R_M 219 y_M_less, .static y_M_less, .initialized y_M_less.cls, .code y_M_less b_M_less 8 none] y_M_less 3 := ⟨by decide +kernel, by decide +kernel⟩
theorem w_M_222 : sx_w [.methodLink R_M 222 y_M_plus, .static y_M_plus, .initialized y_M_plus.cls, .code y_M_plus b_M_plus 7 none] y_M_plus 4 := ⟨by decide +kernel, by decide +kernel⟩
theorem w_M_225 : sx_w [.methodLink R_M 225 y_M_reduce, .instanceMethod y_M_reduce, .selects R_M y_M_reduce y_M_reduce, .initialized R_M, .code y_M_reduce b_M_reduce 10 none] y_M_reduce 3 := ⟨by decide +kernel, by decide +kernel⟩
theorem w_M_228 : sx_w [.methodLink R_M 228 y_M_zero, .static y_M_zero, .initialized y_M_zero.cls, .code y_M_zero b_M_zero 2 (some .boolean)] y_M_zero 1 := ⟨by decide +kernel, by decide +kernel⟩
theorem w_M_232 : sx_w [.methodLink R_M 232 y_M_one, .static y_M_one, .initialized y_M_one.cls, .code y_M_one b_M_one 2 (some .boolean)] y_M_one 1 := ⟨by decide +kernel, by decide +kernel⟩
theorem w_M_234 : sx_w [.methodLink R_M 234 y_M_halve, .static y_M_halve, .initialized y_M_halve.cls, .code y_M_halve b_M_halve 2 none] y_M_halve 1 := ⟨by decide +kernel, by decide +kernel⟩
theorem w_M_238 : sx_w [.methodLink R_M 238 y_M_half, .static y_M_half, .initialized y_M_half.cls, .code y_M_half b_M_half 5 none] y_M_half 2 := ⟨by decide +kernel, by decide +kernel⟩
theorem w_M_273 : sx_w [.methodLink R_M 273 y_M_bit, .static y_M_bit, .initialized y_M_bit.cls, .code y_M_bit b_M_bit 2 (some .int)] y_M_bit 2 := ⟨by decide +kernel, by decide +kernel⟩
end
section
abbrev rm_M_copy : Room := { frames := 0, cells := 0, slots := 0, locals := 0 }
set_option maxHeartbeats 4000000 in
set_option maxRecDepth 100000 in
theorem c_M_copy {l : Launch} {D : va_G} {g : ClassId → FieldType → Prop} {E : Nat → Prop} {H0 : Heap} {a0 : Nat} {a1 : Nat} (f0 : sx_A g .long H0 a0 16) (o0 : E a0) (f1 : sx_A g .long H0 a1 16) : Met l y_M_copy (.code y_M_copy b_M_copy 3 none :: G_) rm_M_copy (sx_Pc [.ref a0, .ref a1] H0 D g) (sx_Qv g E H0) 0 0 E := by
  refine sx_mv (own := R_M) (by decide) rfl rfl rfl (Nat.le_of_ble_eq_true rfl) ?_
  intro p e s m args below meth c Q ls EE hl hret
  obtain ⟨hx, hb, hml, hown, hts, hG, hK⟩ := id EE
  have hS : sx_S g E E H0 H0 [] := sx_S.rf
  have hl : lv_has ls 3 [(0, .ref a0), (1, .ref a1)] := hl
  refine lv_iconst (v := nI 0) hx hb d_M_copy_0 (by decide +kernel) ?_
  refine lv_istore_n (lv' := [(2, .int (nI (0))), (0, .ref a0), (1, .ref a1)]) hx hb d_M_copy_1 rfl hl (by decide) rfl (fun ls hl => ?_)
  have lp2 : ∀ (k i1 : Nat) (H : Heap) (locs : List Loc) (ls : Array Slot), i1 + k = 16 → sx_S g E E H0 H locs → lv_has ls 3 [(2, .int (nI (i1))), (0, .ref a0), (1, .ref a1)] → W p l e rm_M_copy s m args below meth c H locs 0 0 Q (F0 m 2 ls []) := by
    intro k
    induction k with
    | zero =>
      intro i1  H locs ls hi  hS hl
      refine lv_iload_n hx hb d_M_copy_2 rfl (lv_at hl 0 rfl) ?_
      refine lv_bipush (v := nI 16) hx hb d_M_copy_3 (by decide +kernel) ?_
      refine lv_icmp_ge (tgt := 20) hx hb d_M_copy_5 (by decide) (fun _ => ?_) (fun q => absurd (nI_le (by omega) (by omega)) q)
      exact hret _ _ _ _ hS d_M_copy_20
    | succ k ih2 =>
      intro i1  H locs ls hi  hS hl
      refine lv_iload_n hx hb d_M_copy_2 rfl (lv_at hl 0 rfl) ?_
      refine lv_bipush (v := nI 16) hx hb d_M_copy_3 (by decide +kernel) ?_
      refine lv_icmp_ge (tgt := 20) hx hb d_M_copy_5 (by decide) (fun q => absurd q (nI_ge (by omega) (by omega))) (fun _ => ?_)
      refine lv_aload_n hx hb d_M_copy_8 rfl (lv_at hl 1 rfl) ?_
      refine lv_iload_n hx hb d_M_copy_9 rfl (lv_at hl 0 rfl) ?_
      refine lv_aload_n hx hb d_M_copy_10 rfl (lv_at hl 2 rfl) ?_
      refine lv_iload_n hx hb d_M_copy_11 rfl (lv_at hl 0 rfl) ?_
      refine sx_lald hx hb hG hS f1 (sx_in (by omega) (by decide)) d_M_copy_12 (fun z2 => ?_)
      refine sx_last hx hb hG hS f0 o0 (sx_in (by omega) (by decide)) d_M_copy_13 (fun H locs hS => ?_)
      refine lv_iinc (v := nI (i1 + 1)) (lv' := [(2, .int (nI (i1 + 1))), (0, .ref a0), (1, .ref a1)]) hx hb d_M_copy_14 hl (k := 0) rfl (sx_inc _ _) (by decide) rfl (fun ls hl => ?_)
      refine lv_goto (tgt := 2) hx hb d_M_copy_17 (by decide) ?_
      exact ih2 (i1 + 1)  _ _ _ (by omega)  hS (lv_sub hl [0, 1, 2] rfl)
  exact lp2 (16) 0  _ _ _ (by omega)  hS (lv_sub hl [0, 1, 2] rfl)
abbrev rm_M_set : Room := { frames := 0, cells := 0, slots := 0, locals := 0 }
set_option maxHeartbeats 4000000 in
set_option maxRecDepth 100000 in
theorem c_M_set {l : Launch} {D : va_G} {g : ClassId → FieldType → Prop} {E : Nat → Prop} {H0 : Heap} {a0 : Nat} {v1 : Int32} (f0 : sx_A g .long H0 a0 16) (o0 : E a0) : Met l y_M_set (.code y_M_set b_M_set 3 none :: G_) rm_M_set (sx_Pc [.ref a0, .int v1] H0 D g) (sx_Qv g E H0) 0 0 E := by
  refine sx_mv (own := R_M) (by decide) rfl rfl rfl (Nat.le_of_ble_eq_true rfl) ?_
  intro p e s m args below meth c Q ls EE hl hret
  obtain ⟨hx, hb, hml, hown, hts, hG, hK⟩ := id EE
  have hS : sx_S g E E H0 H0 [] := sx_S.rf
  have hl : lv_has ls 3 [(0, .ref a0), (1, .int v1)] := hl
  refine lv_iconst (v := nI 0) hx hb d_M_set_0 (by decide +kernel) ?_
  refine lv_istore_n (lv' := [(2, .int (nI (0))), (0, .ref a0), (1, .int v1)]) hx hb d_M_set_1 rfl hl (by decide) rfl (fun ls hl => ?_)
  have lp2 : ∀ (k i1 : Nat) (H : Heap) (locs : List Loc) (ls : Array Slot), i1 + k = 16 → sx_S g E E H0 H locs → lv_has ls 3 [(2, .int (nI (i1))), (0, .ref a0), (1, .int v1)] → W p l e rm_M_set s m args below meth c H locs 0 0 Q (F0 m 2 ls []) := by
    intro k
    induction k with
    | zero =>
      intro i1  H locs ls hi  hS hl
      refine lv_iload_n hx hb d_M_set_2 rfl (lv_at hl 0 rfl) ?_
      refine lv_bipush (v := nI 16) hx hb d_M_set_3 (by decide +kernel) ?_
      refine lv_icmp_ge (tgt := 27) hx hb d_M_set_5 (by decide) (fun _ => ?_) (fun q => absurd (nI_le (by omega) (by omega)) q)
      exact hret _ _ _ _ hS d_M_set_27
    | succ k ih2 =>
      intro i1  H locs ls hi  hS hl
      refine lv_iload_n hx hb d_M_set_2 rfl (lv_at hl 0 rfl) ?_
      refine lv_bipush (v := nI 16) hx hb d_M_set_3 (by decide +kernel) ?_
      refine lv_icmp_ge (tgt := 27) hx hb d_M_set_5 (by decide) (fun q => absurd q (nI_ge (by omega) (by omega))) (fun _ => ?_)
      refine lv_aload_n hx hb d_M_set_8 rfl (lv_at hl 1 rfl) ?_
      refine lv_iload_n hx hb d_M_set_9 rfl (lv_at hl 0 rfl) ?_
      refine lv_iload_n hx hb d_M_set_10 rfl (lv_at hl 0 rfl) ?_
      have jn20_3 : ∀ (w3 : Int64) (H : Heap) (locs : List Loc) (ls : Array Slot), sx_S g E E H0 H locs → lv_has ls 3 [(2, .int (nI (i1))), (0, .ref a0), (1, .int v1)] → W p l e rm_M_set s m args below meth c H locs 0 0 Q (F0 m 20 ls [.long w3, .int (nI (i1)), .ref a0]) := by
        intro w3 H locs ls  hS hl
        refine sx_last hx hb hG hS f0 o0 (sx_in (by omega) (by decide)) d_M_set_20 (fun H locs hS => ?_)
        refine lv_iinc (v := nI (i1 + 1)) (lv' := [(2, .int (nI (i1 + 1))), (0, .ref a0), (1, .int v1)]) hx hb d_M_set_21 hl (k := 0) rfl (sx_inc _ _) (by decide) rfl (fun ls hl => ?_)
        refine lv_goto (tgt := 2) hx hb d_M_set_24 (by decide) ?_
        exact ih2 (i1 + 1)  _ _ _ (by omega)  hS (lv_sub hl [0, 1, 2] rfl)
      refine lv_if_ne (tgt := 19) hx hb d_M_set_11 (by decide) (fun q11 => ?_) (fun q11 => ?_)
      · skip
        have q11 : ¬ (i1 = 0) := fun z => q11 ((nI_eq (a := i1) (b := 0) (by omega) (by omega)).mpr z)
        refine lv_lconst (v := 0) hx hb d_M_set_19 (by decide +kernel) ?_
        exact jn20_3 0 _ _ _  hS (lv_sub hl [0, 1, 2] rfl)
      · skip
        have q11 : i1 = 0 := (nI_eq (a := i1) (b := 0) (by omega) (by omega)).mp q11
        refine lv_iload_n hx hb d_M_set_14 rfl (lv_at hl 2 rfl) ?_
        refine sx_i2l hx hb d_M_set_15 (fun z5 => ?_)
        refine lv_goto (tgt := 20) hx hb d_M_set_16 (by decide) ?_
        exact jn20_3 z5 _ _ _  hS (lv_sub hl [0, 1, 2] rfl)
  exact lp2 (16) 0  _ _ _ (by omega)  hS (lv_sub hl [0, 1, 2] rfl)
abbrev rm_M_zero : Room := { frames := 0, cells := 0, slots := 0, locals := 0 }
set_option maxHeartbeats 4000000 in
set_option maxRecDepth 100000 in
theorem c_M_zero {l : Launch} {D : va_G} {g : ClassId → FieldType → Prop} {E : Nat → Prop} {H0 : Heap} {a0 : Nat} (f0 : sx_A g .long H0 a0 16) : Met l y_M_zero (.code y_M_zero b_M_zero 2 (some .boolean) :: G_) rm_M_zero (sx_Pc [.ref a0] H0 D g) (sx_Qz g E H0) 0 0 E := by
  refine sx_mz (own := R_M) (by decide) rfl rfl rfl (Nat.le_of_ble_eq_true rfl) ?_
  intro p e s m args below meth c Q ls EE hl hret
  obtain ⟨hx, hb, hml, hown, hts, hG, hK⟩ := id EE
  have hS : sx_S g E E H0 H0 [] := sx_S.rf
  have hl : lv_has ls 2 [(0, .ref a0)] := hl
  refine lv_iconst (v := nI 0) hx hb d_M_zero_0 (by decide +kernel) ?_
  refine lv_istore_n (lv' := [(1, .int (nI (0))), (0, .ref a0)]) hx hb d_M_zero_1 rfl hl (by decide) rfl (fun ls hl => ?_)
  have lp2 : ∀ (k i1 : Nat) (H : Heap) (locs : List Loc) (ls : Array Slot), i1 + k = 16 → sx_S g E E H0 H locs → lv_has ls 2 [(1, .int (nI (i1))), (0, .ref a0)] → W p l e rm_M_zero s m args below meth c H locs 0 0 Q (F0 m 2 ls []) := by
    intro k
    induction k with
    | zero =>
      intro i1  H locs ls hi  hS hl
      refine lv_iload_n hx hb d_M_zero_2 rfl (lv_at hl 0 rfl) ?_
      refine lv_bipush (v := nI 16) hx hb d_M_zero_3 (by decide +kernel) ?_
      refine lv_icmp_ge (tgt := 24) hx hb d_M_zero_5 (by decide) (fun _ => ?_) (fun q => absurd (nI_le (by omega) (by omega)) q)
      refine lv_iconst (v := nI 1) hx hb d_M_zero_24 (by decide +kernel) ?_
      exact hret _ _ _ _ (1) (by omega) hS d_M_zero_25
    | succ k ih2 =>
      intro i1  H locs ls hi  hS hl
      refine lv_iload_n hx hb d_M_zero_2 rfl (lv_at hl 0 rfl) ?_
      refine lv_bipush (v := nI 16) hx hb d_M_zero_3 (by decide +kernel) ?_
      refine lv_icmp_ge (tgt := 24) hx hb d_M_zero_5 (by decide) (fun q => absurd q (nI_ge (by omega) (by omega))) (fun _ => ?_)
      refine lv_aload_n hx hb d_M_zero_8 rfl (lv_at hl 1 rfl) ?_
      refine lv_iload_n hx hb d_M_zero_9 rfl (lv_at hl 0 rfl) ?_
      refine sx_lald hx hb hG hS f0 (sx_in (by omega) (by decide)) d_M_zero_10 (fun z2 => ?_)
      refine lv_lconst (v := 0) hx hb d_M_zero_11 (by decide +kernel) ?_
      refine sx_lcmp hx hb d_M_zero_12 (fun z3 => ?_)
      refine lv_if_eq (tgt := 18) hx hb d_M_zero_13 (by decide) (fun _ => ?_) (fun _ => ?_)
      · skip
        refine lv_iinc (v := nI (i1 + 1)) (lv' := [(1, .int (nI (i1 + 1))), (0, .ref a0)]) hx hb d_M_zero_18 hl (k := 0) rfl (sx_inc _ _) (by decide) rfl (fun ls hl => ?_)
        refine lv_goto (tgt := 2) hx hb d_M_zero_21 (by decide) ?_
        exact ih2 (i1 + 1)  _ _ _ (by omega)  hS (lv_sub hl [0, 1] rfl)
      · skip
        refine lv_iconst (v := nI 0) hx hb d_M_zero_16 (by decide +kernel) ?_
        exact hret _ _ _ _ (0) (by omega) hS d_M_zero_17
  exact lp2 (16) 0  _ _ _ (by omega)  hS (lv_sub hl [0, 1] rfl)
abbrev rm_M_below : Room := { frames := 0, cells := 0, slots := 0, locals := 0 }
set_option maxHeartbeats 4000000 in
set_option maxRecDepth 100000 in
theorem c_M_below {l : Launch} {D : va_G} {g : ClassId → FieldType → Prop} {E : Nat → Prop} {H0 : Heap} {a0 : Nat} {a1 : Nat} (f0 : sx_A g .long H0 a0 16) (f1 : sx_A g .long H0 a1 16) : Met l y_M_below (.code y_M_below b_M_below 3 (some .boolean) :: G_) rm_M_below (sx_Pc [.ref a0, .ref a1] H0 D g) (sx_Qz g E H0) 0 0 E := by
  refine sx_mz (own := R_M) (by decide) rfl rfl rfl (Nat.le_of_ble_eq_true rfl) ?_
  intro p e s m args below meth c Q ls EE hl hret
  obtain ⟨hx, hb, hml, hown, hts, hG, hK⟩ := id EE
  have hS : sx_S g E E H0 H0 [] := sx_S.rf
  have hl : lv_has ls 3 [(0, .ref a0), (1, .ref a1)] := hl
  refine lv_bipush (v := nI 15) hx hb d_M_below_0 (by decide +kernel) ?_
  refine lv_istore_n (lv' := [(2, .int (nI (15))), (0, .ref a0), (1, .ref a1)]) hx hb d_M_below_2 rfl hl (by decide) rfl (fun ls hl => ?_)
  have lp3 : ∀ (i1 : Nat) (xi1 : Int32) (H : Heap) (locs : List Loc) (ls : Array Slot), xi1 = nI i1 - 1 → i1 ≤ 15 + 1 → sx_S g E E H0 H locs → lv_has ls 3 [(2, .int xi1), (0, .ref a0), (1, .ref a1)] → W p l e rm_M_below s m args below meth c H locs 0 0 Q (F0 m 3 ls []) := by
    intro i1
    induction i1 with
    | zero =>
      intro xi1  H locs ls ex hi  hS hl
      refine lv_iload_n hx hb d_M_below_3 rfl (lv_at hl 0 rfl) ?_
      refine lv_if_lt (tgt := 39) hx hb d_M_below_4 (by decide) (fun _ => ?_) (fun q => absurd (by rw [ex]; decide +kernel) q)
      refine lv_iconst (v := nI 0) hx hb d_M_below_39 (by decide +kernel) ?_
      exact hret _ _ _ _ (0) (by omega) hS d_M_below_40
    | succ i1 ih3 =>
      intro xi1  H locs ls ex hi  hS hl
      rw [nI_pred] at ex
      subst ex
      refine lv_iload_n hx hb d_M_below_3 rfl (lv_at hl 0 rfl) ?_
      refine lv_if_lt (tgt := 39) hx hb d_M_below_4 (by decide) (fun q => absurd q (nI_pos (by omega))) (fun _ => ?_)
      refine lv_aload_n hx hb d_M_below_7 rfl (lv_at hl 1 rfl) ?_
      refine lv_iload_n hx hb d_M_below_8 rfl (lv_at hl 0 rfl) ?_
      refine sx_lald hx hb hG hS f0 (sx_in (by omega) (by decide)) d_M_below_9 (fun z2 => ?_)
      refine lv_aload_n hx hb d_M_below_10 rfl (lv_at hl 2 rfl) ?_
      refine lv_iload_n hx hb d_M_below_11 rfl (lv_at hl 0 rfl) ?_
      refine sx_lald hx hb hG hS f1 (sx_in (by omega) (by decide)) d_M_below_12 (fun z3 => ?_)
      refine sx_lcmp hx hb d_M_below_13 (fun z4 => ?_)
      refine lv_if_eq (tgt := 33) hx hb d_M_below_14 (by decide) (fun _ => ?_) (fun _ => ?_)
      · skip
        refine lv_iinc (v := nI i1 - 1) (lv' := [(2, .int (nI i1 - 1)), (0, .ref a0), (1, .ref a1)]) hx hb d_M_below_33 hl (k := 0) rfl (sx_dn _) (by decide) rfl (fun ls hl => ?_)
        refine lv_goto (tgt := 3) hx hb d_M_below_36 (by decide) ?_
        exact ih3 _  _ _ _ rfl (by omega)  hS (lv_sub hl [0, 1, 2] rfl)
      · skip
        refine lv_aload_n hx hb d_M_below_17 rfl (lv_at hl 1 rfl) ?_
        refine lv_iload_n hx hb d_M_below_18 rfl (lv_at hl 0 rfl) ?_
        refine sx_lald hx hb hG hS f0 (sx_in (by omega) (by decide)) d_M_below_19 (fun z5 => ?_)
        refine lv_aload_n hx hb d_M_below_20 rfl (lv_at hl 2 rfl) ?_
        refine lv_iload_n hx hb d_M_below_21 rfl (lv_at hl 0 rfl) ?_
        refine sx_lald hx hb hG hS f1 (sx_in (by omega) (by decide)) d_M_below_22 (fun z6 => ?_)
        refine sx_lcmp hx hb d_M_below_23 (fun z7 => ?_)
        have jn32_8 : ∀ (n8 : Nat) (H : Heap) (locs : List Loc) (ls : Array Slot), n8 ≤ 1 → sx_S g E E H0 H locs → lv_has ls 3 [(2, .int (nI (i1))), (0, .ref a0), (1, .ref a1)] → W p l e rm_M_below s m args below meth c H locs 0 0 Q (F0 m 32 ls [.int (nI (n8))]) := by
          intro n8 H locs ls h_n8 hS hl
          exact hret _ _ _ _ (n8) (by omega) hS d_M_below_32
        refine lv_if_ge (tgt := 31) hx hb d_M_below_24 (by decide) (fun _ => ?_) (fun _ => ?_)
        · skip
          refine lv_iconst (v := nI 0) hx hb d_M_below_31 (by decide +kernel) ?_
          exact jn32_8 0 _ _ _ (by omega) hS (lv_sub hl [0, 1, 2] rfl)
        · skip
          refine lv_iconst (v := nI 1) hx hb d_M_below_27 (by decide +kernel) ?_
          refine lv_goto (tgt := 32) hx hb d_M_below_28 (by decide) ?_
          exact jn32_8 1 _ _ _ (by omega) hS (lv_sub hl [0, 1, 2] rfl)
  exact lp3 16 _  _ _ _ (nI_pred _).symm (by omega)  hS (lv_sub hl [0, 1, 2] rfl)
abbrev rm_M_alike : Room := { frames := 0, cells := 0, slots := 0, locals := 0 }
set_option maxHeartbeats 4000000 in
set_option maxRecDepth 100000 in
theorem c_M_alike {l : Launch} {D : va_G} {g : ClassId → FieldType → Prop} {E : Nat → Prop} {H0 : Heap} {a0 : Nat} {a1 : Nat} (f0 : sx_A g .long H0 a0 16) (f1 : sx_A g .long H0 a1 16) : Met l y_M_alike (.code y_M_alike b_M_alike 3 (some .boolean) :: G_) rm_M_alike (sx_Pc [.ref a0, .ref a1] H0 D g) (sx_Qz g E H0) 0 0 E := by
  refine sx_mz (own := R_M) (by decide) rfl rfl rfl (Nat.le_of_ble_eq_true rfl) ?_
  intro p e s m args below meth c Q ls EE hl hret
  obtain ⟨hx, hb, hml, hown, hts, hG, hK⟩ := id EE
  have hS : sx_S g E E H0 H0 [] := sx_S.rf
  have hl : lv_has ls 3 [(0, .ref a0), (1, .ref a1)] := hl
  refine lv_iconst (v := nI 0) hx hb d_M_alike_0 (by decide +kernel) ?_
  refine lv_istore_n (lv' := [(2, .int (nI (0))), (0, .ref a0), (1, .ref a1)]) hx hb d_M_alike_1 rfl hl (by decide) rfl (fun ls hl => ?_)
  have lp2 : ∀ (k i1 : Nat) (H : Heap) (locs : List Loc) (ls : Array Slot), i1 + k = 16 → sx_S g E E H0 H locs → lv_has ls 3 [(2, .int (nI (i1))), (0, .ref a0), (1, .ref a1)] → W p l e rm_M_alike s m args below meth c H locs 0 0 Q (F0 m 2 ls []) := by
    intro k
    induction k with
    | zero =>
      intro i1  H locs ls hi  hS hl
      refine lv_iload_n hx hb d_M_alike_2 rfl (lv_at hl 0 rfl) ?_
      refine lv_bipush (v := nI 16) hx hb d_M_alike_3 (by decide +kernel) ?_
      refine lv_icmp_ge (tgt := 26) hx hb d_M_alike_5 (by decide) (fun _ => ?_) (fun q => absurd (nI_le (by omega) (by omega)) q)
      refine lv_iconst (v := nI 1) hx hb d_M_alike_26 (by decide +kernel) ?_
      exact hret _ _ _ _ (1) (by omega) hS d_M_alike_27
    | succ k ih2 =>
      intro i1  H locs ls hi  hS hl
      refine lv_iload_n hx hb d_M_alike_2 rfl (lv_at hl 0 rfl) ?_
      refine lv_bipush (v := nI 16) hx hb d_M_alike_3 (by decide +kernel) ?_
      refine lv_icmp_ge (tgt := 26) hx hb d_M_alike_5 (by decide) (fun q => absurd q (nI_ge (by omega) (by omega))) (fun _ => ?_)
      refine lv_aload_n hx hb d_M_alike_8 rfl (lv_at hl 1 rfl) ?_
      refine lv_iload_n hx hb d_M_alike_9 rfl (lv_at hl 0 rfl) ?_
      refine sx_lald hx hb hG hS f0 (sx_in (by omega) (by decide)) d_M_alike_10 (fun z2 => ?_)
      refine lv_aload_n hx hb d_M_alike_11 rfl (lv_at hl 2 rfl) ?_
      refine lv_iload_n hx hb d_M_alike_12 rfl (lv_at hl 0 rfl) ?_
      refine sx_lald hx hb hG hS f1 (sx_in (by omega) (by decide)) d_M_alike_13 (fun z3 => ?_)
      refine sx_lcmp hx hb d_M_alike_14 (fun z4 => ?_)
      refine lv_if_eq (tgt := 20) hx hb d_M_alike_15 (by decide) (fun _ => ?_) (fun _ => ?_)
      · skip
        refine lv_iinc (v := nI (i1 + 1)) (lv' := [(2, .int (nI (i1 + 1))), (0, .ref a0), (1, .ref a1)]) hx hb d_M_alike_20 hl (k := 0) rfl (sx_inc _ _) (by decide) rfl (fun ls hl => ?_)
        refine lv_goto (tgt := 2) hx hb d_M_alike_23 (by decide) ?_
        exact ih2 (i1 + 1)  _ _ _ (by omega)  hS (lv_sub hl [0, 1, 2] rfl)
      · skip
        refine lv_iconst (v := nI 0) hx hb d_M_alike_18 (by decide +kernel) ?_
        exact hret _ _ _ _ (0) (by omega) hS d_M_alike_19
  exact lp2 (16) 0  _ _ _ (by omega)  hS (lv_sub hl [0, 1, 2] rfl)
abbrev rm_M_less : Room := { frames := 0, cells := 0, slots := 0, locals := 0 }
set_option maxHeartbeats 4000000 in
set_option maxRecDepth 100000 in
theorem c_M_less {l : Launch} {D : va_G} {g : ClassId → FieldType → Prop} {E : Nat → Prop} {H0 : Heap} {a0 : Nat} {a1 : Nat} {a2 : Nat} (f0 : sx_A g .long H0 a0 16) (o0 : E a0) (f1 : sx_A g .long H0 a1 16) (f2 : sx_A g .long H0 a2 16) : Met l y_M_less (.code y_M_less b_M_less 8 none :: G_) rm_M_less (sx_Pc [.ref a0, .ref a1, .ref a2] H0 D g) (sx_Qv g E H0) 0 0 E := by
  refine sx_mv (own := R_M) (by decide) rfl rfl rfl (Nat.le_of_ble_eq_true rfl) ?_
  intro p e s m args below meth c Q ls EE hl hret
  obtain ⟨hx, hb, hml, hown, hts, hG, hK⟩ := id EE
  have hS : sx_S g E E H0 H0 [] := sx_S.rf
  have hl : lv_has ls 8 [(0, .ref a0), (1, .ref a1), (2, .ref a2)] := hl
  refine lv_lconst (v := 0) hx hb d_M_less_0 (by decide +kernel) ?_
  refine lv_lstore_n (lv' := [(3, .long 0), (0, .ref a0), (1, .ref a1), (2, .ref a2)]) hx hb d_M_less_1 rfl hl (by decide) rfl (fun ls hl => ?_)
  refine lv_iconst (v := nI 0) hx hb d_M_less_2 (by decide +kernel) ?_
  refine lv_istore (lv' := [(5, .int (nI (0))), (3, .long 0), (0, .ref a0), (1, .ref a1), (2, .ref a2)]) hx hb d_M_less_3 hl (by decide) rfl (fun ls hl => ?_)
  have lp5 : ∀ (k i2 : Nat) (w1 : Int64) (H : Heap) (locs : List Loc) (ls : Array Slot), i2 + k = 16 → sx_S g E E H0 H locs → lv_has ls 8 [(5, .int (nI (i2))), (3, .long w1), (0, .ref a0), (1, .ref a1), (2, .ref a2)] → W p l e rm_M_less s m args below meth c H locs 0 0 Q (F0 m 5 ls []) := by
    intro k
    induction k with
    | zero =>
      intro i2 w1 H locs ls hi  hS hl
      refine lv_iload hx hb d_M_less_5 (lv_at hl 0 rfl) ?_
      refine lv_bipush (v := nI 16) hx hb d_M_less_7 (by decide +kernel) ?_
      refine lv_icmp_ge (tgt := 54) hx hb d_M_less_9 (by decide) (fun _ => ?_) (fun q => absurd (nI_le (by omega) (by omega)) q)
      exact hret _ _ _ _ hS d_M_less_54
    | succ k ih5 =>
      intro i2 w1 H locs ls hi  hS hl
      refine lv_iload hx hb d_M_less_5 (lv_at hl 0 rfl) ?_
      refine lv_bipush (v := nI 16) hx hb d_M_less_7 (by decide +kernel) ?_
      refine lv_icmp_ge (tgt := 54) hx hb d_M_less_9 (by decide) (fun q => absurd q (nI_ge (by omega) (by omega))) (fun _ => ?_)
      refine lv_aload_n hx hb d_M_less_12 rfl (lv_at hl 3 rfl) ?_
      refine lv_iload hx hb d_M_less_13 (lv_at hl 0 rfl) ?_
      refine sx_lald hx hb hG hS f1 (sx_in (by omega) (by decide)) d_M_less_15 (fun z3 => ?_)
      refine lv_aload_n hx hb d_M_less_16 rfl (lv_at hl 4 rfl) ?_
      refine lv_iload hx hb d_M_less_17 (lv_at hl 0 rfl) ?_
      refine sx_lald hx hb hG hS f2 (sx_in (by omega) (by decide)) d_M_less_19 (fun z4 => ?_)
      refine sx_lsub hx hb d_M_less_20 (fun z5 => ?_)
      refine lv_lload_n hx hb d_M_less_21 rfl (lv_at hl 1 rfl) ?_
      refine sx_lsub hx hb d_M_less_22 (fun z6 => ?_)
      refine lv_lstore (lv' := [(6, .long z6), (5, .int (nI (i2))), (3, .long w1), (0, .ref a0), (1, .ref a1), (2, .ref a2)]) hx hb d_M_less_23 hl (by decide) rfl (fun ls hl => ?_)
      refine lv_lload hx hb d_M_less_25 (lv_at hl 0 rfl) ?_
      refine lv_lconst (v := 0) hx hb d_M_less_27 (by decide +kernel) ?_
      refine sx_lcmp hx hb d_M_less_28 (fun z7 => ?_)
      have jn37_8 : ∀ (w8 : Int64) (H : Heap) (locs : List Loc) (ls : Array Slot), sx_S g E E H0 H locs → lv_has ls 8 [(6, .long z6), (5, .int (nI (i2))), (3, .long w1), (0, .ref a0), (1, .ref a1), (2, .ref a2)] → W p l e rm_M_less s m args below meth c H locs 0 0 Q (F0 m 37 ls [.long w8]) := by
        intro w8 H locs ls  hS hl
        refine lv_lstore_n (lv' := [(3, .long w8), (6, .long z6), (5, .int (nI (i2))), (0, .ref a0), (1, .ref a1), (2, .ref a2)]) hx hb d_M_less_37 rfl hl (by decide) rfl (fun ls hl => ?_)
        refine lv_aload_n hx hb d_M_less_38 rfl (lv_at hl 3 rfl) ?_
        refine lv_iload hx hb d_M_less_39 (lv_at hl 2 rfl) ?_
        refine lv_lload hx hb d_M_less_41 (lv_at hl 1 rfl) ?_
        refine lv_ldc2 (v := (65535)) hx hb hown (hts (.constantLong R_M 169 (65535)) (by decide +kernel)) d_M_less_43 ?_
        refine sx_land hx hb d_M_less_46 (fun z10 => ?_)
        refine sx_last hx hb hG hS f0 o0 (sx_in (by omega) (by decide)) d_M_less_47 (fun H locs hS => ?_)
        refine lv_iinc (v := nI (i2 + 1)) (lv' := [(5, .int (nI (i2 + 1))), (3, .long w8), (6, .long z6), (0, .ref a0), (1, .ref a1), (2, .ref a2)]) hx hb d_M_less_48 hl (k := 2) rfl (sx_inc _ _) (by decide) rfl (fun ls hl => ?_)
        refine lv_goto (tgt := 5) hx hb d_M_less_51 (by decide) ?_
        exact ih5 (i2 + 1) w8 _ _ _ (by omega)  hS (lv_sub hl [0, 1, 3, 4, 5] rfl)
      refine lv_if_ge (tgt := 36) hx hb d_M_less_29 (by decide) (fun _ => ?_) (fun _ => ?_)
      · skip
        refine lv_lconst (v := 0) hx hb d_M_less_36 (by decide +kernel) ?_
        exact jn37_8 0 _ _ _  hS (lv_sub hl [0, 1, 2, 3, 4, 5] rfl)
      · skip
        refine lv_lconst (v := 1) hx hb d_M_less_32 (by decide +kernel) ?_
        refine lv_goto (tgt := 37) hx hb d_M_less_33 (by decide) ?_
        exact jn37_8 1 _ _ _  hS (lv_sub hl [0, 1, 2, 3, 4, 5] rfl)
  exact lp5 (16) 0 0 _ _ _ (by omega)  hS (lv_sub hl [0, 1, 2, 3, 4] rfl)
abbrev rm_M_plus : Room := { frames := 1, cells := 0, slots := 0, locals := 27 }
set_option maxHeartbeats 4000000 in
set_option maxRecDepth 100000 in
theorem c_M_plus {l : Launch} {D : va_G} {g : ClassId → FieldType → Prop} {E : Nat → Prop} {H0 : Heap} {a0 : Nat} {a1 : Nat} {a2 : Nat} {a3 : Nat} (f0 : sx_A g .long H0 a0 16) (o0 : E a0) (f1 : sx_A g .long H0 a1 16) (f2 : sx_A g .long H0 a2 16) (f3 : sx_A g .long H0 a3 16) : Met l y_M_plus (.code y_M_plus b_M_plus 7 none :: G_) rm_M_plus (sx_Pc [.ref a0, .ref a1, .ref a2, .ref a3] H0 D g) (sx_Qv g E H0) 0 0 E := by
  refine sx_mv (own := R_M) (by decide) rfl rfl rfl (Nat.le_of_ble_eq_true rfl) ?_
  intro p e s m args below meth c Q ls EE hl hret
  obtain ⟨hx, hb, hml, hown, hts, hG, hK⟩ := id EE
  have hS : sx_S g E E H0 H0 [] := sx_S.rf
  have hl : lv_has ls 7 [(0, .ref a0), (1, .ref a1), (2, .ref a2), (3, .ref a3)] := hl
  refine lv_lconst (v := 0) hx hb d_M_plus_0 (by decide +kernel) ?_
  refine lv_lstore (lv' := [(4, .long 0), (0, .ref a0), (1, .ref a1), (2, .ref a2), (3, .ref a3)]) hx hb d_M_plus_1 hl (by decide) rfl (fun ls hl => ?_)
  refine lv_iconst (v := nI 0) hx hb d_M_plus_3 (by decide +kernel) ?_
  refine lv_istore (lv' := [(6, .int (nI (0))), (4, .long 0), (0, .ref a0), (1, .ref a1), (2, .ref a2), (3, .ref a3)]) hx hb d_M_plus_4 hl (by decide) rfl (fun ls hl => ?_)
  have lp6 : ∀ (k i2 : Nat) (w1 : Int64) (H : Heap) (locs : List Loc) (ls : Array Slot), i2 + k = 16 → sx_S g E E H0 H locs → lv_has ls 7 [(6, .int (nI (i2))), (4, .long w1), (0, .ref a0), (1, .ref a1), (2, .ref a2), (3, .ref a3)] → W p l e rm_M_plus s m args below meth c H locs 0 0 Q (F0 m 6 ls []) := by
    intro k
    induction k with
    | zero =>
      intro i2 w1 H locs ls hi  hS hl
      refine lv_iload hx hb d_M_plus_6 (lv_at hl 0 rfl) ?_
      refine lv_bipush (v := nI 16) hx hb d_M_plus_8 (by decide +kernel) ?_
      refine lv_icmp_ge (tgt := 50) hx hb d_M_plus_10 (by decide) (fun _ => ?_) (fun q => absurd (nI_le (by omega) (by omega)) q)
      refine lv_lload hx hb d_M_plus_50 (lv_at hl 1 rfl) ?_
      refine lv_lconst (v := 0) hx hb d_M_plus_52 (by decide +kernel) ?_
      refine sx_lcmp hx hb d_M_plus_53 (fun z3 => ?_)
      have jn71_4 : ∀ (H : Heap) (locs : List Loc) (ls : Array Slot), sx_S g E E H0 H locs → lv_has ls 7 [(6, .int (nI (i2))), (4, .long w1), (0, .ref a0), (1, .ref a1), (2, .ref a2), (3, .ref a3)] → W p l e rm_M_plus s m args below meth c H locs 0 0 Q (F0 m 71 ls []) := by
        intro  H locs ls  hS hl
        exact hret _ _ _ _ hS d_M_plus_71
      refine lv_if_gt (tgt := 65) hx hb d_M_plus_54 (by decide) (fun _ => ?_) (fun _ => ?_)
      · skip
        refine lv_aload_n hx hb d_M_plus_65 rfl (lv_at hl 2 rfl) ?_
        refine lv_aload_n hx hb d_M_plus_66 rfl (lv_at hl 2 rfl) ?_
        refine lv_aload_n hx hb d_M_plus_67 rfl (lv_at hl 5 rfl) ?_
        refine sx_gv (sx_runS (As := [.ref a0, .ref a0, .ref a3]) (rest := []) EE (c_M_less (hS.a f0) o0 (hS.a f0) (hS.a f3)) w_M_219 rfl ⟨rfl, rfl⟩ ⟨Nat.le_of_ble_eq_true rfl, Nat.le_of_ble_eq_true rfl⟩ ⟨Nat.zero_le _, Nat.zero_le _⟩ hl.1 rfl (Nat.le_of_ble_eq_true rfl) d_M_plus_68) hS (fun H locs hS => ?_)
        exact jn71_4  _ _ _  hS (lv_sub hl [0, 1, 2, 3, 4, 5] rfl)
      · skip
        refine lv_aload_n hx hb d_M_plus_57 rfl (lv_at hl 2 rfl) ?_
        refine lv_aload_n hx hb d_M_plus_58 rfl (lv_at hl 5 rfl) ?_
        refine sx_gn (sx_runS (As := [.ref a0, .ref a3]) (rest := []) EE (c_M_below (hS.a f0) (hS.a f3)) w_M_215 rfl ⟨rfl, rfl⟩ ⟨Nat.le_of_ble_eq_true rfl, Nat.le_of_ble_eq_true rfl⟩ ⟨Nat.zero_le _, Nat.zero_le _⟩ hl.1 rfl (Nat.le_of_ble_eq_true rfl) d_M_plus_59) hS (fun n6 h_n6 H locs hS => ?_)
        have h_n6 : n6 ≤ 1 := h_n6
        refine lv_if_ne (tgt := 71) hx hb d_M_plus_62 (by decide) (fun q62 => ?_) (fun q62 => ?_)
        · skip
          have q62 : ¬ (n6 = 0) := fun z => q62 ((nI_eq (a := n6) (b := 0) (by omega) (by omega)).mpr z)
          exact jn71_4  _ _ _  hS (lv_sub hl [0, 1, 2, 3, 4, 5] rfl)
        · skip
          have q62 : n6 = 0 := (nI_eq (a := n6) (b := 0) (by omega) (by omega)).mp q62
          refine lv_aload_n hx hb d_M_plus_65 rfl (lv_at hl 2 rfl) ?_
          refine lv_aload_n hx hb d_M_plus_66 rfl (lv_at hl 2 rfl) ?_
          refine lv_aload_n hx hb d_M_plus_67 rfl (lv_at hl 5 rfl) ?_
          refine sx_gv (sx_runS (As := [.ref a0, .ref a0, .ref a3]) (rest := []) EE (c_M_less (hS.a f0) o0 (hS.a f0) (hS.a f3)) w_M_219 rfl ⟨rfl, rfl⟩ ⟨Nat.le_of_ble_eq_true rfl, Nat.le_of_ble_eq_true rfl⟩ ⟨Nat.zero_le _, Nat.zero_le _⟩ hl.1 rfl (Nat.le_of_ble_eq_true rfl) d_M_plus_68) hS (fun H locs hS => ?_)
          exact jn71_4  _ _ _  hS (lv_sub hl [0, 1, 2, 3, 4, 5] rfl)
    | succ k ih6 =>
      intro i2 w1 H locs ls hi  hS hl
      refine lv_iload hx hb d_M_plus_6 (lv_at hl 0 rfl) ?_
      refine lv_bipush (v := nI 16) hx hb d_M_plus_8 (by decide +kernel) ?_
      refine lv_icmp_ge (tgt := 50) hx hb d_M_plus_10 (by decide) (fun q => absurd q (nI_ge (by omega) (by omega))) (fun _ => ?_)
      refine lv_lload hx hb d_M_plus_13 (lv_at hl 1 rfl) ?_
      refine lv_aload_n hx hb d_M_plus_15 rfl (lv_at hl 3 rfl) ?_
      refine lv_iload hx hb d_M_plus_16 (lv_at hl 0 rfl) ?_
      refine sx_lald hx hb hG hS f1 (sx_in (by omega) (by decide)) d_M_plus_18 (fun z7 => ?_)
      refine lv_aload_n hx hb d_M_plus_19 rfl (lv_at hl 4 rfl) ?_
      refine lv_iload hx hb d_M_plus_20 (lv_at hl 0 rfl) ?_
      refine sx_lald hx hb hG hS f2 (sx_in (by omega) (by decide)) d_M_plus_22 (fun z8 => ?_)
      refine sx_ladd hx hb d_M_plus_23 (fun z9 => ?_)
      refine sx_ladd hx hb d_M_plus_24 (fun z10 => ?_)
      refine lv_lstore (lv' := [(4, .long z10), (6, .int (nI (i2))), (0, .ref a0), (1, .ref a1), (2, .ref a2), (3, .ref a3)]) hx hb d_M_plus_25 hl (by decide) rfl (fun ls hl => ?_)
      refine lv_aload_n hx hb d_M_plus_27 rfl (lv_at hl 2 rfl) ?_
      refine lv_iload hx hb d_M_plus_28 (lv_at hl 1 rfl) ?_
      refine lv_lload hx hb d_M_plus_30 (lv_at hl 0 rfl) ?_
      refine lv_ldc2 (v := (65535)) hx hb hown (hts (.constantLong R_M 169 (65535)) (by decide +kernel)) d_M_plus_32 ?_
      refine sx_land hx hb d_M_plus_35 (fun z11 => ?_)
      refine sx_last hx hb hG hS f0 o0 (sx_in (by omega) (by decide)) d_M_plus_36 (fun H locs hS => ?_)
      refine lv_lload hx hb d_M_plus_37 (lv_at hl 0 rfl) ?_
      refine lv_bipush (v := nI 16) hx hb d_M_plus_39 (by decide +kernel) ?_
      refine sx_lshr hx hb d_M_plus_41 (fun z12 => ?_)
      refine lv_lstore (lv' := [(4, .long z12), (6, .int (nI (i2))), (0, .ref a0), (1, .ref a1), (2, .ref a2), (3, .ref a3)]) hx hb d_M_plus_42 hl (by decide) rfl (fun ls hl => ?_)
      refine lv_iinc (v := nI (i2 + 1)) (lv' := [(6, .int (nI (i2 + 1))), (4, .long z12), (0, .ref a0), (1, .ref a1), (2, .ref a2), (3, .ref a3)]) hx hb d_M_plus_44 hl (k := 1) rfl (sx_inc _ _) (by decide) rfl (fun ls hl => ?_)
      refine lv_goto (tgt := 6) hx hb d_M_plus_47 (by decide) ?_
      exact ih6 (i2 + 1) z12 _ _ _ (by omega)  hS (lv_sub hl [0, 1, 2, 3, 4, 5] rfl)
  exact lp6 (16) 0 0 _ _ _ (by omega)  hS (lv_sub hl [0, 1, 2, 3, 4, 5] rfl)
abbrev rm_M_minus : Room := { frames := 0, cells := 0, slots := 0, locals := 0 }
set_option maxHeartbeats 4000000 in
set_option maxRecDepth 100000 in
theorem c_M_minus {l : Launch} {D : va_G} {g : ClassId → FieldType → Prop} {E : Nat → Prop} {H0 : Heap} {a0 : Nat} {a1 : Nat} {a2 : Nat} {a3 : Nat} (f0 : sx_A g .long H0 a0 16) (o0 : E a0) (f1 : sx_A g .long H0 a1 16) (f2 : sx_A g .long H0 a2 16) (f3 : sx_A g .long H0 a3 16) : Met l y_M_minus (.code y_M_minus b_M_minus 9 none :: G_) rm_M_minus (sx_Pc [.ref a0, .ref a1, .ref a2, .ref a3] H0 D g) (sx_Qv g E H0) 0 0 E := by
  refine sx_mv (own := R_M) (by decide) rfl rfl rfl (Nat.le_of_ble_eq_true rfl) ?_
  intro p e s m args below meth c Q ls EE hl hret
  obtain ⟨hx, hb, hml, hown, hts, hG, hK⟩ := id EE
  have hS : sx_S g E E H0 H0 [] := sx_S.rf
  have hl : lv_has ls 9 [(0, .ref a0), (1, .ref a1), (2, .ref a2), (3, .ref a3)] := hl
  refine lv_lconst (v := 0) hx hb d_M_minus_0 (by decide +kernel) ?_
  refine lv_lstore (lv' := [(4, .long 0), (0, .ref a0), (1, .ref a1), (2, .ref a2), (3, .ref a3)]) hx hb d_M_minus_1 hl (by decide) rfl (fun ls hl => ?_)
  refine lv_iconst (v := nI 0) hx hb d_M_minus_3 (by decide +kernel) ?_
  refine lv_istore (lv' := [(6, .int (nI (0))), (4, .long 0), (0, .ref a0), (1, .ref a1), (2, .ref a2), (3, .ref a3)]) hx hb d_M_minus_4 hl (by decide) rfl (fun ls hl => ?_)
  have lp6 : ∀ (k i2 : Nat) (w1 : Int64) (H : Heap) (locs : List Loc) (ls : Array Slot), i2 + k = 16 → sx_S g E E H0 H locs → lv_has ls 9 [(6, .int (nI (i2))), (4, .long w1), (0, .ref a0), (1, .ref a1), (2, .ref a2), (3, .ref a3)] → W p l e rm_M_minus s m args below meth c H locs 0 0 Q (F0 m 6 ls []) := by
    intro k
    induction k with
    | zero =>
      intro i2 w1 H locs ls hi  hS hl
      refine lv_iload hx hb d_M_minus_6 (lv_at hl 0 rfl) ?_
      refine lv_bipush (v := nI 16) hx hb d_M_minus_8 (by decide +kernel) ?_
      refine lv_icmp_ge (tgt := 57) hx hb d_M_minus_10 (by decide) (fun _ => ?_) (fun q => absurd (nI_le (by omega) (by omega)) q)
      refine lv_lload hx hb d_M_minus_57 (lv_at hl 1 rfl) ?_
      refine lv_lconst (v := 0) hx hb d_M_minus_59 (by decide +kernel) ?_
      refine sx_lcmp hx hb d_M_minus_60 (fun z3 => ?_)
      refine lv_if_ne (tgt := 65) hx hb d_M_minus_61 (by decide) (fun _ => ?_) (fun _ => ?_)
      · skip
        refine lv_lconst (v := 0) hx hb d_M_minus_65 (by decide +kernel) ?_
        refine lv_lstore (lv' := [(6, .long 0), (4, .long w1), (0, .ref a0), (1, .ref a1), (2, .ref a2), (3, .ref a3)]) hx hb d_M_minus_66 hl (by decide) rfl (fun ls hl => ?_)
        refine lv_iconst (v := nI 0) hx hb d_M_minus_68 (by decide +kernel) ?_
        refine lv_istore (lv' := [(8, .int (nI (0))), (6, .long 0), (4, .long w1), (0, .ref a0), (1, .ref a1), (2, .ref a2), (3, .ref a3)]) hx hb d_M_minus_69 hl (by decide) rfl (fun ls hl => ?_)
        have lp71 : ∀ (k i5 : Nat) (w4 : Int64) (H : Heap) (locs : List Loc) (ls : Array Slot), i5 + k = 16 → sx_S g E E H0 H locs → lv_has ls 9 [(8, .int (nI (i5))), (6, .long w4), (4, .long w1), (0, .ref a0), (1, .ref a1), (2, .ref a2), (3, .ref a3)] → W p l e rm_M_minus s m args below meth c H locs 0 0 Q (F0 m 71 ls []) := by
          intro k
          induction k with
          | zero =>
            intro i5 w4 H locs ls hi  hS hl
            refine lv_iload hx hb d_M_minus_71 (lv_at hl 0 rfl) ?_
            refine lv_bipush (v := nI 16) hx hb d_M_minus_73 (by decide +kernel) ?_
            refine lv_icmp_ge (tgt := 115) hx hb d_M_minus_75 (by decide) (fun _ => ?_) (fun q => absurd (nI_le (by omega) (by omega)) q)
            exact hret _ _ _ _ hS d_M_minus_115
          | succ k ih71 =>
            intro i5 w4 H locs ls hi  hS hl
            refine lv_iload hx hb d_M_minus_71 (lv_at hl 0 rfl) ?_
            refine lv_bipush (v := nI 16) hx hb d_M_minus_73 (by decide +kernel) ?_
            refine lv_icmp_ge (tgt := 115) hx hb d_M_minus_75 (by decide) (fun q => absurd q (nI_ge (by omega) (by omega))) (fun _ => ?_)
            refine lv_lload hx hb d_M_minus_78 (lv_at hl 1 rfl) ?_
            refine lv_aload_n hx hb d_M_minus_80 rfl (lv_at hl 3 rfl) ?_
            refine lv_iload hx hb d_M_minus_81 (lv_at hl 0 rfl) ?_
            refine sx_lald hx hb hG hS f0 (sx_in (by omega) (by decide)) d_M_minus_83 (fun z6 => ?_)
            refine lv_aload_n hx hb d_M_minus_84 rfl (lv_at hl 6 rfl) ?_
            refine lv_iload hx hb d_M_minus_85 (lv_at hl 0 rfl) ?_
            refine sx_lald hx hb hG hS f3 (sx_in (by omega) (by decide)) d_M_minus_87 (fun z7 => ?_)
            refine sx_ladd hx hb d_M_minus_88 (fun z8 => ?_)
            refine sx_ladd hx hb d_M_minus_89 (fun z9 => ?_)
            refine lv_lstore (lv' := [(6, .long z9), (8, .int (nI (i5))), (4, .long w1), (0, .ref a0), (1, .ref a1), (2, .ref a2), (3, .ref a3)]) hx hb d_M_minus_90 hl (by decide) rfl (fun ls hl => ?_)
            refine lv_aload_n hx hb d_M_minus_92 rfl (lv_at hl 3 rfl) ?_
            refine lv_iload hx hb d_M_minus_93 (lv_at hl 1 rfl) ?_
            refine lv_lload hx hb d_M_minus_95 (lv_at hl 0 rfl) ?_
            refine lv_ldc2 (v := (65535)) hx hb hown (hts (.constantLong R_M 169 (65535)) (by decide +kernel)) d_M_minus_97 ?_
            refine sx_land hx hb d_M_minus_100 (fun z10 => ?_)
            refine sx_last hx hb hG hS f0 o0 (sx_in (by omega) (by decide)) d_M_minus_101 (fun H locs hS => ?_)
            refine lv_lload hx hb d_M_minus_102 (lv_at hl 0 rfl) ?_
            refine lv_bipush (v := nI 16) hx hb d_M_minus_104 (by decide +kernel) ?_
            refine sx_lshr hx hb d_M_minus_106 (fun z11 => ?_)
            refine lv_lstore (lv' := [(6, .long z11), (8, .int (nI (i5))), (4, .long w1), (0, .ref a0), (1, .ref a1), (2, .ref a2), (3, .ref a3)]) hx hb d_M_minus_107 hl (by decide) rfl (fun ls hl => ?_)
            refine lv_iinc (v := nI (i5 + 1)) (lv' := [(8, .int (nI (i5 + 1))), (6, .long z11), (4, .long w1), (0, .ref a0), (1, .ref a1), (2, .ref a2), (3, .ref a3)]) hx hb d_M_minus_109 hl (k := 1) rfl (sx_inc _ _) (by decide) rfl (fun ls hl => ?_)
            refine lv_goto (tgt := 71) hx hb d_M_minus_112 (by decide) ?_
            exact ih71 (i5 + 1) z11 _ _ _ (by omega)  hS (lv_sub hl [0, 1, 2, 3, 4, 5, 6] rfl)
        exact lp71 (16) 0 0 _ _ _ (by omega)  hS (lv_sub hl [0, 1, 2, 3, 4, 5, 6] rfl)
      · skip
        exact hret _ _ _ _ hS d_M_minus_64
    | succ k ih6 =>
      intro i2 w1 H locs ls hi  hS hl
      refine lv_iload hx hb d_M_minus_6 (lv_at hl 0 rfl) ?_
      refine lv_bipush (v := nI 16) hx hb d_M_minus_8 (by decide +kernel) ?_
      refine lv_icmp_ge (tgt := 57) hx hb d_M_minus_10 (by decide) (fun q => absurd q (nI_ge (by omega) (by omega))) (fun _ => ?_)
      refine lv_aload_n hx hb d_M_minus_13 rfl (lv_at hl 3 rfl) ?_
      refine lv_iload hx hb d_M_minus_14 (lv_at hl 0 rfl) ?_
      refine sx_lald hx hb hG hS f1 (sx_in (by omega) (by decide)) d_M_minus_16 (fun z12 => ?_)
      refine lv_aload_n hx hb d_M_minus_17 rfl (lv_at hl 4 rfl) ?_
      refine lv_iload hx hb d_M_minus_18 (lv_at hl 0 rfl) ?_
      refine sx_lald hx hb hG hS f2 (sx_in (by omega) (by decide)) d_M_minus_20 (fun z13 => ?_)
      refine sx_lsub hx hb d_M_minus_21 (fun z14 => ?_)
      refine lv_lload hx hb d_M_minus_22 (lv_at hl 1 rfl) ?_
      refine sx_lsub hx hb d_M_minus_24 (fun z15 => ?_)
      refine lv_lstore (lv' := [(7, .long z15), (6, .int (nI (i2))), (4, .long w1), (0, .ref a0), (1, .ref a1), (2, .ref a2), (3, .ref a3)]) hx hb d_M_minus_25 hl (by decide) rfl (fun ls hl => ?_)
      refine lv_lload hx hb d_M_minus_27 (lv_at hl 0 rfl) ?_
      refine lv_lconst (v := 0) hx hb d_M_minus_29 (by decide +kernel) ?_
      refine sx_lcmp hx hb d_M_minus_30 (fun z16 => ?_)
      have jn39_17 : ∀ (w17 : Int64) (H : Heap) (locs : List Loc) (ls : Array Slot), sx_S g E E H0 H locs → lv_has ls 9 [(7, .long z15), (6, .int (nI (i2))), (4, .long w1), (0, .ref a0), (1, .ref a1), (2, .ref a2), (3, .ref a3)] → W p l e rm_M_minus s m args below meth c H locs 0 0 Q (F0 m 39 ls [.long w17]) := by
        intro w17 H locs ls  hS hl
        refine lv_lstore (lv' := [(4, .long w17), (7, .long z15), (6, .int (nI (i2))), (0, .ref a0), (1, .ref a1), (2, .ref a2), (3, .ref a3)]) hx hb d_M_minus_39 hl (by decide) rfl (fun ls hl => ?_)
        refine lv_aload_n hx hb d_M_minus_41 rfl (lv_at hl 3 rfl) ?_
        refine lv_iload hx hb d_M_minus_42 (lv_at hl 2 rfl) ?_
        refine lv_lload hx hb d_M_minus_44 (lv_at hl 1 rfl) ?_
        refine lv_ldc2 (v := (65535)) hx hb hown (hts (.constantLong R_M 169 (65535)) (by decide +kernel)) d_M_minus_46 ?_
        refine sx_land hx hb d_M_minus_49 (fun z19 => ?_)
        refine sx_last hx hb hG hS f0 o0 (sx_in (by omega) (by decide)) d_M_minus_50 (fun H locs hS => ?_)
        refine lv_iinc (v := nI (i2 + 1)) (lv' := [(6, .int (nI (i2 + 1))), (4, .long w17), (7, .long z15), (0, .ref a0), (1, .ref a1), (2, .ref a2), (3, .ref a3)]) hx hb d_M_minus_51 hl (k := 2) rfl (sx_inc _ _) (by decide) rfl (fun ls hl => ?_)
        refine lv_goto (tgt := 6) hx hb d_M_minus_54 (by decide) ?_
        exact ih6 (i2 + 1) w17 _ _ _ (by omega)  hS (lv_sub hl [0, 1, 3, 4, 5, 6] rfl)
      refine lv_if_ge (tgt := 38) hx hb d_M_minus_31 (by decide) (fun _ => ?_) (fun _ => ?_)
      · skip
        refine lv_lconst (v := 0) hx hb d_M_minus_38 (by decide +kernel) ?_
        exact jn39_17 0 _ _ _  hS (lv_sub hl [0, 1, 2, 3, 4, 5, 6] rfl)
      · skip
        refine lv_lconst (v := 1) hx hb d_M_minus_34 (by decide +kernel) ?_
        refine lv_goto (tgt := 39) hx hb d_M_minus_35 (by decide) ?_
        exact jn39_17 1 _ _ _  hS (lv_sub hl [0, 1, 2, 3, 4, 5, 6] rfl)
  exact lp6 (16) 0 0 _ _ _ (by omega)  hS (lv_sub hl [0, 1, 2, 3, 4, 5] rfl)
abbrev rm_M_half : Room := { frames := 0, cells := 0, slots := 0, locals := 0 }
set_option maxHeartbeats 4000000 in
set_option maxRecDepth 100000 in
theorem c_M_half {l : Launch} {D : va_G} {g : ClassId → FieldType → Prop} {E : Nat → Prop} {H0 : Heap} {a0 : Nat} {a1 : Nat} (f0 : sx_A g .long H0 a0 17) (o0 : E a0) (f1 : sx_A g .long H0 a1 16) : Met l y_M_half (.code y_M_half b_M_half 5 none :: G_) rm_M_half (sx_Pc [.ref a0, .ref a1] H0 D g) (sx_Qv g E H0) 0 0 E := by
  refine sx_mv (own := R_M) (by decide) rfl rfl rfl (Nat.le_of_ble_eq_true rfl) ?_
  intro p e s m args below meth c Q ls EE hl hret
  obtain ⟨hx, hb, hml, hown, hts, hG, hK⟩ := id EE
  have hS : sx_S g E E H0 H0 [] := sx_S.rf
  have hl : lv_has ls 5 [(0, .ref a0), (1, .ref a1)] := hl
  refine lv_aload_n hx hb d_M_half_0 rfl (lv_at hl 0 rfl) ?_
  refine lv_iconst (v := nI 0) hx hb d_M_half_1 (by decide +kernel) ?_
  refine sx_lald hx hb hG hS f0 (sx_in (by omega) (by decide)) d_M_half_2 (fun z1 => ?_)
  refine lv_lconst (v := 1) hx hb d_M_half_3 (by decide +kernel) ?_
  refine sx_land hx hb d_M_half_4 (fun z2 => ?_)
  refine lv_lconst (v := 1) hx hb d_M_half_5 (by decide +kernel) ?_
  refine sx_lcmp hx hb d_M_half_6 (fun z3 => ?_)
  have jn62_13 : ∀ (H : Heap) (locs : List Loc) (ls : Array Slot), sx_S g E E H0 H locs → lv_has ls 5 [(0, .ref a0), (1, .ref a1)] → W p l e rm_M_half s m args below meth c H locs 0 0 Q (F0 m 62 ls []) := by
    intro  H locs ls  hS hl
    refine lv_iconst (v := nI 0) hx hb d_M_half_62 (by decide +kernel) ?_
    refine lv_istore_n (lv' := [(2, .int (nI (0))), (0, .ref a0), (1, .ref a1)]) hx hb d_M_half_63 rfl hl (by decide) rfl (fun ls hl => ?_)
    have lp64 : ∀ (k i15 : Nat) (H : Heap) (locs : List Loc) (ls : Array Slot), i15 + k = 16 → sx_S g E E H0 H locs → lv_has ls 5 [(2, .int (nI (i15))), (0, .ref a0), (1, .ref a1)] → W p l e rm_M_half s m args below meth c H locs 0 0 Q (F0 m 64 ls []) := by
      intro k
      induction k with
      | zero =>
        intro i15  H locs ls hi  hS hl
        refine lv_iload_n hx hb d_M_half_64 rfl (lv_at hl 0 rfl) ?_
        refine lv_bipush (v := nI 16) hx hb d_M_half_65 (by decide +kernel) ?_
        refine lv_icmp_ge (tgt := 95) hx hb d_M_half_67 (by decide) (fun _ => ?_) (fun q => absurd (nI_le (by omega) (by omega)) q)
        refine lv_aload_n hx hb d_M_half_95 rfl (lv_at hl 1 rfl) ?_
        refine lv_bipush (v := nI 16) hx hb d_M_half_96 (by decide +kernel) ?_
        refine lv_dup2_11 hx hb d_M_half_98 rfl rfl ?_
        refine sx_lald hx hb hG hS f0 (sx_in (by omega) (by decide)) d_M_half_99 (fun z16 => ?_)
        refine lv_iconst (v := nI 1) hx hb d_M_half_100 (by decide +kernel) ?_
        refine sx_lshr hx hb d_M_half_101 (fun z17 => ?_)
        refine sx_last hx hb hG hS f0 o0 (sx_in (by omega) (by decide)) d_M_half_102 (fun H locs hS => ?_)
        exact hret _ _ _ _ hS d_M_half_103
      | succ k ih64 =>
        intro i15  H locs ls hi  hS hl
        refine lv_iload_n hx hb d_M_half_64 rfl (lv_at hl 0 rfl) ?_
        refine lv_bipush (v := nI 16) hx hb d_M_half_65 (by decide +kernel) ?_
        refine lv_icmp_ge (tgt := 95) hx hb d_M_half_67 (by decide) (fun q => absurd q (nI_ge (by omega) (by omega))) (fun _ => ?_)
        refine lv_aload_n hx hb d_M_half_70 rfl (lv_at hl 1 rfl) ?_
        refine lv_iload_n hx hb d_M_half_71 rfl (lv_at hl 0 rfl) ?_
        refine lv_aload_n hx hb d_M_half_72 rfl (lv_at hl 1 rfl) ?_
        refine lv_iload_n hx hb d_M_half_73 rfl (lv_at hl 0 rfl) ?_
        refine sx_lald hx hb hG hS f0 (sx_in (by omega) (by decide)) d_M_half_74 (fun z18 => ?_)
        refine lv_iconst (v := nI 1) hx hb d_M_half_75 (by decide +kernel) ?_
        refine sx_lshr hx hb d_M_half_76 (fun z19 => ?_)
        refine lv_aload_n hx hb d_M_half_77 rfl (lv_at hl 1 rfl) ?_
        refine lv_iload_n hx hb d_M_half_78 rfl (lv_at hl 0 rfl) ?_
        refine lv_iconst (v := nI 1) hx hb d_M_half_79 (by decide +kernel) ?_
        refine lv_iadd hx hb d_M_half_80 ?_
        refine sx_ti (y := nI (i15 + 1)) (nI_add _ _) ?_
        refine sx_lald hx hb hG hS f0 (sx_in (by omega) (by decide)) d_M_half_81 (fun z20 => ?_)
        refine lv_lconst (v := 1) hx hb d_M_half_82 (by decide +kernel) ?_
        refine sx_land hx hb d_M_half_83 (fun z21 => ?_)
        refine lv_bipush (v := nI 15) hx hb d_M_half_84 (by decide +kernel) ?_
        refine sx_lshl hx hb d_M_half_86 (fun z22 => ?_)
        refine sx_lor hx hb d_M_half_87 (fun z23 => ?_)
        refine sx_last hx hb hG hS f0 o0 (sx_in (by omega) (by decide)) d_M_half_88 (fun H locs hS => ?_)
        refine lv_iinc (v := nI (i15 + 1)) (lv' := [(2, .int (nI (i15 + 1))), (0, .ref a0), (1, .ref a1)]) hx hb d_M_half_89 hl (k := 0) rfl (sx_inc _ _) (by decide) rfl (fun ls hl => ?_)
        refine lv_goto (tgt := 64) hx hb d_M_half_92 (by decide) ?_
        exact ih64 (i15 + 1)  _ _ _ (by omega)  hS (lv_sub hl [0, 1, 2] rfl)
    exact lp64 (16) 0  _ _ _ (by omega)  hS (lv_sub hl [0, 1, 2] rfl)
  refine lv_if_ne (tgt := 62) hx hb d_M_half_7 (by decide) (fun _ => ?_) (fun _ => ?_)
  · skip
    exact jn62_13  _ _ _  hS (lv_sub hl [0, 1] rfl)
  · skip
    refine lv_lconst (v := 0) hx hb d_M_half_10 (by decide +kernel) ?_
    refine lv_lstore_n (lv' := [(2, .long 0), (0, .ref a0), (1, .ref a1)]) hx hb d_M_half_11 rfl hl (by decide) rfl (fun ls hl => ?_)
    refine lv_iconst (v := nI 0) hx hb d_M_half_12 (by decide +kernel) ?_
    refine lv_istore (lv' := [(4, .int (nI (0))), (2, .long 0), (0, .ref a0), (1, .ref a1)]) hx hb d_M_half_13 hl (by decide) rfl (fun ls hl => ?_)
    have lp15 : ∀ (k i25 : Nat) (w24 : Int64) (H : Heap) (locs : List Loc) (ls : Array Slot), i25 + k = 16 → sx_S g E E H0 H locs → lv_has ls 5 [(4, .int (nI (i25))), (2, .long w24), (0, .ref a0), (1, .ref a1)] → W p l e rm_M_half s m args below meth c H locs 0 0 Q (F0 m 15 ls []) := by
      intro k
      induction k with
      | zero =>
        intro i25 w24 H locs ls hi  hS hl
        refine lv_iload hx hb d_M_half_15 (lv_at hl 0 rfl) ?_
        refine lv_bipush (v := nI 16) hx hb d_M_half_17 (by decide +kernel) ?_
        refine lv_icmp_ge (tgt := 54) hx hb d_M_half_19 (by decide) (fun _ => ?_) (fun q => absurd (nI_le (by omega) (by omega)) q)
        refine lv_aload_n hx hb d_M_half_54 rfl (lv_at hl 2 rfl) ?_
        refine lv_bipush (v := nI 16) hx hb d_M_half_55 (by decide +kernel) ?_
        refine lv_dup2_11 hx hb d_M_half_57 rfl rfl ?_
        refine sx_lald hx hb hG hS f0 (sx_in (by omega) (by decide)) d_M_half_58 (fun z26 => ?_)
        refine lv_lload_n hx hb d_M_half_59 rfl (lv_at hl 1 rfl) ?_
        refine sx_ladd hx hb d_M_half_60 (fun z27 => ?_)
        refine sx_last hx hb hG hS f0 o0 (sx_in (by omega) (by decide)) d_M_half_61 (fun H locs hS => ?_)
        exact jn62_13  _ _ _  hS (lv_sub hl [2, 3] rfl)
      | succ k ih15 =>
        intro i25 w24 H locs ls hi  hS hl
        refine lv_iload hx hb d_M_half_15 (lv_at hl 0 rfl) ?_
        refine lv_bipush (v := nI 16) hx hb d_M_half_17 (by decide +kernel) ?_
        refine lv_icmp_ge (tgt := 54) hx hb d_M_half_19 (by decide) (fun q => absurd q (nI_ge (by omega) (by omega))) (fun _ => ?_)
        refine lv_lload_n hx hb d_M_half_22 rfl (lv_at hl 1 rfl) ?_
        refine lv_aload_n hx hb d_M_half_23 rfl (lv_at hl 2 rfl) ?_
        refine lv_iload hx hb d_M_half_24 (lv_at hl 0 rfl) ?_
        refine sx_lald hx hb hG hS f0 (sx_in (by omega) (by decide)) d_M_half_26 (fun z28 => ?_)
        refine lv_aload_n hx hb d_M_half_27 rfl (lv_at hl 3 rfl) ?_
        refine lv_iload hx hb d_M_half_28 (lv_at hl 0 rfl) ?_
        refine sx_lald hx hb hG hS f1 (sx_in (by omega) (by decide)) d_M_half_30 (fun z29 => ?_)
        refine sx_ladd hx hb d_M_half_31 (fun z30 => ?_)
        refine sx_ladd hx hb d_M_half_32 (fun z31 => ?_)
        refine lv_lstore_n (lv' := [(2, .long z31), (4, .int (nI (i25))), (0, .ref a0), (1, .ref a1)]) hx hb d_M_half_33 rfl hl (by decide) rfl (fun ls hl => ?_)
        refine lv_aload_n hx hb d_M_half_34 rfl (lv_at hl 2 rfl) ?_
        refine lv_iload hx hb d_M_half_35 (lv_at hl 1 rfl) ?_
        refine lv_lload_n hx hb d_M_half_37 rfl (lv_at hl 0 rfl) ?_
        refine lv_ldc2 (v := (65535)) hx hb hown (hts (.constantLong R_M 169 (65535)) (by decide +kernel)) d_M_half_38 ?_
        refine sx_land hx hb d_M_half_41 (fun z32 => ?_)
        refine sx_last hx hb hG hS f0 o0 (sx_in (by omega) (by decide)) d_M_half_42 (fun H locs hS => ?_)
        refine lv_lload_n hx hb d_M_half_43 rfl (lv_at hl 0 rfl) ?_
        refine lv_bipush (v := nI 16) hx hb d_M_half_44 (by decide +kernel) ?_
        refine sx_lshr hx hb d_M_half_46 (fun z33 => ?_)
        refine lv_lstore_n (lv' := [(2, .long z33), (4, .int (nI (i25))), (0, .ref a0), (1, .ref a1)]) hx hb d_M_half_47 rfl hl (by decide) rfl (fun ls hl => ?_)
        refine lv_iinc (v := nI (i25 + 1)) (lv' := [(4, .int (nI (i25 + 1))), (2, .long z33), (0, .ref a0), (1, .ref a1)]) hx hb d_M_half_48 hl (k := 1) rfl (sx_inc _ _) (by decide) rfl (fun ls hl => ?_)
        refine lv_goto (tgt := 15) hx hb d_M_half_51 (by decide) ?_
        exact ih15 (i25 + 1) z33 _ _ _ (by omega)  hS (lv_sub hl [0, 1, 2, 3] rfl)
    exact lp15 (16) 0 0 _ _ _ (by omega)  hS (lv_sub hl [0, 1, 2, 3] rfl)
abbrev rm_M_halve : Room := { frames := 0, cells := 0, slots := 0, locals := 0 }
set_option maxHeartbeats 4000000 in
set_option maxRecDepth 100000 in
theorem c_M_halve {l : Launch} {D : va_G} {g : ClassId → FieldType → Prop} {E : Nat → Prop} {H0 : Heap} {a0 : Nat} (f0 : sx_A g .long H0 a0 16) (o0 : E a0) : Met l y_M_halve (.code y_M_halve b_M_halve 2 none :: G_) rm_M_halve (sx_Pc [.ref a0] H0 D g) (sx_Qv g E H0) 0 0 E := by
  refine sx_mv (own := R_M) (by decide) rfl rfl rfl (Nat.le_of_ble_eq_true rfl) ?_
  intro p e s m args below meth c Q ls EE hl hret
  obtain ⟨hx, hb, hml, hown, hts, hG, hK⟩ := id EE
  have hS : sx_S g E E H0 H0 [] := sx_S.rf
  have hl : lv_has ls 2 [(0, .ref a0)] := hl
  refine lv_iconst (v := nI 0) hx hb d_M_halve_0 (by decide +kernel) ?_
  refine lv_istore_n (lv' := [(1, .int (nI (0))), (0, .ref a0)]) hx hb d_M_halve_1 rfl hl (by decide) rfl (fun ls hl => ?_)
  have lp2 : ∀ (k i1 : Nat) (H : Heap) (locs : List Loc) (ls : Array Slot), i1 + k = 16 → sx_S g E E H0 H locs → lv_has ls 2 [(1, .int (nI (i1))), (0, .ref a0)] → W p l e rm_M_halve s m args below meth c H locs 0 0 Q (F0 m 2 ls []) := by
    intro k
    induction k with
    | zero =>
      intro i1  H locs ls hi  hS hl
      refine lv_iload_n hx hb d_M_halve_2 rfl (lv_at hl 0 rfl) ?_
      refine lv_bipush (v := nI 16) hx hb d_M_halve_3 (by decide +kernel) ?_
      refine lv_icmp_ge (tgt := 43) hx hb d_M_halve_5 (by decide) (fun _ => ?_) (fun q => absurd (nI_le (by omega) (by omega)) q)
      exact hret _ _ _ _ hS d_M_halve_43
    | succ k ih2 =>
      intro i1  H locs ls hi  hS hl
      refine lv_iload_n hx hb d_M_halve_2 rfl (lv_at hl 0 rfl) ?_
      refine lv_bipush (v := nI 16) hx hb d_M_halve_3 (by decide +kernel) ?_
      refine lv_icmp_ge (tgt := 43) hx hb d_M_halve_5 (by decide) (fun q => absurd q (nI_ge (by omega) (by omega))) (fun _ => ?_)
      refine lv_aload_n hx hb d_M_halve_8 rfl (lv_at hl 1 rfl) ?_
      refine lv_iload_n hx hb d_M_halve_9 rfl (lv_at hl 0 rfl) ?_
      refine lv_aload_n hx hb d_M_halve_10 rfl (lv_at hl 1 rfl) ?_
      refine lv_iload_n hx hb d_M_halve_11 rfl (lv_at hl 0 rfl) ?_
      refine sx_lald hx hb hG hS f0 (sx_in (by omega) (by decide)) d_M_halve_12 (fun z2 => ?_)
      refine lv_iconst (v := nI 1) hx hb d_M_halve_13 (by decide +kernel) ?_
      refine sx_lshr hx hb d_M_halve_14 (fun z3 => ?_)
      refine lv_iload_n hx hb d_M_halve_15 rfl (lv_at hl 0 rfl) ?_
      refine lv_bipush (v := nI 15) hx hb d_M_halve_16 (by decide +kernel) ?_
      have jn35_7 : ∀ (w7 : Int64) (H : Heap) (locs : List Loc) (ls : Array Slot), sx_S g E E H0 H locs → lv_has ls 2 [(1, .int (nI (i1))), (0, .ref a0)] → W p l e rm_M_halve s m args below meth c H locs 0 0 Q (F0 m 35 ls [.long w7, .long z3, .int (nI (i1)), .ref a0]) := by
        intro w7 H locs ls  hS hl
        refine sx_lor hx hb d_M_halve_35 (fun z9 => ?_)
        refine sx_last hx hb hG hS f0 o0 (sx_in (by omega) (by decide)) d_M_halve_36 (fun H locs hS => ?_)
        refine lv_iinc (v := nI (i1 + 1)) (lv' := [(1, .int (nI (i1 + 1))), (0, .ref a0)]) hx hb d_M_halve_37 hl (k := 0) rfl (sx_inc _ _) (by decide) rfl (fun ls hl => ?_)
        refine lv_goto (tgt := 2) hx hb d_M_halve_40 (by decide) ?_
        exact ih2 (i1 + 1)  _ _ _ (by omega)  hS (lv_sub hl [0, 1] rfl)
      refine lv_icmp_ge (tgt := 34) hx hb d_M_halve_18 (by decide) (fun q18 => ?_) (fun q18 => ?_)
      · skip
        have q18 : 15 ≤ i1 := (nI_leI (a := 15) (b := i1) (by omega) (by omega)).mp q18
        refine lv_lconst (v := 0) hx hb d_M_halve_34 (by decide +kernel) ?_
        exact jn35_7 0 _ _ _  hS (lv_sub hl [0, 1] rfl)
      · skip
        have q18 : ¬ (15 ≤ i1) := fun z => q18 ((nI_leI (a := 15) (b := i1) (by omega) (by omega)).mpr z)
        refine lv_aload_n hx hb d_M_halve_21 rfl (lv_at hl 1 rfl) ?_
        refine lv_iload_n hx hb d_M_halve_22 rfl (lv_at hl 0 rfl) ?_
        refine lv_iconst (v := nI 1) hx hb d_M_halve_23 (by decide +kernel) ?_
        refine lv_iadd hx hb d_M_halve_24 ?_
        refine sx_ti (y := nI (i1 + 1)) (nI_add _ _) ?_
        refine sx_lald hx hb hG hS f0 (sx_in (by omega) (by decide)) d_M_halve_25 (fun z10 => ?_)
        refine lv_lconst (v := 1) hx hb d_M_halve_26 (by decide +kernel) ?_
        refine sx_land hx hb d_M_halve_27 (fun z11 => ?_)
        refine lv_bipush (v := nI 15) hx hb d_M_halve_28 (by decide +kernel) ?_
        refine sx_lshl hx hb d_M_halve_30 (fun z12 => ?_)
        refine lv_goto (tgt := 35) hx hb d_M_halve_31 (by decide) ?_
        exact jn35_7 z12 _ _ _  hS (lv_sub hl [0, 1] rfl)
  exact lp2 (16) 0  _ _ _ (by omega)  hS (lv_sub hl [0, 1] rfl)
abbrev rm_M_one : Room := { frames := 0, cells := 0, slots := 0, locals := 0 }
set_option maxHeartbeats 4000000 in
set_option maxRecDepth 100000 in
theorem c_M_one {l : Launch} {D : va_G} {g : ClassId → FieldType → Prop} {E : Nat → Prop} {H0 : Heap} {a0 : Nat} (f0 : sx_A g .long H0 a0 16) : Met l y_M_one (.code y_M_one b_M_one 2 (some .boolean) :: G_) rm_M_one (sx_Pc [.ref a0] H0 D g) (sx_Qz g E H0) 0 0 E := by
  refine sx_mz (own := R_M) (by decide) rfl rfl rfl (Nat.le_of_ble_eq_true rfl) ?_
  intro p e s m args below meth c Q ls EE hl hret
  obtain ⟨hx, hb, hml, hown, hts, hG, hK⟩ := id EE
  have hS : sx_S g E E H0 H0 [] := sx_S.rf
  have hl : lv_has ls 2 [(0, .ref a0)] := hl
  refine lv_aload_n hx hb d_M_one_0 rfl (lv_at hl 0 rfl) ?_
  refine lv_iconst (v := nI 0) hx hb d_M_one_1 (by decide +kernel) ?_
  refine sx_lald hx hb hG hS f0 (sx_in (by omega) (by decide)) d_M_one_2 (fun z1 => ?_)
  refine lv_lconst (v := 1) hx hb d_M_one_3 (by decide +kernel) ?_
  refine sx_lcmp hx hb d_M_one_4 (fun z2 => ?_)
  refine lv_if_eq (tgt := 10) hx hb d_M_one_5 (by decide) (fun _ => ?_) (fun _ => ?_)
  · skip
    refine lv_iconst (v := nI 1) hx hb d_M_one_10 (by decide +kernel) ?_
    refine lv_istore_n (lv' := [(1, .int (nI (1))), (0, .ref a0)]) hx hb d_M_one_11 rfl hl (by decide) rfl (fun ls hl => ?_)
    have lp12 : ∀ (k i3 : Nat) (H : Heap) (locs : List Loc) (ls : Array Slot), i3 + k = 16 → sx_S g E E H0 H locs → lv_has ls 2 [(1, .int (nI (i3))), (0, .ref a0)] → W p l e rm_M_one s m args below meth c H locs 0 0 Q (F0 m 12 ls []) := by
      intro k
      induction k with
      | zero =>
        intro i3  H locs ls hi  hS hl
        refine lv_iload_n hx hb d_M_one_12 rfl (lv_at hl 0 rfl) ?_
        refine lv_bipush (v := nI 16) hx hb d_M_one_13 (by decide +kernel) ?_
        refine lv_icmp_ge (tgt := 34) hx hb d_M_one_15 (by decide) (fun _ => ?_) (fun q => absurd (nI_le (by omega) (by omega)) q)
        refine lv_iconst (v := nI 1) hx hb d_M_one_34 (by decide +kernel) ?_
        exact hret _ _ _ _ (1) (by omega) hS d_M_one_35
      | succ k ih12 =>
        intro i3  H locs ls hi  hS hl
        refine lv_iload_n hx hb d_M_one_12 rfl (lv_at hl 0 rfl) ?_
        refine lv_bipush (v := nI 16) hx hb d_M_one_13 (by decide +kernel) ?_
        refine lv_icmp_ge (tgt := 34) hx hb d_M_one_15 (by decide) (fun q => absurd q (nI_ge (by omega) (by omega))) (fun _ => ?_)
        refine lv_aload_n hx hb d_M_one_18 rfl (lv_at hl 1 rfl) ?_
        refine lv_iload_n hx hb d_M_one_19 rfl (lv_at hl 0 rfl) ?_
        refine sx_lald hx hb hG hS f0 (sx_in (by omega) (by decide)) d_M_one_20 (fun z4 => ?_)
        refine lv_lconst (v := 0) hx hb d_M_one_21 (by decide +kernel) ?_
        refine sx_lcmp hx hb d_M_one_22 (fun z5 => ?_)
        refine lv_if_eq (tgt := 28) hx hb d_M_one_23 (by decide) (fun _ => ?_) (fun _ => ?_)
        · skip
          refine lv_iinc (v := nI (i3 + 1)) (lv' := [(1, .int (nI (i3 + 1))), (0, .ref a0)]) hx hb d_M_one_28 hl (k := 0) rfl (sx_inc _ _) (by decide) rfl (fun ls hl => ?_)
          refine lv_goto (tgt := 12) hx hb d_M_one_31 (by decide) ?_
          exact ih12 (i3 + 1)  _ _ _ (by omega)  hS (lv_sub hl [0, 1] rfl)
        · skip
          refine lv_iconst (v := nI 0) hx hb d_M_one_26 (by decide +kernel) ?_
          exact hret _ _ _ _ (0) (by omega) hS d_M_one_27
    exact lp12 (15) 1  _ _ _ (by omega)  hS (lv_sub hl [0, 1] rfl)
  · skip
    refine lv_iconst (v := nI 0) hx hb d_M_one_8 (by decide +kernel) ?_
    exact hret _ _ _ _ (0) (by omega) hS d_M_one_9
abbrev rm_M_bit : Room := { frames := 0, cells := 0, slots := 0, locals := 0 }
set_option maxHeartbeats 4000000 in
set_option maxRecDepth 100000 in
theorem c_M_bit {l : Launch} {D : va_G} {g : ClassId → FieldType → Prop} {E : Nat → Prop} {H0 : Heap} {a0 : Nat} {v1 : Nat} (f0 : sx_A g .long H0 a0 16) (h1 : v1 < 256) : Met l y_M_bit (.code y_M_bit b_M_bit 2 (some .int) :: G_) rm_M_bit (sx_Pc [.ref a0, .int (nI v1)] H0 D g) (sx_Qi g E H0) 0 0 E := by
  refine sx_mi (own := R_M) (by decide) rfl rfl rfl (Nat.le_of_ble_eq_true rfl) ?_
  intro p e s m args below meth c Q ls EE hl hret
  obtain ⟨hx, hb, hml, hown, hts, hG, hK⟩ := id EE
  have hS : sx_S g E E H0 H0 [] := sx_S.rf
  have hl : lv_has ls 2 [(0, .ref a0), (1, .int (nI (v1)))] := hl
  refine lv_aload_n hx hb d_M_bit_0 rfl (lv_at hl 0 rfl) ?_
  refine lv_iload_n hx hb d_M_bit_1 rfl (lv_at hl 1 rfl) ?_
  refine lv_iconst (v := nI 4) hx hb d_M_bit_2 (by decide +kernel) ?_
  refine lv_ishr hx hb d_M_bit_3 ?_
  refine sx_ti (y := nI (v1 / 16)) (pk_shrN (by omega) _ 4 (by decide +kernel)) ?_
  refine sx_lald hx hb hG hS f0 (sx_in (by omega) (by decide)) d_M_bit_4 (fun z1 => ?_)
  refine lv_iload_n hx hb d_M_bit_5 rfl (lv_at hl 1 rfl) ?_
  refine lv_bipush (v := nI 15) hx hb d_M_bit_6 (by decide +kernel) ?_
  refine lv_iand hx hb d_M_bit_8 ?_
  refine sx_ti (y := nI (v1 % 16)) (pk_andN (by omega) 4 (by decide +kernel)) ?_
  refine sx_lshr hx hb d_M_bit_9 (fun z2 => ?_)
  refine lv_lconst (v := 1) hx hb d_M_bit_10 (by decide +kernel) ?_
  refine sx_land hx hb d_M_bit_11 (fun z3 => ?_)
  refine sx_l2i hx hb d_M_bit_12 (fun z4 => ?_)
  exact hret _ _ _ _ z4 hS d_M_bit_13
end
section
abbrev rm_M_remainders : Room := { frames := 2, cells := 0, slots := 0, locals := 53 }
set_option maxHeartbeats 4000000 in
set_option maxRecDepth 100000 in
theorem c_M_remainders {l : Launch} {D : va_G} {g : ClassId → FieldType → Prop} {E : Nat → Prop} {H0 : Heap} {a0 : Nat} {a1 : Nat} {a2 : Nat} (f0 : sx_A g .long H0 a0 256) (o0 : E a0) (f1 : sx_A g .long H0 a1 16) (f2 : sx_A g .long H0 a2 16) (o2 : E a2) : Met l y_M_remainders (.code y_M_remainders b_M_remainders 5 none :: G_) rm_M_remainders (sx_Pc [.ref a0, .ref a1, .ref a2] H0 D g) (sx_Qv g E H0) 0 0 E := by
  refine sx_mv (own := R_M) (by decide) rfl rfl rfl (Nat.le_of_ble_eq_true rfl) ?_
  intro p e s m args below meth c Q ls EE hl hret
  obtain ⟨hx, hb, hml, hown, hts, hG, hK⟩ := id EE
  have hS : sx_S g E E H0 H0 [] := sx_S.rf
  have hl : lv_has ls 5 [(0, .ref a0), (1, .ref a1), (2, .ref a2)] := hl
  refine lv_aload_n hx hb d_M_remainders_0 rfl (lv_at hl 2 rfl) ?_
  refine lv_iconst (v := nI 1) hx hb d_M_remainders_1 (by decide +kernel) ?_
  refine sx_gv (sx_runS (As := [.ref a2, .int (nI (1))]) (rest := []) EE (c_M_set (hS.a f2) o2) w_M_177 rfl ⟨rfl, rfl⟩ ⟨Nat.le_of_ble_eq_true rfl, Nat.le_of_ble_eq_true rfl⟩ ⟨Nat.zero_le _, Nat.zero_le _⟩ hl.1 rfl (Nat.le_of_ble_eq_true rfl) d_M_remainders_2) hS (fun H locs hS => ?_)
  refine lv_iconst (v := nI 0) hx hb d_M_remainders_5 (by decide +kernel) ?_
  refine lv_istore_n (lv' := [(3, .int (nI (0))), (0, .ref a0), (1, .ref a1), (2, .ref a2)]) hx hb d_M_remainders_6 rfl hl (by decide) rfl (fun ls hl => ?_)
  have lp7 : ∀ (k i1 : Nat) (H : Heap) (locs : List Loc) (ls : Array Slot), i1 + k = 496 → sx_S g E E H0 H locs → lv_has ls 5 [(3, .int (nI (i1))), (0, .ref a0), (1, .ref a1), (2, .ref a2)] → W p l e rm_M_remainders s m args below meth c H locs 0 0 Q (F0 m 7 ls []) := by
    intro k
    induction k with
    | zero =>
      intro i1  H locs ls hi  hS hl
      refine lv_iload_n hx hb d_M_remainders_7 rfl (lv_at hl 0 rfl) ?_
      refine lv_sipush (v := nI 496) hx hb d_M_remainders_8 (by decide +kernel) ?_
      refine lv_icmp_ge (tgt := 73) hx hb d_M_remainders_11 (by decide) (fun _ => ?_) (fun q => absurd (nI_le (by omega) (by omega)) q)
      exact hret _ _ _ _ hS d_M_remainders_73
    | succ k ih7 =>
      intro i1  H locs ls hi  hS hl
      refine lv_iload_n hx hb d_M_remainders_7 rfl (lv_at hl 0 rfl) ?_
      refine lv_sipush (v := nI 496) hx hb d_M_remainders_8 (by decide +kernel) ?_
      refine lv_icmp_ge (tgt := 73) hx hb d_M_remainders_11 (by decide) (fun q => absurd q (nI_ge (by omega) (by omega))) (fun _ => ?_)
      refine lv_aload_n hx hb d_M_remainders_14 rfl (lv_at hl 3 rfl) ?_
      refine lv_aload_n hx hb d_M_remainders_15 rfl (lv_at hl 3 rfl) ?_
      refine lv_aload_n hx hb d_M_remainders_16 rfl (lv_at hl 3 rfl) ?_
      refine lv_aload_n hx hb d_M_remainders_17 rfl (lv_at hl 2 rfl) ?_
      refine sx_gv (sx_runS (As := [.ref a2, .ref a2, .ref a2, .ref a1]) (rest := []) EE (c_M_plus (hS.a f2) o2 (hS.a f2) (hS.a f2) (hS.a f1)) w_M_222 rfl ⟨rfl, rfl⟩ ⟨Nat.le_of_ble_eq_true rfl, Nat.le_of_ble_eq_true rfl⟩ ⟨Nat.zero_le _, Nat.zero_le _⟩ hl.1 rfl (Nat.le_of_ble_eq_true rfl) d_M_remainders_18) hS (fun H locs hS => ?_)
      refine lv_iload_n hx hb d_M_remainders_21 rfl (lv_at hl 0 rfl) ?_
      refine lv_sipush (v := nI 255) hx hb d_M_remainders_22 (by decide +kernel) ?_
      have jn67_3 : ∀ (H : Heap) (locs : List Loc) (ls : Array Slot), sx_S g E E H0 H locs → lv_has ls 5 [(3, .int (nI (i1))), (0, .ref a0), (1, .ref a1), (2, .ref a2)] → W p l e rm_M_remainders s m args below meth c H locs 0 0 Q (F0 m 67 ls []) := by
        intro  H locs ls  hS hl
        refine lv_iinc (v := nI (i1 + 1)) (lv' := [(3, .int (nI (i1 + 1))), (0, .ref a0), (1, .ref a1), (2, .ref a2)]) hx hb d_M_remainders_67 hl (k := 0) rfl (sx_inc _ _) (by decide) rfl (fun ls hl => ?_)
        refine lv_goto (tgt := 7) hx hb d_M_remainders_70 (by decide) ?_
        exact ih7 (i1 + 1)  _ _ _ (by omega)  hS (lv_sub hl [0, 1, 2, 3] rfl)
      refine lv_icmp_lt (tgt := 67) hx hb d_M_remainders_25 (by decide) (fun q25 => ?_) (fun q25 => ?_)
      · skip
        have q25 : i1 < 255 := (nI_ltI (a := i1) (b := 255) (by omega) (by omega)).mp q25
        exact jn67_3  _ _ _  hS (lv_sub hl [0, 1, 2, 3] rfl)
      · skip
        have q25 : ¬ (i1 < 255) := fun z => q25 ((nI_ltI (a := i1) (b := 255) (by omega) (by omega)).mpr z)
        refine lv_iload_n hx hb d_M_remainders_28 rfl (lv_at hl 0 rfl) ?_
        refine lv_bipush (v := nI 16) hx hb d_M_remainders_29 (by decide +kernel) ?_
        refine lv_irem hx hb d_M_remainders_31 (nI_ne0 (by omega) (by omega)) ?_
        refine sx_ti (y := nI (i1 % 16)) (pk_rem (by omega) (by omega) (by omega)) ?_
        refine lv_bipush (v := nI 15) hx hb d_M_remainders_32 (by decide +kernel) ?_
        refine lv_icmp_ne (tgt := 67) hx hb d_M_remainders_34 (by decide) (fun q34 => ?_) (fun q34 => ?_)
        · skip
          have q34 : ¬ ((i1 % 16) = 15) := fun z => q34 ((nI_eq (a := (i1 % 16)) (b := 15) (by omega) (by omega)).mpr z)
          exact jn67_3  _ _ _  hS (lv_sub hl [0, 1, 2, 3] rfl)
        · skip
          have q34 : (i1 % 16) = 15 := (nI_eq (a := (i1 % 16)) (b := 15) (by omega) (by omega)).mp q34
          refine lv_iconst (v := nI 0) hx hb d_M_remainders_37 (by decide +kernel) ?_
          refine lv_istore (lv' := [(4, .int (nI (0))), (3, .int (nI (i1))), (0, .ref a0), (1, .ref a1), (2, .ref a2)]) hx hb d_M_remainders_38 hl (by decide) rfl (fun ls hl => ?_)
          have lp40 : ∀ (k i5 : Nat) (H : Heap) (locs : List Loc) (ls : Array Slot), i5 + k = 16 → sx_S g E E H0 H locs → lv_has ls 5 [(4, .int (nI (i5))), (3, .int (nI (i1))), (0, .ref a0), (1, .ref a1), (2, .ref a2)] → W p l e rm_M_remainders s m args below meth c H locs 0 0 Q (F0 m 40 ls []) := by
            intro k
            induction k with
            | zero =>
              intro i5  H locs ls hi  hS hl
              refine lv_iload hx hb d_M_remainders_40 (lv_at hl 0 rfl) ?_
              refine lv_bipush (v := nI 16) hx hb d_M_remainders_42 (by decide +kernel) ?_
              refine lv_icmp_ge (tgt := 67) hx hb d_M_remainders_44 (by decide) (fun _ => ?_) (fun q => absurd (nI_le (by omega) (by omega)) q)
              exact jn67_3  _ _ _  hS (lv_sub hl [1, 2, 3, 4] rfl)
            | succ k ih40 =>
              intro i5  H locs ls hi  hS hl
              refine lv_iload hx hb d_M_remainders_40 (lv_at hl 0 rfl) ?_
              refine lv_bipush (v := nI 16) hx hb d_M_remainders_42 (by decide +kernel) ?_
              refine lv_icmp_ge (tgt := 67) hx hb d_M_remainders_44 (by decide) (fun q => absurd q (nI_ge (by omega) (by omega))) (fun _ => ?_)
              refine lv_aload_n hx hb d_M_remainders_47 rfl (lv_at hl 2 rfl) ?_
              refine lv_iload_n hx hb d_M_remainders_48 rfl (lv_at hl 1 rfl) ?_
              refine lv_sipush (v := nI 255) hx hb d_M_remainders_49 (by decide +kernel) ?_
              refine lv_isub hx hb d_M_remainders_52 ?_
              refine sx_ti (y := nI (i1 - 255)) (pk_sub (by omega)) ?_
              refine lv_iload hx hb d_M_remainders_53 (lv_at hl 0 rfl) ?_
              refine lv_iadd hx hb d_M_remainders_55 ?_
              refine sx_ti (y := nI ((i1 - 255) + i5)) (nI_add _ _) ?_
              refine lv_aload_n hx hb d_M_remainders_56 rfl (lv_at hl 4 rfl) ?_
              refine lv_iload hx hb d_M_remainders_57 (lv_at hl 0 rfl) ?_
              refine sx_lald hx hb hG hS f2 (sx_in (by omega) (by decide)) d_M_remainders_59 (fun z6 => ?_)
              refine sx_last hx hb hG hS f0 o0 (sx_in (by omega) (by decide)) d_M_remainders_60 (fun H locs hS => ?_)
              refine lv_iinc (v := nI (i5 + 1)) (lv' := [(4, .int (nI (i5 + 1))), (3, .int (nI (i1))), (0, .ref a0), (1, .ref a1), (2, .ref a2)]) hx hb d_M_remainders_61 hl (k := 0) rfl (sx_inc _ _) (by decide) rfl (fun ls hl => ?_)
              refine lv_goto (tgt := 40) hx hb d_M_remainders_64 (by decide) ?_
              exact ih40 (i5 + 1)  _ _ _ (by omega)  hS (lv_sub hl [0, 1, 2, 3, 4] rfl)
          exact lp40 (16) 0  _ _ _ (by omega)  hS (lv_sub hl [0, 1, 2, 3, 4] rfl)
  exact lp7 (496) 0  _ _ _ (by omega)  hS (lv_sub hl [0, 1, 2, 3] rfl)
abbrev rm_M_reduce : Room := { frames := 1, cells := 0, slots := 0, locals := 27 }
set_option maxHeartbeats 4000000 in
set_option maxRecDepth 100000 in
theorem c_M_reduce {l : Launch} {D : va_G} {g : ClassId → FieldType → Prop} {E : Nat → Prop} {H0 : Heap} {o : Nat} {r : Nat → Nat} {i : Nat → Int32} {a0 : Nat} {a1 : Nat} {a2 : Nat} (hM : mo_ D g H0 o r i) (hE : ¬ E o) (hW : ∀ q ∈ mo_wr, E (r q.1)) (f0 : sx_A g .long H0 a0 16) (o0 : E a0) (f1 : sx_A g .long H0 a1 16) (f2 : sx_A g .long H0 a2 256) : Met l y_M_reduce (.code y_M_reduce b_M_reduce 10 none :: G_) rm_M_reduce (sx_Pc [.ref o, .ref a0, .ref a1, .ref a2] H0 D g) (sx_Qv g E H0) 0 0 E := by
  refine sx_mv (own := R_M) (by decide) rfl rfl rfl (Nat.le_of_ble_eq_true rfl) ?_
  intro p e s m args below meth c Q ls EE hl hret
  obtain ⟨hx, hb, hml, hown, hts, hG, hK⟩ := id EE
  have hS : sx_S g E E H0 H0 [] := sx_S.rf
  have hl : lv_has ls 10 [(0, .ref o), (1, .ref a0), (2, .ref a1), (3, .ref a2)] := hl
  refine lv_iconst (v := nI 0) hx hb d_M_reduce_0 (by decide +kernel) ?_
  refine lv_istore (lv' := [(4, .int (nI (0))), (0, .ref o), (1, .ref a0), (2, .ref a1), (3, .ref a2)]) hx hb d_M_reduce_1 hl (by decide) rfl (fun ls hl => ?_)
  have lp3 : ∀ (k i1 : Nat) (H : Heap) (locs : List Loc) (ls : Array Slot), i1 + k = 16 → sx_S g E E H0 H locs → lv_has ls 10 [(4, .int (nI (i1))), (0, .ref o), (1, .ref a0), (2, .ref a1), (3, .ref a2)] → W p l e rm_M_reduce s m args below meth c H locs 0 0 Q (F0 m 3 ls []) := by
    intro k
    induction k with
    | zero =>
      intro i1  H locs ls hi  hS hl
      refine lv_iload hx hb d_M_reduce_3 (lv_at hl 0 rfl) ?_
      refine lv_bipush (v := nI 16) hx hb d_M_reduce_5 (by decide +kernel) ?_
      refine lv_icmp_ge (tgt := 76) hx hb d_M_reduce_7 (by decide) (fun _ => ?_) (fun q => absurd (nI_le (by omega) (by omega)) q)
      refine lv_lconst (v := 1) hx hb d_M_reduce_76 (by decide +kernel) ?_
      refine lv_lstore (lv' := [(4, .long 1), (0, .ref o), (1, .ref a0), (2, .ref a1), (3, .ref a2)]) hx hb d_M_reduce_77 hl (by decide) rfl (fun ls hl => ?_)
      refine lv_iconst (v := nI 0) hx hb d_M_reduce_79 (by decide +kernel) ?_
      refine lv_istore (lv' := [(6, .int (nI (0))), (4, .long 1), (0, .ref o), (1, .ref a0), (2, .ref a1), (3, .ref a2)]) hx hb d_M_reduce_80 hl (by decide) rfl (fun ls hl => ?_)
      have ex190_5 : ∀ (y5 : Int64) (H : Heap) (locs : List Loc) (ls : Array Slot), sx_S g E E H0 H locs → lv_has ls 10 [(4, .long y5), (0, .ref o), (1, .ref a0), (2, .ref a1), (3, .ref a2)] → W p l e rm_M_reduce s m args below meth c H locs 0 0 Q (F0 m 190 ls []) := by
        intro y5 H locs ls  hS hl
        refine lv_iconst (v := nI 0) hx hb d_M_reduce_190 (by decide +kernel) ?_
        refine lv_istore (lv' := [(6, .int (nI (0))), (4, .long y5), (0, .ref o), (1, .ref a0), (2, .ref a1), (3, .ref a2)]) hx hb d_M_reduce_191 hl (by decide) rfl (fun ls hl => ?_)
        have lp193 : ∀ (k i7 : Nat) (H : Heap) (locs : List Loc) (ls : Array Slot), i7 + k = 16 → sx_S g E E H0 H locs → lv_has ls 10 [(6, .int (nI (i7))), (4, .long y5), (0, .ref o), (1, .ref a0), (2, .ref a1), (3, .ref a2)] → W p l e rm_M_reduce s m args below meth c H locs 0 0 Q (F0 m 193 ls []) := by
          intro k
          induction k with
          | zero =>
            intro i7  H locs ls hi  hS hl
            refine lv_iload hx hb d_M_reduce_193 (lv_at hl 0 rfl) ?_
            refine lv_bipush (v := nI 16) hx hb d_M_reduce_195 (by decide +kernel) ?_
            refine lv_icmp_ge (tgt := 217) hx hb d_M_reduce_197 (by decide) (fun _ => ?_) (fun q => absurd (nI_le (by omega) (by omega)) q)
            refine lv_iconst (v := nI 0) hx hb d_M_reduce_217 (by decide +kernel) ?_
            refine lv_istore (lv' := [(6, .int (nI (0))), (4, .long y5), (0, .ref o), (1, .ref a0), (2, .ref a1), (3, .ref a2)]) hx hb d_M_reduce_218 hl (by decide) rfl (fun ls hl => ?_)
            have ex247_9 : ∀ (H : Heap) (locs : List Loc) (ls : Array Slot), sx_S g E E H0 H locs → lv_has ls 10 [(4, .long y5), (0, .ref o), (1, .ref a0), (2, .ref a1), (3, .ref a2)] → W p l e rm_M_reduce s m args below meth c H locs 0 0 Q (F0 m 247 ls []) := by
              intro  H locs ls  hS hl
              exact hret _ _ _ _ hS d_M_reduce_247
            have lp220 : ∀ (k i8 : Nat) (H : Heap) (locs : List Loc) (ls : Array Slot), i8 + k = 16 → sx_S g E E H0 H locs → lv_has ls 10 [(6, .int (nI (i8))), (4, .long y5), (0, .ref o), (1, .ref a0), (2, .ref a1), (3, .ref a2)] → W p l e rm_M_reduce s m args below meth c H locs 0 0 Q (F0 m 220 ls []) := by
              intro k
              induction k with
              | zero =>
                intro i8  H locs ls hi  hS hl
                refine lv_iload hx hb d_M_reduce_220 (lv_at hl 0 rfl) ?_
                refine lv_bipush (v := nI 16) hx hb d_M_reduce_222 (by decide +kernel) ?_
                refine lv_icmp_ge (tgt := 247) hx hb d_M_reduce_224 (by decide) (fun _ => ?_) (fun q => absurd (nI_le (by omega) (by omega)) q)
                exact ex247_9  _ _ _  hS (lv_sub hl [1, 2, 3, 4, 5] rfl)
              | succ k ih220 =>
                intro i8  H locs ls hi  hS hl
                refine lv_iload hx hb d_M_reduce_220 (lv_at hl 0 rfl) ?_
                refine lv_bipush (v := nI 16) hx hb d_M_reduce_222 (by decide +kernel) ?_
                refine lv_icmp_ge (tgt := 247) hx hb d_M_reduce_224 (by decide) (fun q => absurd q (nI_ge (by omega) (by omega))) (fun _ => ?_)
                refine lv_aload_n hx hb d_M_reduce_227 rfl (lv_at hl 3 rfl) ?_
                refine lv_aload_n hx hb d_M_reduce_228 rfl (lv_at hl 4 rfl) ?_
                refine sx_gn (sx_runS (As := [.ref a0, .ref a1]) (rest := []) EE (c_M_below (hS.a f0) (hS.a f1)) w_M_215 rfl ⟨rfl, rfl⟩ ⟨Nat.le_of_ble_eq_true rfl, Nat.le_of_ble_eq_true rfl⟩ ⟨Nat.zero_le _, Nat.zero_le _⟩ hl.1 rfl (Nat.le_of_ble_eq_true rfl) d_M_reduce_229) hS (fun n11 h_n11 H locs hS => ?_)
                have h_n11 : n11 ≤ 1 := h_n11
                refine lv_if_ne (tgt := 247) hx hb d_M_reduce_232 (by decide) (fun q232 => ?_) (fun q232 => ?_)
                · skip
                  have q232 : ¬ (n11 = 0) := fun z => q232 ((nI_eq (a := n11) (b := 0) (by omega) (by omega)).mpr z)
                  exact ex247_9  _ _ _  hS (lv_sub hl [1, 2, 3, 4, 5] rfl)
                · skip
                  have q232 : n11 = 0 := (nI_eq (a := n11) (b := 0) (by omega) (by omega)).mp q232
                  refine lv_aload_n hx hb d_M_reduce_235 rfl (lv_at hl 3 rfl) ?_
                  refine lv_aload_n hx hb d_M_reduce_236 rfl (lv_at hl 3 rfl) ?_
                  refine lv_aload_n hx hb d_M_reduce_237 rfl (lv_at hl 4 rfl) ?_
                  refine sx_gv (sx_runS (As := [.ref a0, .ref a0, .ref a1]) (rest := []) EE (c_M_less (hS.a f0) o0 (hS.a f0) (hS.a f1)) w_M_219 rfl ⟨rfl, rfl⟩ ⟨Nat.le_of_ble_eq_true rfl, Nat.le_of_ble_eq_true rfl⟩ ⟨Nat.zero_le _, Nat.zero_le _⟩ hl.1 rfl (Nat.le_of_ble_eq_true rfl) d_M_reduce_238) hS (fun H locs hS => ?_)
                  refine lv_iinc (v := nI (i8 + 1)) (lv' := [(6, .int (nI (i8 + 1))), (4, .long y5), (0, .ref o), (1, .ref a0), (2, .ref a1), (3, .ref a2)]) hx hb d_M_reduce_241 hl (k := 0) rfl (sx_inc _ _) (by decide) rfl (fun ls hl => ?_)
                  refine lv_goto (tgt := 220) hx hb d_M_reduce_244 (by decide) ?_
                  exact ih220 (i8 + 1)  _ _ _ (by omega)  hS (lv_sub hl [0, 1, 2, 3, 4, 5] rfl)
            exact lp220 (16) 0  _ _ _ (by omega)  hS (lv_sub hl [0, 1, 2, 3, 4, 5] rfl)
          | succ k ih193 =>
            intro i7  H locs ls hi  hS hl
            refine lv_iload hx hb d_M_reduce_193 (lv_at hl 0 rfl) ?_
            refine lv_bipush (v := nI 16) hx hb d_M_reduce_195 (by decide +kernel) ?_
            refine lv_icmp_ge (tgt := 217) hx hb d_M_reduce_197 (by decide) (fun q => absurd q (nI_ge (by omega) (by omega))) (fun _ => ?_)
            refine lv_aload_n hx hb d_M_reduce_200 rfl (lv_at hl 3 rfl) ?_
            refine lv_iload hx hb d_M_reduce_201 (lv_at hl 0 rfl) ?_
            refine lv_aload_n hx hb d_M_reduce_203 rfl (lv_at hl 2 rfl) ?_
            refine sx_get EE (hS.1.ob hE hM.1) rfl i_M 41 (by decide) rfl fl_M_126 rfl d_M_reduce_204 ?_
            refine lv_iload hx hb d_M_reduce_207 (lv_at hl 0 rfl) ?_
            refine sx_lald hx hb hG hS (mo_41 hM) (sx_in (by omega) (by decide)) d_M_reduce_209 (fun z12 => ?_)
            refine sx_last hx hb hG hS f0 o0 (sx_in (by omega) (by decide)) d_M_reduce_210 (fun H locs hS => ?_)
            refine lv_iinc (v := nI (i7 + 1)) (lv' := [(6, .int (nI (i7 + 1))), (4, .long y5), (0, .ref o), (1, .ref a0), (2, .ref a1), (3, .ref a2)]) hx hb d_M_reduce_211 hl (k := 0) rfl (sx_inc _ _) (by decide) rfl (fun ls hl => ?_)
            refine lv_goto (tgt := 193) hx hb d_M_reduce_214 (by decide) ?_
            exact ih193 (i7 + 1)  _ _ _ (by omega)  hS (lv_sub hl [0, 1, 2, 3, 4, 5] rfl)
        exact lp193 (16) 0  _ _ _ (by omega)  hS (lv_sub hl [0, 1, 2, 3, 4, 5] rfl)
      have lp82 : ∀ (k i3 : Nat) (w2 : Int64) (H : Heap) (locs : List Loc) (ls : Array Slot), i3 + k = 9 → sx_S g E E H0 H locs → lv_has ls 10 [(6, .int (nI (i3))), (4, .long w2), (0, .ref o), (1, .ref a0), (2, .ref a1), (3, .ref a2)] → W p l e rm_M_reduce s m args below meth c H locs 0 0 Q (F0 m 82 ls []) := by
        intro k
        induction k with
        | zero =>
          intro i3 w2 H locs ls hi  hS hl
          refine lv_iload hx hb d_M_reduce_82 (lv_at hl 0 rfl) ?_
          refine lv_bipush (v := nI 9) hx hb d_M_reduce_84 (by decide +kernel) ?_
          refine lv_icmp_ge (tgt := 190) hx hb d_M_reduce_86 (by decide) (fun _ => ?_) (fun q => absurd (nI_le (by omega) (by omega)) q)
          exact ex190_5 w2 _ _ _  hS (lv_sub hl [1, 2, 3, 4, 5] rfl)
        | succ k ih82 =>
          intro i3 w2 H locs ls hi  hS hl
          refine lv_iload hx hb d_M_reduce_82 (lv_at hl 0 rfl) ?_
          refine lv_bipush (v := nI 9) hx hb d_M_reduce_84 (by decide +kernel) ?_
          refine lv_icmp_ge (tgt := 190) hx hb d_M_reduce_86 (by decide) (fun q => absurd q (nI_ge (by omega) (by omega))) (fun _ => ?_)
          refine lv_lload hx hb d_M_reduce_89 (lv_at hl 1 rfl) ?_
          refine lv_lconst (v := 0) hx hb d_M_reduce_91 (by decide +kernel) ?_
          refine sx_lcmp hx hb d_M_reduce_92 (fun z13 => ?_)
          refine lv_if_le (tgt := 190) hx hb d_M_reduce_93 (by decide) (fun _ => ?_) (fun _ => ?_)
          · skip
            exact ex190_5 w2 _ _ _  hS (lv_sub hl [1, 2, 3, 4, 5] rfl)
          · skip
            refine lv_lconst (v := 0) hx hb d_M_reduce_96 (by decide +kernel) ?_
            refine lv_lstore (lv' := [(7, .long 0), (6, .int (nI (i3))), (4, .long w2), (0, .ref o), (1, .ref a0), (2, .ref a1), (3, .ref a2)]) hx hb d_M_reduce_97 hl (by decide) rfl (fun ls hl => ?_)
            refine lv_iconst (v := nI 0) hx hb d_M_reduce_99 (by decide +kernel) ?_
            refine lv_istore (lv' := [(9, .int (nI (0))), (7, .long 0), (6, .int (nI (i3))), (4, .long w2), (0, .ref o), (1, .ref a0), (2, .ref a1), (3, .ref a2)]) hx hb d_M_reduce_100 hl (by decide) rfl (fun ls hl => ?_)
            have lp102 : ∀ (k i15 : Nat) (w14 : Int64) (H : Heap) (locs : List Loc) (ls : Array Slot), i15 + k = 16 → sx_S g E E H0 H locs → lv_has ls 10 [(9, .int (nI (i15))), (7, .long w14), (6, .int (nI (i3))), (4, .long w2), (0, .ref o), (1, .ref a0), (2, .ref a1), (3, .ref a2)] → W p l e rm_M_reduce s m args below meth c H locs 0 0 Q (F0 m 102 ls []) := by
              intro k
              induction k with
              | zero =>
                intro i15 w14 H locs ls hi  hS hl
                refine lv_iload hx hb d_M_reduce_102 (lv_at hl 0 rfl) ?_
                refine lv_bipush (v := nI 16) hx hb d_M_reduce_104 (by decide +kernel) ?_
                refine lv_icmp_ge (tgt := 147) hx hb d_M_reduce_106 (by decide) (fun _ => ?_) (fun q => absurd (nI_le (by omega) (by omega)) q)
                refine lv_lload hx hb d_M_reduce_147 (lv_at hl 1 rfl) ?_
                refine lv_lstore (lv' := [(4, .long w14), (9, .int (nI (i15))), (7, .long w14), (6, .int (nI (i3))), (0, .ref o), (1, .ref a0), (2, .ref a1), (3, .ref a2)]) hx hb d_M_reduce_149 hl (by decide) rfl (fun ls hl => ?_)
                refine lv_iconst (v := nI 0) hx hb d_M_reduce_151 (by decide +kernel) ?_
                refine lv_istore (lv' := [(9, .int (nI (0))), (4, .long w14), (7, .long w14), (6, .int (nI (i3))), (0, .ref o), (1, .ref a0), (2, .ref a1), (3, .ref a2)]) hx hb d_M_reduce_152 hl (by decide) rfl (fun ls hl => ?_)
                have lp154 : ∀ (k i16 : Nat) (H : Heap) (locs : List Loc) (ls : Array Slot), i16 + k = 16 → sx_S g E E H0 H locs → lv_has ls 10 [(9, .int (nI (i16))), (4, .long w14), (7, .long w14), (6, .int (nI (i3))), (0, .ref o), (1, .ref a0), (2, .ref a1), (3, .ref a2)] → W p l e rm_M_reduce s m args below meth c H locs 0 0 Q (F0 m 154 ls []) := by
                  intro k
                  induction k with
                  | zero =>
                    intro i16  H locs ls hi  hS hl
                    refine lv_iload hx hb d_M_reduce_154 (lv_at hl 0 rfl) ?_
                    refine lv_bipush (v := nI 16) hx hb d_M_reduce_156 (by decide +kernel) ?_
                    refine lv_icmp_ge (tgt := 184) hx hb d_M_reduce_158 (by decide) (fun _ => ?_) (fun q => absurd (nI_le (by omega) (by omega)) q)
                    refine lv_iinc (v := nI (i3 + 1)) (lv' := [(6, .int (nI (i3 + 1))), (9, .int (nI (i16))), (4, .long w14), (7, .long w14), (0, .ref o), (1, .ref a0), (2, .ref a1), (3, .ref a2)]) hx hb d_M_reduce_184 hl (k := 3) rfl (sx_inc _ _) (by decide) rfl (fun ls hl => ?_)
                    refine lv_goto (tgt := 82) hx hb d_M_reduce_187 (by decide) ?_
                    exact ih82 (i3 + 1) w14 _ _ _ (by omega)  hS (lv_sub hl [0, 2, 4, 5, 6, 7] rfl)
                  | succ k ih154 =>
                    intro i16  H locs ls hi  hS hl
                    refine lv_iload hx hb d_M_reduce_154 (lv_at hl 0 rfl) ?_
                    refine lv_bipush (v := nI 16) hx hb d_M_reduce_156 (by decide +kernel) ?_
                    refine lv_icmp_ge (tgt := 184) hx hb d_M_reduce_158 (by decide) (fun q => absurd q (nI_ge (by omega) (by omega))) (fun _ => ?_)
                    refine lv_aload_n hx hb d_M_reduce_161 rfl (lv_at hl 4 rfl) ?_
                    refine sx_get EE (hS.1.ob hE hM.1) rfl i_M 41 (by decide) rfl fl_M_126 rfl d_M_reduce_162 ?_
                    refine lv_iload hx hb d_M_reduce_165 (lv_at hl 0 rfl) ?_
                    refine lv_dup2_11 hx hb d_M_reduce_167 rfl rfl ?_
                    refine sx_lald hx hb hG hS (mo_41 hM) (sx_in (by omega) (by decide)) d_M_reduce_168 (fun z17 => ?_)
                    refine lv_lload hx hb d_M_reduce_169 (lv_at hl 1 rfl) ?_
                    refine lv_aload_n hx hb d_M_reduce_171 rfl (lv_at hl 7 rfl) ?_
                    refine lv_iload hx hb d_M_reduce_172 (lv_at hl 0 rfl) ?_
                    refine sx_lald hx hb hG hS f2 (sx_in (by omega) (by decide)) d_M_reduce_174 (fun z18 => ?_)
                    refine sx_lmul hx hb d_M_reduce_175 (fun z19 => ?_)
                    refine sx_ladd hx hb d_M_reduce_176 (fun z20 => ?_)
                    refine sx_last hx hb hG hS (mo_41 hM) (mow_41 hW) (sx_in (by omega) (by decide)) d_M_reduce_177 (fun H locs hS => ?_)
                    refine lv_iinc (v := nI (i16 + 1)) (lv' := [(9, .int (nI (i16 + 1))), (4, .long w14), (7, .long w14), (6, .int (nI (i3))), (0, .ref o), (1, .ref a0), (2, .ref a1), (3, .ref a2)]) hx hb d_M_reduce_178 hl (k := 0) rfl (sx_inc _ _) (by decide) rfl (fun ls hl => ?_)
                    refine lv_goto (tgt := 154) hx hb d_M_reduce_181 (by decide) ?_
                    exact ih154 (i16 + 1)  _ _ _ (by omega)  hS (lv_sub hl [0, 1, 2, 3, 4, 5, 6, 7] rfl)
                exact lp154 (16) 0  _ _ _ (by omega)  hS (lv_sub hl [0, 1, 2, 3, 4, 5, 6, 7] rfl)
              | succ k ih102 =>
                intro i15 w14 H locs ls hi  hS hl
                refine lv_iload hx hb d_M_reduce_102 (lv_at hl 0 rfl) ?_
                refine lv_bipush (v := nI 16) hx hb d_M_reduce_104 (by decide +kernel) ?_
                refine lv_icmp_ge (tgt := 147) hx hb d_M_reduce_106 (by decide) (fun q => absurd q (nI_ge (by omega) (by omega))) (fun _ => ?_)
                refine lv_lload hx hb d_M_reduce_109 (lv_at hl 1 rfl) ?_
                refine lv_aload_n hx hb d_M_reduce_111 rfl (lv_at hl 4 rfl) ?_
                refine sx_get EE (hS.1.ob hE hM.1) rfl i_M 41 (by decide) rfl fl_M_126 rfl d_M_reduce_112 ?_
                refine lv_iload hx hb d_M_reduce_115 (lv_at hl 0 rfl) ?_
                refine sx_lald hx hb hG hS (mo_41 hM) (sx_in (by omega) (by decide)) d_M_reduce_117 (fun z21 => ?_)
                refine sx_ladd hx hb d_M_reduce_118 (fun z22 => ?_)
                refine lv_lstore (lv' := [(7, .long z22), (9, .int (nI (i15))), (6, .int (nI (i3))), (4, .long w2), (0, .ref o), (1, .ref a0), (2, .ref a1), (3, .ref a2)]) hx hb d_M_reduce_119 hl (by decide) rfl (fun ls hl => ?_)
                refine lv_aload_n hx hb d_M_reduce_121 rfl (lv_at hl 4 rfl) ?_
                refine sx_get EE (hS.1.ob hE hM.1) rfl i_M 41 (by decide) rfl fl_M_126 rfl d_M_reduce_122 ?_
                refine lv_iload hx hb d_M_reduce_125 (lv_at hl 1 rfl) ?_
                refine lv_lload hx hb d_M_reduce_127 (lv_at hl 0 rfl) ?_
                refine lv_ldc2 (v := (65535)) hx hb hown (hts (.constantLong R_M 169 (65535)) (by decide +kernel)) d_M_reduce_129 ?_
                refine sx_land hx hb d_M_reduce_132 (fun z23 => ?_)
                refine sx_last hx hb hG hS (mo_41 hM) (mow_41 hW) (sx_in (by omega) (by decide)) d_M_reduce_133 (fun H locs hS => ?_)
                refine lv_lload hx hb d_M_reduce_134 (lv_at hl 0 rfl) ?_
                refine lv_bipush (v := nI 16) hx hb d_M_reduce_136 (by decide +kernel) ?_
                refine sx_lshr hx hb d_M_reduce_138 (fun z24 => ?_)
                refine lv_lstore (lv' := [(7, .long z24), (9, .int (nI (i15))), (6, .int (nI (i3))), (4, .long w2), (0, .ref o), (1, .ref a0), (2, .ref a1), (3, .ref a2)]) hx hb d_M_reduce_139 hl (by decide) rfl (fun ls hl => ?_)
                refine lv_iinc (v := nI (i15 + 1)) (lv' := [(9, .int (nI (i15 + 1))), (7, .long z24), (6, .int (nI (i3))), (4, .long w2), (0, .ref o), (1, .ref a0), (2, .ref a1), (3, .ref a2)]) hx hb d_M_reduce_141 hl (k := 1) rfl (sx_inc _ _) (by decide) rfl (fun ls hl => ?_)
                refine lv_goto (tgt := 102) hx hb d_M_reduce_144 (by decide) ?_
                exact ih102 (i15 + 1) z24 _ _ _ (by omega)  hS (lv_sub hl [0, 1, 2, 3, 4, 5, 6, 7] rfl)
            exact lp102 (16) 0 0 _ _ _ (by omega)  hS (lv_sub hl [0, 1, 2, 3, 4, 5, 6, 7] rfl)
      exact lp82 (9) 0 1 _ _ _ (by omega)  hS (lv_sub hl [0, 1, 2, 3, 4, 5] rfl)
    | succ k ih3 =>
      intro i1  H locs ls hi  hS hl
      refine lv_iload hx hb d_M_reduce_3 (lv_at hl 0 rfl) ?_
      refine lv_bipush (v := nI 16) hx hb d_M_reduce_5 (by decide +kernel) ?_
      refine lv_icmp_ge (tgt := 76) hx hb d_M_reduce_7 (by decide) (fun q => absurd q (nI_ge (by omega) (by omega))) (fun _ => ?_)
      refine lv_aload_n hx hb d_M_reduce_10 rfl (lv_at hl 1 rfl) ?_
      refine sx_get EE (hS.1.ob hE hM.1) rfl i_M 40 (by decide) rfl fl_M_123 rfl d_M_reduce_11 ?_
      refine lv_iload hx hb d_M_reduce_14 (lv_at hl 0 rfl) ?_
      refine sx_lald hx hb hG hS (mo_40 hM) (sx_in (by omega) (by decide)) d_M_reduce_16 (fun z25 => ?_)
      refine lv_lstore (lv' := [(5, .long z25), (4, .int (nI (i1))), (0, .ref o), (1, .ref a0), (2, .ref a1), (3, .ref a2)]) hx hb d_M_reduce_17 hl (by decide) rfl (fun ls hl => ?_)
      refine lv_iconst (v := nI 0) hx hb d_M_reduce_19 (by decide +kernel) ?_
      refine lv_istore (lv' := [(7, .int (nI (0))), (5, .long z25), (4, .int (nI (i1))), (0, .ref o), (1, .ref a0), (2, .ref a1), (3, .ref a2)]) hx hb d_M_reduce_20 hl (by decide) rfl (fun ls hl => ?_)
      have lp22 : ∀ (k i27 : Nat) (w26 : Int64) (H : Heap) (locs : List Loc) (ls : Array Slot), i27 + k = 16 → sx_S g E E H0 H locs → lv_has ls 10 [(7, .int (nI (i27))), (5, .long w26), (4, .int (nI (i1))), (0, .ref o), (1, .ref a0), (2, .ref a1), (3, .ref a2)] → W p l e rm_M_reduce s m args below meth c H locs 0 0 Q (F0 m 22 ls []) := by
        intro k
        induction k with
        | zero =>
          intro i27 w26 H locs ls hi  hS hl
          refine lv_iload hx hb d_M_reduce_22 (lv_at hl 0 rfl) ?_
          refine lv_bipush (v := nI 16) hx hb d_M_reduce_24 (by decide +kernel) ?_
          refine lv_icmp_ge (tgt := 61) hx hb d_M_reduce_26 (by decide) (fun _ => ?_) (fun q => absurd (nI_le (by omega) (by omega)) q)
          refine lv_aload_n hx hb d_M_reduce_61 rfl (lv_at hl 3 rfl) ?_
          refine sx_get EE (hS.1.ob hE hM.1) rfl i_M 41 (by decide) rfl fl_M_126 rfl d_M_reduce_62 ?_
          refine lv_iload hx hb d_M_reduce_65 (lv_at hl 2 rfl) ?_
          refine lv_lload hx hb d_M_reduce_67 (lv_at hl 1 rfl) ?_
          refine sx_last hx hb hG hS (mo_41 hM) (mow_41 hW) (sx_in (by omega) (by decide)) d_M_reduce_69 (fun H locs hS => ?_)
          refine lv_iinc (v := nI (i1 + 1)) (lv' := [(4, .int (nI (i1 + 1))), (7, .int (nI (i27))), (5, .long w26), (0, .ref o), (1, .ref a0), (2, .ref a1), (3, .ref a2)]) hx hb d_M_reduce_70 hl (k := 2) rfl (sx_inc _ _) (by decide) rfl (fun ls hl => ?_)
          refine lv_goto (tgt := 3) hx hb d_M_reduce_73 (by decide) ?_
          exact ih3 (i1 + 1)  _ _ _ (by omega)  hS (lv_sub hl [0, 3, 4, 5, 6] rfl)
        | succ k ih22 =>
          intro i27 w26 H locs ls hi  hS hl
          refine lv_iload hx hb d_M_reduce_22 (lv_at hl 0 rfl) ?_
          refine lv_bipush (v := nI 16) hx hb d_M_reduce_24 (by decide +kernel) ?_
          refine lv_icmp_ge (tgt := 61) hx hb d_M_reduce_26 (by decide) (fun q => absurd q (nI_ge (by omega) (by omega))) (fun _ => ?_)
          refine lv_lload hx hb d_M_reduce_29 (lv_at hl 1 rfl) ?_
          refine lv_aload_n hx hb d_M_reduce_31 rfl (lv_at hl 3 rfl) ?_
          refine sx_get EE (hS.1.ob hE hM.1) rfl i_M 40 (by decide) rfl fl_M_123 rfl d_M_reduce_32 ?_
          refine lv_bipush (v := nI 16) hx hb d_M_reduce_35 (by decide +kernel) ?_
          refine lv_iload hx hb d_M_reduce_37 (lv_at hl 0 rfl) ?_
          refine lv_iadd hx hb d_M_reduce_39 ?_
          refine sx_ti (y := nI (16 + i27)) (nI_add _ _) ?_
          refine sx_lald hx hb hG hS (mo_40 hM) (sx_in (by omega) (by decide)) d_M_reduce_40 (fun z28 => ?_)
          refine lv_aload_n hx hb d_M_reduce_41 rfl (lv_at hl 6 rfl) ?_
          refine lv_bipush (v := nI 16) hx hb d_M_reduce_42 (by decide +kernel) ?_
          refine lv_iload hx hb d_M_reduce_44 (lv_at hl 0 rfl) ?_
          refine lv_imul hx hb d_M_reduce_46 ?_
          refine sx_ti (y := nI (16 * i27)) (pk_mul _ _) ?_
          refine lv_iload hx hb d_M_reduce_47 (lv_at hl 2 rfl) ?_
          refine lv_iadd hx hb d_M_reduce_49 ?_
          refine sx_ti (y := nI ((16 * i27) + i1)) (nI_add _ _) ?_
          refine sx_lald hx hb hG hS f2 (sx_in (by omega) (by decide)) d_M_reduce_50 (fun z29 => ?_)
          refine sx_lmul hx hb d_M_reduce_51 (fun z30 => ?_)
          refine sx_ladd hx hb d_M_reduce_52 (fun z31 => ?_)
          refine lv_lstore (lv' := [(5, .long z31), (7, .int (nI (i27))), (4, .int (nI (i1))), (0, .ref o), (1, .ref a0), (2, .ref a1), (3, .ref a2)]) hx hb d_M_reduce_53 hl (by decide) rfl (fun ls hl => ?_)
          refine lv_iinc (v := nI (i27 + 1)) (lv' := [(7, .int (nI (i27 + 1))), (5, .long z31), (4, .int (nI (i1))), (0, .ref o), (1, .ref a0), (2, .ref a1), (3, .ref a2)]) hx hb d_M_reduce_55 hl (k := 1) rfl (sx_inc _ _) (by decide) rfl (fun ls hl => ?_)
          refine lv_goto (tgt := 22) hx hb d_M_reduce_58 (by decide) ?_
          exact ih22 (i27 + 1) z31 _ _ _ (by omega)  hS (lv_sub hl [0, 1, 2, 3, 4, 5, 6] rfl)
      exact lp22 (16) 0 z25 _ _ _ (by omega)  hS (lv_sub hl [0, 1, 2, 3, 4, 5, 6] rfl)
  exact lp3 (16) 0  _ _ _ (by omega)  hS (lv_sub hl [0, 1, 2, 3, 4] rfl)
abbrev rm_M_times : Room := { frames := 2, cells := 0, slots := 0, locals := 56 }
set_option maxHeartbeats 4000000 in
set_option maxRecDepth 100000 in
theorem c_M_times {l : Launch} {D : va_G} {g : ClassId → FieldType → Prop} {E : Nat → Prop} {H0 : Heap} {o : Nat} {r : Nat → Nat} {i : Nat → Int32} {a0 : Nat} {a1 : Nat} {a2 : Nat} {a3 : Nat} {a4 : Nat} (hM : mo_ D g H0 o r i) (hE : ¬ E o) (hW : ∀ q ∈ mo_wr, E (r q.1)) (f0 : sx_A g .long H0 a0 16) (o0 : E a0) (f1 : sx_A g .long H0 a1 16) (f2 : sx_A g .long H0 a2 16) (f3 : sx_A g .long H0 a3 16) (f4 : sx_A g .long H0 a4 256) : Met l y_M_times (.code y_M_times b_M_times 10 none :: G_) rm_M_times (sx_Pc [.ref o, .ref a0, .ref a1, .ref a2, .ref a3, .ref a4] H0 D g) (sx_Qv g E H0) 0 0 E := by
  refine sx_mv (own := R_M) (by decide) rfl rfl rfl (Nat.le_of_ble_eq_true rfl) ?_
  intro p e s m args below meth c Q ls EE hl hret
  obtain ⟨hx, hb, hml, hown, hts, hG, hK⟩ := id EE
  have hS : sx_S g E E H0 H0 [] := sx_S.rf
  have hl : lv_has ls 10 [(0, .ref o), (1, .ref a0), (2, .ref a1), (3, .ref a2), (4, .ref a3), (5, .ref a4)] := hl
  refine lv_iconst (v := nI 0) hx hb d_M_times_0 (by decide +kernel) ?_
  refine lv_istore (lv' := [(6, .int (nI (0))), (0, .ref o), (1, .ref a0), (2, .ref a1), (3, .ref a2), (4, .ref a3), (5, .ref a4)]) hx hb d_M_times_1 hl (by decide) rfl (fun ls hl => ?_)
  have lp3 : ∀ (k i1 : Nat) (H : Heap) (locs : List Loc) (ls : Array Slot), i1 + k = 32 → sx_S g E E H0 H locs → lv_has ls 10 [(6, .int (nI (i1))), (0, .ref o), (1, .ref a0), (2, .ref a1), (3, .ref a2), (4, .ref a3), (5, .ref a4)] → W p l e rm_M_times s m args below meth c H locs 0 0 Q (F0 m 3 ls []) := by
    intro k
    induction k with
    | zero =>
      intro i1  H locs ls hi  hS hl
      refine lv_iload hx hb d_M_times_3 (lv_at hl 0 rfl) ?_
      refine lv_bipush (v := nI 32) hx hb d_M_times_5 (by decide +kernel) ?_
      refine lv_icmp_ge (tgt := 24) hx hb d_M_times_7 (by decide) (fun _ => ?_) (fun q => absurd (nI_le (by omega) (by omega)) q)
      refine lv_iconst (v := nI 0) hx hb d_M_times_24 (by decide +kernel) ?_
      refine lv_istore (lv' := [(6, .int (nI (0))), (0, .ref o), (1, .ref a0), (2, .ref a1), (3, .ref a2), (4, .ref a3), (5, .ref a4)]) hx hb d_M_times_25 hl (by decide) rfl (fun ls hl => ?_)
      have lp27 : ∀ (k i2 : Nat) (H : Heap) (locs : List Loc) (ls : Array Slot), i2 + k = 16 → sx_S g E E H0 H locs → lv_has ls 10 [(6, .int (nI (i2))), (0, .ref o), (1, .ref a0), (2, .ref a1), (3, .ref a2), (4, .ref a3), (5, .ref a4)] → W p l e rm_M_times s m args below meth c H locs 0 0 Q (F0 m 27 ls []) := by
        intro k
        induction k with
        | zero =>
          intro i2  H locs ls hi  hS hl
          refine lv_iload hx hb d_M_times_27 (lv_at hl 0 rfl) ?_
          refine lv_bipush (v := nI 16) hx hb d_M_times_29 (by decide +kernel) ?_
          refine lv_icmp_ge (tgt := 119) hx hb d_M_times_31 (by decide) (fun _ => ?_) (fun q => absurd (nI_le (by omega) (by omega)) q)
          refine lv_aload_n hx hb d_M_times_119 rfl (lv_at hl 1 rfl) ?_
          refine lv_aload_n hx hb d_M_times_120 rfl (lv_at hl 2 rfl) ?_
          refine lv_aload hx hb d_M_times_121 (lv_at hl 5 rfl) ?_
          refine lv_aload hx hb d_M_times_123 (lv_at hl 6 rfl) ?_
          refine sx_gv (sx_runV (As := [.ref a0, .ref a3, .ref a4]) (rest := []) EE (hS.1.ob hE hM.1) rfl rfl (c_M_reduce (hM.kept hS.1 hE) hE hW (hS.a f0) o0 (hS.a f3) (hS.a f4)) w_M_225 rfl ⟨rfl, rfl⟩ ⟨Nat.le_of_ble_eq_true rfl, Nat.le_of_ble_eq_true rfl⟩ ⟨Nat.zero_le _, Nat.zero_le _⟩ hl.1 rfl (Nat.le_of_ble_eq_true rfl) d_M_times_125) hS (fun H locs hS => ?_)
          exact hret _ _ _ _ hS d_M_times_128
        | succ k ih27 =>
          intro i2  H locs ls hi  hS hl
          refine lv_iload hx hb d_M_times_27 (lv_at hl 0 rfl) ?_
          refine lv_bipush (v := nI 16) hx hb d_M_times_29 (by decide +kernel) ?_
          refine lv_icmp_ge (tgt := 119) hx hb d_M_times_31 (by decide) (fun q => absurd q (nI_ge (by omega) (by omega))) (fun _ => ?_)
          refine lv_lconst (v := 0) hx hb d_M_times_34 (by decide +kernel) ?_
          refine lv_lstore (lv' := [(7, .long 0), (6, .int (nI (i2))), (0, .ref o), (1, .ref a0), (2, .ref a1), (3, .ref a2), (4, .ref a3), (5, .ref a4)]) hx hb d_M_times_35 hl (by decide) rfl (fun ls hl => ?_)
          refine lv_iconst (v := nI 0) hx hb d_M_times_37 (by decide +kernel) ?_
          refine lv_istore (lv' := [(9, .int (nI (0))), (7, .long 0), (6, .int (nI (i2))), (0, .ref o), (1, .ref a0), (2, .ref a1), (3, .ref a2), (4, .ref a3), (5, .ref a4)]) hx hb d_M_times_38 hl (by decide) rfl (fun ls hl => ?_)
          have lp40 : ∀ (k i4 : Nat) (w3 : Int64) (H : Heap) (locs : List Loc) (ls : Array Slot), i4 + k = 16 → sx_S g E E H0 H locs → lv_has ls 10 [(9, .int (nI (i4))), (7, .long w3), (6, .int (nI (i2))), (0, .ref o), (1, .ref a0), (2, .ref a1), (3, .ref a2), (4, .ref a3), (5, .ref a4)] → W p l e rm_M_times s m args below meth c H locs 0 0 Q (F0 m 40 ls []) := by
            intro k
            induction k with
            | zero =>
              intro i4 w3 H locs ls hi  hS hl
              refine lv_iload hx hb d_M_times_40 (lv_at hl 0 rfl) ?_
              refine lv_bipush (v := nI 16) hx hb d_M_times_42 (by decide +kernel) ?_
              refine lv_icmp_ge (tgt := 101) hx hb d_M_times_44 (by decide) (fun _ => ?_) (fun q => absurd (nI_le (by omega) (by omega)) q)
              refine lv_aload_n hx hb d_M_times_101 rfl (lv_at hl 3 rfl) ?_
              refine sx_get EE (hS.1.ob hE hM.1) rfl i_M 40 (by decide) rfl fl_M_123 rfl d_M_times_102 ?_
              refine lv_iload hx hb d_M_times_105 (lv_at hl 2 rfl) ?_
              refine lv_bipush (v := nI 16) hx hb d_M_times_107 (by decide +kernel) ?_
              refine lv_iadd hx hb d_M_times_109 ?_
              refine sx_ti (y := nI (i2 + 16)) (nI_add _ _) ?_
              refine lv_lload hx hb d_M_times_110 (lv_at hl 1 rfl) ?_
              refine sx_last hx hb hG hS (mo_40 hM) (mow_40 hW) (sx_in (by omega) (by decide)) d_M_times_112 (fun H locs hS => ?_)
              refine lv_iinc (v := nI (i2 + 1)) (lv' := [(6, .int (nI (i2 + 1))), (9, .int (nI (i4))), (7, .long w3), (0, .ref o), (1, .ref a0), (2, .ref a1), (3, .ref a2), (4, .ref a3), (5, .ref a4)]) hx hb d_M_times_113 hl (k := 2) rfl (sx_inc _ _) (by decide) rfl (fun ls hl => ?_)
              refine lv_goto (tgt := 27) hx hb d_M_times_116 (by decide) ?_
              exact ih27 (i2 + 1)  _ _ _ (by omega)  hS (lv_sub hl [0, 3, 4, 5, 6, 7, 8] rfl)
            | succ k ih40 =>
              intro i4 w3 H locs ls hi  hS hl
              refine lv_iload hx hb d_M_times_40 (lv_at hl 0 rfl) ?_
              refine lv_bipush (v := nI 16) hx hb d_M_times_42 (by decide +kernel) ?_
              refine lv_icmp_ge (tgt := 101) hx hb d_M_times_44 (by decide) (fun q => absurd q (nI_ge (by omega) (by omega))) (fun _ => ?_)
              refine lv_lload hx hb d_M_times_47 (lv_at hl 1 rfl) ?_
              refine lv_aload_n hx hb d_M_times_49 rfl (lv_at hl 3 rfl) ?_
              refine sx_get EE (hS.1.ob hE hM.1) rfl i_M 40 (by decide) rfl fl_M_123 rfl d_M_times_50 ?_
              refine lv_iload hx hb d_M_times_53 (lv_at hl 2 rfl) ?_
              refine lv_iload hx hb d_M_times_55 (lv_at hl 0 rfl) ?_
              refine lv_iadd hx hb d_M_times_57 ?_
              refine sx_ti (y := nI (i2 + i4)) (nI_add _ _) ?_
              refine sx_lald hx hb hG hS (mo_40 hM) (sx_in (by omega) (by decide)) d_M_times_58 (fun z5 => ?_)
              refine lv_aload_n hx hb d_M_times_59 rfl (lv_at hl 5 rfl) ?_
              refine lv_iload hx hb d_M_times_60 (lv_at hl 2 rfl) ?_
              refine sx_lald hx hb hG hS f1 (sx_in (by omega) (by decide)) d_M_times_62 (fun z6 => ?_)
              refine lv_aload_n hx hb d_M_times_63 rfl (lv_at hl 6 rfl) ?_
              refine lv_iload hx hb d_M_times_64 (lv_at hl 0 rfl) ?_
              refine sx_lald hx hb hG hS f2 (sx_in (by omega) (by decide)) d_M_times_66 (fun z7 => ?_)
              refine sx_lmul hx hb d_M_times_67 (fun z8 => ?_)
              refine sx_ladd hx hb d_M_times_68 (fun z9 => ?_)
              refine sx_ladd hx hb d_M_times_69 (fun z10 => ?_)
              refine lv_lstore (lv' := [(7, .long z10), (9, .int (nI (i4))), (6, .int (nI (i2))), (0, .ref o), (1, .ref a0), (2, .ref a1), (3, .ref a2), (4, .ref a3), (5, .ref a4)]) hx hb d_M_times_70 hl (by decide) rfl (fun ls hl => ?_)
              refine lv_aload_n hx hb d_M_times_72 rfl (lv_at hl 3 rfl) ?_
              refine sx_get EE (hS.1.ob hE hM.1) rfl i_M 40 (by decide) rfl fl_M_123 rfl d_M_times_73 ?_
              refine lv_iload hx hb d_M_times_76 (lv_at hl 2 rfl) ?_
              refine lv_iload hx hb d_M_times_78 (lv_at hl 1 rfl) ?_
              refine lv_iadd hx hb d_M_times_80 ?_
              refine sx_ti (y := nI (i2 + i4)) (nI_add _ _) ?_
              refine lv_lload hx hb d_M_times_81 (lv_at hl 0 rfl) ?_
              refine lv_ldc2 (v := (65535)) hx hb hown (hts (.constantLong R_M 169 (65535)) (by decide +kernel)) d_M_times_83 ?_
              refine sx_land hx hb d_M_times_86 (fun z11 => ?_)
              refine sx_last hx hb hG hS (mo_40 hM) (mow_40 hW) (sx_in (by omega) (by decide)) d_M_times_87 (fun H locs hS => ?_)
              refine lv_lload hx hb d_M_times_88 (lv_at hl 0 rfl) ?_
              refine lv_bipush (v := nI 16) hx hb d_M_times_90 (by decide +kernel) ?_
              refine sx_lshr hx hb d_M_times_92 (fun z12 => ?_)
              refine lv_lstore (lv' := [(7, .long z12), (9, .int (nI (i4))), (6, .int (nI (i2))), (0, .ref o), (1, .ref a0), (2, .ref a1), (3, .ref a2), (4, .ref a3), (5, .ref a4)]) hx hb d_M_times_93 hl (by decide) rfl (fun ls hl => ?_)
              refine lv_iinc (v := nI (i4 + 1)) (lv' := [(9, .int (nI (i4 + 1))), (7, .long z12), (6, .int (nI (i2))), (0, .ref o), (1, .ref a0), (2, .ref a1), (3, .ref a2), (4, .ref a3), (5, .ref a4)]) hx hb d_M_times_95 hl (k := 1) rfl (sx_inc _ _) (by decide) rfl (fun ls hl => ?_)
              refine lv_goto (tgt := 40) hx hb d_M_times_98 (by decide) ?_
              exact ih40 (i4 + 1) z12 _ _ _ (by omega)  hS (lv_sub hl [0, 1, 2, 3, 4, 5, 6, 7, 8] rfl)
          exact lp40 (16) 0 0 _ _ _ (by omega)  hS (lv_sub hl [0, 1, 2, 3, 4, 5, 6, 7, 8] rfl)
      exact lp27 (16) 0  _ _ _ (by omega)  hS (lv_sub hl [0, 1, 2, 3, 4, 5, 6] rfl)
    | succ k ih3 =>
      intro i1  H locs ls hi  hS hl
      refine lv_iload hx hb d_M_times_3 (lv_at hl 0 rfl) ?_
      refine lv_bipush (v := nI 32) hx hb d_M_times_5 (by decide +kernel) ?_
      refine lv_icmp_ge (tgt := 24) hx hb d_M_times_7 (by decide) (fun q => absurd q (nI_ge (by omega) (by omega))) (fun _ => ?_)
      refine lv_aload_n hx hb d_M_times_10 rfl (lv_at hl 1 rfl) ?_
      refine sx_get EE (hS.1.ob hE hM.1) rfl i_M 40 (by decide) rfl fl_M_123 rfl d_M_times_11 ?_
      refine lv_iload hx hb d_M_times_14 (lv_at hl 0 rfl) ?_
      refine lv_lconst (v := 0) hx hb d_M_times_16 (by decide +kernel) ?_
      refine sx_last hx hb hG hS (mo_40 hM) (mow_40 hW) (sx_in (by omega) (by decide)) d_M_times_17 (fun H locs hS => ?_)
      refine lv_iinc (v := nI (i1 + 1)) (lv' := [(6, .int (nI (i1 + 1))), (0, .ref o), (1, .ref a0), (2, .ref a1), (3, .ref a2), (4, .ref a3), (5, .ref a4)]) hx hb d_M_times_18 hl (k := 0) rfl (sx_inc _ _) (by decide) rfl (fun ls hl => ?_)
      refine lv_goto (tgt := 3) hx hb d_M_times_21 (by decide) ?_
      exact ih3 (i1 + 1)  _ _ _ (by omega)  hS (lv_sub hl [0, 1, 2, 3, 4, 5, 6] rfl)
  exact lp3 (32) 0  _ _ _ (by omega)  hS (lv_sub hl [0, 1, 2, 3, 4, 5, 6] rfl)
end
section
abbrev rm_M_inverse : Room := { frames := 1, cells := 0, slots := 0, locals := 28 }
set_option maxHeartbeats 4000000 in
set_option maxRecDepth 100000 in
theorem c_M_inverse {l : Launch} {D : va_G} {g : ClassId → FieldType → Prop} {E : Nat → Prop} {H0 : Heap} {o : Nat} {r : Nat → Nat} {i : Nat → Int32} {a0 : Nat} {a1 : Nat} {a2 : Nat} (hM : mo_ D g H0 o r i) (hE : ¬ E o) (hW : ∀ q ∈ mo_wr, E (r q.1)) (f0 : sx_A g .long H0 a0 16) (o0 : E a0) (f1 : sx_A g .long H0 a1 16) (f2 : sx_A g .long H0 a2 16) : Met l y_M_inverse (.code y_M_inverse b_M_inverse 5 none :: G_) rm_M_inverse (sx_Pc [.ref o, .ref a0, .ref a1, .ref a2] H0 D g) (sx_Qv g E H0) 0 0 E := by
  refine sx_mv (own := R_M) (by decide) rfl rfl rfl (Nat.le_of_ble_eq_true rfl) ?_
  intro p e s m args below meth c Q ls EE hl hret
  obtain ⟨hx, hb, hml, hown, hts, hG, hK⟩ := id EE
  have hS : sx_S g E E H0 H0 [] := sx_S.rf
  have hl : lv_has ls 5 [(0, .ref o), (1, .ref a0), (2, .ref a1), (3, .ref a2)] := hl
  refine lv_aload_n hx hb d_M_inverse_0 rfl (lv_at hl 0 rfl) ?_
  refine sx_get EE (hS.1.ob hE hM.1) rfl i_M 42 (by decide) rfl fl_M_129 rfl d_M_inverse_1 ?_
  refine lv_aload_n hx hb d_M_inverse_4 rfl (lv_at hl 2 rfl) ?_
  refine sx_gv (sx_runS (As := [.ref (r 42), .ref a1]) (rest := []) EE (c_M_copy (hS.a (mo_42 hM)) (mow_42 hW) (hS.a f1)) w_M_207 rfl ⟨rfl, rfl⟩ ⟨Nat.le_of_ble_eq_true rfl, Nat.le_of_ble_eq_true rfl⟩ ⟨Nat.zero_le _, Nat.zero_le _⟩ hl.1 rfl (Nat.le_of_ble_eq_true rfl) d_M_inverse_5) hS (fun H locs hS => ?_)
  refine lv_aload_n hx hb d_M_inverse_8 rfl (lv_at hl 0 rfl) ?_
  refine sx_get EE (hS.1.ob hE hM.1) rfl i_M 43 (by decide) rfl fl_M_132 rfl d_M_inverse_9 ?_
  refine lv_aload_n hx hb d_M_inverse_12 rfl (lv_at hl 3 rfl) ?_
  refine sx_gv (sx_runS (As := [.ref (r 43), .ref a2]) (rest := []) EE (c_M_copy (hS.a (mo_43 hM)) (mow_43 hW) (hS.a f2)) w_M_207 rfl ⟨rfl, rfl⟩ ⟨Nat.le_of_ble_eq_true rfl, Nat.le_of_ble_eq_true rfl⟩ ⟨Nat.zero_le _, Nat.zero_le _⟩ hl.1 rfl (Nat.le_of_ble_eq_true rfl) d_M_inverse_13) hS (fun H locs hS => ?_)
  refine lv_aload_n hx hb d_M_inverse_16 rfl (lv_at hl 0 rfl) ?_
  refine sx_get EE (hS.1.ob hE hM.1) rfl i_M 44 (by decide) rfl fl_M_135 rfl d_M_inverse_17 ?_
  refine lv_iconst (v := nI 1) hx hb d_M_inverse_20 (by decide +kernel) ?_
  refine sx_gv (sx_runS (As := [.ref (r 44), .int (nI (1))]) (rest := []) EE (c_M_set ((hS.a (mo_44 hM)).le (by decide)) (mow_44 hW)) w_M_177 rfl ⟨rfl, rfl⟩ ⟨Nat.le_of_ble_eq_true rfl, Nat.le_of_ble_eq_true rfl⟩ ⟨Nat.zero_le _, Nat.zero_le _⟩ hl.1 rfl (Nat.le_of_ble_eq_true rfl) d_M_inverse_21) hS (fun H locs hS => ?_)
  refine lv_aload_n hx hb d_M_inverse_24 rfl (lv_at hl 0 rfl) ?_
  refine sx_get EE (hS.1.ob hE hM.1) rfl i_M 45 (by decide) rfl fl_M_138 rfl d_M_inverse_25 ?_
  refine lv_iconst (v := nI 0) hx hb d_M_inverse_28 (by decide +kernel) ?_
  refine sx_gv (sx_runS (As := [.ref (r 45), .int (nI (0))]) (rest := []) EE (c_M_set ((hS.a (mo_45 hM)).le (by decide)) (mow_45 hW)) w_M_177 rfl ⟨rfl, rfl⟩ ⟨Nat.le_of_ble_eq_true rfl, Nat.le_of_ble_eq_true rfl⟩ ⟨Nat.zero_le _, Nat.zero_le _⟩ hl.1 rfl (Nat.le_of_ble_eq_true rfl) d_M_inverse_29) hS (fun H locs hS => ?_)
  refine lv_aload_n hx hb d_M_inverse_32 rfl (lv_at hl 0 rfl) ?_
  refine sx_get EE (hS.1.ob hE hM.1) rfl i_M 44 (by decide) rfl fl_M_135 rfl d_M_inverse_33 ?_
  refine lv_bipush (v := nI 16) hx hb d_M_inverse_36 (by decide +kernel) ?_
  refine lv_lconst (v := 0) hx hb d_M_inverse_38 (by decide +kernel) ?_
  refine sx_last hx hb hG hS (mo_44 hM) (mow_44 hW) (sx_in (by omega) (by decide)) d_M_inverse_39 (fun H locs hS => ?_)
  refine lv_aload_n hx hb d_M_inverse_40 rfl (lv_at hl 0 rfl) ?_
  refine sx_get EE (hS.1.ob hE hM.1) rfl i_M 45 (by decide) rfl fl_M_138 rfl d_M_inverse_41 ?_
  refine lv_bipush (v := nI 16) hx hb d_M_inverse_44 (by decide +kernel) ?_
  refine lv_lconst (v := 0) hx hb d_M_inverse_46 (by decide +kernel) ?_
  refine sx_last hx hb hG hS (mo_45 hM) (mow_45 hW) (sx_in (by omega) (by decide)) d_M_inverse_47 (fun H locs hS => ?_)
  refine lv_iconst (v := nI 0) hx hb d_M_inverse_48 (by decide +kernel) ?_
  refine lv_istore (lv' := [(4, .int (nI (0))), (0, .ref o), (1, .ref a0), (2, .ref a1), (3, .ref a2)]) hx hb d_M_inverse_49 hl (by decide) rfl (fun ls hl => ?_)
  have ex233_2 : ∀ (H : Heap) (locs : List Loc) (ls : Array Slot), sx_S g E E H0 H locs → lv_has ls 5 [(0, .ref o), (1, .ref a0), (2, .ref a1), (3, .ref a2)] → W p l e rm_M_inverse s m args below meth c H locs 0 0 Q (F0 m 233 ls []) := by
    intro  H locs ls  hS hl
    refine lv_aload_n hx hb d_M_inverse_233 rfl (lv_at hl 2 rfl) ?_
    refine sx_gn (sx_runS (As := [.ref a1]) (rest := []) EE (c_M_zero (hS.a f1)) w_M_228 rfl ⟨rfl, rfl⟩ ⟨Nat.le_of_ble_eq_true rfl, Nat.le_of_ble_eq_true rfl⟩ ⟨Nat.zero_le _, Nat.zero_le _⟩ hl.1 rfl (Nat.le_of_ble_eq_true rfl) d_M_inverse_234) hS (fun n4 h_n4 H locs hS => ?_)
    have h_n4 : n4 ≤ 1 := h_n4
    have jn273_7 : ∀ (H : Heap) (locs : List Loc) (ls : Array Slot), sx_S g E E H0 H locs → lv_has ls 5 [(0, .ref o), (1, .ref a0), (2, .ref a1), (3, .ref a2)] → W p l e rm_M_inverse s m args below meth c H locs 0 0 Q (F0 m 273 ls []) := by
      intro  H locs ls  hS hl
      exact hret _ _ _ _ hS d_M_inverse_273
    refine lv_if_eq (tgt := 248) hx hb d_M_inverse_237 (by decide) (fun q237 => ?_) (fun q237 => ?_)
    · skip
      have q237 : n4 = 0 := (nI_eq (a := n4) (b := 0) (by omega) (by omega)).mp q237
      refine lv_aload_n hx hb d_M_inverse_248 rfl (lv_at hl 1 rfl) ?_
      refine lv_aload_n hx hb d_M_inverse_249 rfl (lv_at hl 0 rfl) ?_
      refine sx_get EE (hS.1.ob hE hM.1) rfl i_M 42 (by decide) rfl fl_M_129 rfl d_M_inverse_250 ?_
      refine sx_gn (sx_runS (As := [.ref (r 42)]) (rest := [.ref a0]) EE (c_M_one (hS.a (mo_42 hM))) w_M_232 rfl ⟨rfl, rfl⟩ ⟨Nat.le_of_ble_eq_true rfl, Nat.le_of_ble_eq_true rfl⟩ ⟨Nat.zero_le _, Nat.zero_le _⟩ hl.1 rfl (Nat.le_of_ble_eq_true rfl) d_M_inverse_253) hS (fun n9 h_n9 H locs hS => ?_)
      have h_n9 : n9 ≤ 1 := h_n9
      have jn270_10 : ∀ (r10 : Nat) (H : Heap) (locs : List Loc) (ls : Array Slot), sx_A g .long H0 r10 17 → E r10 → sx_S g E E H0 H locs → lv_has ls 5 [(0, .ref o), (1, .ref a0), (2, .ref a1), (3, .ref a2)] → W p l e rm_M_inverse s m args below meth c H locs 0 0 Q (F0 m 270 ls [.ref r10, .ref a0]) := by
        intro r10 H locs ls f_r10 o_r10 hS hl
        refine sx_gv (sx_runS (As := [.ref a0, .ref r10]) (rest := []) EE (c_M_copy (hS.a f0) o0 ((hS.a f_r10).le (by decide))) w_M_207 rfl ⟨rfl, rfl⟩ ⟨Nat.le_of_ble_eq_true rfl, Nat.le_of_ble_eq_true rfl⟩ ⟨Nat.zero_le _, Nat.zero_le _⟩ hl.1 rfl (Nat.le_of_ble_eq_true rfl) d_M_inverse_270) hS (fun H locs hS => ?_)
        exact jn273_7  _ _ _  hS (lv_sub hl [0, 1, 2, 3] rfl)
      refine lv_if_eq (tgt := 266) hx hb d_M_inverse_256 (by decide) (fun q256 => ?_) (fun q256 => ?_)
      · skip
        have q256 : n9 = 0 := (nI_eq (a := n9) (b := 0) (by omega) (by omega)).mp q256
        refine lv_aload_n hx hb d_M_inverse_266 rfl (lv_at hl 0 rfl) ?_
        refine sx_get EE (hS.1.ob hE hM.1) rfl i_M 45 (by decide) rfl fl_M_138 rfl d_M_inverse_267 ?_
        exact jn270_10 (r 45) _ _ _ (mo_45 hM) (mow_45 hW) hS (lv_sub hl [0, 1, 2, 3] rfl)
      · skip
        have q256 : ¬ (n9 = 0) := fun z => q256 ((nI_eq (a := n9) (b := 0) (by omega) (by omega)).mpr z)
        refine lv_aload_n hx hb d_M_inverse_259 rfl (lv_at hl 0 rfl) ?_
        refine sx_get EE (hS.1.ob hE hM.1) rfl i_M 44 (by decide) rfl fl_M_135 rfl d_M_inverse_260 ?_
        refine lv_goto (tgt := 270) hx hb d_M_inverse_263 (by decide) ?_
        exact jn270_10 (r 44) _ _ _ (mo_44 hM) (mow_44 hW) hS (lv_sub hl [0, 1, 2, 3] rfl)
    · skip
      have q237 : ¬ (n4 = 0) := fun z => q237 ((nI_eq (a := n4) (b := 0) (by omega) (by omega)).mpr z)
      refine lv_aload_n hx hb d_M_inverse_240 rfl (lv_at hl 1 rfl) ?_
      refine lv_iconst (v := nI 0) hx hb d_M_inverse_241 (by decide +kernel) ?_
      refine sx_gv (sx_runS (As := [.ref a0, .int (nI (0))]) (rest := []) EE (c_M_set (hS.a f0) o0) w_M_177 rfl ⟨rfl, rfl⟩ ⟨Nat.le_of_ble_eq_true rfl, Nat.le_of_ble_eq_true rfl⟩ ⟨Nat.zero_le _, Nat.zero_le _⟩ hl.1 rfl (Nat.le_of_ble_eq_true rfl) d_M_inverse_242) hS (fun H locs hS => ?_)
      refine lv_goto (tgt := 273) hx hb d_M_inverse_245 (by decide) ?_
      exact jn273_7  _ _ _  hS (lv_sub hl [0, 1, 2, 3] rfl)
  have lp51 : ∀ (k i1 : Nat) (H : Heap) (locs : List Loc) (ls : Array Slot), i1 + k = 1100 → sx_S g E E H0 H locs → lv_has ls 5 [(4, .int (nI (i1))), (0, .ref o), (1, .ref a0), (2, .ref a1), (3, .ref a2)] → W p l e rm_M_inverse s m args below meth c H locs 0 0 Q (F0 m 51 ls []) := by
    intro k
    induction k with
    | zero =>
      intro i1  H locs ls hi  hS hl
      refine lv_iload hx hb d_M_inverse_51 (lv_at hl 0 rfl) ?_
      refine lv_sipush (v := nI 1100) hx hb d_M_inverse_53 (by decide +kernel) ?_
      refine lv_icmp_ge (tgt := 233) hx hb d_M_inverse_56 (by decide) (fun _ => ?_) (fun q => absurd (nI_le (by omega) (by omega)) q)
      exact ex233_2  _ _ _  hS (lv_sub hl [1, 2, 3, 4] rfl)
    | succ k ih51 =>
      intro i1  H locs ls hi  hS hl
      refine lv_iload hx hb d_M_inverse_51 (lv_at hl 0 rfl) ?_
      refine lv_sipush (v := nI 1100) hx hb d_M_inverse_53 (by decide +kernel) ?_
      refine lv_icmp_ge (tgt := 233) hx hb d_M_inverse_56 (by decide) (fun q => absurd q (nI_ge (by omega) (by omega))) (fun _ => ?_)
      refine lv_aload_n hx hb d_M_inverse_59 rfl (lv_at hl 3 rfl) ?_
      refine sx_gn (sx_runS (As := [.ref a1]) (rest := []) EE (c_M_zero (hS.a f1)) w_M_228 rfl ⟨rfl, rfl⟩ ⟨Nat.le_of_ble_eq_true rfl, Nat.le_of_ble_eq_true rfl⟩ ⟨Nat.zero_le _, Nat.zero_le _⟩ hl.1 rfl (Nat.le_of_ble_eq_true rfl) d_M_inverse_60) hS (fun n12 h_n12 H locs hS => ?_)
      have h_n12 : n12 ≤ 1 := h_n12
      refine lv_if_ne (tgt := 233) hx hb d_M_inverse_63 (by decide) (fun q63 => ?_) (fun q63 => ?_)
      · skip
        have q63 : ¬ (n12 = 0) := fun z => q63 ((nI_eq (a := n12) (b := 0) (by omega) (by omega)).mpr z)
        exact ex233_2  _ _ _  hS (lv_sub hl [1, 2, 3, 4] rfl)
      · skip
        have q63 : n12 = 0 := (nI_eq (a := n12) (b := 0) (by omega) (by omega)).mp q63
        refine lv_aload_n hx hb d_M_inverse_66 rfl (lv_at hl 1 rfl) ?_
        refine sx_get EE (hS.1.ob hE hM.1) rfl i_M 42 (by decide) rfl fl_M_129 rfl d_M_inverse_67 ?_
        refine sx_gn (sx_runS (As := [.ref (r 42)]) (rest := []) EE (c_M_one (hS.a (mo_42 hM))) w_M_232 rfl ⟨rfl, rfl⟩ ⟨Nat.le_of_ble_eq_true rfl, Nat.le_of_ble_eq_true rfl⟩ ⟨Nat.zero_le _, Nat.zero_le _⟩ hl.1 rfl (Nat.le_of_ble_eq_true rfl) d_M_inverse_70) hS (fun n13 h_n13 H locs hS => ?_)
        have h_n13 : n13 ≤ 1 := h_n13
        refine lv_if_ne (tgt := 233) hx hb d_M_inverse_73 (by decide) (fun q73 => ?_) (fun q73 => ?_)
        · skip
          have q73 : ¬ (n13 = 0) := fun z => q73 ((nI_eq (a := n13) (b := 0) (by omega) (by omega)).mpr z)
          exact ex233_2  _ _ _  hS (lv_sub hl [1, 2, 3, 4] rfl)
        · skip
          have q73 : n13 = 0 := (nI_eq (a := n13) (b := 0) (by omega) (by omega)).mp q73
          refine lv_aload_n hx hb d_M_inverse_76 rfl (lv_at hl 1 rfl) ?_
          refine sx_get EE (hS.1.ob hE hM.1) rfl i_M 43 (by decide) rfl fl_M_132 rfl d_M_inverse_77 ?_
          refine sx_gn (sx_runS (As := [.ref (r 43)]) (rest := []) EE (c_M_one (hS.a (mo_43 hM))) w_M_232 rfl ⟨rfl, rfl⟩ ⟨Nat.le_of_ble_eq_true rfl, Nat.le_of_ble_eq_true rfl⟩ ⟨Nat.zero_le _, Nat.zero_le _⟩ hl.1 rfl (Nat.le_of_ble_eq_true rfl) d_M_inverse_80) hS (fun n14 h_n14 H locs hS => ?_)
          have h_n14 : n14 ≤ 1 := h_n14
          refine lv_if_ne (tgt := 233) hx hb d_M_inverse_83 (by decide) (fun q83 => ?_) (fun q83 => ?_)
          · skip
            have q83 : ¬ (n14 = 0) := fun z => q83 ((nI_eq (a := n14) (b := 0) (by omega) (by omega)).mpr z)
            exact ex233_2  _ _ _  hS (lv_sub hl [1, 2, 3, 4] rfl)
          · skip
            have q83 : n14 = 0 := (nI_eq (a := n14) (b := 0) (by omega) (by omega)).mp q83
            refine lv_aload_n hx hb d_M_inverse_86 rfl (lv_at hl 1 rfl) ?_
            refine sx_get EE (hS.1.ob hE hM.1) rfl i_M 42 (by decide) rfl fl_M_129 rfl d_M_inverse_87 ?_
            refine lv_iconst (v := nI 0) hx hb d_M_inverse_90 (by decide +kernel) ?_
            refine sx_lald hx hb hG hS (mo_42 hM) (sx_in (by omega) (by decide)) d_M_inverse_91 (fun z15 => ?_)
            refine lv_lconst (v := 1) hx hb d_M_inverse_92 (by decide +kernel) ?_
            refine sx_land hx hb d_M_inverse_93 (fun z16 => ?_)
            refine lv_lconst (v := 0) hx hb d_M_inverse_94 (by decide +kernel) ?_
            refine sx_lcmp hx hb d_M_inverse_95 (fun z17 => ?_)
            have jn227_21 : ∀ (H : Heap) (locs : List Loc) (ls : Array Slot), sx_S g E E H0 H locs → lv_has ls 5 [(4, .int (nI (i1))), (0, .ref o), (1, .ref a0), (2, .ref a1), (3, .ref a2)] → W p l e rm_M_inverse s m args below meth c H locs 0 0 Q (F0 m 227 ls []) := by
              intro  H locs ls  hS hl
              refine lv_iinc (v := nI (i1 + 1)) (lv' := [(4, .int (nI (i1 + 1))), (0, .ref o), (1, .ref a0), (2, .ref a1), (3, .ref a2)]) hx hb d_M_inverse_227 hl (k := 0) rfl (sx_inc _ _) (by decide) rfl (fun ls hl => ?_)
              refine lv_goto (tgt := 51) hx hb d_M_inverse_230 (by decide) ?_
              exact ih51 (i1 + 1)  _ _ _ (by omega)  hS (lv_sub hl [0, 1, 2, 3, 4] rfl)
            refine lv_if_ne (tgt := 117) hx hb d_M_inverse_96 (by decide) (fun _ => ?_) (fun _ => ?_)
            · skip
              refine lv_aload_n hx hb d_M_inverse_117 rfl (lv_at hl 1 rfl) ?_
              refine sx_get EE (hS.1.ob hE hM.1) rfl i_M 43 (by decide) rfl fl_M_132 rfl d_M_inverse_118 ?_
              refine lv_iconst (v := nI 0) hx hb d_M_inverse_121 (by decide +kernel) ?_
              refine sx_lald hx hb hG hS (mo_43 hM) (sx_in (by omega) (by decide)) d_M_inverse_122 (fun z23 => ?_)
              refine lv_lconst (v := 1) hx hb d_M_inverse_123 (by decide +kernel) ?_
              refine sx_land hx hb d_M_inverse_124 (fun z24 => ?_)
              refine lv_lconst (v := 0) hx hb d_M_inverse_125 (by decide +kernel) ?_
              refine sx_lcmp hx hb d_M_inverse_126 (fun z25 => ?_)
              refine lv_if_ne (tgt := 148) hx hb d_M_inverse_127 (by decide) (fun _ => ?_) (fun _ => ?_)
              · skip
                refine lv_aload_n hx hb d_M_inverse_148 rfl (lv_at hl 1 rfl) ?_
                refine sx_get EE (hS.1.ob hE hM.1) rfl i_M 42 (by decide) rfl fl_M_129 rfl d_M_inverse_149 ?_
                refine lv_aload_n hx hb d_M_inverse_152 rfl (lv_at hl 1 rfl) ?_
                refine sx_get EE (hS.1.ob hE hM.1) rfl i_M 43 (by decide) rfl fl_M_132 rfl d_M_inverse_153 ?_
                refine sx_gn (sx_runS (As := [.ref (r 42), .ref (r 43)]) (rest := []) EE (c_M_below (hS.a (mo_42 hM)) (hS.a (mo_43 hM))) w_M_215 rfl ⟨rfl, rfl⟩ ⟨Nat.le_of_ble_eq_true rfl, Nat.le_of_ble_eq_true rfl⟩ ⟨Nat.zero_le _, Nat.zero_le _⟩ hl.1 rfl (Nat.le_of_ble_eq_true rfl) d_M_inverse_156) hS (fun n26 h_n26 H locs hS => ?_)
                have h_n26 : n26 ≤ 1 := h_n26
                refine lv_if_eq (tgt := 196) hx hb d_M_inverse_159 (by decide) (fun q159 => ?_) (fun q159 => ?_)
                · skip
                  have q159 : n26 = 0 := (nI_eq (a := n26) (b := 0) (by omega) (by omega)).mp q159
                  refine lv_aload_n hx hb d_M_inverse_196 rfl (lv_at hl 1 rfl) ?_
                  refine sx_get EE (hS.1.ob hE hM.1) rfl i_M 42 (by decide) rfl fl_M_129 rfl d_M_inverse_197 ?_
                  refine lv_aload_n hx hb d_M_inverse_200 rfl (lv_at hl 1 rfl) ?_
                  refine sx_get EE (hS.1.ob hE hM.1) rfl i_M 42 (by decide) rfl fl_M_129 rfl d_M_inverse_201 ?_
                  refine lv_aload_n hx hb d_M_inverse_204 rfl (lv_at hl 1 rfl) ?_
                  refine sx_get EE (hS.1.ob hE hM.1) rfl i_M 43 (by decide) rfl fl_M_132 rfl d_M_inverse_205 ?_
                  refine sx_gv (sx_runS (As := [.ref (r 42), .ref (r 42), .ref (r 43)]) (rest := []) EE (c_M_less (hS.a (mo_42 hM)) (mow_42 hW) (hS.a (mo_42 hM)) (hS.a (mo_43 hM))) w_M_219 rfl ⟨rfl, rfl⟩ ⟨Nat.le_of_ble_eq_true rfl, Nat.le_of_ble_eq_true rfl⟩ ⟨Nat.zero_le _, Nat.zero_le _⟩ hl.1 rfl (Nat.le_of_ble_eq_true rfl) d_M_inverse_208) hS (fun H locs hS => ?_)
                  refine lv_aload_n hx hb d_M_inverse_211 rfl (lv_at hl 1 rfl) ?_
                  refine sx_get EE (hS.1.ob hE hM.1) rfl i_M 44 (by decide) rfl fl_M_135 rfl d_M_inverse_212 ?_
                  refine lv_aload_n hx hb d_M_inverse_215 rfl (lv_at hl 1 rfl) ?_
                  refine sx_get EE (hS.1.ob hE hM.1) rfl i_M 44 (by decide) rfl fl_M_135 rfl d_M_inverse_216 ?_
                  refine lv_aload_n hx hb d_M_inverse_219 rfl (lv_at hl 1 rfl) ?_
                  refine sx_get EE (hS.1.ob hE hM.1) rfl i_M 45 (by decide) rfl fl_M_138 rfl d_M_inverse_220 ?_
                  refine lv_aload_n hx hb d_M_inverse_223 rfl (lv_at hl 4 rfl) ?_
                  refine sx_gv (sx_runS (As := [.ref (r 44), .ref (r 44), .ref (r 45), .ref a2]) (rest := []) EE (c_M_minus ((hS.a (mo_44 hM)).le (by decide)) (mow_44 hW) ((hS.a (mo_44 hM)).le (by decide)) ((hS.a (mo_45 hM)).le (by decide)) (hS.a f2)) w_M_192 rfl ⟨rfl, rfl⟩ ⟨Nat.le_of_ble_eq_true rfl, Nat.le_of_ble_eq_true rfl⟩ ⟨Nat.zero_le _, Nat.zero_le _⟩ hl.1 rfl (Nat.le_of_ble_eq_true rfl) d_M_inverse_224) hS (fun H locs hS => ?_)
                  exact jn227_21  _ _ _  hS (lv_sub hl [0, 1, 2, 3, 4] rfl)
                · skip
                  have q159 : ¬ (n26 = 0) := fun z => q159 ((nI_eq (a := n26) (b := 0) (by omega) (by omega)).mpr z)
                  refine lv_aload_n hx hb d_M_inverse_162 rfl (lv_at hl 1 rfl) ?_
                  refine sx_get EE (hS.1.ob hE hM.1) rfl i_M 43 (by decide) rfl fl_M_132 rfl d_M_inverse_163 ?_
                  refine lv_aload_n hx hb d_M_inverse_166 rfl (lv_at hl 1 rfl) ?_
                  refine sx_get EE (hS.1.ob hE hM.1) rfl i_M 43 (by decide) rfl fl_M_132 rfl d_M_inverse_167 ?_
                  refine lv_aload_n hx hb d_M_inverse_170 rfl (lv_at hl 1 rfl) ?_
                  refine sx_get EE (hS.1.ob hE hM.1) rfl i_M 42 (by decide) rfl fl_M_129 rfl d_M_inverse_171 ?_
                  refine sx_gv (sx_runS (As := [.ref (r 43), .ref (r 43), .ref (r 42)]) (rest := []) EE (c_M_less (hS.a (mo_43 hM)) (mow_43 hW) (hS.a (mo_43 hM)) (hS.a (mo_42 hM))) w_M_219 rfl ⟨rfl, rfl⟩ ⟨Nat.le_of_ble_eq_true rfl, Nat.le_of_ble_eq_true rfl⟩ ⟨Nat.zero_le _, Nat.zero_le _⟩ hl.1 rfl (Nat.le_of_ble_eq_true rfl) d_M_inverse_174) hS (fun H locs hS => ?_)
                  refine lv_aload_n hx hb d_M_inverse_177 rfl (lv_at hl 1 rfl) ?_
                  refine sx_get EE (hS.1.ob hE hM.1) rfl i_M 45 (by decide) rfl fl_M_138 rfl d_M_inverse_178 ?_
                  refine lv_aload_n hx hb d_M_inverse_181 rfl (lv_at hl 1 rfl) ?_
                  refine sx_get EE (hS.1.ob hE hM.1) rfl i_M 45 (by decide) rfl fl_M_138 rfl d_M_inverse_182 ?_
                  refine lv_aload_n hx hb d_M_inverse_185 rfl (lv_at hl 1 rfl) ?_
                  refine sx_get EE (hS.1.ob hE hM.1) rfl i_M 44 (by decide) rfl fl_M_135 rfl d_M_inverse_186 ?_
                  refine lv_aload_n hx hb d_M_inverse_189 rfl (lv_at hl 4 rfl) ?_
                  refine sx_gv (sx_runS (As := [.ref (r 45), .ref (r 45), .ref (r 44), .ref a2]) (rest := []) EE (c_M_minus ((hS.a (mo_45 hM)).le (by decide)) (mow_45 hW) ((hS.a (mo_45 hM)).le (by decide)) ((hS.a (mo_44 hM)).le (by decide)) (hS.a f2)) w_M_192 rfl ⟨rfl, rfl⟩ ⟨Nat.le_of_ble_eq_true rfl, Nat.le_of_ble_eq_true rfl⟩ ⟨Nat.zero_le _, Nat.zero_le _⟩ hl.1 rfl (Nat.le_of_ble_eq_true rfl) d_M_inverse_190) hS (fun H locs hS => ?_)
                  refine lv_goto (tgt := 227) hx hb d_M_inverse_193 (by decide) ?_
                  exact jn227_21  _ _ _  hS (lv_sub hl [0, 1, 2, 3, 4] rfl)
              · skip
                refine lv_aload_n hx hb d_M_inverse_130 rfl (lv_at hl 1 rfl) ?_
                refine sx_get EE (hS.1.ob hE hM.1) rfl i_M 43 (by decide) rfl fl_M_132 rfl d_M_inverse_131 ?_
                refine sx_gv (sx_runS (As := [.ref (r 43)]) (rest := []) EE (c_M_halve (hS.a (mo_43 hM)) (mow_43 hW)) w_M_234 rfl ⟨rfl, rfl⟩ ⟨Nat.le_of_ble_eq_true rfl, Nat.le_of_ble_eq_true rfl⟩ ⟨Nat.zero_le _, Nat.zero_le _⟩ hl.1 rfl (Nat.le_of_ble_eq_true rfl) d_M_inverse_134) hS (fun H locs hS => ?_)
                refine lv_aload_n hx hb d_M_inverse_137 rfl (lv_at hl 1 rfl) ?_
                refine sx_get EE (hS.1.ob hE hM.1) rfl i_M 45 (by decide) rfl fl_M_138 rfl d_M_inverse_138 ?_
                refine lv_aload_n hx hb d_M_inverse_141 rfl (lv_at hl 4 rfl) ?_
                refine sx_gv (sx_runS (As := [.ref (r 45), .ref a2]) (rest := []) EE (c_M_half (hS.a (mo_45 hM)) (mow_45 hW) (hS.a f2)) w_M_238 rfl ⟨rfl, rfl⟩ ⟨Nat.le_of_ble_eq_true rfl, Nat.le_of_ble_eq_true rfl⟩ ⟨Nat.zero_le _, Nat.zero_le _⟩ hl.1 rfl (Nat.le_of_ble_eq_true rfl) d_M_inverse_142) hS (fun H locs hS => ?_)
                refine lv_goto (tgt := 227) hx hb d_M_inverse_145 (by decide) ?_
                exact jn227_21  _ _ _  hS (lv_sub hl [0, 1, 2, 3, 4] rfl)
            · skip
              refine lv_aload_n hx hb d_M_inverse_99 rfl (lv_at hl 1 rfl) ?_
              refine sx_get EE (hS.1.ob hE hM.1) rfl i_M 42 (by decide) rfl fl_M_129 rfl d_M_inverse_100 ?_
              refine sx_gv (sx_runS (As := [.ref (r 42)]) (rest := []) EE (c_M_halve (hS.a (mo_42 hM)) (mow_42 hW)) w_M_234 rfl ⟨rfl, rfl⟩ ⟨Nat.le_of_ble_eq_true rfl, Nat.le_of_ble_eq_true rfl⟩ ⟨Nat.zero_le _, Nat.zero_le _⟩ hl.1 rfl (Nat.le_of_ble_eq_true rfl) d_M_inverse_103) hS (fun H locs hS => ?_)
              refine lv_aload_n hx hb d_M_inverse_106 rfl (lv_at hl 1 rfl) ?_
              refine sx_get EE (hS.1.ob hE hM.1) rfl i_M 44 (by decide) rfl fl_M_135 rfl d_M_inverse_107 ?_
              refine lv_aload_n hx hb d_M_inverse_110 rfl (lv_at hl 4 rfl) ?_
              refine sx_gv (sx_runS (As := [.ref (r 44), .ref a2]) (rest := []) EE (c_M_half (hS.a (mo_44 hM)) (mow_44 hW) (hS.a f2)) w_M_238 rfl ⟨rfl, rfl⟩ ⟨Nat.le_of_ble_eq_true rfl, Nat.le_of_ble_eq_true rfl⟩ ⟨Nat.zero_le _, Nat.zero_le _⟩ hl.1 rfl (Nat.le_of_ble_eq_true rfl) d_M_inverse_111) hS (fun H locs hS => ?_)
              refine lv_goto (tgt := 227) hx hb d_M_inverse_114 (by decide) ?_
              exact jn227_21  _ _ _  hS (lv_sub hl [0, 1, 2, 3, 4] rfl)
  exact lp51 (1100) 0  _ _ _ (by omega)  hS (lv_sub hl [0, 1, 2, 3, 4] rfl)
abbrev rm_M_power : Room := { frames := 3, cells := 0, slots := 0, locals := 85 }
set_option maxHeartbeats 4000000 in
set_option maxRecDepth 100000 in
theorem c_M_power {l : Launch} {D : va_G} {g : ClassId → FieldType → Prop} {E : Nat → Prop} {H0 : Heap} {o : Nat} {r : Nat → Nat} {i : Nat → Int32} {a0 : Nat} {a1 : Nat} {a2 : Nat} (hM : mo_ D g H0 o r i) (hE : ¬ E o) (hW : ∀ q ∈ mo_wr, E (r q.1)) (f0 : sx_A g .long H0 a0 16) (o0 : E a0) (f1 : sx_A g .long H0 a1 16) (f2 : sx_A g .long H0 a2 16) : Met l y_M_power (.code y_M_power b_M_power 5 none :: G_) rm_M_power (sx_Pc [.ref o, .ref a0, .ref a1, .ref a2] H0 D g) (sx_Qv g E H0) 0 0 E := by
  refine sx_mv (own := R_M) (by decide) rfl rfl rfl (Nat.le_of_ble_eq_true rfl) ?_
  intro p e s m args below meth c Q ls EE hl hret
  obtain ⟨hx, hb, hml, hown, hts, hG, hK⟩ := id EE
  have hS : sx_S g E E H0 H0 [] := sx_S.rf
  have hl : lv_has ls 5 [(0, .ref o), (1, .ref a0), (2, .ref a1), (3, .ref a2)] := hl
  refine lv_aload_n hx hb d_M_power_0 rfl (lv_at hl 0 rfl) ?_
  refine sx_get EE (hS.1.ob hE hM.1) rfl i_M 28 (by decide) rfl fl_M_82 rfl d_M_power_1 ?_
  refine lv_iconst (v := nI 1) hx hb d_M_power_4 (by decide +kernel) ?_
  refine sx_gv (sx_runS (As := [.ref (r 28), .int (nI (1))]) (rest := []) EE (c_M_set (hS.a (mo_28 hM)) (mow_28 hW)) w_M_177 rfl ⟨rfl, rfl⟩ ⟨Nat.le_of_ble_eq_true rfl, Nat.le_of_ble_eq_true rfl⟩ ⟨Nat.zero_le _, Nat.zero_le _⟩ hl.1 rfl (Nat.le_of_ble_eq_true rfl) d_M_power_5) hS (fun H locs hS => ?_)
  refine lv_sipush (v := nI 255) hx hb d_M_power_8 (by decide +kernel) ?_
  refine lv_istore (lv' := [(4, .int (nI (255))), (0, .ref o), (1, .ref a0), (2, .ref a1), (3, .ref a2)]) hx hb d_M_power_11 hl (by decide) rfl (fun ls hl => ?_)
  have lp13 : ∀ (i1 : Nat) (xi1 : Int32) (H : Heap) (locs : List Loc) (ls : Array Slot), xi1 = nI i1 - 1 → i1 ≤ 255 + 1 → sx_S g E E H0 H locs → lv_has ls 5 [(4, .int xi1), (0, .ref o), (1, .ref a0), (2, .ref a1), (3, .ref a2)] → W p l e rm_M_power s m args below meth c H locs 0 0 Q (F0 m 13 ls []) := by
    intro i1
    induction i1 with
    | zero =>
      intro xi1  H locs ls ex hi  hS hl
      refine lv_iload hx hb d_M_power_13 (lv_at hl 0 rfl) ?_
      refine lv_if_lt (tgt := 79) hx hb d_M_power_15 (by decide) (fun _ => ?_) (fun q => absurd (by rw [ex]; decide +kernel) q)
      refine lv_aload_n hx hb d_M_power_79 rfl (lv_at hl 2 rfl) ?_
      refine lv_aload_n hx hb d_M_power_80 rfl (lv_at hl 1 rfl) ?_
      refine sx_get EE (hS.1.ob hE hM.1) rfl i_M 28 (by decide) rfl fl_M_82 rfl d_M_power_81 ?_
      refine sx_gv (sx_runS (As := [.ref a0, .ref (r 28)]) (rest := []) EE (c_M_copy (hS.a f0) o0 (hS.a (mo_28 hM))) w_M_207 rfl ⟨rfl, rfl⟩ ⟨Nat.le_of_ble_eq_true rfl, Nat.le_of_ble_eq_true rfl⟩ ⟨Nat.zero_le _, Nat.zero_le _⟩ hl.1 rfl (Nat.le_of_ble_eq_true rfl) d_M_power_84) hS (fun H locs hS => ?_)
      exact hret _ _ _ _ hS d_M_power_87
    | succ i1 ih13 =>
      intro xi1  H locs ls ex hi  hS hl
      rw [nI_pred] at ex
      subst ex
      refine lv_iload hx hb d_M_power_13 (lv_at hl 0 rfl) ?_
      refine lv_if_lt (tgt := 79) hx hb d_M_power_15 (by decide) (fun q => absurd q (nI_pos (by omega))) (fun _ => ?_)
      refine lv_aload_n hx hb d_M_power_18 rfl (lv_at hl 1 rfl) ?_
      refine lv_aload_n hx hb d_M_power_19 rfl (lv_at hl 1 rfl) ?_
      refine sx_get EE (hS.1.ob hE hM.1) rfl i_M 28 (by decide) rfl fl_M_82 rfl d_M_power_20 ?_
      refine lv_aload_n hx hb d_M_power_23 rfl (lv_at hl 1 rfl) ?_
      refine sx_get EE (hS.1.ob hE hM.1) rfl i_M 28 (by decide) rfl fl_M_82 rfl d_M_power_24 ?_
      refine lv_aload_n hx hb d_M_power_27 rfl (lv_at hl 1 rfl) ?_
      refine sx_get EE (hS.1.ob hE hM.1) rfl i_M 28 (by decide) rfl fl_M_82 rfl d_M_power_28 ?_
      refine lv_aload_n hx hb d_M_power_31 rfl (lv_at hl 1 rfl) ?_
      refine sx_get EE (hS.1.ob hE hM.1) rfl i_M 10 (by decide) rfl fl_M_27 rfl d_M_power_32 ?_
      refine lv_aload_n hx hb d_M_power_35 rfl (lv_at hl 1 rfl) ?_
      refine sx_get EE (hS.1.ob hE hM.1) rfl i_M 11 (by decide) rfl fl_M_31 rfl d_M_power_36 ?_
      refine sx_gv (sx_runV (As := [.ref (r 28), .ref (r 28), .ref (r 28), .ref (r 10), .ref (r 11)]) (rest := []) EE (hS.1.ob hE hM.1) rfl rfl (c_M_times (hM.kept hS.1 hE) hE hW (hS.a (mo_28 hM)) (mow_28 hW) (hS.a (mo_28 hM)) (hS.a (mo_28 hM)) (hS.a (mo_10 hM)) (hS.a (mo_11 hM))) w_M_188 rfl ⟨rfl, rfl⟩ ⟨Nat.le_of_ble_eq_true rfl, Nat.le_of_ble_eq_true rfl⟩ ⟨Nat.zero_le _, Nat.zero_le _⟩ hl.1 rfl (Nat.le_of_ble_eq_true rfl) d_M_power_39) hS (fun H locs hS => ?_)
      refine lv_aload_n hx hb d_M_power_42 rfl (lv_at hl 4 rfl) ?_
      refine lv_iload hx hb d_M_power_43 (lv_at hl 0 rfl) ?_
      refine sx_gi (sx_runS (As := [.ref a2, .int (nI (i1))]) (rest := []) EE (c_M_bit (hS.a f2) (by omega)) w_M_273 rfl ⟨rfl, rfl⟩ ⟨Nat.le_of_ble_eq_true rfl, Nat.le_of_ble_eq_true rfl⟩ ⟨Nat.zero_le _, Nat.zero_le _⟩ hl.1 rfl (Nat.le_of_ble_eq_true rfl) d_M_power_45) hS (fun x2 H locs hS => ?_)
      refine lv_iconst (v := nI 1) hx hb d_M_power_48 (by decide +kernel) ?_
      have jn73_2 : ∀ (H : Heap) (locs : List Loc) (ls : Array Slot), sx_S g E E H0 H locs → lv_has ls 5 [(4, .int (nI (i1))), (0, .ref o), (1, .ref a0), (2, .ref a1), (3, .ref a2)] → W p l e rm_M_power s m args below meth c H locs 0 0 Q (F0 m 73 ls []) := by
        intro  H locs ls  hS hl
        refine lv_iinc (v := nI i1 - 1) (lv' := [(4, .int (nI i1 - 1)), (0, .ref o), (1, .ref a0), (2, .ref a1), (3, .ref a2)]) hx hb d_M_power_73 hl (k := 0) rfl (sx_dn _) (by decide) rfl (fun ls hl => ?_)
        refine lv_goto (tgt := 13) hx hb d_M_power_76 (by decide) ?_
        exact ih13 _  _ _ _ rfl (by omega)  hS (lv_sub hl [0, 1, 2, 3, 4] rfl)
      refine lv_icmp_ne (tgt := 73) hx hb d_M_power_49 (by decide) (fun _ => ?_) (fun _ => ?_)
      · skip
        exact jn73_2  _ _ _  hS (lv_sub hl [0, 1, 2, 3, 4] rfl)
      · skip
        refine lv_aload_n hx hb d_M_power_52 rfl (lv_at hl 1 rfl) ?_
        refine lv_aload_n hx hb d_M_power_53 rfl (lv_at hl 1 rfl) ?_
        refine sx_get EE (hS.1.ob hE hM.1) rfl i_M 28 (by decide) rfl fl_M_82 rfl d_M_power_54 ?_
        refine lv_aload_n hx hb d_M_power_57 rfl (lv_at hl 1 rfl) ?_
        refine sx_get EE (hS.1.ob hE hM.1) rfl i_M 28 (by decide) rfl fl_M_82 rfl d_M_power_58 ?_
        refine lv_aload_n hx hb d_M_power_61 rfl (lv_at hl 3 rfl) ?_
        refine lv_aload_n hx hb d_M_power_62 rfl (lv_at hl 1 rfl) ?_
        refine sx_get EE (hS.1.ob hE hM.1) rfl i_M 10 (by decide) rfl fl_M_27 rfl d_M_power_63 ?_
        refine lv_aload_n hx hb d_M_power_66 rfl (lv_at hl 1 rfl) ?_
        refine sx_get EE (hS.1.ob hE hM.1) rfl i_M 11 (by decide) rfl fl_M_31 rfl d_M_power_67 ?_
        refine sx_gv (sx_runV (As := [.ref (r 28), .ref (r 28), .ref a1, .ref (r 10), .ref (r 11)]) (rest := []) EE (hS.1.ob hE hM.1) rfl rfl (c_M_times (hM.kept hS.1 hE) hE hW (hS.a (mo_28 hM)) (mow_28 hW) (hS.a (mo_28 hM)) (hS.a f1) (hS.a (mo_10 hM)) (hS.a (mo_11 hM))) w_M_188 rfl ⟨rfl, rfl⟩ ⟨Nat.le_of_ble_eq_true rfl, Nat.le_of_ble_eq_true rfl⟩ ⟨Nat.zero_le _, Nat.zero_le _⟩ hl.1 rfl (Nat.le_of_ble_eq_true rfl) d_M_power_70) hS (fun H locs hS => ?_)
        exact jn73_2  _ _ _  hS (lv_sub hl [0, 1, 2, 3, 4] rfl)
  exact lp13 256 _  _ _ _ (nI_pred _).symm (by omega)  hS (lv_sub hl [0, 1, 2, 3, 4] rfl)
end
section
theorem d_M_raise_0 : decode b_M_raise 0 = .ok (.iconst 0, 1) := by decide +kernel
theorem d_M_raise_1 : decode b_M_raise 1 = .ok (.istore 5, 2) := by decide +kernel
theorem d_M_raise_3 : decode b_M_raise 3 = .ok (.iload 5, 2) := by decide +kernel
theorem d_M_raise_5 : decode b_M_raise 5 = .ok (.bipush 8, 2) := by decide +kernel
theorem d_M_raise_7 : decode b_M_raise 7 = .ok (.if_icmp .ge 17, 3) := by decide +kernel
theorem d_M_raise_10 : decode b_M_raise 10 = .ok (.aload_n 0, 1) := by decide +kernel
theorem d_M_raise_11 : decode b_M_raise 11 = .ok (.getfield 156, 3) := by decide +kernel
theorem d_M_raise_14 : decode b_M_raise 14 = .ok (.iload 5, 2) := by decide +kernel
theorem d_M_raise_16 : decode b_M_raise 16 = .ok (.lconst 0, 1) := by decide +kernel
theorem d_M_raise_17 : decode b_M_raise 17 = .ok (.lastore, 1) := by decide +kernel
theorem d_M_raise_18 : decode b_M_raise 18 = .ok (.iinc 5 1, 3) := by decide +kernel
theorem d_M_raise_21 : decode b_M_raise 21 = .ok (.goto (-18), 3) := by decide +kernel
theorem d_M_raise_24 : decode b_M_raise 24 = .ok (.iconst 0, 1) := by decide +kernel
theorem d_M_raise_25 : decode b_M_raise 25 = .ok (.istore 5, 2) := by decide +kernel
theorem d_M_raise_27 : decode b_M_raise 27 = .ok (.iload 5, 2) := by decide +kernel
theorem d_M_raise_29 : decode b_M_raise 29 = .ok (.iconst 3, 1) := by decide +kernel
theorem d_M_raise_30 : decode b_M_raise 30 = .ok (.if_icmp .ge 109, 3) := by decide +kernel
theorem d_M_raise_33 : decode b_M_raise 33 = .ok (.iload 5, 2) := by decide +kernel
theorem d_M_raise_35 : decode b_M_raise 35 = .ok (.ifCond .ne 11, 3) := by decide +kernel
theorem d_M_raise_38 : decode b_M_raise 38 = .ok (.lload_n 3, 1) := by decide +kernel
theorem d_M_raise_39 : decode b_M_raise 39 = .ok (.ldc2_w 256, 3) := by decide +kernel
theorem d_M_raise_42 : decode b_M_raise 42 = .ok (.land, 1) := by decide +kernel
theorem d_M_raise_43 : decode b_M_raise 43 = .ok (.goto 17, 3) := by decide +kernel
theorem d_M_raise_46 : decode b_M_raise 46 = .ok (.iload 5, 2) := by decide +kernel
theorem d_M_raise_48 : decode b_M_raise 48 = .ok (.iconst 1, 1) := by decide +kernel
theorem d_M_raise_49 : decode b_M_raise 49 = .ok (.if_icmp .ne 10, 3) := by decide +kernel
theorem d_M_raise_52 : decode b_M_raise 52 = .ok (.lload_n 3, 1) := by decide +kernel
theorem d_M_raise_53 : decode b_M_raise 53 = .ok (.bipush 32, 2) := by decide +kernel
theorem d_M_raise_55 : decode b_M_raise 55 = .ok (.lushr, 1) := by decide +kernel
theorem d_M_raise_56 : decode b_M_raise 56 = .ok (.goto 4, 3) := by decide +kernel
theorem d_M_raise_59 : decode b_M_raise 59 = .ok (.lload_n 1, 1) := by decide +kernel
theorem d_M_raise_60 : decode b_M_raise 60 = .ok (.lstore 6, 2) := by decide +kernel
theorem d_M_raise_62 : decode b_M_raise 62 = .ok (.lconst 0, 1) := by decide +kernel
theorem d_M_raise_63 : decode b_M_raise 63 = .ok (.lstore 8, 2) := by decide +kernel
theorem d_M_raise_65 : decode b_M_raise 65 = .ok (.iconst 0, 1) := by decide +kernel
theorem d_M_raise_66 : decode b_M_raise 66 = .ok (.istore 10, 2) := by decide +kernel
theorem d_M_raise_68 : decode b_M_raise 68 = .ok (.iload 5, 2) := by decide +kernel
theorem d_M_raise_70 : decode b_M_raise 70 = .ok (.iload 10, 2) := by decide +kernel
theorem d_M_raise_72 : decode b_M_raise 72 = .ok (.iadd, 1) := by decide +kernel
theorem d_M_raise_73 : decode b_M_raise 73 = .ok (.bipush 8, 2) := by decide +kernel
theorem d_M_raise_75 : decode b_M_raise 75 = .ok (.if_icmp .ge 58, 3) := by decide +kernel
theorem d_M_raise_78 : decode b_M_raise 78 = .ok (.aload_n 0, 1) := by decide +kernel
theorem d_M_raise_79 : decode b_M_raise 79 = .ok (.getfield 156, 3) := by decide +kernel
theorem d_M_raise_82 : decode b_M_raise 82 = .ok (.iload 5, 2) := by decide +kernel
theorem d_M_raise_84 : decode b_M_raise 84 = .ok (.iload 10, 2) := by decide +kernel
theorem d_M_raise_86 : decode b_M_raise 86 = .ok (.iadd, 1) := by decide +kernel
theorem d_M_raise_87 : decode b_M_raise 87 = .ok (.laload, 1) := by decide +kernel
theorem d_M_raise_88 : decode b_M_raise 88 = .ok (.lload 6, 2) := by decide +kernel
theorem d_M_raise_90 : decode b_M_raise 90 = .ok (.aload_n 0, 1) := by decide +kernel
theorem d_M_raise_91 : decode b_M_raise 91 = .ok (.getfield 153, 3) := by decide +kernel
theorem d_M_raise_94 : decode b_M_raise 94 = .ok (.iload 10, 2) := by decide +kernel
theorem d_M_raise_96 : decode b_M_raise 96 = .ok (.laload, 1) := by decide +kernel
theorem d_M_raise_97 : decode b_M_raise 97 = .ok (.lmul, 1) := by decide +kernel
theorem d_M_raise_98 : decode b_M_raise 98 = .ok (.ladd, 1) := by decide +kernel
theorem d_M_raise_99 : decode b_M_raise 99 = .ok (.lload 8, 2) := by decide +kernel
theorem d_M_raise_101 : decode b_M_raise 101 = .ok (.ladd, 1) := by decide +kernel
theorem d_M_raise_102 : decode b_M_raise 102 = .ok (.lstore 11, 2) := by decide +kernel
theorem d_M_raise_104 : decode b_M_raise 104 = .ok (.aload_n 0, 1) := by decide +kernel
theorem d_M_raise_105 : decode b_M_raise 105 = .ok (.getfield 156, 3) := by decide +kernel
theorem d_M_raise_108 : decode b_M_raise 108 = .ok (.iload 5, 2) := by decide +kernel
theorem d_M_raise_110 : decode b_M_raise 110 = .ok (.iload 10, 2) := by decide +kernel
theorem d_M_raise_112 : decode b_M_raise 112 = .ok (.iadd, 1) := by decide +kernel
theorem d_M_raise_113 : decode b_M_raise 113 = .ok (.lload 11, 2) := by decide +kernel
theorem d_M_raise_115 : decode b_M_raise 115 = .ok (.ldc2_w 256, 3) := by decide +kernel
theorem d_M_raise_118 : decode b_M_raise 118 = .ok (.land, 1) := by decide +kernel
theorem d_M_raise_119 : decode b_M_raise 119 = .ok (.lastore, 1) := by decide +kernel
theorem d_M_raise_120 : decode b_M_raise 120 = .ok (.lload 11, 2) := by decide +kernel
theorem d_M_raise_122 : decode b_M_raise 122 = .ok (.bipush 32, 2) := by decide +kernel
theorem d_M_raise_124 : decode b_M_raise 124 = .ok (.lushr, 1) := by decide +kernel
theorem d_M_raise_125 : decode b_M_raise 125 = .ok (.lstore 8, 2) := by decide +kernel
theorem d_M_raise_127 : decode b_M_raise 127 = .ok (.iinc 10 1, 3) := by decide +kernel
theorem d_M_raise_130 : decode b_M_raise 130 = .ok (.goto (-62), 3) := by decide +kernel
theorem d_M_raise_133 : decode b_M_raise 133 = .ok (.iinc 5 1, 3) := by decide +kernel
theorem d_M_raise_136 : decode b_M_raise 136 = .ok (.goto (-109), 3) := by decide +kernel
theorem d_M_raise_139 : decode b_M_raise 139 = .ok (.iconst 0, 1) := by decide +kernel
theorem d_M_raise_140 : decode b_M_raise 140 = .ok (.istore 5, 2) := by decide +kernel
theorem d_M_raise_142 : decode b_M_raise 142 = .ok (.iload 5, 2) := by decide +kernel
theorem d_M_raise_144 : decode b_M_raise 144 = .ok (.bipush 8, 2) := by decide +kernel
theorem d_M_raise_146 : decode b_M_raise 146 = .ok (.if_icmp .ge 23, 3) := by decide +kernel
theorem d_M_raise_149 : decode b_M_raise 149 = .ok (.aload_n 0, 1) := by decide +kernel
theorem d_M_raise_150 : decode b_M_raise 150 = .ok (.getfield 153, 3) := by decide +kernel
theorem d_M_raise_153 : decode b_M_raise 153 = .ok (.iload 5, 2) := by decide +kernel
theorem d_M_raise_155 : decode b_M_raise 155 = .ok (.aload_n 0, 1) := by decide +kernel
theorem d_M_raise_156 : decode b_M_raise 156 = .ok (.getfield 156, 3) := by decide +kernel
theorem d_M_raise_159 : decode b_M_raise 159 = .ok (.iload 5, 2) := by decide +kernel
theorem d_M_raise_161 : decode b_M_raise 161 = .ok (.laload, 1) := by decide +kernel
theorem d_M_raise_162 : decode b_M_raise 162 = .ok (.lastore, 1) := by decide +kernel
theorem d_M_raise_163 : decode b_M_raise 163 = .ok (.iinc 5 1, 3) := by decide +kernel
theorem d_M_raise_166 : decode b_M_raise 166 = .ok (.goto (-24), 3) := by decide +kernel
theorem d_M_raise_169 : decode b_M_raise 169 = .ok (.return_, 1) := by decide +kernel
theorem d_M_fits_0 : decode b_M_fits 0 = .ok (.iconst 0, 1) := by decide +kernel
theorem d_M_fits_1 : decode b_M_fits 1 = .ok (.istore 7, 2) := by decide +kernel
theorem d_M_fits_3 : decode b_M_fits 3 = .ok (.iload 7, 2) := by decide +kernel
theorem d_M_fits_5 : decode b_M_fits 5 = .ok (.bipush 8, 2) := by decide +kernel
theorem d_M_fits_7 : decode b_M_fits 7 = .ok (.if_icmp .ge 26, 3) := by decide +kernel
theorem d_M_fits_10 : decode b_M_fits 10 = .ok (.aload_n 0, 1) := by decide +kernel
theorem d_M_fits_11 : decode b_M_fits 11 = .ok (.getfield 153, 3) := by decide +kernel
theorem d_M_fits_14 : decode b_M_fits 14 = .ok (.iload 7, 2) := by decide +kernel
theorem d_M_fits_16 : decode b_M_fits 16 = .ok (.iload 7, 2) := by decide +kernel
theorem d_M_fits_18 : decode b_M_fits 18 = .ok (.ifCond .ne 7, 3) := by decide +kernel
theorem d_M_fits_21 : decode b_M_fits 21 = .ok (.lconst 1, 1) := by decide +kernel
theorem d_M_fits_22 : decode b_M_fits 22 = .ok (.goto 4, 3) := by decide +kernel
theorem d_M_fits_25 : decode b_M_fits 25 = .ok (.lconst 0, 1) := by decide +kernel
theorem d_M_fits_26 : decode b_M_fits 26 = .ok (.lastore, 1) := by decide +kernel
theorem d_M_fits_27 : decode b_M_fits 27 = .ok (.iinc 7 1, 3) := by decide +kernel
theorem d_M_fits_30 : decode b_M_fits 30 = .ok (.goto (-27), 3) := by decide +kernel
theorem d_M_fits_33 : decode b_M_fits 33 = .ok (.iconst 0, 1) := by decide +kernel
theorem d_M_fits_34 : decode b_M_fits 34 = .ok (.istore 7, 2) := by decide +kernel
theorem d_M_fits_36 : decode b_M_fits 36 = .ok (.iload 7, 2) := by decide +kernel
theorem d_M_fits_38 : decode b_M_fits 38 = .ok (.iload 6, 2) := by decide +kernel
theorem d_M_fits_40 : decode b_M_fits 40 = .ok (.if_icmp .ge 15, 3) := by decide +kernel
theorem d_M_fits_43 : decode b_M_fits 43 = .ok (.aload_n 0, 1) := by decide +kernel
theorem d_M_fits_44 : decode b_M_fits 44 = .ok (.lload_n 1, 1) := by decide +kernel
theorem d_M_fits_45 : decode b_M_fits 45 = .ok (.lload_n 3, 1) := by decide +kernel
theorem d_M_fits_46 : decode b_M_fits 46 = .ok (.invokevirtual 252, 3) := by decide +kernel
theorem d_M_fits_49 : decode b_M_fits 49 = .ok (.iinc 7 1, 3) := by decide +kernel
theorem d_M_fits_52 : decode b_M_fits 52 = .ok (.goto (-16), 3) := by decide +kernel
theorem d_M_fits_55 : decode b_M_fits 55 = .ok (.lconst 0, 1) := by decide +kernel
theorem d_M_fits_56 : decode b_M_fits 56 = .ok (.lstore 7, 2) := by decide +kernel
theorem d_M_fits_58 : decode b_M_fits 58 = .ok (.bipush 7, 2) := by decide +kernel
theorem d_M_fits_60 : decode b_M_fits 60 = .ok (.istore 9, 2) := by decide +kernel
theorem d_M_fits_62 : decode b_M_fits 62 = .ok (.iload 9, 2) := by decide +kernel
theorem d_M_fits_64 : decode b_M_fits 64 = .ok (.iconst 2, 1) := by decide +kernel
theorem d_M_fits_65 : decode b_M_fits 65 = .ok (.iload 6, 2) := by decide +kernel
theorem d_M_fits_67 : decode b_M_fits 67 = .ok (.imul, 1) := by decide +kernel
theorem d_M_fits_68 : decode b_M_fits 68 = .ok (.if_icmp .lt 24, 3) := by decide +kernel
theorem d_M_fits_71 : decode b_M_fits 71 = .ok (.lload 7, 2) := by decide +kernel
theorem d_M_fits_73 : decode b_M_fits 73 = .ok (.bipush 32, 2) := by decide +kernel
theorem d_M_fits_75 : decode b_M_fits 75 = .ok (.lshl, 1) := by decide +kernel
theorem d_M_fits_76 : decode b_M_fits 76 = .ok (.aload_n 0, 1) := by decide +kernel
theorem d_M_fits_77 : decode b_M_fits 77 = .ok (.getfield 153, 3) := by decide +kernel
theorem d_M_fits_80 : decode b_M_fits 80 = .ok (.iload 9, 2) := by decide +kernel
theorem d_M_fits_82 : decode b_M_fits 82 = .ok (.laload, 1) := by decide +kernel
theorem d_M_fits_83 : decode b_M_fits 83 = .ok (.lor, 1) := by decide +kernel
theorem d_M_fits_84 : decode b_M_fits 84 = .ok (.lstore 7, 2) := by decide +kernel
theorem d_M_fits_86 : decode b_M_fits 86 = .ok (.iinc 9 (-1), 3) := by decide +kernel
theorem d_M_fits_89 : decode b_M_fits 89 = .ok (.goto (-27), 3) := by decide +kernel
theorem d_M_fits_92 : decode b_M_fits 92 = .ok (.lload 7, 2) := by decide +kernel
theorem d_M_fits_94 : decode b_M_fits 94 = .ok (.iload 5, 2) := by decide +kernel
theorem d_M_fits_96 : decode b_M_fits 96 = .ok (.i2l, 1) := by decide +kernel
theorem d_M_fits_97 : decode b_M_fits 97 = .ok (.lcmp, 1) := by decide +kernel
theorem d_M_fits_98 : decode b_M_fits 98 = .ok (.ifCond .eq 18, 3) := by decide +kernel
theorem d_M_fits_101 : decode b_M_fits 101 = .ok (.lload 7, 2) := by decide +kernel
theorem d_M_fits_103 : decode b_M_fits 103 = .ok (.iload 5, 2) := by decide +kernel
theorem d_M_fits_105 : decode b_M_fits 105 = .ok (.i2l, 1) := by decide +kernel
theorem d_M_fits_106 : decode b_M_fits 106 = .ok (.lcmp, 1) := by decide +kernel
theorem d_M_fits_107 : decode b_M_fits 107 = .ok (.ifCond .ge 7, 3) := by decide +kernel
theorem d_M_fits_110 : decode b_M_fits 110 = .ok (.iconst 1, 1) := by decide +kernel
theorem d_M_fits_111 : decode b_M_fits 111 = .ok (.goto 4, 3) := by decide +kernel
theorem d_M_fits_114 : decode b_M_fits 114 = .ok (.iconst 0, 1) := by decide +kernel
theorem d_M_fits_115 : decode b_M_fits 115 = .ok (.ireturn, 1) := by decide +kernel
theorem d_M_fits_116 : decode b_M_fits 116 = .ok (.iconst 0, 1) := by decide +kernel
theorem d_M_fits_117 : decode b_M_fits 117 = .ok (.istore 9, 2) := by decide +kernel
theorem d_M_fits_119 : decode b_M_fits 119 = .ok (.iload 9, 2) := by decide +kernel
theorem d_M_fits_121 : decode b_M_fits 121 = .ok (.iconst 2, 1) := by decide +kernel
theorem d_M_fits_122 : decode b_M_fits 122 = .ok (.iload 6, 2) := by decide +kernel
theorem d_M_fits_124 : decode b_M_fits 124 = .ok (.imul, 1) := by decide +kernel
theorem d_M_fits_125 : decode b_M_fits 125 = .ok (.if_icmp .ge 23, 3) := by decide +kernel
theorem d_M_fits_128 : decode b_M_fits 128 = .ok (.aload_n 0, 1) := by decide +kernel
theorem d_M_fits_129 : decode b_M_fits 129 = .ok (.getfield 153, 3) := by decide +kernel
theorem d_M_fits_132 : decode b_M_fits 132 = .ok (.iload 9, 2) := by decide +kernel
theorem d_M_fits_134 : decode b_M_fits 134 = .ok (.laload, 1) := by decide +kernel
theorem d_M_fits_135 : decode b_M_fits 135 = .ok (.lconst 0, 1) := by decide +kernel
theorem d_M_fits_136 : decode b_M_fits 136 = .ok (.lcmp, 1) := by decide +kernel
theorem d_M_fits_137 : decode b_M_fits 137 = .ok (.ifCond .eq 5, 3) := by decide +kernel
theorem d_M_fits_140 : decode b_M_fits 140 = .ok (.iconst 0, 1) := by decide +kernel
theorem d_M_fits_141 : decode b_M_fits 141 = .ok (.ireturn, 1) := by decide +kernel
theorem d_M_fits_142 : decode b_M_fits 142 = .ok (.iinc 9 1, 3) := by decide +kernel
theorem d_M_fits_145 : decode b_M_fits 145 = .ok (.goto (-26), 3) := by decide +kernel
theorem d_M_fits_148 : decode b_M_fits 148 = .ok (.iconst 1, 1) := by decide +kernel
theorem d_M_fits_149 : decode b_M_fits 149 = .ok (.ireturn, 1) := by decide +kernel
theorem d_M_root_0 : decode b_M_root 0 = .ok (.lconst 0, 1) := by decide +kernel
theorem d_M_root_1 : decode b_M_root 1 = .ok (.lstore_n 3, 1) := by decide +kernel
theorem d_M_root_2 : decode b_M_root 2 = .ok (.lconst 0, 1) := by decide +kernel
theorem d_M_root_3 : decode b_M_root 3 = .ok (.lstore 5, 2) := by decide +kernel
theorem d_M_root_5 : decode b_M_root 5 = .ok (.bipush 66, 2) := by decide +kernel
theorem d_M_root_7 : decode b_M_root 7 = .ok (.istore 7, 2) := by decide +kernel
theorem d_M_root_9 : decode b_M_root 9 = .ok (.iload 7, 2) := by decide +kernel
theorem d_M_root_11 : decode b_M_root 11 = .ok (.ifCond .lt 72, 3) := by decide +kernel
theorem d_M_root_14 : decode b_M_root 14 = .ok (.iload 7, 2) := by decide +kernel
theorem d_M_root_16 : decode b_M_root 16 = .ok (.bipush 63, 2) := by decide +kernel
theorem d_M_root_18 : decode b_M_root 18 = .ok (.if_icmp .le 15, 3) := by decide +kernel
theorem d_M_root_21 : decode b_M_root 21 = .ok (.lload_n 3, 1) := by decide +kernel
theorem d_M_root_22 : decode b_M_root 22 = .ok (.lconst 1, 1) := by decide +kernel
theorem d_M_root_23 : decode b_M_root 23 = .ok (.iload 7, 2) := by decide +kernel
theorem d_M_root_25 : decode b_M_root 25 = .ok (.bipush 64, 2) := by decide +kernel
theorem d_M_root_27 : decode b_M_root 27 = .ok (.isub, 1) := by decide +kernel
theorem d_M_root_28 : decode b_M_root 28 = .ok (.lshl, 1) := by decide +kernel
theorem d_M_root_29 : decode b_M_root 29 = .ok (.lor, 1) := by decide +kernel
theorem d_M_root_30 : decode b_M_root 30 = .ok (.goto 4, 3) := by decide +kernel
theorem d_M_root_33 : decode b_M_root 33 = .ok (.lload_n 3, 1) := by decide +kernel
theorem d_M_root_34 : decode b_M_root 34 = .ok (.lstore 8, 2) := by decide +kernel
theorem d_M_root_36 : decode b_M_root 36 = .ok (.iload 7, 2) := by decide +kernel
theorem d_M_root_38 : decode b_M_root 38 = .ok (.bipush 63, 2) := by decide +kernel
theorem d_M_root_40 : decode b_M_root 40 = .ok (.if_icmp .le 8, 3) := by decide +kernel
theorem d_M_root_43 : decode b_M_root 43 = .ok (.lload 5, 2) := by decide +kernel
theorem d_M_root_45 : decode b_M_root 45 = .ok (.goto 10, 3) := by decide +kernel
theorem d_M_root_48 : decode b_M_root 48 = .ok (.lload 5, 2) := by decide +kernel
theorem d_M_root_50 : decode b_M_root 50 = .ok (.lconst 1, 1) := by decide +kernel
theorem d_M_root_51 : decode b_M_root 51 = .ok (.iload 7, 2) := by decide +kernel
theorem d_M_root_53 : decode b_M_root 53 = .ok (.lshl, 1) := by decide +kernel
theorem d_M_root_54 : decode b_M_root 54 = .ok (.lor, 1) := by decide +kernel
theorem d_M_root_55 : decode b_M_root 55 = .ok (.lstore 10, 2) := by decide +kernel
theorem d_M_root_57 : decode b_M_root 57 = .ok (.aload_n 0, 1) := by decide +kernel
theorem d_M_root_58 : decode b_M_root 58 = .ok (.lload 8, 2) := by decide +kernel
theorem d_M_root_60 : decode b_M_root 60 = .ok (.lload 10, 2) := by decide +kernel
theorem d_M_root_62 : decode b_M_root 62 = .ok (.iload_n 1, 1) := by decide +kernel
theorem d_M_root_63 : decode b_M_root 63 = .ok (.iload_n 2, 1) := by decide +kernel
theorem d_M_root_64 : decode b_M_root 64 = .ok (.invokevirtual 248, 3) := by decide +kernel
theorem d_M_root_67 : decode b_M_root 67 = .ok (.ifCond .eq 10, 3) := by decide +kernel
theorem d_M_root_70 : decode b_M_root 70 = .ok (.lload 8, 2) := by decide +kernel
theorem d_M_root_72 : decode b_M_root 72 = .ok (.lstore_n 3, 1) := by decide +kernel
theorem d_M_root_73 : decode b_M_root 73 = .ok (.lload 10, 2) := by decide +kernel
theorem d_M_root_75 : decode b_M_root 75 = .ok (.lstore 5, 2) := by decide +kernel
theorem d_M_root_77 : decode b_M_root 77 = .ok (.iinc 7 (-1), 3) := by decide +kernel
theorem d_M_root_80 : decode b_M_root 80 = .ok (.goto (-71), 3) := by decide +kernel
theorem d_M_root_83 : decode b_M_root 83 = .ok (.lload 5, 2) := by decide +kernel
theorem d_M_root_85 : decode b_M_root 85 = .ok (.lreturn, 1) := by decide +kernel
theorem d_M_prime_0 : decode b_M_prime 0 = .ok (.iload_n 0, 1) := by decide +kernel
theorem d_M_prime_1 : decode b_M_prime 1 = .ok (.istore_n 1, 1) := by decide +kernel
theorem d_M_prime_2 : decode b_M_prime 2 = .ok (.iconst 0, 1) := by decide +kernel
theorem d_M_prime_3 : decode b_M_prime 3 = .ok (.istore_n 2, 1) := by decide +kernel
theorem d_M_prime_4 : decode b_M_prime 4 = .ok (.iload_n 2, 1) := by decide +kernel
theorem d_M_prime_5 : decode b_M_prime 5 = .ok (.ifCond .ne 34, 3) := by decide +kernel
theorem d_M_prime_8 : decode b_M_prime 8 = .ok (.iinc 1 1, 3) := by decide +kernel
theorem d_M_prime_11 : decode b_M_prime 11 = .ok (.iconst 1, 1) := by decide +kernel
theorem d_M_prime_12 : decode b_M_prime 12 = .ok (.istore_n 2, 1) := by decide +kernel
theorem d_M_prime_13 : decode b_M_prime 13 = .ok (.iconst 2, 1) := by decide +kernel
theorem d_M_prime_14 : decode b_M_prime 14 = .ok (.istore_n 3, 1) := by decide +kernel
theorem d_M_prime_15 : decode b_M_prime 15 = .ok (.iload_n 3, 1) := by decide +kernel
theorem d_M_prime_16 : decode b_M_prime 16 = .ok (.iload_n 3, 1) := by decide +kernel
theorem d_M_prime_17 : decode b_M_prime 17 = .ok (.imul, 1) := by decide +kernel
theorem d_M_prime_18 : decode b_M_prime 18 = .ok (.iload_n 1, 1) := by decide +kernel
theorem d_M_prime_19 : decode b_M_prime 19 = .ok (.if_icmp .gt 17, 3) := by decide +kernel
theorem d_M_prime_22 : decode b_M_prime 22 = .ok (.iload_n 1, 1) := by decide +kernel
theorem d_M_prime_23 : decode b_M_prime 23 = .ok (.iload_n 3, 1) := by decide +kernel
theorem d_M_prime_24 : decode b_M_prime 24 = .ok (.irem, 1) := by decide +kernel
theorem d_M_prime_25 : decode b_M_prime 25 = .ok (.ifCond .ne 5, 3) := by decide +kernel
theorem d_M_prime_28 : decode b_M_prime 28 = .ok (.iconst 0, 1) := by decide +kernel
theorem d_M_prime_29 : decode b_M_prime 29 = .ok (.istore_n 2, 1) := by decide +kernel
theorem d_M_prime_30 : decode b_M_prime 30 = .ok (.iinc 3 1, 3) := by decide +kernel
theorem d_M_prime_33 : decode b_M_prime 33 = .ok (.goto (-18), 3) := by decide +kernel
theorem d_M_prime_36 : decode b_M_prime 36 = .ok (.goto (-32), 3) := by decide +kernel
theorem d_M_prime_39 : decode b_M_prime 39 = .ok (.iload_n 1, 1) := by decide +kernel
theorem d_M_prime_40 : decode b_M_prime 40 = .ok (.ireturn, 1) := by decide +kernel
theorem d_M_constants_0 : decode b_M_constants 0 = .ok (.iconst 1, 1) := by decide +kernel
theorem d_M_constants_1 : decode b_M_constants 1 = .ok (.istore_n 1, 1) := by decide +kernel
theorem d_M_constants_2 : decode b_M_constants 2 = .ok (.iconst 0, 1) := by decide +kernel
theorem d_M_constants_3 : decode b_M_constants 3 = .ok (.istore_n 2, 1) := by decide +kernel
theorem d_M_constants_4 : decode b_M_constants 4 = .ok (.iload_n 2, 1) := by decide +kernel
theorem d_M_constants_5 : decode b_M_constants 5 = .ok (.bipush 80, 2) := by decide +kernel
theorem d_M_constants_7 : decode b_M_constants 7 = .ok (.if_icmp .ge 44, 3) := by decide +kernel
theorem d_M_constants_10 : decode b_M_constants 10 = .ok (.iload_n 1, 1) := by decide +kernel
theorem d_M_constants_11 : decode b_M_constants 11 = .ok (.invokestatic 241, 3) := by decide +kernel
theorem d_M_constants_14 : decode b_M_constants 14 = .ok (.istore_n 1, 1) := by decide +kernel
theorem d_M_constants_15 : decode b_M_constants 15 = .ok (.aload_n 0, 1) := by decide +kernel
theorem d_M_constants_16 : decode b_M_constants 16 = .ok (.getfield 141, 3) := by decide +kernel
theorem d_M_constants_19 : decode b_M_constants 19 = .ok (.iload_n 2, 1) := by decide +kernel
theorem d_M_constants_20 : decode b_M_constants 20 = .ok (.aload_n 0, 1) := by decide +kernel
theorem d_M_constants_21 : decode b_M_constants 21 = .ok (.iload_n 1, 1) := by decide +kernel
theorem d_M_constants_22 : decode b_M_constants 22 = .ok (.iconst 3, 1) := by decide +kernel
theorem d_M_constants_23 : decode b_M_constants 23 = .ok (.invokevirtual 245, 3) := by decide +kernel
theorem d_M_constants_26 : decode b_M_constants 26 = .ok (.lastore, 1) := by decide +kernel
theorem d_M_constants_27 : decode b_M_constants 27 = .ok (.iload_n 2, 1) := by decide +kernel
theorem d_M_constants_28 : decode b_M_constants 28 = .ok (.bipush 8, 2) := by decide +kernel
theorem d_M_constants_30 : decode b_M_constants 30 = .ok (.if_icmp .ge 15, 3) := by decide +kernel
theorem d_M_constants_33 : decode b_M_constants 33 = .ok (.aload_n 0, 1) := by decide +kernel
theorem d_M_constants_34 : decode b_M_constants 34 = .ok (.getfield 144, 3) := by decide +kernel
theorem d_M_constants_37 : decode b_M_constants 37 = .ok (.iload_n 2, 1) := by decide +kernel
theorem d_M_constants_38 : decode b_M_constants 38 = .ok (.aload_n 0, 1) := by decide +kernel
theorem d_M_constants_39 : decode b_M_constants 39 = .ok (.iload_n 1, 1) := by decide +kernel
theorem d_M_constants_40 : decode b_M_constants 40 = .ok (.iconst 2, 1) := by decide +kernel
theorem d_M_constants_41 : decode b_M_constants 41 = .ok (.invokevirtual 245, 3) := by decide +kernel
theorem d_M_constants_44 : decode b_M_constants 44 = .ok (.lastore, 1) := by decide +kernel
theorem d_M_constants_45 : decode b_M_constants 45 = .ok (.iinc 2 1, 3) := by decide +kernel
theorem d_M_constants_48 : decode b_M_constants 48 = .ok (.goto (-44), 3) := by decide +kernel
theorem d_M_constants_51 : decode b_M_constants 51 = .ok (.return_, 1) := by decide +kernel
theorem d_M_decode_0 : decode b_M_decode 0 = .ok (.iconst 0, 1) := by decide +kernel
theorem d_M_decode_1 : decode b_M_decode 1 = .ok (.istore_n 1, 1) := by decide +kernel
theorem d_M_decode_2 : decode b_M_decode 2 = .ok (.iload_n 1, 1) := by decide +kernel
theorem d_M_decode_3 : decode b_M_decode 3 = .ok (.bipush 16, 2) := by decide +kernel
theorem d_M_decode_5 : decode b_M_decode 5 = .ok (.if_icmp .ge 65, 3) := by decide +kernel
theorem d_M_decode_8 : decode b_M_decode 8 = .ok (.aload_n 0, 1) := by decide +kernel
theorem d_M_decode_9 : decode b_M_decode 9 = .ok (.getfield 61, 3) := by decide +kernel
theorem d_M_decode_12 : decode b_M_decode 12 = .ok (.iload_n 1, 1) := by decide +kernel
theorem d_M_decode_13 : decode b_M_decode 13 = .ok (.aload_n 0, 1) := by decide +kernel
theorem d_M_decode_14 : decode b_M_decode 14 = .ok (.getfield 103, 3) := by decide +kernel
theorem d_M_decode_17 : decode b_M_decode 17 = .ok (.iconst 2, 1) := by decide +kernel
theorem d_M_decode_18 : decode b_M_decode 18 = .ok (.iload_n 1, 1) := by decide +kernel
theorem d_M_decode_19 : decode b_M_decode 19 = .ok (.imul, 1) := by decide +kernel
theorem d_M_decode_20 : decode b_M_decode 20 = .ok (.baload, 1) := by decide +kernel
theorem d_M_decode_21 : decode b_M_decode 21 = .ok (.sipush 255, 3) := by decide +kernel
theorem d_M_decode_24 : decode b_M_decode 24 = .ok (.iand, 1) := by decide +kernel
theorem d_M_decode_25 : decode b_M_decode 25 = .ok (.iload_n 1, 1) := by decide +kernel
theorem d_M_decode_26 : decode b_M_decode 26 = .ok (.bipush 15, 2) := by decide +kernel
theorem d_M_decode_28 : decode b_M_decode 28 = .ok (.if_icmp .ne 16, 3) := by decide +kernel
theorem d_M_decode_31 : decode b_M_decode 31 = .ok (.aload_n 0, 1) := by decide +kernel
theorem d_M_decode_32 : decode b_M_decode 32 = .ok (.getfield 103, 3) := by decide +kernel
theorem d_M_decode_35 : decode b_M_decode 35 = .ok (.bipush 31, 2) := by decide +kernel
theorem d_M_decode_37 : decode b_M_decode 37 = .ok (.baload, 1) := by decide +kernel
theorem d_M_decode_38 : decode b_M_decode 38 = .ok (.bipush 127, 2) := by decide +kernel
theorem d_M_decode_40 : decode b_M_decode 40 = .ok (.iand, 1) := by decide +kernel
theorem d_M_decode_41 : decode b_M_decode 41 = .ok (.goto 17, 3) := by decide +kernel
theorem d_M_decode_44 : decode b_M_decode 44 = .ok (.aload_n 0, 1) := by decide +kernel
theorem d_M_decode_45 : decode b_M_decode 45 = .ok (.getfield 103, 3) := by decide +kernel
theorem d_M_decode_48 : decode b_M_decode 48 = .ok (.iconst 2, 1) := by decide +kernel
theorem d_M_decode_49 : decode b_M_decode 49 = .ok (.iload_n 1, 1) := by decide +kernel
theorem d_M_decode_50 : decode b_M_decode 50 = .ok (.imul, 1) := by decide +kernel
theorem d_M_decode_51 : decode b_M_decode 51 = .ok (.iconst 1, 1) := by decide +kernel
theorem d_M_decode_52 : decode b_M_decode 52 = .ok (.iadd, 1) := by decide +kernel
theorem d_M_decode_53 : decode b_M_decode 53 = .ok (.baload, 1) := by decide +kernel
theorem d_M_decode_54 : decode b_M_decode 54 = .ok (.sipush 255, 3) := by decide +kernel
theorem d_M_decode_57 : decode b_M_decode 57 = .ok (.iand, 1) := by decide +kernel
theorem d_M_decode_58 : decode b_M_decode 58 = .ok (.bipush 8, 2) := by decide +kernel
theorem d_M_decode_60 : decode b_M_decode 60 = .ok (.ishl, 1) := by decide +kernel
theorem d_M_decode_61 : decode b_M_decode 61 = .ok (.ior, 1) := by decide +kernel
theorem d_M_decode_62 : decode b_M_decode 62 = .ok (.i2l, 1) := by decide +kernel
theorem d_M_decode_63 : decode b_M_decode 63 = .ok (.lastore, 1) := by decide +kernel
theorem d_M_decode_64 : decode b_M_decode 64 = .ok (.iinc 1 1, 3) := by decide +kernel
theorem d_M_decode_67 : decode b_M_decode 67 = .ok (.goto (-65), 3) := by decide +kernel
theorem d_M_decode_70 : decode b_M_decode 70 = .ok (.aload_n 0, 1) := by decide +kernel
theorem d_M_decode_71 : decode b_M_decode 71 = .ok (.getfield 61, 3) := by decide +kernel
theorem d_M_decode_74 : decode b_M_decode 74 = .ok (.aload_n 0, 1) := by decide +kernel
theorem d_M_decode_75 : decode b_M_decode 75 = .ok (.getfield 27, 3) := by decide +kernel
theorem d_M_decode_78 : decode b_M_decode 78 = .ok (.invokestatic 215, 3) := by decide +kernel
theorem d_M_decode_81 : decode b_M_decode 81 = .ok (.ifCond .ne 5, 3) := by decide +kernel
theorem d_M_decode_84 : decode b_M_decode 84 = .ok (.iconst 0, 1) := by decide +kernel
theorem d_M_decode_85 : decode b_M_decode 85 = .ok (.ireturn, 1) := by decide +kernel
theorem d_M_decode_86 : decode b_M_decode 86 = .ok (.aload_n 0, 1) := by decide +kernel
theorem d_M_decode_87 : decode b_M_decode 87 = .ok (.aload_n 0, 1) := by decide +kernel
theorem d_M_decode_88 : decode b_M_decode 88 = .ok (.getfield 70, 3) := by decide +kernel
theorem d_M_decode_91 : decode b_M_decode 91 = .ok (.aload_n 0, 1) := by decide +kernel
theorem d_M_decode_92 : decode b_M_decode 92 = .ok (.getfield 61, 3) := by decide +kernel
theorem d_M_decode_95 : decode b_M_decode 95 = .ok (.aload_n 0, 1) := by decide +kernel
theorem d_M_decode_96 : decode b_M_decode 96 = .ok (.getfield 61, 3) := by decide +kernel
theorem d_M_decode_99 : decode b_M_decode 99 = .ok (.aload_n 0, 1) := by decide +kernel
theorem d_M_decode_100 : decode b_M_decode 100 = .ok (.getfield 27, 3) := by decide +kernel
theorem d_M_decode_103 : decode b_M_decode 103 = .ok (.aload_n 0, 1) := by decide +kernel
theorem d_M_decode_104 : decode b_M_decode 104 = .ok (.getfield 31, 3) := by decide +kernel
theorem d_M_decode_107 : decode b_M_decode 107 = .ok (.invokevirtual 188, 3) := by decide +kernel
theorem d_M_decode_110 : decode b_M_decode 110 = .ok (.aload_n 0, 1) := by decide +kernel
theorem d_M_decode_111 : decode b_M_decode 111 = .ok (.aload_n 0, 1) := by decide +kernel
theorem d_M_decode_112 : decode b_M_decode 112 = .ok (.getfield 73, 3) := by decide +kernel
theorem d_M_decode_115 : decode b_M_decode 115 = .ok (.aload_n 0, 1) := by decide +kernel
theorem d_M_decode_116 : decode b_M_decode 116 = .ok (.getfield 70, 3) := by decide +kernel
theorem d_M_decode_119 : decode b_M_decode 119 = .ok (.aload_n 0, 1) := by decide +kernel
theorem d_M_decode_120 : decode b_M_decode 120 = .ok (.getfield 40, 3) := by decide +kernel
theorem d_M_decode_123 : decode b_M_decode 123 = .ok (.aload_n 0, 1) := by decide +kernel
theorem d_M_decode_124 : decode b_M_decode 124 = .ok (.getfield 27, 3) := by decide +kernel
theorem d_M_decode_127 : decode b_M_decode 127 = .ok (.aload_n 0, 1) := by decide +kernel
theorem d_M_decode_128 : decode b_M_decode 128 = .ok (.getfield 31, 3) := by decide +kernel
theorem d_M_decode_131 : decode b_M_decode 131 = .ok (.invokevirtual 188, 3) := by decide +kernel
theorem d_M_decode_134 : decode b_M_decode 134 = .ok (.aload_n 0, 1) := by decide +kernel
theorem d_M_decode_135 : decode b_M_decode 135 = .ok (.getfield 70, 3) := by decide +kernel
theorem d_M_decode_138 : decode b_M_decode 138 = .ok (.aload_n 0, 1) := by decide +kernel
theorem d_M_decode_139 : decode b_M_decode 139 = .ok (.getfield 70, 3) := by decide +kernel
theorem d_M_decode_142 : decode b_M_decode 142 = .ok (.aload_n 0, 1) := by decide +kernel
theorem d_M_decode_143 : decode b_M_decode 143 = .ok (.getfield 88, 3) := by decide +kernel
theorem d_M_decode_146 : decode b_M_decode 146 = .ok (.aload_n 0, 1) := by decide +kernel
theorem d_M_decode_147 : decode b_M_decode 147 = .ok (.getfield 27, 3) := by decide +kernel
theorem d_M_decode_150 : decode b_M_decode 150 = .ok (.invokestatic 192, 3) := by decide +kernel
theorem d_M_decode_153 : decode b_M_decode 153 = .ok (.aload_n 0, 1) := by decide +kernel
theorem d_M_decode_154 : decode b_M_decode 154 = .ok (.getfield 73, 3) := by decide +kernel
theorem d_M_decode_157 : decode b_M_decode 157 = .ok (.aload_n 0, 1) := by decide +kernel
theorem d_M_decode_158 : decode b_M_decode 158 = .ok (.getfield 73, 3) := by decide +kernel
theorem d_M_decode_161 : decode b_M_decode 161 = .ok (.aload_n 0, 1) := by decide +kernel
theorem d_M_decode_162 : decode b_M_decode 162 = .ok (.getfield 88, 3) := by decide +kernel
theorem d_M_decode_165 : decode b_M_decode 165 = .ok (.aload_n 0, 1) := by decide +kernel
theorem d_M_decode_166 : decode b_M_decode 166 = .ok (.getfield 27, 3) := by decide +kernel
theorem d_M_decode_169 : decode b_M_decode 169 = .ok (.invokestatic 222, 3) := by decide +kernel
theorem d_M_decode_172 : decode b_M_decode 172 = .ok (.aload_n 0, 1) := by decide +kernel
theorem d_M_decode_173 : decode b_M_decode 173 = .ok (.aload_n 0, 1) := by decide +kernel
theorem d_M_decode_174 : decode b_M_decode 174 = .ok (.getfield 76, 3) := by decide +kernel
theorem d_M_decode_177 : decode b_M_decode 177 = .ok (.aload_n 0, 1) := by decide +kernel
theorem d_M_decode_178 : decode b_M_decode 178 = .ok (.getfield 73, 3) := by decide +kernel
theorem d_M_decode_181 : decode b_M_decode 181 = .ok (.aload_n 0, 1) := by decide +kernel
theorem d_M_decode_182 : decode b_M_decode 182 = .ok (.getfield 27, 3) := by decide +kernel
theorem d_M_decode_185 : decode b_M_decode 185 = .ok (.invokevirtual 185, 3) := by decide +kernel
theorem d_M_decode_188 : decode b_M_decode 188 = .ok (.aload_n 0, 1) := by decide +kernel
theorem d_M_decode_189 : decode b_M_decode 189 = .ok (.aload_n 0, 1) := by decide +kernel
theorem d_M_decode_190 : decode b_M_decode 190 = .ok (.getfield 70, 3) := by decide +kernel
theorem d_M_decode_193 : decode b_M_decode 193 = .ok (.aload_n 0, 1) := by decide +kernel
theorem d_M_decode_194 : decode b_M_decode 194 = .ok (.getfield 70, 3) := by decide +kernel
theorem d_M_decode_197 : decode b_M_decode 197 = .ok (.aload_n 0, 1) := by decide +kernel
theorem d_M_decode_198 : decode b_M_decode 198 = .ok (.getfield 76, 3) := by decide +kernel
theorem d_M_decode_201 : decode b_M_decode 201 = .ok (.aload_n 0, 1) := by decide +kernel
theorem d_M_decode_202 : decode b_M_decode 202 = .ok (.getfield 27, 3) := by decide +kernel
theorem d_M_decode_205 : decode b_M_decode 205 = .ok (.aload_n 0, 1) := by decide +kernel
theorem d_M_decode_206 : decode b_M_decode 206 = .ok (.getfield 31, 3) := by decide +kernel
theorem d_M_decode_209 : decode b_M_decode 209 = .ok (.invokevirtual 188, 3) := by decide +kernel
theorem d_M_decode_212 : decode b_M_decode 212 = .ok (.iconst 0, 1) := by decide +kernel
theorem d_M_decode_213 : decode b_M_decode 213 = .ok (.istore_n 1, 1) := by decide +kernel
theorem d_M_decode_214 : decode b_M_decode 214 = .ok (.iload_n 1, 1) := by decide +kernel
theorem d_M_decode_215 : decode b_M_decode 215 = .ok (.bipush 16, 2) := by decide +kernel
theorem d_M_decode_217 : decode b_M_decode 217 = .ok (.if_icmp .ge 40, 3) := by decide +kernel
theorem d_M_decode_220 : decode b_M_decode 220 = .ok (.aload_n 0, 1) := by decide +kernel
theorem d_M_decode_221 : decode b_M_decode 221 = .ok (.getfield 79, 3) := by decide +kernel
theorem d_M_decode_224 : decode b_M_decode 224 = .ok (.iload_n 1, 1) := by decide +kernel
theorem d_M_decode_225 : decode b_M_decode 225 = .ok (.iload_n 1, 1) := by decide +kernel
theorem d_M_decode_226 : decode b_M_decode 226 = .ok (.ifCond .ne 9, 3) := by decide +kernel
theorem d_M_decode_229 : decode b_M_decode 229 = .ok (.ldc2_w 277, 3) := by decide +kernel
theorem d_M_decode_232 : decode b_M_decode 232 = .ok (.goto 18, 3) := by decide +kernel
theorem d_M_decode_235 : decode b_M_decode 235 = .ok (.iload_n 1, 1) := by decide +kernel
theorem d_M_decode_236 : decode b_M_decode 236 = .ok (.bipush 15, 2) := by decide +kernel
theorem d_M_decode_238 : decode b_M_decode 238 = .ok (.if_icmp .ne 9, 3) := by decide +kernel
theorem d_M_decode_241 : decode b_M_decode 241 = .ok (.ldc2_w 279, 3) := by decide +kernel
theorem d_M_decode_244 : decode b_M_decode 244 = .ok (.goto 6, 3) := by decide +kernel
theorem d_M_decode_247 : decode b_M_decode 247 = .ok (.ldc2_w 169, 3) := by decide +kernel
theorem d_M_decode_250 : decode b_M_decode 250 = .ok (.lastore, 1) := by decide +kernel
theorem d_M_decode_251 : decode b_M_decode 251 = .ok (.iinc 1 1, 3) := by decide +kernel
theorem d_M_decode_254 : decode b_M_decode 254 = .ok (.goto (-40), 3) := by decide +kernel
theorem d_M_decode_257 : decode b_M_decode 257 = .ok (.aload_n 0, 1) := by decide +kernel
theorem d_M_decode_258 : decode b_M_decode 258 = .ok (.aload_n 0, 1) := by decide +kernel
theorem d_M_decode_259 : decode b_M_decode 259 = .ok (.getfield 58, 3) := by decide +kernel
theorem d_M_decode_262 : decode b_M_decode 262 = .ok (.aload_n 0, 1) := by decide +kernel
theorem d_M_decode_263 : decode b_M_decode 263 = .ok (.getfield 70, 3) := by decide +kernel
theorem d_M_decode_266 : decode b_M_decode 266 = .ok (.aload_n 0, 1) := by decide +kernel
theorem d_M_decode_267 : decode b_M_decode 267 = .ok (.getfield 79, 3) := by decide +kernel
theorem d_M_decode_270 : decode b_M_decode 270 = .ok (.invokevirtual 200, 3) := by decide +kernel
theorem d_M_decode_273 : decode b_M_decode 273 = .ok (.aload_n 0, 1) := by decide +kernel
theorem d_M_decode_274 : decode b_M_decode 274 = .ok (.aload_n 0, 1) := by decide +kernel
theorem d_M_decode_275 : decode b_M_decode 275 = .ok (.getfield 76, 3) := by decide +kernel
theorem d_M_decode_278 : decode b_M_decode 278 = .ok (.aload_n 0, 1) := by decide +kernel
theorem d_M_decode_279 : decode b_M_decode 279 = .ok (.getfield 58, 3) := by decide +kernel
theorem d_M_decode_282 : decode b_M_decode 282 = .ok (.aload_n 0, 1) := by decide +kernel
theorem d_M_decode_283 : decode b_M_decode 283 = .ok (.getfield 58, 3) := by decide +kernel
theorem d_M_decode_286 : decode b_M_decode 286 = .ok (.aload_n 0, 1) := by decide +kernel
theorem d_M_decode_287 : decode b_M_decode 287 = .ok (.getfield 27, 3) := by decide +kernel
theorem d_M_decode_290 : decode b_M_decode 290 = .ok (.aload_n 0, 1) := by decide +kernel
theorem d_M_decode_291 : decode b_M_decode 291 = .ok (.getfield 31, 3) := by decide +kernel
theorem d_M_decode_294 : decode b_M_decode 294 = .ok (.invokevirtual 188, 3) := by decide +kernel
theorem d_M_decode_297 : decode b_M_decode 297 = .ok (.aload_n 0, 1) := by decide +kernel
theorem d_M_decode_298 : decode b_M_decode 298 = .ok (.getfield 76, 3) := by decide +kernel
theorem d_M_decode_301 : decode b_M_decode 301 = .ok (.aload_n 0, 1) := by decide +kernel
theorem d_M_decode_302 : decode b_M_decode 302 = .ok (.getfield 70, 3) := by decide +kernel
theorem d_M_decode_305 : decode b_M_decode 305 = .ok (.invokestatic 281, 3) := by decide +kernel
theorem d_M_decode_308 : decode b_M_decode 308 = .ok (.ifCond .ne 27, 3) := by decide +kernel
theorem d_M_decode_311 : decode b_M_decode 311 = .ok (.aload_n 0, 1) := by decide +kernel
theorem d_M_decode_312 : decode b_M_decode 312 = .ok (.aload_n 0, 1) := by decide +kernel
theorem d_M_decode_313 : decode b_M_decode 313 = .ok (.getfield 58, 3) := by decide +kernel
theorem d_M_decode_316 : decode b_M_decode 316 = .ok (.aload_n 0, 1) := by decide +kernel
theorem d_M_decode_317 : decode b_M_decode 317 = .ok (.getfield 58, 3) := by decide +kernel
theorem d_M_decode_320 : decode b_M_decode 320 = .ok (.aload_n 0, 1) := by decide +kernel
theorem d_M_decode_321 : decode b_M_decode 321 = .ok (.getfield 43, 3) := by decide +kernel
theorem d_M_decode_324 : decode b_M_decode 324 = .ok (.aload_n 0, 1) := by decide +kernel
theorem d_M_decode_325 : decode b_M_decode 325 = .ok (.getfield 27, 3) := by decide +kernel
theorem d_M_decode_328 : decode b_M_decode 328 = .ok (.aload_n 0, 1) := by decide +kernel
theorem d_M_decode_329 : decode b_M_decode 329 = .ok (.getfield 31, 3) := by decide +kernel
theorem d_M_decode_332 : decode b_M_decode 332 = .ok (.invokevirtual 188, 3) := by decide +kernel
theorem d_M_decode_335 : decode b_M_decode 335 = .ok (.aload_n 0, 1) := by decide +kernel
theorem d_M_decode_336 : decode b_M_decode 336 = .ok (.aload_n 0, 1) := by decide +kernel
theorem d_M_decode_337 : decode b_M_decode 337 = .ok (.getfield 76, 3) := by decide +kernel
theorem d_M_decode_340 : decode b_M_decode 340 = .ok (.aload_n 0, 1) := by decide +kernel
theorem d_M_decode_341 : decode b_M_decode 341 = .ok (.getfield 58, 3) := by decide +kernel
theorem d_M_decode_344 : decode b_M_decode 344 = .ok (.aload_n 0, 1) := by decide +kernel
theorem d_M_decode_345 : decode b_M_decode 345 = .ok (.getfield 58, 3) := by decide +kernel
theorem d_M_decode_348 : decode b_M_decode 348 = .ok (.aload_n 0, 1) := by decide +kernel
theorem d_M_decode_349 : decode b_M_decode 349 = .ok (.getfield 27, 3) := by decide +kernel
theorem d_M_decode_352 : decode b_M_decode 352 = .ok (.aload_n 0, 1) := by decide +kernel
theorem d_M_decode_353 : decode b_M_decode 353 = .ok (.getfield 31, 3) := by decide +kernel
theorem d_M_decode_356 : decode b_M_decode 356 = .ok (.invokevirtual 188, 3) := by decide +kernel
theorem d_M_decode_359 : decode b_M_decode 359 = .ok (.aload_n 0, 1) := by decide +kernel
theorem d_M_decode_360 : decode b_M_decode 360 = .ok (.getfield 76, 3) := by decide +kernel
theorem d_M_decode_363 : decode b_M_decode 363 = .ok (.aload_n 0, 1) := by decide +kernel
theorem d_M_decode_364 : decode b_M_decode 364 = .ok (.getfield 70, 3) := by decide +kernel
theorem d_M_decode_367 : decode b_M_decode 367 = .ok (.invokestatic 281, 3) := by decide +kernel
theorem d_M_decode_370 : decode b_M_decode 370 = .ok (.ifCond .ne 5, 3) := by decide +kernel
theorem d_M_decode_373 : decode b_M_decode 373 = .ok (.iconst 0, 1) := by decide +kernel
theorem d_M_decode_374 : decode b_M_decode 374 = .ok (.ireturn, 1) := by decide +kernel
theorem d_M_decode_375 : decode b_M_decode 375 = .ok (.aload_n 0, 1) := by decide +kernel
theorem d_M_decode_376 : decode b_M_decode 376 = .ok (.getfield 103, 3) := by decide +kernel
theorem d_M_decode_379 : decode b_M_decode 379 = .ok (.bipush 31, 2) := by decide +kernel
theorem d_M_decode_381 : decode b_M_decode 381 = .ok (.baload, 1) := by decide +kernel
theorem d_M_decode_382 : decode b_M_decode 382 = .ok (.bipush 7, 2) := by decide +kernel
theorem d_M_decode_384 : decode b_M_decode 384 = .ok (.ishr, 1) := by decide +kernel
theorem d_M_decode_385 : decode b_M_decode 385 = .ok (.iconst 1, 1) := by decide +kernel
theorem d_M_decode_386 : decode b_M_decode 386 = .ok (.iand, 1) := by decide +kernel
theorem d_M_decode_387 : decode b_M_decode 387 = .ok (.istore_n 1, 1) := by decide +kernel
theorem d_M_decode_388 : decode b_M_decode 388 = .ok (.aload_n 0, 1) := by decide +kernel
theorem d_M_decode_389 : decode b_M_decode 389 = .ok (.getfield 58, 3) := by decide +kernel
theorem d_M_decode_392 : decode b_M_decode 392 = .ok (.invokestatic 228, 3) := by decide +kernel
theorem d_M_decode_395 : decode b_M_decode 395 = .ok (.ifCond .eq 10, 3) := by decide +kernel
theorem d_M_decode_398 : decode b_M_decode 398 = .ok (.iload_n 1, 1) := by decide +kernel
theorem d_M_decode_399 : decode b_M_decode 399 = .ok (.iconst 1, 1) := by decide +kernel
theorem d_M_decode_400 : decode b_M_decode 400 = .ok (.if_icmp .ne 5, 3) := by decide +kernel
theorem d_M_decode_403 : decode b_M_decode 403 = .ok (.iconst 0, 1) := by decide +kernel
theorem d_M_decode_404 : decode b_M_decode 404 = .ok (.ireturn, 1) := by decide +kernel
theorem d_M_decode_405 : decode b_M_decode 405 = .ok (.aload_n 0, 1) := by decide +kernel
theorem d_M_decode_406 : decode b_M_decode 406 = .ok (.getfield 58, 3) := by decide +kernel
theorem d_M_decode_409 : decode b_M_decode 409 = .ok (.iconst 0, 1) := by decide +kernel
theorem d_M_decode_410 : decode b_M_decode 410 = .ok (.laload, 1) := by decide +kernel
theorem d_M_decode_411 : decode b_M_decode 411 = .ok (.lconst 1, 1) := by decide +kernel
theorem d_M_decode_412 : decode b_M_decode 412 = .ok (.land, 1) := by decide +kernel
theorem d_M_decode_413 : decode b_M_decode 413 = .ok (.iload_n 1, 1) := by decide +kernel
theorem d_M_decode_414 : decode b_M_decode 414 = .ok (.i2l, 1) := by decide +kernel
theorem d_M_decode_415 : decode b_M_decode 415 = .ok (.lcmp, 1) := by decide +kernel
theorem d_M_decode_416 : decode b_M_decode 416 = .ok (.ifCond .eq 30, 3) := by decide +kernel
theorem d_M_decode_419 : decode b_M_decode 419 = .ok (.aload_n 0, 1) := by decide +kernel
theorem d_M_decode_420 : decode b_M_decode 420 = .ok (.getfield 76, 3) := by decide +kernel
theorem d_M_decode_423 : decode b_M_decode 423 = .ok (.iconst 0, 1) := by decide +kernel
theorem d_M_decode_424 : decode b_M_decode 424 = .ok (.invokestatic 177, 3) := by decide +kernel
theorem d_M_decode_427 : decode b_M_decode 427 = .ok (.aload_n 0, 1) := by decide +kernel
theorem d_M_decode_428 : decode b_M_decode 428 = .ok (.getfield 58, 3) := by decide +kernel
theorem d_M_decode_431 : decode b_M_decode 431 = .ok (.aload_n 0, 1) := by decide +kernel
theorem d_M_decode_432 : decode b_M_decode 432 = .ok (.getfield 76, 3) := by decide +kernel
theorem d_M_decode_435 : decode b_M_decode 435 = .ok (.aload_n 0, 1) := by decide +kernel
theorem d_M_decode_436 : decode b_M_decode 436 = .ok (.getfield 58, 3) := by decide +kernel
theorem d_M_decode_439 : decode b_M_decode 439 = .ok (.aload_n 0, 1) := by decide +kernel
theorem d_M_decode_440 : decode b_M_decode 440 = .ok (.getfield 27, 3) := by decide +kernel
theorem d_M_decode_443 : decode b_M_decode 443 = .ok (.invokestatic 192, 3) := by decide +kernel
theorem d_M_decode_446 : decode b_M_decode 446 = .ok (.iconst 1, 1) := by decide +kernel
theorem d_M_decode_447 : decode b_M_decode 447 = .ok (.ireturn, 1) := by decide +kernel
end
section
theorem fl_M_40 : Cond.fieldLink R_M 40 R_M "d" "[J" ∈ lw_tbl ∧ sx_okw (Cond.fieldLink R_M 40 R_M "d" "[J") = true := by decide +kernel
theorem fl_M_43 : Cond.fieldLink R_M 43 R_M "root" "[J" ∈ lw_tbl ∧ sx_okw (Cond.fieldLink R_M 43 R_M "root" "[J") = true := by decide +kernel
theorem fl_M_58 : Cond.fieldLink R_M 58 R_M "qx" "[J" ∈ lw_tbl ∧ sx_okw (Cond.fieldLink R_M 58 R_M "qx" "[J") = true := by decide +kernel
theorem fl_M_61 : Cond.fieldLink R_M 61 R_M "qy" "[J" ∈ lw_tbl ∧ sx_okw (Cond.fieldLink R_M 61 R_M "qy" "[J") = true := by decide +kernel
theorem fl_M_70 : Cond.fieldLink R_M 70 R_M "a" "[J" ∈ lw_tbl ∧ sx_okw (Cond.fieldLink R_M 70 R_M "a" "[J") = true := by decide +kernel
theorem fl_M_73 : Cond.fieldLink R_M 73 R_M "b" "[J" ∈ lw_tbl ∧ sx_okw (Cond.fieldLink R_M 73 R_M "b" "[J") = true := by decide +kernel
theorem fl_M_76 : Cond.fieldLink R_M 76 R_M "c" "[J" ∈ lw_tbl ∧ sx_okw (Cond.fieldLink R_M 76 R_M "c" "[J") = true := by decide +kernel
theorem fl_M_79 : Cond.fieldLink R_M 79 R_M "e" "[J" ∈ lw_tbl ∧ sx_okw (Cond.fieldLink R_M 79 R_M "e" "[J") = true := by decide +kernel
theorem fl_M_88 : Cond.fieldLink R_M 88 R_M "one" "[J" ∈ lw_tbl ∧ sx_okw (Cond.fieldLink R_M 88 R_M "one" "[J") = true := by decide +kernel
theorem fl_M_103 : Cond.fieldLink R_M 103 R_M "row" "[B" ∈ lw_tbl ∧ sx_okw (Cond.fieldLink R_M 103 R_M "row" "[B") = true := by decide +kernel
theorem fl_M_141 : Cond.fieldLink R_M 141 R_M "roots" "[J" ∈ lw_tbl ∧ sx_okw (Cond.fieldLink R_M 141 R_M "roots" "[J") = true := by decide +kernel
theorem fl_M_144 : Cond.fieldLink R_M 144 R_M "starts" "[J" ∈ lw_tbl ∧ sx_okw (Cond.fieldLink R_M 144 R_M "starts" "[J") = true := by decide +kernel
theorem fl_M_153 : Cond.fieldLink R_M 153 R_M "left" "[J" ∈ lw_tbl ∧ sx_okw (Cond.fieldLink R_M 153 R_M "left" "[J") = true := by decide +kernel
theorem fl_M_156 : Cond.fieldLink R_M 156 R_M "cube" "[J" ∈ lw_tbl ∧ sx_okw (Cond.fieldLink R_M 156 R_M "cube" "[J") = true := by decide +kernel
theorem w_M_185 : sx_w [.methodLink R_M 185 y_M_inverse, .instanceMethod y_M_inverse, .selects R_M y_M_inverse y_M_inverse, .initialized R_M, .code y_M_inverse b_M_inverse 5 none] y_M_inverse 3 := ⟨by decide +kernel, by decide +kernel⟩
theorem w_M_200 : sx_w [.methodLink R_M 200 y_M_power, .instanceMethod y_M_power, .selects R_M y_M_power y_M_power, .initialized R_M, .code y_M_power b_M_power 5 none] y_M_power 3 := ⟨by decide +kernel, by decide +kernel⟩
theorem w_M_241 : sx_w [.methodLink R_M 241 y_M_prime, .static y_M_prime, .initialized y_M_prime.cls, .code y_M_prime b_M_prime 4 (some .int)] y_M_prime 1 := ⟨by decide +kernel, by decide +kernel⟩
theorem w_M_245 : sx_w [.methodLink R_M 245 y_M_root, .instanceMethod y_M_root, .selects R_M y_M_root y_M_root, .initialized R_M, .code y_M_root b_M_root 12 (some .long)] y_M_root 2 := ⟨by decide +kernel, by decide +kernel⟩
theorem w_M_248 : sx_w [.methodLink R_M 248 y_M_fits, .instanceMethod y_M_fits, .selects R_M y_M_fits y_M_fits, .initialized R_M, .code y_M_fits b_M_fits 10 (some .boolean)] y_M_fits 4 := ⟨by decide +kernel, by decide +kernel⟩
theorem w_M_252 : sx_w [.methodLink R_M 252 y_M_raise, .instanceMethod y_M_raise, .selects R_M y_M_raise y_M_raise, .initialized R_M, .code y_M_raise b_M_raise 13 none] y_M_raise 2 := ⟨by decide +kernel, by decide +kernel⟩
theorem w_M_281 : sx_w [.methodLink R_M 281 y_M_alike, .static y_M_alike, .initialized y_M_alike.cls, .code y_M_alike b_M_alike 3 (some .boolean)] y_M_alike 2 := ⟨by decide +kernel, by decide +kernel⟩
end
section
/-! prime: the next prime is found, at the latest a prime that is known to lie ahead -/
def pl_ (k : Nat) : Nat := ([1, 2, 3, 5, 7, 11, 13, 17, 19, 23, 29, 31, 37, 41, 43, 47, 53, 59, 61, 67, 71, 73, 79, 83, 89, 97, 101, 103, 107, 109, 113, 127, 131, 137, 139, 149, 151, 157, 163, 167, 173, 179, 181, 191, 193, 197, 199, 211, 223, 227, 229, 233, 239, 241, 251, 257, 263, 269, 271, 277, 281, 283, 293, 307, 311, 313, 317, 331, 337, 347, 349, 353, 359, 367, 373, 379, 383, 389, 397, 401, 409] : List Nat).getD k 0
theorem pl_ok0 : ∀ k, k < 80 → pl_ k < pl_ (k + 1) ∧ pl_ (k + 1) ≤ 409 ∧ ∀ d, d < 21 → 2 ≤ d → d * d ≤ pl_ (k + 1) → pl_ (k + 1) % d ≠ 0 := by decide +kernel
theorem pl_ok (k : Nat) (hk : k < 80) : pl_ k < pl_ (k + 1) ∧ pl_ (k + 1) ≤ 409 ∧ ∀ d, 2 ≤ d → d * d ≤ pl_ (k + 1) → pl_ (k + 1) % d ≠ 0 := by
  obtain ⟨h1, h2, h3⟩ := pl_ok0 k hk
  refine ⟨h1, h2, fun d hd hdd => h3 d ?_ hd hdd⟩
  rcases Nat.lt_or_ge d 21 with h | h
  · exact h
  · have := Nat.mul_le_mul h h
    omega
abbrev rm_M_prime : Room := { frames := 0, cells := 0, slots := 0, locals := 0 }
set_option maxHeartbeats 4000000 in
set_option maxRecDepth 100000 in
theorem c_M_prime {l : Launch} {D : va_G} {g : ClassId → FieldType → Prop} {E : Nat → Prop} {H0 : Heap} {v0 q : Nat} (h0 : v0 < q) (hq : q ≤ 409) (hp : ∀ d, 2 ≤ d → d * d ≤ q → q % d ≠ 0) : Met l y_M_prime (.code y_M_prime b_M_prime 4 (some .int) :: G_) rm_M_prime (sx_Pc [.int (nI v0)] H0 D g) (sx_Qn g E H0 (fun z => z ≤ q)) 0 0 E := by
  refine sx_mn (own := R_M) (by decide) rfl rfl rfl (Nat.le_of_ble_eq_true rfl) ?_
  intro p e s m args below meth c Q ls EE hl hret
  obtain ⟨hx, hb, hml, hown, hts, hG, hK⟩ := id EE
  have hS : sx_S g E E H0 H0 [] := sx_S.rf
  have hl : lv_has ls 4 [(0, .int (nI v0))] := hl
  have outer : ∀ (k x f : Nat) (ls : Array Slot), x ≤ q → q < x + k → f ≤ 1 → (f = 0 → x < q) → lv_has ls 4 [(2, .int (nI f)), (1, .int (nI x))] → W p l e rm_M_prime s m args below meth c H0 [] 0 0 Q (F0 m 4 ls []) := by
    intro k
    induction k with
    | zero =>
      intro x f ls h1 h2
      exact absurd h2 (by omega)
    | succ k ih =>
      intro x f ls h1 h2 h3 h4 hl
      refine lv_iload_n hx hb d_M_prime_4 rfl (lv_at hl 0 rfl) ?_
      refine lv_if_ne (tgt := 39) hx hb d_M_prime_5 (by decide) (fun q5 => ?_) (fun q5 => ?_)
      · refine lv_iload_n hx hb d_M_prime_39 rfl (lv_at hl 1 rfl) ?_
        exact hret _ _ _ _ x h1 hS d_M_prime_40
      · have q5 : f = 0 := (nI_eq (a := f) (b := 0) (by omega) (by omega)).mp q5
        have hxq := h4 q5
        refine lv_iinc (v := nI (x + 1)) (lv' := [(1, .int (nI (x + 1))), (2, .int (nI f))]) hx hb d_M_prime_8 hl (k := 1) rfl (sx_inc _ _) (by decide) rfl (fun ls hl => ?_)
        refine lv_iconst (v := nI 1) hx hb d_M_prime_11 (by decide +kernel) ?_
        refine lv_istore_n (lv' := [(2, .int (nI 1)), (1, .int (nI (x + 1)))]) hx hb d_M_prime_12 rfl hl (by decide) rfl (fun ls hl => ?_)
        refine lv_iconst (v := nI 2) hx hb d_M_prime_13 (by decide +kernel) ?_
        refine lv_istore_n (lv' := [(3, .int (nI 2)), (2, .int (nI 1)), (1, .int (nI (x + 1)))]) hx hb d_M_prime_14 rfl hl (by decide) rfl (fun ls hl => ?_)
        have inner : ∀ (j d f : Nat) (ls : Array Slot), 2 ≤ d → d ≤ 30 → 30 < d + j → f ≤ 1 → (x + 1 = q → f = 1) → lv_has ls 4 [(3, .int (nI d)), (2, .int (nI f)), (1, .int (nI (x + 1)))] → W p l e rm_M_prime s m args below meth c H0 [] 0 0 Q (F0 m 15 ls []) := by
          intro j
          induction j with
          | zero =>
            intro d f ls g1 g2 g3
            exact absurd g3 (by omega)
          | succ j ihj =>
            intro d f ls g1 g2 g3 g4 g5 hl
            have hdd : d * d ≤ 900 := Nat.mul_le_mul g2 g2
            refine lv_iload_n hx hb d_M_prime_15 rfl (lv_at hl 0 rfl) ?_
            refine lv_iload_n hx hb d_M_prime_16 rfl (lv_at hl 0 rfl) ?_
            refine lv_imul hx hb d_M_prime_17 ?_
            refine sx_ti (y := nI (d * d)) (pk_mul _ _) ?_
            refine lv_iload_n hx hb d_M_prime_18 rfl (lv_at hl 2 rfl) ?_
            generalize hw : d * d = w at *
            refine lv_icmp_gt (tgt := 36) hx hb d_M_prime_19 (by decide) (fun q19 => ?_) (fun q19 => ?_)
            · refine lv_goto (tgt := 4) hx hb d_M_prime_36 (by decide) ?_
              exact ih (x + 1) f ls (by omega) (by omega) g4 (fun hf => by
                rcases Nat.lt_or_ge (x + 1) q with h | h
                · exact h
                · have := g5 (by omega)
                  omega) (lv_sub hl [1, 2] rfl)
            · have q19 : ¬ (x + 1 < w) := fun z => q19 ((nI_ltI (a := x + 1) (b := w) (by omega) (by omega)).mpr z)
              have hd20 : d ≤ 20 := by
                rcases Nat.lt_or_ge 20 d with h | h
                · have := Nat.mul_le_mul (show 21 ≤ d from h) (show 21 ≤ d from h)
                  omega
                · exact h
              refine lv_iload_n hx hb d_M_prime_22 rfl (lv_at hl 2 rfl) ?_
              refine lv_iload_n hx hb d_M_prime_23 rfl (lv_at hl 0 rfl) ?_
              refine lv_irem hx hb d_M_prime_24 (nI_ne0 (by omega) (by omega)) ?_
              refine sx_ti (y := nI ((x + 1) % d)) (pk_rem (by omega) (by omega) (by omega)) ?_
              have hlt : (x + 1) % d < d := Nat.mod_lt _ (by omega)
              refine lv_if_ne (tgt := 30) hx hb d_M_prime_25 (by decide) (fun q25 => ?_) (fun q25 => ?_)
              · refine lv_iinc (v := nI (d + 1)) (lv' := [(3, .int (nI (d + 1))), (2, .int (nI f)), (1, .int (nI (x + 1)))]) hx hb d_M_prime_30 hl (k := 0) rfl (sx_inc _ _) (by decide) rfl (fun ls hl => ?_)
                refine lv_goto (tgt := 15) hx hb d_M_prime_33 (by decide) ?_
                exact ihj (d + 1) f ls (by omega) (by omega) (by omega) g4 g5 hl
              · have q25 : (x + 1) % d = 0 := (nI_eq (a := (x + 1) % d) (b := 0) (by omega) (by omega)).mp q25
                refine lv_iconst (v := nI 0) hx hb d_M_prime_28 (by decide +kernel) ?_
                refine lv_istore_n (lv' := [(2, .int (nI 0)), (3, .int (nI d)), (1, .int (nI (x + 1)))]) hx hb d_M_prime_29 rfl hl (by decide) rfl (fun ls hl => ?_)
                refine lv_iinc (v := nI (d + 1)) (lv' := [(3, .int (nI (d + 1))), (2, .int (nI 0)), (1, .int (nI (x + 1)))]) hx hb d_M_prime_30 hl (k := 1) rfl (sx_inc _ _) (by decide) rfl (fun ls hl => ?_)
                refine lv_goto (tgt := 15) hx hb d_M_prime_33 (by decide) ?_
                exact ihj (d + 1) 0 ls (by omega) (by omega) (by omega) (by omega) (fun hz => by
                  rw [hz] at q25
                  exact absurd q25 (hp d g1 (by omega))) hl
        exact inner 29 2 1 ls (by omega) (by omega) (by omega) (by omega) (fun _ => rfl) (lv_sub hl [0, 1, 2] rfl)
  refine lv_iload_n hx hb d_M_prime_0 rfl (lv_at hl 0 rfl) ?_
  refine lv_istore_n (lv' := [(1, .int (nI v0)), (0, .int (nI v0))]) hx hb d_M_prime_1 rfl hl (by decide) rfl (fun ls hl => ?_)
  refine lv_iconst (v := nI 0) hx hb d_M_prime_2 (by decide +kernel) ?_
  refine lv_istore_n (lv' := [(2, .int (nI 0)), (1, .int (nI v0)), (0, .int (nI v0))]) hx hb d_M_prime_3 rfl hl (by decide) rfl (fun ls hl => ?_)
  exact outer (q + 1) v0 0 ls (by omega) (by omega) (by omega) (fun _ => h0) (lv_sub hl [0, 1] rfl)
abbrev rm_M_raise : Room := { frames := 0, cells := 0, slots := 0, locals := 0 }
set_option maxHeartbeats 4000000 in
set_option maxRecDepth 100000 in
theorem c_M_raise {l : Launch} {D : va_G} {g : ClassId → FieldType → Prop} {E : Nat → Prop} {H0 : Heap} {o : Nat} {r : Nat → Nat} {i : Nat → Int32} {v0 : Int64} {v1 : Int64} (hM : mo_ D g H0 o r i) (hE : ¬ E o) (hW : ∀ q ∈ mo_wr, E (r q.1)) : Met l y_M_raise (.code y_M_raise b_M_raise 13 none :: G_) rm_M_raise (sx_Pc [.ref o, .long v0, .long v1] H0 D g) (sx_Qv g E H0) 0 0 E := by
  refine sx_mv (own := R_M) (by decide) rfl rfl rfl (Nat.le_of_ble_eq_true rfl) ?_
  intro p e s m args below meth c Q ls EE hl hret
  obtain ⟨hx, hb, hml, hown, hts, hG, hK⟩ := id EE
  have hS : sx_S g E E H0 H0 [] := sx_S.rf
  have hl : lv_has ls 13 [(0, .ref o), (1, .long v0), (3, .long v1)] := hl
  refine lv_iconst (v := nI 0) hx hb d_M_raise_0 (by decide +kernel) ?_
  refine lv_istore (lv' := [(5, .int (nI (0))), (0, .ref o), (1, .long v0), (3, .long v1)]) hx hb d_M_raise_1 hl (by decide) rfl (fun ls hl => ?_)
  have lp3 : ∀ (k i1 : Nat) (H : Heap) (locs : List Loc) (ls : Array Slot), i1 + k = 8 → sx_S g E E H0 H locs → lv_has ls 13 [(5, .int (nI (i1))), (0, .ref o), (1, .long v0), (3, .long v1)] → W p l e rm_M_raise s m args below meth c H locs 0 0 Q (F0 m 3 ls []) := by
    intro k
    induction k with
    | zero =>
      intro i1  H locs ls hi  hS hl
      refine lv_iload hx hb d_M_raise_3 (lv_at hl 0 rfl) ?_
      refine lv_bipush (v := nI 8) hx hb d_M_raise_5 (by decide +kernel) ?_
      refine lv_icmp_ge (tgt := 24) hx hb d_M_raise_7 (by decide) (fun _ => ?_) (fun q => absurd (nI_le (by omega) (by omega)) q)
      refine lv_iconst (v := nI 0) hx hb d_M_raise_24 (by decide +kernel) ?_
      refine lv_istore (lv' := [(5, .int (nI (0))), (0, .ref o), (1, .long v0), (3, .long v1)]) hx hb d_M_raise_25 hl (by decide) rfl (fun ls hl => ?_)
      have lp27 : ∀ (k i2 : Nat) (H : Heap) (locs : List Loc) (ls : Array Slot), i2 + k = 3 → sx_S g E E H0 H locs → lv_has ls 13 [(5, .int (nI (i2))), (0, .ref o), (1, .long v0), (3, .long v1)] → W p l e rm_M_raise s m args below meth c H locs 0 0 Q (F0 m 27 ls []) := by
        intro k
        induction k with
        | zero =>
          intro i2  H locs ls hi  hS hl
          refine lv_iload hx hb d_M_raise_27 (lv_at hl 0 rfl) ?_
          refine lv_iconst (v := nI 3) hx hb d_M_raise_29 (by decide +kernel) ?_
          refine lv_icmp_ge (tgt := 139) hx hb d_M_raise_30 (by decide) (fun _ => ?_) (fun q => absurd (nI_le (by omega) (by omega)) q)
          refine lv_iconst (v := nI 0) hx hb d_M_raise_139 (by decide +kernel) ?_
          refine lv_istore (lv' := [(5, .int (nI (0))), (0, .ref o), (1, .long v0), (3, .long v1)]) hx hb d_M_raise_140 hl (by decide) rfl (fun ls hl => ?_)
          have lp142 : ∀ (k i3 : Nat) (H : Heap) (locs : List Loc) (ls : Array Slot), i3 + k = 8 → sx_S g E E H0 H locs → lv_has ls 13 [(5, .int (nI (i3))), (0, .ref o), (1, .long v0), (3, .long v1)] → W p l e rm_M_raise s m args below meth c H locs 0 0 Q (F0 m 142 ls []) := by
            intro k
            induction k with
            | zero =>
              intro i3  H locs ls hi  hS hl
              refine lv_iload hx hb d_M_raise_142 (lv_at hl 0 rfl) ?_
              refine lv_bipush (v := nI 8) hx hb d_M_raise_144 (by decide +kernel) ?_
              refine lv_icmp_ge (tgt := 169) hx hb d_M_raise_146 (by decide) (fun _ => ?_) (fun q => absurd (nI_le (by omega) (by omega)) q)
              exact hret _ _ _ _ hS d_M_raise_169
            | succ k ih142 =>
              intro i3  H locs ls hi  hS hl
              refine lv_iload hx hb d_M_raise_142 (lv_at hl 0 rfl) ?_
              refine lv_bipush (v := nI 8) hx hb d_M_raise_144 (by decide +kernel) ?_
              refine lv_icmp_ge (tgt := 169) hx hb d_M_raise_146 (by decide) (fun q => absurd q (nI_ge (by omega) (by omega))) (fun _ => ?_)
              refine lv_aload_n hx hb d_M_raise_149 rfl (lv_at hl 1 rfl) ?_
              refine sx_get EE (hS.1.ob hE hM.1) rfl i_M 50 (by decide) rfl fl_M_153 rfl d_M_raise_150 ?_
              refine lv_iload hx hb d_M_raise_153 (lv_at hl 0 rfl) ?_
              refine lv_aload_n hx hb d_M_raise_155 rfl (lv_at hl 1 rfl) ?_
              refine sx_get EE (hS.1.ob hE hM.1) rfl i_M 51 (by decide) rfl fl_M_156 rfl d_M_raise_156 ?_
              refine lv_iload hx hb d_M_raise_159 (lv_at hl 0 rfl) ?_
              refine sx_lald hx hb hG hS (mo_51 hM) (sx_in (by omega) (by decide)) d_M_raise_161 (fun z4 => ?_)
              refine sx_last hx hb hG hS (mo_50 hM) (mow_50 hW) (sx_in (by omega) (by decide)) d_M_raise_162 (fun H locs hS => ?_)
              refine lv_iinc (v := nI (i3 + 1)) (lv' := [(5, .int (nI (i3 + 1))), (0, .ref o), (1, .long v0), (3, .long v1)]) hx hb d_M_raise_163 hl (k := 0) rfl (sx_inc _ _) (by decide) rfl (fun ls hl => ?_)
              refine lv_goto (tgt := 142) hx hb d_M_raise_166 (by decide) ?_
              exact ih142 (i3 + 1)  _ _ _ (by omega)  hS (lv_sub hl [0, 1, 2, 3] rfl)
          exact lp142 (8) 0  _ _ _ (by omega)  hS (lv_sub hl [0, 1, 2, 3] rfl)
        | succ k ih27 =>
          intro i2  H locs ls hi  hS hl
          refine lv_iload hx hb d_M_raise_27 (lv_at hl 0 rfl) ?_
          refine lv_iconst (v := nI 3) hx hb d_M_raise_29 (by decide +kernel) ?_
          refine lv_icmp_ge (tgt := 139) hx hb d_M_raise_30 (by decide) (fun q => absurd q (nI_ge (by omega) (by omega))) (fun _ => ?_)
          refine lv_iload hx hb d_M_raise_33 (lv_at hl 0 rfl) ?_
          have jn60_7 : ∀ (w7 : Int64) (H : Heap) (locs : List Loc) (ls : Array Slot), sx_S g E E H0 H locs → lv_has ls 13 [(5, .int (nI (i2))), (0, .ref o), (1, .long v0), (3, .long v1)] → W p l e rm_M_raise s m args below meth c H locs 0 0 Q (F0 m 60 ls [.long w7]) := by
            intro w7 H locs ls  hS hl
            refine lv_lstore (lv' := [(6, .long w7), (5, .int (nI (i2))), (0, .ref o), (1, .long v0), (3, .long v1)]) hx hb d_M_raise_60 hl (by decide) rfl (fun ls hl => ?_)
            refine lv_lconst (v := 0) hx hb d_M_raise_62 (by decide +kernel) ?_
            refine lv_lstore (lv' := [(8, .long 0), (6, .long w7), (5, .int (nI (i2))), (0, .ref o), (1, .long v0), (3, .long v1)]) hx hb d_M_raise_63 hl (by decide) rfl (fun ls hl => ?_)
            refine lv_iconst (v := nI 0) hx hb d_M_raise_65 (by decide +kernel) ?_
            refine lv_istore (lv' := [(10, .int (nI (0))), (8, .long 0), (6, .long w7), (5, .int (nI (i2))), (0, .ref o), (1, .long v0), (3, .long v1)]) hx hb d_M_raise_66 hl (by decide) rfl (fun ls hl => ?_)
            have lp68 : ∀ (k i10 : Nat) (w9 : Int64) (H : Heap) (locs : List Loc) (ls : Array Slot), i10 ≤ 8 → 8 - i10 < k → sx_S g E E H0 H locs → lv_has ls 13 [(10, .int (nI (i10))), (8, .long w9), (6, .long w7), (5, .int (nI (i2))), (0, .ref o), (1, .long v0), (3, .long v1)] → W p l e rm_M_raise s m args below meth c H locs 0 0 Q (F0 m 68 ls []) := by
              intro k
              induction k with
              | zero =>
                intro i10 w9 H locs ls hi hk
                exact absurd hk (Nat.not_lt_zero _)
              | succ k ih68 =>
                intro i10 w9 H locs ls hi hk  hS hl
                refine lv_iload hx hb d_M_raise_68 (lv_at hl 3 rfl) ?_
                refine lv_iload hx hb d_M_raise_70 (lv_at hl 0 rfl) ?_
                refine lv_iadd hx hb d_M_raise_72 ?_
                refine sx_ti (y := nI (i2 + i10)) (nI_add _ _) ?_
                refine lv_bipush (v := nI 8) hx hb d_M_raise_73 (by decide +kernel) ?_
                refine lv_icmp_ge (tgt := 133) hx hb d_M_raise_75 (by decide) (fun q75 => ?_) (fun q75 => ?_)
                · skip
                  have q75 : 8 ≤ (i2 + i10) := (nI_leI (a := 8) (b := (i2 + i10)) (by omega) (by omega)).mp q75
                  refine lv_iinc (v := nI (i2 + 1)) (lv' := [(5, .int (nI (i2 + 1))), (10, .int (nI (i10))), (8, .long w9), (6, .long w7), (0, .ref o), (1, .long v0), (3, .long v1)]) hx hb d_M_raise_133 hl (k := 3) rfl (sx_inc _ _) (by decide) rfl (fun ls hl => ?_)
                  refine lv_goto (tgt := 27) hx hb d_M_raise_136 (by decide) ?_
                  exact ih27 (i2 + 1)  _ _ _ (by omega)  hS (lv_sub hl [0, 4, 5, 6] rfl)
                · skip
                  have q75 : ¬ (8 ≤ (i2 + i10)) := fun z => q75 ((nI_leI (a := 8) (b := (i2 + i10)) (by omega) (by omega)).mpr z)
                  refine lv_aload_n hx hb d_M_raise_78 rfl (lv_at hl 4 rfl) ?_
                  refine sx_get EE (hS.1.ob hE hM.1) rfl i_M 51 (by decide) rfl fl_M_156 rfl d_M_raise_79 ?_
                  refine lv_iload hx hb d_M_raise_82 (lv_at hl 3 rfl) ?_
                  refine lv_iload hx hb d_M_raise_84 (lv_at hl 0 rfl) ?_
                  refine lv_iadd hx hb d_M_raise_86 ?_
                  refine sx_ti (y := nI (i2 + i10)) (nI_add _ _) ?_
                  refine sx_lald hx hb hG hS (mo_51 hM) (sx_in (by omega) (by decide)) d_M_raise_87 (fun z18 => ?_)
                  refine lv_lload hx hb d_M_raise_88 (lv_at hl 2 rfl) ?_
                  refine lv_aload_n hx hb d_M_raise_90 rfl (lv_at hl 4 rfl) ?_
                  refine sx_get EE (hS.1.ob hE hM.1) rfl i_M 50 (by decide) rfl fl_M_153 rfl d_M_raise_91 ?_
                  refine lv_iload hx hb d_M_raise_94 (lv_at hl 0 rfl) ?_
                  refine sx_lald hx hb hG hS (mo_50 hM) (sx_in (by omega) (by decide)) d_M_raise_96 (fun z19 => ?_)
                  refine sx_lmul hx hb d_M_raise_97 (fun z20 => ?_)
                  refine sx_ladd hx hb d_M_raise_98 (fun z21 => ?_)
                  refine lv_lload hx hb d_M_raise_99 (lv_at hl 1 rfl) ?_
                  refine sx_ladd hx hb d_M_raise_101 (fun z22 => ?_)
                  refine lv_lstore (lv' := [(11, .long z22), (10, .int (nI (i10))), (8, .long w9), (6, .long w7), (5, .int (nI (i2))), (0, .ref o), (1, .long v0), (3, .long v1)]) hx hb d_M_raise_102 hl (by decide) rfl (fun ls hl => ?_)
                  refine lv_aload_n hx hb d_M_raise_104 rfl (lv_at hl 5 rfl) ?_
                  refine sx_get EE (hS.1.ob hE hM.1) rfl i_M 51 (by decide) rfl fl_M_156 rfl d_M_raise_105 ?_
                  refine lv_iload hx hb d_M_raise_108 (lv_at hl 4 rfl) ?_
                  refine lv_iload hx hb d_M_raise_110 (lv_at hl 1 rfl) ?_
                  refine lv_iadd hx hb d_M_raise_112 ?_
                  refine sx_ti (y := nI (i2 + i10)) (nI_add _ _) ?_
                  refine lv_lload hx hb d_M_raise_113 (lv_at hl 0 rfl) ?_
                  refine lv_ldc2 (v := (4294967295)) hx hb hown (hts (.constantLong R_M 256 (4294967295)) (by decide +kernel)) d_M_raise_115 ?_
                  refine sx_land hx hb d_M_raise_118 (fun z23 => ?_)
                  refine sx_last hx hb hG hS (mo_51 hM) (mow_51 hW) (sx_in (by omega) (by decide)) d_M_raise_119 (fun H locs hS => ?_)
                  refine lv_lload hx hb d_M_raise_120 (lv_at hl 0 rfl) ?_
                  refine lv_bipush (v := nI 32) hx hb d_M_raise_122 (by decide +kernel) ?_
                  refine sx_lushr hx hb d_M_raise_124 (fun z24 => ?_)
                  refine lv_lstore (lv' := [(8, .long z24), (11, .long z22), (10, .int (nI (i10))), (6, .long w7), (5, .int (nI (i2))), (0, .ref o), (1, .long v0), (3, .long v1)]) hx hb d_M_raise_125 hl (by decide) rfl (fun ls hl => ?_)
                  refine lv_iinc (v := nI (i10 + 1)) (lv' := [(10, .int (nI (i10 + 1))), (8, .long z24), (11, .long z22), (6, .long w7), (5, .int (nI (i2))), (0, .ref o), (1, .long v0), (3, .long v1)]) hx hb d_M_raise_127 hl (k := 2) rfl (sx_inc _ _) (by decide) rfl (fun ls hl => ?_)
                  refine lv_goto (tgt := 68) hx hb d_M_raise_130 (by decide) ?_
                  exact ih68 (i10 + 1) z24 _ _ _ (by omega) (by omega)  hS (lv_sub hl [0, 1, 3, 4, 5, 6, 7] rfl)
            exact lp68 (8 - 0 + 1) 0 0 _ _ _ (by omega) (by omega)  hS (lv_sub hl [0, 1, 2, 3, 4, 5, 6] rfl)
          refine lv_if_ne (tgt := 46) hx hb d_M_raise_35 (by decide) (fun q35 => ?_) (fun q35 => ?_)
          · skip
            have q35 : ¬ (i2 = 0) := fun z => q35 ((nI_eq (a := i2) (b := 0) (by omega) (by omega)).mpr z)
            refine lv_iload hx hb d_M_raise_46 (lv_at hl 0 rfl) ?_
            refine lv_iconst (v := nI 1) hx hb d_M_raise_48 (by decide +kernel) ?_
            refine lv_icmp_ne (tgt := 59) hx hb d_M_raise_49 (by decide) (fun q49 => ?_) (fun q49 => ?_)
            · skip
              have q49 : ¬ (i2 = 1) := fun z => q49 ((nI_eq (a := i2) (b := 1) (by omega) (by omega)).mpr z)
              refine lv_lload_n hx hb d_M_raise_59 rfl (lv_at hl 2 rfl) ?_
              exact jn60_7 v0 _ _ _  hS (lv_sub hl [0, 1, 2, 3] rfl)
            · skip
              have q49 : i2 = 1 := (nI_eq (a := i2) (b := 1) (by omega) (by omega)).mp q49
              refine lv_lload_n hx hb d_M_raise_52 rfl (lv_at hl 3 rfl) ?_
              refine lv_bipush (v := nI 32) hx hb d_M_raise_53 (by decide +kernel) ?_
              refine sx_lushr hx hb d_M_raise_55 (fun z25 => ?_)
              refine lv_goto (tgt := 60) hx hb d_M_raise_56 (by decide) ?_
              exact jn60_7 z25 _ _ _  hS (lv_sub hl [0, 1, 2, 3] rfl)
          · skip
            have q35 : i2 = 0 := (nI_eq (a := i2) (b := 0) (by omega) (by omega)).mp q35
            refine lv_lload_n hx hb d_M_raise_38 rfl (lv_at hl 3 rfl) ?_
            refine lv_ldc2 (v := (4294967295)) hx hb hown (hts (.constantLong R_M 256 (4294967295)) (by decide +kernel)) d_M_raise_39 ?_
            refine sx_land hx hb d_M_raise_42 (fun z26 => ?_)
            refine lv_goto (tgt := 60) hx hb d_M_raise_43 (by decide) ?_
            exact jn60_7 z26 _ _ _  hS (lv_sub hl [0, 1, 2, 3] rfl)
      exact lp27 (3) 0  _ _ _ (by omega)  hS (lv_sub hl [0, 1, 2, 3] rfl)
    | succ k ih3 =>
      intro i1  H locs ls hi  hS hl
      refine lv_iload hx hb d_M_raise_3 (lv_at hl 0 rfl) ?_
      refine lv_bipush (v := nI 8) hx hb d_M_raise_5 (by decide +kernel) ?_
      refine lv_icmp_ge (tgt := 24) hx hb d_M_raise_7 (by decide) (fun q => absurd q (nI_ge (by omega) (by omega))) (fun _ => ?_)
      refine lv_aload_n hx hb d_M_raise_10 rfl (lv_at hl 1 rfl) ?_
      refine sx_get EE (hS.1.ob hE hM.1) rfl i_M 51 (by decide) rfl fl_M_156 rfl d_M_raise_11 ?_
      refine lv_iload hx hb d_M_raise_14 (lv_at hl 0 rfl) ?_
      refine lv_lconst (v := 0) hx hb d_M_raise_16 (by decide +kernel) ?_
      refine sx_last hx hb hG hS (mo_51 hM) (mow_51 hW) (sx_in (by omega) (by decide)) d_M_raise_17 (fun H locs hS => ?_)
      refine lv_iinc (v := nI (i1 + 1)) (lv' := [(5, .int (nI (i1 + 1))), (0, .ref o), (1, .long v0), (3, .long v1)]) hx hb d_M_raise_18 hl (k := 0) rfl (sx_inc _ _) (by decide) rfl (fun ls hl => ?_)
      refine lv_goto (tgt := 3) hx hb d_M_raise_21 (by decide) ?_
      exact ih3 (i1 + 1)  _ _ _ (by omega)  hS (lv_sub hl [0, 1, 2, 3] rfl)
  exact lp3 (8) 0  _ _ _ (by omega)  hS (lv_sub hl [0, 1, 2, 3] rfl)
abbrev rm_M_fits : Room := { frames := 1, cells := 0, slots := 0, locals := 32 }
set_option maxHeartbeats 4000000 in
set_option maxRecDepth 100000 in
theorem c_M_fits {l : Launch} {D : va_G} {g : ClassId → FieldType → Prop} {E : Nat → Prop} {H0 : Heap} {o : Nat} {r : Nat → Nat} {i : Nat → Int32} {v0 : Int64} {v1 : Int64} {v2 : Int32} {v3 : Nat} (hM : mo_ D g H0 o r i) (hE : ¬ E o) (hW : ∀ q ∈ mo_wr, E (r q.1)) (h3 : 2 ≤ v3 ∧ v3 ≤ 3) : Met l y_M_fits (.code y_M_fits b_M_fits 10 (some .boolean) :: G_) rm_M_fits (sx_Pc [.ref o, .long v0, .long v1, .int v2, .int (nI v3)] H0 D g) (sx_Qz g E H0) 0 0 E := by
  refine sx_mz (own := R_M) (by decide) rfl rfl rfl (Nat.le_of_ble_eq_true rfl) ?_
  intro p e s m args below meth c Q ls EE hl hret
  obtain ⟨hx, hb, hml, hown, hts, hG, hK⟩ := id EE
  have hS : sx_S g E E H0 H0 [] := sx_S.rf
  have hl : lv_has ls 10 [(0, .ref o), (1, .long v0), (3, .long v1), (5, .int v2), (6, .int (nI (v3)))] := hl
  refine lv_iconst (v := nI 0) hx hb d_M_fits_0 (by decide +kernel) ?_
  refine lv_istore (lv' := [(7, .int (nI (0))), (0, .ref o), (1, .long v0), (3, .long v1), (5, .int v2), (6, .int (nI (v3)))]) hx hb d_M_fits_1 hl (by decide) rfl (fun ls hl => ?_)
  have lp3 : ∀ (k i1 : Nat) (H : Heap) (locs : List Loc) (ls : Array Slot), i1 + k = 8 → sx_S g E E H0 H locs → lv_has ls 10 [(7, .int (nI (i1))), (0, .ref o), (1, .long v0), (3, .long v1), (5, .int v2), (6, .int (nI (v3)))] → W p l e rm_M_fits s m args below meth c H locs 0 0 Q (F0 m 3 ls []) := by
    intro k
    induction k with
    | zero =>
      intro i1  H locs ls hi  hS hl
      refine lv_iload hx hb d_M_fits_3 (lv_at hl 0 rfl) ?_
      refine lv_bipush (v := nI 8) hx hb d_M_fits_5 (by decide +kernel) ?_
      refine lv_icmp_ge (tgt := 33) hx hb d_M_fits_7 (by decide) (fun _ => ?_) (fun q => absurd (nI_le (by omega) (by omega)) q)
      refine lv_iconst (v := nI 0) hx hb d_M_fits_33 (by decide +kernel) ?_
      refine lv_istore (lv' := [(7, .int (nI (0))), (0, .ref o), (1, .long v0), (3, .long v1), (5, .int v2), (6, .int (nI (v3)))]) hx hb d_M_fits_34 hl (by decide) rfl (fun ls hl => ?_)
      have lp36 : ∀ (k i2 : Nat) (H : Heap) (locs : List Loc) (ls : Array Slot), i2 + k = v3 → sx_S g E E H0 H locs → lv_has ls 10 [(7, .int (nI (i2))), (0, .ref o), (1, .long v0), (3, .long v1), (5, .int v2), (6, .int (nI (v3)))] → W p l e rm_M_fits s m args below meth c H locs 0 0 Q (F0 m 36 ls []) := by
        intro k
        induction k with
        | zero =>
          intro i2  H locs ls hi  hS hl
          refine lv_iload hx hb d_M_fits_36 (lv_at hl 0 rfl) ?_
          refine lv_iload hx hb d_M_fits_38 (lv_at hl 5 rfl) ?_
          refine lv_icmp_ge (tgt := 55) hx hb d_M_fits_40 (by decide) (fun _ => ?_) (fun q => absurd (nI_le (by omega) (by omega)) q)
          refine lv_lconst (v := 0) hx hb d_M_fits_55 (by decide +kernel) ?_
          refine lv_lstore (lv' := [(7, .long 0), (0, .ref o), (1, .long v0), (3, .long v1), (5, .int v2), (6, .int (nI (v3)))]) hx hb d_M_fits_56 hl (by decide) rfl (fun ls hl => ?_)
          refine lv_bipush (v := nI 7) hx hb d_M_fits_58 (by decide +kernel) ?_
          refine lv_istore (lv' := [(9, .int (nI (7))), (7, .long 0), (0, .ref o), (1, .long v0), (3, .long v1), (5, .int v2), (6, .int (nI (v3)))]) hx hb d_M_fits_60 hl (by decide) rfl (fun ls hl => ?_)
          have lp62 : ∀ (k i4 : Nat) (w3 : Int64) (H : Heap) (locs : List Loc) (ls : Array Slot), 3 ≤ i4 ∧ i4 ≤ 7 → i4 < k → sx_S g E E H0 H locs → lv_has ls 10 [(9, .int (nI (i4))), (7, .long w3), (0, .ref o), (1, .long v0), (3, .long v1), (5, .int v2), (6, .int (nI (v3)))] → W p l e rm_M_fits s m args below meth c H locs 0 0 Q (F0 m 62 ls []) := by
            intro k
            induction k with
            | zero =>
              intro i4 w3 H locs ls hi hk
              exact absurd hk (Nat.not_lt_zero _)
            | succ k ih62 =>
              intro i4 w3 H locs ls hi hk  hS hl
              refine lv_iload hx hb d_M_fits_62 (lv_at hl 0 rfl) ?_
              refine lv_iconst (v := nI 2) hx hb d_M_fits_64 (by decide +kernel) ?_
              refine lv_iload hx hb d_M_fits_65 (lv_at hl 6 rfl) ?_
              refine lv_imul hx hb d_M_fits_67 ?_
              refine sx_ti (y := nI (2 * v3)) (pk_mul _ _) ?_
              refine lv_icmp_lt (tgt := 92) hx hb d_M_fits_68 (by decide) (fun q68 => ?_) (fun q68 => ?_)
              · skip
                have q68 : i4 < (2 * v3) := (nI_ltI (a := i4) (b := (2 * v3)) (by omega) (by omega)).mp q68
                refine lv_lload hx hb d_M_fits_92 (lv_at hl 1 rfl) ?_
                refine lv_iload hx hb d_M_fits_94 (lv_at hl 5 rfl) ?_
                refine sx_i2l hx hb d_M_fits_96 (fun z8 => ?_)
                refine sx_lcmp hx hb d_M_fits_97 (fun z9 => ?_)
                refine lv_if_eq (tgt := 116) hx hb d_M_fits_98 (by decide) (fun _ => ?_) (fun _ => ?_)
                · skip
                  refine lv_iconst (v := nI 0) hx hb d_M_fits_116 (by decide +kernel) ?_
                  refine lv_istore (lv' := [(9, .int (nI (0))), (7, .long w3), (0, .ref o), (1, .long v0), (3, .long v1), (5, .int v2), (6, .int (nI (v3)))]) hx hb d_M_fits_117 hl (by decide) rfl (fun ls hl => ?_)
                  have lp119 : ∀ (k i10 : Nat) (H : Heap) (locs : List Loc) (ls : Array Slot), i10 ≤ 8 → 8 - i10 < k → sx_S g E E H0 H locs → lv_has ls 10 [(9, .int (nI (i10))), (7, .long w3), (0, .ref o), (1, .long v0), (3, .long v1), (5, .int v2), (6, .int (nI (v3)))] → W p l e rm_M_fits s m args below meth c H locs 0 0 Q (F0 m 119 ls []) := by
                    intro k
                    induction k with
                    | zero =>
                      intro i10  H locs ls hi hk
                      exact absurd hk (Nat.not_lt_zero _)
                    | succ k ih119 =>
                      intro i10  H locs ls hi hk  hS hl
                      refine lv_iload hx hb d_M_fits_119 (lv_at hl 0 rfl) ?_
                      refine lv_iconst (v := nI 2) hx hb d_M_fits_121 (by decide +kernel) ?_
                      refine lv_iload hx hb d_M_fits_122 (lv_at hl 6 rfl) ?_
                      refine lv_imul hx hb d_M_fits_124 ?_
                      refine sx_ti (y := nI (2 * v3)) (pk_mul _ _) ?_
                      refine lv_icmp_ge (tgt := 148) hx hb d_M_fits_125 (by decide) (fun q125 => ?_) (fun q125 => ?_)
                      · skip
                        have q125 : (2 * v3) ≤ i10 := (nI_leI (a := (2 * v3)) (b := i10) (by omega) (by omega)).mp q125
                        refine lv_iconst (v := nI 1) hx hb d_M_fits_148 (by decide +kernel) ?_
                        exact hret _ _ _ _ (1) (by omega) hS d_M_fits_149
                      · skip
                        have q125 : ¬ ((2 * v3) ≤ i10) := fun z => q125 ((nI_leI (a := (2 * v3)) (b := i10) (by omega) (by omega)).mpr z)
                        refine lv_aload_n hx hb d_M_fits_128 rfl (lv_at hl 2 rfl) ?_
                        refine sx_get EE (hS.1.ob hE hM.1) rfl i_M 50 (by decide) rfl fl_M_153 rfl d_M_fits_129 ?_
                        refine lv_iload hx hb d_M_fits_132 (lv_at hl 0 rfl) ?_
                        refine sx_lald hx hb hG hS (mo_50 hM) (sx_in (by omega) (by decide)) d_M_fits_134 (fun z11 => ?_)
                        refine lv_lconst (v := 0) hx hb d_M_fits_135 (by decide +kernel) ?_
                        refine sx_lcmp hx hb d_M_fits_136 (fun z12 => ?_)
                        refine lv_if_eq (tgt := 142) hx hb d_M_fits_137 (by decide) (fun _ => ?_) (fun _ => ?_)
                        · skip
                          refine lv_iinc (v := nI (i10 + 1)) (lv' := [(9, .int (nI (i10 + 1))), (7, .long w3), (0, .ref o), (1, .long v0), (3, .long v1), (5, .int v2), (6, .int (nI (v3)))]) hx hb d_M_fits_142 hl (k := 0) rfl (sx_inc _ _) (by decide) rfl (fun ls hl => ?_)
                          refine lv_goto (tgt := 119) hx hb d_M_fits_145 (by decide) ?_
                          exact ih119 (i10 + 1)  _ _ _ (by omega) (by omega)  hS (lv_sub hl [0, 1, 2, 3, 4, 5, 6] rfl)
                        · skip
                          refine lv_iconst (v := nI 0) hx hb d_M_fits_140 (by decide +kernel) ?_
                          exact hret _ _ _ _ (0) (by omega) hS d_M_fits_141
                  exact lp119 (8 - 0 + 1) 0  _ _ _ (by omega) (by omega)  hS (lv_sub hl [0, 1, 2, 3, 4, 5, 6] rfl)
                · skip
                  refine lv_lload hx hb d_M_fits_101 (lv_at hl 1 rfl) ?_
                  refine lv_iload hx hb d_M_fits_103 (lv_at hl 5 rfl) ?_
                  refine sx_i2l hx hb d_M_fits_105 (fun z13 => ?_)
                  refine sx_lcmp hx hb d_M_fits_106 (fun z14 => ?_)
                  have jn115_15 : ∀ (n15 : Nat) (H : Heap) (locs : List Loc) (ls : Array Slot), n15 ≤ 1 → sx_S g E E H0 H locs → lv_has ls 10 [(9, .int (nI (i4))), (7, .long w3), (0, .ref o), (1, .long v0), (3, .long v1), (5, .int v2), (6, .int (nI (v3)))] → W p l e rm_M_fits s m args below meth c H locs 0 0 Q (F0 m 115 ls [.int (nI (n15))]) := by
                    intro n15 H locs ls h_n15 hS hl
                    exact hret _ _ _ _ (n15) (by omega) hS d_M_fits_115
                  refine lv_if_ge (tgt := 114) hx hb d_M_fits_107 (by decide) (fun _ => ?_) (fun _ => ?_)
                  · skip
                    refine lv_iconst (v := nI 0) hx hb d_M_fits_114 (by decide +kernel) ?_
                    exact jn115_15 0 _ _ _ (by omega) hS (lv_sub hl [0, 1, 2, 3, 4, 5, 6] rfl)
                  · skip
                    refine lv_iconst (v := nI 1) hx hb d_M_fits_110 (by decide +kernel) ?_
                    refine lv_goto (tgt := 115) hx hb d_M_fits_111 (by decide) ?_
                    exact jn115_15 1 _ _ _ (by omega) hS (lv_sub hl [0, 1, 2, 3, 4, 5, 6] rfl)
              · skip
                have q68 : ¬ (i4 < (2 * v3)) := fun z => q68 ((nI_ltI (a := i4) (b := (2 * v3)) (by omega) (by omega)).mpr z)
                refine lv_lload hx hb d_M_fits_71 (lv_at hl 1 rfl) ?_
                refine lv_bipush (v := nI 32) hx hb d_M_fits_73 (by decide +kernel) ?_
                refine sx_lshl hx hb d_M_fits_75 (fun z17 => ?_)
                refine lv_aload_n hx hb d_M_fits_76 rfl (lv_at hl 2 rfl) ?_
                refine sx_get EE (hS.1.ob hE hM.1) rfl i_M 50 (by decide) rfl fl_M_153 rfl d_M_fits_77 ?_
                refine lv_iload hx hb d_M_fits_80 (lv_at hl 0 rfl) ?_
                refine sx_lald hx hb hG hS (mo_50 hM) (sx_in (by omega) (by decide)) d_M_fits_82 (fun z18 => ?_)
                refine sx_lor hx hb d_M_fits_83 (fun z19 => ?_)
                refine lv_lstore (lv' := [(7, .long z19), (9, .int (nI (i4))), (0, .ref o), (1, .long v0), (3, .long v1), (5, .int v2), (6, .int (nI (v3)))]) hx hb d_M_fits_84 hl (by decide) rfl (fun ls hl => ?_)
                refine lv_iinc (v := nI (i4 - 1)) (lv' := [(9, .int (nI (i4 - 1))), (7, .long z19), (0, .ref o), (1, .long v0), (3, .long v1), (5, .int v2), (6, .int (nI (v3)))]) hx hb d_M_fits_86 hl (k := 1) rfl (sx_dec (by omega)) (by decide) rfl (fun ls hl => ?_)
                refine lv_goto (tgt := 62) hx hb d_M_fits_89 (by decide) ?_
                exact ih62 (i4 - 1) z19 _ _ _ (by omega) (by omega)  hS (lv_sub hl [0, 1, 2, 3, 4, 5, 6] rfl)
          exact lp62 (7 + 1) 7 0 _ _ _ (by omega) (by omega)  hS (lv_sub hl [0, 1, 2, 3, 4, 5, 6] rfl)
        | succ k ih36 =>
          intro i2  H locs ls hi  hS hl
          refine lv_iload hx hb d_M_fits_36 (lv_at hl 0 rfl) ?_
          refine lv_iload hx hb d_M_fits_38 (lv_at hl 5 rfl) ?_
          refine lv_icmp_ge (tgt := 55) hx hb d_M_fits_40 (by decide) (fun q => absurd q (nI_ge (by omega) (by omega))) (fun _ => ?_)
          refine lv_aload_n hx hb d_M_fits_43 rfl (lv_at hl 1 rfl) ?_
          refine lv_lload_n hx hb d_M_fits_44 rfl (lv_at hl 2 rfl) ?_
          refine lv_lload_n hx hb d_M_fits_45 rfl (lv_at hl 3 rfl) ?_
          refine sx_gv (sx_runV (As := [.long v0, .long v1]) (rest := []) EE (hS.1.ob hE hM.1) rfl rfl (c_M_raise (hM.kept hS.1 hE) hE hW) w_M_252 rfl ⟨rfl, rfl⟩ ⟨Nat.le_of_ble_eq_true rfl, Nat.le_of_ble_eq_true rfl⟩ ⟨Nat.zero_le _, Nat.zero_le _⟩ hl.1 rfl (Nat.le_of_ble_eq_true rfl) d_M_fits_46) hS (fun H locs hS => ?_)
          refine lv_iinc (v := nI (i2 + 1)) (lv' := [(7, .int (nI (i2 + 1))), (0, .ref o), (1, .long v0), (3, .long v1), (5, .int v2), (6, .int (nI (v3)))]) hx hb d_M_fits_49 hl (k := 0) rfl (sx_inc _ _) (by decide) rfl (fun ls hl => ?_)
          refine lv_goto (tgt := 36) hx hb d_M_fits_52 (by decide) ?_
          exact ih36 (i2 + 1)  _ _ _ (by omega)  hS (lv_sub hl [0, 1, 2, 3, 4, 5] rfl)
      exact lp36 ((v3 - 0) / 1) 0  _ _ _ (by omega)  hS (lv_sub hl [0, 1, 2, 3, 4, 5] rfl)
    | succ k ih3 =>
      intro i1  H locs ls hi  hS hl
      refine lv_iload hx hb d_M_fits_3 (lv_at hl 0 rfl) ?_
      refine lv_bipush (v := nI 8) hx hb d_M_fits_5 (by decide +kernel) ?_
      refine lv_icmp_ge (tgt := 33) hx hb d_M_fits_7 (by decide) (fun q => absurd q (nI_ge (by omega) (by omega))) (fun _ => ?_)
      refine lv_aload_n hx hb d_M_fits_10 rfl (lv_at hl 1 rfl) ?_
      refine sx_get EE (hS.1.ob hE hM.1) rfl i_M 50 (by decide) rfl fl_M_153 rfl d_M_fits_11 ?_
      refine lv_iload hx hb d_M_fits_14 (lv_at hl 0 rfl) ?_
      refine lv_iload hx hb d_M_fits_16 (lv_at hl 0 rfl) ?_
      have jn26_20 : ∀ (w20 : Int64) (H : Heap) (locs : List Loc) (ls : Array Slot), sx_S g E E H0 H locs → lv_has ls 10 [(7, .int (nI (i1))), (0, .ref o), (1, .long v0), (3, .long v1), (5, .int v2), (6, .int (nI (v3)))] → W p l e rm_M_fits s m args below meth c H locs 0 0 Q (F0 m 26 ls [.long w20, .int (nI (i1)), .ref (r 50)]) := by
        intro w20 H locs ls  hS hl
        refine sx_last hx hb hG hS (mo_50 hM) (mow_50 hW) (sx_in (by omega) (by decide)) d_M_fits_26 (fun H locs hS => ?_)
        refine lv_iinc (v := nI (i1 + 1)) (lv' := [(7, .int (nI (i1 + 1))), (0, .ref o), (1, .long v0), (3, .long v1), (5, .int v2), (6, .int (nI (v3)))]) hx hb d_M_fits_27 hl (k := 0) rfl (sx_inc _ _) (by decide) rfl (fun ls hl => ?_)
        refine lv_goto (tgt := 3) hx hb d_M_fits_30 (by decide) ?_
        exact ih3 (i1 + 1)  _ _ _ (by omega)  hS (lv_sub hl [0, 1, 2, 3, 4, 5] rfl)
      refine lv_if_ne (tgt := 25) hx hb d_M_fits_18 (by decide) (fun q18 => ?_) (fun q18 => ?_)
      · skip
        have q18 : ¬ (i1 = 0) := fun z => q18 ((nI_eq (a := i1) (b := 0) (by omega) (by omega)).mpr z)
        refine lv_lconst (v := 0) hx hb d_M_fits_25 (by decide +kernel) ?_
        exact jn26_20 0 _ _ _  hS (lv_sub hl [0, 1, 2, 3, 4, 5] rfl)
      · skip
        have q18 : i1 = 0 := (nI_eq (a := i1) (b := 0) (by omega) (by omega)).mp q18
        refine lv_lconst (v := 1) hx hb d_M_fits_21 (by decide +kernel) ?_
        refine lv_goto (tgt := 26) hx hb d_M_fits_22 (by decide) ?_
        exact jn26_20 1 _ _ _  hS (lv_sub hl [0, 1, 2, 3, 4, 5] rfl)
  exact lp3 (8) 0  _ _ _ (by omega)  hS (lv_sub hl [0, 1, 2, 3, 4, 5] rfl)
abbrev rm_M_root : Room := { frames := 2, cells := 0, slots := 0, locals := 61 }
set_option maxHeartbeats 4000000 in
set_option maxRecDepth 100000 in
theorem c_M_root {l : Launch} {D : va_G} {g : ClassId → FieldType → Prop} {E : Nat → Prop} {H0 : Heap} {o : Nat} {r : Nat → Nat} {i : Nat → Int32} {v0 : Int32} {v1 : Nat} (hM : mo_ D g H0 o r i) (hE : ¬ E o) (hW : ∀ q ∈ mo_wr, E (r q.1)) (h1 : 2 ≤ v1 ∧ v1 ≤ 3) : Met l y_M_root (.code y_M_root b_M_root 12 (some .long) :: G_) rm_M_root (sx_Pc [.ref o, .int v0, .int (nI v1)] H0 D g) (sx_Ql g E H0) 0 0 E := by
  refine sx_ml (own := R_M) (by decide) rfl rfl rfl (Nat.le_of_ble_eq_true rfl) ?_
  intro p e s m args below meth c Q ls EE hl hret
  obtain ⟨hx, hb, hml, hown, hts, hG, hK⟩ := id EE
  have hS : sx_S g E E H0 H0 [] := sx_S.rf
  have hl : lv_has ls 12 [(0, .ref o), (1, .int v0), (2, .int (nI (v1)))] := hl
  refine lv_lconst (v := 0) hx hb d_M_root_0 (by decide +kernel) ?_
  refine lv_lstore_n (lv' := [(3, .long 0), (0, .ref o), (1, .int v0), (2, .int (nI (v1)))]) hx hb d_M_root_1 rfl hl (by decide) rfl (fun ls hl => ?_)
  refine lv_lconst (v := 0) hx hb d_M_root_2 (by decide +kernel) ?_
  refine lv_lstore (lv' := [(5, .long 0), (3, .long 0), (0, .ref o), (1, .int v0), (2, .int (nI (v1)))]) hx hb d_M_root_3 hl (by decide) rfl (fun ls hl => ?_)
  refine lv_bipush (v := nI 66) hx hb d_M_root_5 (by decide +kernel) ?_
  refine lv_istore (lv' := [(7, .int (nI (66))), (5, .long 0), (3, .long 0), (0, .ref o), (1, .int v0), (2, .int (nI (v1)))]) hx hb d_M_root_7 hl (by decide) rfl (fun ls hl => ?_)
  have lp9 : ∀ (i3 : Nat) (xi3 : Int32) (w1 : Int64) (w2 : Int64) (H : Heap) (locs : List Loc) (ls : Array Slot), xi3 = nI i3 - 1 → i3 ≤ 66 + 1 → sx_S g E E H0 H locs → lv_has ls 12 [(7, .int xi3), (5, .long w1), (3, .long w2), (0, .ref o), (1, .int v0), (2, .int (nI (v1)))] → W p l e rm_M_root s m args below meth c H locs 0 0 Q (F0 m 9 ls []) := by
    intro i3
    induction i3 with
    | zero =>
      intro xi3 w1 w2 H locs ls ex hi  hS hl
      refine lv_iload hx hb d_M_root_9 (lv_at hl 0 rfl) ?_
      refine lv_if_lt (tgt := 83) hx hb d_M_root_11 (by decide) (fun _ => ?_) (fun q => absurd (by rw [ex]; decide +kernel) q)
      refine lv_lload hx hb d_M_root_83 (lv_at hl 1 rfl) ?_
      exact hret _ _ _ _ w1 hS d_M_root_85
    | succ i3 ih9 =>
      intro xi3 w1 w2 H locs ls ex hi  hS hl
      rw [nI_pred] at ex
      subst ex
      refine lv_iload hx hb d_M_root_9 (lv_at hl 0 rfl) ?_
      refine lv_if_lt (tgt := 83) hx hb d_M_root_11 (by decide) (fun q => absurd q (nI_pos (by omega))) (fun _ => ?_)
      refine lv_iload hx hb d_M_root_14 (lv_at hl 0 rfl) ?_
      refine lv_bipush (v := nI 63) hx hb d_M_root_16 (by decide +kernel) ?_
      have jn34_7 : ∀ (w7 : Int64) (H : Heap) (locs : List Loc) (ls : Array Slot), sx_S g E E H0 H locs → lv_has ls 12 [(7, .int (nI (i3))), (5, .long w1), (3, .long w2), (0, .ref o), (1, .int v0), (2, .int (nI (v1)))] → W p l e rm_M_root s m args below meth c H locs 0 0 Q (F0 m 34 ls [.long w7]) := by
        intro w7 H locs ls  hS hl
        refine lv_lstore (lv' := [(8, .long w7), (7, .int (nI (i3))), (5, .long w1), (3, .long w2), (0, .ref o), (1, .int v0), (2, .int (nI (v1)))]) hx hb d_M_root_34 hl (by decide) rfl (fun ls hl => ?_)
        refine lv_iload hx hb d_M_root_36 (lv_at hl 1 rfl) ?_
        refine lv_bipush (v := nI 63) hx hb d_M_root_38 (by decide +kernel) ?_
        have jn55_11 : ∀ (w11 : Int64) (H : Heap) (locs : List Loc) (ls : Array Slot), sx_S g E E H0 H locs → lv_has ls 12 [(8, .long w7), (7, .int (nI (i3))), (5, .long w1), (3, .long w2), (0, .ref o), (1, .int v0), (2, .int (nI (v1)))] → W p l e rm_M_root s m args below meth c H locs 0 0 Q (F0 m 55 ls [.long w11]) := by
          intro w11 H locs ls  hS hl
          refine lv_lstore (lv' := [(10, .long w11), (8, .long w7), (7, .int (nI (i3))), (5, .long w1), (3, .long w2), (0, .ref o), (1, .int v0), (2, .int (nI (v1)))]) hx hb d_M_root_55 hl (by decide) rfl (fun ls hl => ?_)
          refine lv_aload_n hx hb d_M_root_57 rfl (lv_at hl 5 rfl) ?_
          refine lv_lload hx hb d_M_root_58 (lv_at hl 1 rfl) ?_
          refine lv_lload hx hb d_M_root_60 (lv_at hl 0 rfl) ?_
          refine lv_iload_n hx hb d_M_root_62 rfl (lv_at hl 6 rfl) ?_
          refine lv_iload_n hx hb d_M_root_63 rfl (lv_at hl 7 rfl) ?_
          refine sx_gn (sx_runV (As := [.long w7, .long w11, .int v0, .int (nI (v1))]) (rest := []) EE (hS.1.ob hE hM.1) rfl rfl (c_M_fits (hM.kept hS.1 hE) hE hW (by omega)) w_M_248 rfl ⟨rfl, rfl⟩ ⟨Nat.le_of_ble_eq_true rfl, Nat.le_of_ble_eq_true rfl⟩ ⟨Nat.zero_le _, Nat.zero_le _⟩ hl.1 rfl (Nat.le_of_ble_eq_true rfl) d_M_root_64) hS (fun n13 h_n13 H locs hS => ?_)
          have h_n13 : n13 ≤ 1 := h_n13
          have jn77_15 : ∀ (w14 : Int64) (w15 : Int64) (H : Heap) (locs : List Loc) (ls : Array Slot), sx_S g E E H0 H locs → lv_has ls 12 [(10, .long w11), (8, .long w7), (7, .int (nI (i3))), (5, .long w14), (3, .long w15), (0, .ref o), (1, .int v0), (2, .int (nI (v1)))] → W p l e rm_M_root s m args below meth c H locs 0 0 Q (F0 m 77 ls []) := by
            intro w14 w15 H locs ls  hS hl
            refine lv_iinc (v := nI i3 - 1) (lv' := [(7, .int (nI i3 - 1)), (10, .long w11), (8, .long w7), (5, .long w14), (3, .long w15), (0, .ref o), (1, .int v0), (2, .int (nI (v1)))]) hx hb d_M_root_77 hl (k := 2) rfl (sx_dn _) (by decide) rfl (fun ls hl => ?_)
            refine lv_goto (tgt := 9) hx hb d_M_root_80 (by decide) ?_
            exact ih9 _ w14 w15 _ _ _ rfl (by omega)  hS (lv_sub hl [0, 3, 4, 5, 6, 7] rfl)
          refine lv_if_eq (tgt := 77) hx hb d_M_root_67 (by decide) (fun q67 => ?_) (fun q67 => ?_)
          · skip
            have q67 : n13 = 0 := (nI_eq (a := n13) (b := 0) (by omega) (by omega)).mp q67
            exact jn77_15 w1 w2 _ _ _  hS (lv_sub hl [0, 1, 2, 3, 4, 5, 6, 7] rfl)
          · skip
            have q67 : ¬ (n13 = 0) := fun z => q67 ((nI_eq (a := n13) (b := 0) (by omega) (by omega)).mpr z)
            refine lv_lload hx hb d_M_root_70 (lv_at hl 1 rfl) ?_
            refine lv_lstore_n (lv' := [(3, .long w7), (10, .long w11), (8, .long w7), (7, .int (nI (i3))), (5, .long w1), (0, .ref o), (1, .int v0), (2, .int (nI (v1)))]) hx hb d_M_root_72 rfl hl (by decide) rfl (fun ls hl => ?_)
            refine lv_lload hx hb d_M_root_73 (lv_at hl 1 rfl) ?_
            refine lv_lstore (lv' := [(5, .long w11), (3, .long w7), (10, .long w11), (8, .long w7), (7, .int (nI (i3))), (0, .ref o), (1, .int v0), (2, .int (nI (v1)))]) hx hb d_M_root_75 hl (by decide) rfl (fun ls hl => ?_)
            exact jn77_15 w11 w7 _ _ _  hS (lv_sub hl [2, 3, 4, 0, 1, 5, 6, 7] rfl)
        refine lv_icmp_le (tgt := 48) hx hb d_M_root_40 (by decide) (fun q40 => ?_) (fun q40 => ?_)
        · skip
          have q40 : i3 ≤ 63 := (nI_leI (a := i3) (b := 63) (by omega) (by omega)).mp q40
          refine lv_lload hx hb d_M_root_48 (lv_at hl 2 rfl) ?_
          refine lv_lconst (v := 1) hx hb d_M_root_50 (by decide +kernel) ?_
          refine lv_iload hx hb d_M_root_51 (lv_at hl 1 rfl) ?_
          refine sx_lshl hx hb d_M_root_53 (fun z17 => ?_)
          refine sx_lor hx hb d_M_root_54 (fun z18 => ?_)
          exact jn55_11 z18 _ _ _  hS (lv_sub hl [0, 1, 2, 3, 4, 5, 6] rfl)
        · skip
          have q40 : ¬ (i3 ≤ 63) := fun z => q40 ((nI_leI (a := i3) (b := 63) (by omega) (by omega)).mpr z)
          refine lv_lload hx hb d_M_root_43 (lv_at hl 2 rfl) ?_
          refine lv_goto (tgt := 55) hx hb d_M_root_45 (by decide) ?_
          exact jn55_11 w1 _ _ _  hS (lv_sub hl [0, 1, 2, 3, 4, 5, 6] rfl)
      refine lv_icmp_le (tgt := 33) hx hb d_M_root_18 (by decide) (fun q18 => ?_) (fun q18 => ?_)
      · skip
        have q18 : i3 ≤ 63 := (nI_leI (a := i3) (b := 63) (by omega) (by omega)).mp q18
        refine lv_lload_n hx hb d_M_root_33 rfl (lv_at hl 2 rfl) ?_
        exact jn34_7 w2 _ _ _  hS (lv_sub hl [0, 1, 2, 3, 4, 5] rfl)
      · skip
        have q18 : ¬ (i3 ≤ 63) := fun z => q18 ((nI_leI (a := i3) (b := 63) (by omega) (by omega)).mpr z)
        refine lv_lload_n hx hb d_M_root_21 rfl (lv_at hl 2 rfl) ?_
        refine lv_lconst (v := 1) hx hb d_M_root_22 (by decide +kernel) ?_
        refine lv_iload hx hb d_M_root_23 (lv_at hl 0 rfl) ?_
        refine lv_bipush (v := nI 64) hx hb d_M_root_25 (by decide +kernel) ?_
        refine sx_isub hx hb d_M_root_27 (fun x19 => ?_)
        refine sx_lshl hx hb d_M_root_28 (fun z20 => ?_)
        refine sx_lor hx hb d_M_root_29 (fun z21 => ?_)
        refine lv_goto (tgt := 34) hx hb d_M_root_30 (by decide) ?_
        exact jn34_7 z21 _ _ _  hS (lv_sub hl [0, 1, 2, 3, 4, 5] rfl)
  exact lp9 67 _ 0 0 _ _ _ (nI_pred _).symm (by omega)  hS (lv_sub hl [0, 1, 2, 3, 4, 5] rfl)
abbrev rm_M_constants : Room := { frames := 3, cells := 0, slots := 0, locals := 92 }
set_option maxHeartbeats 4000000 in
set_option maxRecDepth 100000 in
theorem c_M_constants {l : Launch} {D : va_G} {g : ClassId → FieldType → Prop} {E : Nat → Prop} {H0 : Heap} {o : Nat} {r : Nat → Nat} {i : Nat → Int32} (hM : mo_ D g H0 o r i) (hE : ¬ E o) (hW : ∀ q ∈ mo_wr, E (r q.1)) : Met l y_M_constants (.code y_M_constants b_M_constants 3 none :: G_) rm_M_constants (sx_Pc [.ref o] H0 D g) (sx_Qv g E H0) 0 0 E := by
  refine sx_mv (own := R_M) (by decide) rfl rfl rfl (Nat.le_of_ble_eq_true rfl) ?_
  intro p e s m args below meth c Q ls EE hl hret
  obtain ⟨hx, hb, hml, hown, hts, hG, hK⟩ := id EE
  have hS : sx_S g E E H0 H0 [] := sx_S.rf
  have hl : lv_has ls 3 [(0, .ref o)] := hl
  refine lv_iconst (v := nI 1) hx hb d_M_constants_0 (by decide +kernel) ?_
  refine lv_istore_n (lv' := [(1, .int (nI (1))), (0, .ref o)]) hx hb d_M_constants_1 rfl hl (by decide) rfl (fun ls hl => ?_)
  refine lv_iconst (v := nI 0) hx hb d_M_constants_2 (by decide +kernel) ?_
  refine lv_istore_n (lv' := [(2, .int (nI (0))), (1, .int (nI (1))), (0, .ref o)]) hx hb d_M_constants_3 rfl hl (by decide) rfl (fun ls hl => ?_)
  have lp4 : ∀ (k i2 : Nat) (n1 : Nat) (H : Heap) (locs : List Loc) (ls : Array Slot), i2 + k = 80 → n1 ≤ pl_ i2 → sx_S g E E H0 H locs → lv_has ls 3 [(2, .int (nI (i2))), (1, .int (nI (n1))), (0, .ref o)] → W p l e rm_M_constants s m args below meth c H locs 0 0 Q (F0 m 4 ls []) := by
    intro k
    induction k with
    | zero =>
      intro i2 n1 H locs ls hi h_n1 hS hl
      refine lv_iload_n hx hb d_M_constants_4 rfl (lv_at hl 0 rfl) ?_
      refine lv_bipush (v := nI 80) hx hb d_M_constants_5 (by decide +kernel) ?_
      refine lv_icmp_ge (tgt := 51) hx hb d_M_constants_7 (by decide) (fun _ => ?_) (fun q => absurd (nI_le (by omega) (by omega)) q)
      exact hret _ _ _ _ hS d_M_constants_51
    | succ k ih4 =>
      intro i2 n1 H locs ls hi h_n1 hS hl
      refine lv_iload_n hx hb d_M_constants_4 rfl (lv_at hl 0 rfl) ?_
      refine lv_bipush (v := nI 80) hx hb d_M_constants_5 (by decide +kernel) ?_
      refine lv_icmp_ge (tgt := 51) hx hb d_M_constants_7 (by decide) (fun q => absurd q (nI_ge (by omega) (by omega))) (fun _ => ?_)
      refine lv_iload_n hx hb d_M_constants_10 rfl (lv_at hl 1 rfl) ?_
      have hpl := pl_ok i2 (by omega)
      refine sx_gn (sx_runS (As := [.int (nI (n1))]) (rest := []) EE (c_M_prime (q := pl_ (i2 + 1)) (by omega) (by omega) hpl.2.2) w_M_241 rfl ⟨rfl, rfl⟩ ⟨Nat.le_of_ble_eq_true rfl, Nat.le_of_ble_eq_true rfl⟩ ⟨Nat.zero_le _, Nat.zero_le _⟩ hl.1 rfl (Nat.le_of_ble_eq_true rfl) d_M_constants_11) hS (fun n3 h_n3 H locs hS => ?_)
      have h_n3 : n3 ≤ pl_ (i2 + 1) := h_n3
      refine lv_istore_n (lv' := [(1, .int (nI (n3))), (2, .int (nI (i2))), (0, .ref o)]) hx hb d_M_constants_14 rfl hl (by decide) rfl (fun ls hl => ?_)
      refine lv_aload_n hx hb d_M_constants_15 rfl (lv_at hl 2 rfl) ?_
      refine sx_get EE (hS.1.ob hE hM.1) rfl i_M 46 (by decide) rfl fl_M_141 rfl d_M_constants_16 ?_
      refine lv_iload_n hx hb d_M_constants_19 rfl (lv_at hl 1 rfl) ?_
      refine lv_aload_n hx hb d_M_constants_20 rfl (lv_at hl 2 rfl) ?_
      refine lv_iload_n hx hb d_M_constants_21 rfl (lv_at hl 0 rfl) ?_
      refine lv_iconst (v := nI 3) hx hb d_M_constants_22 (by decide +kernel) ?_
      refine sx_gl (sx_runV (As := [.int (nI (n3)), .int (nI (3))]) (rest := [.int (nI (i2)), .ref (r 46)]) EE (hS.1.ob hE hM.1) rfl rfl (c_M_root (hM.kept hS.1 hE) hE hW (by omega)) w_M_245 rfl ⟨rfl, rfl⟩ ⟨Nat.le_of_ble_eq_true rfl, Nat.le_of_ble_eq_true rfl⟩ ⟨Nat.zero_le _, Nat.zero_le _⟩ hl.1 rfl (Nat.le_of_ble_eq_true rfl) d_M_constants_23) hS (fun w4 H locs hS => ?_)
      refine sx_last hx hb hG hS (mo_46 hM) (mow_46 hW) (sx_in (by omega) (by decide)) d_M_constants_26 (fun H locs hS => ?_)
      refine lv_iload_n hx hb d_M_constants_27 rfl (lv_at hl 1 rfl) ?_
      refine lv_bipush (v := nI 8) hx hb d_M_constants_28 (by decide +kernel) ?_
      have jn45_5 : ∀ (H : Heap) (locs : List Loc) (ls : Array Slot), sx_S g E E H0 H locs → lv_has ls 3 [(1, .int (nI (n3))), (2, .int (nI (i2))), (0, .ref o)] → W p l e rm_M_constants s m args below meth c H locs 0 0 Q (F0 m 45 ls []) := by
        intro  H locs ls  hS hl
        refine lv_iinc (v := nI (i2 + 1)) (lv' := [(2, .int (nI (i2 + 1))), (1, .int (nI (n3))), (0, .ref o)]) hx hb d_M_constants_45 hl (k := 1) rfl (sx_inc _ _) (by decide) rfl (fun ls hl => ?_)
        refine lv_goto (tgt := 4) hx hb d_M_constants_48 (by decide) ?_
        exact ih4 (i2 + 1) n3 _ _ _ (by omega) h_n3 hS (lv_sub hl [0, 1, 2] rfl)
      refine lv_icmp_ge (tgt := 45) hx hb d_M_constants_30 (by decide) (fun q30 => ?_) (fun q30 => ?_)
      · skip
        have q30 : 8 ≤ i2 := (nI_leI (a := 8) (b := i2) (by omega) (by omega)).mp q30
        exact jn45_5  _ _ _  hS (lv_sub hl [0, 1, 2] rfl)
      · skip
        have q30 : ¬ (8 ≤ i2) := fun z => q30 ((nI_leI (a := 8) (b := i2) (by omega) (by omega)).mpr z)
        refine lv_aload_n hx hb d_M_constants_33 rfl (lv_at hl 2 rfl) ?_
        refine sx_get EE (hS.1.ob hE hM.1) rfl i_M 47 (by decide) rfl fl_M_144 rfl d_M_constants_34 ?_
        refine lv_iload_n hx hb d_M_constants_37 rfl (lv_at hl 1 rfl) ?_
        refine lv_aload_n hx hb d_M_constants_38 rfl (lv_at hl 2 rfl) ?_
        refine lv_iload_n hx hb d_M_constants_39 rfl (lv_at hl 0 rfl) ?_
        refine lv_iconst (v := nI 2) hx hb d_M_constants_40 (by decide +kernel) ?_
        refine sx_gl (sx_runV (As := [.int (nI (n3)), .int (nI (2))]) (rest := [.int (nI (i2)), .ref (r 47)]) EE (hS.1.ob hE hM.1) rfl rfl (c_M_root (hM.kept hS.1 hE) hE hW (by omega)) w_M_245 rfl ⟨rfl, rfl⟩ ⟨Nat.le_of_ble_eq_true rfl, Nat.le_of_ble_eq_true rfl⟩ ⟨Nat.zero_le _, Nat.zero_le _⟩ hl.1 rfl (Nat.le_of_ble_eq_true rfl) d_M_constants_41) hS (fun w7 H locs hS => ?_)
        refine sx_last hx hb hG hS (mo_47 hM) (mow_47 hW) (sx_in (by omega) (by decide)) d_M_constants_44 (fun H locs hS => ?_)
        exact jn45_5  _ _ _  hS (lv_sub hl [0, 1, 2] rfl)
  exact lp4 (80) 0 1 _ _ _ (by omega) (by decide) hS (lv_sub hl [0, 1, 2] rfl)
end
section
abbrev rm_M_decode : Room := { frames := 4, cells := 0, slots := 0, locals := 109 }
set_option maxHeartbeats 4000000 in
set_option maxRecDepth 100000 in
theorem c_M_decode {l : Launch} {D : va_G} {g : ClassId → FieldType → Prop} {E : Nat → Prop} {H0 : Heap} {o : Nat} {r : Nat → Nat} {i : Nat → Int32} (hM : mo_ D g H0 o r i) (hE : ¬ E o) (hW : ∀ q ∈ mo_wr, E (r q.1)) : Met l y_M_decode (.code y_M_decode b_M_decode 2 (some .boolean) :: G_) rm_M_decode (sx_Pc [.ref o] H0 D g) (sx_Qz g E H0) 0 0 E := by
  refine sx_mz (own := R_M) (by decide) rfl rfl rfl (Nat.le_of_ble_eq_true rfl) ?_
  intro p e s m args below meth c Q ls EE hl hret
  obtain ⟨hx, hb, hml, hown, hts, hG, hK⟩ := id EE
  have hS : sx_S g E E H0 H0 [] := sx_S.rf
  have hl : lv_has ls 2 [(0, .ref o)] := hl
  refine lv_iconst (v := nI 0) hx hb d_M_decode_0 (by decide +kernel) ?_
  refine lv_istore_n (lv' := [(1, .int (nI (0))), (0, .ref o)]) hx hb d_M_decode_1 rfl hl (by decide) rfl (fun ls hl => ?_)
  have lp2 : ∀ (k i1 : Nat) (H : Heap) (locs : List Loc) (ls : Array Slot), i1 + k = 16 → sx_S g E E H0 H locs → lv_has ls 2 [(1, .int (nI (i1))), (0, .ref o)] → W p l e rm_M_decode s m args below meth c H locs 0 0 Q (F0 m 2 ls []) := by
    intro k
    induction k with
    | zero =>
      intro i1  H locs ls hi  hS hl
      refine lv_iload_n hx hb d_M_decode_2 rfl (lv_at hl 0 rfl) ?_
      refine lv_bipush (v := nI 16) hx hb d_M_decode_3 (by decide +kernel) ?_
      refine lv_icmp_ge (tgt := 70) hx hb d_M_decode_5 (by decide) (fun _ => ?_) (fun q => absurd (nI_le (by omega) (by omega)) q)
      refine lv_aload_n hx hb d_M_decode_70 rfl (lv_at hl 1 rfl) ?_
      refine sx_get EE (hS.1.ob hE hM.1) rfl i_M 21 (by decide) rfl fl_M_61 rfl d_M_decode_71 ?_
      refine lv_aload_n hx hb d_M_decode_74 rfl (lv_at hl 1 rfl) ?_
      refine sx_get EE (hS.1.ob hE hM.1) rfl i_M 10 (by decide) rfl fl_M_27 rfl d_M_decode_75 ?_
      refine sx_gn (sx_runS (As := [.ref (r 21), .ref (r 10)]) (rest := []) EE (c_M_below (hS.a (mo_21 hM)) (hS.a (mo_10 hM))) w_M_215 rfl ⟨rfl, rfl⟩ ⟨Nat.le_of_ble_eq_true rfl, Nat.le_of_ble_eq_true rfl⟩ ⟨Nat.zero_le _, Nat.zero_le _⟩ hl.1 rfl (Nat.le_of_ble_eq_true rfl) d_M_decode_78) hS (fun n2 h_n2 H locs hS => ?_)
      have h_n2 : n2 ≤ 1 := h_n2
      refine lv_if_ne (tgt := 86) hx hb d_M_decode_81 (by decide) (fun q81 => ?_) (fun q81 => ?_)
      · skip
        have q81 : ¬ (n2 = 0) := fun z => q81 ((nI_eq (a := n2) (b := 0) (by omega) (by omega)).mpr z)
        refine lv_aload_n hx hb d_M_decode_86 rfl (lv_at hl 1 rfl) ?_
        refine lv_aload_n hx hb d_M_decode_87 rfl (lv_at hl 1 rfl) ?_
        refine sx_get EE (hS.1.ob hE hM.1) rfl i_M 24 (by decide) rfl fl_M_70 rfl d_M_decode_88 ?_
        refine lv_aload_n hx hb d_M_decode_91 rfl (lv_at hl 1 rfl) ?_
        refine sx_get EE (hS.1.ob hE hM.1) rfl i_M 21 (by decide) rfl fl_M_61 rfl d_M_decode_92 ?_
        refine lv_aload_n hx hb d_M_decode_95 rfl (lv_at hl 1 rfl) ?_
        refine sx_get EE (hS.1.ob hE hM.1) rfl i_M 21 (by decide) rfl fl_M_61 rfl d_M_decode_96 ?_
        refine lv_aload_n hx hb d_M_decode_99 rfl (lv_at hl 1 rfl) ?_
        refine sx_get EE (hS.1.ob hE hM.1) rfl i_M 10 (by decide) rfl fl_M_27 rfl d_M_decode_100 ?_
        refine lv_aload_n hx hb d_M_decode_103 rfl (lv_at hl 1 rfl) ?_
        refine sx_get EE (hS.1.ob hE hM.1) rfl i_M 11 (by decide) rfl fl_M_31 rfl d_M_decode_104 ?_
        refine sx_gv (sx_runV (As := [.ref (r 24), .ref (r 21), .ref (r 21), .ref (r 10), .ref (r 11)]) (rest := []) EE (hS.1.ob hE hM.1) rfl rfl (c_M_times (hM.kept hS.1 hE) hE hW (hS.a (mo_24 hM)) (mow_24 hW) (hS.a (mo_21 hM)) (hS.a (mo_21 hM)) (hS.a (mo_10 hM)) (hS.a (mo_11 hM))) w_M_188 rfl ⟨rfl, rfl⟩ ⟨Nat.le_of_ble_eq_true rfl, Nat.le_of_ble_eq_true rfl⟩ ⟨Nat.zero_le _, Nat.zero_le _⟩ hl.1 rfl (Nat.le_of_ble_eq_true rfl) d_M_decode_107) hS (fun H locs hS => ?_)
        refine lv_aload_n hx hb d_M_decode_110 rfl (lv_at hl 1 rfl) ?_
        refine lv_aload_n hx hb d_M_decode_111 rfl (lv_at hl 1 rfl) ?_
        refine sx_get EE (hS.1.ob hE hM.1) rfl i_M 25 (by decide) rfl fl_M_73 rfl d_M_decode_112 ?_
        refine lv_aload_n hx hb d_M_decode_115 rfl (lv_at hl 1 rfl) ?_
        refine sx_get EE (hS.1.ob hE hM.1) rfl i_M 24 (by decide) rfl fl_M_70 rfl d_M_decode_116 ?_
        refine lv_aload_n hx hb d_M_decode_119 rfl (lv_at hl 1 rfl) ?_
        refine sx_get EE (hS.1.ob hE hM.1) rfl i_M 14 (by decide) rfl fl_M_40 rfl d_M_decode_120 ?_
        refine lv_aload_n hx hb d_M_decode_123 rfl (lv_at hl 1 rfl) ?_
        refine sx_get EE (hS.1.ob hE hM.1) rfl i_M 10 (by decide) rfl fl_M_27 rfl d_M_decode_124 ?_
        refine lv_aload_n hx hb d_M_decode_127 rfl (lv_at hl 1 rfl) ?_
        refine sx_get EE (hS.1.ob hE hM.1) rfl i_M 11 (by decide) rfl fl_M_31 rfl d_M_decode_128 ?_
        refine sx_gv (sx_runV (As := [.ref (r 25), .ref (r 24), .ref (r 14), .ref (r 10), .ref (r 11)]) (rest := []) EE (hS.1.ob hE hM.1) rfl rfl (c_M_times (hM.kept hS.1 hE) hE hW (hS.a (mo_25 hM)) (mow_25 hW) (hS.a (mo_24 hM)) (hS.a (mo_14 hM)) (hS.a (mo_10 hM)) (hS.a (mo_11 hM))) w_M_188 rfl ⟨rfl, rfl⟩ ⟨Nat.le_of_ble_eq_true rfl, Nat.le_of_ble_eq_true rfl⟩ ⟨Nat.zero_le _, Nat.zero_le _⟩ hl.1 rfl (Nat.le_of_ble_eq_true rfl) d_M_decode_131) hS (fun H locs hS => ?_)
        refine lv_aload_n hx hb d_M_decode_134 rfl (lv_at hl 1 rfl) ?_
        refine sx_get EE (hS.1.ob hE hM.1) rfl i_M 24 (by decide) rfl fl_M_70 rfl d_M_decode_135 ?_
        refine lv_aload_n hx hb d_M_decode_138 rfl (lv_at hl 1 rfl) ?_
        refine sx_get EE (hS.1.ob hE hM.1) rfl i_M 24 (by decide) rfl fl_M_70 rfl d_M_decode_139 ?_
        refine lv_aload_n hx hb d_M_decode_142 rfl (lv_at hl 1 rfl) ?_
        refine sx_get EE (hS.1.ob hE hM.1) rfl i_M 30 (by decide) rfl fl_M_88 rfl d_M_decode_143 ?_
        refine lv_aload_n hx hb d_M_decode_146 rfl (lv_at hl 1 rfl) ?_
        refine sx_get EE (hS.1.ob hE hM.1) rfl i_M 10 (by decide) rfl fl_M_27 rfl d_M_decode_147 ?_
        refine sx_gv (sx_runS (As := [.ref (r 24), .ref (r 24), .ref (r 30), .ref (r 10)]) (rest := []) EE (c_M_minus (hS.a (mo_24 hM)) (mow_24 hW) (hS.a (mo_24 hM)) (hS.a (mo_30 hM)) (hS.a (mo_10 hM))) w_M_192 rfl ⟨rfl, rfl⟩ ⟨Nat.le_of_ble_eq_true rfl, Nat.le_of_ble_eq_true rfl⟩ ⟨Nat.zero_le _, Nat.zero_le _⟩ hl.1 rfl (Nat.le_of_ble_eq_true rfl) d_M_decode_150) hS (fun H locs hS => ?_)
        refine lv_aload_n hx hb d_M_decode_153 rfl (lv_at hl 1 rfl) ?_
        refine sx_get EE (hS.1.ob hE hM.1) rfl i_M 25 (by decide) rfl fl_M_73 rfl d_M_decode_154 ?_
        refine lv_aload_n hx hb d_M_decode_157 rfl (lv_at hl 1 rfl) ?_
        refine sx_get EE (hS.1.ob hE hM.1) rfl i_M 25 (by decide) rfl fl_M_73 rfl d_M_decode_158 ?_
        refine lv_aload_n hx hb d_M_decode_161 rfl (lv_at hl 1 rfl) ?_
        refine sx_get EE (hS.1.ob hE hM.1) rfl i_M 30 (by decide) rfl fl_M_88 rfl d_M_decode_162 ?_
        refine lv_aload_n hx hb d_M_decode_165 rfl (lv_at hl 1 rfl) ?_
        refine sx_get EE (hS.1.ob hE hM.1) rfl i_M 10 (by decide) rfl fl_M_27 rfl d_M_decode_166 ?_
        refine sx_gv (sx_runS (As := [.ref (r 25), .ref (r 25), .ref (r 30), .ref (r 10)]) (rest := []) EE (c_M_plus (hS.a (mo_25 hM)) (mow_25 hW) (hS.a (mo_25 hM)) (hS.a (mo_30 hM)) (hS.a (mo_10 hM))) w_M_222 rfl ⟨rfl, rfl⟩ ⟨Nat.le_of_ble_eq_true rfl, Nat.le_of_ble_eq_true rfl⟩ ⟨Nat.zero_le _, Nat.zero_le _⟩ hl.1 rfl (Nat.le_of_ble_eq_true rfl) d_M_decode_169) hS (fun H locs hS => ?_)
        refine lv_aload_n hx hb d_M_decode_172 rfl (lv_at hl 1 rfl) ?_
        refine lv_aload_n hx hb d_M_decode_173 rfl (lv_at hl 1 rfl) ?_
        refine sx_get EE (hS.1.ob hE hM.1) rfl i_M 26 (by decide) rfl fl_M_76 rfl d_M_decode_174 ?_
        refine lv_aload_n hx hb d_M_decode_177 rfl (lv_at hl 1 rfl) ?_
        refine sx_get EE (hS.1.ob hE hM.1) rfl i_M 25 (by decide) rfl fl_M_73 rfl d_M_decode_178 ?_
        refine lv_aload_n hx hb d_M_decode_181 rfl (lv_at hl 1 rfl) ?_
        refine sx_get EE (hS.1.ob hE hM.1) rfl i_M 10 (by decide) rfl fl_M_27 rfl d_M_decode_182 ?_
        refine sx_gv (sx_runV (As := [.ref (r 26), .ref (r 25), .ref (r 10)]) (rest := []) EE (hS.1.ob hE hM.1) rfl rfl (c_M_inverse (hM.kept hS.1 hE) hE hW (hS.a (mo_26 hM)) (mow_26 hW) (hS.a (mo_25 hM)) (hS.a (mo_10 hM))) w_M_185 rfl ⟨rfl, rfl⟩ ⟨Nat.le_of_ble_eq_true rfl, Nat.le_of_ble_eq_true rfl⟩ ⟨Nat.zero_le _, Nat.zero_le _⟩ hl.1 rfl (Nat.le_of_ble_eq_true rfl) d_M_decode_185) hS (fun H locs hS => ?_)
        refine lv_aload_n hx hb d_M_decode_188 rfl (lv_at hl 1 rfl) ?_
        refine lv_aload_n hx hb d_M_decode_189 rfl (lv_at hl 1 rfl) ?_
        refine sx_get EE (hS.1.ob hE hM.1) rfl i_M 24 (by decide) rfl fl_M_70 rfl d_M_decode_190 ?_
        refine lv_aload_n hx hb d_M_decode_193 rfl (lv_at hl 1 rfl) ?_
        refine sx_get EE (hS.1.ob hE hM.1) rfl i_M 24 (by decide) rfl fl_M_70 rfl d_M_decode_194 ?_
        refine lv_aload_n hx hb d_M_decode_197 rfl (lv_at hl 1 rfl) ?_
        refine sx_get EE (hS.1.ob hE hM.1) rfl i_M 26 (by decide) rfl fl_M_76 rfl d_M_decode_198 ?_
        refine lv_aload_n hx hb d_M_decode_201 rfl (lv_at hl 1 rfl) ?_
        refine sx_get EE (hS.1.ob hE hM.1) rfl i_M 10 (by decide) rfl fl_M_27 rfl d_M_decode_202 ?_
        refine lv_aload_n hx hb d_M_decode_205 rfl (lv_at hl 1 rfl) ?_
        refine sx_get EE (hS.1.ob hE hM.1) rfl i_M 11 (by decide) rfl fl_M_31 rfl d_M_decode_206 ?_
        refine sx_gv (sx_runV (As := [.ref (r 24), .ref (r 24), .ref (r 26), .ref (r 10), .ref (r 11)]) (rest := []) EE (hS.1.ob hE hM.1) rfl rfl (c_M_times (hM.kept hS.1 hE) hE hW (hS.a (mo_24 hM)) (mow_24 hW) (hS.a (mo_24 hM)) (hS.a (mo_26 hM)) (hS.a (mo_10 hM)) (hS.a (mo_11 hM))) w_M_188 rfl ⟨rfl, rfl⟩ ⟨Nat.le_of_ble_eq_true rfl, Nat.le_of_ble_eq_true rfl⟩ ⟨Nat.zero_le _, Nat.zero_le _⟩ hl.1 rfl (Nat.le_of_ble_eq_true rfl) d_M_decode_209) hS (fun H locs hS => ?_)
        refine lv_iconst (v := nI 0) hx hb d_M_decode_212 (by decide +kernel) ?_
        refine lv_istore_n (lv' := [(1, .int (nI (0))), (0, .ref o)]) hx hb d_M_decode_213 rfl hl (by decide) rfl (fun ls hl => ?_)
        have lp214 : ∀ (k i3 : Nat) (H : Heap) (locs : List Loc) (ls : Array Slot), i3 + k = 16 → sx_S g E E H0 H locs → lv_has ls 2 [(1, .int (nI (i3))), (0, .ref o)] → W p l e rm_M_decode s m args below meth c H locs 0 0 Q (F0 m 214 ls []) := by
          intro k
          induction k with
          | zero =>
            intro i3  H locs ls hi  hS hl
            refine lv_iload_n hx hb d_M_decode_214 rfl (lv_at hl 0 rfl) ?_
            refine lv_bipush (v := nI 16) hx hb d_M_decode_215 (by decide +kernel) ?_
            refine lv_icmp_ge (tgt := 257) hx hb d_M_decode_217 (by decide) (fun _ => ?_) (fun q => absurd (nI_le (by omega) (by omega)) q)
            refine lv_aload_n hx hb d_M_decode_257 rfl (lv_at hl 1 rfl) ?_
            refine lv_aload_n hx hb d_M_decode_258 rfl (lv_at hl 1 rfl) ?_
            refine sx_get EE (hS.1.ob hE hM.1) rfl i_M 20 (by decide) rfl fl_M_58 rfl d_M_decode_259 ?_
            refine lv_aload_n hx hb d_M_decode_262 rfl (lv_at hl 1 rfl) ?_
            refine sx_get EE (hS.1.ob hE hM.1) rfl i_M 24 (by decide) rfl fl_M_70 rfl d_M_decode_263 ?_
            refine lv_aload_n hx hb d_M_decode_266 rfl (lv_at hl 1 rfl) ?_
            refine sx_get EE (hS.1.ob hE hM.1) rfl i_M 27 (by decide) rfl fl_M_79 rfl d_M_decode_267 ?_
            refine sx_gv (sx_runV (As := [.ref (r 20), .ref (r 24), .ref (r 27)]) (rest := []) EE (hS.1.ob hE hM.1) rfl rfl (c_M_power (hM.kept hS.1 hE) hE hW (hS.a (mo_20 hM)) (mow_20 hW) (hS.a (mo_24 hM)) (hS.a (mo_27 hM))) w_M_200 rfl ⟨rfl, rfl⟩ ⟨Nat.le_of_ble_eq_true rfl, Nat.le_of_ble_eq_true rfl⟩ ⟨Nat.zero_le _, Nat.zero_le _⟩ hl.1 rfl (Nat.le_of_ble_eq_true rfl) d_M_decode_270) hS (fun H locs hS => ?_)
            refine lv_aload_n hx hb d_M_decode_273 rfl (lv_at hl 1 rfl) ?_
            refine lv_aload_n hx hb d_M_decode_274 rfl (lv_at hl 1 rfl) ?_
            refine sx_get EE (hS.1.ob hE hM.1) rfl i_M 26 (by decide) rfl fl_M_76 rfl d_M_decode_275 ?_
            refine lv_aload_n hx hb d_M_decode_278 rfl (lv_at hl 1 rfl) ?_
            refine sx_get EE (hS.1.ob hE hM.1) rfl i_M 20 (by decide) rfl fl_M_58 rfl d_M_decode_279 ?_
            refine lv_aload_n hx hb d_M_decode_282 rfl (lv_at hl 1 rfl) ?_
            refine sx_get EE (hS.1.ob hE hM.1) rfl i_M 20 (by decide) rfl fl_M_58 rfl d_M_decode_283 ?_
            refine lv_aload_n hx hb d_M_decode_286 rfl (lv_at hl 1 rfl) ?_
            refine sx_get EE (hS.1.ob hE hM.1) rfl i_M 10 (by decide) rfl fl_M_27 rfl d_M_decode_287 ?_
            refine lv_aload_n hx hb d_M_decode_290 rfl (lv_at hl 1 rfl) ?_
            refine sx_get EE (hS.1.ob hE hM.1) rfl i_M 11 (by decide) rfl fl_M_31 rfl d_M_decode_291 ?_
            refine sx_gv (sx_runV (As := [.ref (r 26), .ref (r 20), .ref (r 20), .ref (r 10), .ref (r 11)]) (rest := []) EE (hS.1.ob hE hM.1) rfl rfl (c_M_times (hM.kept hS.1 hE) hE hW (hS.a (mo_26 hM)) (mow_26 hW) (hS.a (mo_20 hM)) (hS.a (mo_20 hM)) (hS.a (mo_10 hM)) (hS.a (mo_11 hM))) w_M_188 rfl ⟨rfl, rfl⟩ ⟨Nat.le_of_ble_eq_true rfl, Nat.le_of_ble_eq_true rfl⟩ ⟨Nat.zero_le _, Nat.zero_le _⟩ hl.1 rfl (Nat.le_of_ble_eq_true rfl) d_M_decode_294) hS (fun H locs hS => ?_)
            refine lv_aload_n hx hb d_M_decode_297 rfl (lv_at hl 1 rfl) ?_
            refine sx_get EE (hS.1.ob hE hM.1) rfl i_M 26 (by decide) rfl fl_M_76 rfl d_M_decode_298 ?_
            refine lv_aload_n hx hb d_M_decode_301 rfl (lv_at hl 1 rfl) ?_
            refine sx_get EE (hS.1.ob hE hM.1) rfl i_M 24 (by decide) rfl fl_M_70 rfl d_M_decode_302 ?_
            refine sx_gn (sx_runS (As := [.ref (r 26), .ref (r 24)]) (rest := []) EE (c_M_alike (hS.a (mo_26 hM)) (hS.a (mo_24 hM))) w_M_281 rfl ⟨rfl, rfl⟩ ⟨Nat.le_of_ble_eq_true rfl, Nat.le_of_ble_eq_true rfl⟩ ⟨Nat.zero_le _, Nat.zero_le _⟩ hl.1 rfl (Nat.le_of_ble_eq_true rfl) d_M_decode_305) hS (fun n4 h_n4 H locs hS => ?_)
            have h_n4 : n4 ≤ 1 := h_n4
            have jn335_4 : ∀ (H : Heap) (locs : List Loc) (ls : Array Slot), sx_S g E E H0 H locs → lv_has ls 2 [(1, .int (nI (i3))), (0, .ref o)] → W p l e rm_M_decode s m args below meth c H locs 0 0 Q (F0 m 335 ls []) := by
              intro  H locs ls  hS hl
              refine lv_aload_n hx hb d_M_decode_335 rfl (lv_at hl 1 rfl) ?_
              refine lv_aload_n hx hb d_M_decode_336 rfl (lv_at hl 1 rfl) ?_
              refine sx_get EE (hS.1.ob hE hM.1) rfl i_M 26 (by decide) rfl fl_M_76 rfl d_M_decode_337 ?_
              refine lv_aload_n hx hb d_M_decode_340 rfl (lv_at hl 1 rfl) ?_
              refine sx_get EE (hS.1.ob hE hM.1) rfl i_M 20 (by decide) rfl fl_M_58 rfl d_M_decode_341 ?_
              refine lv_aload_n hx hb d_M_decode_344 rfl (lv_at hl 1 rfl) ?_
              refine sx_get EE (hS.1.ob hE hM.1) rfl i_M 20 (by decide) rfl fl_M_58 rfl d_M_decode_345 ?_
              refine lv_aload_n hx hb d_M_decode_348 rfl (lv_at hl 1 rfl) ?_
              refine sx_get EE (hS.1.ob hE hM.1) rfl i_M 10 (by decide) rfl fl_M_27 rfl d_M_decode_349 ?_
              refine lv_aload_n hx hb d_M_decode_352 rfl (lv_at hl 1 rfl) ?_
              refine sx_get EE (hS.1.ob hE hM.1) rfl i_M 11 (by decide) rfl fl_M_31 rfl d_M_decode_353 ?_
              refine sx_gv (sx_runV (As := [.ref (r 26), .ref (r 20), .ref (r 20), .ref (r 10), .ref (r 11)]) (rest := []) EE (hS.1.ob hE hM.1) rfl rfl (c_M_times (hM.kept hS.1 hE) hE hW (hS.a (mo_26 hM)) (mow_26 hW) (hS.a (mo_20 hM)) (hS.a (mo_20 hM)) (hS.a (mo_10 hM)) (hS.a (mo_11 hM))) w_M_188 rfl ⟨rfl, rfl⟩ ⟨Nat.le_of_ble_eq_true rfl, Nat.le_of_ble_eq_true rfl⟩ ⟨Nat.zero_le _, Nat.zero_le _⟩ hl.1 rfl (Nat.le_of_ble_eq_true rfl) d_M_decode_356) hS (fun H locs hS => ?_)
              refine lv_aload_n hx hb d_M_decode_359 rfl (lv_at hl 1 rfl) ?_
              refine sx_get EE (hS.1.ob hE hM.1) rfl i_M 26 (by decide) rfl fl_M_76 rfl d_M_decode_360 ?_
              refine lv_aload_n hx hb d_M_decode_363 rfl (lv_at hl 1 rfl) ?_
              refine sx_get EE (hS.1.ob hE hM.1) rfl i_M 24 (by decide) rfl fl_M_70 rfl d_M_decode_364 ?_
              refine sx_gn (sx_runS (As := [.ref (r 26), .ref (r 24)]) (rest := []) EE (c_M_alike (hS.a (mo_26 hM)) (hS.a (mo_24 hM))) w_M_281 rfl ⟨rfl, rfl⟩ ⟨Nat.le_of_ble_eq_true rfl, Nat.le_of_ble_eq_true rfl⟩ ⟨Nat.zero_le _, Nat.zero_le _⟩ hl.1 rfl (Nat.le_of_ble_eq_true rfl) d_M_decode_367) hS (fun n6 h_n6 H locs hS => ?_)
              have h_n6 : n6 ≤ 1 := h_n6
              refine lv_if_ne (tgt := 375) hx hb d_M_decode_370 (by decide) (fun q370 => ?_) (fun q370 => ?_)
              · skip
                have q370 : ¬ (n6 = 0) := fun z => q370 ((nI_eq (a := n6) (b := 0) (by omega) (by omega)).mpr z)
                refine lv_aload_n hx hb d_M_decode_375 rfl (lv_at hl 1 rfl) ?_
                refine sx_get EE (hS.1.ob hE hM.1) rfl i_M 35 (by decide) rfl fl_M_103 rfl d_M_decode_376 ?_
                refine lv_bipush (v := nI 31) hx hb d_M_decode_379 (by decide +kernel) ?_
                refine sx_bald hx hb hG hS (mo_35 hM) (sx_in (by omega) (by decide)) d_M_decode_381 (fun z7 => ?_)
                refine lv_bipush (v := nI 7) hx hb d_M_decode_382 (by decide +kernel) ?_
                refine sx_ishr hx hb d_M_decode_384 (fun x8 => ?_)
                refine lv_iconst (v := nI 1) hx hb d_M_decode_385 (by decide +kernel) ?_
                refine sx_iand hx hb d_M_decode_386 (fun x9 => ?_)
                refine lv_istore_n (lv' := [(1, .int x9), (0, .ref o)]) hx hb d_M_decode_387 rfl hl (by decide) rfl (fun ls hl => ?_)
                refine lv_aload_n hx hb d_M_decode_388 rfl (lv_at hl 1 rfl) ?_
                refine sx_get EE (hS.1.ob hE hM.1) rfl i_M 20 (by decide) rfl fl_M_58 rfl d_M_decode_389 ?_
                refine sx_gn (sx_runS (As := [.ref (r 20)]) (rest := []) EE (c_M_zero (hS.a (mo_20 hM))) w_M_228 rfl ⟨rfl, rfl⟩ ⟨Nat.le_of_ble_eq_true rfl, Nat.le_of_ble_eq_true rfl⟩ ⟨Nat.zero_le _, Nat.zero_le _⟩ hl.1 rfl (Nat.le_of_ble_eq_true rfl) d_M_decode_392) hS (fun n10 h_n10 H locs hS => ?_)
                have h_n10 : n10 ≤ 1 := h_n10
                refine lv_if_eq (tgt := 405) hx hb d_M_decode_395 (by decide) (fun q395 => ?_) (fun q395 => ?_)
                · skip
                  have q395 : n10 = 0 := (nI_eq (a := n10) (b := 0) (by omega) (by omega)).mp q395
                  refine lv_aload_n hx hb d_M_decode_405 rfl (lv_at hl 1 rfl) ?_
                  refine sx_get EE (hS.1.ob hE hM.1) rfl i_M 20 (by decide) rfl fl_M_58 rfl d_M_decode_406 ?_
                  refine lv_iconst (v := nI 0) hx hb d_M_decode_409 (by decide +kernel) ?_
                  refine sx_lald hx hb hG hS (mo_20 hM) (sx_in (by omega) (by decide)) d_M_decode_410 (fun z11 => ?_)
                  refine lv_lconst (v := 1) hx hb d_M_decode_411 (by decide +kernel) ?_
                  refine sx_land hx hb d_M_decode_412 (fun z12 => ?_)
                  refine lv_iload_n hx hb d_M_decode_413 rfl (lv_at hl 0 rfl) ?_
                  refine sx_i2l hx hb d_M_decode_414 (fun z13 => ?_)
                  refine sx_lcmp hx hb d_M_decode_415 (fun z14 => ?_)
                  have jn446_14 : ∀ (H : Heap) (locs : List Loc) (ls : Array Slot), sx_S g E E H0 H locs → lv_has ls 2 [(1, .int x9), (0, .ref o)] → W p l e rm_M_decode s m args below meth c H locs 0 0 Q (F0 m 446 ls []) := by
                    intro  H locs ls  hS hl
                    refine lv_iconst (v := nI 1) hx hb d_M_decode_446 (by decide +kernel) ?_
                    exact hret _ _ _ _ (1) (by omega) hS d_M_decode_447
                  refine lv_if_eq (tgt := 446) hx hb d_M_decode_416 (by decide) (fun _ => ?_) (fun _ => ?_)
                  · skip
                    exact jn446_14  _ _ _  hS (lv_sub hl [0, 1] rfl)
                  · skip
                    refine lv_aload_n hx hb d_M_decode_419 rfl (lv_at hl 1 rfl) ?_
                    refine sx_get EE (hS.1.ob hE hM.1) rfl i_M 26 (by decide) rfl fl_M_76 rfl d_M_decode_420 ?_
                    refine lv_iconst (v := nI 0) hx hb d_M_decode_423 (by decide +kernel) ?_
                    refine sx_gv (sx_runS (As := [.ref (r 26), .int (nI (0))]) (rest := []) EE (c_M_set (hS.a (mo_26 hM)) (mow_26 hW)) w_M_177 rfl ⟨rfl, rfl⟩ ⟨Nat.le_of_ble_eq_true rfl, Nat.le_of_ble_eq_true rfl⟩ ⟨Nat.zero_le _, Nat.zero_le _⟩ hl.1 rfl (Nat.le_of_ble_eq_true rfl) d_M_decode_424) hS (fun H locs hS => ?_)
                    refine lv_aload_n hx hb d_M_decode_427 rfl (lv_at hl 1 rfl) ?_
                    refine sx_get EE (hS.1.ob hE hM.1) rfl i_M 20 (by decide) rfl fl_M_58 rfl d_M_decode_428 ?_
                    refine lv_aload_n hx hb d_M_decode_431 rfl (lv_at hl 1 rfl) ?_
                    refine sx_get EE (hS.1.ob hE hM.1) rfl i_M 26 (by decide) rfl fl_M_76 rfl d_M_decode_432 ?_
                    refine lv_aload_n hx hb d_M_decode_435 rfl (lv_at hl 1 rfl) ?_
                    refine sx_get EE (hS.1.ob hE hM.1) rfl i_M 20 (by decide) rfl fl_M_58 rfl d_M_decode_436 ?_
                    refine lv_aload_n hx hb d_M_decode_439 rfl (lv_at hl 1 rfl) ?_
                    refine sx_get EE (hS.1.ob hE hM.1) rfl i_M 10 (by decide) rfl fl_M_27 rfl d_M_decode_440 ?_
                    refine sx_gv (sx_runS (As := [.ref (r 20), .ref (r 26), .ref (r 20), .ref (r 10)]) (rest := []) EE (c_M_minus (hS.a (mo_20 hM)) (mow_20 hW) (hS.a (mo_26 hM)) (hS.a (mo_20 hM)) (hS.a (mo_10 hM))) w_M_192 rfl ⟨rfl, rfl⟩ ⟨Nat.le_of_ble_eq_true rfl, Nat.le_of_ble_eq_true rfl⟩ ⟨Nat.zero_le _, Nat.zero_le _⟩ hl.1 rfl (Nat.le_of_ble_eq_true rfl) d_M_decode_443) hS (fun H locs hS => ?_)
                    exact jn446_14  _ _ _  hS (lv_sub hl [0, 1] rfl)
                · skip
                  have q395 : ¬ (n10 = 0) := fun z => q395 ((nI_eq (a := n10) (b := 0) (by omega) (by omega)).mpr z)
                  refine lv_iload_n hx hb d_M_decode_398 rfl (lv_at hl 0 rfl) ?_
                  refine lv_iconst (v := nI 1) hx hb d_M_decode_399 (by decide +kernel) ?_
                  refine lv_icmp_ne (tgt := 405) hx hb d_M_decode_400 (by decide) (fun _ => ?_) (fun _ => ?_)
                  · skip
                    refine lv_aload_n hx hb d_M_decode_405 rfl (lv_at hl 1 rfl) ?_
                    refine sx_get EE (hS.1.ob hE hM.1) rfl i_M 20 (by decide) rfl fl_M_58 rfl d_M_decode_406 ?_
                    refine lv_iconst (v := nI 0) hx hb d_M_decode_409 (by decide +kernel) ?_
                    refine sx_lald hx hb hG hS (mo_20 hM) (sx_in (by omega) (by decide)) d_M_decode_410 (fun z16 => ?_)
                    refine lv_lconst (v := 1) hx hb d_M_decode_411 (by decide +kernel) ?_
                    refine sx_land hx hb d_M_decode_412 (fun z17 => ?_)
                    refine lv_iload_n hx hb d_M_decode_413 rfl (lv_at hl 0 rfl) ?_
                    refine sx_i2l hx hb d_M_decode_414 (fun z18 => ?_)
                    refine sx_lcmp hx hb d_M_decode_415 (fun z19 => ?_)
                    have jn446_19 : ∀ (H : Heap) (locs : List Loc) (ls : Array Slot), sx_S g E E H0 H locs → lv_has ls 2 [(1, .int x9), (0, .ref o)] → W p l e rm_M_decode s m args below meth c H locs 0 0 Q (F0 m 446 ls []) := by
                      intro  H locs ls  hS hl
                      refine lv_iconst (v := nI 1) hx hb d_M_decode_446 (by decide +kernel) ?_
                      exact hret _ _ _ _ (1) (by omega) hS d_M_decode_447
                    refine lv_if_eq (tgt := 446) hx hb d_M_decode_416 (by decide) (fun _ => ?_) (fun _ => ?_)
                    · skip
                      exact jn446_19  _ _ _  hS (lv_sub hl [0, 1] rfl)
                    · skip
                      refine lv_aload_n hx hb d_M_decode_419 rfl (lv_at hl 1 rfl) ?_
                      refine sx_get EE (hS.1.ob hE hM.1) rfl i_M 26 (by decide) rfl fl_M_76 rfl d_M_decode_420 ?_
                      refine lv_iconst (v := nI 0) hx hb d_M_decode_423 (by decide +kernel) ?_
                      refine sx_gv (sx_runS (As := [.ref (r 26), .int (nI (0))]) (rest := []) EE (c_M_set (hS.a (mo_26 hM)) (mow_26 hW)) w_M_177 rfl ⟨rfl, rfl⟩ ⟨Nat.le_of_ble_eq_true rfl, Nat.le_of_ble_eq_true rfl⟩ ⟨Nat.zero_le _, Nat.zero_le _⟩ hl.1 rfl (Nat.le_of_ble_eq_true rfl) d_M_decode_424) hS (fun H locs hS => ?_)
                      refine lv_aload_n hx hb d_M_decode_427 rfl (lv_at hl 1 rfl) ?_
                      refine sx_get EE (hS.1.ob hE hM.1) rfl i_M 20 (by decide) rfl fl_M_58 rfl d_M_decode_428 ?_
                      refine lv_aload_n hx hb d_M_decode_431 rfl (lv_at hl 1 rfl) ?_
                      refine sx_get EE (hS.1.ob hE hM.1) rfl i_M 26 (by decide) rfl fl_M_76 rfl d_M_decode_432 ?_
                      refine lv_aload_n hx hb d_M_decode_435 rfl (lv_at hl 1 rfl) ?_
                      refine sx_get EE (hS.1.ob hE hM.1) rfl i_M 20 (by decide) rfl fl_M_58 rfl d_M_decode_436 ?_
                      refine lv_aload_n hx hb d_M_decode_439 rfl (lv_at hl 1 rfl) ?_
                      refine sx_get EE (hS.1.ob hE hM.1) rfl i_M 10 (by decide) rfl fl_M_27 rfl d_M_decode_440 ?_
                      refine sx_gv (sx_runS (As := [.ref (r 20), .ref (r 26), .ref (r 20), .ref (r 10)]) (rest := []) EE (c_M_minus (hS.a (mo_20 hM)) (mow_20 hW) (hS.a (mo_26 hM)) (hS.a (mo_20 hM)) (hS.a (mo_10 hM))) w_M_192 rfl ⟨rfl, rfl⟩ ⟨Nat.le_of_ble_eq_true rfl, Nat.le_of_ble_eq_true rfl⟩ ⟨Nat.zero_le _, Nat.zero_le _⟩ hl.1 rfl (Nat.le_of_ble_eq_true rfl) d_M_decode_443) hS (fun H locs hS => ?_)
                      exact jn446_19  _ _ _  hS (lv_sub hl [0, 1] rfl)
                  · skip
                    refine lv_iconst (v := nI 0) hx hb d_M_decode_403 (by decide +kernel) ?_
                    exact hret _ _ _ _ (0) (by omega) hS d_M_decode_404
              · skip
                have q370 : n6 = 0 := (nI_eq (a := n6) (b := 0) (by omega) (by omega)).mp q370
                refine lv_iconst (v := nI 0) hx hb d_M_decode_373 (by decide +kernel) ?_
                exact hret _ _ _ _ (0) (by omega) hS d_M_decode_374
            refine lv_if_ne (tgt := 335) hx hb d_M_decode_308 (by decide) (fun q308 => ?_) (fun q308 => ?_)
            · skip
              have q308 : ¬ (n4 = 0) := fun z => q308 ((nI_eq (a := n4) (b := 0) (by omega) (by omega)).mpr z)
              exact jn335_4  _ _ _  hS (lv_sub hl [0, 1] rfl)
            · skip
              have q308 : n4 = 0 := (nI_eq (a := n4) (b := 0) (by omega) (by omega)).mp q308
              refine lv_aload_n hx hb d_M_decode_311 rfl (lv_at hl 1 rfl) ?_
              refine lv_aload_n hx hb d_M_decode_312 rfl (lv_at hl 1 rfl) ?_
              refine sx_get EE (hS.1.ob hE hM.1) rfl i_M 20 (by decide) rfl fl_M_58 rfl d_M_decode_313 ?_
              refine lv_aload_n hx hb d_M_decode_316 rfl (lv_at hl 1 rfl) ?_
              refine sx_get EE (hS.1.ob hE hM.1) rfl i_M 20 (by decide) rfl fl_M_58 rfl d_M_decode_317 ?_
              refine lv_aload_n hx hb d_M_decode_320 rfl (lv_at hl 1 rfl) ?_
              refine sx_get EE (hS.1.ob hE hM.1) rfl i_M 15 (by decide) rfl fl_M_43 rfl d_M_decode_321 ?_
              refine lv_aload_n hx hb d_M_decode_324 rfl (lv_at hl 1 rfl) ?_
              refine sx_get EE (hS.1.ob hE hM.1) rfl i_M 10 (by decide) rfl fl_M_27 rfl d_M_decode_325 ?_
              refine lv_aload_n hx hb d_M_decode_328 rfl (lv_at hl 1 rfl) ?_
              refine sx_get EE (hS.1.ob hE hM.1) rfl i_M 11 (by decide) rfl fl_M_31 rfl d_M_decode_329 ?_
              refine sx_gv (sx_runV (As := [.ref (r 20), .ref (r 20), .ref (r 15), .ref (r 10), .ref (r 11)]) (rest := []) EE (hS.1.ob hE hM.1) rfl rfl (c_M_times (hM.kept hS.1 hE) hE hW (hS.a (mo_20 hM)) (mow_20 hW) (hS.a (mo_20 hM)) (hS.a (mo_15 hM)) (hS.a (mo_10 hM)) (hS.a (mo_11 hM))) w_M_188 rfl ⟨rfl, rfl⟩ ⟨Nat.le_of_ble_eq_true rfl, Nat.le_of_ble_eq_true rfl⟩ ⟨Nat.zero_le _, Nat.zero_le _⟩ hl.1 rfl (Nat.le_of_ble_eq_true rfl) d_M_decode_332) hS (fun H locs hS => ?_)
              exact jn335_4  _ _ _  hS (lv_sub hl [0, 1] rfl)
          | succ k ih214 =>
            intro i3  H locs ls hi  hS hl
            refine lv_iload_n hx hb d_M_decode_214 rfl (lv_at hl 0 rfl) ?_
            refine lv_bipush (v := nI 16) hx hb d_M_decode_215 (by decide +kernel) ?_
            refine lv_icmp_ge (tgt := 257) hx hb d_M_decode_217 (by decide) (fun q => absurd q (nI_ge (by omega) (by omega))) (fun _ => ?_)
            refine lv_aload_n hx hb d_M_decode_220 rfl (lv_at hl 1 rfl) ?_
            refine sx_get EE (hS.1.ob hE hM.1) rfl i_M 27 (by decide) rfl fl_M_79 rfl d_M_decode_221 ?_
            refine lv_iload_n hx hb d_M_decode_224 rfl (lv_at hl 0 rfl) ?_
            refine lv_iload_n hx hb d_M_decode_225 rfl (lv_at hl 0 rfl) ?_
            have jn250_21 : ∀ (w21 : Int64) (H : Heap) (locs : List Loc) (ls : Array Slot), sx_S g E E H0 H locs → lv_has ls 2 [(1, .int (nI (i3))), (0, .ref o)] → W p l e rm_M_decode s m args below meth c H locs 0 0 Q (F0 m 250 ls [.long w21, .int (nI (i3)), .ref (r 27)]) := by
              intro w21 H locs ls  hS hl
              refine sx_last hx hb hG hS (mo_27 hM) (mow_27 hW) (sx_in (by omega) (by decide)) d_M_decode_250 (fun H locs hS => ?_)
              refine lv_iinc (v := nI (i3 + 1)) (lv' := [(1, .int (nI (i3 + 1))), (0, .ref o)]) hx hb d_M_decode_251 hl (k := 0) rfl (sx_inc _ _) (by decide) rfl (fun ls hl => ?_)
              refine lv_goto (tgt := 214) hx hb d_M_decode_254 (by decide) ?_
              exact ih214 (i3 + 1)  _ _ _ (by omega)  hS (lv_sub hl [0, 1] rfl)
            refine lv_if_ne (tgt := 235) hx hb d_M_decode_226 (by decide) (fun q226 => ?_) (fun q226 => ?_)
            · skip
              have q226 : ¬ (i3 = 0) := fun z => q226 ((nI_eq (a := i3) (b := 0) (by omega) (by omega)).mpr z)
              refine lv_iload_n hx hb d_M_decode_235 rfl (lv_at hl 0 rfl) ?_
              refine lv_bipush (v := nI 15) hx hb d_M_decode_236 (by decide +kernel) ?_
              refine lv_icmp_ne (tgt := 247) hx hb d_M_decode_238 (by decide) (fun q238 => ?_) (fun q238 => ?_)
              · skip
                have q238 : ¬ (i3 = 15) := fun z => q238 ((nI_eq (a := i3) (b := 15) (by omega) (by omega)).mpr z)
                refine lv_ldc2 (v := (65535)) hx hb hown (hts (.constantLong R_M 169 (65535)) (by decide +kernel)) d_M_decode_247 ?_
                exact jn250_21 ((65535)) _ _ _  hS (lv_sub hl [0, 1] rfl)
              · skip
                have q238 : i3 = 15 := (nI_eq (a := i3) (b := 15) (by omega) (by omega)).mp q238
                refine lv_ldc2 (v := (4095)) hx hb hown (hts (.constantLong R_M 279 (4095)) (by decide +kernel)) d_M_decode_241 ?_
                refine lv_goto (tgt := 250) hx hb d_M_decode_244 (by decide) ?_
                exact jn250_21 ((4095)) _ _ _  hS (lv_sub hl [0, 1] rfl)
            · skip
              have q226 : i3 = 0 := (nI_eq (a := i3) (b := 0) (by omega) (by omega)).mp q226
              refine lv_ldc2 (v := (65534)) hx hb hown (hts (.constantLong R_M 277 (65534)) (by decide +kernel)) d_M_decode_229 ?_
              refine lv_goto (tgt := 250) hx hb d_M_decode_232 (by decide) ?_
              exact jn250_21 ((65534)) _ _ _  hS (lv_sub hl [0, 1] rfl)
        exact lp214 (16) 0  _ _ _ (by omega)  hS (lv_sub hl [0, 1] rfl)
      · skip
        have q81 : n2 = 0 := (nI_eq (a := n2) (b := 0) (by omega) (by omega)).mp q81
        refine lv_iconst (v := nI 0) hx hb d_M_decode_84 (by decide +kernel) ?_
        exact hret _ _ _ _ (0) (by omega) hS d_M_decode_85
    | succ k ih2 =>
      intro i1  H locs ls hi  hS hl
      refine lv_iload_n hx hb d_M_decode_2 rfl (lv_at hl 0 rfl) ?_
      refine lv_bipush (v := nI 16) hx hb d_M_decode_3 (by decide +kernel) ?_
      refine lv_icmp_ge (tgt := 70) hx hb d_M_decode_5 (by decide) (fun q => absurd q (nI_ge (by omega) (by omega))) (fun _ => ?_)
      refine lv_aload_n hx hb d_M_decode_8 rfl (lv_at hl 1 rfl) ?_
      refine sx_get EE (hS.1.ob hE hM.1) rfl i_M 21 (by decide) rfl fl_M_61 rfl d_M_decode_9 ?_
      refine lv_iload_n hx hb d_M_decode_12 rfl (lv_at hl 0 rfl) ?_
      refine lv_aload_n hx hb d_M_decode_13 rfl (lv_at hl 1 rfl) ?_
      refine sx_get EE (hS.1.ob hE hM.1) rfl i_M 35 (by decide) rfl fl_M_103 rfl d_M_decode_14 ?_
      refine lv_iconst (v := nI 2) hx hb d_M_decode_17 (by decide +kernel) ?_
      refine lv_iload_n hx hb d_M_decode_18 rfl (lv_at hl 0 rfl) ?_
      refine lv_imul hx hb d_M_decode_19 ?_
      refine sx_ti (y := nI (2 * i1)) (pk_mul _ _) ?_
      refine sx_bald hx hb hG hS (mo_35 hM) (sx_in (by omega) (by decide)) d_M_decode_20 (fun z23 => ?_)
      refine lv_sipush (v := nI 255) hx hb d_M_decode_21 (by decide +kernel) ?_
      refine sx_iand hx hb d_M_decode_24 (fun x24 => ?_)
      refine lv_iload_n hx hb d_M_decode_25 rfl (lv_at hl 0 rfl) ?_
      refine lv_bipush (v := nI 15) hx hb d_M_decode_26 (by decide +kernel) ?_
      have jn58_29 : ∀ (x29 : Int32) (H : Heap) (locs : List Loc) (ls : Array Slot), sx_S g E E H0 H locs → lv_has ls 2 [(1, .int (nI (i1))), (0, .ref o)] → W p l e rm_M_decode s m args below meth c H locs 0 0 Q (F0 m 58 ls [.int x29, .int x24, .int (nI (i1)), .ref (r 21)]) := by
        intro x29 H locs ls  hS hl
        refine lv_bipush (v := nI 8) hx hb d_M_decode_58 (by decide +kernel) ?_
        refine sx_ishl hx hb d_M_decode_60 (fun x31 => ?_)
        refine sx_ior hx hb d_M_decode_61 (fun x32 => ?_)
        refine sx_i2l hx hb d_M_decode_62 (fun z33 => ?_)
        refine sx_last hx hb hG hS (mo_21 hM) (mow_21 hW) (sx_in (by omega) (by decide)) d_M_decode_63 (fun H locs hS => ?_)
        refine lv_iinc (v := nI (i1 + 1)) (lv' := [(1, .int (nI (i1 + 1))), (0, .ref o)]) hx hb d_M_decode_64 hl (k := 0) rfl (sx_inc _ _) (by decide) rfl (fun ls hl => ?_)
        refine lv_goto (tgt := 2) hx hb d_M_decode_67 (by decide) ?_
        exact ih2 (i1 + 1)  _ _ _ (by omega)  hS (lv_sub hl [0, 1] rfl)
      refine lv_icmp_ne (tgt := 44) hx hb d_M_decode_28 (by decide) (fun q28 => ?_) (fun q28 => ?_)
      · skip
        have q28 : ¬ (i1 = 15) := fun z => q28 ((nI_eq (a := i1) (b := 15) (by omega) (by omega)).mpr z)
        refine lv_aload_n hx hb d_M_decode_44 rfl (lv_at hl 1 rfl) ?_
        refine sx_get EE (hS.1.ob hE hM.1) rfl i_M 35 (by decide) rfl fl_M_103 rfl d_M_decode_45 ?_
        refine lv_iconst (v := nI 2) hx hb d_M_decode_48 (by decide +kernel) ?_
        refine lv_iload_n hx hb d_M_decode_49 rfl (lv_at hl 0 rfl) ?_
        refine lv_imul hx hb d_M_decode_50 ?_
        refine sx_ti (y := nI (2 * i1)) (pk_mul _ _) ?_
        refine lv_iconst (v := nI 1) hx hb d_M_decode_51 (by decide +kernel) ?_
        refine lv_iadd hx hb d_M_decode_52 ?_
        refine sx_ti (y := nI ((2 * i1) + 1)) (nI_add _ _) ?_
        refine sx_bald hx hb hG hS (mo_35 hM) (sx_in (by omega) (by decide)) d_M_decode_53 (fun z34 => ?_)
        refine lv_sipush (v := nI 255) hx hb d_M_decode_54 (by decide +kernel) ?_
        refine sx_iand hx hb d_M_decode_57 (fun x35 => ?_)
        exact jn58_29 x35 _ _ _  hS (lv_sub hl [0, 1] rfl)
      · skip
        have q28 : i1 = 15 := (nI_eq (a := i1) (b := 15) (by omega) (by omega)).mp q28
        refine lv_aload_n hx hb d_M_decode_31 rfl (lv_at hl 1 rfl) ?_
        refine sx_get EE (hS.1.ob hE hM.1) rfl i_M 35 (by decide) rfl fl_M_103 rfl d_M_decode_32 ?_
        refine lv_bipush (v := nI 31) hx hb d_M_decode_35 (by decide +kernel) ?_
        refine sx_bald hx hb hG hS (mo_35 hM) (sx_in (by omega) (by decide)) d_M_decode_37 (fun z36 => ?_)
        refine lv_bipush (v := nI 127) hx hb d_M_decode_38 (by decide +kernel) ?_
        refine sx_iand hx hb d_M_decode_40 (fun x37 => ?_)
        refine lv_goto (tgt := 58) hx hb d_M_decode_41 (by decide) ?_
        exact jn58_29 x37 _ _ _  hS (lv_sub hl [0, 1] rfl)
  exact lp2 (16) 0  _ _ _ (by omega)  hS (lv_sub hl [0, 1] rfl)
end
section
theorem d_M_init_0 : decode b_M_init 0 = .ok (.aload_n 0, 1) := by decide +kernel
theorem d_M_init_1 : decode b_M_init 1 = .ok (.invokespecial 1, 3) := by decide +kernel
theorem d_M_init_4 : decode b_M_init 4 = .ok (.aload_n 0, 1) := by decide +kernel
theorem d_M_init_5 : decode b_M_init 5 = .ok (.ldc 7, 2) := by decide +kernel
theorem d_M_init_7 : decode b_M_init 7 = .ok (.newarray .byte, 2) := by decide +kernel
theorem d_M_init_9 : decode b_M_init 9 = .ok (.putfield 8, 3) := by decide +kernel
theorem d_M_init_12 : decode b_M_init 12 = .ok (.aload_n 0, 1) := by decide +kernel
theorem d_M_init_13 : decode b_M_init 13 = .ok (.ldc 7, 2) := by decide +kernel
theorem d_M_init_15 : decode b_M_init 15 = .ok (.newarray .byte, 2) := by decide +kernel
theorem d_M_init_17 : decode b_M_init 17 = .ok (.putfield 14, 3) := by decide +kernel
theorem d_M_init_20 : decode b_M_init 20 = .ok (.aload_n 0, 1) := by decide +kernel
theorem d_M_init_21 : decode b_M_init 21 = .ok (.bipush 64, 2) := by decide +kernel
theorem d_M_init_23 : decode b_M_init 23 = .ok (.newarray .byte, 2) := by decide +kernel
theorem d_M_init_25 : decode b_M_init 25 = .ok (.putfield 17, 3) := by decide +kernel
theorem d_M_init_28 : decode b_M_init 28 = .ok (.aload_n 0, 1) := by decide +kernel
theorem d_M_init_29 : decode b_M_init 29 = .ok (.sipush 3200, 3) := by decide +kernel
theorem d_M_init_32 : decode b_M_init 32 = .ok (.newarray .byte, 2) := by decide +kernel
theorem d_M_init_34 : decode b_M_init 34 = .ok (.putfield 20, 3) := by decide +kernel
theorem d_M_init_37 : decode b_M_init 37 = .ok (.aload_n 0, 1) := by decide +kernel
theorem d_M_init_38 : decode b_M_init 38 = .ok (.bipush 6, 2) := by decide +kernel
theorem d_M_init_40 : decode b_M_init 40 = .ok (.newarray .int, 2) := by decide +kernel
theorem d_M_init_42 : decode b_M_init 42 = .ok (.putfield 23, 3) := by decide +kernel
theorem d_M_init_45 : decode b_M_init 45 = .ok (.aload_n 0, 1) := by decide +kernel
theorem d_M_init_46 : decode b_M_init 46 = .ok (.bipush 16, 2) := by decide +kernel
theorem d_M_init_48 : decode b_M_init 48 = .ok (.newarray .long, 2) := by decide +kernel
theorem d_M_init_50 : decode b_M_init 50 = .ok (.putfield 27, 3) := by decide +kernel
theorem d_M_init_53 : decode b_M_init 53 = .ok (.aload_n 0, 1) := by decide +kernel
theorem d_M_init_54 : decode b_M_init 54 = .ok (.sipush 256, 3) := by decide +kernel
theorem d_M_init_57 : decode b_M_init 57 = .ok (.newarray .long, 2) := by decide +kernel
theorem d_M_init_59 : decode b_M_init 59 = .ok (.putfield 31, 3) := by decide +kernel
theorem d_M_init_62 : decode b_M_init 62 = .ok (.aload_n 0, 1) := by decide +kernel
theorem d_M_init_63 : decode b_M_init 63 = .ok (.bipush 16, 2) := by decide +kernel
theorem d_M_init_65 : decode b_M_init 65 = .ok (.newarray .long, 2) := by decide +kernel
theorem d_M_init_67 : decode b_M_init 67 = .ok (.putfield 34, 3) := by decide +kernel
theorem d_M_init_70 : decode b_M_init 70 = .ok (.aload_n 0, 1) := by decide +kernel
theorem d_M_init_71 : decode b_M_init 71 = .ok (.sipush 256, 3) := by decide +kernel
theorem d_M_init_74 : decode b_M_init 74 = .ok (.newarray .long, 2) := by decide +kernel
theorem d_M_init_76 : decode b_M_init 76 = .ok (.putfield 37, 3) := by decide +kernel
theorem d_M_init_79 : decode b_M_init 79 = .ok (.aload_n 0, 1) := by decide +kernel
theorem d_M_init_80 : decode b_M_init 80 = .ok (.bipush 16, 2) := by decide +kernel
theorem d_M_init_82 : decode b_M_init 82 = .ok (.newarray .long, 2) := by decide +kernel
theorem d_M_init_84 : decode b_M_init 84 = .ok (.putfield 40, 3) := by decide +kernel
theorem d_M_init_87 : decode b_M_init 87 = .ok (.aload_n 0, 1) := by decide +kernel
theorem d_M_init_88 : decode b_M_init 88 = .ok (.bipush 16, 2) := by decide +kernel
theorem d_M_init_90 : decode b_M_init 90 = .ok (.newarray .long, 2) := by decide +kernel
theorem d_M_init_92 : decode b_M_init 92 = .ok (.putfield 43, 3) := by decide +kernel
theorem d_M_init_95 : decode b_M_init 95 = .ok (.aload_n 0, 1) := by decide +kernel
theorem d_M_init_96 : decode b_M_init 96 = .ok (.bipush 16, 2) := by decide +kernel
theorem d_M_init_98 : decode b_M_init 98 = .ok (.newarray .long, 2) := by decide +kernel
theorem d_M_init_100 : decode b_M_init 100 = .ok (.putfield 46, 3) := by decide +kernel
theorem d_M_init_103 : decode b_M_init 103 = .ok (.aload_n 0, 1) := by decide +kernel
theorem d_M_init_104 : decode b_M_init 104 = .ok (.bipush 16, 2) := by decide +kernel
theorem d_M_init_106 : decode b_M_init 106 = .ok (.newarray .long, 2) := by decide +kernel
theorem d_M_init_108 : decode b_M_init 108 = .ok (.putfield 49, 3) := by decide +kernel
theorem d_M_init_111 : decode b_M_init 111 = .ok (.aload_n 0, 1) := by decide +kernel
theorem d_M_init_112 : decode b_M_init 112 = .ok (.bipush 16, 2) := by decide +kernel
theorem d_M_init_114 : decode b_M_init 114 = .ok (.newarray .long, 2) := by decide +kernel
theorem d_M_init_116 : decode b_M_init 116 = .ok (.putfield 52, 3) := by decide +kernel
theorem d_M_init_119 : decode b_M_init 119 = .ok (.aload_n 0, 1) := by decide +kernel
theorem d_M_init_120 : decode b_M_init 120 = .ok (.bipush 16, 2) := by decide +kernel
theorem d_M_init_122 : decode b_M_init 122 = .ok (.newarray .long, 2) := by decide +kernel
theorem d_M_init_124 : decode b_M_init 124 = .ok (.putfield 55, 3) := by decide +kernel
theorem d_M_init_127 : decode b_M_init 127 = .ok (.aload_n 0, 1) := by decide +kernel
theorem d_M_init_128 : decode b_M_init 128 = .ok (.bipush 16, 2) := by decide +kernel
theorem d_M_init_130 : decode b_M_init 130 = .ok (.newarray .long, 2) := by decide +kernel
theorem d_M_init_132 : decode b_M_init 132 = .ok (.putfield 58, 3) := by decide +kernel
theorem d_M_init_135 : decode b_M_init 135 = .ok (.aload_n 0, 1) := by decide +kernel
theorem d_M_init_136 : decode b_M_init 136 = .ok (.bipush 16, 2) := by decide +kernel
theorem d_M_init_138 : decode b_M_init 138 = .ok (.newarray .long, 2) := by decide +kernel
theorem d_M_init_140 : decode b_M_init 140 = .ok (.putfield 61, 3) := by decide +kernel
theorem d_M_init_143 : decode b_M_init 143 = .ok (.aload_n 0, 1) := by decide +kernel
theorem d_M_init_144 : decode b_M_init 144 = .ok (.bipush 16, 2) := by decide +kernel
theorem d_M_init_146 : decode b_M_init 146 = .ok (.newarray .long, 2) := by decide +kernel
theorem d_M_init_148 : decode b_M_init 148 = .ok (.putfield 64, 3) := by decide +kernel
theorem d_M_init_151 : decode b_M_init 151 = .ok (.aload_n 0, 1) := by decide +kernel
theorem d_M_init_152 : decode b_M_init 152 = .ok (.bipush 16, 2) := by decide +kernel
theorem d_M_init_154 : decode b_M_init 154 = .ok (.newarray .long, 2) := by decide +kernel
theorem d_M_init_156 : decode b_M_init 156 = .ok (.putfield 67, 3) := by decide +kernel
theorem d_M_init_159 : decode b_M_init 159 = .ok (.aload_n 0, 1) := by decide +kernel
theorem d_M_init_160 : decode b_M_init 160 = .ok (.bipush 16, 2) := by decide +kernel
theorem d_M_init_162 : decode b_M_init 162 = .ok (.newarray .long, 2) := by decide +kernel
theorem d_M_init_164 : decode b_M_init 164 = .ok (.putfield 70, 3) := by decide +kernel
theorem d_M_init_167 : decode b_M_init 167 = .ok (.aload_n 0, 1) := by decide +kernel
theorem d_M_init_168 : decode b_M_init 168 = .ok (.bipush 16, 2) := by decide +kernel
theorem d_M_init_170 : decode b_M_init 170 = .ok (.newarray .long, 2) := by decide +kernel
theorem d_M_init_172 : decode b_M_init 172 = .ok (.putfield 73, 3) := by decide +kernel
theorem d_M_init_175 : decode b_M_init 175 = .ok (.aload_n 0, 1) := by decide +kernel
theorem d_M_init_176 : decode b_M_init 176 = .ok (.bipush 16, 2) := by decide +kernel
theorem d_M_init_178 : decode b_M_init 178 = .ok (.newarray .long, 2) := by decide +kernel
theorem d_M_init_180 : decode b_M_init 180 = .ok (.putfield 76, 3) := by decide +kernel
theorem d_M_init_183 : decode b_M_init 183 = .ok (.aload_n 0, 1) := by decide +kernel
theorem d_M_init_184 : decode b_M_init 184 = .ok (.bipush 16, 2) := by decide +kernel
theorem d_M_init_186 : decode b_M_init 186 = .ok (.newarray .long, 2) := by decide +kernel
theorem d_M_init_188 : decode b_M_init 188 = .ok (.putfield 79, 3) := by decide +kernel
theorem d_M_init_191 : decode b_M_init 191 = .ok (.aload_n 0, 1) := by decide +kernel
theorem d_M_init_192 : decode b_M_init 192 = .ok (.bipush 16, 2) := by decide +kernel
theorem d_M_init_194 : decode b_M_init 194 = .ok (.newarray .long, 2) := by decide +kernel
theorem d_M_init_196 : decode b_M_init 196 = .ok (.putfield 82, 3) := by decide +kernel
theorem d_M_init_199 : decode b_M_init 199 = .ok (.aload_n 0, 1) := by decide +kernel
theorem d_M_init_200 : decode b_M_init 200 = .ok (.bipush 16, 2) := by decide +kernel
theorem d_M_init_202 : decode b_M_init 202 = .ok (.newarray .long, 2) := by decide +kernel
theorem d_M_init_204 : decode b_M_init 204 = .ok (.putfield 85, 3) := by decide +kernel
theorem d_M_init_207 : decode b_M_init 207 = .ok (.aload_n 0, 1) := by decide +kernel
theorem d_M_init_208 : decode b_M_init 208 = .ok (.bipush 16, 2) := by decide +kernel
theorem d_M_init_210 : decode b_M_init 210 = .ok (.newarray .long, 2) := by decide +kernel
theorem d_M_init_212 : decode b_M_init 212 = .ok (.putfield 88, 3) := by decide +kernel
theorem d_M_init_215 : decode b_M_init 215 = .ok (.aload_n 0, 1) := by decide +kernel
theorem d_M_init_216 : decode b_M_init 216 = .ok (.bipush 16, 2) := by decide +kernel
theorem d_M_init_218 : decode b_M_init 218 = .ok (.newarray .long, 2) := by decide +kernel
theorem d_M_init_220 : decode b_M_init 220 = .ok (.putfield 91, 3) := by decide +kernel
theorem d_M_init_223 : decode b_M_init 223 = .ok (.aload_n 0, 1) := by decide +kernel
theorem d_M_init_224 : decode b_M_init 224 = .ok (.bipush 16, 2) := by decide +kernel
theorem d_M_init_226 : decode b_M_init 226 = .ok (.newarray .long, 2) := by decide +kernel
theorem d_M_init_228 : decode b_M_init 228 = .ok (.putfield 94, 3) := by decide +kernel
theorem d_M_init_231 : decode b_M_init 231 = .ok (.aload_n 0, 1) := by decide +kernel
theorem d_M_init_232 : decode b_M_init 232 = .ok (.bipush 16, 2) := by decide +kernel
theorem d_M_init_234 : decode b_M_init 234 = .ok (.newarray .long, 2) := by decide +kernel
theorem d_M_init_236 : decode b_M_init 236 = .ok (.putfield 97, 3) := by decide +kernel
theorem d_M_init_239 : decode b_M_init 239 = .ok (.aload_n 0, 1) := by decide +kernel
theorem d_M_init_240 : decode b_M_init 240 = .ok (.bipush 16, 2) := by decide +kernel
theorem d_M_init_242 : decode b_M_init 242 = .ok (.newarray .long, 2) := by decide +kernel
theorem d_M_init_244 : decode b_M_init 244 = .ok (.putfield 100, 3) := by decide +kernel
theorem d_M_init_247 : decode b_M_init 247 = .ok (.aload_n 0, 1) := by decide +kernel
theorem d_M_init_248 : decode b_M_init 248 = .ok (.bipush 32, 2) := by decide +kernel
theorem d_M_init_250 : decode b_M_init 250 = .ok (.newarray .byte, 2) := by decide +kernel
theorem d_M_init_252 : decode b_M_init 252 = .ok (.putfield 103, 3) := by decide +kernel
theorem d_M_init_255 : decode b_M_init 255 = .ok (.aload_n 0, 1) := by decide +kernel
theorem d_M_init_256 : decode b_M_init 256 = .ok (.bipush 32, 2) := by decide +kernel
theorem d_M_init_258 : decode b_M_init 258 = .ok (.newarray .byte, 2) := by decide +kernel
theorem d_M_init_260 : decode b_M_init 260 = .ok (.putfield 106, 3) := by decide +kernel
theorem d_M_init_263 : decode b_M_init 263 = .ok (.aload_n 0, 1) := by decide +kernel
theorem d_M_init_264 : decode b_M_init 264 = .ok (.bipush 32, 2) := by decide +kernel
theorem d_M_init_266 : decode b_M_init 266 = .ok (.newarray .byte, 2) := by decide +kernel
theorem d_M_init_268 : decode b_M_init 268 = .ok (.putfield 109, 3) := by decide +kernel
theorem d_M_init_271 : decode b_M_init 271 = .ok (.aload_n 0, 1) := by decide +kernel
theorem d_M_init_272 : decode b_M_init 272 = .ok (.ldc 112, 2) := by decide +kernel
theorem d_M_init_274 : decode b_M_init 274 = .ok (.newarray .byte, 2) := by decide +kernel
theorem d_M_init_276 : decode b_M_init 276 = .ok (.putfield 113, 3) := by decide +kernel
theorem d_M_init_279 : decode b_M_init 279 = .ok (.aload_n 0, 1) := by decide +kernel
theorem d_M_init_280 : decode b_M_init 280 = .ok (.bipush 8, 2) := by decide +kernel
theorem d_M_init_282 : decode b_M_init 282 = .ok (.newarray .int, 2) := by decide +kernel
theorem d_M_init_284 : decode b_M_init 284 = .ok (.dup, 1) := by decide +kernel
theorem d_M_init_285 : decode b_M_init 285 = .ok (.iconst 0, 1) := by decide +kernel
theorem d_M_init_286 : decode b_M_init 286 = .ok (.ldc 116, 2) := by decide +kernel
theorem d_M_init_288 : decode b_M_init 288 = .ok (.iastore, 1) := by decide +kernel
theorem d_M_init_289 : decode b_M_init 289 = .ok (.dup, 1) := by decide +kernel
theorem d_M_init_290 : decode b_M_init 290 = .ok (.iconst 1, 1) := by decide +kernel
theorem d_M_init_291 : decode b_M_init 291 = .ok (.sipush 23797, 3) := by decide +kernel
theorem d_M_init_294 : decode b_M_init 294 = .ok (.iastore, 1) := by decide +kernel
theorem d_M_init_295 : decode b_M_init 295 = .ok (.dup, 1) := by decide +kernel
theorem d_M_init_296 : decode b_M_init 296 = .ok (.iconst 2, 1) := by decide +kernel
theorem d_M_init_297 : decode b_M_init 297 = .ok (.sipush 25370, 3) := by decide +kernel
theorem d_M_init_300 : decode b_M_init 300 = .ok (.iastore, 1) := by decide +kernel
theorem d_M_init_301 : decode b_M_init 301 = .ok (.dup, 1) := by decide +kernel
theorem d_M_init_302 : decode b_M_init 302 = .ok (.iconst 3, 1) := by decide +kernel
theorem d_M_init_303 : decode b_M_init 303 = .ok (.sipush 22546, 3) := by decide +kernel
theorem d_M_init_306 : decode b_M_init 306 = .ok (.iastore, 1) := by decide +kernel
theorem d_M_init_307 : decode b_M_init 307 = .ok (.dup, 1) := by decide +kernel
theorem d_M_init_308 : decode b_M_init 308 = .ok (.iconst 4, 1) := by decide +kernel
theorem d_M_init_309 : decode b_M_init 309 = .ok (.ldc 117, 2) := by decide +kernel
theorem d_M_init_311 : decode b_M_init 311 = .ok (.iastore, 1) := by decide +kernel
theorem d_M_init_312 : decode b_M_init 312 = .ok (.dup, 1) := by decide +kernel
theorem d_M_init_313 : decode b_M_init 313 = .ok (.iconst 5, 1) := by decide +kernel
theorem d_M_init_314 : decode b_M_init 314 = .ok (.ldc 118, 2) := by decide +kernel
theorem d_M_init_316 : decode b_M_init 316 = .ok (.iastore, 1) := by decide +kernel
theorem d_M_init_317 : decode b_M_init 317 = .ok (.dup, 1) := by decide +kernel
theorem d_M_init_318 : decode b_M_init 318 = .ok (.bipush 6, 2) := by decide +kernel
theorem d_M_init_320 : decode b_M_init 320 = .ok (.ldc 119, 2) := by decide +kernel
theorem d_M_init_322 : decode b_M_init 322 = .ok (.iastore, 1) := by decide +kernel
theorem d_M_init_323 : decode b_M_init 323 = .ok (.dup, 1) := by decide +kernel
theorem d_M_init_324 : decode b_M_init 324 = .ok (.bipush 7, 2) := by decide +kernel
theorem d_M_init_326 : decode b_M_init 326 = .ok (.sipush 5342, 3) := by decide +kernel
theorem d_M_init_329 : decode b_M_init 329 = .ok (.iastore, 1) := by decide +kernel
theorem d_M_init_330 : decode b_M_init 330 = .ok (.putfield 120, 3) := by decide +kernel
theorem d_M_init_333 : decode b_M_init 333 = .ok (.aload_n 0, 1) := by decide +kernel
theorem d_M_init_334 : decode b_M_init 334 = .ok (.bipush 32, 2) := by decide +kernel
theorem d_M_init_336 : decode b_M_init 336 = .ok (.newarray .long, 2) := by decide +kernel
theorem d_M_init_338 : decode b_M_init 338 = .ok (.putfield 123, 3) := by decide +kernel
theorem d_M_init_341 : decode b_M_init 341 = .ok (.aload_n 0, 1) := by decide +kernel
theorem d_M_init_342 : decode b_M_init 342 = .ok (.bipush 18, 2) := by decide +kernel
theorem d_M_init_344 : decode b_M_init 344 = .ok (.newarray .long, 2) := by decide +kernel
theorem d_M_init_346 : decode b_M_init 346 = .ok (.putfield 126, 3) := by decide +kernel
theorem d_M_init_349 : decode b_M_init 349 = .ok (.aload_n 0, 1) := by decide +kernel
theorem d_M_init_350 : decode b_M_init 350 = .ok (.bipush 16, 2) := by decide +kernel
theorem d_M_init_352 : decode b_M_init 352 = .ok (.newarray .long, 2) := by decide +kernel
theorem d_M_init_354 : decode b_M_init 354 = .ok (.putfield 129, 3) := by decide +kernel
theorem d_M_init_357 : decode b_M_init 357 = .ok (.aload_n 0, 1) := by decide +kernel
theorem d_M_init_358 : decode b_M_init 358 = .ok (.bipush 16, 2) := by decide +kernel
theorem d_M_init_360 : decode b_M_init 360 = .ok (.newarray .long, 2) := by decide +kernel
theorem d_M_init_362 : decode b_M_init 362 = .ok (.putfield 132, 3) := by decide +kernel
theorem d_M_init_365 : decode b_M_init 365 = .ok (.aload_n 0, 1) := by decide +kernel
theorem d_M_init_366 : decode b_M_init 366 = .ok (.bipush 17, 2) := by decide +kernel
theorem d_M_init_368 : decode b_M_init 368 = .ok (.newarray .long, 2) := by decide +kernel
theorem d_M_init_370 : decode b_M_init 370 = .ok (.putfield 135, 3) := by decide +kernel
theorem d_M_init_373 : decode b_M_init 373 = .ok (.aload_n 0, 1) := by decide +kernel
theorem d_M_init_374 : decode b_M_init 374 = .ok (.bipush 17, 2) := by decide +kernel
theorem d_M_init_376 : decode b_M_init 376 = .ok (.newarray .long, 2) := by decide +kernel
theorem d_M_init_378 : decode b_M_init 378 = .ok (.putfield 138, 3) := by decide +kernel
theorem d_M_init_381 : decode b_M_init 381 = .ok (.aload_n 0, 1) := by decide +kernel
theorem d_M_init_382 : decode b_M_init 382 = .ok (.bipush 80, 2) := by decide +kernel
theorem d_M_init_384 : decode b_M_init 384 = .ok (.newarray .long, 2) := by decide +kernel
theorem d_M_init_386 : decode b_M_init 386 = .ok (.putfield 141, 3) := by decide +kernel
theorem d_M_init_389 : decode b_M_init 389 = .ok (.aload_n 0, 1) := by decide +kernel
theorem d_M_init_390 : decode b_M_init 390 = .ok (.bipush 8, 2) := by decide +kernel
theorem d_M_init_392 : decode b_M_init 392 = .ok (.newarray .long, 2) := by decide +kernel
theorem d_M_init_394 : decode b_M_init 394 = .ok (.putfield 144, 3) := by decide +kernel
theorem d_M_init_397 : decode b_M_init 397 = .ok (.aload_n 0, 1) := by decide +kernel
theorem d_M_init_398 : decode b_M_init 398 = .ok (.bipush 80, 2) := by decide +kernel
theorem d_M_init_400 : decode b_M_init 400 = .ok (.newarray .long, 2) := by decide +kernel
theorem d_M_init_402 : decode b_M_init 402 = .ok (.putfield 147, 3) := by decide +kernel
theorem d_M_init_405 : decode b_M_init 405 = .ok (.aload_n 0, 1) := by decide +kernel
theorem d_M_init_406 : decode b_M_init 406 = .ok (.bipush 8, 2) := by decide +kernel
theorem d_M_init_408 : decode b_M_init 408 = .ok (.newarray .long, 2) := by decide +kernel
theorem d_M_init_410 : decode b_M_init 410 = .ok (.putfield 150, 3) := by decide +kernel
theorem d_M_init_413 : decode b_M_init 413 = .ok (.aload_n 0, 1) := by decide +kernel
theorem d_M_init_414 : decode b_M_init 414 = .ok (.bipush 8, 2) := by decide +kernel
theorem d_M_init_416 : decode b_M_init 416 = .ok (.newarray .long, 2) := by decide +kernel
theorem d_M_init_418 : decode b_M_init 418 = .ok (.putfield 153, 3) := by decide +kernel
theorem d_M_init_421 : decode b_M_init 421 = .ok (.aload_n 0, 1) := by decide +kernel
theorem d_M_init_422 : decode b_M_init 422 = .ok (.bipush 8, 2) := by decide +kernel
theorem d_M_init_424 : decode b_M_init 424 = .ok (.newarray .long, 2) := by decide +kernel
theorem d_M_init_426 : decode b_M_init 426 = .ok (.putfield 156, 3) := by decide +kernel
theorem d_M_init_429 : decode b_M_init 429 = .ok (.aload_n 0, 1) := by decide +kernel
theorem d_M_init_430 : decode b_M_init 430 = .ok (.bipush 64, 2) := by decide +kernel
theorem d_M_init_432 : decode b_M_init 432 = .ok (.newarray .byte, 2) := by decide +kernel
theorem d_M_init_434 : decode b_M_init 434 = .ok (.putfield 159, 3) := by decide +kernel
theorem d_M_init_437 : decode b_M_init 437 = .ok (.aload_n 0, 1) := by decide +kernel
theorem d_M_init_438 : decode b_M_init 438 = .ok (.invokevirtual 162, 3) := by decide +kernel
theorem d_M_init_441 : decode b_M_init 441 = .ok (.iconst 0, 1) := by decide +kernel
theorem d_M_init_442 : decode b_M_init 442 = .ok (.istore_n 1, 1) := by decide +kernel
theorem d_M_init_443 : decode b_M_init 443 = .ok (.iload_n 1, 1) := by decide +kernel
theorem d_M_init_444 : decode b_M_init 444 = .ok (.bipush 16, 2) := by decide +kernel
theorem d_M_init_446 : decode b_M_init 446 = .ok (.if_icmp .ge 40, 3) := by decide +kernel
theorem d_M_init_449 : decode b_M_init 449 = .ok (.aload_n 0, 1) := by decide +kernel
theorem d_M_init_450 : decode b_M_init 450 = .ok (.getfield 27, 3) := by decide +kernel
theorem d_M_init_453 : decode b_M_init 453 = .ok (.iload_n 1, 1) := by decide +kernel
theorem d_M_init_454 : decode b_M_init 454 = .ok (.iload_n 1, 1) := by decide +kernel
theorem d_M_init_455 : decode b_M_init 455 = .ok (.ifCond .ne 9, 3) := by decide +kernel
theorem d_M_init_458 : decode b_M_init 458 = .ok (.ldc2_w 165, 3) := by decide +kernel
theorem d_M_init_461 : decode b_M_init 461 = .ok (.goto 18, 3) := by decide +kernel
theorem d_M_init_464 : decode b_M_init 464 = .ok (.iload_n 1, 1) := by decide +kernel
theorem d_M_init_465 : decode b_M_init 465 = .ok (.bipush 15, 2) := by decide +kernel
theorem d_M_init_467 : decode b_M_init 467 = .ok (.if_icmp .ne 9, 3) := by decide +kernel
theorem d_M_init_470 : decode b_M_init 470 = .ok (.ldc2_w 167, 3) := by decide +kernel
theorem d_M_init_473 : decode b_M_init 473 = .ok (.goto 6, 3) := by decide +kernel
theorem d_M_init_476 : decode b_M_init 476 = .ok (.ldc2_w 169, 3) := by decide +kernel
theorem d_M_init_479 : decode b_M_init 479 = .ok (.lastore, 1) := by decide +kernel
theorem d_M_init_480 : decode b_M_init 480 = .ok (.iinc 1 1, 3) := by decide +kernel
theorem d_M_init_483 : decode b_M_init 483 = .ok (.goto (-40), 3) := by decide +kernel
theorem d_M_init_486 : decode b_M_init 486 = .ok (.aload_n 0, 1) := by decide +kernel
theorem d_M_init_487 : decode b_M_init 487 = .ok (.getfield 31, 3) := by decide +kernel
theorem d_M_init_490 : decode b_M_init 490 = .ok (.aload_n 0, 1) := by decide +kernel
theorem d_M_init_491 : decode b_M_init 491 = .ok (.getfield 27, 3) := by decide +kernel
theorem d_M_init_494 : decode b_M_init 494 = .ok (.aload_n 0, 1) := by decide +kernel
theorem d_M_init_495 : decode b_M_init 495 = .ok (.getfield 70, 3) := by decide +kernel
theorem d_M_init_498 : decode b_M_init 498 = .ok (.invokestatic 171, 3) := by decide +kernel
theorem d_M_init_501 : decode b_M_init 501 = .ok (.iconst 0, 1) := by decide +kernel
theorem d_M_init_502 : decode b_M_init 502 = .ok (.istore_n 1, 1) := by decide +kernel
theorem d_M_init_503 : decode b_M_init 503 = .ok (.iload_n 1, 1) := by decide +kernel
theorem d_M_init_504 : decode b_M_init 504 = .ok (.bipush 16, 2) := by decide +kernel
theorem d_M_init_506 : decode b_M_init 506 = .ok (.if_icmp .ge 44, 3) := by decide +kernel
theorem d_M_init_509 : decode b_M_init 509 = .ok (.aload_n 0, 1) := by decide +kernel
theorem d_M_init_510 : decode b_M_init 510 = .ok (.getfield 34, 3) := by decide +kernel
theorem d_M_init_513 : decode b_M_init 513 = .ok (.iload_n 1, 1) := by decide +kernel
theorem d_M_init_514 : decode b_M_init 514 = .ok (.iload_n 1, 1) := by decide +kernel
theorem d_M_init_515 : decode b_M_init 515 = .ok (.bipush 8, 2) := by decide +kernel
theorem d_M_init_517 : decode b_M_init 517 = .ok (.if_icmp .ge 13, 3) := by decide +kernel
theorem d_M_init_520 : decode b_M_init 520 = .ok (.aload_n 0, 1) := by decide +kernel
theorem d_M_init_521 : decode b_M_init 521 = .ok (.getfield 120, 3) := by decide +kernel
theorem d_M_init_524 : decode b_M_init 524 = .ok (.iload_n 1, 1) := by decide +kernel
theorem d_M_init_525 : decode b_M_init 525 = .ok (.iaload, 1) := by decide +kernel
theorem d_M_init_526 : decode b_M_init 526 = .ok (.i2l, 1) := by decide +kernel
theorem d_M_init_527 : decode b_M_init 527 = .ok (.goto 16, 3) := by decide +kernel
theorem d_M_init_530 : decode b_M_init 530 = .ok (.iload_n 1, 1) := by decide +kernel
theorem d_M_init_531 : decode b_M_init 531 = .ok (.bipush 15, 2) := by decide +kernel
theorem d_M_init_533 : decode b_M_init 533 = .ok (.if_icmp .ne 9, 3) := by decide +kernel
theorem d_M_init_536 : decode b_M_init 536 = .ok (.ldc2_w 175, 3) := by decide +kernel
theorem d_M_init_539 : decode b_M_init 539 = .ok (.goto 4, 3) := by decide +kernel
theorem d_M_init_542 : decode b_M_init 542 = .ok (.lconst 0, 1) := by decide +kernel
theorem d_M_init_543 : decode b_M_init 543 = .ok (.lastore, 1) := by decide +kernel
theorem d_M_init_544 : decode b_M_init 544 = .ok (.iinc 1 1, 3) := by decide +kernel
theorem d_M_init_547 : decode b_M_init 547 = .ok (.goto (-44), 3) := by decide +kernel
theorem d_M_init_550 : decode b_M_init 550 = .ok (.aload_n 0, 1) := by decide +kernel
theorem d_M_init_551 : decode b_M_init 551 = .ok (.getfield 37, 3) := by decide +kernel
theorem d_M_init_554 : decode b_M_init 554 = .ok (.aload_n 0, 1) := by decide +kernel
theorem d_M_init_555 : decode b_M_init 555 = .ok (.getfield 34, 3) := by decide +kernel
theorem d_M_init_558 : decode b_M_init 558 = .ok (.aload_n 0, 1) := by decide +kernel
theorem d_M_init_559 : decode b_M_init 559 = .ok (.getfield 70, 3) := by decide +kernel
theorem d_M_init_562 : decode b_M_init 562 = .ok (.invokestatic 171, 3) := by decide +kernel
theorem d_M_init_565 : decode b_M_init 565 = .ok (.aload_n 0, 1) := by decide +kernel
theorem d_M_init_566 : decode b_M_init 566 = .ok (.getfield 88, 3) := by decide +kernel
theorem d_M_init_569 : decode b_M_init 569 = .ok (.iconst 1, 1) := by decide +kernel
theorem d_M_init_570 : decode b_M_init 570 = .ok (.invokestatic 177, 3) := by decide +kernel
theorem d_M_init_573 : decode b_M_init 573 = .ok (.aload_n 0, 1) := by decide +kernel
theorem d_M_init_574 : decode b_M_init 574 = .ok (.getfield 70, 3) := by decide +kernel
theorem d_M_init_577 : decode b_M_init 577 = .ok (.iconst 0, 1) := by decide +kernel
theorem d_M_init_578 : decode b_M_init 578 = .ok (.invokestatic 177, 3) := by decide +kernel
theorem d_M_init_581 : decode b_M_init 581 = .ok (.aload_n 0, 1) := by decide +kernel
theorem d_M_init_582 : decode b_M_init 582 = .ok (.getfield 73, 3) := by decide +kernel
theorem d_M_init_585 : decode b_M_init 585 = .ok (.iconst 0, 1) := by decide +kernel
theorem d_M_init_586 : decode b_M_init 586 = .ok (.invokestatic 177, 3) := by decide +kernel
theorem d_M_init_589 : decode b_M_init 589 = .ok (.aload_n 0, 1) := by decide +kernel
theorem d_M_init_590 : decode b_M_init 590 = .ok (.getfield 70, 3) := by decide +kernel
theorem d_M_init_593 : decode b_M_init 593 = .ok (.iconst 0, 1) := by decide +kernel
theorem d_M_init_594 : decode b_M_init 594 = .ok (.ldc2_w 181, 3) := by decide +kernel
theorem d_M_init_597 : decode b_M_init 597 = .ok (.lastore, 1) := by decide +kernel
theorem d_M_init_598 : decode b_M_init 598 = .ok (.aload_n 0, 1) := by decide +kernel
theorem d_M_init_599 : decode b_M_init 599 = .ok (.getfield 70, 3) := by decide +kernel
theorem d_M_init_602 : decode b_M_init 602 = .ok (.iconst 1, 1) := by decide +kernel
theorem d_M_init_603 : decode b_M_init 603 = .ok (.lconst 1, 1) := by decide +kernel
theorem d_M_init_604 : decode b_M_init 604 = .ok (.lastore, 1) := by decide +kernel
theorem d_M_init_605 : decode b_M_init 605 = .ok (.aload_n 0, 1) := by decide +kernel
theorem d_M_init_606 : decode b_M_init 606 = .ok (.getfield 73, 3) := by decide +kernel
theorem d_M_init_609 : decode b_M_init 609 = .ok (.iconst 0, 1) := by decide +kernel
theorem d_M_init_610 : decode b_M_init 610 = .ok (.ldc2_w 183, 3) := by decide +kernel
theorem d_M_init_613 : decode b_M_init 613 = .ok (.lastore, 1) := by decide +kernel
theorem d_M_init_614 : decode b_M_init 614 = .ok (.aload_n 0, 1) := by decide +kernel
theorem d_M_init_615 : decode b_M_init 615 = .ok (.getfield 73, 3) := by decide +kernel
theorem d_M_init_618 : decode b_M_init 618 = .ok (.iconst 1, 1) := by decide +kernel
theorem d_M_init_619 : decode b_M_init 619 = .ok (.lconst 1, 1) := by decide +kernel
theorem d_M_init_620 : decode b_M_init 620 = .ok (.lastore, 1) := by decide +kernel
theorem d_M_init_621 : decode b_M_init 621 = .ok (.aload_n 0, 1) := by decide +kernel
theorem d_M_init_622 : decode b_M_init 622 = .ok (.aload_n 0, 1) := by decide +kernel
theorem d_M_init_623 : decode b_M_init 623 = .ok (.getfield 76, 3) := by decide +kernel
theorem d_M_init_626 : decode b_M_init 626 = .ok (.aload_n 0, 1) := by decide +kernel
theorem d_M_init_627 : decode b_M_init 627 = .ok (.getfield 73, 3) := by decide +kernel
theorem d_M_init_630 : decode b_M_init 630 = .ok (.aload_n 0, 1) := by decide +kernel
theorem d_M_init_631 : decode b_M_init 631 = .ok (.getfield 27, 3) := by decide +kernel
theorem d_M_init_634 : decode b_M_init 634 = .ok (.invokevirtual 185, 3) := by decide +kernel
theorem d_M_init_637 : decode b_M_init 637 = .ok (.aload_n 0, 1) := by decide +kernel
theorem d_M_init_638 : decode b_M_init 638 = .ok (.aload_n 0, 1) := by decide +kernel
theorem d_M_init_639 : decode b_M_init 639 = .ok (.getfield 40, 3) := by decide +kernel
theorem d_M_init_642 : decode b_M_init 642 = .ok (.aload_n 0, 1) := by decide +kernel
theorem d_M_init_643 : decode b_M_init 643 = .ok (.getfield 70, 3) := by decide +kernel
theorem d_M_init_646 : decode b_M_init 646 = .ok (.aload_n 0, 1) := by decide +kernel
theorem d_M_init_647 : decode b_M_init 647 = .ok (.getfield 76, 3) := by decide +kernel
theorem d_M_init_650 : decode b_M_init 650 = .ok (.aload_n 0, 1) := by decide +kernel
theorem d_M_init_651 : decode b_M_init 651 = .ok (.getfield 27, 3) := by decide +kernel
theorem d_M_init_654 : decode b_M_init 654 = .ok (.aload_n 0, 1) := by decide +kernel
theorem d_M_init_655 : decode b_M_init 655 = .ok (.getfield 31, 3) := by decide +kernel
theorem d_M_init_658 : decode b_M_init 658 = .ok (.invokevirtual 188, 3) := by decide +kernel
theorem d_M_init_661 : decode b_M_init 661 = .ok (.aload_n 0, 1) := by decide +kernel
theorem d_M_init_662 : decode b_M_init 662 = .ok (.getfield 73, 3) := by decide +kernel
theorem d_M_init_665 : decode b_M_init 665 = .ok (.iconst 0, 1) := by decide +kernel
theorem d_M_init_666 : decode b_M_init 666 = .ok (.invokestatic 177, 3) := by decide +kernel
theorem d_M_init_669 : decode b_M_init 669 = .ok (.aload_n 0, 1) := by decide +kernel
theorem d_M_init_670 : decode b_M_init 670 = .ok (.getfield 40, 3) := by decide +kernel
theorem d_M_init_673 : decode b_M_init 673 = .ok (.aload_n 0, 1) := by decide +kernel
theorem d_M_init_674 : decode b_M_init 674 = .ok (.getfield 73, 3) := by decide +kernel
theorem d_M_init_677 : decode b_M_init 677 = .ok (.aload_n 0, 1) := by decide +kernel
theorem d_M_init_678 : decode b_M_init 678 = .ok (.getfield 40, 3) := by decide +kernel
theorem d_M_init_681 : decode b_M_init 681 = .ok (.aload_n 0, 1) := by decide +kernel
theorem d_M_init_682 : decode b_M_init 682 = .ok (.getfield 27, 3) := by decide +kernel
theorem d_M_init_685 : decode b_M_init 685 = .ok (.invokestatic 192, 3) := by decide +kernel
theorem d_M_init_688 : decode b_M_init 688 = .ok (.aload_n 0, 1) := by decide +kernel
theorem d_M_init_689 : decode b_M_init 689 = .ok (.getfield 70, 3) := by decide +kernel
theorem d_M_init_692 : decode b_M_init 692 = .ok (.iconst 2, 1) := by decide +kernel
theorem d_M_init_693 : decode b_M_init 693 = .ok (.invokestatic 177, 3) := by decide +kernel
theorem d_M_init_696 : decode b_M_init 696 = .ok (.iconst 0, 1) := by decide +kernel
theorem d_M_init_697 : decode b_M_init 697 = .ok (.istore_n 1, 1) := by decide +kernel
theorem d_M_init_698 : decode b_M_init 698 = .ok (.iload_n 1, 1) := by decide +kernel
theorem d_M_init_699 : decode b_M_init 699 = .ok (.bipush 16, 2) := by decide +kernel
theorem d_M_init_701 : decode b_M_init 701 = .ok (.if_icmp .ge 40, 3) := by decide +kernel
theorem d_M_init_704 : decode b_M_init 704 = .ok (.aload_n 0, 1) := by decide +kernel
theorem d_M_init_705 : decode b_M_init 705 = .ok (.getfield 79, 3) := by decide +kernel
theorem d_M_init_708 : decode b_M_init 708 = .ok (.iload_n 1, 1) := by decide +kernel
theorem d_M_init_709 : decode b_M_init 709 = .ok (.iload_n 1, 1) := by decide +kernel
theorem d_M_init_710 : decode b_M_init 710 = .ok (.ifCond .ne 9, 3) := by decide +kernel
theorem d_M_init_713 : decode b_M_init 713 = .ok (.ldc2_w 196, 3) := by decide +kernel
theorem d_M_init_716 : decode b_M_init 716 = .ok (.goto 18, 3) := by decide +kernel
theorem d_M_init_719 : decode b_M_init 719 = .ok (.iload_n 1, 1) := by decide +kernel
theorem d_M_init_720 : decode b_M_init 720 = .ok (.bipush 15, 2) := by decide +kernel
theorem d_M_init_722 : decode b_M_init 722 = .ok (.if_icmp .ne 9, 3) := by decide +kernel
theorem d_M_init_725 : decode b_M_init 725 = .ok (.ldc2_w 198, 3) := by decide +kernel
theorem d_M_init_728 : decode b_M_init 728 = .ok (.goto 6, 3) := by decide +kernel
theorem d_M_init_731 : decode b_M_init 731 = .ok (.ldc2_w 169, 3) := by decide +kernel
theorem d_M_init_734 : decode b_M_init 734 = .ok (.lastore, 1) := by decide +kernel
theorem d_M_init_735 : decode b_M_init 735 = .ok (.iinc 1 1, 3) := by decide +kernel
theorem d_M_init_738 : decode b_M_init 738 = .ok (.goto (-40), 3) := by decide +kernel
theorem d_M_init_741 : decode b_M_init 741 = .ok (.aload_n 0, 1) := by decide +kernel
theorem d_M_init_742 : decode b_M_init 742 = .ok (.aload_n 0, 1) := by decide +kernel
theorem d_M_init_743 : decode b_M_init 743 = .ok (.getfield 43, 3) := by decide +kernel
theorem d_M_init_746 : decode b_M_init 746 = .ok (.aload_n 0, 1) := by decide +kernel
theorem d_M_init_747 : decode b_M_init 747 = .ok (.getfield 70, 3) := by decide +kernel
theorem d_M_init_750 : decode b_M_init 750 = .ok (.aload_n 0, 1) := by decide +kernel
theorem d_M_init_751 : decode b_M_init 751 = .ok (.getfield 79, 3) := by decide +kernel
theorem d_M_init_754 : decode b_M_init 754 = .ok (.invokevirtual 200, 3) := by decide +kernel
theorem d_M_init_757 : decode b_M_init 757 = .ok (.aload_n 0, 1) := by decide +kernel
theorem d_M_init_758 : decode b_M_init 758 = .ok (.getfield 70, 3) := by decide +kernel
theorem d_M_init_761 : decode b_M_init 761 = .ok (.iconst 5, 1) := by decide +kernel
theorem d_M_init_762 : decode b_M_init 762 = .ok (.invokestatic 177, 3) := by decide +kernel
theorem d_M_init_765 : decode b_M_init 765 = .ok (.aload_n 0, 1) := by decide +kernel
theorem d_M_init_766 : decode b_M_init 766 = .ok (.aload_n 0, 1) := by decide +kernel
theorem d_M_init_767 : decode b_M_init 767 = .ok (.getfield 76, 3) := by decide +kernel
theorem d_M_init_770 : decode b_M_init 770 = .ok (.aload_n 0, 1) := by decide +kernel
theorem d_M_init_771 : decode b_M_init 771 = .ok (.getfield 70, 3) := by decide +kernel
theorem d_M_init_774 : decode b_M_init 774 = .ok (.aload_n 0, 1) := by decide +kernel
theorem d_M_init_775 : decode b_M_init 775 = .ok (.getfield 27, 3) := by decide +kernel
theorem d_M_init_778 : decode b_M_init 778 = .ok (.invokevirtual 185, 3) := by decide +kernel
theorem d_M_init_781 : decode b_M_init 781 = .ok (.aload_n 0, 1) := by decide +kernel
theorem d_M_init_782 : decode b_M_init 782 = .ok (.getfield 70, 3) := by decide +kernel
theorem d_M_init_785 : decode b_M_init 785 = .ok (.iconst 4, 1) := by decide +kernel
theorem d_M_init_786 : decode b_M_init 786 = .ok (.invokestatic 177, 3) := by decide +kernel
theorem d_M_init_789 : decode b_M_init 789 = .ok (.aload_n 0, 1) := by decide +kernel
theorem d_M_init_790 : decode b_M_init 790 = .ok (.aload_n 0, 1) := by decide +kernel
theorem d_M_init_791 : decode b_M_init 791 = .ok (.getfield 49, 3) := by decide +kernel
theorem d_M_init_794 : decode b_M_init 794 = .ok (.aload_n 0, 1) := by decide +kernel
theorem d_M_init_795 : decode b_M_init 795 = .ok (.getfield 70, 3) := by decide +kernel
theorem d_M_init_798 : decode b_M_init 798 = .ok (.aload_n 0, 1) := by decide +kernel
theorem d_M_init_799 : decode b_M_init 799 = .ok (.getfield 76, 3) := by decide +kernel
theorem d_M_init_802 : decode b_M_init 802 = .ok (.aload_n 0, 1) := by decide +kernel
theorem d_M_init_803 : decode b_M_init 803 = .ok (.getfield 27, 3) := by decide +kernel
theorem d_M_init_806 : decode b_M_init 806 = .ok (.aload_n 0, 1) := by decide +kernel
theorem d_M_init_807 : decode b_M_init 807 = .ok (.getfield 31, 3) := by decide +kernel
theorem d_M_init_810 : decode b_M_init 810 = .ok (.invokevirtual 188, 3) := by decide +kernel
theorem d_M_init_813 : decode b_M_init 813 = .ok (.iconst 0, 1) := by decide +kernel
theorem d_M_init_814 : decode b_M_init 814 = .ok (.istore_n 1, 1) := by decide +kernel
theorem d_M_init_815 : decode b_M_init 815 = .ok (.iload_n 1, 1) := by decide +kernel
theorem d_M_init_816 : decode b_M_init 816 = .ok (.bipush 32, 2) := by decide +kernel
theorem d_M_init_818 : decode b_M_init 818 = .ok (.if_icmp .ge 32, 3) := by decide +kernel
theorem d_M_init_821 : decode b_M_init 821 = .ok (.aload_n 0, 1) := by decide +kernel
theorem d_M_init_822 : decode b_M_init 822 = .ok (.getfield 103, 3) := by decide +kernel
theorem d_M_init_825 : decode b_M_init 825 = .ok (.iload_n 1, 1) := by decide +kernel
theorem d_M_init_826 : decode b_M_init 826 = .ok (.aload_n 0, 1) := by decide +kernel
theorem d_M_init_827 : decode b_M_init 827 = .ok (.getfield 49, 3) := by decide +kernel
theorem d_M_init_830 : decode b_M_init 830 = .ok (.iload_n 1, 1) := by decide +kernel
theorem d_M_init_831 : decode b_M_init 831 = .ok (.iconst 2, 1) := by decide +kernel
theorem d_M_init_832 : decode b_M_init 832 = .ok (.idiv, 1) := by decide +kernel
theorem d_M_init_833 : decode b_M_init 833 = .ok (.laload, 1) := by decide +kernel
theorem d_M_init_834 : decode b_M_init 834 = .ok (.bipush 8, 2) := by decide +kernel
theorem d_M_init_836 : decode b_M_init 836 = .ok (.iload_n 1, 1) := by decide +kernel
theorem d_M_init_837 : decode b_M_init 837 = .ok (.iconst 2, 1) := by decide +kernel
theorem d_M_init_838 : decode b_M_init 838 = .ok (.irem, 1) := by decide +kernel
theorem d_M_init_839 : decode b_M_init 839 = .ok (.imul, 1) := by decide +kernel
theorem d_M_init_840 : decode b_M_init 840 = .ok (.lshr, 1) := by decide +kernel
theorem d_M_init_841 : decode b_M_init 841 = .ok (.l2i, 1) := by decide +kernel
theorem d_M_init_842 : decode b_M_init 842 = .ok (.i2b, 1) := by decide +kernel
theorem d_M_init_843 : decode b_M_init 843 = .ok (.bastore, 1) := by decide +kernel
theorem d_M_init_844 : decode b_M_init 844 = .ok (.iinc 1 1, 3) := by decide +kernel
theorem d_M_init_847 : decode b_M_init 847 = .ok (.goto (-32), 3) := by decide +kernel
theorem d_M_init_850 : decode b_M_init 850 = .ok (.aload_n 0, 1) := by decide +kernel
theorem d_M_init_851 : decode b_M_init 851 = .ok (.invokevirtual 203, 3) := by decide +kernel
theorem d_M_init_854 : decode b_M_init 854 = .ok (.pop, 1) := by decide +kernel
theorem d_M_init_855 : decode b_M_init 855 = .ok (.aload_n 0, 1) := by decide +kernel
theorem d_M_init_856 : decode b_M_init 856 = .ok (.getfield 46, 3) := by decide +kernel
theorem d_M_init_859 : decode b_M_init 859 = .ok (.aload_n 0, 1) := by decide +kernel
theorem d_M_init_860 : decode b_M_init 860 = .ok (.getfield 58, 3) := by decide +kernel
theorem d_M_init_863 : decode b_M_init 863 = .ok (.invokestatic 207, 3) := by decide +kernel
theorem d_M_init_866 : decode b_M_init 866 = .ok (.return_, 1) := by decide +kernel
end
section
theorem fl_M_8 : Cond.fieldLink R_M 8 R_M "tape" "[B" ∈ lw_tbl ∧ sx_okw (Cond.fieldLink R_M 8 R_M "tape" "[B") = true := by decide +kernel
theorem fl_M_14 : Cond.fieldLink R_M 14 R_M "message" "[B" ∈ lw_tbl ∧ sx_okw (Cond.fieldLink R_M 14 R_M "message" "[B") = true := by decide +kernel
theorem fl_M_17 : Cond.fieldLink R_M 17 R_M "result" "[B" ∈ lw_tbl ∧ sx_okw (Cond.fieldLink R_M 17 R_M "result" "[B") = true := by decide +kernel
theorem fl_M_20 : Cond.fieldLink R_M 20 R_M "keys" "[B" ∈ lw_tbl ∧ sx_okw (Cond.fieldLink R_M 20 R_M "keys" "[B") = true := by decide +kernel
theorem fl_M_23 : Cond.fieldLink R_M 23 R_M "told" "[I" ∈ lw_tbl ∧ sx_okw (Cond.fieldLink R_M 23 R_M "told" "[I") = true := by decide +kernel
theorem fl_M_34 : Cond.fieldLink R_M 34 R_M "order" "[J" ∈ lw_tbl ∧ sx_okw (Cond.fieldLink R_M 34 R_M "order" "[J") = true := by decide +kernel
theorem fl_M_37 : Cond.fieldLink R_M 37 R_M "ot" "[J" ∈ lw_tbl ∧ sx_okw (Cond.fieldLink R_M 37 R_M "ot" "[J") = true := by decide +kernel
theorem fl_M_46 : Cond.fieldLink R_M 46 R_M "baseX" "[J" ∈ lw_tbl ∧ sx_okw (Cond.fieldLink R_M 46 R_M "baseX" "[J") = true := by decide +kernel
theorem fl_M_49 : Cond.fieldLink R_M 49 R_M "baseY" "[J" ∈ lw_tbl ∧ sx_okw (Cond.fieldLink R_M 49 R_M "baseY" "[J") = true := by decide +kernel
theorem fl_M_52 : Cond.fieldLink R_M 52 R_M "px" "[J" ∈ lw_tbl ∧ sx_okw (Cond.fieldLink R_M 52 R_M "px" "[J") = true := by decide +kernel
theorem fl_M_55 : Cond.fieldLink R_M 55 R_M "py" "[J" ∈ lw_tbl ∧ sx_okw (Cond.fieldLink R_M 55 R_M "py" "[J") = true := by decide +kernel
theorem fl_M_64 : Cond.fieldLink R_M 64 R_M "rx" "[J" ∈ lw_tbl ∧ sx_okw (Cond.fieldLink R_M 64 R_M "rx" "[J") = true := by decide +kernel
theorem fl_M_67 : Cond.fieldLink R_M 67 R_M "ry" "[J" ∈ lw_tbl ∧ sx_okw (Cond.fieldLink R_M 67 R_M "ry" "[J") = true := by decide +kernel
theorem fl_M_85 : Cond.fieldLink R_M 85 R_M "g" "[J" ∈ lw_tbl ∧ sx_okw (Cond.fieldLink R_M 85 R_M "g" "[J") = true := by decide +kernel
theorem fl_M_91 : Cond.fieldLink R_M 91 R_M "scalar" "[J" ∈ lw_tbl ∧ sx_okw (Cond.fieldLink R_M 91 R_M "scalar" "[J") = true := by decide +kernel
theorem fl_M_94 : Cond.fieldLink R_M 94 R_M "secret" "[J" ∈ lw_tbl ∧ sx_okw (Cond.fieldLink R_M 94 R_M "secret" "[J") = true := by decide +kernel
theorem fl_M_97 : Cond.fieldLink R_M 97 R_M "number" "[J" ∈ lw_tbl ∧ sx_okw (Cond.fieldLink R_M 97 R_M "number" "[J") = true := by decide +kernel
theorem fl_M_100 : Cond.fieldLink R_M 100 R_M "ten" "[J" ∈ lw_tbl ∧ sx_okw (Cond.fieldLink R_M 100 R_M "ten" "[J") = true := by decide +kernel
theorem fl_M_106 : Cond.fieldLink R_M 106 R_M "open" "[B" ∈ lw_tbl ∧ sx_okw (Cond.fieldLink R_M 106 R_M "open" "[B") = true := by decide +kernel
theorem fl_M_109 : Cond.fieldLink R_M 109 R_M "first" "[B" ∈ lw_tbl ∧ sx_okw (Cond.fieldLink R_M 109 R_M "first" "[B") = true := by decide +kernel
theorem fl_M_113 : Cond.fieldLink R_M 113 R_M "work" "[B" ∈ lw_tbl ∧ sx_okw (Cond.fieldLink R_M 113 R_M "work" "[B") = true := by decide +kernel
theorem fl_M_120 : Cond.fieldLink R_M 120 R_M "low" "[I" ∈ lw_tbl ∧ sx_okw (Cond.fieldLink R_M 120 R_M "low" "[I") = true := by decide +kernel
theorem fl_M_147 : Cond.fieldLink R_M 147 R_M "words" "[J" ∈ lw_tbl ∧ sx_okw (Cond.fieldLink R_M 147 R_M "words" "[J") = true := by decide +kernel
theorem fl_M_150 : Cond.fieldLink R_M 150 R_M "state" "[J" ∈ lw_tbl ∧ sx_okw (Cond.fieldLink R_M 150 R_M "state" "[J") = true := by decide +kernel
theorem fl_M_159 : Cond.fieldLink R_M 159 R_M "hashed" "[B" ∈ lw_tbl ∧ sx_okw (Cond.fieldLink R_M 159 R_M "hashed" "[B") = true := by decide +kernel
theorem w_M_162 : sx_w [.methodLink R_M 162 y_M_constants, .instanceMethod y_M_constants, .selects R_M y_M_constants y_M_constants, .initialized R_M, .code y_M_constants b_M_constants 3 none] y_M_constants 0 := ⟨by decide +kernel, by decide +kernel⟩
theorem w_M_171 : sx_w [.methodLink R_M 171 y_M_remainders, .static y_M_remainders, .initialized y_M_remainders.cls, .code y_M_remainders b_M_remainders 5 none] y_M_remainders 3 := ⟨by decide +kernel, by decide +kernel⟩
theorem w_M_203 : sx_w [.methodLink R_M 203 y_M_decode, .instanceMethod y_M_decode, .selects R_M y_M_decode y_M_decode, .initialized R_M, .code y_M_decode b_M_decode 2 (some .boolean)] y_M_decode 0 := ⟨by decide +kernel, by decide +kernel⟩
end
section
abbrev rm_M_init : Room := { frames := 5, cells := 48, slots := 201362, locals := 130 }
set_option maxHeartbeats 4000000 in
set_option maxRecDepth 100000 in
theorem e_M_init {l : Launch} {D : va_G} {g : ClassId → FieldType → Prop} {E F : Nat → Prop} {H0 : Heap} {o : Nat} {r : Nat → Nat} {i : Nat → Int32} (hM : mo_ D g H0 o r i) (hE : ¬ E o) (hW : ∀ q ∈ mo_wr, E (r q.1)) {p : Program} {e : Env} {s : State} {m : MethodId} {args : Array Value} {below : List Frame} {meth : Method} {c : Code} {Q : State → Prop} {ls : Array Slot} {locs : List Loc} (EE : sx_E p s m args c b_M_init 2 R_M D g) (hl : lv_has ls 2 [(0, .ref o)]) (hS : sx_S g E F H0 H0 locs) (hret : ∀ (H : Heap) (locs : List Loc) (ls : Array Slot) (pc : Nat), sx_S g E F H0 H locs → decode b_M_init pc = .ok (.return_, 1) → W p l e rm_M_init s m args below meth c H locs 48 201362 Q (F0 m pc ls [])) : W p l e rm_M_init s m args below meth c H0 locs 48 201362 Q (F0 m 437 ls []) := by
  obtain ⟨hx, hb, hml, hown, hts, hG, hK⟩ := id EE
  refine lv_aload_n hx hb d_M_init_437 rfl (lv_at hl 0 rfl) ?_
  refine sx_gv (sx_runV (As := []) (rest := []) EE (hS.1.ob hE hM.1) rfl rfl (c_M_constants (hM.kept hS.1 hE) hE hW) w_M_162 rfl ⟨rfl, rfl⟩ ⟨Nat.le_of_ble_eq_true rfl, Nat.le_of_ble_eq_true rfl⟩ ⟨Nat.le_of_ble_eq_true rfl, Nat.le_of_ble_eq_true rfl⟩ hl.1 rfl (Nat.le_of_ble_eq_true rfl) d_M_init_438) hS (fun H locs hS => ?_)
  refine lv_iconst (v := nI 0) hx hb d_M_init_441 (by decide +kernel) ?_
  refine lv_istore_n (lv' := [(1, .int (nI (0))), (0, .ref o)]) hx hb d_M_init_442 rfl hl (by decide) rfl (fun ls hl => ?_)
  have lp443 : ∀ (k i1 : Nat) (H : Heap) (locs : List Loc) (ls : Array Slot), i1 + k = 16 → sx_S g E F H0 H locs → lv_has ls 2 [(1, .int (nI (i1))), (0, .ref o)] → W p l e rm_M_init s m args below meth c H locs 48 201362 Q (F0 m 443 ls []) := by
    intro k
    induction k with
    | zero =>
      intro i1  H locs ls hi  hS hl
      refine lv_iload_n hx hb d_M_init_443 rfl (lv_at hl 0 rfl) ?_
      refine lv_bipush (v := nI 16) hx hb d_M_init_444 (by decide +kernel) ?_
      refine lv_icmp_ge (tgt := 486) hx hb d_M_init_446 (by decide) (fun _ => ?_) (fun q => absurd (nI_le (by omega) (by omega)) q)
      refine lv_aload_n hx hb d_M_init_486 rfl (lv_at hl 1 rfl) ?_
      refine sx_get EE (hS.1.ob hE hM.1) rfl i_M 11 (by decide) rfl fl_M_31 rfl d_M_init_487 ?_
      refine lv_aload_n hx hb d_M_init_490 rfl (lv_at hl 1 rfl) ?_
      refine sx_get EE (hS.1.ob hE hM.1) rfl i_M 10 (by decide) rfl fl_M_27 rfl d_M_init_491 ?_
      refine lv_aload_n hx hb d_M_init_494 rfl (lv_at hl 1 rfl) ?_
      refine sx_get EE (hS.1.ob hE hM.1) rfl i_M 24 (by decide) rfl fl_M_70 rfl d_M_init_495 ?_
      refine sx_gv (sx_runS (As := [.ref (r 11), .ref (r 10), .ref (r 24)]) (rest := []) EE (c_M_remainders (hS.a (mo_11 hM)) (mow_11 hW) (hS.a (mo_10 hM)) (hS.a (mo_24 hM)) (mow_24 hW)) w_M_171 rfl ⟨rfl, rfl⟩ ⟨Nat.le_of_ble_eq_true rfl, Nat.le_of_ble_eq_true rfl⟩ ⟨Nat.le_of_ble_eq_true rfl, Nat.le_of_ble_eq_true rfl⟩ hl.1 rfl (Nat.le_of_ble_eq_true rfl) d_M_init_498) hS (fun H locs hS => ?_)
      refine lv_iconst (v := nI 0) hx hb d_M_init_501 (by decide +kernel) ?_
      refine lv_istore_n (lv' := [(1, .int (nI (0))), (0, .ref o)]) hx hb d_M_init_502 rfl hl (by decide) rfl (fun ls hl => ?_)
      have lp503 : ∀ (k i2 : Nat) (H : Heap) (locs : List Loc) (ls : Array Slot), i2 + k = 16 → sx_S g E F H0 H locs → lv_has ls 2 [(1, .int (nI (i2))), (0, .ref o)] → W p l e rm_M_init s m args below meth c H locs 48 201362 Q (F0 m 503 ls []) := by
        intro k
        induction k with
        | zero =>
          intro i2  H locs ls hi  hS hl
          refine lv_iload_n hx hb d_M_init_503 rfl (lv_at hl 0 rfl) ?_
          refine lv_bipush (v := nI 16) hx hb d_M_init_504 (by decide +kernel) ?_
          refine lv_icmp_ge (tgt := 550) hx hb d_M_init_506 (by decide) (fun _ => ?_) (fun q => absurd (nI_le (by omega) (by omega)) q)
          refine lv_aload_n hx hb d_M_init_550 rfl (lv_at hl 1 rfl) ?_
          refine sx_get EE (hS.1.ob hE hM.1) rfl i_M 13 (by decide) rfl fl_M_37 rfl d_M_init_551 ?_
          refine lv_aload_n hx hb d_M_init_554 rfl (lv_at hl 1 rfl) ?_
          refine sx_get EE (hS.1.ob hE hM.1) rfl i_M 12 (by decide) rfl fl_M_34 rfl d_M_init_555 ?_
          refine lv_aload_n hx hb d_M_init_558 rfl (lv_at hl 1 rfl) ?_
          refine sx_get EE (hS.1.ob hE hM.1) rfl i_M 24 (by decide) rfl fl_M_70 rfl d_M_init_559 ?_
          refine sx_gv (sx_runS (As := [.ref (r 13), .ref (r 12), .ref (r 24)]) (rest := []) EE (c_M_remainders (hS.a (mo_13 hM)) (mow_13 hW) (hS.a (mo_12 hM)) (hS.a (mo_24 hM)) (mow_24 hW)) w_M_171 rfl ⟨rfl, rfl⟩ ⟨Nat.le_of_ble_eq_true rfl, Nat.le_of_ble_eq_true rfl⟩ ⟨Nat.le_of_ble_eq_true rfl, Nat.le_of_ble_eq_true rfl⟩ hl.1 rfl (Nat.le_of_ble_eq_true rfl) d_M_init_562) hS (fun H locs hS => ?_)
          refine lv_aload_n hx hb d_M_init_565 rfl (lv_at hl 1 rfl) ?_
          refine sx_get EE (hS.1.ob hE hM.1) rfl i_M 30 (by decide) rfl fl_M_88 rfl d_M_init_566 ?_
          refine lv_iconst (v := nI 1) hx hb d_M_init_569 (by decide +kernel) ?_
          refine sx_gv (sx_runS (As := [.ref (r 30), .int (nI (1))]) (rest := []) EE (c_M_set (hS.a (mo_30 hM)) (mow_30 hW)) w_M_177 rfl ⟨rfl, rfl⟩ ⟨Nat.le_of_ble_eq_true rfl, Nat.le_of_ble_eq_true rfl⟩ ⟨Nat.le_of_ble_eq_true rfl, Nat.le_of_ble_eq_true rfl⟩ hl.1 rfl (Nat.le_of_ble_eq_true rfl) d_M_init_570) hS (fun H locs hS => ?_)
          refine lv_aload_n hx hb d_M_init_573 rfl (lv_at hl 1 rfl) ?_
          refine sx_get EE (hS.1.ob hE hM.1) rfl i_M 24 (by decide) rfl fl_M_70 rfl d_M_init_574 ?_
          refine lv_iconst (v := nI 0) hx hb d_M_init_577 (by decide +kernel) ?_
          refine sx_gv (sx_runS (As := [.ref (r 24), .int (nI (0))]) (rest := []) EE (c_M_set (hS.a (mo_24 hM)) (mow_24 hW)) w_M_177 rfl ⟨rfl, rfl⟩ ⟨Nat.le_of_ble_eq_true rfl, Nat.le_of_ble_eq_true rfl⟩ ⟨Nat.le_of_ble_eq_true rfl, Nat.le_of_ble_eq_true rfl⟩ hl.1 rfl (Nat.le_of_ble_eq_true rfl) d_M_init_578) hS (fun H locs hS => ?_)
          refine lv_aload_n hx hb d_M_init_581 rfl (lv_at hl 1 rfl) ?_
          refine sx_get EE (hS.1.ob hE hM.1) rfl i_M 25 (by decide) rfl fl_M_73 rfl d_M_init_582 ?_
          refine lv_iconst (v := nI 0) hx hb d_M_init_585 (by decide +kernel) ?_
          refine sx_gv (sx_runS (As := [.ref (r 25), .int (nI (0))]) (rest := []) EE (c_M_set (hS.a (mo_25 hM)) (mow_25 hW)) w_M_177 rfl ⟨rfl, rfl⟩ ⟨Nat.le_of_ble_eq_true rfl, Nat.le_of_ble_eq_true rfl⟩ ⟨Nat.le_of_ble_eq_true rfl, Nat.le_of_ble_eq_true rfl⟩ hl.1 rfl (Nat.le_of_ble_eq_true rfl) d_M_init_586) hS (fun H locs hS => ?_)
          refine lv_aload_n hx hb d_M_init_589 rfl (lv_at hl 1 rfl) ?_
          refine sx_get EE (hS.1.ob hE hM.1) rfl i_M 24 (by decide) rfl fl_M_70 rfl d_M_init_590 ?_
          refine lv_iconst (v := nI 0) hx hb d_M_init_593 (by decide +kernel) ?_
          refine lv_ldc2 (v := (56129)) hx hb hown (hts (.constantLong R_M 181 (56129)) (by decide +kernel)) d_M_init_594 ?_
          refine sx_last hx hb hG hS (mo_24 hM) (mow_24 hW) (sx_in (by omega) (by decide)) d_M_init_597 (fun H locs hS => ?_)
          refine lv_aload_n hx hb d_M_init_598 rfl (lv_at hl 1 rfl) ?_
          refine sx_get EE (hS.1.ob hE hM.1) rfl i_M 24 (by decide) rfl fl_M_70 rfl d_M_init_599 ?_
          refine lv_iconst (v := nI 1) hx hb d_M_init_602 (by decide +kernel) ?_
          refine lv_lconst (v := 1) hx hb d_M_init_603 (by decide +kernel) ?_
          refine sx_last hx hb hG hS (mo_24 hM) (mow_24 hW) (sx_in (by omega) (by decide)) d_M_init_604 (fun H locs hS => ?_)
          refine lv_aload_n hx hb d_M_init_605 rfl (lv_at hl 1 rfl) ?_
          refine sx_get EE (hS.1.ob hE hM.1) rfl i_M 25 (by decide) rfl fl_M_73 rfl d_M_init_606 ?_
          refine lv_iconst (v := nI 0) hx hb d_M_init_609 (by decide +kernel) ?_
          refine lv_ldc2 (v := (56130)) hx hb hown (hts (.constantLong R_M 183 (56130)) (by decide +kernel)) d_M_init_610 ?_
          refine sx_last hx hb hG hS (mo_25 hM) (mow_25 hW) (sx_in (by omega) (by decide)) d_M_init_613 (fun H locs hS => ?_)
          refine lv_aload_n hx hb d_M_init_614 rfl (lv_at hl 1 rfl) ?_
          refine sx_get EE (hS.1.ob hE hM.1) rfl i_M 25 (by decide) rfl fl_M_73 rfl d_M_init_615 ?_
          refine lv_iconst (v := nI 1) hx hb d_M_init_618 (by decide +kernel) ?_
          refine lv_lconst (v := 1) hx hb d_M_init_619 (by decide +kernel) ?_
          refine sx_last hx hb hG hS (mo_25 hM) (mow_25 hW) (sx_in (by omega) (by decide)) d_M_init_620 (fun H locs hS => ?_)
          refine lv_aload_n hx hb d_M_init_621 rfl (lv_at hl 1 rfl) ?_
          refine lv_aload_n hx hb d_M_init_622 rfl (lv_at hl 1 rfl) ?_
          refine sx_get EE (hS.1.ob hE hM.1) rfl i_M 26 (by decide) rfl fl_M_76 rfl d_M_init_623 ?_
          refine lv_aload_n hx hb d_M_init_626 rfl (lv_at hl 1 rfl) ?_
          refine sx_get EE (hS.1.ob hE hM.1) rfl i_M 25 (by decide) rfl fl_M_73 rfl d_M_init_627 ?_
          refine lv_aload_n hx hb d_M_init_630 rfl (lv_at hl 1 rfl) ?_
          refine sx_get EE (hS.1.ob hE hM.1) rfl i_M 10 (by decide) rfl fl_M_27 rfl d_M_init_631 ?_
          refine sx_gv (sx_runV (As := [.ref (r 26), .ref (r 25), .ref (r 10)]) (rest := []) EE (hS.1.ob hE hM.1) rfl rfl (c_M_inverse (hM.kept hS.1 hE) hE hW (hS.a (mo_26 hM)) (mow_26 hW) (hS.a (mo_25 hM)) (hS.a (mo_10 hM))) w_M_185 rfl ⟨rfl, rfl⟩ ⟨Nat.le_of_ble_eq_true rfl, Nat.le_of_ble_eq_true rfl⟩ ⟨Nat.le_of_ble_eq_true rfl, Nat.le_of_ble_eq_true rfl⟩ hl.1 rfl (Nat.le_of_ble_eq_true rfl) d_M_init_634) hS (fun H locs hS => ?_)
          refine lv_aload_n hx hb d_M_init_637 rfl (lv_at hl 1 rfl) ?_
          refine lv_aload_n hx hb d_M_init_638 rfl (lv_at hl 1 rfl) ?_
          refine sx_get EE (hS.1.ob hE hM.1) rfl i_M 14 (by decide) rfl fl_M_40 rfl d_M_init_639 ?_
          refine lv_aload_n hx hb d_M_init_642 rfl (lv_at hl 1 rfl) ?_
          refine sx_get EE (hS.1.ob hE hM.1) rfl i_M 24 (by decide) rfl fl_M_70 rfl d_M_init_643 ?_
          refine lv_aload_n hx hb d_M_init_646 rfl (lv_at hl 1 rfl) ?_
          refine sx_get EE (hS.1.ob hE hM.1) rfl i_M 26 (by decide) rfl fl_M_76 rfl d_M_init_647 ?_
          refine lv_aload_n hx hb d_M_init_650 rfl (lv_at hl 1 rfl) ?_
          refine sx_get EE (hS.1.ob hE hM.1) rfl i_M 10 (by decide) rfl fl_M_27 rfl d_M_init_651 ?_
          refine lv_aload_n hx hb d_M_init_654 rfl (lv_at hl 1 rfl) ?_
          refine sx_get EE (hS.1.ob hE hM.1) rfl i_M 11 (by decide) rfl fl_M_31 rfl d_M_init_655 ?_
          refine sx_gv (sx_runV (As := [.ref (r 14), .ref (r 24), .ref (r 26), .ref (r 10), .ref (r 11)]) (rest := []) EE (hS.1.ob hE hM.1) rfl rfl (c_M_times (hM.kept hS.1 hE) hE hW (hS.a (mo_14 hM)) (mow_14 hW) (hS.a (mo_24 hM)) (hS.a (mo_26 hM)) (hS.a (mo_10 hM)) (hS.a (mo_11 hM))) w_M_188 rfl ⟨rfl, rfl⟩ ⟨Nat.le_of_ble_eq_true rfl, Nat.le_of_ble_eq_true rfl⟩ ⟨Nat.le_of_ble_eq_true rfl, Nat.le_of_ble_eq_true rfl⟩ hl.1 rfl (Nat.le_of_ble_eq_true rfl) d_M_init_658) hS (fun H locs hS => ?_)
          refine lv_aload_n hx hb d_M_init_661 rfl (lv_at hl 1 rfl) ?_
          refine sx_get EE (hS.1.ob hE hM.1) rfl i_M 25 (by decide) rfl fl_M_73 rfl d_M_init_662 ?_
          refine lv_iconst (v := nI 0) hx hb d_M_init_665 (by decide +kernel) ?_
          refine sx_gv (sx_runS (As := [.ref (r 25), .int (nI (0))]) (rest := []) EE (c_M_set (hS.a (mo_25 hM)) (mow_25 hW)) w_M_177 rfl ⟨rfl, rfl⟩ ⟨Nat.le_of_ble_eq_true rfl, Nat.le_of_ble_eq_true rfl⟩ ⟨Nat.le_of_ble_eq_true rfl, Nat.le_of_ble_eq_true rfl⟩ hl.1 rfl (Nat.le_of_ble_eq_true rfl) d_M_init_666) hS (fun H locs hS => ?_)
          refine lv_aload_n hx hb d_M_init_669 rfl (lv_at hl 1 rfl) ?_
          refine sx_get EE (hS.1.ob hE hM.1) rfl i_M 14 (by decide) rfl fl_M_40 rfl d_M_init_670 ?_
          refine lv_aload_n hx hb d_M_init_673 rfl (lv_at hl 1 rfl) ?_
          refine sx_get EE (hS.1.ob hE hM.1) rfl i_M 25 (by decide) rfl fl_M_73 rfl d_M_init_674 ?_
          refine lv_aload_n hx hb d_M_init_677 rfl (lv_at hl 1 rfl) ?_
          refine sx_get EE (hS.1.ob hE hM.1) rfl i_M 14 (by decide) rfl fl_M_40 rfl d_M_init_678 ?_
          refine lv_aload_n hx hb d_M_init_681 rfl (lv_at hl 1 rfl) ?_
          refine sx_get EE (hS.1.ob hE hM.1) rfl i_M 10 (by decide) rfl fl_M_27 rfl d_M_init_682 ?_
          refine sx_gv (sx_runS (As := [.ref (r 14), .ref (r 25), .ref (r 14), .ref (r 10)]) (rest := []) EE (c_M_minus (hS.a (mo_14 hM)) (mow_14 hW) (hS.a (mo_25 hM)) (hS.a (mo_14 hM)) (hS.a (mo_10 hM))) w_M_192 rfl ⟨rfl, rfl⟩ ⟨Nat.le_of_ble_eq_true rfl, Nat.le_of_ble_eq_true rfl⟩ ⟨Nat.le_of_ble_eq_true rfl, Nat.le_of_ble_eq_true rfl⟩ hl.1 rfl (Nat.le_of_ble_eq_true rfl) d_M_init_685) hS (fun H locs hS => ?_)
          refine lv_aload_n hx hb d_M_init_688 rfl (lv_at hl 1 rfl) ?_
          refine sx_get EE (hS.1.ob hE hM.1) rfl i_M 24 (by decide) rfl fl_M_70 rfl d_M_init_689 ?_
          refine lv_iconst (v := nI 2) hx hb d_M_init_692 (by decide +kernel) ?_
          refine sx_gv (sx_runS (As := [.ref (r 24), .int (nI (2))]) (rest := []) EE (c_M_set (hS.a (mo_24 hM)) (mow_24 hW)) w_M_177 rfl ⟨rfl, rfl⟩ ⟨Nat.le_of_ble_eq_true rfl, Nat.le_of_ble_eq_true rfl⟩ ⟨Nat.le_of_ble_eq_true rfl, Nat.le_of_ble_eq_true rfl⟩ hl.1 rfl (Nat.le_of_ble_eq_true rfl) d_M_init_693) hS (fun H locs hS => ?_)
          refine lv_iconst (v := nI 0) hx hb d_M_init_696 (by decide +kernel) ?_
          refine lv_istore_n (lv' := [(1, .int (nI (0))), (0, .ref o)]) hx hb d_M_init_697 rfl hl (by decide) rfl (fun ls hl => ?_)
          have lp698 : ∀ (k i3 : Nat) (H : Heap) (locs : List Loc) (ls : Array Slot), i3 + k = 16 → sx_S g E F H0 H locs → lv_has ls 2 [(1, .int (nI (i3))), (0, .ref o)] → W p l e rm_M_init s m args below meth c H locs 48 201362 Q (F0 m 698 ls []) := by
            intro k
            induction k with
            | zero =>
              intro i3  H locs ls hi  hS hl
              refine lv_iload_n hx hb d_M_init_698 rfl (lv_at hl 0 rfl) ?_
              refine lv_bipush (v := nI 16) hx hb d_M_init_699 (by decide +kernel) ?_
              refine lv_icmp_ge (tgt := 741) hx hb d_M_init_701 (by decide) (fun _ => ?_) (fun q => absurd (nI_le (by omega) (by omega)) q)
              refine lv_aload_n hx hb d_M_init_741 rfl (lv_at hl 1 rfl) ?_
              refine lv_aload_n hx hb d_M_init_742 rfl (lv_at hl 1 rfl) ?_
              refine sx_get EE (hS.1.ob hE hM.1) rfl i_M 15 (by decide) rfl fl_M_43 rfl d_M_init_743 ?_
              refine lv_aload_n hx hb d_M_init_746 rfl (lv_at hl 1 rfl) ?_
              refine sx_get EE (hS.1.ob hE hM.1) rfl i_M 24 (by decide) rfl fl_M_70 rfl d_M_init_747 ?_
              refine lv_aload_n hx hb d_M_init_750 rfl (lv_at hl 1 rfl) ?_
              refine sx_get EE (hS.1.ob hE hM.1) rfl i_M 27 (by decide) rfl fl_M_79 rfl d_M_init_751 ?_
              refine sx_gv (sx_runV (As := [.ref (r 15), .ref (r 24), .ref (r 27)]) (rest := []) EE (hS.1.ob hE hM.1) rfl rfl (c_M_power (hM.kept hS.1 hE) hE hW (hS.a (mo_15 hM)) (mow_15 hW) (hS.a (mo_24 hM)) (hS.a (mo_27 hM))) w_M_200 rfl ⟨rfl, rfl⟩ ⟨Nat.le_of_ble_eq_true rfl, Nat.le_of_ble_eq_true rfl⟩ ⟨Nat.le_of_ble_eq_true rfl, Nat.le_of_ble_eq_true rfl⟩ hl.1 rfl (Nat.le_of_ble_eq_true rfl) d_M_init_754) hS (fun H locs hS => ?_)
              refine lv_aload_n hx hb d_M_init_757 rfl (lv_at hl 1 rfl) ?_
              refine sx_get EE (hS.1.ob hE hM.1) rfl i_M 24 (by decide) rfl fl_M_70 rfl d_M_init_758 ?_
              refine lv_iconst (v := nI 5) hx hb d_M_init_761 (by decide +kernel) ?_
              refine sx_gv (sx_runS (As := [.ref (r 24), .int (nI (5))]) (rest := []) EE (c_M_set (hS.a (mo_24 hM)) (mow_24 hW)) w_M_177 rfl ⟨rfl, rfl⟩ ⟨Nat.le_of_ble_eq_true rfl, Nat.le_of_ble_eq_true rfl⟩ ⟨Nat.le_of_ble_eq_true rfl, Nat.le_of_ble_eq_true rfl⟩ hl.1 rfl (Nat.le_of_ble_eq_true rfl) d_M_init_762) hS (fun H locs hS => ?_)
              refine lv_aload_n hx hb d_M_init_765 rfl (lv_at hl 1 rfl) ?_
              refine lv_aload_n hx hb d_M_init_766 rfl (lv_at hl 1 rfl) ?_
              refine sx_get EE (hS.1.ob hE hM.1) rfl i_M 26 (by decide) rfl fl_M_76 rfl d_M_init_767 ?_
              refine lv_aload_n hx hb d_M_init_770 rfl (lv_at hl 1 rfl) ?_
              refine sx_get EE (hS.1.ob hE hM.1) rfl i_M 24 (by decide) rfl fl_M_70 rfl d_M_init_771 ?_
              refine lv_aload_n hx hb d_M_init_774 rfl (lv_at hl 1 rfl) ?_
              refine sx_get EE (hS.1.ob hE hM.1) rfl i_M 10 (by decide) rfl fl_M_27 rfl d_M_init_775 ?_
              refine sx_gv (sx_runV (As := [.ref (r 26), .ref (r 24), .ref (r 10)]) (rest := []) EE (hS.1.ob hE hM.1) rfl rfl (c_M_inverse (hM.kept hS.1 hE) hE hW (hS.a (mo_26 hM)) (mow_26 hW) (hS.a (mo_24 hM)) (hS.a (mo_10 hM))) w_M_185 rfl ⟨rfl, rfl⟩ ⟨Nat.le_of_ble_eq_true rfl, Nat.le_of_ble_eq_true rfl⟩ ⟨Nat.le_of_ble_eq_true rfl, Nat.le_of_ble_eq_true rfl⟩ hl.1 rfl (Nat.le_of_ble_eq_true rfl) d_M_init_778) hS (fun H locs hS => ?_)
              refine lv_aload_n hx hb d_M_init_781 rfl (lv_at hl 1 rfl) ?_
              refine sx_get EE (hS.1.ob hE hM.1) rfl i_M 24 (by decide) rfl fl_M_70 rfl d_M_init_782 ?_
              refine lv_iconst (v := nI 4) hx hb d_M_init_785 (by decide +kernel) ?_
              refine sx_gv (sx_runS (As := [.ref (r 24), .int (nI (4))]) (rest := []) EE (c_M_set (hS.a (mo_24 hM)) (mow_24 hW)) w_M_177 rfl ⟨rfl, rfl⟩ ⟨Nat.le_of_ble_eq_true rfl, Nat.le_of_ble_eq_true rfl⟩ ⟨Nat.le_of_ble_eq_true rfl, Nat.le_of_ble_eq_true rfl⟩ hl.1 rfl (Nat.le_of_ble_eq_true rfl) d_M_init_786) hS (fun H locs hS => ?_)
              refine lv_aload_n hx hb d_M_init_789 rfl (lv_at hl 1 rfl) ?_
              refine lv_aload_n hx hb d_M_init_790 rfl (lv_at hl 1 rfl) ?_
              refine sx_get EE (hS.1.ob hE hM.1) rfl i_M 17 (by decide) rfl fl_M_49 rfl d_M_init_791 ?_
              refine lv_aload_n hx hb d_M_init_794 rfl (lv_at hl 1 rfl) ?_
              refine sx_get EE (hS.1.ob hE hM.1) rfl i_M 24 (by decide) rfl fl_M_70 rfl d_M_init_795 ?_
              refine lv_aload_n hx hb d_M_init_798 rfl (lv_at hl 1 rfl) ?_
              refine sx_get EE (hS.1.ob hE hM.1) rfl i_M 26 (by decide) rfl fl_M_76 rfl d_M_init_799 ?_
              refine lv_aload_n hx hb d_M_init_802 rfl (lv_at hl 1 rfl) ?_
              refine sx_get EE (hS.1.ob hE hM.1) rfl i_M 10 (by decide) rfl fl_M_27 rfl d_M_init_803 ?_
              refine lv_aload_n hx hb d_M_init_806 rfl (lv_at hl 1 rfl) ?_
              refine sx_get EE (hS.1.ob hE hM.1) rfl i_M 11 (by decide) rfl fl_M_31 rfl d_M_init_807 ?_
              refine sx_gv (sx_runV (As := [.ref (r 17), .ref (r 24), .ref (r 26), .ref (r 10), .ref (r 11)]) (rest := []) EE (hS.1.ob hE hM.1) rfl rfl (c_M_times (hM.kept hS.1 hE) hE hW (hS.a (mo_17 hM)) (mow_17 hW) (hS.a (mo_24 hM)) (hS.a (mo_26 hM)) (hS.a (mo_10 hM)) (hS.a (mo_11 hM))) w_M_188 rfl ⟨rfl, rfl⟩ ⟨Nat.le_of_ble_eq_true rfl, Nat.le_of_ble_eq_true rfl⟩ ⟨Nat.le_of_ble_eq_true rfl, Nat.le_of_ble_eq_true rfl⟩ hl.1 rfl (Nat.le_of_ble_eq_true rfl) d_M_init_810) hS (fun H locs hS => ?_)
              refine lv_iconst (v := nI 0) hx hb d_M_init_813 (by decide +kernel) ?_
              refine lv_istore_n (lv' := [(1, .int (nI (0))), (0, .ref o)]) hx hb d_M_init_814 rfl hl (by decide) rfl (fun ls hl => ?_)
              have lp815 : ∀ (k i4 : Nat) (H : Heap) (locs : List Loc) (ls : Array Slot), i4 + k = 32 → sx_S g E F H0 H locs → lv_has ls 2 [(1, .int (nI (i4))), (0, .ref o)] → W p l e rm_M_init s m args below meth c H locs 48 201362 Q (F0 m 815 ls []) := by
                intro k
                induction k with
                | zero =>
                  intro i4  H locs ls hi  hS hl
                  refine lv_iload_n hx hb d_M_init_815 rfl (lv_at hl 0 rfl) ?_
                  refine lv_bipush (v := nI 32) hx hb d_M_init_816 (by decide +kernel) ?_
                  refine lv_icmp_ge (tgt := 850) hx hb d_M_init_818 (by decide) (fun _ => ?_) (fun q => absurd (nI_le (by omega) (by omega)) q)
                  refine lv_aload_n hx hb d_M_init_850 rfl (lv_at hl 1 rfl) ?_
                  refine sx_gn (sx_runV (As := []) (rest := []) EE (hS.1.ob hE hM.1) rfl rfl (c_M_decode (hM.kept hS.1 hE) hE hW) w_M_203 rfl ⟨rfl, rfl⟩ ⟨Nat.le_of_ble_eq_true rfl, Nat.le_of_ble_eq_true rfl⟩ ⟨Nat.le_of_ble_eq_true rfl, Nat.le_of_ble_eq_true rfl⟩ hl.1 rfl (Nat.le_of_ble_eq_true rfl) d_M_init_851) hS (fun n5 h_n5 H locs hS => ?_)
                  have h_n5 : n5 ≤ 1 := h_n5
                  refine lv_pop hx hb d_M_init_854 rfl ?_
                  refine lv_aload_n hx hb d_M_init_855 rfl (lv_at hl 1 rfl) ?_
                  refine sx_get EE (hS.1.ob hE hM.1) rfl i_M 16 (by decide) rfl fl_M_46 rfl d_M_init_856 ?_
                  refine lv_aload_n hx hb d_M_init_859 rfl (lv_at hl 1 rfl) ?_
                  refine sx_get EE (hS.1.ob hE hM.1) rfl i_M 20 (by decide) rfl fl_M_58 rfl d_M_init_860 ?_
                  refine sx_gv (sx_runS (As := [.ref (r 16), .ref (r 20)]) (rest := []) EE (c_M_copy (hS.a (mo_16 hM)) (mow_16 hW) (hS.a (mo_20 hM))) w_M_207 rfl ⟨rfl, rfl⟩ ⟨Nat.le_of_ble_eq_true rfl, Nat.le_of_ble_eq_true rfl⟩ ⟨Nat.le_of_ble_eq_true rfl, Nat.le_of_ble_eq_true rfl⟩ hl.1 rfl (Nat.le_of_ble_eq_true rfl) d_M_init_863) hS (fun H locs hS => ?_)
                  exact hret _ _ _ _ hS d_M_init_866
                | succ k ih815 =>
                  intro i4  H locs ls hi  hS hl
                  refine lv_iload_n hx hb d_M_init_815 rfl (lv_at hl 0 rfl) ?_
                  refine lv_bipush (v := nI 32) hx hb d_M_init_816 (by decide +kernel) ?_
                  refine lv_icmp_ge (tgt := 850) hx hb d_M_init_818 (by decide) (fun q => absurd q (nI_ge (by omega) (by omega))) (fun _ => ?_)
                  refine lv_aload_n hx hb d_M_init_821 rfl (lv_at hl 1 rfl) ?_
                  refine sx_get EE (hS.1.ob hE hM.1) rfl i_M 35 (by decide) rfl fl_M_103 rfl d_M_init_822 ?_
                  refine lv_iload_n hx hb d_M_init_825 rfl (lv_at hl 0 rfl) ?_
                  refine lv_aload_n hx hb d_M_init_826 rfl (lv_at hl 1 rfl) ?_
                  refine sx_get EE (hS.1.ob hE hM.1) rfl i_M 17 (by decide) rfl fl_M_49 rfl d_M_init_827 ?_
                  refine lv_iload_n hx hb d_M_init_830 rfl (lv_at hl 0 rfl) ?_
                  refine lv_iconst (v := nI 2) hx hb d_M_init_831 (by decide +kernel) ?_
                  refine lv_idiv hx hb d_M_init_832 (nI_ne0 (by omega) (by omega)) ?_
                  refine sx_ti (y := nI (i4 / 2)) (pk_div (by omega) (by omega) (by omega)) ?_
                  refine sx_lald hx hb hG hS (mo_17 hM) (sx_in (by omega) (by decide)) d_M_init_833 (fun z6 => ?_)
                  refine lv_bipush (v := nI 8) hx hb d_M_init_834 (by decide +kernel) ?_
                  refine lv_iload_n hx hb d_M_init_836 rfl (lv_at hl 0 rfl) ?_
                  refine lv_iconst (v := nI 2) hx hb d_M_init_837 (by decide +kernel) ?_
                  refine lv_irem hx hb d_M_init_838 (nI_ne0 (by omega) (by omega)) ?_
                  refine sx_ti (y := nI (i4 % 2)) (pk_rem (by omega) (by omega) (by omega)) ?_
                  refine lv_imul hx hb d_M_init_839 ?_
                  refine sx_ti (y := nI (8 * (i4 % 2))) (pk_mul _ _) ?_
                  refine sx_lshr hx hb d_M_init_840 (fun z7 => ?_)
                  refine sx_l2i hx hb d_M_init_841 (fun z8 => ?_)
                  refine sx_i2b hx hb d_M_init_842 (fun z9 => ?_)
                  refine sx_bast hx hb hG hS (mo_35 hM) (mow_35 hW) (sx_in (by omega) (by decide)) d_M_init_843 (fun H locs hS => ?_)
                  refine lv_iinc (v := nI (i4 + 1)) (lv' := [(1, .int (nI (i4 + 1))), (0, .ref o)]) hx hb d_M_init_844 hl (k := 0) rfl (sx_inc _ _) (by decide) rfl (fun ls hl => ?_)
                  refine lv_goto (tgt := 815) hx hb d_M_init_847 (by decide) ?_
                  exact ih815 (i4 + 1)  _ _ _ (by omega)  hS (lv_sub hl [0, 1] rfl)
              exact lp815 (32) 0  _ _ _ (by omega)  hS (lv_sub hl [0, 1] rfl)
            | succ k ih698 =>
              intro i3  H locs ls hi  hS hl
              refine lv_iload_n hx hb d_M_init_698 rfl (lv_at hl 0 rfl) ?_
              refine lv_bipush (v := nI 16) hx hb d_M_init_699 (by decide +kernel) ?_
              refine lv_icmp_ge (tgt := 741) hx hb d_M_init_701 (by decide) (fun q => absurd q (nI_ge (by omega) (by omega))) (fun _ => ?_)
              refine lv_aload_n hx hb d_M_init_704 rfl (lv_at hl 1 rfl) ?_
              refine sx_get EE (hS.1.ob hE hM.1) rfl i_M 27 (by decide) rfl fl_M_79 rfl d_M_init_705 ?_
              refine lv_iload_n hx hb d_M_init_708 rfl (lv_at hl 0 rfl) ?_
              refine lv_iload_n hx hb d_M_init_709 rfl (lv_at hl 0 rfl) ?_
              have jn734_10 : ∀ (w10 : Int64) (H : Heap) (locs : List Loc) (ls : Array Slot), sx_S g E F H0 H locs → lv_has ls 2 [(1, .int (nI (i3))), (0, .ref o)] → W p l e rm_M_init s m args below meth c H locs 48 201362 Q (F0 m 734 ls [.long w10, .int (nI (i3)), .ref (r 27)]) := by
                intro w10 H locs ls  hS hl
                refine sx_last hx hb hG hS (mo_27 hM) (mow_27 hW) (sx_in (by omega) (by decide)) d_M_init_734 (fun H locs hS => ?_)
                refine lv_iinc (v := nI (i3 + 1)) (lv' := [(1, .int (nI (i3 + 1))), (0, .ref o)]) hx hb d_M_init_735 hl (k := 0) rfl (sx_inc _ _) (by decide) rfl (fun ls hl => ?_)
                refine lv_goto (tgt := 698) hx hb d_M_init_738 (by decide) ?_
                exact ih698 (i3 + 1)  _ _ _ (by omega)  hS (lv_sub hl [0, 1] rfl)
              refine lv_if_ne (tgt := 719) hx hb d_M_init_710 (by decide) (fun q710 => ?_) (fun q710 => ?_)
              · skip
                have q710 : ¬ (i3 = 0) := fun z => q710 ((nI_eq (a := i3) (b := 0) (by omega) (by omega)).mpr z)
                refine lv_iload_n hx hb d_M_init_719 rfl (lv_at hl 0 rfl) ?_
                refine lv_bipush (v := nI 15) hx hb d_M_init_720 (by decide +kernel) ?_
                refine lv_icmp_ne (tgt := 731) hx hb d_M_init_722 (by decide) (fun q722 => ?_) (fun q722 => ?_)
                · skip
                  have q722 : ¬ (i3 = 15) := fun z => q722 ((nI_eq (a := i3) (b := 15) (by omega) (by omega)).mpr z)
                  refine lv_ldc2 (v := (65535)) hx hb hown (hts (.constantLong R_M 169 (65535)) (by decide +kernel)) d_M_init_731 ?_
                  exact jn734_10 ((65535)) _ _ _  hS (lv_sub hl [0, 1] rfl)
                · skip
                  have q722 : i3 = 15 := (nI_eq (a := i3) (b := 15) (by omega) (by omega)).mp q722
                  refine lv_ldc2 (v := (8191)) hx hb hown (hts (.constantLong R_M 198 (8191)) (by decide +kernel)) d_M_init_725 ?_
                  refine lv_goto (tgt := 734) hx hb d_M_init_728 (by decide) ?_
                  exact jn734_10 ((8191)) _ _ _  hS (lv_sub hl [0, 1] rfl)
              · skip
                have q710 : i3 = 0 := (nI_eq (a := i3) (b := 0) (by omega) (by omega)).mp q710
                refine lv_ldc2 (v := (65531)) hx hb hown (hts (.constantLong R_M 196 (65531)) (by decide +kernel)) d_M_init_713 ?_
                refine lv_goto (tgt := 734) hx hb d_M_init_716 (by decide) ?_
                exact jn734_10 ((65531)) _ _ _  hS (lv_sub hl [0, 1] rfl)
          exact lp698 (16) 0  _ _ _ (by omega)  hS (lv_sub hl [0, 1] rfl)
        | succ k ih503 =>
          intro i2  H locs ls hi  hS hl
          refine lv_iload_n hx hb d_M_init_503 rfl (lv_at hl 0 rfl) ?_
          refine lv_bipush (v := nI 16) hx hb d_M_init_504 (by decide +kernel) ?_
          refine lv_icmp_ge (tgt := 550) hx hb d_M_init_506 (by decide) (fun q => absurd q (nI_ge (by omega) (by omega))) (fun _ => ?_)
          refine lv_aload_n hx hb d_M_init_509 rfl (lv_at hl 1 rfl) ?_
          refine sx_get EE (hS.1.ob hE hM.1) rfl i_M 12 (by decide) rfl fl_M_34 rfl d_M_init_510 ?_
          refine lv_iload_n hx hb d_M_init_513 rfl (lv_at hl 0 rfl) ?_
          refine lv_iload_n hx hb d_M_init_514 rfl (lv_at hl 0 rfl) ?_
          refine lv_bipush (v := nI 8) hx hb d_M_init_515 (by decide +kernel) ?_
          have jn543_14 : ∀ (w14 : Int64) (H : Heap) (locs : List Loc) (ls : Array Slot), sx_S g E F H0 H locs → lv_has ls 2 [(1, .int (nI (i2))), (0, .ref o)] → W p l e rm_M_init s m args below meth c H locs 48 201362 Q (F0 m 543 ls [.long w14, .int (nI (i2)), .ref (r 12)]) := by
            intro w14 H locs ls  hS hl
            refine sx_last hx hb hG hS (mo_12 hM) (mow_12 hW) (sx_in (by omega) (by decide)) d_M_init_543 (fun H locs hS => ?_)
            refine lv_iinc (v := nI (i2 + 1)) (lv' := [(1, .int (nI (i2 + 1))), (0, .ref o)]) hx hb d_M_init_544 hl (k := 0) rfl (sx_inc _ _) (by decide) rfl (fun ls hl => ?_)
            refine lv_goto (tgt := 503) hx hb d_M_init_547 (by decide) ?_
            exact ih503 (i2 + 1)  _ _ _ (by omega)  hS (lv_sub hl [0, 1] rfl)
          refine lv_icmp_ge (tgt := 530) hx hb d_M_init_517 (by decide) (fun q517 => ?_) (fun q517 => ?_)
          · skip
            have q517 : 8 ≤ i2 := (nI_leI (a := 8) (b := i2) (by omega) (by omega)).mp q517
            refine lv_iload_n hx hb d_M_init_530 rfl (lv_at hl 0 rfl) ?_
            refine lv_bipush (v := nI 15) hx hb d_M_init_531 (by decide +kernel) ?_
            refine lv_icmp_ne (tgt := 542) hx hb d_M_init_533 (by decide) (fun q533 => ?_) (fun q533 => ?_)
            · skip
              have q533 : ¬ (i2 = 15) := fun z => q533 ((nI_eq (a := i2) (b := 15) (by omega) (by omega)).mpr z)
              refine lv_lconst (v := 0) hx hb d_M_init_542 (by decide +kernel) ?_
              exact jn543_14 0 _ _ _  hS (lv_sub hl [0, 1] rfl)
            · skip
              have q533 : i2 = 15 := (nI_eq (a := i2) (b := 15) (by omega) (by omega)).mp q533
              refine lv_ldc2 (v := (4096)) hx hb hown (hts (.constantLong R_M 175 (4096)) (by decide +kernel)) d_M_init_536 ?_
              refine lv_goto (tgt := 543) hx hb d_M_init_539 (by decide) ?_
              exact jn543_14 ((4096)) _ _ _  hS (lv_sub hl [0, 1] rfl)
          · skip
            have q517 : ¬ (8 ≤ i2) := fun z => q517 ((nI_leI (a := 8) (b := i2) (by omega) (by omega)).mpr z)
            refine lv_aload_n hx hb d_M_init_520 rfl (lv_at hl 1 rfl) ?_
            refine sx_get EE (hS.1.ob hE hM.1) rfl i_M 39 (by decide) rfl fl_M_120 rfl d_M_init_521 ?_
            refine lv_iload_n hx hb d_M_init_524 rfl (lv_at hl 0 rfl) ?_
            refine sx_iald hx hb hG hS (mo_39 hM) (sx_in (by omega) (by decide)) d_M_init_525 (fun z16 => ?_)
            refine sx_i2l hx hb d_M_init_526 (fun z17 => ?_)
            refine lv_goto (tgt := 543) hx hb d_M_init_527 (by decide) ?_
            exact jn543_14 z17 _ _ _  hS (lv_sub hl [0, 1] rfl)
      exact lp503 (16) 0  _ _ _ (by omega)  hS (lv_sub hl [0, 1] rfl)
    | succ k ih443 =>
      intro i1  H locs ls hi  hS hl
      refine lv_iload_n hx hb d_M_init_443 rfl (lv_at hl 0 rfl) ?_
      refine lv_bipush (v := nI 16) hx hb d_M_init_444 (by decide +kernel) ?_
      refine lv_icmp_ge (tgt := 486) hx hb d_M_init_446 (by decide) (fun q => absurd q (nI_ge (by omega) (by omega))) (fun _ => ?_)
      refine lv_aload_n hx hb d_M_init_449 rfl (lv_at hl 1 rfl) ?_
      refine sx_get EE (hS.1.ob hE hM.1) rfl i_M 10 (by decide) rfl fl_M_27 rfl d_M_init_450 ?_
      refine lv_iload_n hx hb d_M_init_453 rfl (lv_at hl 0 rfl) ?_
      refine lv_iload_n hx hb d_M_init_454 rfl (lv_at hl 0 rfl) ?_
      have jn479_18 : ∀ (w18 : Int64) (H : Heap) (locs : List Loc) (ls : Array Slot), sx_S g E F H0 H locs → lv_has ls 2 [(1, .int (nI (i1))), (0, .ref o)] → W p l e rm_M_init s m args below meth c H locs 48 201362 Q (F0 m 479 ls [.long w18, .int (nI (i1)), .ref (r 10)]) := by
        intro w18 H locs ls  hS hl
        refine sx_last hx hb hG hS (mo_10 hM) (mow_10 hW) (sx_in (by omega) (by decide)) d_M_init_479 (fun H locs hS => ?_)
        refine lv_iinc (v := nI (i1 + 1)) (lv' := [(1, .int (nI (i1 + 1))), (0, .ref o)]) hx hb d_M_init_480 hl (k := 0) rfl (sx_inc _ _) (by decide) rfl (fun ls hl => ?_)
        refine lv_goto (tgt := 443) hx hb d_M_init_483 (by decide) ?_
        exact ih443 (i1 + 1)  _ _ _ (by omega)  hS (lv_sub hl [0, 1] rfl)
      refine lv_if_ne (tgt := 464) hx hb d_M_init_455 (by decide) (fun q455 => ?_) (fun q455 => ?_)
      · skip
        have q455 : ¬ (i1 = 0) := fun z => q455 ((nI_eq (a := i1) (b := 0) (by omega) (by omega)).mpr z)
        refine lv_iload_n hx hb d_M_init_464 rfl (lv_at hl 0 rfl) ?_
        refine lv_bipush (v := nI 15) hx hb d_M_init_465 (by decide +kernel) ?_
        refine lv_icmp_ne (tgt := 476) hx hb d_M_init_467 (by decide) (fun q467 => ?_) (fun q467 => ?_)
        · skip
          have q467 : ¬ (i1 = 15) := fun z => q467 ((nI_eq (a := i1) (b := 15) (by omega) (by omega)).mpr z)
          refine lv_ldc2 (v := (65535)) hx hb hown (hts (.constantLong R_M 169 (65535)) (by decide +kernel)) d_M_init_476 ?_
          exact jn479_18 ((65535)) _ _ _  hS (lv_sub hl [0, 1] rfl)
        · skip
          have q467 : i1 = 15 := (nI_eq (a := i1) (b := 15) (by omega) (by omega)).mp q467
          refine lv_ldc2 (v := (32767)) hx hb hown (hts (.constantLong R_M 167 (32767)) (by decide +kernel)) d_M_init_470 ?_
          refine lv_goto (tgt := 479) hx hb d_M_init_473 (by decide) ?_
          exact jn479_18 ((32767)) _ _ _  hS (lv_sub hl [0, 1] rfl)
      · skip
        have q455 : i1 = 0 := (nI_eq (a := i1) (b := 0) (by omega) (by omega)).mp q455
        refine lv_ldc2 (v := (65517)) hx hb hown (hts (.constantLong R_M 165 (65517)) (by decide +kernel)) d_M_init_458 ?_
        refine lv_goto (tgt := 479) hx hb d_M_init_461 (by decide) ?_
        exact jn479_18 ((65517)) _ _ _  hS (lv_sub hl [0, 1] rfl)
  exact lp443 (16) 0  _ _ _ (by omega)  hS (lv_sub hl [0, 1] rfl)
set_option maxHeartbeats 4000000 in
set_option maxRecDepth 100000 in
theorem c_M_init {l : Launch} {D : va_G} {g : ClassId → FieldType → Prop} {E : Nat → Prop} {H0 : Heap} {o : Nat} (hEo : E o) (hEn : ∀ q, H0.size ≤ q → E q) (hO : va_P D classes [(o, .inr (0, [.int 0, .null, .null, .null, .null, .int 0, .int 0, .int 0, .int 0, .null, .null, .null, .null, .null, .null, .null, .null, .null, .null, .null, .null, .null, .null, .null, .null, .null, .null, .null, .null, .null, .null, .null, .null, .null, .null, .null, .null, .null, .null, .null, .null, .null, .null, .null, .null, .null, .null, .null, .null, .null, .null, .null, .null]))] H0) : Met l y_M_init (.code y_M_init b_M_init 2 none :: G_) rm_M_init (sx_Pc [.ref o] H0 D g) (va_Qv (fun _ : Unit => True) (fun _ t => sx_J g E H0 t.heap ∧ ∃ r : Nat → Nat, mo_ D g t.heap o r (fun _ => 0) ∧ zi_ t.heap (r 9) 6 ∧ ∀ q ∈ mo_arr, H0.size ≤ r q.1) E) 48 201362 E := by
  refine sx_mva (own := R_M) (P := fun H => ∃ r : Nat → Nat, mo_ D g H o r (fun _ => 0) ∧ zi_ H (r 9) 6 ∧ ∀ q ∈ mo_arr, H0.size ≤ r q.1) (by decide) rfl (Nat.le_of_ble_eq_true rfl) ?_
  intro p e s m args below meth c Q ls EE hin hl hret
  obtain ⟨hx, hb, hml, hown, hts, hG, hK⟩ := id EE
  have hS : sx_S g E E H0 H0 [] := sx_S.rf
  have hA : sx_AR g H0 [] := sx_AR.nil
  have hZ : ∀ q ∈ ([] : List (Nat × FieldType × Nat)), H0.size ≤ q.1 := fun q h => by cases h
  have ho : o < H0.size := (hO 0 _ rfl).lt
  have hl : lv_has ls 2 [(0, .ref o)] := hl
  refine lv_aload_n hx hb d_M_init_0 rfl (lv_at hl 0 rfl) ?_
  refine W.objInit hx hb hown (hts (.methodLink R_M 1 objectInit) (by decide +kernel)) (hts (.instanceMethod objectInit) (by decide +kernel)) (hts (.code objectInit ⟨#[0xb1]⟩ 1 none) (by decide +kernel)) rfl (by rw [hml]; exact hl.1) rfl d_M_init_1 (Nat.le_of_ble_eq_true rfl) (Nat.le_of_ble_eq_true rfl) ?_
  refine W.eq (g2 := F0 m 4 ls []) rfl ?_
  refine lv_aload_n hx hb d_M_init_4 rfl (lv_at hl 0 rfl) ?_
  refine lv_ldc (v := nI 65536) hx hb hown (hts (.constant R_M 7 (nI 65536)) (by decide +kernel)) d_M_init_5 ?_
  have hz := hS.1.1
  refine sx_newa (cells' := 1) (slots' := 65536) hx hb hG hts rfl (Or.inr (Or.inl rfl)) (by decide +kernel) (by decide) (by decide) rfl rfl (Nat.le_of_ble_eq_true rfl) (Nat.le_of_ble_eq_true rfl) hS d_M_init_7 (fun q7 H e0 a0 l0 y0 hJ hk hS => ?_)
  have hA := (hA.kept hJ).cons a0 l0
  have hO := hO.grown hk
  have z0 : H0.size ≤ q7 := e0 ▸ hz
  have hZ : ∀ z ∈ ([(q7, .byte, 65536)] : List (Nat × FieldType × Nat)), H0.size ≤ z.1 := fun z hz => (List.mem_cons.mp hz).elim (fun e => by rw [e]; exact z0) (hZ z)
  refine sx_putF EE hin hO rfl i_M t_M tok_M n_M 1 (by decide) rfl fl_M_8 (ty := t_M 1) (by decide +kernel) rfl rfl (Nat.le_of_ble_eq_true rfl) hEo hS d_M_init_9 (fun H locs hO hJ hs hS => ?_)
  have hA := hA.kept hJ
  have hO : va_P D classes [(o, .inr (0, [.int 0, .ref q7, .null, .null, .null, .int 0, .int 0, .int 0, .int 0, .null, .null, .null, .null, .null, .null, .null, .null, .null, .null, .null, .null, .null, .null, .null, .null, .null, .null, .null, .null, .null, .null, .null, .null, .null, .null, .null, .null, .null, .null, .null, .null, .null, .null, .null, .null, .null, .null, .null, .null, .null, .null, .null, .null]))] H := hO
  refine lv_aload_n hx hb d_M_init_12 rfl (lv_at hl 0 rfl) ?_
  refine lv_ldc (v := nI 65536) hx hb hown (hts (.constant R_M 7 (nI 65536)) (by decide +kernel)) d_M_init_13 ?_
  have hz := hS.1.1
  refine sx_newa (cells' := 2) (slots' := 131072) hx hb hG hts rfl (Or.inr (Or.inl rfl)) (by decide +kernel) (by decide) (by decide) rfl rfl (Nat.le_of_ble_eq_true rfl) (Nat.le_of_ble_eq_true rfl) hS d_M_init_15 (fun q15 H e0 a0 l0 y0 hJ hk hS => ?_)
  have hA := (hA.kept hJ).cons a0 l0
  have hO := hO.grown hk
  have z0 : H0.size ≤ q15 := e0 ▸ hz
  have hZ : ∀ z ∈ ([(q15, .byte, 65536), (q7, .byte, 65536)] : List (Nat × FieldType × Nat)), H0.size ≤ z.1 := fun z hz => (List.mem_cons.mp hz).elim (fun e => by rw [e]; exact z0) (hZ z)
  refine sx_putF EE hin hO rfl i_M t_M tok_M n_M 2 (by decide) rfl fl_M_14 (ty := t_M 2) (by decide +kernel) rfl rfl (Nat.le_of_ble_eq_true rfl) hEo hS d_M_init_17 (fun H locs hO hJ hs hS => ?_)
  have hA := hA.kept hJ
  have hO : va_P D classes [(o, .inr (0, [.int 0, .ref q7, .ref q15, .null, .null, .int 0, .int 0, .int 0, .int 0, .null, .null, .null, .null, .null, .null, .null, .null, .null, .null, .null, .null, .null, .null, .null, .null, .null, .null, .null, .null, .null, .null, .null, .null, .null, .null, .null, .null, .null, .null, .null, .null, .null, .null, .null, .null, .null, .null, .null, .null, .null, .null, .null, .null]))] H := hO
  refine lv_aload_n hx hb d_M_init_20 rfl (lv_at hl 0 rfl) ?_
  refine lv_bipush (v := nI 64) hx hb d_M_init_21 (by decide +kernel) ?_
  have hz := hS.1.1
  refine sx_newa (cells' := 3) (slots' := 131136) hx hb hG hts rfl (Or.inr (Or.inl rfl)) (by decide +kernel) (by decide) (by decide) rfl rfl (Nat.le_of_ble_eq_true rfl) (Nat.le_of_ble_eq_true rfl) hS d_M_init_23 (fun q23 H e0 a0 l0 y0 hJ hk hS => ?_)
  have hA := (hA.kept hJ).cons a0 l0
  have hO := hO.grown hk
  have z0 : H0.size ≤ q23 := e0 ▸ hz
  have hZ : ∀ z ∈ ([(q23, .byte, 64), (q15, .byte, 65536), (q7, .byte, 65536)] : List (Nat × FieldType × Nat)), H0.size ≤ z.1 := fun z hz => (List.mem_cons.mp hz).elim (fun e => by rw [e]; exact z0) (hZ z)
  refine sx_putF EE hin hO rfl i_M t_M tok_M n_M 3 (by decide) rfl fl_M_17 (ty := t_M 3) (by decide +kernel) rfl rfl (Nat.le_of_ble_eq_true rfl) hEo hS d_M_init_25 (fun H locs hO hJ hs hS => ?_)
  have hA := hA.kept hJ
  have hO : va_P D classes [(o, .inr (0, [.int 0, .ref q7, .ref q15, .ref q23, .null, .int 0, .int 0, .int 0, .int 0, .null, .null, .null, .null, .null, .null, .null, .null, .null, .null, .null, .null, .null, .null, .null, .null, .null, .null, .null, .null, .null, .null, .null, .null, .null, .null, .null, .null, .null, .null, .null, .null, .null, .null, .null, .null, .null, .null, .null, .null, .null, .null, .null, .null]))] H := hO
  refine lv_aload_n hx hb d_M_init_28 rfl (lv_at hl 0 rfl) ?_
  refine lv_sipush (v := nI 3200) hx hb d_M_init_29 (by decide +kernel) ?_
  have hz := hS.1.1
  refine sx_newa (cells' := 4) (slots' := 134336) hx hb hG hts rfl (Or.inr (Or.inl rfl)) (by decide +kernel) (by decide) (by decide) rfl rfl (Nat.le_of_ble_eq_true rfl) (Nat.le_of_ble_eq_true rfl) hS d_M_init_32 (fun q32 H e0 a0 l0 y0 hJ hk hS => ?_)
  have hA := (hA.kept hJ).cons a0 l0
  have hO := hO.grown hk
  have z0 : H0.size ≤ q32 := e0 ▸ hz
  have hZ : ∀ z ∈ ([(q32, .byte, 3200), (q23, .byte, 64), (q15, .byte, 65536), (q7, .byte, 65536)] : List (Nat × FieldType × Nat)), H0.size ≤ z.1 := fun z hz => (List.mem_cons.mp hz).elim (fun e => by rw [e]; exact z0) (hZ z)
  refine sx_putF EE hin hO rfl i_M t_M tok_M n_M 4 (by decide) rfl fl_M_20 (ty := t_M 4) (by decide +kernel) rfl rfl (Nat.le_of_ble_eq_true rfl) hEo hS d_M_init_34 (fun H locs hO hJ hs hS => ?_)
  have hA := hA.kept hJ
  have hO : va_P D classes [(o, .inr (0, [.int 0, .ref q7, .ref q15, .ref q23, .ref q32, .int 0, .int 0, .int 0, .int 0, .null, .null, .null, .null, .null, .null, .null, .null, .null, .null, .null, .null, .null, .null, .null, .null, .null, .null, .null, .null, .null, .null, .null, .null, .null, .null, .null, .null, .null, .null, .null, .null, .null, .null, .null, .null, .null, .null, .null, .null, .null, .null, .null, .null]))] H := hO
  refine lv_aload_n hx hb d_M_init_37 rfl (lv_at hl 0 rfl) ?_
  refine lv_bipush (v := nI 6) hx hb d_M_init_38 (by decide +kernel) ?_
  have hz := hS.1.1
  refine sx_newa (cells' := 5) (slots' := 134342) hx hb hG hts rfl (Or.inr (Or.inr rfl)) (by decide +kernel) (by decide) (by decide) rfl rfl (Nat.le_of_ble_eq_true rfl) (Nat.le_of_ble_eq_true rfl) hS d_M_init_40 (fun q40 H e0 a0 l0 y0 hJ hk hS => ?_)
  have hA := (hA.kept hJ).cons a0 l0
  have hO := hO.grown hk
  have z0 : H0.size ≤ q40 := e0 ▸ hz
  have hZ : ∀ z ∈ ([(q40, .int, 6), (q32, .byte, 3200), (q23, .byte, 64), (q15, .byte, 65536), (q7, .byte, 65536)] : List (Nat × FieldType × Nat)), H0.size ≤ z.1 := fun z hz => (List.mem_cons.mp hz).elim (fun e => by rw [e]; exact z0) (hZ z)
  refine sx_putF EE hin hO rfl i_M t_M tok_M n_M 9 (by decide) rfl fl_M_23 (ty := t_M 9) (by decide +kernel) rfl rfl (Nat.le_of_ble_eq_true rfl) hEo hS d_M_init_42 (fun H locs hO hJ hs hS => ?_)
  have hA := hA.kept hJ
  have hO : va_P D classes [(o, .inr (0, [.int 0, .ref q7, .ref q15, .ref q23, .ref q32, .int 0, .int 0, .int 0, .int 0, .ref q40, .null, .null, .null, .null, .null, .null, .null, .null, .null, .null, .null, .null, .null, .null, .null, .null, .null, .null, .null, .null, .null, .null, .null, .null, .null, .null, .null, .null, .null, .null, .null, .null, .null, .null, .null, .null, .null, .null, .null, .null, .null, .null, .null]))] H := hO
  have hT : zi_ H q40 6 := zi_.kept y0 (hs _ (Nat.ne_of_gt (Nat.lt_of_lt_of_le ho z0)))
  have hV : ∀ z ∈ ([] : List (Nat × FieldType × Nat)), q40 < z.1 := fun z h => by cases h
  refine lv_aload_n hx hb d_M_init_45 rfl (lv_at hl 0 rfl) ?_
  refine lv_bipush (v := nI 16) hx hb d_M_init_46 (by decide +kernel) ?_
  have hz := hS.1.1
  refine sx_newa (cells' := 6) (slots' := 134358) hx hb hG hts rfl (Or.inl rfl) (by decide +kernel) (by decide) (by decide) rfl rfl (Nat.le_of_ble_eq_true rfl) (Nat.le_of_ble_eq_true rfl) hS d_M_init_48 (fun q48 H e0 a0 l0 y0 hJ hk hS => ?_)
  have u0 : q40 < q48 := e0 ▸ hT.lt
  have hT := hT.grown hk
  have hA := (hA.kept hJ).cons a0 l0
  have hO := hO.grown hk
  have z0 : H0.size ≤ q48 := e0 ▸ hz
  have hZ : ∀ z ∈ ([(q48, .long, 16), (q40, .int, 6), (q32, .byte, 3200), (q23, .byte, 64), (q15, .byte, 65536), (q7, .byte, 65536)] : List (Nat × FieldType × Nat)), H0.size ≤ z.1 := fun z hz => (List.mem_cons.mp hz).elim (fun e => by rw [e]; exact z0) (hZ z)
  have hV : ∀ z ∈ ([(q48, .long, 16)] : List (Nat × FieldType × Nat)), q40 < z.1 := fun z hz => (List.mem_cons.mp hz).elim (fun e => by rw [e]; exact u0) (hV z)
  refine sx_putF EE hin hO rfl i_M t_M tok_M n_M 10 (by decide) rfl fl_M_27 (ty := t_M 10) (by decide +kernel) rfl rfl (Nat.le_of_ble_eq_true rfl) hEo hS d_M_init_50 (fun H locs hO hJ hs hS => ?_)
  have hA := hA.kept hJ
  have hO : va_P D classes [(o, .inr (0, [.int 0, .ref q7, .ref q15, .ref q23, .ref q32, .int 0, .int 0, .int 0, .int 0, .ref q40, .ref q48, .null, .null, .null, .null, .null, .null, .null, .null, .null, .null, .null, .null, .null, .null, .null, .null, .null, .null, .null, .null, .null, .null, .null, .null, .null, .null, .null, .null, .null, .null, .null, .null, .null, .null, .null, .null, .null, .null, .null, .null, .null, .null]))] H := hO
  have hT := hT.kept (hs _ (Nat.ne_of_gt (Nat.lt_of_lt_of_le ho (hZ (q40, .int, 6) (by simp)))))
  refine lv_aload_n hx hb d_M_init_53 rfl (lv_at hl 0 rfl) ?_
  refine lv_sipush (v := nI 256) hx hb d_M_init_54 (by decide +kernel) ?_
  have hz := hS.1.1
  refine sx_newa (cells' := 7) (slots' := 134614) hx hb hG hts rfl (Or.inl rfl) (by decide +kernel) (by decide) (by decide) rfl rfl (Nat.le_of_ble_eq_true rfl) (Nat.le_of_ble_eq_true rfl) hS d_M_init_57 (fun q57 H e0 a0 l0 y0 hJ hk hS => ?_)
  have u0 : q40 < q57 := e0 ▸ hT.lt
  have hT := hT.grown hk
  have hA := (hA.kept hJ).cons a0 l0
  have hO := hO.grown hk
  have z0 : H0.size ≤ q57 := e0 ▸ hz
  have hZ : ∀ z ∈ ([(q57, .long, 256), (q48, .long, 16), (q40, .int, 6), (q32, .byte, 3200), (q23, .byte, 64), (q15, .byte, 65536), (q7, .byte, 65536)] : List (Nat × FieldType × Nat)), H0.size ≤ z.1 := fun z hz => (List.mem_cons.mp hz).elim (fun e => by rw [e]; exact z0) (hZ z)
  have hV : ∀ z ∈ ([(q57, .long, 256), (q48, .long, 16)] : List (Nat × FieldType × Nat)), q40 < z.1 := fun z hz => (List.mem_cons.mp hz).elim (fun e => by rw [e]; exact u0) (hV z)
  refine sx_putF EE hin hO rfl i_M t_M tok_M n_M 11 (by decide) rfl fl_M_31 (ty := t_M 11) (by decide +kernel) rfl rfl (Nat.le_of_ble_eq_true rfl) hEo hS d_M_init_59 (fun H locs hO hJ hs hS => ?_)
  have hA := hA.kept hJ
  have hO : va_P D classes [(o, .inr (0, [.int 0, .ref q7, .ref q15, .ref q23, .ref q32, .int 0, .int 0, .int 0, .int 0, .ref q40, .ref q48, .ref q57, .null, .null, .null, .null, .null, .null, .null, .null, .null, .null, .null, .null, .null, .null, .null, .null, .null, .null, .null, .null, .null, .null, .null, .null, .null, .null, .null, .null, .null, .null, .null, .null, .null, .null, .null, .null, .null, .null, .null, .null, .null]))] H := hO
  have hT := hT.kept (hs _ (Nat.ne_of_gt (Nat.lt_of_lt_of_le ho (hZ (q40, .int, 6) (by simp)))))
  refine lv_aload_n hx hb d_M_init_62 rfl (lv_at hl 0 rfl) ?_
  refine lv_bipush (v := nI 16) hx hb d_M_init_63 (by decide +kernel) ?_
  have hz := hS.1.1
  refine sx_newa (cells' := 8) (slots' := 134630) hx hb hG hts rfl (Or.inl rfl) (by decide +kernel) (by decide) (by decide) rfl rfl (Nat.le_of_ble_eq_true rfl) (Nat.le_of_ble_eq_true rfl) hS d_M_init_65 (fun q65 H e0 a0 l0 y0 hJ hk hS => ?_)
  have u0 : q40 < q65 := e0 ▸ hT.lt
  have hT := hT.grown hk
  have hA := (hA.kept hJ).cons a0 l0
  have hO := hO.grown hk
  have z0 : H0.size ≤ q65 := e0 ▸ hz
  have hZ : ∀ z ∈ ([(q65, .long, 16), (q57, .long, 256), (q48, .long, 16), (q40, .int, 6), (q32, .byte, 3200), (q23, .byte, 64), (q15, .byte, 65536), (q7, .byte, 65536)] : List (Nat × FieldType × Nat)), H0.size ≤ z.1 := fun z hz => (List.mem_cons.mp hz).elim (fun e => by rw [e]; exact z0) (hZ z)
  have hV : ∀ z ∈ ([(q65, .long, 16), (q57, .long, 256), (q48, .long, 16)] : List (Nat × FieldType × Nat)), q40 < z.1 := fun z hz => (List.mem_cons.mp hz).elim (fun e => by rw [e]; exact u0) (hV z)
  refine sx_putF EE hin hO rfl i_M t_M tok_M n_M 12 (by decide) rfl fl_M_34 (ty := t_M 12) (by decide +kernel) rfl rfl (Nat.le_of_ble_eq_true rfl) hEo hS d_M_init_67 (fun H locs hO hJ hs hS => ?_)
  have hA := hA.kept hJ
  have hO : va_P D classes [(o, .inr (0, [.int 0, .ref q7, .ref q15, .ref q23, .ref q32, .int 0, .int 0, .int 0, .int 0, .ref q40, .ref q48, .ref q57, .ref q65, .null, .null, .null, .null, .null, .null, .null, .null, .null, .null, .null, .null, .null, .null, .null, .null, .null, .null, .null, .null, .null, .null, .null, .null, .null, .null, .null, .null, .null, .null, .null, .null, .null, .null, .null, .null, .null, .null, .null, .null]))] H := hO
  have hT := hT.kept (hs _ (Nat.ne_of_gt (Nat.lt_of_lt_of_le ho (hZ (q40, .int, 6) (by simp)))))
  refine lv_aload_n hx hb d_M_init_70 rfl (lv_at hl 0 rfl) ?_
  refine lv_sipush (v := nI 256) hx hb d_M_init_71 (by decide +kernel) ?_
  have hz := hS.1.1
  refine sx_newa (cells' := 9) (slots' := 134886) hx hb hG hts rfl (Or.inl rfl) (by decide +kernel) (by decide) (by decide) rfl rfl (Nat.le_of_ble_eq_true rfl) (Nat.le_of_ble_eq_true rfl) hS d_M_init_74 (fun q74 H e0 a0 l0 y0 hJ hk hS => ?_)
  have u0 : q40 < q74 := e0 ▸ hT.lt
  have hT := hT.grown hk
  have hA := (hA.kept hJ).cons a0 l0
  have hO := hO.grown hk
  have z0 : H0.size ≤ q74 := e0 ▸ hz
  have hZ : ∀ z ∈ ([(q74, .long, 256), (q65, .long, 16), (q57, .long, 256), (q48, .long, 16), (q40, .int, 6), (q32, .byte, 3200), (q23, .byte, 64), (q15, .byte, 65536), (q7, .byte, 65536)] : List (Nat × FieldType × Nat)), H0.size ≤ z.1 := fun z hz => (List.mem_cons.mp hz).elim (fun e => by rw [e]; exact z0) (hZ z)
  have hV : ∀ z ∈ ([(q74, .long, 256), (q65, .long, 16), (q57, .long, 256), (q48, .long, 16)] : List (Nat × FieldType × Nat)), q40 < z.1 := fun z hz => (List.mem_cons.mp hz).elim (fun e => by rw [e]; exact u0) (hV z)
  refine sx_putF EE hin hO rfl i_M t_M tok_M n_M 13 (by decide) rfl fl_M_37 (ty := t_M 13) (by decide +kernel) rfl rfl (Nat.le_of_ble_eq_true rfl) hEo hS d_M_init_76 (fun H locs hO hJ hs hS => ?_)
  have hA := hA.kept hJ
  have hO : va_P D classes [(o, .inr (0, [.int 0, .ref q7, .ref q15, .ref q23, .ref q32, .int 0, .int 0, .int 0, .int 0, .ref q40, .ref q48, .ref q57, .ref q65, .ref q74, .null, .null, .null, .null, .null, .null, .null, .null, .null, .null, .null, .null, .null, .null, .null, .null, .null, .null, .null, .null, .null, .null, .null, .null, .null, .null, .null, .null, .null, .null, .null, .null, .null, .null, .null, .null, .null, .null, .null]))] H := hO
  have hT := hT.kept (hs _ (Nat.ne_of_gt (Nat.lt_of_lt_of_le ho (hZ (q40, .int, 6) (by simp)))))
  refine lv_aload_n hx hb d_M_init_79 rfl (lv_at hl 0 rfl) ?_
  refine lv_bipush (v := nI 16) hx hb d_M_init_80 (by decide +kernel) ?_
  have hz := hS.1.1
  refine sx_newa (cells' := 10) (slots' := 134902) hx hb hG hts rfl (Or.inl rfl) (by decide +kernel) (by decide) (by decide) rfl rfl (Nat.le_of_ble_eq_true rfl) (Nat.le_of_ble_eq_true rfl) hS d_M_init_82 (fun q82 H e0 a0 l0 y0 hJ hk hS => ?_)
  have u0 : q40 < q82 := e0 ▸ hT.lt
  have hT := hT.grown hk
  have hA := (hA.kept hJ).cons a0 l0
  have hO := hO.grown hk
  have z0 : H0.size ≤ q82 := e0 ▸ hz
  have hZ : ∀ z ∈ ([(q82, .long, 16), (q74, .long, 256), (q65, .long, 16), (q57, .long, 256), (q48, .long, 16), (q40, .int, 6), (q32, .byte, 3200), (q23, .byte, 64), (q15, .byte, 65536), (q7, .byte, 65536)] : List (Nat × FieldType × Nat)), H0.size ≤ z.1 := fun z hz => (List.mem_cons.mp hz).elim (fun e => by rw [e]; exact z0) (hZ z)
  have hV : ∀ z ∈ ([(q82, .long, 16), (q74, .long, 256), (q65, .long, 16), (q57, .long, 256), (q48, .long, 16)] : List (Nat × FieldType × Nat)), q40 < z.1 := fun z hz => (List.mem_cons.mp hz).elim (fun e => by rw [e]; exact u0) (hV z)
  refine sx_putF EE hin hO rfl i_M t_M tok_M n_M 14 (by decide) rfl fl_M_40 (ty := t_M 14) (by decide +kernel) rfl rfl (Nat.le_of_ble_eq_true rfl) hEo hS d_M_init_84 (fun H locs hO hJ hs hS => ?_)
  have hA := hA.kept hJ
  have hO : va_P D classes [(o, .inr (0, [.int 0, .ref q7, .ref q15, .ref q23, .ref q32, .int 0, .int 0, .int 0, .int 0, .ref q40, .ref q48, .ref q57, .ref q65, .ref q74, .ref q82, .null, .null, .null, .null, .null, .null, .null, .null, .null, .null, .null, .null, .null, .null, .null, .null, .null, .null, .null, .null, .null, .null, .null, .null, .null, .null, .null, .null, .null, .null, .null, .null, .null, .null, .null, .null, .null, .null]))] H := hO
  have hT := hT.kept (hs _ (Nat.ne_of_gt (Nat.lt_of_lt_of_le ho (hZ (q40, .int, 6) (by simp)))))
  refine lv_aload_n hx hb d_M_init_87 rfl (lv_at hl 0 rfl) ?_
  refine lv_bipush (v := nI 16) hx hb d_M_init_88 (by decide +kernel) ?_
  have hz := hS.1.1
  refine sx_newa (cells' := 11) (slots' := 134918) hx hb hG hts rfl (Or.inl rfl) (by decide +kernel) (by decide) (by decide) rfl rfl (Nat.le_of_ble_eq_true rfl) (Nat.le_of_ble_eq_true rfl) hS d_M_init_90 (fun q90 H e0 a0 l0 y0 hJ hk hS => ?_)
  have u0 : q40 < q90 := e0 ▸ hT.lt
  have hT := hT.grown hk
  have hA := (hA.kept hJ).cons a0 l0
  have hO := hO.grown hk
  have z0 : H0.size ≤ q90 := e0 ▸ hz
  have hZ : ∀ z ∈ ([(q90, .long, 16), (q82, .long, 16), (q74, .long, 256), (q65, .long, 16), (q57, .long, 256), (q48, .long, 16), (q40, .int, 6), (q32, .byte, 3200), (q23, .byte, 64), (q15, .byte, 65536), (q7, .byte, 65536)] : List (Nat × FieldType × Nat)), H0.size ≤ z.1 := fun z hz => (List.mem_cons.mp hz).elim (fun e => by rw [e]; exact z0) (hZ z)
  have hV : ∀ z ∈ ([(q90, .long, 16), (q82, .long, 16), (q74, .long, 256), (q65, .long, 16), (q57, .long, 256), (q48, .long, 16)] : List (Nat × FieldType × Nat)), q40 < z.1 := fun z hz => (List.mem_cons.mp hz).elim (fun e => by rw [e]; exact u0) (hV z)
  refine sx_putF EE hin hO rfl i_M t_M tok_M n_M 15 (by decide) rfl fl_M_43 (ty := t_M 15) (by decide +kernel) rfl rfl (Nat.le_of_ble_eq_true rfl) hEo hS d_M_init_92 (fun H locs hO hJ hs hS => ?_)
  have hA := hA.kept hJ
  have hO : va_P D classes [(o, .inr (0, [.int 0, .ref q7, .ref q15, .ref q23, .ref q32, .int 0, .int 0, .int 0, .int 0, .ref q40, .ref q48, .ref q57, .ref q65, .ref q74, .ref q82, .ref q90, .null, .null, .null, .null, .null, .null, .null, .null, .null, .null, .null, .null, .null, .null, .null, .null, .null, .null, .null, .null, .null, .null, .null, .null, .null, .null, .null, .null, .null, .null, .null, .null, .null, .null, .null, .null, .null]))] H := hO
  have hT := hT.kept (hs _ (Nat.ne_of_gt (Nat.lt_of_lt_of_le ho (hZ (q40, .int, 6) (by simp)))))
  refine lv_aload_n hx hb d_M_init_95 rfl (lv_at hl 0 rfl) ?_
  refine lv_bipush (v := nI 16) hx hb d_M_init_96 (by decide +kernel) ?_
  have hz := hS.1.1
  refine sx_newa (cells' := 12) (slots' := 134934) hx hb hG hts rfl (Or.inl rfl) (by decide +kernel) (by decide) (by decide) rfl rfl (Nat.le_of_ble_eq_true rfl) (Nat.le_of_ble_eq_true rfl) hS d_M_init_98 (fun q98 H e0 a0 l0 y0 hJ hk hS => ?_)
  have u0 : q40 < q98 := e0 ▸ hT.lt
  have hT := hT.grown hk
  have hA := (hA.kept hJ).cons a0 l0
  have hO := hO.grown hk
  have z0 : H0.size ≤ q98 := e0 ▸ hz
  have hZ : ∀ z ∈ ([(q98, .long, 16), (q90, .long, 16), (q82, .long, 16), (q74, .long, 256), (q65, .long, 16), (q57, .long, 256), (q48, .long, 16), (q40, .int, 6), (q32, .byte, 3200), (q23, .byte, 64), (q15, .byte, 65536), (q7, .byte, 65536)] : List (Nat × FieldType × Nat)), H0.size ≤ z.1 := fun z hz => (List.mem_cons.mp hz).elim (fun e => by rw [e]; exact z0) (hZ z)
  have hV : ∀ z ∈ ([(q98, .long, 16), (q90, .long, 16), (q82, .long, 16), (q74, .long, 256), (q65, .long, 16), (q57, .long, 256), (q48, .long, 16)] : List (Nat × FieldType × Nat)), q40 < z.1 := fun z hz => (List.mem_cons.mp hz).elim (fun e => by rw [e]; exact u0) (hV z)
  refine sx_putF EE hin hO rfl i_M t_M tok_M n_M 16 (by decide) rfl fl_M_46 (ty := t_M 16) (by decide +kernel) rfl rfl (Nat.le_of_ble_eq_true rfl) hEo hS d_M_init_100 (fun H locs hO hJ hs hS => ?_)
  have hA := hA.kept hJ
  have hO : va_P D classes [(o, .inr (0, [.int 0, .ref q7, .ref q15, .ref q23, .ref q32, .int 0, .int 0, .int 0, .int 0, .ref q40, .ref q48, .ref q57, .ref q65, .ref q74, .ref q82, .ref q90, .ref q98, .null, .null, .null, .null, .null, .null, .null, .null, .null, .null, .null, .null, .null, .null, .null, .null, .null, .null, .null, .null, .null, .null, .null, .null, .null, .null, .null, .null, .null, .null, .null, .null, .null, .null, .null, .null]))] H := hO
  have hT := hT.kept (hs _ (Nat.ne_of_gt (Nat.lt_of_lt_of_le ho (hZ (q40, .int, 6) (by simp)))))
  refine lv_aload_n hx hb d_M_init_103 rfl (lv_at hl 0 rfl) ?_
  refine lv_bipush (v := nI 16) hx hb d_M_init_104 (by decide +kernel) ?_
  have hz := hS.1.1
  refine sx_newa (cells' := 13) (slots' := 134950) hx hb hG hts rfl (Or.inl rfl) (by decide +kernel) (by decide) (by decide) rfl rfl (Nat.le_of_ble_eq_true rfl) (Nat.le_of_ble_eq_true rfl) hS d_M_init_106 (fun q106 H e0 a0 l0 y0 hJ hk hS => ?_)
  have u0 : q40 < q106 := e0 ▸ hT.lt
  have hT := hT.grown hk
  have hA := (hA.kept hJ).cons a0 l0
  have hO := hO.grown hk
  have z0 : H0.size ≤ q106 := e0 ▸ hz
  have hZ : ∀ z ∈ ([(q106, .long, 16), (q98, .long, 16), (q90, .long, 16), (q82, .long, 16), (q74, .long, 256), (q65, .long, 16), (q57, .long, 256), (q48, .long, 16), (q40, .int, 6), (q32, .byte, 3200), (q23, .byte, 64), (q15, .byte, 65536), (q7, .byte, 65536)] : List (Nat × FieldType × Nat)), H0.size ≤ z.1 := fun z hz => (List.mem_cons.mp hz).elim (fun e => by rw [e]; exact z0) (hZ z)
  have hV : ∀ z ∈ ([(q106, .long, 16), (q98, .long, 16), (q90, .long, 16), (q82, .long, 16), (q74, .long, 256), (q65, .long, 16), (q57, .long, 256), (q48, .long, 16)] : List (Nat × FieldType × Nat)), q40 < z.1 := fun z hz => (List.mem_cons.mp hz).elim (fun e => by rw [e]; exact u0) (hV z)
  refine sx_putF EE hin hO rfl i_M t_M tok_M n_M 17 (by decide) rfl fl_M_49 (ty := t_M 17) (by decide +kernel) rfl rfl (Nat.le_of_ble_eq_true rfl) hEo hS d_M_init_108 (fun H locs hO hJ hs hS => ?_)
  have hA := hA.kept hJ
  have hO : va_P D classes [(o, .inr (0, [.int 0, .ref q7, .ref q15, .ref q23, .ref q32, .int 0, .int 0, .int 0, .int 0, .ref q40, .ref q48, .ref q57, .ref q65, .ref q74, .ref q82, .ref q90, .ref q98, .ref q106, .null, .null, .null, .null, .null, .null, .null, .null, .null, .null, .null, .null, .null, .null, .null, .null, .null, .null, .null, .null, .null, .null, .null, .null, .null, .null, .null, .null, .null, .null, .null, .null, .null, .null, .null]))] H := hO
  have hT := hT.kept (hs _ (Nat.ne_of_gt (Nat.lt_of_lt_of_le ho (hZ (q40, .int, 6) (by simp)))))
  refine lv_aload_n hx hb d_M_init_111 rfl (lv_at hl 0 rfl) ?_
  refine lv_bipush (v := nI 16) hx hb d_M_init_112 (by decide +kernel) ?_
  have hz := hS.1.1
  refine sx_newa (cells' := 14) (slots' := 134966) hx hb hG hts rfl (Or.inl rfl) (by decide +kernel) (by decide) (by decide) rfl rfl (Nat.le_of_ble_eq_true rfl) (Nat.le_of_ble_eq_true rfl) hS d_M_init_114 (fun q114 H e0 a0 l0 y0 hJ hk hS => ?_)
  have u0 : q40 < q114 := e0 ▸ hT.lt
  have hT := hT.grown hk
  have hA := (hA.kept hJ).cons a0 l0
  have hO := hO.grown hk
  have z0 : H0.size ≤ q114 := e0 ▸ hz
  have hZ : ∀ z ∈ ([(q114, .long, 16), (q106, .long, 16), (q98, .long, 16), (q90, .long, 16), (q82, .long, 16), (q74, .long, 256), (q65, .long, 16), (q57, .long, 256), (q48, .long, 16), (q40, .int, 6), (q32, .byte, 3200), (q23, .byte, 64), (q15, .byte, 65536), (q7, .byte, 65536)] : List (Nat × FieldType × Nat)), H0.size ≤ z.1 := fun z hz => (List.mem_cons.mp hz).elim (fun e => by rw [e]; exact z0) (hZ z)
  have hV : ∀ z ∈ ([(q114, .long, 16), (q106, .long, 16), (q98, .long, 16), (q90, .long, 16), (q82, .long, 16), (q74, .long, 256), (q65, .long, 16), (q57, .long, 256), (q48, .long, 16)] : List (Nat × FieldType × Nat)), q40 < z.1 := fun z hz => (List.mem_cons.mp hz).elim (fun e => by rw [e]; exact u0) (hV z)
  refine sx_putF EE hin hO rfl i_M t_M tok_M n_M 18 (by decide) rfl fl_M_52 (ty := t_M 18) (by decide +kernel) rfl rfl (Nat.le_of_ble_eq_true rfl) hEo hS d_M_init_116 (fun H locs hO hJ hs hS => ?_)
  have hA := hA.kept hJ
  have hO : va_P D classes [(o, .inr (0, [.int 0, .ref q7, .ref q15, .ref q23, .ref q32, .int 0, .int 0, .int 0, .int 0, .ref q40, .ref q48, .ref q57, .ref q65, .ref q74, .ref q82, .ref q90, .ref q98, .ref q106, .ref q114, .null, .null, .null, .null, .null, .null, .null, .null, .null, .null, .null, .null, .null, .null, .null, .null, .null, .null, .null, .null, .null, .null, .null, .null, .null, .null, .null, .null, .null, .null, .null, .null, .null, .null]))] H := hO
  have hT := hT.kept (hs _ (Nat.ne_of_gt (Nat.lt_of_lt_of_le ho (hZ (q40, .int, 6) (by simp)))))
  refine lv_aload_n hx hb d_M_init_119 rfl (lv_at hl 0 rfl) ?_
  refine lv_bipush (v := nI 16) hx hb d_M_init_120 (by decide +kernel) ?_
  have hz := hS.1.1
  refine sx_newa (cells' := 15) (slots' := 134982) hx hb hG hts rfl (Or.inl rfl) (by decide +kernel) (by decide) (by decide) rfl rfl (Nat.le_of_ble_eq_true rfl) (Nat.le_of_ble_eq_true rfl) hS d_M_init_122 (fun q122 H e0 a0 l0 y0 hJ hk hS => ?_)
  have u0 : q40 < q122 := e0 ▸ hT.lt
  have hT := hT.grown hk
  have hA := (hA.kept hJ).cons a0 l0
  have hO := hO.grown hk
  have z0 : H0.size ≤ q122 := e0 ▸ hz
  have hZ : ∀ z ∈ ([(q122, .long, 16), (q114, .long, 16), (q106, .long, 16), (q98, .long, 16), (q90, .long, 16), (q82, .long, 16), (q74, .long, 256), (q65, .long, 16), (q57, .long, 256), (q48, .long, 16), (q40, .int, 6), (q32, .byte, 3200), (q23, .byte, 64), (q15, .byte, 65536), (q7, .byte, 65536)] : List (Nat × FieldType × Nat)), H0.size ≤ z.1 := fun z hz => (List.mem_cons.mp hz).elim (fun e => by rw [e]; exact z0) (hZ z)
  have hV : ∀ z ∈ ([(q122, .long, 16), (q114, .long, 16), (q106, .long, 16), (q98, .long, 16), (q90, .long, 16), (q82, .long, 16), (q74, .long, 256), (q65, .long, 16), (q57, .long, 256), (q48, .long, 16)] : List (Nat × FieldType × Nat)), q40 < z.1 := fun z hz => (List.mem_cons.mp hz).elim (fun e => by rw [e]; exact u0) (hV z)
  refine sx_putF EE hin hO rfl i_M t_M tok_M n_M 19 (by decide) rfl fl_M_55 (ty := t_M 19) (by decide +kernel) rfl rfl (Nat.le_of_ble_eq_true rfl) hEo hS d_M_init_124 (fun H locs hO hJ hs hS => ?_)
  have hA := hA.kept hJ
  have hO : va_P D classes [(o, .inr (0, [.int 0, .ref q7, .ref q15, .ref q23, .ref q32, .int 0, .int 0, .int 0, .int 0, .ref q40, .ref q48, .ref q57, .ref q65, .ref q74, .ref q82, .ref q90, .ref q98, .ref q106, .ref q114, .ref q122, .null, .null, .null, .null, .null, .null, .null, .null, .null, .null, .null, .null, .null, .null, .null, .null, .null, .null, .null, .null, .null, .null, .null, .null, .null, .null, .null, .null, .null, .null, .null, .null, .null]))] H := hO
  have hT := hT.kept (hs _ (Nat.ne_of_gt (Nat.lt_of_lt_of_le ho (hZ (q40, .int, 6) (by simp)))))
  refine lv_aload_n hx hb d_M_init_127 rfl (lv_at hl 0 rfl) ?_
  refine lv_bipush (v := nI 16) hx hb d_M_init_128 (by decide +kernel) ?_
  have hz := hS.1.1
  refine sx_newa (cells' := 16) (slots' := 134998) hx hb hG hts rfl (Or.inl rfl) (by decide +kernel) (by decide) (by decide) rfl rfl (Nat.le_of_ble_eq_true rfl) (Nat.le_of_ble_eq_true rfl) hS d_M_init_130 (fun q130 H e0 a0 l0 y0 hJ hk hS => ?_)
  have u0 : q40 < q130 := e0 ▸ hT.lt
  have hT := hT.grown hk
  have hA := (hA.kept hJ).cons a0 l0
  have hO := hO.grown hk
  have z0 : H0.size ≤ q130 := e0 ▸ hz
  have hZ : ∀ z ∈ ([(q130, .long, 16), (q122, .long, 16), (q114, .long, 16), (q106, .long, 16), (q98, .long, 16), (q90, .long, 16), (q82, .long, 16), (q74, .long, 256), (q65, .long, 16), (q57, .long, 256), (q48, .long, 16), (q40, .int, 6), (q32, .byte, 3200), (q23, .byte, 64), (q15, .byte, 65536), (q7, .byte, 65536)] : List (Nat × FieldType × Nat)), H0.size ≤ z.1 := fun z hz => (List.mem_cons.mp hz).elim (fun e => by rw [e]; exact z0) (hZ z)
  have hV : ∀ z ∈ ([(q130, .long, 16), (q122, .long, 16), (q114, .long, 16), (q106, .long, 16), (q98, .long, 16), (q90, .long, 16), (q82, .long, 16), (q74, .long, 256), (q65, .long, 16), (q57, .long, 256), (q48, .long, 16)] : List (Nat × FieldType × Nat)), q40 < z.1 := fun z hz => (List.mem_cons.mp hz).elim (fun e => by rw [e]; exact u0) (hV z)
  refine sx_putF EE hin hO rfl i_M t_M tok_M n_M 20 (by decide) rfl fl_M_58 (ty := t_M 20) (by decide +kernel) rfl rfl (Nat.le_of_ble_eq_true rfl) hEo hS d_M_init_132 (fun H locs hO hJ hs hS => ?_)
  have hA := hA.kept hJ
  have hO : va_P D classes [(o, .inr (0, [.int 0, .ref q7, .ref q15, .ref q23, .ref q32, .int 0, .int 0, .int 0, .int 0, .ref q40, .ref q48, .ref q57, .ref q65, .ref q74, .ref q82, .ref q90, .ref q98, .ref q106, .ref q114, .ref q122, .ref q130, .null, .null, .null, .null, .null, .null, .null, .null, .null, .null, .null, .null, .null, .null, .null, .null, .null, .null, .null, .null, .null, .null, .null, .null, .null, .null, .null, .null, .null, .null, .null, .null]))] H := hO
  have hT := hT.kept (hs _ (Nat.ne_of_gt (Nat.lt_of_lt_of_le ho (hZ (q40, .int, 6) (by simp)))))
  refine lv_aload_n hx hb d_M_init_135 rfl (lv_at hl 0 rfl) ?_
  refine lv_bipush (v := nI 16) hx hb d_M_init_136 (by decide +kernel) ?_
  have hz := hS.1.1
  refine sx_newa (cells' := 17) (slots' := 135014) hx hb hG hts rfl (Or.inl rfl) (by decide +kernel) (by decide) (by decide) rfl rfl (Nat.le_of_ble_eq_true rfl) (Nat.le_of_ble_eq_true rfl) hS d_M_init_138 (fun q138 H e0 a0 l0 y0 hJ hk hS => ?_)
  have u0 : q40 < q138 := e0 ▸ hT.lt
  have hT := hT.grown hk
  have hA := (hA.kept hJ).cons a0 l0
  have hO := hO.grown hk
  have z0 : H0.size ≤ q138 := e0 ▸ hz
  have hZ : ∀ z ∈ ([(q138, .long, 16), (q130, .long, 16), (q122, .long, 16), (q114, .long, 16), (q106, .long, 16), (q98, .long, 16), (q90, .long, 16), (q82, .long, 16), (q74, .long, 256), (q65, .long, 16), (q57, .long, 256), (q48, .long, 16), (q40, .int, 6), (q32, .byte, 3200), (q23, .byte, 64), (q15, .byte, 65536), (q7, .byte, 65536)] : List (Nat × FieldType × Nat)), H0.size ≤ z.1 := fun z hz => (List.mem_cons.mp hz).elim (fun e => by rw [e]; exact z0) (hZ z)
  have hV : ∀ z ∈ ([(q138, .long, 16), (q130, .long, 16), (q122, .long, 16), (q114, .long, 16), (q106, .long, 16), (q98, .long, 16), (q90, .long, 16), (q82, .long, 16), (q74, .long, 256), (q65, .long, 16), (q57, .long, 256), (q48, .long, 16)] : List (Nat × FieldType × Nat)), q40 < z.1 := fun z hz => (List.mem_cons.mp hz).elim (fun e => by rw [e]; exact u0) (hV z)
  refine sx_putF EE hin hO rfl i_M t_M tok_M n_M 21 (by decide) rfl fl_M_61 (ty := t_M 21) (by decide +kernel) rfl rfl (Nat.le_of_ble_eq_true rfl) hEo hS d_M_init_140 (fun H locs hO hJ hs hS => ?_)
  have hA := hA.kept hJ
  have hO : va_P D classes [(o, .inr (0, [.int 0, .ref q7, .ref q15, .ref q23, .ref q32, .int 0, .int 0, .int 0, .int 0, .ref q40, .ref q48, .ref q57, .ref q65, .ref q74, .ref q82, .ref q90, .ref q98, .ref q106, .ref q114, .ref q122, .ref q130, .ref q138, .null, .null, .null, .null, .null, .null, .null, .null, .null, .null, .null, .null, .null, .null, .null, .null, .null, .null, .null, .null, .null, .null, .null, .null, .null, .null, .null, .null, .null, .null, .null]))] H := hO
  have hT := hT.kept (hs _ (Nat.ne_of_gt (Nat.lt_of_lt_of_le ho (hZ (q40, .int, 6) (by simp)))))
  refine lv_aload_n hx hb d_M_init_143 rfl (lv_at hl 0 rfl) ?_
  refine lv_bipush (v := nI 16) hx hb d_M_init_144 (by decide +kernel) ?_
  have hz := hS.1.1
  refine sx_newa (cells' := 18) (slots' := 135030) hx hb hG hts rfl (Or.inl rfl) (by decide +kernel) (by decide) (by decide) rfl rfl (Nat.le_of_ble_eq_true rfl) (Nat.le_of_ble_eq_true rfl) hS d_M_init_146 (fun q146 H e0 a0 l0 y0 hJ hk hS => ?_)
  have u0 : q40 < q146 := e0 ▸ hT.lt
  have hT := hT.grown hk
  have hA := (hA.kept hJ).cons a0 l0
  have hO := hO.grown hk
  have z0 : H0.size ≤ q146 := e0 ▸ hz
  have hZ : ∀ z ∈ ([(q146, .long, 16), (q138, .long, 16), (q130, .long, 16), (q122, .long, 16), (q114, .long, 16), (q106, .long, 16), (q98, .long, 16), (q90, .long, 16), (q82, .long, 16), (q74, .long, 256), (q65, .long, 16), (q57, .long, 256), (q48, .long, 16), (q40, .int, 6), (q32, .byte, 3200), (q23, .byte, 64), (q15, .byte, 65536), (q7, .byte, 65536)] : List (Nat × FieldType × Nat)), H0.size ≤ z.1 := fun z hz => (List.mem_cons.mp hz).elim (fun e => by rw [e]; exact z0) (hZ z)
  have hV : ∀ z ∈ ([(q146, .long, 16), (q138, .long, 16), (q130, .long, 16), (q122, .long, 16), (q114, .long, 16), (q106, .long, 16), (q98, .long, 16), (q90, .long, 16), (q82, .long, 16), (q74, .long, 256), (q65, .long, 16), (q57, .long, 256), (q48, .long, 16)] : List (Nat × FieldType × Nat)), q40 < z.1 := fun z hz => (List.mem_cons.mp hz).elim (fun e => by rw [e]; exact u0) (hV z)
  refine sx_putF EE hin hO rfl i_M t_M tok_M n_M 22 (by decide) rfl fl_M_64 (ty := t_M 22) (by decide +kernel) rfl rfl (Nat.le_of_ble_eq_true rfl) hEo hS d_M_init_148 (fun H locs hO hJ hs hS => ?_)
  have hA := hA.kept hJ
  have hO : va_P D classes [(o, .inr (0, [.int 0, .ref q7, .ref q15, .ref q23, .ref q32, .int 0, .int 0, .int 0, .int 0, .ref q40, .ref q48, .ref q57, .ref q65, .ref q74, .ref q82, .ref q90, .ref q98, .ref q106, .ref q114, .ref q122, .ref q130, .ref q138, .ref q146, .null, .null, .null, .null, .null, .null, .null, .null, .null, .null, .null, .null, .null, .null, .null, .null, .null, .null, .null, .null, .null, .null, .null, .null, .null, .null, .null, .null, .null, .null]))] H := hO
  have hT := hT.kept (hs _ (Nat.ne_of_gt (Nat.lt_of_lt_of_le ho (hZ (q40, .int, 6) (by simp)))))
  refine lv_aload_n hx hb d_M_init_151 rfl (lv_at hl 0 rfl) ?_
  refine lv_bipush (v := nI 16) hx hb d_M_init_152 (by decide +kernel) ?_
  have hz := hS.1.1
  refine sx_newa (cells' := 19) (slots' := 135046) hx hb hG hts rfl (Or.inl rfl) (by decide +kernel) (by decide) (by decide) rfl rfl (Nat.le_of_ble_eq_true rfl) (Nat.le_of_ble_eq_true rfl) hS d_M_init_154 (fun q154 H e0 a0 l0 y0 hJ hk hS => ?_)
  have u0 : q40 < q154 := e0 ▸ hT.lt
  have hT := hT.grown hk
  have hA := (hA.kept hJ).cons a0 l0
  have hO := hO.grown hk
  have z0 : H0.size ≤ q154 := e0 ▸ hz
  have hZ : ∀ z ∈ ([(q154, .long, 16), (q146, .long, 16), (q138, .long, 16), (q130, .long, 16), (q122, .long, 16), (q114, .long, 16), (q106, .long, 16), (q98, .long, 16), (q90, .long, 16), (q82, .long, 16), (q74, .long, 256), (q65, .long, 16), (q57, .long, 256), (q48, .long, 16), (q40, .int, 6), (q32, .byte, 3200), (q23, .byte, 64), (q15, .byte, 65536), (q7, .byte, 65536)] : List (Nat × FieldType × Nat)), H0.size ≤ z.1 := fun z hz => (List.mem_cons.mp hz).elim (fun e => by rw [e]; exact z0) (hZ z)
  have hV : ∀ z ∈ ([(q154, .long, 16), (q146, .long, 16), (q138, .long, 16), (q130, .long, 16), (q122, .long, 16), (q114, .long, 16), (q106, .long, 16), (q98, .long, 16), (q90, .long, 16), (q82, .long, 16), (q74, .long, 256), (q65, .long, 16), (q57, .long, 256), (q48, .long, 16)] : List (Nat × FieldType × Nat)), q40 < z.1 := fun z hz => (List.mem_cons.mp hz).elim (fun e => by rw [e]; exact u0) (hV z)
  refine sx_putF EE hin hO rfl i_M t_M tok_M n_M 23 (by decide) rfl fl_M_67 (ty := t_M 23) (by decide +kernel) rfl rfl (Nat.le_of_ble_eq_true rfl) hEo hS d_M_init_156 (fun H locs hO hJ hs hS => ?_)
  have hA := hA.kept hJ
  have hO : va_P D classes [(o, .inr (0, [.int 0, .ref q7, .ref q15, .ref q23, .ref q32, .int 0, .int 0, .int 0, .int 0, .ref q40, .ref q48, .ref q57, .ref q65, .ref q74, .ref q82, .ref q90, .ref q98, .ref q106, .ref q114, .ref q122, .ref q130, .ref q138, .ref q146, .ref q154, .null, .null, .null, .null, .null, .null, .null, .null, .null, .null, .null, .null, .null, .null, .null, .null, .null, .null, .null, .null, .null, .null, .null, .null, .null, .null, .null, .null, .null]))] H := hO
  have hT := hT.kept (hs _ (Nat.ne_of_gt (Nat.lt_of_lt_of_le ho (hZ (q40, .int, 6) (by simp)))))
  refine lv_aload_n hx hb d_M_init_159 rfl (lv_at hl 0 rfl) ?_
  refine lv_bipush (v := nI 16) hx hb d_M_init_160 (by decide +kernel) ?_
  have hz := hS.1.1
  refine sx_newa (cells' := 20) (slots' := 135062) hx hb hG hts rfl (Or.inl rfl) (by decide +kernel) (by decide) (by decide) rfl rfl (Nat.le_of_ble_eq_true rfl) (Nat.le_of_ble_eq_true rfl) hS d_M_init_162 (fun q162 H e0 a0 l0 y0 hJ hk hS => ?_)
  have u0 : q40 < q162 := e0 ▸ hT.lt
  have hT := hT.grown hk
  have hA := (hA.kept hJ).cons a0 l0
  have hO := hO.grown hk
  have z0 : H0.size ≤ q162 := e0 ▸ hz
  have hZ : ∀ z ∈ ([(q162, .long, 16), (q154, .long, 16), (q146, .long, 16), (q138, .long, 16), (q130, .long, 16), (q122, .long, 16), (q114, .long, 16), (q106, .long, 16), (q98, .long, 16), (q90, .long, 16), (q82, .long, 16), (q74, .long, 256), (q65, .long, 16), (q57, .long, 256), (q48, .long, 16), (q40, .int, 6), (q32, .byte, 3200), (q23, .byte, 64), (q15, .byte, 65536), (q7, .byte, 65536)] : List (Nat × FieldType × Nat)), H0.size ≤ z.1 := fun z hz => (List.mem_cons.mp hz).elim (fun e => by rw [e]; exact z0) (hZ z)
  have hV : ∀ z ∈ ([(q162, .long, 16), (q154, .long, 16), (q146, .long, 16), (q138, .long, 16), (q130, .long, 16), (q122, .long, 16), (q114, .long, 16), (q106, .long, 16), (q98, .long, 16), (q90, .long, 16), (q82, .long, 16), (q74, .long, 256), (q65, .long, 16), (q57, .long, 256), (q48, .long, 16)] : List (Nat × FieldType × Nat)), q40 < z.1 := fun z hz => (List.mem_cons.mp hz).elim (fun e => by rw [e]; exact u0) (hV z)
  refine sx_putF EE hin hO rfl i_M t_M tok_M n_M 24 (by decide) rfl fl_M_70 (ty := t_M 24) (by decide +kernel) rfl rfl (Nat.le_of_ble_eq_true rfl) hEo hS d_M_init_164 (fun H locs hO hJ hs hS => ?_)
  have hA := hA.kept hJ
  have hO : va_P D classes [(o, .inr (0, [.int 0, .ref q7, .ref q15, .ref q23, .ref q32, .int 0, .int 0, .int 0, .int 0, .ref q40, .ref q48, .ref q57, .ref q65, .ref q74, .ref q82, .ref q90, .ref q98, .ref q106, .ref q114, .ref q122, .ref q130, .ref q138, .ref q146, .ref q154, .ref q162, .null, .null, .null, .null, .null, .null, .null, .null, .null, .null, .null, .null, .null, .null, .null, .null, .null, .null, .null, .null, .null, .null, .null, .null, .null, .null, .null, .null]))] H := hO
  have hT := hT.kept (hs _ (Nat.ne_of_gt (Nat.lt_of_lt_of_le ho (hZ (q40, .int, 6) (by simp)))))
  refine lv_aload_n hx hb d_M_init_167 rfl (lv_at hl 0 rfl) ?_
  refine lv_bipush (v := nI 16) hx hb d_M_init_168 (by decide +kernel) ?_
  have hz := hS.1.1
  refine sx_newa (cells' := 21) (slots' := 135078) hx hb hG hts rfl (Or.inl rfl) (by decide +kernel) (by decide) (by decide) rfl rfl (Nat.le_of_ble_eq_true rfl) (Nat.le_of_ble_eq_true rfl) hS d_M_init_170 (fun q170 H e0 a0 l0 y0 hJ hk hS => ?_)
  have u0 : q40 < q170 := e0 ▸ hT.lt
  have hT := hT.grown hk
  have hA := (hA.kept hJ).cons a0 l0
  have hO := hO.grown hk
  have z0 : H0.size ≤ q170 := e0 ▸ hz
  have hZ : ∀ z ∈ ([(q170, .long, 16), (q162, .long, 16), (q154, .long, 16), (q146, .long, 16), (q138, .long, 16), (q130, .long, 16), (q122, .long, 16), (q114, .long, 16), (q106, .long, 16), (q98, .long, 16), (q90, .long, 16), (q82, .long, 16), (q74, .long, 256), (q65, .long, 16), (q57, .long, 256), (q48, .long, 16), (q40, .int, 6), (q32, .byte, 3200), (q23, .byte, 64), (q15, .byte, 65536), (q7, .byte, 65536)] : List (Nat × FieldType × Nat)), H0.size ≤ z.1 := fun z hz => (List.mem_cons.mp hz).elim (fun e => by rw [e]; exact z0) (hZ z)
  have hV : ∀ z ∈ ([(q170, .long, 16), (q162, .long, 16), (q154, .long, 16), (q146, .long, 16), (q138, .long, 16), (q130, .long, 16), (q122, .long, 16), (q114, .long, 16), (q106, .long, 16), (q98, .long, 16), (q90, .long, 16), (q82, .long, 16), (q74, .long, 256), (q65, .long, 16), (q57, .long, 256), (q48, .long, 16)] : List (Nat × FieldType × Nat)), q40 < z.1 := fun z hz => (List.mem_cons.mp hz).elim (fun e => by rw [e]; exact u0) (hV z)
  refine sx_putF EE hin hO rfl i_M t_M tok_M n_M 25 (by decide) rfl fl_M_73 (ty := t_M 25) (by decide +kernel) rfl rfl (Nat.le_of_ble_eq_true rfl) hEo hS d_M_init_172 (fun H locs hO hJ hs hS => ?_)
  have hA := hA.kept hJ
  have hO : va_P D classes [(o, .inr (0, [.int 0, .ref q7, .ref q15, .ref q23, .ref q32, .int 0, .int 0, .int 0, .int 0, .ref q40, .ref q48, .ref q57, .ref q65, .ref q74, .ref q82, .ref q90, .ref q98, .ref q106, .ref q114, .ref q122, .ref q130, .ref q138, .ref q146, .ref q154, .ref q162, .ref q170, .null, .null, .null, .null, .null, .null, .null, .null, .null, .null, .null, .null, .null, .null, .null, .null, .null, .null, .null, .null, .null, .null, .null, .null, .null, .null, .null]))] H := hO
  have hT := hT.kept (hs _ (Nat.ne_of_gt (Nat.lt_of_lt_of_le ho (hZ (q40, .int, 6) (by simp)))))
  refine lv_aload_n hx hb d_M_init_175 rfl (lv_at hl 0 rfl) ?_
  refine lv_bipush (v := nI 16) hx hb d_M_init_176 (by decide +kernel) ?_
  have hz := hS.1.1
  refine sx_newa (cells' := 22) (slots' := 135094) hx hb hG hts rfl (Or.inl rfl) (by decide +kernel) (by decide) (by decide) rfl rfl (Nat.le_of_ble_eq_true rfl) (Nat.le_of_ble_eq_true rfl) hS d_M_init_178 (fun q178 H e0 a0 l0 y0 hJ hk hS => ?_)
  have u0 : q40 < q178 := e0 ▸ hT.lt
  have hT := hT.grown hk
  have hA := (hA.kept hJ).cons a0 l0
  have hO := hO.grown hk
  have z0 : H0.size ≤ q178 := e0 ▸ hz
  have hZ : ∀ z ∈ ([(q178, .long, 16), (q170, .long, 16), (q162, .long, 16), (q154, .long, 16), (q146, .long, 16), (q138, .long, 16), (q130, .long, 16), (q122, .long, 16), (q114, .long, 16), (q106, .long, 16), (q98, .long, 16), (q90, .long, 16), (q82, .long, 16), (q74, .long, 256), (q65, .long, 16), (q57, .long, 256), (q48, .long, 16), (q40, .int, 6), (q32, .byte, 3200), (q23, .byte, 64), (q15, .byte, 65536), (q7, .byte, 65536)] : List (Nat × FieldType × Nat)), H0.size ≤ z.1 := fun z hz => (List.mem_cons.mp hz).elim (fun e => by rw [e]; exact z0) (hZ z)
  have hV : ∀ z ∈ ([(q178, .long, 16), (q170, .long, 16), (q162, .long, 16), (q154, .long, 16), (q146, .long, 16), (q138, .long, 16), (q130, .long, 16), (q122, .long, 16), (q114, .long, 16), (q106, .long, 16), (q98, .long, 16), (q90, .long, 16), (q82, .long, 16), (q74, .long, 256), (q65, .long, 16), (q57, .long, 256), (q48, .long, 16)] : List (Nat × FieldType × Nat)), q40 < z.1 := fun z hz => (List.mem_cons.mp hz).elim (fun e => by rw [e]; exact u0) (hV z)
  refine sx_putF EE hin hO rfl i_M t_M tok_M n_M 26 (by decide) rfl fl_M_76 (ty := t_M 26) (by decide +kernel) rfl rfl (Nat.le_of_ble_eq_true rfl) hEo hS d_M_init_180 (fun H locs hO hJ hs hS => ?_)
  have hA := hA.kept hJ
  have hO : va_P D classes [(o, .inr (0, [.int 0, .ref q7, .ref q15, .ref q23, .ref q32, .int 0, .int 0, .int 0, .int 0, .ref q40, .ref q48, .ref q57, .ref q65, .ref q74, .ref q82, .ref q90, .ref q98, .ref q106, .ref q114, .ref q122, .ref q130, .ref q138, .ref q146, .ref q154, .ref q162, .ref q170, .ref q178, .null, .null, .null, .null, .null, .null, .null, .null, .null, .null, .null, .null, .null, .null, .null, .null, .null, .null, .null, .null, .null, .null, .null, .null, .null, .null]))] H := hO
  have hT := hT.kept (hs _ (Nat.ne_of_gt (Nat.lt_of_lt_of_le ho (hZ (q40, .int, 6) (by simp)))))
  refine lv_aload_n hx hb d_M_init_183 rfl (lv_at hl 0 rfl) ?_
  refine lv_bipush (v := nI 16) hx hb d_M_init_184 (by decide +kernel) ?_
  have hz := hS.1.1
  refine sx_newa (cells' := 23) (slots' := 135110) hx hb hG hts rfl (Or.inl rfl) (by decide +kernel) (by decide) (by decide) rfl rfl (Nat.le_of_ble_eq_true rfl) (Nat.le_of_ble_eq_true rfl) hS d_M_init_186 (fun q186 H e0 a0 l0 y0 hJ hk hS => ?_)
  have u0 : q40 < q186 := e0 ▸ hT.lt
  have hT := hT.grown hk
  have hA := (hA.kept hJ).cons a0 l0
  have hO := hO.grown hk
  have z0 : H0.size ≤ q186 := e0 ▸ hz
  have hZ : ∀ z ∈ ([(q186, .long, 16), (q178, .long, 16), (q170, .long, 16), (q162, .long, 16), (q154, .long, 16), (q146, .long, 16), (q138, .long, 16), (q130, .long, 16), (q122, .long, 16), (q114, .long, 16), (q106, .long, 16), (q98, .long, 16), (q90, .long, 16), (q82, .long, 16), (q74, .long, 256), (q65, .long, 16), (q57, .long, 256), (q48, .long, 16), (q40, .int, 6), (q32, .byte, 3200), (q23, .byte, 64), (q15, .byte, 65536), (q7, .byte, 65536)] : List (Nat × FieldType × Nat)), H0.size ≤ z.1 := fun z hz => (List.mem_cons.mp hz).elim (fun e => by rw [e]; exact z0) (hZ z)
  have hV : ∀ z ∈ ([(q186, .long, 16), (q178, .long, 16), (q170, .long, 16), (q162, .long, 16), (q154, .long, 16), (q146, .long, 16), (q138, .long, 16), (q130, .long, 16), (q122, .long, 16), (q114, .long, 16), (q106, .long, 16), (q98, .long, 16), (q90, .long, 16), (q82, .long, 16), (q74, .long, 256), (q65, .long, 16), (q57, .long, 256), (q48, .long, 16)] : List (Nat × FieldType × Nat)), q40 < z.1 := fun z hz => (List.mem_cons.mp hz).elim (fun e => by rw [e]; exact u0) (hV z)
  refine sx_putF EE hin hO rfl i_M t_M tok_M n_M 27 (by decide) rfl fl_M_79 (ty := t_M 27) (by decide +kernel) rfl rfl (Nat.le_of_ble_eq_true rfl) hEo hS d_M_init_188 (fun H locs hO hJ hs hS => ?_)
  have hA := hA.kept hJ
  have hO : va_P D classes [(o, .inr (0, [.int 0, .ref q7, .ref q15, .ref q23, .ref q32, .int 0, .int 0, .int 0, .int 0, .ref q40, .ref q48, .ref q57, .ref q65, .ref q74, .ref q82, .ref q90, .ref q98, .ref q106, .ref q114, .ref q122, .ref q130, .ref q138, .ref q146, .ref q154, .ref q162, .ref q170, .ref q178, .ref q186, .null, .null, .null, .null, .null, .null, .null, .null, .null, .null, .null, .null, .null, .null, .null, .null, .null, .null, .null, .null, .null, .null, .null, .null, .null]))] H := hO
  have hT := hT.kept (hs _ (Nat.ne_of_gt (Nat.lt_of_lt_of_le ho (hZ (q40, .int, 6) (by simp)))))
  refine lv_aload_n hx hb d_M_init_191 rfl (lv_at hl 0 rfl) ?_
  refine lv_bipush (v := nI 16) hx hb d_M_init_192 (by decide +kernel) ?_
  have hz := hS.1.1
  refine sx_newa (cells' := 24) (slots' := 135126) hx hb hG hts rfl (Or.inl rfl) (by decide +kernel) (by decide) (by decide) rfl rfl (Nat.le_of_ble_eq_true rfl) (Nat.le_of_ble_eq_true rfl) hS d_M_init_194 (fun q194 H e0 a0 l0 y0 hJ hk hS => ?_)
  have u0 : q40 < q194 := e0 ▸ hT.lt
  have hT := hT.grown hk
  have hA := (hA.kept hJ).cons a0 l0
  have hO := hO.grown hk
  have z0 : H0.size ≤ q194 := e0 ▸ hz
  have hZ : ∀ z ∈ ([(q194, .long, 16), (q186, .long, 16), (q178, .long, 16), (q170, .long, 16), (q162, .long, 16), (q154, .long, 16), (q146, .long, 16), (q138, .long, 16), (q130, .long, 16), (q122, .long, 16), (q114, .long, 16), (q106, .long, 16), (q98, .long, 16), (q90, .long, 16), (q82, .long, 16), (q74, .long, 256), (q65, .long, 16), (q57, .long, 256), (q48, .long, 16), (q40, .int, 6), (q32, .byte, 3200), (q23, .byte, 64), (q15, .byte, 65536), (q7, .byte, 65536)] : List (Nat × FieldType × Nat)), H0.size ≤ z.1 := fun z hz => (List.mem_cons.mp hz).elim (fun e => by rw [e]; exact z0) (hZ z)
  have hV : ∀ z ∈ ([(q194, .long, 16), (q186, .long, 16), (q178, .long, 16), (q170, .long, 16), (q162, .long, 16), (q154, .long, 16), (q146, .long, 16), (q138, .long, 16), (q130, .long, 16), (q122, .long, 16), (q114, .long, 16), (q106, .long, 16), (q98, .long, 16), (q90, .long, 16), (q82, .long, 16), (q74, .long, 256), (q65, .long, 16), (q57, .long, 256), (q48, .long, 16)] : List (Nat × FieldType × Nat)), q40 < z.1 := fun z hz => (List.mem_cons.mp hz).elim (fun e => by rw [e]; exact u0) (hV z)
  refine sx_putF EE hin hO rfl i_M t_M tok_M n_M 28 (by decide) rfl fl_M_82 (ty := t_M 28) (by decide +kernel) rfl rfl (Nat.le_of_ble_eq_true rfl) hEo hS d_M_init_196 (fun H locs hO hJ hs hS => ?_)
  have hA := hA.kept hJ
  have hO : va_P D classes [(o, .inr (0, [.int 0, .ref q7, .ref q15, .ref q23, .ref q32, .int 0, .int 0, .int 0, .int 0, .ref q40, .ref q48, .ref q57, .ref q65, .ref q74, .ref q82, .ref q90, .ref q98, .ref q106, .ref q114, .ref q122, .ref q130, .ref q138, .ref q146, .ref q154, .ref q162, .ref q170, .ref q178, .ref q186, .ref q194, .null, .null, .null, .null, .null, .null, .null, .null, .null, .null, .null, .null, .null, .null, .null, .null, .null, .null, .null, .null, .null, .null, .null, .null]))] H := hO
  have hT := hT.kept (hs _ (Nat.ne_of_gt (Nat.lt_of_lt_of_le ho (hZ (q40, .int, 6) (by simp)))))
  refine lv_aload_n hx hb d_M_init_199 rfl (lv_at hl 0 rfl) ?_
  refine lv_bipush (v := nI 16) hx hb d_M_init_200 (by decide +kernel) ?_
  have hz := hS.1.1
  refine sx_newa (cells' := 25) (slots' := 135142) hx hb hG hts rfl (Or.inl rfl) (by decide +kernel) (by decide) (by decide) rfl rfl (Nat.le_of_ble_eq_true rfl) (Nat.le_of_ble_eq_true rfl) hS d_M_init_202 (fun q202 H e0 a0 l0 y0 hJ hk hS => ?_)
  have u0 : q40 < q202 := e0 ▸ hT.lt
  have hT := hT.grown hk
  have hA := (hA.kept hJ).cons a0 l0
  have hO := hO.grown hk
  have z0 : H0.size ≤ q202 := e0 ▸ hz
  have hZ : ∀ z ∈ ([(q202, .long, 16), (q194, .long, 16), (q186, .long, 16), (q178, .long, 16), (q170, .long, 16), (q162, .long, 16), (q154, .long, 16), (q146, .long, 16), (q138, .long, 16), (q130, .long, 16), (q122, .long, 16), (q114, .long, 16), (q106, .long, 16), (q98, .long, 16), (q90, .long, 16), (q82, .long, 16), (q74, .long, 256), (q65, .long, 16), (q57, .long, 256), (q48, .long, 16), (q40, .int, 6), (q32, .byte, 3200), (q23, .byte, 64), (q15, .byte, 65536), (q7, .byte, 65536)] : List (Nat × FieldType × Nat)), H0.size ≤ z.1 := fun z hz => (List.mem_cons.mp hz).elim (fun e => by rw [e]; exact z0) (hZ z)
  have hV : ∀ z ∈ ([(q202, .long, 16), (q194, .long, 16), (q186, .long, 16), (q178, .long, 16), (q170, .long, 16), (q162, .long, 16), (q154, .long, 16), (q146, .long, 16), (q138, .long, 16), (q130, .long, 16), (q122, .long, 16), (q114, .long, 16), (q106, .long, 16), (q98, .long, 16), (q90, .long, 16), (q82, .long, 16), (q74, .long, 256), (q65, .long, 16), (q57, .long, 256), (q48, .long, 16)] : List (Nat × FieldType × Nat)), q40 < z.1 := fun z hz => (List.mem_cons.mp hz).elim (fun e => by rw [e]; exact u0) (hV z)
  refine sx_putF EE hin hO rfl i_M t_M tok_M n_M 29 (by decide) rfl fl_M_85 (ty := t_M 29) (by decide +kernel) rfl rfl (Nat.le_of_ble_eq_true rfl) hEo hS d_M_init_204 (fun H locs hO hJ hs hS => ?_)
  have hA := hA.kept hJ
  have hO : va_P D classes [(o, .inr (0, [.int 0, .ref q7, .ref q15, .ref q23, .ref q32, .int 0, .int 0, .int 0, .int 0, .ref q40, .ref q48, .ref q57, .ref q65, .ref q74, .ref q82, .ref q90, .ref q98, .ref q106, .ref q114, .ref q122, .ref q130, .ref q138, .ref q146, .ref q154, .ref q162, .ref q170, .ref q178, .ref q186, .ref q194, .ref q202, .null, .null, .null, .null, .null, .null, .null, .null, .null, .null, .null, .null, .null, .null, .null, .null, .null, .null, .null, .null, .null, .null, .null]))] H := hO
  have hT := hT.kept (hs _ (Nat.ne_of_gt (Nat.lt_of_lt_of_le ho (hZ (q40, .int, 6) (by simp)))))
  refine lv_aload_n hx hb d_M_init_207 rfl (lv_at hl 0 rfl) ?_
  refine lv_bipush (v := nI 16) hx hb d_M_init_208 (by decide +kernel) ?_
  have hz := hS.1.1
  refine sx_newa (cells' := 26) (slots' := 135158) hx hb hG hts rfl (Or.inl rfl) (by decide +kernel) (by decide) (by decide) rfl rfl (Nat.le_of_ble_eq_true rfl) (Nat.le_of_ble_eq_true rfl) hS d_M_init_210 (fun q210 H e0 a0 l0 y0 hJ hk hS => ?_)
  have u0 : q40 < q210 := e0 ▸ hT.lt
  have hT := hT.grown hk
  have hA := (hA.kept hJ).cons a0 l0
  have hO := hO.grown hk
  have z0 : H0.size ≤ q210 := e0 ▸ hz
  have hZ : ∀ z ∈ ([(q210, .long, 16), (q202, .long, 16), (q194, .long, 16), (q186, .long, 16), (q178, .long, 16), (q170, .long, 16), (q162, .long, 16), (q154, .long, 16), (q146, .long, 16), (q138, .long, 16), (q130, .long, 16), (q122, .long, 16), (q114, .long, 16), (q106, .long, 16), (q98, .long, 16), (q90, .long, 16), (q82, .long, 16), (q74, .long, 256), (q65, .long, 16), (q57, .long, 256), (q48, .long, 16), (q40, .int, 6), (q32, .byte, 3200), (q23, .byte, 64), (q15, .byte, 65536), (q7, .byte, 65536)] : List (Nat × FieldType × Nat)), H0.size ≤ z.1 := fun z hz => (List.mem_cons.mp hz).elim (fun e => by rw [e]; exact z0) (hZ z)
  have hV : ∀ z ∈ ([(q210, .long, 16), (q202, .long, 16), (q194, .long, 16), (q186, .long, 16), (q178, .long, 16), (q170, .long, 16), (q162, .long, 16), (q154, .long, 16), (q146, .long, 16), (q138, .long, 16), (q130, .long, 16), (q122, .long, 16), (q114, .long, 16), (q106, .long, 16), (q98, .long, 16), (q90, .long, 16), (q82, .long, 16), (q74, .long, 256), (q65, .long, 16), (q57, .long, 256), (q48, .long, 16)] : List (Nat × FieldType × Nat)), q40 < z.1 := fun z hz => (List.mem_cons.mp hz).elim (fun e => by rw [e]; exact u0) (hV z)
  refine sx_putF EE hin hO rfl i_M t_M tok_M n_M 30 (by decide) rfl fl_M_88 (ty := t_M 30) (by decide +kernel) rfl rfl (Nat.le_of_ble_eq_true rfl) hEo hS d_M_init_212 (fun H locs hO hJ hs hS => ?_)
  have hA := hA.kept hJ
  have hO : va_P D classes [(o, .inr (0, [.int 0, .ref q7, .ref q15, .ref q23, .ref q32, .int 0, .int 0, .int 0, .int 0, .ref q40, .ref q48, .ref q57, .ref q65, .ref q74, .ref q82, .ref q90, .ref q98, .ref q106, .ref q114, .ref q122, .ref q130, .ref q138, .ref q146, .ref q154, .ref q162, .ref q170, .ref q178, .ref q186, .ref q194, .ref q202, .ref q210, .null, .null, .null, .null, .null, .null, .null, .null, .null, .null, .null, .null, .null, .null, .null, .null, .null, .null, .null, .null, .null, .null]))] H := hO
  have hT := hT.kept (hs _ (Nat.ne_of_gt (Nat.lt_of_lt_of_le ho (hZ (q40, .int, 6) (by simp)))))
  refine lv_aload_n hx hb d_M_init_215 rfl (lv_at hl 0 rfl) ?_
  refine lv_bipush (v := nI 16) hx hb d_M_init_216 (by decide +kernel) ?_
  have hz := hS.1.1
  refine sx_newa (cells' := 27) (slots' := 135174) hx hb hG hts rfl (Or.inl rfl) (by decide +kernel) (by decide) (by decide) rfl rfl (Nat.le_of_ble_eq_true rfl) (Nat.le_of_ble_eq_true rfl) hS d_M_init_218 (fun q218 H e0 a0 l0 y0 hJ hk hS => ?_)
  have u0 : q40 < q218 := e0 ▸ hT.lt
  have hT := hT.grown hk
  have hA := (hA.kept hJ).cons a0 l0
  have hO := hO.grown hk
  have z0 : H0.size ≤ q218 := e0 ▸ hz
  have hZ : ∀ z ∈ ([(q218, .long, 16), (q210, .long, 16), (q202, .long, 16), (q194, .long, 16), (q186, .long, 16), (q178, .long, 16), (q170, .long, 16), (q162, .long, 16), (q154, .long, 16), (q146, .long, 16), (q138, .long, 16), (q130, .long, 16), (q122, .long, 16), (q114, .long, 16), (q106, .long, 16), (q98, .long, 16), (q90, .long, 16), (q82, .long, 16), (q74, .long, 256), (q65, .long, 16), (q57, .long, 256), (q48, .long, 16), (q40, .int, 6), (q32, .byte, 3200), (q23, .byte, 64), (q15, .byte, 65536), (q7, .byte, 65536)] : List (Nat × FieldType × Nat)), H0.size ≤ z.1 := fun z hz => (List.mem_cons.mp hz).elim (fun e => by rw [e]; exact z0) (hZ z)
  have hV : ∀ z ∈ ([(q218, .long, 16), (q210, .long, 16), (q202, .long, 16), (q194, .long, 16), (q186, .long, 16), (q178, .long, 16), (q170, .long, 16), (q162, .long, 16), (q154, .long, 16), (q146, .long, 16), (q138, .long, 16), (q130, .long, 16), (q122, .long, 16), (q114, .long, 16), (q106, .long, 16), (q98, .long, 16), (q90, .long, 16), (q82, .long, 16), (q74, .long, 256), (q65, .long, 16), (q57, .long, 256), (q48, .long, 16)] : List (Nat × FieldType × Nat)), q40 < z.1 := fun z hz => (List.mem_cons.mp hz).elim (fun e => by rw [e]; exact u0) (hV z)
  refine sx_putF EE hin hO rfl i_M t_M tok_M n_M 31 (by decide) rfl fl_M_91 (ty := t_M 31) (by decide +kernel) rfl rfl (Nat.le_of_ble_eq_true rfl) hEo hS d_M_init_220 (fun H locs hO hJ hs hS => ?_)
  have hA := hA.kept hJ
  have hO : va_P D classes [(o, .inr (0, [.int 0, .ref q7, .ref q15, .ref q23, .ref q32, .int 0, .int 0, .int 0, .int 0, .ref q40, .ref q48, .ref q57, .ref q65, .ref q74, .ref q82, .ref q90, .ref q98, .ref q106, .ref q114, .ref q122, .ref q130, .ref q138, .ref q146, .ref q154, .ref q162, .ref q170, .ref q178, .ref q186, .ref q194, .ref q202, .ref q210, .ref q218, .null, .null, .null, .null, .null, .null, .null, .null, .null, .null, .null, .null, .null, .null, .null, .null, .null, .null, .null, .null, .null]))] H := hO
  have hT := hT.kept (hs _ (Nat.ne_of_gt (Nat.lt_of_lt_of_le ho (hZ (q40, .int, 6) (by simp)))))
  refine lv_aload_n hx hb d_M_init_223 rfl (lv_at hl 0 rfl) ?_
  refine lv_bipush (v := nI 16) hx hb d_M_init_224 (by decide +kernel) ?_
  have hz := hS.1.1
  refine sx_newa (cells' := 28) (slots' := 135190) hx hb hG hts rfl (Or.inl rfl) (by decide +kernel) (by decide) (by decide) rfl rfl (Nat.le_of_ble_eq_true rfl) (Nat.le_of_ble_eq_true rfl) hS d_M_init_226 (fun q226 H e0 a0 l0 y0 hJ hk hS => ?_)
  have u0 : q40 < q226 := e0 ▸ hT.lt
  have hT := hT.grown hk
  have hA := (hA.kept hJ).cons a0 l0
  have hO := hO.grown hk
  have z0 : H0.size ≤ q226 := e0 ▸ hz
  have hZ : ∀ z ∈ ([(q226, .long, 16), (q218, .long, 16), (q210, .long, 16), (q202, .long, 16), (q194, .long, 16), (q186, .long, 16), (q178, .long, 16), (q170, .long, 16), (q162, .long, 16), (q154, .long, 16), (q146, .long, 16), (q138, .long, 16), (q130, .long, 16), (q122, .long, 16), (q114, .long, 16), (q106, .long, 16), (q98, .long, 16), (q90, .long, 16), (q82, .long, 16), (q74, .long, 256), (q65, .long, 16), (q57, .long, 256), (q48, .long, 16), (q40, .int, 6), (q32, .byte, 3200), (q23, .byte, 64), (q15, .byte, 65536), (q7, .byte, 65536)] : List (Nat × FieldType × Nat)), H0.size ≤ z.1 := fun z hz => (List.mem_cons.mp hz).elim (fun e => by rw [e]; exact z0) (hZ z)
  have hV : ∀ z ∈ ([(q226, .long, 16), (q218, .long, 16), (q210, .long, 16), (q202, .long, 16), (q194, .long, 16), (q186, .long, 16), (q178, .long, 16), (q170, .long, 16), (q162, .long, 16), (q154, .long, 16), (q146, .long, 16), (q138, .long, 16), (q130, .long, 16), (q122, .long, 16), (q114, .long, 16), (q106, .long, 16), (q98, .long, 16), (q90, .long, 16), (q82, .long, 16), (q74, .long, 256), (q65, .long, 16), (q57, .long, 256), (q48, .long, 16)] : List (Nat × FieldType × Nat)), q40 < z.1 := fun z hz => (List.mem_cons.mp hz).elim (fun e => by rw [e]; exact u0) (hV z)
  refine sx_putF EE hin hO rfl i_M t_M tok_M n_M 32 (by decide) rfl fl_M_94 (ty := t_M 32) (by decide +kernel) rfl rfl (Nat.le_of_ble_eq_true rfl) hEo hS d_M_init_228 (fun H locs hO hJ hs hS => ?_)
  have hA := hA.kept hJ
  have hO : va_P D classes [(o, .inr (0, [.int 0, .ref q7, .ref q15, .ref q23, .ref q32, .int 0, .int 0, .int 0, .int 0, .ref q40, .ref q48, .ref q57, .ref q65, .ref q74, .ref q82, .ref q90, .ref q98, .ref q106, .ref q114, .ref q122, .ref q130, .ref q138, .ref q146, .ref q154, .ref q162, .ref q170, .ref q178, .ref q186, .ref q194, .ref q202, .ref q210, .ref q218, .ref q226, .null, .null, .null, .null, .null, .null, .null, .null, .null, .null, .null, .null, .null, .null, .null, .null, .null, .null, .null, .null]))] H := hO
  have hT := hT.kept (hs _ (Nat.ne_of_gt (Nat.lt_of_lt_of_le ho (hZ (q40, .int, 6) (by simp)))))
  refine lv_aload_n hx hb d_M_init_231 rfl (lv_at hl 0 rfl) ?_
  refine lv_bipush (v := nI 16) hx hb d_M_init_232 (by decide +kernel) ?_
  have hz := hS.1.1
  refine sx_newa (cells' := 29) (slots' := 135206) hx hb hG hts rfl (Or.inl rfl) (by decide +kernel) (by decide) (by decide) rfl rfl (Nat.le_of_ble_eq_true rfl) (Nat.le_of_ble_eq_true rfl) hS d_M_init_234 (fun q234 H e0 a0 l0 y0 hJ hk hS => ?_)
  have u0 : q40 < q234 := e0 ▸ hT.lt
  have hT := hT.grown hk
  have hA := (hA.kept hJ).cons a0 l0
  have hO := hO.grown hk
  have z0 : H0.size ≤ q234 := e0 ▸ hz
  have hZ : ∀ z ∈ ([(q234, .long, 16), (q226, .long, 16), (q218, .long, 16), (q210, .long, 16), (q202, .long, 16), (q194, .long, 16), (q186, .long, 16), (q178, .long, 16), (q170, .long, 16), (q162, .long, 16), (q154, .long, 16), (q146, .long, 16), (q138, .long, 16), (q130, .long, 16), (q122, .long, 16), (q114, .long, 16), (q106, .long, 16), (q98, .long, 16), (q90, .long, 16), (q82, .long, 16), (q74, .long, 256), (q65, .long, 16), (q57, .long, 256), (q48, .long, 16), (q40, .int, 6), (q32, .byte, 3200), (q23, .byte, 64), (q15, .byte, 65536), (q7, .byte, 65536)] : List (Nat × FieldType × Nat)), H0.size ≤ z.1 := fun z hz => (List.mem_cons.mp hz).elim (fun e => by rw [e]; exact z0) (hZ z)
  have hV : ∀ z ∈ ([(q234, .long, 16), (q226, .long, 16), (q218, .long, 16), (q210, .long, 16), (q202, .long, 16), (q194, .long, 16), (q186, .long, 16), (q178, .long, 16), (q170, .long, 16), (q162, .long, 16), (q154, .long, 16), (q146, .long, 16), (q138, .long, 16), (q130, .long, 16), (q122, .long, 16), (q114, .long, 16), (q106, .long, 16), (q98, .long, 16), (q90, .long, 16), (q82, .long, 16), (q74, .long, 256), (q65, .long, 16), (q57, .long, 256), (q48, .long, 16)] : List (Nat × FieldType × Nat)), q40 < z.1 := fun z hz => (List.mem_cons.mp hz).elim (fun e => by rw [e]; exact u0) (hV z)
  refine sx_putF EE hin hO rfl i_M t_M tok_M n_M 33 (by decide) rfl fl_M_97 (ty := t_M 33) (by decide +kernel) rfl rfl (Nat.le_of_ble_eq_true rfl) hEo hS d_M_init_236 (fun H locs hO hJ hs hS => ?_)
  have hA := hA.kept hJ
  have hO : va_P D classes [(o, .inr (0, [.int 0, .ref q7, .ref q15, .ref q23, .ref q32, .int 0, .int 0, .int 0, .int 0, .ref q40, .ref q48, .ref q57, .ref q65, .ref q74, .ref q82, .ref q90, .ref q98, .ref q106, .ref q114, .ref q122, .ref q130, .ref q138, .ref q146, .ref q154, .ref q162, .ref q170, .ref q178, .ref q186, .ref q194, .ref q202, .ref q210, .ref q218, .ref q226, .ref q234, .null, .null, .null, .null, .null, .null, .null, .null, .null, .null, .null, .null, .null, .null, .null, .null, .null, .null, .null]))] H := hO
  have hT := hT.kept (hs _ (Nat.ne_of_gt (Nat.lt_of_lt_of_le ho (hZ (q40, .int, 6) (by simp)))))
  refine lv_aload_n hx hb d_M_init_239 rfl (lv_at hl 0 rfl) ?_
  refine lv_bipush (v := nI 16) hx hb d_M_init_240 (by decide +kernel) ?_
  have hz := hS.1.1
  refine sx_newa (cells' := 30) (slots' := 135222) hx hb hG hts rfl (Or.inl rfl) (by decide +kernel) (by decide) (by decide) rfl rfl (Nat.le_of_ble_eq_true rfl) (Nat.le_of_ble_eq_true rfl) hS d_M_init_242 (fun q242 H e0 a0 l0 y0 hJ hk hS => ?_)
  have u0 : q40 < q242 := e0 ▸ hT.lt
  have hT := hT.grown hk
  have hA := (hA.kept hJ).cons a0 l0
  have hO := hO.grown hk
  have z0 : H0.size ≤ q242 := e0 ▸ hz
  have hZ : ∀ z ∈ ([(q242, .long, 16), (q234, .long, 16), (q226, .long, 16), (q218, .long, 16), (q210, .long, 16), (q202, .long, 16), (q194, .long, 16), (q186, .long, 16), (q178, .long, 16), (q170, .long, 16), (q162, .long, 16), (q154, .long, 16), (q146, .long, 16), (q138, .long, 16), (q130, .long, 16), (q122, .long, 16), (q114, .long, 16), (q106, .long, 16), (q98, .long, 16), (q90, .long, 16), (q82, .long, 16), (q74, .long, 256), (q65, .long, 16), (q57, .long, 256), (q48, .long, 16), (q40, .int, 6), (q32, .byte, 3200), (q23, .byte, 64), (q15, .byte, 65536), (q7, .byte, 65536)] : List (Nat × FieldType × Nat)), H0.size ≤ z.1 := fun z hz => (List.mem_cons.mp hz).elim (fun e => by rw [e]; exact z0) (hZ z)
  have hV : ∀ z ∈ ([(q242, .long, 16), (q234, .long, 16), (q226, .long, 16), (q218, .long, 16), (q210, .long, 16), (q202, .long, 16), (q194, .long, 16), (q186, .long, 16), (q178, .long, 16), (q170, .long, 16), (q162, .long, 16), (q154, .long, 16), (q146, .long, 16), (q138, .long, 16), (q130, .long, 16), (q122, .long, 16), (q114, .long, 16), (q106, .long, 16), (q98, .long, 16), (q90, .long, 16), (q82, .long, 16), (q74, .long, 256), (q65, .long, 16), (q57, .long, 256), (q48, .long, 16)] : List (Nat × FieldType × Nat)), q40 < z.1 := fun z hz => (List.mem_cons.mp hz).elim (fun e => by rw [e]; exact u0) (hV z)
  refine sx_putF EE hin hO rfl i_M t_M tok_M n_M 34 (by decide) rfl fl_M_100 (ty := t_M 34) (by decide +kernel) rfl rfl (Nat.le_of_ble_eq_true rfl) hEo hS d_M_init_244 (fun H locs hO hJ hs hS => ?_)
  have hA := hA.kept hJ
  have hO : va_P D classes [(o, .inr (0, [.int 0, .ref q7, .ref q15, .ref q23, .ref q32, .int 0, .int 0, .int 0, .int 0, .ref q40, .ref q48, .ref q57, .ref q65, .ref q74, .ref q82, .ref q90, .ref q98, .ref q106, .ref q114, .ref q122, .ref q130, .ref q138, .ref q146, .ref q154, .ref q162, .ref q170, .ref q178, .ref q186, .ref q194, .ref q202, .ref q210, .ref q218, .ref q226, .ref q234, .ref q242, .null, .null, .null, .null, .null, .null, .null, .null, .null, .null, .null, .null, .null, .null, .null, .null, .null, .null]))] H := hO
  have hT := hT.kept (hs _ (Nat.ne_of_gt (Nat.lt_of_lt_of_le ho (hZ (q40, .int, 6) (by simp)))))
  refine lv_aload_n hx hb d_M_init_247 rfl (lv_at hl 0 rfl) ?_
  refine lv_bipush (v := nI 32) hx hb d_M_init_248 (by decide +kernel) ?_
  have hz := hS.1.1
  refine sx_newa (cells' := 31) (slots' := 135254) hx hb hG hts rfl (Or.inr (Or.inl rfl)) (by decide +kernel) (by decide) (by decide) rfl rfl (Nat.le_of_ble_eq_true rfl) (Nat.le_of_ble_eq_true rfl) hS d_M_init_250 (fun q250 H e0 a0 l0 y0 hJ hk hS => ?_)
  have u0 : q40 < q250 := e0 ▸ hT.lt
  have hT := hT.grown hk
  have hA := (hA.kept hJ).cons a0 l0
  have hO := hO.grown hk
  have z0 : H0.size ≤ q250 := e0 ▸ hz
  have hZ : ∀ z ∈ ([(q250, .byte, 32), (q242, .long, 16), (q234, .long, 16), (q226, .long, 16), (q218, .long, 16), (q210, .long, 16), (q202, .long, 16), (q194, .long, 16), (q186, .long, 16), (q178, .long, 16), (q170, .long, 16), (q162, .long, 16), (q154, .long, 16), (q146, .long, 16), (q138, .long, 16), (q130, .long, 16), (q122, .long, 16), (q114, .long, 16), (q106, .long, 16), (q98, .long, 16), (q90, .long, 16), (q82, .long, 16), (q74, .long, 256), (q65, .long, 16), (q57, .long, 256), (q48, .long, 16), (q40, .int, 6), (q32, .byte, 3200), (q23, .byte, 64), (q15, .byte, 65536), (q7, .byte, 65536)] : List (Nat × FieldType × Nat)), H0.size ≤ z.1 := fun z hz => (List.mem_cons.mp hz).elim (fun e => by rw [e]; exact z0) (hZ z)
  have hV : ∀ z ∈ ([(q250, .byte, 32), (q242, .long, 16), (q234, .long, 16), (q226, .long, 16), (q218, .long, 16), (q210, .long, 16), (q202, .long, 16), (q194, .long, 16), (q186, .long, 16), (q178, .long, 16), (q170, .long, 16), (q162, .long, 16), (q154, .long, 16), (q146, .long, 16), (q138, .long, 16), (q130, .long, 16), (q122, .long, 16), (q114, .long, 16), (q106, .long, 16), (q98, .long, 16), (q90, .long, 16), (q82, .long, 16), (q74, .long, 256), (q65, .long, 16), (q57, .long, 256), (q48, .long, 16)] : List (Nat × FieldType × Nat)), q40 < z.1 := fun z hz => (List.mem_cons.mp hz).elim (fun e => by rw [e]; exact u0) (hV z)
  refine sx_putF EE hin hO rfl i_M t_M tok_M n_M 35 (by decide) rfl fl_M_103 (ty := t_M 35) (by decide +kernel) rfl rfl (Nat.le_of_ble_eq_true rfl) hEo hS d_M_init_252 (fun H locs hO hJ hs hS => ?_)
  have hA := hA.kept hJ
  have hO : va_P D classes [(o, .inr (0, [.int 0, .ref q7, .ref q15, .ref q23, .ref q32, .int 0, .int 0, .int 0, .int 0, .ref q40, .ref q48, .ref q57, .ref q65, .ref q74, .ref q82, .ref q90, .ref q98, .ref q106, .ref q114, .ref q122, .ref q130, .ref q138, .ref q146, .ref q154, .ref q162, .ref q170, .ref q178, .ref q186, .ref q194, .ref q202, .ref q210, .ref q218, .ref q226, .ref q234, .ref q242, .ref q250, .null, .null, .null, .null, .null, .null, .null, .null, .null, .null, .null, .null, .null, .null, .null, .null, .null]))] H := hO
  have hT := hT.kept (hs _ (Nat.ne_of_gt (Nat.lt_of_lt_of_le ho (hZ (q40, .int, 6) (by simp)))))
  refine lv_aload_n hx hb d_M_init_255 rfl (lv_at hl 0 rfl) ?_
  refine lv_bipush (v := nI 32) hx hb d_M_init_256 (by decide +kernel) ?_
  have hz := hS.1.1
  refine sx_newa (cells' := 32) (slots' := 135286) hx hb hG hts rfl (Or.inr (Or.inl rfl)) (by decide +kernel) (by decide) (by decide) rfl rfl (Nat.le_of_ble_eq_true rfl) (Nat.le_of_ble_eq_true rfl) hS d_M_init_258 (fun q258 H e0 a0 l0 y0 hJ hk hS => ?_)
  have u0 : q40 < q258 := e0 ▸ hT.lt
  have hT := hT.grown hk
  have hA := (hA.kept hJ).cons a0 l0
  have hO := hO.grown hk
  have z0 : H0.size ≤ q258 := e0 ▸ hz
  have hZ : ∀ z ∈ ([(q258, .byte, 32), (q250, .byte, 32), (q242, .long, 16), (q234, .long, 16), (q226, .long, 16), (q218, .long, 16), (q210, .long, 16), (q202, .long, 16), (q194, .long, 16), (q186, .long, 16), (q178, .long, 16), (q170, .long, 16), (q162, .long, 16), (q154, .long, 16), (q146, .long, 16), (q138, .long, 16), (q130, .long, 16), (q122, .long, 16), (q114, .long, 16), (q106, .long, 16), (q98, .long, 16), (q90, .long, 16), (q82, .long, 16), (q74, .long, 256), (q65, .long, 16), (q57, .long, 256), (q48, .long, 16), (q40, .int, 6), (q32, .byte, 3200), (q23, .byte, 64), (q15, .byte, 65536), (q7, .byte, 65536)] : List (Nat × FieldType × Nat)), H0.size ≤ z.1 := fun z hz => (List.mem_cons.mp hz).elim (fun e => by rw [e]; exact z0) (hZ z)
  have hV : ∀ z ∈ ([(q258, .byte, 32), (q250, .byte, 32), (q242, .long, 16), (q234, .long, 16), (q226, .long, 16), (q218, .long, 16), (q210, .long, 16), (q202, .long, 16), (q194, .long, 16), (q186, .long, 16), (q178, .long, 16), (q170, .long, 16), (q162, .long, 16), (q154, .long, 16), (q146, .long, 16), (q138, .long, 16), (q130, .long, 16), (q122, .long, 16), (q114, .long, 16), (q106, .long, 16), (q98, .long, 16), (q90, .long, 16), (q82, .long, 16), (q74, .long, 256), (q65, .long, 16), (q57, .long, 256), (q48, .long, 16)] : List (Nat × FieldType × Nat)), q40 < z.1 := fun z hz => (List.mem_cons.mp hz).elim (fun e => by rw [e]; exact u0) (hV z)
  refine sx_putF EE hin hO rfl i_M t_M tok_M n_M 36 (by decide) rfl fl_M_106 (ty := t_M 36) (by decide +kernel) rfl rfl (Nat.le_of_ble_eq_true rfl) hEo hS d_M_init_260 (fun H locs hO hJ hs hS => ?_)
  have hA := hA.kept hJ
  have hO : va_P D classes [(o, .inr (0, [.int 0, .ref q7, .ref q15, .ref q23, .ref q32, .int 0, .int 0, .int 0, .int 0, .ref q40, .ref q48, .ref q57, .ref q65, .ref q74, .ref q82, .ref q90, .ref q98, .ref q106, .ref q114, .ref q122, .ref q130, .ref q138, .ref q146, .ref q154, .ref q162, .ref q170, .ref q178, .ref q186, .ref q194, .ref q202, .ref q210, .ref q218, .ref q226, .ref q234, .ref q242, .ref q250, .ref q258, .null, .null, .null, .null, .null, .null, .null, .null, .null, .null, .null, .null, .null, .null, .null, .null]))] H := hO
  have hT := hT.kept (hs _ (Nat.ne_of_gt (Nat.lt_of_lt_of_le ho (hZ (q40, .int, 6) (by simp)))))
  refine lv_aload_n hx hb d_M_init_263 rfl (lv_at hl 0 rfl) ?_
  refine lv_bipush (v := nI 32) hx hb d_M_init_264 (by decide +kernel) ?_
  have hz := hS.1.1
  refine sx_newa (cells' := 33) (slots' := 135318) hx hb hG hts rfl (Or.inr (Or.inl rfl)) (by decide +kernel) (by decide) (by decide) rfl rfl (Nat.le_of_ble_eq_true rfl) (Nat.le_of_ble_eq_true rfl) hS d_M_init_266 (fun q266 H e0 a0 l0 y0 hJ hk hS => ?_)
  have u0 : q40 < q266 := e0 ▸ hT.lt
  have hT := hT.grown hk
  have hA := (hA.kept hJ).cons a0 l0
  have hO := hO.grown hk
  have z0 : H0.size ≤ q266 := e0 ▸ hz
  have hZ : ∀ z ∈ ([(q266, .byte, 32), (q258, .byte, 32), (q250, .byte, 32), (q242, .long, 16), (q234, .long, 16), (q226, .long, 16), (q218, .long, 16), (q210, .long, 16), (q202, .long, 16), (q194, .long, 16), (q186, .long, 16), (q178, .long, 16), (q170, .long, 16), (q162, .long, 16), (q154, .long, 16), (q146, .long, 16), (q138, .long, 16), (q130, .long, 16), (q122, .long, 16), (q114, .long, 16), (q106, .long, 16), (q98, .long, 16), (q90, .long, 16), (q82, .long, 16), (q74, .long, 256), (q65, .long, 16), (q57, .long, 256), (q48, .long, 16), (q40, .int, 6), (q32, .byte, 3200), (q23, .byte, 64), (q15, .byte, 65536), (q7, .byte, 65536)] : List (Nat × FieldType × Nat)), H0.size ≤ z.1 := fun z hz => (List.mem_cons.mp hz).elim (fun e => by rw [e]; exact z0) (hZ z)
  have hV : ∀ z ∈ ([(q266, .byte, 32), (q258, .byte, 32), (q250, .byte, 32), (q242, .long, 16), (q234, .long, 16), (q226, .long, 16), (q218, .long, 16), (q210, .long, 16), (q202, .long, 16), (q194, .long, 16), (q186, .long, 16), (q178, .long, 16), (q170, .long, 16), (q162, .long, 16), (q154, .long, 16), (q146, .long, 16), (q138, .long, 16), (q130, .long, 16), (q122, .long, 16), (q114, .long, 16), (q106, .long, 16), (q98, .long, 16), (q90, .long, 16), (q82, .long, 16), (q74, .long, 256), (q65, .long, 16), (q57, .long, 256), (q48, .long, 16)] : List (Nat × FieldType × Nat)), q40 < z.1 := fun z hz => (List.mem_cons.mp hz).elim (fun e => by rw [e]; exact u0) (hV z)
  refine sx_putF EE hin hO rfl i_M t_M tok_M n_M 37 (by decide) rfl fl_M_109 (ty := t_M 37) (by decide +kernel) rfl rfl (Nat.le_of_ble_eq_true rfl) hEo hS d_M_init_268 (fun H locs hO hJ hs hS => ?_)
  have hA := hA.kept hJ
  have hO : va_P D classes [(o, .inr (0, [.int 0, .ref q7, .ref q15, .ref q23, .ref q32, .int 0, .int 0, .int 0, .int 0, .ref q40, .ref q48, .ref q57, .ref q65, .ref q74, .ref q82, .ref q90, .ref q98, .ref q106, .ref q114, .ref q122, .ref q130, .ref q138, .ref q146, .ref q154, .ref q162, .ref q170, .ref q178, .ref q186, .ref q194, .ref q202, .ref q210, .ref q218, .ref q226, .ref q234, .ref q242, .ref q250, .ref q258, .ref q266, .null, .null, .null, .null, .null, .null, .null, .null, .null, .null, .null, .null, .null, .null, .null]))] H := hO
  have hT := hT.kept (hs _ (Nat.ne_of_gt (Nat.lt_of_lt_of_le ho (hZ (q40, .int, 6) (by simp)))))
  refine lv_aload_n hx hb d_M_init_271 rfl (lv_at hl 0 rfl) ?_
  refine lv_ldc (v := nI 65664) hx hb hown (hts (.constant R_M 112 (nI 65664)) (by decide +kernel)) d_M_init_272 ?_
  have hz := hS.1.1
  refine sx_newa (cells' := 34) (slots' := 200982) hx hb hG hts rfl (Or.inr (Or.inl rfl)) (by decide +kernel) (by decide) (by decide) rfl rfl (Nat.le_of_ble_eq_true rfl) (Nat.le_of_ble_eq_true rfl) hS d_M_init_274 (fun q274 H e0 a0 l0 y0 hJ hk hS => ?_)
  have u0 : q40 < q274 := e0 ▸ hT.lt
  have hT := hT.grown hk
  have hA := (hA.kept hJ).cons a0 l0
  have hO := hO.grown hk
  have z0 : H0.size ≤ q274 := e0 ▸ hz
  have hZ : ∀ z ∈ ([(q274, .byte, 65664), (q266, .byte, 32), (q258, .byte, 32), (q250, .byte, 32), (q242, .long, 16), (q234, .long, 16), (q226, .long, 16), (q218, .long, 16), (q210, .long, 16), (q202, .long, 16), (q194, .long, 16), (q186, .long, 16), (q178, .long, 16), (q170, .long, 16), (q162, .long, 16), (q154, .long, 16), (q146, .long, 16), (q138, .long, 16), (q130, .long, 16), (q122, .long, 16), (q114, .long, 16), (q106, .long, 16), (q98, .long, 16), (q90, .long, 16), (q82, .long, 16), (q74, .long, 256), (q65, .long, 16), (q57, .long, 256), (q48, .long, 16), (q40, .int, 6), (q32, .byte, 3200), (q23, .byte, 64), (q15, .byte, 65536), (q7, .byte, 65536)] : List (Nat × FieldType × Nat)), H0.size ≤ z.1 := fun z hz => (List.mem_cons.mp hz).elim (fun e => by rw [e]; exact z0) (hZ z)
  have hV : ∀ z ∈ ([(q274, .byte, 65664), (q266, .byte, 32), (q258, .byte, 32), (q250, .byte, 32), (q242, .long, 16), (q234, .long, 16), (q226, .long, 16), (q218, .long, 16), (q210, .long, 16), (q202, .long, 16), (q194, .long, 16), (q186, .long, 16), (q178, .long, 16), (q170, .long, 16), (q162, .long, 16), (q154, .long, 16), (q146, .long, 16), (q138, .long, 16), (q130, .long, 16), (q122, .long, 16), (q114, .long, 16), (q106, .long, 16), (q98, .long, 16), (q90, .long, 16), (q82, .long, 16), (q74, .long, 256), (q65, .long, 16), (q57, .long, 256), (q48, .long, 16)] : List (Nat × FieldType × Nat)), q40 < z.1 := fun z hz => (List.mem_cons.mp hz).elim (fun e => by rw [e]; exact u0) (hV z)
  refine sx_putF EE hin hO rfl i_M t_M tok_M n_M 38 (by decide) rfl fl_M_113 (ty := t_M 38) (by decide +kernel) rfl rfl (Nat.le_of_ble_eq_true rfl) hEo hS d_M_init_276 (fun H locs hO hJ hs hS => ?_)
  have hA := hA.kept hJ
  have hO : va_P D classes [(o, .inr (0, [.int 0, .ref q7, .ref q15, .ref q23, .ref q32, .int 0, .int 0, .int 0, .int 0, .ref q40, .ref q48, .ref q57, .ref q65, .ref q74, .ref q82, .ref q90, .ref q98, .ref q106, .ref q114, .ref q122, .ref q130, .ref q138, .ref q146, .ref q154, .ref q162, .ref q170, .ref q178, .ref q186, .ref q194, .ref q202, .ref q210, .ref q218, .ref q226, .ref q234, .ref q242, .ref q250, .ref q258, .ref q266, .ref q274, .null, .null, .null, .null, .null, .null, .null, .null, .null, .null, .null, .null, .null, .null]))] H := hO
  have hT := hT.kept (hs _ (Nat.ne_of_gt (Nat.lt_of_lt_of_le ho (hZ (q40, .int, 6) (by simp)))))
  refine lv_aload_n hx hb d_M_init_279 rfl (lv_at hl 0 rfl) ?_
  refine lv_bipush (v := nI 8) hx hb d_M_init_280 (by decide +kernel) ?_
  have hz := hS.1.1
  refine sx_newa (cells' := 35) (slots' := 200990) hx hb hG hts rfl (Or.inr (Or.inr rfl)) (by decide +kernel) (by decide) (by decide) rfl rfl (Nat.le_of_ble_eq_true rfl) (Nat.le_of_ble_eq_true rfl) hS d_M_init_282 (fun q282 H e0 a0 l0 y0 hJ hk hS => ?_)
  have u0 : q40 < q282 := e0 ▸ hT.lt
  have hT := hT.grown hk
  have hA := (hA.kept hJ).cons a0 l0
  have hO := hO.grown hk
  have z0 : H0.size ≤ q282 := e0 ▸ hz
  have hZ : ∀ z ∈ ([(q282, .int, 8), (q274, .byte, 65664), (q266, .byte, 32), (q258, .byte, 32), (q250, .byte, 32), (q242, .long, 16), (q234, .long, 16), (q226, .long, 16), (q218, .long, 16), (q210, .long, 16), (q202, .long, 16), (q194, .long, 16), (q186, .long, 16), (q178, .long, 16), (q170, .long, 16), (q162, .long, 16), (q154, .long, 16), (q146, .long, 16), (q138, .long, 16), (q130, .long, 16), (q122, .long, 16), (q114, .long, 16), (q106, .long, 16), (q98, .long, 16), (q90, .long, 16), (q82, .long, 16), (q74, .long, 256), (q65, .long, 16), (q57, .long, 256), (q48, .long, 16), (q40, .int, 6), (q32, .byte, 3200), (q23, .byte, 64), (q15, .byte, 65536), (q7, .byte, 65536)] : List (Nat × FieldType × Nat)), H0.size ≤ z.1 := fun z hz => (List.mem_cons.mp hz).elim (fun e => by rw [e]; exact z0) (hZ z)
  have hV : ∀ z ∈ ([(q282, .int, 8), (q274, .byte, 65664), (q266, .byte, 32), (q258, .byte, 32), (q250, .byte, 32), (q242, .long, 16), (q234, .long, 16), (q226, .long, 16), (q218, .long, 16), (q210, .long, 16), (q202, .long, 16), (q194, .long, 16), (q186, .long, 16), (q178, .long, 16), (q170, .long, 16), (q162, .long, 16), (q154, .long, 16), (q146, .long, 16), (q138, .long, 16), (q130, .long, 16), (q122, .long, 16), (q114, .long, 16), (q106, .long, 16), (q98, .long, 16), (q90, .long, 16), (q82, .long, 16), (q74, .long, 256), (q65, .long, 16), (q57, .long, 256), (q48, .long, 16)] : List (Nat × FieldType × Nat)), q40 < z.1 := fun z hz => (List.mem_cons.mp hz).elim (fun e => by rw [e]; exact u0) (hV z)
  refine lv_dup hx hb d_M_init_284 rfl ?_
  refine lv_iconst (v := nI 0) hx hb d_M_init_285 (by decide +kernel) ?_
  refine lv_ldc (v := nI 54253) hx hb hown (hts (.constant R_M 116 (nI 54253)) (by decide +kernel)) d_M_init_286 ?_
  refine sx_iast (E := fun z => z = q282) (F := E) (H0 := H) hx hb hG ⟨sx_J.rf, fun z h => h ▸ hEn _ z0, hS.2.2⟩ (show sx_A g .int H q282 8 from (hA (q282, .int, 8) (List.mem_cons_self)).1) rfl (sx_in (by decide) (by decide)) d_M_init_288 (fun H locs hS1 => ?_)
  have hA := hA.kept hS1.1
  have hO := hS1.1.ob (fun e => absurd z0 (by rw [← e]; exact Nat.not_le.mpr ho)) hO
  have hS : sx_S g E E H0 H locs := ⟨hS.1.tr (hS1.1.mono (fun z h => h ▸ hEn _ z0)), fun _ h => h, hS1.2.2⟩
  have hT := hT.kept (hS1.1.2.1 _ hT.lt (Nat.ne_of_lt u0))
  refine lv_dup hx hb d_M_init_289 rfl ?_
  refine lv_iconst (v := nI 1) hx hb d_M_init_290 (by decide +kernel) ?_
  refine lv_sipush (v := nI 23797) hx hb d_M_init_291 (by decide +kernel) ?_
  refine sx_iast (E := fun z => z = q282) (F := E) (H0 := H) hx hb hG ⟨sx_J.rf, fun z h => h ▸ hEn _ z0, hS.2.2⟩ (show sx_A g .int H q282 8 from (hA (q282, .int, 8) (List.mem_cons_self)).1) rfl (sx_in (by decide) (by decide)) d_M_init_294 (fun H locs hS1 => ?_)
  have hA := hA.kept hS1.1
  have hO := hS1.1.ob (fun e => absurd z0 (by rw [← e]; exact Nat.not_le.mpr ho)) hO
  have hS : sx_S g E E H0 H locs := ⟨hS.1.tr (hS1.1.mono (fun z h => h ▸ hEn _ z0)), fun _ h => h, hS1.2.2⟩
  have hT := hT.kept (hS1.1.2.1 _ hT.lt (Nat.ne_of_lt u0))
  refine lv_dup hx hb d_M_init_295 rfl ?_
  refine lv_iconst (v := nI 2) hx hb d_M_init_296 (by decide +kernel) ?_
  refine lv_sipush (v := nI 25370) hx hb d_M_init_297 (by decide +kernel) ?_
  refine sx_iast (E := fun z => z = q282) (F := E) (H0 := H) hx hb hG ⟨sx_J.rf, fun z h => h ▸ hEn _ z0, hS.2.2⟩ (show sx_A g .int H q282 8 from (hA (q282, .int, 8) (List.mem_cons_self)).1) rfl (sx_in (by decide) (by decide)) d_M_init_300 (fun H locs hS1 => ?_)
  have hA := hA.kept hS1.1
  have hO := hS1.1.ob (fun e => absurd z0 (by rw [← e]; exact Nat.not_le.mpr ho)) hO
  have hS : sx_S g E E H0 H locs := ⟨hS.1.tr (hS1.1.mono (fun z h => h ▸ hEn _ z0)), fun _ h => h, hS1.2.2⟩
  have hT := hT.kept (hS1.1.2.1 _ hT.lt (Nat.ne_of_lt u0))
  refine lv_dup hx hb d_M_init_301 rfl ?_
  refine lv_iconst (v := nI 3) hx hb d_M_init_302 (by decide +kernel) ?_
  refine lv_sipush (v := nI 22546) hx hb d_M_init_303 (by decide +kernel) ?_
  refine sx_iast (E := fun z => z = q282) (F := E) (H0 := H) hx hb hG ⟨sx_J.rf, fun z h => h ▸ hEn _ z0, hS.2.2⟩ (show sx_A g .int H q282 8 from (hA (q282, .int, 8) (List.mem_cons_self)).1) rfl (sx_in (by decide) (by decide)) d_M_init_306 (fun H locs hS1 => ?_)
  have hA := hA.kept hS1.1
  have hO := hS1.1.ob (fun e => absurd z0 (by rw [← e]; exact Nat.not_le.mpr ho)) hO
  have hS : sx_S g E E H0 H locs := ⟨hS.1.tr (hS1.1.mono (fun z h => h ▸ hEn _ z0)), fun _ h => h, hS1.2.2⟩
  have hT := hT.kept (hS1.1.2.1 _ hT.lt (Nat.ne_of_lt u0))
  refine lv_dup hx hb d_M_init_307 rfl ?_
  refine lv_iconst (v := nI 4) hx hb d_M_init_308 (by decide +kernel) ?_
  refine lv_ldc (v := nI 40150) hx hb hown (hts (.constant R_M 117 (nI 40150)) (by decide +kernel)) d_M_init_309 ?_
  refine sx_iast (E := fun z => z = q282) (F := E) (H0 := H) hx hb hG ⟨sx_J.rf, fun z h => h ▸ hEn _ z0, hS.2.2⟩ (show sx_A g .int H q282 8 from (hA (q282, .int, 8) (List.mem_cons_self)).1) rfl (sx_in (by decide) (by decide)) d_M_init_311 (fun H locs hS1 => ?_)
  have hA := hA.kept hS1.1
  have hO := hS1.1.ob (fun e => absurd z0 (by rw [← e]; exact Nat.not_le.mpr ho)) hO
  have hS : sx_S g E E H0 H locs := ⟨hS.1.tr (hS1.1.mono (fun z h => h ▸ hEn _ z0)), fun _ h => h, hS1.2.2⟩
  have hT := hT.kept (hS1.1.2.1 _ hT.lt (Nat.ne_of_lt u0))
  refine lv_dup hx hb d_M_init_312 rfl ?_
  refine lv_iconst (v := nI 5) hx hb d_M_init_313 (by decide +kernel) ?_
  refine lv_ldc (v := nI 41719) hx hb hown (hts (.constant R_M 118 (nI 41719)) (by decide +kernel)) d_M_init_314 ?_
  refine sx_iast (E := fun z => z = q282) (F := E) (H0 := H) hx hb hG ⟨sx_J.rf, fun z h => h ▸ hEn _ z0, hS.2.2⟩ (show sx_A g .int H q282 8 from (hA (q282, .int, 8) (List.mem_cons_self)).1) rfl (sx_in (by decide) (by decide)) d_M_init_316 (fun H locs hS1 => ?_)
  have hA := hA.kept hS1.1
  have hO := hS1.1.ob (fun e => absurd z0 (by rw [← e]; exact Nat.not_le.mpr ho)) hO
  have hS : sx_S g E E H0 H locs := ⟨hS.1.tr (hS1.1.mono (fun z h => h ▸ hEn _ z0)), fun _ h => h, hS1.2.2⟩
  have hT := hT.kept (hS1.1.2.1 _ hT.lt (Nat.ne_of_lt u0))
  refine lv_dup hx hb d_M_init_317 rfl ?_
  refine lv_bipush (v := nI 6) hx hb d_M_init_318 (by decide +kernel) ?_
  refine lv_ldc (v := nI 63966) hx hb hown (hts (.constant R_M 119 (nI 63966)) (by decide +kernel)) d_M_init_320 ?_
  refine sx_iast (E := fun z => z = q282) (F := E) (H0 := H) hx hb hG ⟨sx_J.rf, fun z h => h ▸ hEn _ z0, hS.2.2⟩ (show sx_A g .int H q282 8 from (hA (q282, .int, 8) (List.mem_cons_self)).1) rfl (sx_in (by decide) (by decide)) d_M_init_322 (fun H locs hS1 => ?_)
  have hA := hA.kept hS1.1
  have hO := hS1.1.ob (fun e => absurd z0 (by rw [← e]; exact Nat.not_le.mpr ho)) hO
  have hS : sx_S g E E H0 H locs := ⟨hS.1.tr (hS1.1.mono (fun z h => h ▸ hEn _ z0)), fun _ h => h, hS1.2.2⟩
  have hT := hT.kept (hS1.1.2.1 _ hT.lt (Nat.ne_of_lt u0))
  refine lv_dup hx hb d_M_init_323 rfl ?_
  refine lv_bipush (v := nI 7) hx hb d_M_init_324 (by decide +kernel) ?_
  refine lv_sipush (v := nI 5342) hx hb d_M_init_326 (by decide +kernel) ?_
  refine sx_iast (E := fun z => z = q282) (F := E) (H0 := H) hx hb hG ⟨sx_J.rf, fun z h => h ▸ hEn _ z0, hS.2.2⟩ (show sx_A g .int H q282 8 from (hA (q282, .int, 8) (List.mem_cons_self)).1) rfl (sx_in (by decide) (by decide)) d_M_init_329 (fun H locs hS1 => ?_)
  have hA := hA.kept hS1.1
  have hO := hS1.1.ob (fun e => absurd z0 (by rw [← e]; exact Nat.not_le.mpr ho)) hO
  have hS : sx_S g E E H0 H locs := ⟨hS.1.tr (hS1.1.mono (fun z h => h ▸ hEn _ z0)), fun _ h => h, hS1.2.2⟩
  have hT := hT.kept (hS1.1.2.1 _ hT.lt (Nat.ne_of_lt u0))
  refine sx_putF EE hin hO rfl i_M t_M tok_M n_M 39 (by decide) rfl fl_M_120 (ty := t_M 39) (by decide +kernel) rfl rfl (Nat.le_of_ble_eq_true rfl) hEo hS d_M_init_330 (fun H locs hO hJ hs hS => ?_)
  have hA := hA.kept hJ
  have hO : va_P D classes [(o, .inr (0, [.int 0, .ref q7, .ref q15, .ref q23, .ref q32, .int 0, .int 0, .int 0, .int 0, .ref q40, .ref q48, .ref q57, .ref q65, .ref q74, .ref q82, .ref q90, .ref q98, .ref q106, .ref q114, .ref q122, .ref q130, .ref q138, .ref q146, .ref q154, .ref q162, .ref q170, .ref q178, .ref q186, .ref q194, .ref q202, .ref q210, .ref q218, .ref q226, .ref q234, .ref q242, .ref q250, .ref q258, .ref q266, .ref q274, .ref q282, .null, .null, .null, .null, .null, .null, .null, .null, .null, .null, .null, .null, .null]))] H := hO
  have hT := hT.kept (hs _ (Nat.ne_of_gt (Nat.lt_of_lt_of_le ho (hZ (q40, .int, 6) (by simp)))))
  refine lv_aload_n hx hb d_M_init_333 rfl (lv_at hl 0 rfl) ?_
  refine lv_bipush (v := nI 32) hx hb d_M_init_334 (by decide +kernel) ?_
  have hz := hS.1.1
  refine sx_newa (cells' := 36) (slots' := 201022) hx hb hG hts rfl (Or.inl rfl) (by decide +kernel) (by decide) (by decide) rfl rfl (Nat.le_of_ble_eq_true rfl) (Nat.le_of_ble_eq_true rfl) hS d_M_init_336 (fun q336 H e0 a0 l0 y0 hJ hk hS => ?_)
  have u0 : q40 < q336 := e0 ▸ hT.lt
  have hT := hT.grown hk
  have hA := (hA.kept hJ).cons a0 l0
  have hO := hO.grown hk
  have z0 : H0.size ≤ q336 := e0 ▸ hz
  have hZ : ∀ z ∈ ([(q336, .long, 32), (q282, .int, 8), (q274, .byte, 65664), (q266, .byte, 32), (q258, .byte, 32), (q250, .byte, 32), (q242, .long, 16), (q234, .long, 16), (q226, .long, 16), (q218, .long, 16), (q210, .long, 16), (q202, .long, 16), (q194, .long, 16), (q186, .long, 16), (q178, .long, 16), (q170, .long, 16), (q162, .long, 16), (q154, .long, 16), (q146, .long, 16), (q138, .long, 16), (q130, .long, 16), (q122, .long, 16), (q114, .long, 16), (q106, .long, 16), (q98, .long, 16), (q90, .long, 16), (q82, .long, 16), (q74, .long, 256), (q65, .long, 16), (q57, .long, 256), (q48, .long, 16), (q40, .int, 6), (q32, .byte, 3200), (q23, .byte, 64), (q15, .byte, 65536), (q7, .byte, 65536)] : List (Nat × FieldType × Nat)), H0.size ≤ z.1 := fun z hz => (List.mem_cons.mp hz).elim (fun e => by rw [e]; exact z0) (hZ z)
  have hV : ∀ z ∈ ([(q336, .long, 32), (q282, .int, 8), (q274, .byte, 65664), (q266, .byte, 32), (q258, .byte, 32), (q250, .byte, 32), (q242, .long, 16), (q234, .long, 16), (q226, .long, 16), (q218, .long, 16), (q210, .long, 16), (q202, .long, 16), (q194, .long, 16), (q186, .long, 16), (q178, .long, 16), (q170, .long, 16), (q162, .long, 16), (q154, .long, 16), (q146, .long, 16), (q138, .long, 16), (q130, .long, 16), (q122, .long, 16), (q114, .long, 16), (q106, .long, 16), (q98, .long, 16), (q90, .long, 16), (q82, .long, 16), (q74, .long, 256), (q65, .long, 16), (q57, .long, 256), (q48, .long, 16)] : List (Nat × FieldType × Nat)), q40 < z.1 := fun z hz => (List.mem_cons.mp hz).elim (fun e => by rw [e]; exact u0) (hV z)
  refine sx_putF EE hin hO rfl i_M t_M tok_M n_M 40 (by decide) rfl fl_M_123 (ty := t_M 40) (by decide +kernel) rfl rfl (Nat.le_of_ble_eq_true rfl) hEo hS d_M_init_338 (fun H locs hO hJ hs hS => ?_)
  have hA := hA.kept hJ
  have hO : va_P D classes [(o, .inr (0, [.int 0, .ref q7, .ref q15, .ref q23, .ref q32, .int 0, .int 0, .int 0, .int 0, .ref q40, .ref q48, .ref q57, .ref q65, .ref q74, .ref q82, .ref q90, .ref q98, .ref q106, .ref q114, .ref q122, .ref q130, .ref q138, .ref q146, .ref q154, .ref q162, .ref q170, .ref q178, .ref q186, .ref q194, .ref q202, .ref q210, .ref q218, .ref q226, .ref q234, .ref q242, .ref q250, .ref q258, .ref q266, .ref q274, .ref q282, .ref q336, .null, .null, .null, .null, .null, .null, .null, .null, .null, .null, .null, .null]))] H := hO
  have hT := hT.kept (hs _ (Nat.ne_of_gt (Nat.lt_of_lt_of_le ho (hZ (q40, .int, 6) (by simp)))))
  refine lv_aload_n hx hb d_M_init_341 rfl (lv_at hl 0 rfl) ?_
  refine lv_bipush (v := nI 18) hx hb d_M_init_342 (by decide +kernel) ?_
  have hz := hS.1.1
  refine sx_newa (cells' := 37) (slots' := 201040) hx hb hG hts rfl (Or.inl rfl) (by decide +kernel) (by decide) (by decide) rfl rfl (Nat.le_of_ble_eq_true rfl) (Nat.le_of_ble_eq_true rfl) hS d_M_init_344 (fun q344 H e0 a0 l0 y0 hJ hk hS => ?_)
  have u0 : q40 < q344 := e0 ▸ hT.lt
  have hT := hT.grown hk
  have hA := (hA.kept hJ).cons a0 l0
  have hO := hO.grown hk
  have z0 : H0.size ≤ q344 := e0 ▸ hz
  have hZ : ∀ z ∈ ([(q344, .long, 18), (q336, .long, 32), (q282, .int, 8), (q274, .byte, 65664), (q266, .byte, 32), (q258, .byte, 32), (q250, .byte, 32), (q242, .long, 16), (q234, .long, 16), (q226, .long, 16), (q218, .long, 16), (q210, .long, 16), (q202, .long, 16), (q194, .long, 16), (q186, .long, 16), (q178, .long, 16), (q170, .long, 16), (q162, .long, 16), (q154, .long, 16), (q146, .long, 16), (q138, .long, 16), (q130, .long, 16), (q122, .long, 16), (q114, .long, 16), (q106, .long, 16), (q98, .long, 16), (q90, .long, 16), (q82, .long, 16), (q74, .long, 256), (q65, .long, 16), (q57, .long, 256), (q48, .long, 16), (q40, .int, 6), (q32, .byte, 3200), (q23, .byte, 64), (q15, .byte, 65536), (q7, .byte, 65536)] : List (Nat × FieldType × Nat)), H0.size ≤ z.1 := fun z hz => (List.mem_cons.mp hz).elim (fun e => by rw [e]; exact z0) (hZ z)
  have hV : ∀ z ∈ ([(q344, .long, 18), (q336, .long, 32), (q282, .int, 8), (q274, .byte, 65664), (q266, .byte, 32), (q258, .byte, 32), (q250, .byte, 32), (q242, .long, 16), (q234, .long, 16), (q226, .long, 16), (q218, .long, 16), (q210, .long, 16), (q202, .long, 16), (q194, .long, 16), (q186, .long, 16), (q178, .long, 16), (q170, .long, 16), (q162, .long, 16), (q154, .long, 16), (q146, .long, 16), (q138, .long, 16), (q130, .long, 16), (q122, .long, 16), (q114, .long, 16), (q106, .long, 16), (q98, .long, 16), (q90, .long, 16), (q82, .long, 16), (q74, .long, 256), (q65, .long, 16), (q57, .long, 256), (q48, .long, 16)] : List (Nat × FieldType × Nat)), q40 < z.1 := fun z hz => (List.mem_cons.mp hz).elim (fun e => by rw [e]; exact u0) (hV z)
  refine sx_putF EE hin hO rfl i_M t_M tok_M n_M 41 (by decide) rfl fl_M_126 (ty := t_M 41) (by decide +kernel) rfl rfl (Nat.le_of_ble_eq_true rfl) hEo hS d_M_init_346 (fun H locs hO hJ hs hS => ?_)
  have hA := hA.kept hJ
  have hO : va_P D classes [(o, .inr (0, [.int 0, .ref q7, .ref q15, .ref q23, .ref q32, .int 0, .int 0, .int 0, .int 0, .ref q40, .ref q48, .ref q57, .ref q65, .ref q74, .ref q82, .ref q90, .ref q98, .ref q106, .ref q114, .ref q122, .ref q130, .ref q138, .ref q146, .ref q154, .ref q162, .ref q170, .ref q178, .ref q186, .ref q194, .ref q202, .ref q210, .ref q218, .ref q226, .ref q234, .ref q242, .ref q250, .ref q258, .ref q266, .ref q274, .ref q282, .ref q336, .ref q344, .null, .null, .null, .null, .null, .null, .null, .null, .null, .null, .null]))] H := hO
  have hT := hT.kept (hs _ (Nat.ne_of_gt (Nat.lt_of_lt_of_le ho (hZ (q40, .int, 6) (by simp)))))
  refine lv_aload_n hx hb d_M_init_349 rfl (lv_at hl 0 rfl) ?_
  refine lv_bipush (v := nI 16) hx hb d_M_init_350 (by decide +kernel) ?_
  have hz := hS.1.1
  refine sx_newa (cells' := 38) (slots' := 201056) hx hb hG hts rfl (Or.inl rfl) (by decide +kernel) (by decide) (by decide) rfl rfl (Nat.le_of_ble_eq_true rfl) (Nat.le_of_ble_eq_true rfl) hS d_M_init_352 (fun q352 H e0 a0 l0 y0 hJ hk hS => ?_)
  have u0 : q40 < q352 := e0 ▸ hT.lt
  have hT := hT.grown hk
  have hA := (hA.kept hJ).cons a0 l0
  have hO := hO.grown hk
  have z0 : H0.size ≤ q352 := e0 ▸ hz
  have hZ : ∀ z ∈ ([(q352, .long, 16), (q344, .long, 18), (q336, .long, 32), (q282, .int, 8), (q274, .byte, 65664), (q266, .byte, 32), (q258, .byte, 32), (q250, .byte, 32), (q242, .long, 16), (q234, .long, 16), (q226, .long, 16), (q218, .long, 16), (q210, .long, 16), (q202, .long, 16), (q194, .long, 16), (q186, .long, 16), (q178, .long, 16), (q170, .long, 16), (q162, .long, 16), (q154, .long, 16), (q146, .long, 16), (q138, .long, 16), (q130, .long, 16), (q122, .long, 16), (q114, .long, 16), (q106, .long, 16), (q98, .long, 16), (q90, .long, 16), (q82, .long, 16), (q74, .long, 256), (q65, .long, 16), (q57, .long, 256), (q48, .long, 16), (q40, .int, 6), (q32, .byte, 3200), (q23, .byte, 64), (q15, .byte, 65536), (q7, .byte, 65536)] : List (Nat × FieldType × Nat)), H0.size ≤ z.1 := fun z hz => (List.mem_cons.mp hz).elim (fun e => by rw [e]; exact z0) (hZ z)
  have hV : ∀ z ∈ ([(q352, .long, 16), (q344, .long, 18), (q336, .long, 32), (q282, .int, 8), (q274, .byte, 65664), (q266, .byte, 32), (q258, .byte, 32), (q250, .byte, 32), (q242, .long, 16), (q234, .long, 16), (q226, .long, 16), (q218, .long, 16), (q210, .long, 16), (q202, .long, 16), (q194, .long, 16), (q186, .long, 16), (q178, .long, 16), (q170, .long, 16), (q162, .long, 16), (q154, .long, 16), (q146, .long, 16), (q138, .long, 16), (q130, .long, 16), (q122, .long, 16), (q114, .long, 16), (q106, .long, 16), (q98, .long, 16), (q90, .long, 16), (q82, .long, 16), (q74, .long, 256), (q65, .long, 16), (q57, .long, 256), (q48, .long, 16)] : List (Nat × FieldType × Nat)), q40 < z.1 := fun z hz => (List.mem_cons.mp hz).elim (fun e => by rw [e]; exact u0) (hV z)
  refine sx_putF EE hin hO rfl i_M t_M tok_M n_M 42 (by decide) rfl fl_M_129 (ty := t_M 42) (by decide +kernel) rfl rfl (Nat.le_of_ble_eq_true rfl) hEo hS d_M_init_354 (fun H locs hO hJ hs hS => ?_)
  have hA := hA.kept hJ
  have hO : va_P D classes [(o, .inr (0, [.int 0, .ref q7, .ref q15, .ref q23, .ref q32, .int 0, .int 0, .int 0, .int 0, .ref q40, .ref q48, .ref q57, .ref q65, .ref q74, .ref q82, .ref q90, .ref q98, .ref q106, .ref q114, .ref q122, .ref q130, .ref q138, .ref q146, .ref q154, .ref q162, .ref q170, .ref q178, .ref q186, .ref q194, .ref q202, .ref q210, .ref q218, .ref q226, .ref q234, .ref q242, .ref q250, .ref q258, .ref q266, .ref q274, .ref q282, .ref q336, .ref q344, .ref q352, .null, .null, .null, .null, .null, .null, .null, .null, .null, .null]))] H := hO
  have hT := hT.kept (hs _ (Nat.ne_of_gt (Nat.lt_of_lt_of_le ho (hZ (q40, .int, 6) (by simp)))))
  refine lv_aload_n hx hb d_M_init_357 rfl (lv_at hl 0 rfl) ?_
  refine lv_bipush (v := nI 16) hx hb d_M_init_358 (by decide +kernel) ?_
  have hz := hS.1.1
  refine sx_newa (cells' := 39) (slots' := 201072) hx hb hG hts rfl (Or.inl rfl) (by decide +kernel) (by decide) (by decide) rfl rfl (Nat.le_of_ble_eq_true rfl) (Nat.le_of_ble_eq_true rfl) hS d_M_init_360 (fun q360 H e0 a0 l0 y0 hJ hk hS => ?_)
  have u0 : q40 < q360 := e0 ▸ hT.lt
  have hT := hT.grown hk
  have hA := (hA.kept hJ).cons a0 l0
  have hO := hO.grown hk
  have z0 : H0.size ≤ q360 := e0 ▸ hz
  have hZ : ∀ z ∈ ([(q360, .long, 16), (q352, .long, 16), (q344, .long, 18), (q336, .long, 32), (q282, .int, 8), (q274, .byte, 65664), (q266, .byte, 32), (q258, .byte, 32), (q250, .byte, 32), (q242, .long, 16), (q234, .long, 16), (q226, .long, 16), (q218, .long, 16), (q210, .long, 16), (q202, .long, 16), (q194, .long, 16), (q186, .long, 16), (q178, .long, 16), (q170, .long, 16), (q162, .long, 16), (q154, .long, 16), (q146, .long, 16), (q138, .long, 16), (q130, .long, 16), (q122, .long, 16), (q114, .long, 16), (q106, .long, 16), (q98, .long, 16), (q90, .long, 16), (q82, .long, 16), (q74, .long, 256), (q65, .long, 16), (q57, .long, 256), (q48, .long, 16), (q40, .int, 6), (q32, .byte, 3200), (q23, .byte, 64), (q15, .byte, 65536), (q7, .byte, 65536)] : List (Nat × FieldType × Nat)), H0.size ≤ z.1 := fun z hz => (List.mem_cons.mp hz).elim (fun e => by rw [e]; exact z0) (hZ z)
  have hV : ∀ z ∈ ([(q360, .long, 16), (q352, .long, 16), (q344, .long, 18), (q336, .long, 32), (q282, .int, 8), (q274, .byte, 65664), (q266, .byte, 32), (q258, .byte, 32), (q250, .byte, 32), (q242, .long, 16), (q234, .long, 16), (q226, .long, 16), (q218, .long, 16), (q210, .long, 16), (q202, .long, 16), (q194, .long, 16), (q186, .long, 16), (q178, .long, 16), (q170, .long, 16), (q162, .long, 16), (q154, .long, 16), (q146, .long, 16), (q138, .long, 16), (q130, .long, 16), (q122, .long, 16), (q114, .long, 16), (q106, .long, 16), (q98, .long, 16), (q90, .long, 16), (q82, .long, 16), (q74, .long, 256), (q65, .long, 16), (q57, .long, 256), (q48, .long, 16)] : List (Nat × FieldType × Nat)), q40 < z.1 := fun z hz => (List.mem_cons.mp hz).elim (fun e => by rw [e]; exact u0) (hV z)
  refine sx_putF EE hin hO rfl i_M t_M tok_M n_M 43 (by decide) rfl fl_M_132 (ty := t_M 43) (by decide +kernel) rfl rfl (Nat.le_of_ble_eq_true rfl) hEo hS d_M_init_362 (fun H locs hO hJ hs hS => ?_)
  have hA := hA.kept hJ
  have hO : va_P D classes [(o, .inr (0, [.int 0, .ref q7, .ref q15, .ref q23, .ref q32, .int 0, .int 0, .int 0, .int 0, .ref q40, .ref q48, .ref q57, .ref q65, .ref q74, .ref q82, .ref q90, .ref q98, .ref q106, .ref q114, .ref q122, .ref q130, .ref q138, .ref q146, .ref q154, .ref q162, .ref q170, .ref q178, .ref q186, .ref q194, .ref q202, .ref q210, .ref q218, .ref q226, .ref q234, .ref q242, .ref q250, .ref q258, .ref q266, .ref q274, .ref q282, .ref q336, .ref q344, .ref q352, .ref q360, .null, .null, .null, .null, .null, .null, .null, .null, .null]))] H := hO
  have hT := hT.kept (hs _ (Nat.ne_of_gt (Nat.lt_of_lt_of_le ho (hZ (q40, .int, 6) (by simp)))))
  refine lv_aload_n hx hb d_M_init_365 rfl (lv_at hl 0 rfl) ?_
  refine lv_bipush (v := nI 17) hx hb d_M_init_366 (by decide +kernel) ?_
  have hz := hS.1.1
  refine sx_newa (cells' := 40) (slots' := 201089) hx hb hG hts rfl (Or.inl rfl) (by decide +kernel) (by decide) (by decide) rfl rfl (Nat.le_of_ble_eq_true rfl) (Nat.le_of_ble_eq_true rfl) hS d_M_init_368 (fun q368 H e0 a0 l0 y0 hJ hk hS => ?_)
  have u0 : q40 < q368 := e0 ▸ hT.lt
  have hT := hT.grown hk
  have hA := (hA.kept hJ).cons a0 l0
  have hO := hO.grown hk
  have z0 : H0.size ≤ q368 := e0 ▸ hz
  have hZ : ∀ z ∈ ([(q368, .long, 17), (q360, .long, 16), (q352, .long, 16), (q344, .long, 18), (q336, .long, 32), (q282, .int, 8), (q274, .byte, 65664), (q266, .byte, 32), (q258, .byte, 32), (q250, .byte, 32), (q242, .long, 16), (q234, .long, 16), (q226, .long, 16), (q218, .long, 16), (q210, .long, 16), (q202, .long, 16), (q194, .long, 16), (q186, .long, 16), (q178, .long, 16), (q170, .long, 16), (q162, .long, 16), (q154, .long, 16), (q146, .long, 16), (q138, .long, 16), (q130, .long, 16), (q122, .long, 16), (q114, .long, 16), (q106, .long, 16), (q98, .long, 16), (q90, .long, 16), (q82, .long, 16), (q74, .long, 256), (q65, .long, 16), (q57, .long, 256), (q48, .long, 16), (q40, .int, 6), (q32, .byte, 3200), (q23, .byte, 64), (q15, .byte, 65536), (q7, .byte, 65536)] : List (Nat × FieldType × Nat)), H0.size ≤ z.1 := fun z hz => (List.mem_cons.mp hz).elim (fun e => by rw [e]; exact z0) (hZ z)
  have hV : ∀ z ∈ ([(q368, .long, 17), (q360, .long, 16), (q352, .long, 16), (q344, .long, 18), (q336, .long, 32), (q282, .int, 8), (q274, .byte, 65664), (q266, .byte, 32), (q258, .byte, 32), (q250, .byte, 32), (q242, .long, 16), (q234, .long, 16), (q226, .long, 16), (q218, .long, 16), (q210, .long, 16), (q202, .long, 16), (q194, .long, 16), (q186, .long, 16), (q178, .long, 16), (q170, .long, 16), (q162, .long, 16), (q154, .long, 16), (q146, .long, 16), (q138, .long, 16), (q130, .long, 16), (q122, .long, 16), (q114, .long, 16), (q106, .long, 16), (q98, .long, 16), (q90, .long, 16), (q82, .long, 16), (q74, .long, 256), (q65, .long, 16), (q57, .long, 256), (q48, .long, 16)] : List (Nat × FieldType × Nat)), q40 < z.1 := fun z hz => (List.mem_cons.mp hz).elim (fun e => by rw [e]; exact u0) (hV z)
  refine sx_putF EE hin hO rfl i_M t_M tok_M n_M 44 (by decide) rfl fl_M_135 (ty := t_M 44) (by decide +kernel) rfl rfl (Nat.le_of_ble_eq_true rfl) hEo hS d_M_init_370 (fun H locs hO hJ hs hS => ?_)
  have hA := hA.kept hJ
  have hO : va_P D classes [(o, .inr (0, [.int 0, .ref q7, .ref q15, .ref q23, .ref q32, .int 0, .int 0, .int 0, .int 0, .ref q40, .ref q48, .ref q57, .ref q65, .ref q74, .ref q82, .ref q90, .ref q98, .ref q106, .ref q114, .ref q122, .ref q130, .ref q138, .ref q146, .ref q154, .ref q162, .ref q170, .ref q178, .ref q186, .ref q194, .ref q202, .ref q210, .ref q218, .ref q226, .ref q234, .ref q242, .ref q250, .ref q258, .ref q266, .ref q274, .ref q282, .ref q336, .ref q344, .ref q352, .ref q360, .ref q368, .null, .null, .null, .null, .null, .null, .null, .null]))] H := hO
  have hT := hT.kept (hs _ (Nat.ne_of_gt (Nat.lt_of_lt_of_le ho (hZ (q40, .int, 6) (by simp)))))
  refine lv_aload_n hx hb d_M_init_373 rfl (lv_at hl 0 rfl) ?_
  refine lv_bipush (v := nI 17) hx hb d_M_init_374 (by decide +kernel) ?_
  have hz := hS.1.1
  refine sx_newa (cells' := 41) (slots' := 201106) hx hb hG hts rfl (Or.inl rfl) (by decide +kernel) (by decide) (by decide) rfl rfl (Nat.le_of_ble_eq_true rfl) (Nat.le_of_ble_eq_true rfl) hS d_M_init_376 (fun q376 H e0 a0 l0 y0 hJ hk hS => ?_)
  have u0 : q40 < q376 := e0 ▸ hT.lt
  have hT := hT.grown hk
  have hA := (hA.kept hJ).cons a0 l0
  have hO := hO.grown hk
  have z0 : H0.size ≤ q376 := e0 ▸ hz
  have hZ : ∀ z ∈ ([(q376, .long, 17), (q368, .long, 17), (q360, .long, 16), (q352, .long, 16), (q344, .long, 18), (q336, .long, 32), (q282, .int, 8), (q274, .byte, 65664), (q266, .byte, 32), (q258, .byte, 32), (q250, .byte, 32), (q242, .long, 16), (q234, .long, 16), (q226, .long, 16), (q218, .long, 16), (q210, .long, 16), (q202, .long, 16), (q194, .long, 16), (q186, .long, 16), (q178, .long, 16), (q170, .long, 16), (q162, .long, 16), (q154, .long, 16), (q146, .long, 16), (q138, .long, 16), (q130, .long, 16), (q122, .long, 16), (q114, .long, 16), (q106, .long, 16), (q98, .long, 16), (q90, .long, 16), (q82, .long, 16), (q74, .long, 256), (q65, .long, 16), (q57, .long, 256), (q48, .long, 16), (q40, .int, 6), (q32, .byte, 3200), (q23, .byte, 64), (q15, .byte, 65536), (q7, .byte, 65536)] : List (Nat × FieldType × Nat)), H0.size ≤ z.1 := fun z hz => (List.mem_cons.mp hz).elim (fun e => by rw [e]; exact z0) (hZ z)
  have hV : ∀ z ∈ ([(q376, .long, 17), (q368, .long, 17), (q360, .long, 16), (q352, .long, 16), (q344, .long, 18), (q336, .long, 32), (q282, .int, 8), (q274, .byte, 65664), (q266, .byte, 32), (q258, .byte, 32), (q250, .byte, 32), (q242, .long, 16), (q234, .long, 16), (q226, .long, 16), (q218, .long, 16), (q210, .long, 16), (q202, .long, 16), (q194, .long, 16), (q186, .long, 16), (q178, .long, 16), (q170, .long, 16), (q162, .long, 16), (q154, .long, 16), (q146, .long, 16), (q138, .long, 16), (q130, .long, 16), (q122, .long, 16), (q114, .long, 16), (q106, .long, 16), (q98, .long, 16), (q90, .long, 16), (q82, .long, 16), (q74, .long, 256), (q65, .long, 16), (q57, .long, 256), (q48, .long, 16)] : List (Nat × FieldType × Nat)), q40 < z.1 := fun z hz => (List.mem_cons.mp hz).elim (fun e => by rw [e]; exact u0) (hV z)
  refine sx_putF EE hin hO rfl i_M t_M tok_M n_M 45 (by decide) rfl fl_M_138 (ty := t_M 45) (by decide +kernel) rfl rfl (Nat.le_of_ble_eq_true rfl) hEo hS d_M_init_378 (fun H locs hO hJ hs hS => ?_)
  have hA := hA.kept hJ
  have hO : va_P D classes [(o, .inr (0, [.int 0, .ref q7, .ref q15, .ref q23, .ref q32, .int 0, .int 0, .int 0, .int 0, .ref q40, .ref q48, .ref q57, .ref q65, .ref q74, .ref q82, .ref q90, .ref q98, .ref q106, .ref q114, .ref q122, .ref q130, .ref q138, .ref q146, .ref q154, .ref q162, .ref q170, .ref q178, .ref q186, .ref q194, .ref q202, .ref q210, .ref q218, .ref q226, .ref q234, .ref q242, .ref q250, .ref q258, .ref q266, .ref q274, .ref q282, .ref q336, .ref q344, .ref q352, .ref q360, .ref q368, .ref q376, .null, .null, .null, .null, .null, .null, .null]))] H := hO
  have hT := hT.kept (hs _ (Nat.ne_of_gt (Nat.lt_of_lt_of_le ho (hZ (q40, .int, 6) (by simp)))))
  refine lv_aload_n hx hb d_M_init_381 rfl (lv_at hl 0 rfl) ?_
  refine lv_bipush (v := nI 80) hx hb d_M_init_382 (by decide +kernel) ?_
  have hz := hS.1.1
  refine sx_newa (cells' := 42) (slots' := 201186) hx hb hG hts rfl (Or.inl rfl) (by decide +kernel) (by decide) (by decide) rfl rfl (Nat.le_of_ble_eq_true rfl) (Nat.le_of_ble_eq_true rfl) hS d_M_init_384 (fun q384 H e0 a0 l0 y0 hJ hk hS => ?_)
  have u0 : q40 < q384 := e0 ▸ hT.lt
  have hT := hT.grown hk
  have hA := (hA.kept hJ).cons a0 l0
  have hO := hO.grown hk
  have z0 : H0.size ≤ q384 := e0 ▸ hz
  have hZ : ∀ z ∈ ([(q384, .long, 80), (q376, .long, 17), (q368, .long, 17), (q360, .long, 16), (q352, .long, 16), (q344, .long, 18), (q336, .long, 32), (q282, .int, 8), (q274, .byte, 65664), (q266, .byte, 32), (q258, .byte, 32), (q250, .byte, 32), (q242, .long, 16), (q234, .long, 16), (q226, .long, 16), (q218, .long, 16), (q210, .long, 16), (q202, .long, 16), (q194, .long, 16), (q186, .long, 16), (q178, .long, 16), (q170, .long, 16), (q162, .long, 16), (q154, .long, 16), (q146, .long, 16), (q138, .long, 16), (q130, .long, 16), (q122, .long, 16), (q114, .long, 16), (q106, .long, 16), (q98, .long, 16), (q90, .long, 16), (q82, .long, 16), (q74, .long, 256), (q65, .long, 16), (q57, .long, 256), (q48, .long, 16), (q40, .int, 6), (q32, .byte, 3200), (q23, .byte, 64), (q15, .byte, 65536), (q7, .byte, 65536)] : List (Nat × FieldType × Nat)), H0.size ≤ z.1 := fun z hz => (List.mem_cons.mp hz).elim (fun e => by rw [e]; exact z0) (hZ z)
  have hV : ∀ z ∈ ([(q384, .long, 80), (q376, .long, 17), (q368, .long, 17), (q360, .long, 16), (q352, .long, 16), (q344, .long, 18), (q336, .long, 32), (q282, .int, 8), (q274, .byte, 65664), (q266, .byte, 32), (q258, .byte, 32), (q250, .byte, 32), (q242, .long, 16), (q234, .long, 16), (q226, .long, 16), (q218, .long, 16), (q210, .long, 16), (q202, .long, 16), (q194, .long, 16), (q186, .long, 16), (q178, .long, 16), (q170, .long, 16), (q162, .long, 16), (q154, .long, 16), (q146, .long, 16), (q138, .long, 16), (q130, .long, 16), (q122, .long, 16), (q114, .long, 16), (q106, .long, 16), (q98, .long, 16), (q90, .long, 16), (q82, .long, 16), (q74, .long, 256), (q65, .long, 16), (q57, .long, 256), (q48, .long, 16)] : List (Nat × FieldType × Nat)), q40 < z.1 := fun z hz => (List.mem_cons.mp hz).elim (fun e => by rw [e]; exact u0) (hV z)
  refine sx_putF EE hin hO rfl i_M t_M tok_M n_M 46 (by decide) rfl fl_M_141 (ty := t_M 46) (by decide +kernel) rfl rfl (Nat.le_of_ble_eq_true rfl) hEo hS d_M_init_386 (fun H locs hO hJ hs hS => ?_)
  have hA := hA.kept hJ
  have hO : va_P D classes [(o, .inr (0, [.int 0, .ref q7, .ref q15, .ref q23, .ref q32, .int 0, .int 0, .int 0, .int 0, .ref q40, .ref q48, .ref q57, .ref q65, .ref q74, .ref q82, .ref q90, .ref q98, .ref q106, .ref q114, .ref q122, .ref q130, .ref q138, .ref q146, .ref q154, .ref q162, .ref q170, .ref q178, .ref q186, .ref q194, .ref q202, .ref q210, .ref q218, .ref q226, .ref q234, .ref q242, .ref q250, .ref q258, .ref q266, .ref q274, .ref q282, .ref q336, .ref q344, .ref q352, .ref q360, .ref q368, .ref q376, .ref q384, .null, .null, .null, .null, .null, .null]))] H := hO
  have hT := hT.kept (hs _ (Nat.ne_of_gt (Nat.lt_of_lt_of_le ho (hZ (q40, .int, 6) (by simp)))))
  refine lv_aload_n hx hb d_M_init_389 rfl (lv_at hl 0 rfl) ?_
  refine lv_bipush (v := nI 8) hx hb d_M_init_390 (by decide +kernel) ?_
  have hz := hS.1.1
  refine sx_newa (cells' := 43) (slots' := 201194) hx hb hG hts rfl (Or.inl rfl) (by decide +kernel) (by decide) (by decide) rfl rfl (Nat.le_of_ble_eq_true rfl) (Nat.le_of_ble_eq_true rfl) hS d_M_init_392 (fun q392 H e0 a0 l0 y0 hJ hk hS => ?_)
  have u0 : q40 < q392 := e0 ▸ hT.lt
  have hT := hT.grown hk
  have hA := (hA.kept hJ).cons a0 l0
  have hO := hO.grown hk
  have z0 : H0.size ≤ q392 := e0 ▸ hz
  have hZ : ∀ z ∈ ([(q392, .long, 8), (q384, .long, 80), (q376, .long, 17), (q368, .long, 17), (q360, .long, 16), (q352, .long, 16), (q344, .long, 18), (q336, .long, 32), (q282, .int, 8), (q274, .byte, 65664), (q266, .byte, 32), (q258, .byte, 32), (q250, .byte, 32), (q242, .long, 16), (q234, .long, 16), (q226, .long, 16), (q218, .long, 16), (q210, .long, 16), (q202, .long, 16), (q194, .long, 16), (q186, .long, 16), (q178, .long, 16), (q170, .long, 16), (q162, .long, 16), (q154, .long, 16), (q146, .long, 16), (q138, .long, 16), (q130, .long, 16), (q122, .long, 16), (q114, .long, 16), (q106, .long, 16), (q98, .long, 16), (q90, .long, 16), (q82, .long, 16), (q74, .long, 256), (q65, .long, 16), (q57, .long, 256), (q48, .long, 16), (q40, .int, 6), (q32, .byte, 3200), (q23, .byte, 64), (q15, .byte, 65536), (q7, .byte, 65536)] : List (Nat × FieldType × Nat)), H0.size ≤ z.1 := fun z hz => (List.mem_cons.mp hz).elim (fun e => by rw [e]; exact z0) (hZ z)
  have hV : ∀ z ∈ ([(q392, .long, 8), (q384, .long, 80), (q376, .long, 17), (q368, .long, 17), (q360, .long, 16), (q352, .long, 16), (q344, .long, 18), (q336, .long, 32), (q282, .int, 8), (q274, .byte, 65664), (q266, .byte, 32), (q258, .byte, 32), (q250, .byte, 32), (q242, .long, 16), (q234, .long, 16), (q226, .long, 16), (q218, .long, 16), (q210, .long, 16), (q202, .long, 16), (q194, .long, 16), (q186, .long, 16), (q178, .long, 16), (q170, .long, 16), (q162, .long, 16), (q154, .long, 16), (q146, .long, 16), (q138, .long, 16), (q130, .long, 16), (q122, .long, 16), (q114, .long, 16), (q106, .long, 16), (q98, .long, 16), (q90, .long, 16), (q82, .long, 16), (q74, .long, 256), (q65, .long, 16), (q57, .long, 256), (q48, .long, 16)] : List (Nat × FieldType × Nat)), q40 < z.1 := fun z hz => (List.mem_cons.mp hz).elim (fun e => by rw [e]; exact u0) (hV z)
  refine sx_putF EE hin hO rfl i_M t_M tok_M n_M 47 (by decide) rfl fl_M_144 (ty := t_M 47) (by decide +kernel) rfl rfl (Nat.le_of_ble_eq_true rfl) hEo hS d_M_init_394 (fun H locs hO hJ hs hS => ?_)
  have hA := hA.kept hJ
  have hO : va_P D classes [(o, .inr (0, [.int 0, .ref q7, .ref q15, .ref q23, .ref q32, .int 0, .int 0, .int 0, .int 0, .ref q40, .ref q48, .ref q57, .ref q65, .ref q74, .ref q82, .ref q90, .ref q98, .ref q106, .ref q114, .ref q122, .ref q130, .ref q138, .ref q146, .ref q154, .ref q162, .ref q170, .ref q178, .ref q186, .ref q194, .ref q202, .ref q210, .ref q218, .ref q226, .ref q234, .ref q242, .ref q250, .ref q258, .ref q266, .ref q274, .ref q282, .ref q336, .ref q344, .ref q352, .ref q360, .ref q368, .ref q376, .ref q384, .ref q392, .null, .null, .null, .null, .null]))] H := hO
  have hT := hT.kept (hs _ (Nat.ne_of_gt (Nat.lt_of_lt_of_le ho (hZ (q40, .int, 6) (by simp)))))
  refine lv_aload_n hx hb d_M_init_397 rfl (lv_at hl 0 rfl) ?_
  refine lv_bipush (v := nI 80) hx hb d_M_init_398 (by decide +kernel) ?_
  have hz := hS.1.1
  refine sx_newa (cells' := 44) (slots' := 201274) hx hb hG hts rfl (Or.inl rfl) (by decide +kernel) (by decide) (by decide) rfl rfl (Nat.le_of_ble_eq_true rfl) (Nat.le_of_ble_eq_true rfl) hS d_M_init_400 (fun q400 H e0 a0 l0 y0 hJ hk hS => ?_)
  have u0 : q40 < q400 := e0 ▸ hT.lt
  have hT := hT.grown hk
  have hA := (hA.kept hJ).cons a0 l0
  have hO := hO.grown hk
  have z0 : H0.size ≤ q400 := e0 ▸ hz
  have hZ : ∀ z ∈ ([(q400, .long, 80), (q392, .long, 8), (q384, .long, 80), (q376, .long, 17), (q368, .long, 17), (q360, .long, 16), (q352, .long, 16), (q344, .long, 18), (q336, .long, 32), (q282, .int, 8), (q274, .byte, 65664), (q266, .byte, 32), (q258, .byte, 32), (q250, .byte, 32), (q242, .long, 16), (q234, .long, 16), (q226, .long, 16), (q218, .long, 16), (q210, .long, 16), (q202, .long, 16), (q194, .long, 16), (q186, .long, 16), (q178, .long, 16), (q170, .long, 16), (q162, .long, 16), (q154, .long, 16), (q146, .long, 16), (q138, .long, 16), (q130, .long, 16), (q122, .long, 16), (q114, .long, 16), (q106, .long, 16), (q98, .long, 16), (q90, .long, 16), (q82, .long, 16), (q74, .long, 256), (q65, .long, 16), (q57, .long, 256), (q48, .long, 16), (q40, .int, 6), (q32, .byte, 3200), (q23, .byte, 64), (q15, .byte, 65536), (q7, .byte, 65536)] : List (Nat × FieldType × Nat)), H0.size ≤ z.1 := fun z hz => (List.mem_cons.mp hz).elim (fun e => by rw [e]; exact z0) (hZ z)
  have hV : ∀ z ∈ ([(q400, .long, 80), (q392, .long, 8), (q384, .long, 80), (q376, .long, 17), (q368, .long, 17), (q360, .long, 16), (q352, .long, 16), (q344, .long, 18), (q336, .long, 32), (q282, .int, 8), (q274, .byte, 65664), (q266, .byte, 32), (q258, .byte, 32), (q250, .byte, 32), (q242, .long, 16), (q234, .long, 16), (q226, .long, 16), (q218, .long, 16), (q210, .long, 16), (q202, .long, 16), (q194, .long, 16), (q186, .long, 16), (q178, .long, 16), (q170, .long, 16), (q162, .long, 16), (q154, .long, 16), (q146, .long, 16), (q138, .long, 16), (q130, .long, 16), (q122, .long, 16), (q114, .long, 16), (q106, .long, 16), (q98, .long, 16), (q90, .long, 16), (q82, .long, 16), (q74, .long, 256), (q65, .long, 16), (q57, .long, 256), (q48, .long, 16)] : List (Nat × FieldType × Nat)), q40 < z.1 := fun z hz => (List.mem_cons.mp hz).elim (fun e => by rw [e]; exact u0) (hV z)
  refine sx_putF EE hin hO rfl i_M t_M tok_M n_M 48 (by decide) rfl fl_M_147 (ty := t_M 48) (by decide +kernel) rfl rfl (Nat.le_of_ble_eq_true rfl) hEo hS d_M_init_402 (fun H locs hO hJ hs hS => ?_)
  have hA := hA.kept hJ
  have hO : va_P D classes [(o, .inr (0, [.int 0, .ref q7, .ref q15, .ref q23, .ref q32, .int 0, .int 0, .int 0, .int 0, .ref q40, .ref q48, .ref q57, .ref q65, .ref q74, .ref q82, .ref q90, .ref q98, .ref q106, .ref q114, .ref q122, .ref q130, .ref q138, .ref q146, .ref q154, .ref q162, .ref q170, .ref q178, .ref q186, .ref q194, .ref q202, .ref q210, .ref q218, .ref q226, .ref q234, .ref q242, .ref q250, .ref q258, .ref q266, .ref q274, .ref q282, .ref q336, .ref q344, .ref q352, .ref q360, .ref q368, .ref q376, .ref q384, .ref q392, .ref q400, .null, .null, .null, .null]))] H := hO
  have hT := hT.kept (hs _ (Nat.ne_of_gt (Nat.lt_of_lt_of_le ho (hZ (q40, .int, 6) (by simp)))))
  refine lv_aload_n hx hb d_M_init_405 rfl (lv_at hl 0 rfl) ?_
  refine lv_bipush (v := nI 8) hx hb d_M_init_406 (by decide +kernel) ?_
  have hz := hS.1.1
  refine sx_newa (cells' := 45) (slots' := 201282) hx hb hG hts rfl (Or.inl rfl) (by decide +kernel) (by decide) (by decide) rfl rfl (Nat.le_of_ble_eq_true rfl) (Nat.le_of_ble_eq_true rfl) hS d_M_init_408 (fun q408 H e0 a0 l0 y0 hJ hk hS => ?_)
  have u0 : q40 < q408 := e0 ▸ hT.lt
  have hT := hT.grown hk
  have hA := (hA.kept hJ).cons a0 l0
  have hO := hO.grown hk
  have z0 : H0.size ≤ q408 := e0 ▸ hz
  have hZ : ∀ z ∈ ([(q408, .long, 8), (q400, .long, 80), (q392, .long, 8), (q384, .long, 80), (q376, .long, 17), (q368, .long, 17), (q360, .long, 16), (q352, .long, 16), (q344, .long, 18), (q336, .long, 32), (q282, .int, 8), (q274, .byte, 65664), (q266, .byte, 32), (q258, .byte, 32), (q250, .byte, 32), (q242, .long, 16), (q234, .long, 16), (q226, .long, 16), (q218, .long, 16), (q210, .long, 16), (q202, .long, 16), (q194, .long, 16), (q186, .long, 16), (q178, .long, 16), (q170, .long, 16), (q162, .long, 16), (q154, .long, 16), (q146, .long, 16), (q138, .long, 16), (q130, .long, 16), (q122, .long, 16), (q114, .long, 16), (q106, .long, 16), (q98, .long, 16), (q90, .long, 16), (q82, .long, 16), (q74, .long, 256), (q65, .long, 16), (q57, .long, 256), (q48, .long, 16), (q40, .int, 6), (q32, .byte, 3200), (q23, .byte, 64), (q15, .byte, 65536), (q7, .byte, 65536)] : List (Nat × FieldType × Nat)), H0.size ≤ z.1 := fun z hz => (List.mem_cons.mp hz).elim (fun e => by rw [e]; exact z0) (hZ z)
  have hV : ∀ z ∈ ([(q408, .long, 8), (q400, .long, 80), (q392, .long, 8), (q384, .long, 80), (q376, .long, 17), (q368, .long, 17), (q360, .long, 16), (q352, .long, 16), (q344, .long, 18), (q336, .long, 32), (q282, .int, 8), (q274, .byte, 65664), (q266, .byte, 32), (q258, .byte, 32), (q250, .byte, 32), (q242, .long, 16), (q234, .long, 16), (q226, .long, 16), (q218, .long, 16), (q210, .long, 16), (q202, .long, 16), (q194, .long, 16), (q186, .long, 16), (q178, .long, 16), (q170, .long, 16), (q162, .long, 16), (q154, .long, 16), (q146, .long, 16), (q138, .long, 16), (q130, .long, 16), (q122, .long, 16), (q114, .long, 16), (q106, .long, 16), (q98, .long, 16), (q90, .long, 16), (q82, .long, 16), (q74, .long, 256), (q65, .long, 16), (q57, .long, 256), (q48, .long, 16)] : List (Nat × FieldType × Nat)), q40 < z.1 := fun z hz => (List.mem_cons.mp hz).elim (fun e => by rw [e]; exact u0) (hV z)
  refine sx_putF EE hin hO rfl i_M t_M tok_M n_M 49 (by decide) rfl fl_M_150 (ty := t_M 49) (by decide +kernel) rfl rfl (Nat.le_of_ble_eq_true rfl) hEo hS d_M_init_410 (fun H locs hO hJ hs hS => ?_)
  have hA := hA.kept hJ
  have hO : va_P D classes [(o, .inr (0, [.int 0, .ref q7, .ref q15, .ref q23, .ref q32, .int 0, .int 0, .int 0, .int 0, .ref q40, .ref q48, .ref q57, .ref q65, .ref q74, .ref q82, .ref q90, .ref q98, .ref q106, .ref q114, .ref q122, .ref q130, .ref q138, .ref q146, .ref q154, .ref q162, .ref q170, .ref q178, .ref q186, .ref q194, .ref q202, .ref q210, .ref q218, .ref q226, .ref q234, .ref q242, .ref q250, .ref q258, .ref q266, .ref q274, .ref q282, .ref q336, .ref q344, .ref q352, .ref q360, .ref q368, .ref q376, .ref q384, .ref q392, .ref q400, .ref q408, .null, .null, .null]))] H := hO
  have hT := hT.kept (hs _ (Nat.ne_of_gt (Nat.lt_of_lt_of_le ho (hZ (q40, .int, 6) (by simp)))))
  refine lv_aload_n hx hb d_M_init_413 rfl (lv_at hl 0 rfl) ?_
  refine lv_bipush (v := nI 8) hx hb d_M_init_414 (by decide +kernel) ?_
  have hz := hS.1.1
  refine sx_newa (cells' := 46) (slots' := 201290) hx hb hG hts rfl (Or.inl rfl) (by decide +kernel) (by decide) (by decide) rfl rfl (Nat.le_of_ble_eq_true rfl) (Nat.le_of_ble_eq_true rfl) hS d_M_init_416 (fun q416 H e0 a0 l0 y0 hJ hk hS => ?_)
  have u0 : q40 < q416 := e0 ▸ hT.lt
  have hT := hT.grown hk
  have hA := (hA.kept hJ).cons a0 l0
  have hO := hO.grown hk
  have z0 : H0.size ≤ q416 := e0 ▸ hz
  have hZ : ∀ z ∈ ([(q416, .long, 8), (q408, .long, 8), (q400, .long, 80), (q392, .long, 8), (q384, .long, 80), (q376, .long, 17), (q368, .long, 17), (q360, .long, 16), (q352, .long, 16), (q344, .long, 18), (q336, .long, 32), (q282, .int, 8), (q274, .byte, 65664), (q266, .byte, 32), (q258, .byte, 32), (q250, .byte, 32), (q242, .long, 16), (q234, .long, 16), (q226, .long, 16), (q218, .long, 16), (q210, .long, 16), (q202, .long, 16), (q194, .long, 16), (q186, .long, 16), (q178, .long, 16), (q170, .long, 16), (q162, .long, 16), (q154, .long, 16), (q146, .long, 16), (q138, .long, 16), (q130, .long, 16), (q122, .long, 16), (q114, .long, 16), (q106, .long, 16), (q98, .long, 16), (q90, .long, 16), (q82, .long, 16), (q74, .long, 256), (q65, .long, 16), (q57, .long, 256), (q48, .long, 16), (q40, .int, 6), (q32, .byte, 3200), (q23, .byte, 64), (q15, .byte, 65536), (q7, .byte, 65536)] : List (Nat × FieldType × Nat)), H0.size ≤ z.1 := fun z hz => (List.mem_cons.mp hz).elim (fun e => by rw [e]; exact z0) (hZ z)
  have hV : ∀ z ∈ ([(q416, .long, 8), (q408, .long, 8), (q400, .long, 80), (q392, .long, 8), (q384, .long, 80), (q376, .long, 17), (q368, .long, 17), (q360, .long, 16), (q352, .long, 16), (q344, .long, 18), (q336, .long, 32), (q282, .int, 8), (q274, .byte, 65664), (q266, .byte, 32), (q258, .byte, 32), (q250, .byte, 32), (q242, .long, 16), (q234, .long, 16), (q226, .long, 16), (q218, .long, 16), (q210, .long, 16), (q202, .long, 16), (q194, .long, 16), (q186, .long, 16), (q178, .long, 16), (q170, .long, 16), (q162, .long, 16), (q154, .long, 16), (q146, .long, 16), (q138, .long, 16), (q130, .long, 16), (q122, .long, 16), (q114, .long, 16), (q106, .long, 16), (q98, .long, 16), (q90, .long, 16), (q82, .long, 16), (q74, .long, 256), (q65, .long, 16), (q57, .long, 256), (q48, .long, 16)] : List (Nat × FieldType × Nat)), q40 < z.1 := fun z hz => (List.mem_cons.mp hz).elim (fun e => by rw [e]; exact u0) (hV z)
  refine sx_putF EE hin hO rfl i_M t_M tok_M n_M 50 (by decide) rfl fl_M_153 (ty := t_M 50) (by decide +kernel) rfl rfl (Nat.le_of_ble_eq_true rfl) hEo hS d_M_init_418 (fun H locs hO hJ hs hS => ?_)
  have hA := hA.kept hJ
  have hO : va_P D classes [(o, .inr (0, [.int 0, .ref q7, .ref q15, .ref q23, .ref q32, .int 0, .int 0, .int 0, .int 0, .ref q40, .ref q48, .ref q57, .ref q65, .ref q74, .ref q82, .ref q90, .ref q98, .ref q106, .ref q114, .ref q122, .ref q130, .ref q138, .ref q146, .ref q154, .ref q162, .ref q170, .ref q178, .ref q186, .ref q194, .ref q202, .ref q210, .ref q218, .ref q226, .ref q234, .ref q242, .ref q250, .ref q258, .ref q266, .ref q274, .ref q282, .ref q336, .ref q344, .ref q352, .ref q360, .ref q368, .ref q376, .ref q384, .ref q392, .ref q400, .ref q408, .ref q416, .null, .null]))] H := hO
  have hT := hT.kept (hs _ (Nat.ne_of_gt (Nat.lt_of_lt_of_le ho (hZ (q40, .int, 6) (by simp)))))
  refine lv_aload_n hx hb d_M_init_421 rfl (lv_at hl 0 rfl) ?_
  refine lv_bipush (v := nI 8) hx hb d_M_init_422 (by decide +kernel) ?_
  have hz := hS.1.1
  refine sx_newa (cells' := 47) (slots' := 201298) hx hb hG hts rfl (Or.inl rfl) (by decide +kernel) (by decide) (by decide) rfl rfl (Nat.le_of_ble_eq_true rfl) (Nat.le_of_ble_eq_true rfl) hS d_M_init_424 (fun q424 H e0 a0 l0 y0 hJ hk hS => ?_)
  have u0 : q40 < q424 := e0 ▸ hT.lt
  have hT := hT.grown hk
  have hA := (hA.kept hJ).cons a0 l0
  have hO := hO.grown hk
  have z0 : H0.size ≤ q424 := e0 ▸ hz
  have hZ : ∀ z ∈ ([(q424, .long, 8), (q416, .long, 8), (q408, .long, 8), (q400, .long, 80), (q392, .long, 8), (q384, .long, 80), (q376, .long, 17), (q368, .long, 17), (q360, .long, 16), (q352, .long, 16), (q344, .long, 18), (q336, .long, 32), (q282, .int, 8), (q274, .byte, 65664), (q266, .byte, 32), (q258, .byte, 32), (q250, .byte, 32), (q242, .long, 16), (q234, .long, 16), (q226, .long, 16), (q218, .long, 16), (q210, .long, 16), (q202, .long, 16), (q194, .long, 16), (q186, .long, 16), (q178, .long, 16), (q170, .long, 16), (q162, .long, 16), (q154, .long, 16), (q146, .long, 16), (q138, .long, 16), (q130, .long, 16), (q122, .long, 16), (q114, .long, 16), (q106, .long, 16), (q98, .long, 16), (q90, .long, 16), (q82, .long, 16), (q74, .long, 256), (q65, .long, 16), (q57, .long, 256), (q48, .long, 16), (q40, .int, 6), (q32, .byte, 3200), (q23, .byte, 64), (q15, .byte, 65536), (q7, .byte, 65536)] : List (Nat × FieldType × Nat)), H0.size ≤ z.1 := fun z hz => (List.mem_cons.mp hz).elim (fun e => by rw [e]; exact z0) (hZ z)
  have hV : ∀ z ∈ ([(q424, .long, 8), (q416, .long, 8), (q408, .long, 8), (q400, .long, 80), (q392, .long, 8), (q384, .long, 80), (q376, .long, 17), (q368, .long, 17), (q360, .long, 16), (q352, .long, 16), (q344, .long, 18), (q336, .long, 32), (q282, .int, 8), (q274, .byte, 65664), (q266, .byte, 32), (q258, .byte, 32), (q250, .byte, 32), (q242, .long, 16), (q234, .long, 16), (q226, .long, 16), (q218, .long, 16), (q210, .long, 16), (q202, .long, 16), (q194, .long, 16), (q186, .long, 16), (q178, .long, 16), (q170, .long, 16), (q162, .long, 16), (q154, .long, 16), (q146, .long, 16), (q138, .long, 16), (q130, .long, 16), (q122, .long, 16), (q114, .long, 16), (q106, .long, 16), (q98, .long, 16), (q90, .long, 16), (q82, .long, 16), (q74, .long, 256), (q65, .long, 16), (q57, .long, 256), (q48, .long, 16)] : List (Nat × FieldType × Nat)), q40 < z.1 := fun z hz => (List.mem_cons.mp hz).elim (fun e => by rw [e]; exact u0) (hV z)
  refine sx_putF EE hin hO rfl i_M t_M tok_M n_M 51 (by decide) rfl fl_M_156 (ty := t_M 51) (by decide +kernel) rfl rfl (Nat.le_of_ble_eq_true rfl) hEo hS d_M_init_426 (fun H locs hO hJ hs hS => ?_)
  have hA := hA.kept hJ
  have hO : va_P D classes [(o, .inr (0, [.int 0, .ref q7, .ref q15, .ref q23, .ref q32, .int 0, .int 0, .int 0, .int 0, .ref q40, .ref q48, .ref q57, .ref q65, .ref q74, .ref q82, .ref q90, .ref q98, .ref q106, .ref q114, .ref q122, .ref q130, .ref q138, .ref q146, .ref q154, .ref q162, .ref q170, .ref q178, .ref q186, .ref q194, .ref q202, .ref q210, .ref q218, .ref q226, .ref q234, .ref q242, .ref q250, .ref q258, .ref q266, .ref q274, .ref q282, .ref q336, .ref q344, .ref q352, .ref q360, .ref q368, .ref q376, .ref q384, .ref q392, .ref q400, .ref q408, .ref q416, .ref q424, .null]))] H := hO
  have hT := hT.kept (hs _ (Nat.ne_of_gt (Nat.lt_of_lt_of_le ho (hZ (q40, .int, 6) (by simp)))))
  refine lv_aload_n hx hb d_M_init_429 rfl (lv_at hl 0 rfl) ?_
  refine lv_bipush (v := nI 64) hx hb d_M_init_430 (by decide +kernel) ?_
  have hz := hS.1.1
  refine sx_newa (cells' := 48) (slots' := 201362) hx hb hG hts rfl (Or.inr (Or.inl rfl)) (by decide +kernel) (by decide) (by decide) rfl rfl (Nat.le_of_ble_eq_true rfl) (Nat.le_of_ble_eq_true rfl) hS d_M_init_432 (fun q432 H e0 a0 l0 y0 hJ hk hS => ?_)
  have u0 : q40 < q432 := e0 ▸ hT.lt
  have hT := hT.grown hk
  have hA := (hA.kept hJ).cons a0 l0
  have hO := hO.grown hk
  have z0 : H0.size ≤ q432 := e0 ▸ hz
  have hZ : ∀ z ∈ ([(q432, .byte, 64), (q424, .long, 8), (q416, .long, 8), (q408, .long, 8), (q400, .long, 80), (q392, .long, 8), (q384, .long, 80), (q376, .long, 17), (q368, .long, 17), (q360, .long, 16), (q352, .long, 16), (q344, .long, 18), (q336, .long, 32), (q282, .int, 8), (q274, .byte, 65664), (q266, .byte, 32), (q258, .byte, 32), (q250, .byte, 32), (q242, .long, 16), (q234, .long, 16), (q226, .long, 16), (q218, .long, 16), (q210, .long, 16), (q202, .long, 16), (q194, .long, 16), (q186, .long, 16), (q178, .long, 16), (q170, .long, 16), (q162, .long, 16), (q154, .long, 16), (q146, .long, 16), (q138, .long, 16), (q130, .long, 16), (q122, .long, 16), (q114, .long, 16), (q106, .long, 16), (q98, .long, 16), (q90, .long, 16), (q82, .long, 16), (q74, .long, 256), (q65, .long, 16), (q57, .long, 256), (q48, .long, 16), (q40, .int, 6), (q32, .byte, 3200), (q23, .byte, 64), (q15, .byte, 65536), (q7, .byte, 65536)] : List (Nat × FieldType × Nat)), H0.size ≤ z.1 := fun z hz => (List.mem_cons.mp hz).elim (fun e => by rw [e]; exact z0) (hZ z)
  have hV : ∀ z ∈ ([(q432, .byte, 64), (q424, .long, 8), (q416, .long, 8), (q408, .long, 8), (q400, .long, 80), (q392, .long, 8), (q384, .long, 80), (q376, .long, 17), (q368, .long, 17), (q360, .long, 16), (q352, .long, 16), (q344, .long, 18), (q336, .long, 32), (q282, .int, 8), (q274, .byte, 65664), (q266, .byte, 32), (q258, .byte, 32), (q250, .byte, 32), (q242, .long, 16), (q234, .long, 16), (q226, .long, 16), (q218, .long, 16), (q210, .long, 16), (q202, .long, 16), (q194, .long, 16), (q186, .long, 16), (q178, .long, 16), (q170, .long, 16), (q162, .long, 16), (q154, .long, 16), (q146, .long, 16), (q138, .long, 16), (q130, .long, 16), (q122, .long, 16), (q114, .long, 16), (q106, .long, 16), (q98, .long, 16), (q90, .long, 16), (q82, .long, 16), (q74, .long, 256), (q65, .long, 16), (q57, .long, 256), (q48, .long, 16)] : List (Nat × FieldType × Nat)), q40 < z.1 := fun z hz => (List.mem_cons.mp hz).elim (fun e => by rw [e]; exact u0) (hV z)
  refine sx_putF EE hin hO rfl i_M t_M tok_M n_M 52 (by decide) rfl fl_M_159 (ty := t_M 52) (by decide +kernel) rfl rfl (Nat.le_of_ble_eq_true rfl) hEo hS d_M_init_434 (fun H locs hO hJ hs hS => ?_)
  have hA := hA.kept hJ
  have hO : va_P D classes [(o, .inr (0, [.int 0, .ref q7, .ref q15, .ref q23, .ref q32, .int 0, .int 0, .int 0, .int 0, .ref q40, .ref q48, .ref q57, .ref q65, .ref q74, .ref q82, .ref q90, .ref q98, .ref q106, .ref q114, .ref q122, .ref q130, .ref q138, .ref q146, .ref q154, .ref q162, .ref q170, .ref q178, .ref q186, .ref q194, .ref q202, .ref q210, .ref q218, .ref q226, .ref q234, .ref q242, .ref q250, .ref q258, .ref q266, .ref q274, .ref q282, .ref q336, .ref q344, .ref q352, .ref q360, .ref q368, .ref q376, .ref q384, .ref q392, .ref q400, .ref q408, .ref q416, .ref q424, .ref q432]))] H := hO
  have hT := hT.kept (hs _ (Nat.ne_of_gt (Nat.lt_of_lt_of_le ho (hZ (q40, .int, 6) (by simp)))))
  obtain ⟨r, hr⟩ : ∃ r : Nat → Nat, r = (fun k => ([0, q7, q15, q23, q32, 0, 0, 0, 0, q40, q48, q57, q65, q74, q82, q90, q98, q106, q114, q122, q130, q138, q146, q154, q162, q170, q178, q186, q194, q202, q210, q218, q226, q234, q242, q250, q258, q266, q274, q282, q336, q344, q352, q360, q368, q376, q384, q392, q400, q408, q416, q424, q432] : List Nat).getD k 0) := ⟨_, rfl⟩
  have hA : sx_AR g H ((mo_arr.map (fun q => (r q.1, q.2.1, q.2.2))).reverse) := by rw [hr]; exact hA
  have hZ : ∀ z ∈ (mo_arr.map (fun q => (r q.1, q.2.1, q.2.2))).reverse, H0.size ≤ z.1 := by rw [hr]; exact hZ
  have hO : va_P D classes [(o, .inr (0, mo_fs r (fun _ => 0)))] H := by rw [hr]; exact hO
  have hV : ∀ z ∈ (mo_wr.map (fun q => (r q.1, q.2.1, q.2.2))).reverse, r 9 < z.1 := by rw [hr]; exact hV
  have hT : zi_ H (r 9) 6 := by rw [hr]; exact hT
  have hvr : ∀ q ∈ mo_wr, r 9 < r q.1 := fun q hq => hV (r q.1, q.2.1, q.2.2) (List.mem_reverse.mpr (List.mem_map_of_mem (f := fun q : Nat × FieldType × Nat => (r q.1, q.2.1, q.2.2)) hq))
  have hsub : ∀ q ∈ mo_wr, q ∈ mo_arr := by decide +kernel
  have hzr : ∀ q ∈ mo_arr, H0.size ≤ r q.1 := fun q hq => hZ (r q.1, q.2.1, q.2.2) (List.mem_reverse.mpr (List.mem_map_of_mem (f := fun q : Nat × FieldType × Nat => (r q.1, q.2.1, q.2.2)) hq))
  have hM : mo_ D g H o r (fun _ => 0) := ⟨hO, fun q hq => (hA (r q.1, q.2.1, q.2.2) (List.mem_reverse.mpr (List.mem_map_of_mem (f := fun q : Nat × FieldType × Nat => (r q.1, q.2.1, q.2.2)) hq))).1⟩
  refine e_M_init (E := fun q => E q ∧ q ≠ o ∧ q ≠ r 9) (F := E) hM (fun h => h.2.1 rfl) (fun q hq => ⟨hEn _ (hzr q (hsub q hq)), Nat.ne_of_gt (Nat.lt_of_lt_of_le ho (hzr q (hsub q hq))), Nat.ne_of_gt (hvr q hq)⟩) EE hl ⟨sx_J.rf, fun _ h => h.1, hS.2.2⟩ (fun H2 locs2 ls pc hS2 hd => ?_)
  exact hret H2 locs2 ls pc ⟨r, hM.kept hS2.1 (fun h => h.2.1 rfl), hT.kept (hS2.1.2.1 _ hT.lt (fun h => h.2.2 rfl)), hzr⟩ (hS.1.tr (hS2.1.mono (fun _ h => h.1))) hS2.2.2 hd
end
section
theorem d_JA_fill_0 : decode b_JA_fill 0 = .ok (.iconst 0, 1) := by decide +kernel
theorem d_JA_fill_1 : decode b_JA_fill 1 = .ok (.istore_n 3, 1) := by decide +kernel
theorem d_JA_fill_2 : decode b_JA_fill 2 = .ok (.aload_n 0, 1) := by decide +kernel
theorem d_JA_fill_3 : decode b_JA_fill 3 = .ok (.arraylength, 1) := by decide +kernel
theorem d_JA_fill_4 : decode b_JA_fill 4 = .ok (.istore 4, 2) := by decide +kernel
theorem d_JA_fill_6 : decode b_JA_fill 6 = .ok (.iload_n 3, 1) := by decide +kernel
theorem d_JA_fill_7 : decode b_JA_fill 7 = .ok (.iload 4, 2) := by decide +kernel
theorem d_JA_fill_9 : decode b_JA_fill 9 = .ok (.if_icmp .ge 13, 3) := by decide +kernel
theorem d_JA_fill_12 : decode b_JA_fill 12 = .ok (.aload_n 0, 1) := by decide +kernel
theorem d_JA_fill_13 : decode b_JA_fill 13 = .ok (.iload_n 3, 1) := by decide +kernel
theorem d_JA_fill_14 : decode b_JA_fill 14 = .ok (.lload_n 1, 1) := by decide +kernel
theorem d_JA_fill_15 : decode b_JA_fill 15 = .ok (.lastore, 1) := by decide +kernel
theorem d_JA_fill_16 : decode b_JA_fill 16 = .ok (.iinc 3 1, 3) := by decide +kernel
theorem d_JA_fill_19 : decode b_JA_fill 19 = .ok (.goto (-13), 3) := by decide +kernel
theorem d_JA_fill_22 : decode b_JA_fill 22 = .ok (.return_, 1) := by decide +kernel
theorem d_F_set_0 : decode b_F_set 0 = .ok (.aload_n 0, 1) := by decide +kernel
theorem d_F_set_1 : decode b_F_set 1 = .ok (.lconst 0, 1) := by decide +kernel
theorem d_F_set_2 : decode b_F_set 2 = .ok (.invokestatic 33, 3) := by decide +kernel
theorem d_F_set_5 : decode b_F_set 5 = .ok (.aload_n 0, 1) := by decide +kernel
theorem d_F_set_6 : decode b_F_set 6 = .ok (.iconst 0, 1) := by decide +kernel
theorem d_F_set_7 : decode b_F_set 7 = .ok (.lload_n 1, 1) := by decide +kernel
theorem d_F_set_8 : decode b_F_set 8 = .ok (.lastore, 1) := by decide +kernel
theorem d_F_set_9 : decode b_F_set 9 = .ok (.return_, 1) := by decide +kernel
theorem d_F_copy_0 : decode b_F_copy 0 = .ok (.aload_n 1, 1) := by decide +kernel
theorem d_F_copy_1 : decode b_F_copy 1 = .ok (.iconst 0, 1) := by decide +kernel
theorem d_F_copy_2 : decode b_F_copy 2 = .ok (.aload_n 0, 1) := by decide +kernel
theorem d_F_copy_3 : decode b_F_copy 3 = .ok (.iconst 0, 1) := by decide +kernel
theorem d_F_copy_4 : decode b_F_copy 4 = .ok (.bipush 10, 2) := by decide +kernel
theorem d_F_copy_6 : decode b_F_copy 6 = .ok (.invokestatic 39, 3) := by decide +kernel
theorem d_F_copy_9 : decode b_F_copy 9 = .ok (.return_, 1) := by decide +kernel
theorem d_F_add_0 : decode b_F_add 0 = .ok (.iconst 0, 1) := by decide +kernel
theorem d_F_add_1 : decode b_F_add 1 = .ok (.istore_n 3, 1) := by decide +kernel
theorem d_F_add_2 : decode b_F_add 2 = .ok (.iload_n 3, 1) := by decide +kernel
theorem d_F_add_3 : decode b_F_add 3 = .ok (.bipush 10, 2) := by decide +kernel
theorem d_F_add_5 : decode b_F_add 5 = .ok (.if_icmp .ge 19, 3) := by decide +kernel
theorem d_F_add_8 : decode b_F_add 8 = .ok (.aload_n 0, 1) := by decide +kernel
theorem d_F_add_9 : decode b_F_add 9 = .ok (.iload_n 3, 1) := by decide +kernel
theorem d_F_add_10 : decode b_F_add 10 = .ok (.aload_n 1, 1) := by decide +kernel
theorem d_F_add_11 : decode b_F_add 11 = .ok (.iload_n 3, 1) := by decide +kernel
theorem d_F_add_12 : decode b_F_add 12 = .ok (.laload, 1) := by decide +kernel
theorem d_F_add_13 : decode b_F_add 13 = .ok (.aload_n 2, 1) := by decide +kernel
theorem d_F_add_14 : decode b_F_add 14 = .ok (.iload_n 3, 1) := by decide +kernel
theorem d_F_add_15 : decode b_F_add 15 = .ok (.laload, 1) := by decide +kernel
theorem d_F_add_16 : decode b_F_add 16 = .ok (.ladd, 1) := by decide +kernel
theorem d_F_add_17 : decode b_F_add 17 = .ok (.lastore, 1) := by decide +kernel
theorem d_F_add_18 : decode b_F_add 18 = .ok (.iinc 3 1, 3) := by decide +kernel
theorem d_F_add_21 : decode b_F_add 21 = .ok (.goto (-19), 3) := by decide +kernel
theorem d_F_add_24 : decode b_F_add 24 = .ok (.return_, 1) := by decide +kernel
theorem d_F_subtract_0 : decode b_F_subtract 0 = .ok (.iconst 0, 1) := by decide +kernel
theorem d_F_subtract_1 : decode b_F_subtract 1 = .ok (.istore_n 3, 1) := by decide +kernel
theorem d_F_subtract_2 : decode b_F_subtract 2 = .ok (.iload_n 3, 1) := by decide +kernel
theorem d_F_subtract_3 : decode b_F_subtract 3 = .ok (.bipush 10, 2) := by decide +kernel
theorem d_F_subtract_5 : decode b_F_subtract 5 = .ok (.if_icmp .ge 19, 3) := by decide +kernel
theorem d_F_subtract_8 : decode b_F_subtract 8 = .ok (.aload_n 0, 1) := by decide +kernel
theorem d_F_subtract_9 : decode b_F_subtract 9 = .ok (.iload_n 3, 1) := by decide +kernel
theorem d_F_subtract_10 : decode b_F_subtract 10 = .ok (.aload_n 1, 1) := by decide +kernel
theorem d_F_subtract_11 : decode b_F_subtract 11 = .ok (.iload_n 3, 1) := by decide +kernel
theorem d_F_subtract_12 : decode b_F_subtract 12 = .ok (.laload, 1) := by decide +kernel
theorem d_F_subtract_13 : decode b_F_subtract 13 = .ok (.aload_n 2, 1) := by decide +kernel
theorem d_F_subtract_14 : decode b_F_subtract 14 = .ok (.iload_n 3, 1) := by decide +kernel
theorem d_F_subtract_15 : decode b_F_subtract 15 = .ok (.laload, 1) := by decide +kernel
theorem d_F_subtract_16 : decode b_F_subtract 16 = .ok (.lsub, 1) := by decide +kernel
theorem d_F_subtract_17 : decode b_F_subtract 17 = .ok (.lastore, 1) := by decide +kernel
theorem d_F_subtract_18 : decode b_F_subtract 18 = .ok (.iinc 3 1, 3) := by decide +kernel
theorem d_F_subtract_21 : decode b_F_subtract 21 = .ok (.goto (-19), 3) := by decide +kernel
theorem d_F_subtract_24 : decode b_F_subtract 24 = .ok (.return_, 1) := by decide +kernel
theorem d_F_carry_0 : decode b_F_carry 0 = .ok (.lconst 0, 1) := by decide +kernel
theorem d_F_carry_1 : decode b_F_carry 1 = .ok (.lstore_n 1, 1) := by decide +kernel
theorem d_F_carry_2 : decode b_F_carry 2 = .ok (.iconst 0, 1) := by decide +kernel
theorem d_F_carry_3 : decode b_F_carry 3 = .ok (.istore_n 3, 1) := by decide +kernel
theorem d_F_carry_4 : decode b_F_carry 4 = .ok (.iload_n 3, 1) := by decide +kernel
theorem d_F_carry_5 : decode b_F_carry 5 = .ok (.bipush 10, 2) := by decide +kernel
theorem d_F_carry_7 : decode b_F_carry 7 = .ok (.if_icmp .ge 67, 3) := by decide +kernel
theorem d_F_carry_10 : decode b_F_carry 10 = .ok (.aload_n 0, 1) := by decide +kernel
theorem d_F_carry_11 : decode b_F_carry 11 = .ok (.iload_n 3, 1) := by decide +kernel
theorem d_F_carry_12 : decode b_F_carry 12 = .ok (.laload, 1) := by decide +kernel
theorem d_F_carry_13 : decode b_F_carry 13 = .ok (.lload_n 1, 1) := by decide +kernel
theorem d_F_carry_14 : decode b_F_carry 14 = .ok (.ladd, 1) := by decide +kernel
theorem d_F_carry_15 : decode b_F_carry 15 = .ok (.lstore 4, 2) := by decide +kernel
theorem d_F_carry_17 : decode b_F_carry 17 = .ok (.lload 4, 2) := by decide +kernel
theorem d_F_carry_19 : decode b_F_carry 19 = .ok (.ldc2_w 53, 3) := by decide +kernel
theorem d_F_carry_22 : decode b_F_carry 22 = .ok (.ladd, 1) := by decide +kernel
theorem d_F_carry_23 : decode b_F_carry 23 = .ok (.bipush 26, 2) := by decide +kernel
theorem d_F_carry_25 : decode b_F_carry 25 = .ok (.lshr, 1) := by decide +kernel
theorem d_F_carry_26 : decode b_F_carry 26 = .ok (.lstore_n 1, 1) := by decide +kernel
theorem d_F_carry_27 : decode b_F_carry 27 = .ok (.aload_n 0, 1) := by decide +kernel
theorem d_F_carry_28 : decode b_F_carry 28 = .ok (.iload_n 3, 1) := by decide +kernel
theorem d_F_carry_29 : decode b_F_carry 29 = .ok (.lload 4, 2) := by decide +kernel
theorem d_F_carry_31 : decode b_F_carry 31 = .ok (.lload_n 1, 1) := by decide +kernel
theorem d_F_carry_32 : decode b_F_carry 32 = .ok (.bipush 26, 2) := by decide +kernel
theorem d_F_carry_34 : decode b_F_carry 34 = .ok (.lshl, 1) := by decide +kernel
theorem d_F_carry_35 : decode b_F_carry 35 = .ok (.lsub, 1) := by decide +kernel
theorem d_F_carry_36 : decode b_F_carry 36 = .ok (.lastore, 1) := by decide +kernel
theorem d_F_carry_37 : decode b_F_carry 37 = .ok (.aload_n 0, 1) := by decide +kernel
theorem d_F_carry_38 : decode b_F_carry 38 = .ok (.iload_n 3, 1) := by decide +kernel
theorem d_F_carry_39 : decode b_F_carry 39 = .ok (.iconst 1, 1) := by decide +kernel
theorem d_F_carry_40 : decode b_F_carry 40 = .ok (.iadd, 1) := by decide +kernel
theorem d_F_carry_41 : decode b_F_carry 41 = .ok (.laload, 1) := by decide +kernel
theorem d_F_carry_42 : decode b_F_carry 42 = .ok (.lload_n 1, 1) := by decide +kernel
theorem d_F_carry_43 : decode b_F_carry 43 = .ok (.ladd, 1) := by decide +kernel
theorem d_F_carry_44 : decode b_F_carry 44 = .ok (.lstore 6, 2) := by decide +kernel
theorem d_F_carry_46 : decode b_F_carry 46 = .ok (.lload 6, 2) := by decide +kernel
theorem d_F_carry_48 : decode b_F_carry 48 = .ok (.ldc2_w 55, 3) := by decide +kernel
theorem d_F_carry_51 : decode b_F_carry 51 = .ok (.ladd, 1) := by decide +kernel
theorem d_F_carry_52 : decode b_F_carry 52 = .ok (.bipush 25, 2) := by decide +kernel
theorem d_F_carry_54 : decode b_F_carry 54 = .ok (.lshr, 1) := by decide +kernel
theorem d_F_carry_55 : decode b_F_carry 55 = .ok (.lstore_n 1, 1) := by decide +kernel
theorem d_F_carry_56 : decode b_F_carry 56 = .ok (.aload_n 0, 1) := by decide +kernel
theorem d_F_carry_57 : decode b_F_carry 57 = .ok (.iload_n 3, 1) := by decide +kernel
theorem d_F_carry_58 : decode b_F_carry 58 = .ok (.iconst 1, 1) := by decide +kernel
theorem d_F_carry_59 : decode b_F_carry 59 = .ok (.iadd, 1) := by decide +kernel
theorem d_F_carry_60 : decode b_F_carry 60 = .ok (.lload 6, 2) := by decide +kernel
theorem d_F_carry_62 : decode b_F_carry 62 = .ok (.lload_n 1, 1) := by decide +kernel
theorem d_F_carry_63 : decode b_F_carry 63 = .ok (.bipush 25, 2) := by decide +kernel
theorem d_F_carry_65 : decode b_F_carry 65 = .ok (.lshl, 1) := by decide +kernel
theorem d_F_carry_66 : decode b_F_carry 66 = .ok (.lsub, 1) := by decide +kernel
theorem d_F_carry_67 : decode b_F_carry 67 = .ok (.lastore, 1) := by decide +kernel
theorem d_F_carry_68 : decode b_F_carry 68 = .ok (.iinc 3 2, 3) := by decide +kernel
theorem d_F_carry_71 : decode b_F_carry 71 = .ok (.goto (-67), 3) := by decide +kernel
theorem d_F_carry_74 : decode b_F_carry 74 = .ok (.aload_n 0, 1) := by decide +kernel
theorem d_F_carry_75 : decode b_F_carry 75 = .ok (.iconst 0, 1) := by decide +kernel
theorem d_F_carry_76 : decode b_F_carry 76 = .ok (.laload, 1) := by decide +kernel
theorem d_F_carry_77 : decode b_F_carry 77 = .ok (.ldc2_w 51, 3) := by decide +kernel
theorem d_F_carry_80 : decode b_F_carry 80 = .ok (.lload_n 1, 1) := by decide +kernel
theorem d_F_carry_81 : decode b_F_carry 81 = .ok (.lmul, 1) := by decide +kernel
theorem d_F_carry_82 : decode b_F_carry 82 = .ok (.ladd, 1) := by decide +kernel
theorem d_F_carry_83 : decode b_F_carry 83 = .ok (.lstore_n 3, 1) := by decide +kernel
theorem d_F_carry_84 : decode b_F_carry 84 = .ok (.lload_n 3, 1) := by decide +kernel
theorem d_F_carry_85 : decode b_F_carry 85 = .ok (.ldc2_w 53, 3) := by decide +kernel
theorem d_F_carry_88 : decode b_F_carry 88 = .ok (.ladd, 1) := by decide +kernel
theorem d_F_carry_89 : decode b_F_carry 89 = .ok (.bipush 26, 2) := by decide +kernel
theorem d_F_carry_91 : decode b_F_carry 91 = .ok (.lshr, 1) := by decide +kernel
theorem d_F_carry_92 : decode b_F_carry 92 = .ok (.lstore_n 1, 1) := by decide +kernel
theorem d_F_carry_93 : decode b_F_carry 93 = .ok (.aload_n 0, 1) := by decide +kernel
theorem d_F_carry_94 : decode b_F_carry 94 = .ok (.iconst 0, 1) := by decide +kernel
theorem d_F_carry_95 : decode b_F_carry 95 = .ok (.lload_n 3, 1) := by decide +kernel
theorem d_F_carry_96 : decode b_F_carry 96 = .ok (.lload_n 1, 1) := by decide +kernel
theorem d_F_carry_97 : decode b_F_carry 97 = .ok (.bipush 26, 2) := by decide +kernel
theorem d_F_carry_99 : decode b_F_carry 99 = .ok (.lshl, 1) := by decide +kernel
theorem d_F_carry_100 : decode b_F_carry 100 = .ok (.lsub, 1) := by decide +kernel
theorem d_F_carry_101 : decode b_F_carry 101 = .ok (.lastore, 1) := by decide +kernel
theorem d_F_carry_102 : decode b_F_carry 102 = .ok (.aload_n 0, 1) := by decide +kernel
theorem d_F_carry_103 : decode b_F_carry 103 = .ok (.iconst 1, 1) := by decide +kernel
theorem d_F_carry_104 : decode b_F_carry 104 = .ok (.dup2, 1) := by decide +kernel
theorem d_F_carry_105 : decode b_F_carry 105 = .ok (.laload, 1) := by decide +kernel
theorem d_F_carry_106 : decode b_F_carry 106 = .ok (.lload_n 1, 1) := by decide +kernel
theorem d_F_carry_107 : decode b_F_carry 107 = .ok (.ladd, 1) := by decide +kernel
theorem d_F_carry_108 : decode b_F_carry 108 = .ok (.lastore, 1) := by decide +kernel
theorem d_F_carry_109 : decode b_F_carry 109 = .ok (.return_, 1) := by decide +kernel
end
section
theorem d_F_times_0 : decode b_F_times 0 = .ok (.aload_n 1, 1) := by decide +kernel
theorem d_F_times_1 : decode b_F_times 1 = .ok (.iconst 0, 1) := by decide +kernel
theorem d_F_times_2 : decode b_F_times 2 = .ok (.laload, 1) := by decide +kernel
theorem d_F_times_3 : decode b_F_times 3 = .ok (.lstore_n 3, 1) := by decide +kernel
theorem d_F_times_4 : decode b_F_times 4 = .ok (.aload_n 1, 1) := by decide +kernel
theorem d_F_times_5 : decode b_F_times 5 = .ok (.iconst 1, 1) := by decide +kernel
theorem d_F_times_6 : decode b_F_times 6 = .ok (.laload, 1) := by decide +kernel
theorem d_F_times_7 : decode b_F_times 7 = .ok (.lstore 5, 2) := by decide +kernel
theorem d_F_times_9 : decode b_F_times 9 = .ok (.aload_n 1, 1) := by decide +kernel
theorem d_F_times_10 : decode b_F_times 10 = .ok (.iconst 2, 1) := by decide +kernel
theorem d_F_times_11 : decode b_F_times 11 = .ok (.laload, 1) := by decide +kernel
theorem d_F_times_12 : decode b_F_times 12 = .ok (.lstore 7, 2) := by decide +kernel
theorem d_F_times_14 : decode b_F_times 14 = .ok (.aload_n 1, 1) := by decide +kernel
theorem d_F_times_15 : decode b_F_times 15 = .ok (.iconst 3, 1) := by decide +kernel
theorem d_F_times_16 : decode b_F_times 16 = .ok (.laload, 1) := by decide +kernel
theorem d_F_times_17 : decode b_F_times 17 = .ok (.lstore 9, 2) := by decide +kernel
theorem d_F_times_19 : decode b_F_times 19 = .ok (.aload_n 1, 1) := by decide +kernel
theorem d_F_times_20 : decode b_F_times 20 = .ok (.iconst 4, 1) := by decide +kernel
theorem d_F_times_21 : decode b_F_times 21 = .ok (.laload, 1) := by decide +kernel
theorem d_F_times_22 : decode b_F_times 22 = .ok (.lstore 11, 2) := by decide +kernel
theorem d_F_times_24 : decode b_F_times 24 = .ok (.aload_n 1, 1) := by decide +kernel
theorem d_F_times_25 : decode b_F_times 25 = .ok (.iconst 5, 1) := by decide +kernel
theorem d_F_times_26 : decode b_F_times 26 = .ok (.laload, 1) := by decide +kernel
theorem d_F_times_27 : decode b_F_times 27 = .ok (.lstore 13, 2) := by decide +kernel
theorem d_F_times_29 : decode b_F_times 29 = .ok (.aload_n 1, 1) := by decide +kernel
theorem d_F_times_30 : decode b_F_times 30 = .ok (.bipush 6, 2) := by decide +kernel
theorem d_F_times_32 : decode b_F_times 32 = .ok (.laload, 1) := by decide +kernel
theorem d_F_times_33 : decode b_F_times 33 = .ok (.lstore 15, 2) := by decide +kernel
theorem d_F_times_35 : decode b_F_times 35 = .ok (.aload_n 1, 1) := by decide +kernel
theorem d_F_times_36 : decode b_F_times 36 = .ok (.bipush 7, 2) := by decide +kernel
theorem d_F_times_38 : decode b_F_times 38 = .ok (.laload, 1) := by decide +kernel
theorem d_F_times_39 : decode b_F_times 39 = .ok (.lstore 17, 2) := by decide +kernel
theorem d_F_times_41 : decode b_F_times 41 = .ok (.aload_n 1, 1) := by decide +kernel
theorem d_F_times_42 : decode b_F_times 42 = .ok (.bipush 8, 2) := by decide +kernel
theorem d_F_times_44 : decode b_F_times 44 = .ok (.laload, 1) := by decide +kernel
theorem d_F_times_45 : decode b_F_times 45 = .ok (.lstore 19, 2) := by decide +kernel
theorem d_F_times_47 : decode b_F_times 47 = .ok (.aload_n 1, 1) := by decide +kernel
theorem d_F_times_48 : decode b_F_times 48 = .ok (.bipush 9, 2) := by decide +kernel
theorem d_F_times_50 : decode b_F_times 50 = .ok (.laload, 1) := by decide +kernel
theorem d_F_times_51 : decode b_F_times 51 = .ok (.lstore 21, 2) := by decide +kernel
theorem d_F_times_53 : decode b_F_times 53 = .ok (.aload_n 2, 1) := by decide +kernel
theorem d_F_times_54 : decode b_F_times 54 = .ok (.iconst 0, 1) := by decide +kernel
theorem d_F_times_55 : decode b_F_times 55 = .ok (.laload, 1) := by decide +kernel
theorem d_F_times_56 : decode b_F_times 56 = .ok (.lstore 23, 2) := by decide +kernel
theorem d_F_times_58 : decode b_F_times 58 = .ok (.aload_n 2, 1) := by decide +kernel
theorem d_F_times_59 : decode b_F_times 59 = .ok (.iconst 1, 1) := by decide +kernel
theorem d_F_times_60 : decode b_F_times 60 = .ok (.laload, 1) := by decide +kernel
theorem d_F_times_61 : decode b_F_times 61 = .ok (.lstore 25, 2) := by decide +kernel
theorem d_F_times_63 : decode b_F_times 63 = .ok (.aload_n 2, 1) := by decide +kernel
theorem d_F_times_64 : decode b_F_times 64 = .ok (.iconst 2, 1) := by decide +kernel
theorem d_F_times_65 : decode b_F_times 65 = .ok (.laload, 1) := by decide +kernel
theorem d_F_times_66 : decode b_F_times 66 = .ok (.lstore 27, 2) := by decide +kernel
theorem d_F_times_68 : decode b_F_times 68 = .ok (.aload_n 2, 1) := by decide +kernel
theorem d_F_times_69 : decode b_F_times 69 = .ok (.iconst 3, 1) := by decide +kernel
theorem d_F_times_70 : decode b_F_times 70 = .ok (.laload, 1) := by decide +kernel
theorem d_F_times_71 : decode b_F_times 71 = .ok (.lstore 29, 2) := by decide +kernel
theorem d_F_times_73 : decode b_F_times 73 = .ok (.aload_n 2, 1) := by decide +kernel
theorem d_F_times_74 : decode b_F_times 74 = .ok (.iconst 4, 1) := by decide +kernel
theorem d_F_times_75 : decode b_F_times 75 = .ok (.laload, 1) := by decide +kernel
theorem d_F_times_76 : decode b_F_times 76 = .ok (.lstore 31, 2) := by decide +kernel
theorem d_F_times_78 : decode b_F_times 78 = .ok (.aload_n 2, 1) := by decide +kernel
theorem d_F_times_79 : decode b_F_times 79 = .ok (.iconst 5, 1) := by decide +kernel
theorem d_F_times_80 : decode b_F_times 80 = .ok (.laload, 1) := by decide +kernel
theorem d_F_times_81 : decode b_F_times 81 = .ok (.lstore 33, 2) := by decide +kernel
theorem d_F_times_83 : decode b_F_times 83 = .ok (.aload_n 2, 1) := by decide +kernel
theorem d_F_times_84 : decode b_F_times 84 = .ok (.bipush 6, 2) := by decide +kernel
theorem d_F_times_86 : decode b_F_times 86 = .ok (.laload, 1) := by decide +kernel
theorem d_F_times_87 : decode b_F_times 87 = .ok (.lstore 35, 2) := by decide +kernel
theorem d_F_times_89 : decode b_F_times 89 = .ok (.aload_n 2, 1) := by decide +kernel
theorem d_F_times_90 : decode b_F_times 90 = .ok (.bipush 7, 2) := by decide +kernel
theorem d_F_times_92 : decode b_F_times 92 = .ok (.laload, 1) := by decide +kernel
theorem d_F_times_93 : decode b_F_times 93 = .ok (.lstore 37, 2) := by decide +kernel
theorem d_F_times_95 : decode b_F_times 95 = .ok (.aload_n 2, 1) := by decide +kernel
theorem d_F_times_96 : decode b_F_times 96 = .ok (.bipush 8, 2) := by decide +kernel
theorem d_F_times_98 : decode b_F_times 98 = .ok (.laload, 1) := by decide +kernel
theorem d_F_times_99 : decode b_F_times 99 = .ok (.lstore 39, 2) := by decide +kernel
theorem d_F_times_101 : decode b_F_times 101 = .ok (.aload_n 2, 1) := by decide +kernel
theorem d_F_times_102 : decode b_F_times 102 = .ok (.bipush 9, 2) := by decide +kernel
theorem d_F_times_104 : decode b_F_times 104 = .ok (.laload, 1) := by decide +kernel
theorem d_F_times_105 : decode b_F_times 105 = .ok (.lstore 41, 2) := by decide +kernel
theorem d_F_times_107 : decode b_F_times 107 = .ok (.ldc2_w 49, 3) := by decide +kernel
theorem d_F_times_110 : decode b_F_times 110 = .ok (.lload 5, 2) := by decide +kernel
theorem d_F_times_112 : decode b_F_times 112 = .ok (.lmul, 1) := by decide +kernel
theorem d_F_times_113 : decode b_F_times 113 = .ok (.lstore 43, 2) := by decide +kernel
theorem d_F_times_115 : decode b_F_times 115 = .ok (.ldc2_w 49, 3) := by decide +kernel
theorem d_F_times_118 : decode b_F_times 118 = .ok (.lload 9, 2) := by decide +kernel
theorem d_F_times_120 : decode b_F_times 120 = .ok (.lmul, 1) := by decide +kernel
theorem d_F_times_121 : decode b_F_times 121 = .ok (.lstore 45, 2) := by decide +kernel
theorem d_F_times_123 : decode b_F_times 123 = .ok (.ldc2_w 49, 3) := by decide +kernel
theorem d_F_times_126 : decode b_F_times 126 = .ok (.lload 13, 2) := by decide +kernel
theorem d_F_times_128 : decode b_F_times 128 = .ok (.lmul, 1) := by decide +kernel
theorem d_F_times_129 : decode b_F_times 129 = .ok (.lstore 47, 2) := by decide +kernel
theorem d_F_times_131 : decode b_F_times 131 = .ok (.ldc2_w 49, 3) := by decide +kernel
theorem d_F_times_134 : decode b_F_times 134 = .ok (.lload 17, 2) := by decide +kernel
theorem d_F_times_136 : decode b_F_times 136 = .ok (.lmul, 1) := by decide +kernel
theorem d_F_times_137 : decode b_F_times 137 = .ok (.lstore 49, 2) := by decide +kernel
theorem d_F_times_139 : decode b_F_times 139 = .ok (.ldc2_w 49, 3) := by decide +kernel
theorem d_F_times_142 : decode b_F_times 142 = .ok (.lload 21, 2) := by decide +kernel
theorem d_F_times_144 : decode b_F_times 144 = .ok (.lmul, 1) := by decide +kernel
theorem d_F_times_145 : decode b_F_times 145 = .ok (.lstore 51, 2) := by decide +kernel
theorem d_F_times_147 : decode b_F_times 147 = .ok (.aload_n 0, 1) := by decide +kernel
theorem d_F_times_148 : decode b_F_times 148 = .ok (.iconst 0, 1) := by decide +kernel
theorem d_F_times_149 : decode b_F_times 149 = .ok (.lload_n 3, 1) := by decide +kernel
theorem d_F_times_150 : decode b_F_times 150 = .ok (.lload 23, 2) := by decide +kernel
theorem d_F_times_152 : decode b_F_times 152 = .ok (.lmul, 1) := by decide +kernel
theorem d_F_times_153 : decode b_F_times 153 = .ok (.ldc2_w 51, 3) := by decide +kernel
theorem d_F_times_156 : decode b_F_times 156 = .ok (.lload 43, 2) := by decide +kernel
theorem d_F_times_158 : decode b_F_times 158 = .ok (.lload 41, 2) := by decide +kernel
theorem d_F_times_160 : decode b_F_times 160 = .ok (.lmul, 1) := by decide +kernel
theorem d_F_times_161 : decode b_F_times 161 = .ok (.lload 7, 2) := by decide +kernel
theorem d_F_times_163 : decode b_F_times 163 = .ok (.lload 39, 2) := by decide +kernel
theorem d_F_times_165 : decode b_F_times 165 = .ok (.lmul, 1) := by decide +kernel
theorem d_F_times_166 : decode b_F_times 166 = .ok (.ladd, 1) := by decide +kernel
theorem d_F_times_167 : decode b_F_times 167 = .ok (.lload 45, 2) := by decide +kernel
theorem d_F_times_169 : decode b_F_times 169 = .ok (.lload 37, 2) := by decide +kernel
theorem d_F_times_171 : decode b_F_times 171 = .ok (.lmul, 1) := by decide +kernel
theorem d_F_times_172 : decode b_F_times 172 = .ok (.ladd, 1) := by decide +kernel
theorem d_F_times_173 : decode b_F_times 173 = .ok (.lload 11, 2) := by decide +kernel
theorem d_F_times_175 : decode b_F_times 175 = .ok (.lload 35, 2) := by decide +kernel
theorem d_F_times_177 : decode b_F_times 177 = .ok (.lmul, 1) := by decide +kernel
theorem d_F_times_178 : decode b_F_times 178 = .ok (.ladd, 1) := by decide +kernel
theorem d_F_times_179 : decode b_F_times 179 = .ok (.lload 47, 2) := by decide +kernel
theorem d_F_times_181 : decode b_F_times 181 = .ok (.lload 33, 2) := by decide +kernel
theorem d_F_times_183 : decode b_F_times 183 = .ok (.lmul, 1) := by decide +kernel
theorem d_F_times_184 : decode b_F_times 184 = .ok (.ladd, 1) := by decide +kernel
theorem d_F_times_185 : decode b_F_times 185 = .ok (.lload 15, 2) := by decide +kernel
theorem d_F_times_187 : decode b_F_times 187 = .ok (.lload 31, 2) := by decide +kernel
theorem d_F_times_189 : decode b_F_times 189 = .ok (.lmul, 1) := by decide +kernel
theorem d_F_times_190 : decode b_F_times 190 = .ok (.ladd, 1) := by decide +kernel
theorem d_F_times_191 : decode b_F_times 191 = .ok (.lload 49, 2) := by decide +kernel
theorem d_F_times_193 : decode b_F_times 193 = .ok (.lload 29, 2) := by decide +kernel
theorem d_F_times_195 : decode b_F_times 195 = .ok (.lmul, 1) := by decide +kernel
theorem d_F_times_196 : decode b_F_times 196 = .ok (.ladd, 1) := by decide +kernel
theorem d_F_times_197 : decode b_F_times 197 = .ok (.lload 19, 2) := by decide +kernel
theorem d_F_times_199 : decode b_F_times 199 = .ok (.lload 27, 2) := by decide +kernel
theorem d_F_times_201 : decode b_F_times 201 = .ok (.lmul, 1) := by decide +kernel
theorem d_F_times_202 : decode b_F_times 202 = .ok (.ladd, 1) := by decide +kernel
theorem d_F_times_203 : decode b_F_times 203 = .ok (.lload 51, 2) := by decide +kernel
theorem d_F_times_205 : decode b_F_times 205 = .ok (.lload 25, 2) := by decide +kernel
theorem d_F_times_207 : decode b_F_times 207 = .ok (.lmul, 1) := by decide +kernel
theorem d_F_times_208 : decode b_F_times 208 = .ok (.ladd, 1) := by decide +kernel
theorem d_F_times_209 : decode b_F_times 209 = .ok (.lmul, 1) := by decide +kernel
theorem d_F_times_210 : decode b_F_times 210 = .ok (.ladd, 1) := by decide +kernel
theorem d_F_times_211 : decode b_F_times 211 = .ok (.lastore, 1) := by decide +kernel
theorem d_F_times_212 : decode b_F_times 212 = .ok (.aload_n 0, 1) := by decide +kernel
theorem d_F_times_213 : decode b_F_times 213 = .ok (.iconst 1, 1) := by decide +kernel
theorem d_F_times_214 : decode b_F_times 214 = .ok (.lload_n 3, 1) := by decide +kernel
theorem d_F_times_215 : decode b_F_times 215 = .ok (.lload 25, 2) := by decide +kernel
theorem d_F_times_217 : decode b_F_times 217 = .ok (.lmul, 1) := by decide +kernel
theorem d_F_times_218 : decode b_F_times 218 = .ok (.lload 5, 2) := by decide +kernel
theorem d_F_times_220 : decode b_F_times 220 = .ok (.lload 23, 2) := by decide +kernel
theorem d_F_times_222 : decode b_F_times 222 = .ok (.lmul, 1) := by decide +kernel
theorem d_F_times_223 : decode b_F_times 223 = .ok (.ladd, 1) := by decide +kernel
theorem d_F_times_224 : decode b_F_times 224 = .ok (.ldc2_w 51, 3) := by decide +kernel
theorem d_F_times_227 : decode b_F_times 227 = .ok (.lload 7, 2) := by decide +kernel
theorem d_F_times_229 : decode b_F_times 229 = .ok (.lload 41, 2) := by decide +kernel
theorem d_F_times_231 : decode b_F_times 231 = .ok (.lmul, 1) := by decide +kernel
theorem d_F_times_232 : decode b_F_times 232 = .ok (.lload 9, 2) := by decide +kernel
theorem d_F_times_234 : decode b_F_times 234 = .ok (.lload 39, 2) := by decide +kernel
theorem d_F_times_236 : decode b_F_times 236 = .ok (.lmul, 1) := by decide +kernel
theorem d_F_times_237 : decode b_F_times 237 = .ok (.ladd, 1) := by decide +kernel
theorem d_F_times_238 : decode b_F_times 238 = .ok (.lload 11, 2) := by decide +kernel
theorem d_F_times_240 : decode b_F_times 240 = .ok (.lload 37, 2) := by decide +kernel
theorem d_F_times_242 : decode b_F_times 242 = .ok (.lmul, 1) := by decide +kernel
theorem d_F_times_243 : decode b_F_times 243 = .ok (.ladd, 1) := by decide +kernel
theorem d_F_times_244 : decode b_F_times 244 = .ok (.lload 13, 2) := by decide +kernel
theorem d_F_times_246 : decode b_F_times 246 = .ok (.lload 35, 2) := by decide +kernel
theorem d_F_times_248 : decode b_F_times 248 = .ok (.lmul, 1) := by decide +kernel
theorem d_F_times_249 : decode b_F_times 249 = .ok (.ladd, 1) := by decide +kernel
theorem d_F_times_250 : decode b_F_times 250 = .ok (.lload 15, 2) := by decide +kernel
theorem d_F_times_252 : decode b_F_times 252 = .ok (.lload 33, 2) := by decide +kernel
theorem d_F_times_254 : decode b_F_times 254 = .ok (.lmul, 1) := by decide +kernel
theorem d_F_times_255 : decode b_F_times 255 = .ok (.ladd, 1) := by decide +kernel
theorem d_F_times_256 : decode b_F_times 256 = .ok (.lload 17, 2) := by decide +kernel
theorem d_F_times_258 : decode b_F_times 258 = .ok (.lload 31, 2) := by decide +kernel
theorem d_F_times_260 : decode b_F_times 260 = .ok (.lmul, 1) := by decide +kernel
theorem d_F_times_261 : decode b_F_times 261 = .ok (.ladd, 1) := by decide +kernel
theorem d_F_times_262 : decode b_F_times 262 = .ok (.lload 19, 2) := by decide +kernel
theorem d_F_times_264 : decode b_F_times 264 = .ok (.lload 29, 2) := by decide +kernel
theorem d_F_times_266 : decode b_F_times 266 = .ok (.lmul, 1) := by decide +kernel
theorem d_F_times_267 : decode b_F_times 267 = .ok (.ladd, 1) := by decide +kernel
theorem d_F_times_268 : decode b_F_times 268 = .ok (.lload 21, 2) := by decide +kernel
theorem d_F_times_270 : decode b_F_times 270 = .ok (.lload 27, 2) := by decide +kernel
theorem d_F_times_272 : decode b_F_times 272 = .ok (.lmul, 1) := by decide +kernel
theorem d_F_times_273 : decode b_F_times 273 = .ok (.ladd, 1) := by decide +kernel
theorem d_F_times_274 : decode b_F_times 274 = .ok (.lmul, 1) := by decide +kernel
theorem d_F_times_275 : decode b_F_times 275 = .ok (.ladd, 1) := by decide +kernel
theorem d_F_times_276 : decode b_F_times 276 = .ok (.lastore, 1) := by decide +kernel
theorem d_F_times_277 : decode b_F_times 277 = .ok (.aload_n 0, 1) := by decide +kernel
theorem d_F_times_278 : decode b_F_times 278 = .ok (.iconst 2, 1) := by decide +kernel
theorem d_F_times_279 : decode b_F_times 279 = .ok (.lload_n 3, 1) := by decide +kernel
theorem d_F_times_280 : decode b_F_times 280 = .ok (.lload 27, 2) := by decide +kernel
theorem d_F_times_282 : decode b_F_times 282 = .ok (.lmul, 1) := by decide +kernel
theorem d_F_times_283 : decode b_F_times 283 = .ok (.lload 43, 2) := by decide +kernel
theorem d_F_times_285 : decode b_F_times 285 = .ok (.lload 25, 2) := by decide +kernel
theorem d_F_times_287 : decode b_F_times 287 = .ok (.lmul, 1) := by decide +kernel
theorem d_F_times_288 : decode b_F_times 288 = .ok (.ladd, 1) := by decide +kernel
theorem d_F_times_289 : decode b_F_times 289 = .ok (.lload 7, 2) := by decide +kernel
theorem d_F_times_291 : decode b_F_times 291 = .ok (.lload 23, 2) := by decide +kernel
theorem d_F_times_293 : decode b_F_times 293 = .ok (.lmul, 1) := by decide +kernel
theorem d_F_times_294 : decode b_F_times 294 = .ok (.ladd, 1) := by decide +kernel
theorem d_F_times_295 : decode b_F_times 295 = .ok (.ldc2_w 51, 3) := by decide +kernel
theorem d_F_times_298 : decode b_F_times 298 = .ok (.lload 45, 2) := by decide +kernel
theorem d_F_times_300 : decode b_F_times 300 = .ok (.lload 41, 2) := by decide +kernel
theorem d_F_times_302 : decode b_F_times 302 = .ok (.lmul, 1) := by decide +kernel
theorem d_F_times_303 : decode b_F_times 303 = .ok (.lload 11, 2) := by decide +kernel
theorem d_F_times_305 : decode b_F_times 305 = .ok (.lload 39, 2) := by decide +kernel
theorem d_F_times_307 : decode b_F_times 307 = .ok (.lmul, 1) := by decide +kernel
theorem d_F_times_308 : decode b_F_times 308 = .ok (.ladd, 1) := by decide +kernel
theorem d_F_times_309 : decode b_F_times 309 = .ok (.lload 47, 2) := by decide +kernel
theorem d_F_times_311 : decode b_F_times 311 = .ok (.lload 37, 2) := by decide +kernel
theorem d_F_times_313 : decode b_F_times 313 = .ok (.lmul, 1) := by decide +kernel
theorem d_F_times_314 : decode b_F_times 314 = .ok (.ladd, 1) := by decide +kernel
theorem d_F_times_315 : decode b_F_times 315 = .ok (.lload 15, 2) := by decide +kernel
theorem d_F_times_317 : decode b_F_times 317 = .ok (.lload 35, 2) := by decide +kernel
theorem d_F_times_319 : decode b_F_times 319 = .ok (.lmul, 1) := by decide +kernel
theorem d_F_times_320 : decode b_F_times 320 = .ok (.ladd, 1) := by decide +kernel
theorem d_F_times_321 : decode b_F_times 321 = .ok (.lload 49, 2) := by decide +kernel
theorem d_F_times_323 : decode b_F_times 323 = .ok (.lload 33, 2) := by decide +kernel
theorem d_F_times_325 : decode b_F_times 325 = .ok (.lmul, 1) := by decide +kernel
theorem d_F_times_326 : decode b_F_times 326 = .ok (.ladd, 1) := by decide +kernel
theorem d_F_times_327 : decode b_F_times 327 = .ok (.lload 19, 2) := by decide +kernel
theorem d_F_times_329 : decode b_F_times 329 = .ok (.lload 31, 2) := by decide +kernel
theorem d_F_times_331 : decode b_F_times 331 = .ok (.lmul, 1) := by decide +kernel
theorem d_F_times_332 : decode b_F_times 332 = .ok (.ladd, 1) := by decide +kernel
theorem d_F_times_333 : decode b_F_times 333 = .ok (.lload 51, 2) := by decide +kernel
theorem d_F_times_335 : decode b_F_times 335 = .ok (.lload 29, 2) := by decide +kernel
theorem d_F_times_337 : decode b_F_times 337 = .ok (.lmul, 1) := by decide +kernel
theorem d_F_times_338 : decode b_F_times 338 = .ok (.ladd, 1) := by decide +kernel
theorem d_F_times_339 : decode b_F_times 339 = .ok (.lmul, 1) := by decide +kernel
theorem d_F_times_340 : decode b_F_times 340 = .ok (.ladd, 1) := by decide +kernel
theorem d_F_times_341 : decode b_F_times 341 = .ok (.lastore, 1) := by decide +kernel
theorem d_F_times_342 : decode b_F_times 342 = .ok (.aload_n 0, 1) := by decide +kernel
theorem d_F_times_343 : decode b_F_times 343 = .ok (.iconst 3, 1) := by decide +kernel
theorem d_F_times_344 : decode b_F_times 344 = .ok (.lload_n 3, 1) := by decide +kernel
theorem d_F_times_345 : decode b_F_times 345 = .ok (.lload 29, 2) := by decide +kernel
theorem d_F_times_347 : decode b_F_times 347 = .ok (.lmul, 1) := by decide +kernel
theorem d_F_times_348 : decode b_F_times 348 = .ok (.lload 5, 2) := by decide +kernel
theorem d_F_times_350 : decode b_F_times 350 = .ok (.lload 27, 2) := by decide +kernel
theorem d_F_times_352 : decode b_F_times 352 = .ok (.lmul, 1) := by decide +kernel
theorem d_F_times_353 : decode b_F_times 353 = .ok (.ladd, 1) := by decide +kernel
theorem d_F_times_354 : decode b_F_times 354 = .ok (.lload 7, 2) := by decide +kernel
theorem d_F_times_356 : decode b_F_times 356 = .ok (.lload 25, 2) := by decide +kernel
theorem d_F_times_358 : decode b_F_times 358 = .ok (.lmul, 1) := by decide +kernel
theorem d_F_times_359 : decode b_F_times 359 = .ok (.ladd, 1) := by decide +kernel
theorem d_F_times_360 : decode b_F_times 360 = .ok (.lload 9, 2) := by decide +kernel
theorem d_F_times_362 : decode b_F_times 362 = .ok (.lload 23, 2) := by decide +kernel
theorem d_F_times_364 : decode b_F_times 364 = .ok (.lmul, 1) := by decide +kernel
theorem d_F_times_365 : decode b_F_times 365 = .ok (.ladd, 1) := by decide +kernel
theorem d_F_times_366 : decode b_F_times 366 = .ok (.ldc2_w 51, 3) := by decide +kernel
theorem d_F_times_369 : decode b_F_times 369 = .ok (.lload 11, 2) := by decide +kernel
theorem d_F_times_371 : decode b_F_times 371 = .ok (.lload 41, 2) := by decide +kernel
theorem d_F_times_373 : decode b_F_times 373 = .ok (.lmul, 1) := by decide +kernel
theorem d_F_times_374 : decode b_F_times 374 = .ok (.lload 13, 2) := by decide +kernel
theorem d_F_times_376 : decode b_F_times 376 = .ok (.lload 39, 2) := by decide +kernel
theorem d_F_times_378 : decode b_F_times 378 = .ok (.lmul, 1) := by decide +kernel
theorem d_F_times_379 : decode b_F_times 379 = .ok (.ladd, 1) := by decide +kernel
theorem d_F_times_380 : decode b_F_times 380 = .ok (.lload 15, 2) := by decide +kernel
theorem d_F_times_382 : decode b_F_times 382 = .ok (.lload 37, 2) := by decide +kernel
theorem d_F_times_384 : decode b_F_times 384 = .ok (.lmul, 1) := by decide +kernel
theorem d_F_times_385 : decode b_F_times 385 = .ok (.ladd, 1) := by decide +kernel
theorem d_F_times_386 : decode b_F_times 386 = .ok (.lload 17, 2) := by decide +kernel
theorem d_F_times_388 : decode b_F_times 388 = .ok (.lload 35, 2) := by decide +kernel
theorem d_F_times_390 : decode b_F_times 390 = .ok (.lmul, 1) := by decide +kernel
theorem d_F_times_391 : decode b_F_times 391 = .ok (.ladd, 1) := by decide +kernel
theorem d_F_times_392 : decode b_F_times 392 = .ok (.lload 19, 2) := by decide +kernel
theorem d_F_times_394 : decode b_F_times 394 = .ok (.lload 33, 2) := by decide +kernel
theorem d_F_times_396 : decode b_F_times 396 = .ok (.lmul, 1) := by decide +kernel
theorem d_F_times_397 : decode b_F_times 397 = .ok (.ladd, 1) := by decide +kernel
theorem d_F_times_398 : decode b_F_times 398 = .ok (.lload 21, 2) := by decide +kernel
end
section
theorem d_F_times_400 : decode b_F_times 400 = .ok (.lload 31, 2) := by decide +kernel
theorem d_F_times_402 : decode b_F_times 402 = .ok (.lmul, 1) := by decide +kernel
theorem d_F_times_403 : decode b_F_times 403 = .ok (.ladd, 1) := by decide +kernel
theorem d_F_times_404 : decode b_F_times 404 = .ok (.lmul, 1) := by decide +kernel
theorem d_F_times_405 : decode b_F_times 405 = .ok (.ladd, 1) := by decide +kernel
theorem d_F_times_406 : decode b_F_times 406 = .ok (.lastore, 1) := by decide +kernel
theorem d_F_times_407 : decode b_F_times 407 = .ok (.aload_n 0, 1) := by decide +kernel
theorem d_F_times_408 : decode b_F_times 408 = .ok (.iconst 4, 1) := by decide +kernel
theorem d_F_times_409 : decode b_F_times 409 = .ok (.lload_n 3, 1) := by decide +kernel
theorem d_F_times_410 : decode b_F_times 410 = .ok (.lload 31, 2) := by decide +kernel
theorem d_F_times_412 : decode b_F_times 412 = .ok (.lmul, 1) := by decide +kernel
theorem d_F_times_413 : decode b_F_times 413 = .ok (.lload 43, 2) := by decide +kernel
theorem d_F_times_415 : decode b_F_times 415 = .ok (.lload 29, 2) := by decide +kernel
theorem d_F_times_417 : decode b_F_times 417 = .ok (.lmul, 1) := by decide +kernel
theorem d_F_times_418 : decode b_F_times 418 = .ok (.ladd, 1) := by decide +kernel
theorem d_F_times_419 : decode b_F_times 419 = .ok (.lload 7, 2) := by decide +kernel
theorem d_F_times_421 : decode b_F_times 421 = .ok (.lload 27, 2) := by decide +kernel
theorem d_F_times_423 : decode b_F_times 423 = .ok (.lmul, 1) := by decide +kernel
theorem d_F_times_424 : decode b_F_times 424 = .ok (.ladd, 1) := by decide +kernel
theorem d_F_times_425 : decode b_F_times 425 = .ok (.lload 45, 2) := by decide +kernel
theorem d_F_times_427 : decode b_F_times 427 = .ok (.lload 25, 2) := by decide +kernel
theorem d_F_times_429 : decode b_F_times 429 = .ok (.lmul, 1) := by decide +kernel
theorem d_F_times_430 : decode b_F_times 430 = .ok (.ladd, 1) := by decide +kernel
theorem d_F_times_431 : decode b_F_times 431 = .ok (.lload 11, 2) := by decide +kernel
theorem d_F_times_433 : decode b_F_times 433 = .ok (.lload 23, 2) := by decide +kernel
theorem d_F_times_435 : decode b_F_times 435 = .ok (.lmul, 1) := by decide +kernel
theorem d_F_times_436 : decode b_F_times 436 = .ok (.ladd, 1) := by decide +kernel
theorem d_F_times_437 : decode b_F_times 437 = .ok (.ldc2_w 51, 3) := by decide +kernel
theorem d_F_times_440 : decode b_F_times 440 = .ok (.lload 47, 2) := by decide +kernel
theorem d_F_times_442 : decode b_F_times 442 = .ok (.lload 41, 2) := by decide +kernel
theorem d_F_times_444 : decode b_F_times 444 = .ok (.lmul, 1) := by decide +kernel
theorem d_F_times_445 : decode b_F_times 445 = .ok (.lload 15, 2) := by decide +kernel
theorem d_F_times_447 : decode b_F_times 447 = .ok (.lload 39, 2) := by decide +kernel
theorem d_F_times_449 : decode b_F_times 449 = .ok (.lmul, 1) := by decide +kernel
theorem d_F_times_450 : decode b_F_times 450 = .ok (.ladd, 1) := by decide +kernel
theorem d_F_times_451 : decode b_F_times 451 = .ok (.lload 49, 2) := by decide +kernel
theorem d_F_times_453 : decode b_F_times 453 = .ok (.lload 37, 2) := by decide +kernel
theorem d_F_times_455 : decode b_F_times 455 = .ok (.lmul, 1) := by decide +kernel
theorem d_F_times_456 : decode b_F_times 456 = .ok (.ladd, 1) := by decide +kernel
theorem d_F_times_457 : decode b_F_times 457 = .ok (.lload 19, 2) := by decide +kernel
theorem d_F_times_459 : decode b_F_times 459 = .ok (.lload 35, 2) := by decide +kernel
theorem d_F_times_461 : decode b_F_times 461 = .ok (.lmul, 1) := by decide +kernel
theorem d_F_times_462 : decode b_F_times 462 = .ok (.ladd, 1) := by decide +kernel
theorem d_F_times_463 : decode b_F_times 463 = .ok (.lload 51, 2) := by decide +kernel
theorem d_F_times_465 : decode b_F_times 465 = .ok (.lload 33, 2) := by decide +kernel
theorem d_F_times_467 : decode b_F_times 467 = .ok (.lmul, 1) := by decide +kernel
theorem d_F_times_468 : decode b_F_times 468 = .ok (.ladd, 1) := by decide +kernel
theorem d_F_times_469 : decode b_F_times 469 = .ok (.lmul, 1) := by decide +kernel
theorem d_F_times_470 : decode b_F_times 470 = .ok (.ladd, 1) := by decide +kernel
theorem d_F_times_471 : decode b_F_times 471 = .ok (.lastore, 1) := by decide +kernel
theorem d_F_times_472 : decode b_F_times 472 = .ok (.aload_n 0, 1) := by decide +kernel
theorem d_F_times_473 : decode b_F_times 473 = .ok (.iconst 5, 1) := by decide +kernel
theorem d_F_times_474 : decode b_F_times 474 = .ok (.lload_n 3, 1) := by decide +kernel
theorem d_F_times_475 : decode b_F_times 475 = .ok (.lload 33, 2) := by decide +kernel
theorem d_F_times_477 : decode b_F_times 477 = .ok (.lmul, 1) := by decide +kernel
theorem d_F_times_478 : decode b_F_times 478 = .ok (.lload 5, 2) := by decide +kernel
theorem d_F_times_480 : decode b_F_times 480 = .ok (.lload 31, 2) := by decide +kernel
theorem d_F_times_482 : decode b_F_times 482 = .ok (.lmul, 1) := by decide +kernel
theorem d_F_times_483 : decode b_F_times 483 = .ok (.ladd, 1) := by decide +kernel
theorem d_F_times_484 : decode b_F_times 484 = .ok (.lload 7, 2) := by decide +kernel
theorem d_F_times_486 : decode b_F_times 486 = .ok (.lload 29, 2) := by decide +kernel
theorem d_F_times_488 : decode b_F_times 488 = .ok (.lmul, 1) := by decide +kernel
theorem d_F_times_489 : decode b_F_times 489 = .ok (.ladd, 1) := by decide +kernel
theorem d_F_times_490 : decode b_F_times 490 = .ok (.lload 9, 2) := by decide +kernel
theorem d_F_times_492 : decode b_F_times 492 = .ok (.lload 27, 2) := by decide +kernel
theorem d_F_times_494 : decode b_F_times 494 = .ok (.lmul, 1) := by decide +kernel
theorem d_F_times_495 : decode b_F_times 495 = .ok (.ladd, 1) := by decide +kernel
theorem d_F_times_496 : decode b_F_times 496 = .ok (.lload 11, 2) := by decide +kernel
theorem d_F_times_498 : decode b_F_times 498 = .ok (.lload 25, 2) := by decide +kernel
theorem d_F_times_500 : decode b_F_times 500 = .ok (.lmul, 1) := by decide +kernel
theorem d_F_times_501 : decode b_F_times 501 = .ok (.ladd, 1) := by decide +kernel
theorem d_F_times_502 : decode b_F_times 502 = .ok (.lload 13, 2) := by decide +kernel
theorem d_F_times_504 : decode b_F_times 504 = .ok (.lload 23, 2) := by decide +kernel
theorem d_F_times_506 : decode b_F_times 506 = .ok (.lmul, 1) := by decide +kernel
theorem d_F_times_507 : decode b_F_times 507 = .ok (.ladd, 1) := by decide +kernel
theorem d_F_times_508 : decode b_F_times 508 = .ok (.ldc2_w 51, 3) := by decide +kernel
theorem d_F_times_511 : decode b_F_times 511 = .ok (.lload 15, 2) := by decide +kernel
theorem d_F_times_513 : decode b_F_times 513 = .ok (.lload 41, 2) := by decide +kernel
theorem d_F_times_515 : decode b_F_times 515 = .ok (.lmul, 1) := by decide +kernel
theorem d_F_times_516 : decode b_F_times 516 = .ok (.lload 17, 2) := by decide +kernel
theorem d_F_times_518 : decode b_F_times 518 = .ok (.lload 39, 2) := by decide +kernel
theorem d_F_times_520 : decode b_F_times 520 = .ok (.lmul, 1) := by decide +kernel
theorem d_F_times_521 : decode b_F_times 521 = .ok (.ladd, 1) := by decide +kernel
theorem d_F_times_522 : decode b_F_times 522 = .ok (.lload 19, 2) := by decide +kernel
theorem d_F_times_524 : decode b_F_times 524 = .ok (.lload 37, 2) := by decide +kernel
theorem d_F_times_526 : decode b_F_times 526 = .ok (.lmul, 1) := by decide +kernel
theorem d_F_times_527 : decode b_F_times 527 = .ok (.ladd, 1) := by decide +kernel
theorem d_F_times_528 : decode b_F_times 528 = .ok (.lload 21, 2) := by decide +kernel
theorem d_F_times_530 : decode b_F_times 530 = .ok (.lload 35, 2) := by decide +kernel
theorem d_F_times_532 : decode b_F_times 532 = .ok (.lmul, 1) := by decide +kernel
theorem d_F_times_533 : decode b_F_times 533 = .ok (.ladd, 1) := by decide +kernel
theorem d_F_times_534 : decode b_F_times 534 = .ok (.lmul, 1) := by decide +kernel
theorem d_F_times_535 : decode b_F_times 535 = .ok (.ladd, 1) := by decide +kernel
theorem d_F_times_536 : decode b_F_times 536 = .ok (.lastore, 1) := by decide +kernel
theorem d_F_times_537 : decode b_F_times 537 = .ok (.aload_n 0, 1) := by decide +kernel
theorem d_F_times_538 : decode b_F_times 538 = .ok (.bipush 6, 2) := by decide +kernel
theorem d_F_times_540 : decode b_F_times 540 = .ok (.lload_n 3, 1) := by decide +kernel
theorem d_F_times_541 : decode b_F_times 541 = .ok (.lload 35, 2) := by decide +kernel
theorem d_F_times_543 : decode b_F_times 543 = .ok (.lmul, 1) := by decide +kernel
theorem d_F_times_544 : decode b_F_times 544 = .ok (.lload 43, 2) := by decide +kernel
theorem d_F_times_546 : decode b_F_times 546 = .ok (.lload 33, 2) := by decide +kernel
theorem d_F_times_548 : decode b_F_times 548 = .ok (.lmul, 1) := by decide +kernel
theorem d_F_times_549 : decode b_F_times 549 = .ok (.ladd, 1) := by decide +kernel
theorem d_F_times_550 : decode b_F_times 550 = .ok (.lload 7, 2) := by decide +kernel
theorem d_F_times_552 : decode b_F_times 552 = .ok (.lload 31, 2) := by decide +kernel
theorem d_F_times_554 : decode b_F_times 554 = .ok (.lmul, 1) := by decide +kernel
theorem d_F_times_555 : decode b_F_times 555 = .ok (.ladd, 1) := by decide +kernel
theorem d_F_times_556 : decode b_F_times 556 = .ok (.lload 45, 2) := by decide +kernel
theorem d_F_times_558 : decode b_F_times 558 = .ok (.lload 29, 2) := by decide +kernel
theorem d_F_times_560 : decode b_F_times 560 = .ok (.lmul, 1) := by decide +kernel
theorem d_F_times_561 : decode b_F_times 561 = .ok (.ladd, 1) := by decide +kernel
theorem d_F_times_562 : decode b_F_times 562 = .ok (.lload 11, 2) := by decide +kernel
theorem d_F_times_564 : decode b_F_times 564 = .ok (.lload 27, 2) := by decide +kernel
theorem d_F_times_566 : decode b_F_times 566 = .ok (.lmul, 1) := by decide +kernel
theorem d_F_times_567 : decode b_F_times 567 = .ok (.ladd, 1) := by decide +kernel
theorem d_F_times_568 : decode b_F_times 568 = .ok (.lload 47, 2) := by decide +kernel
theorem d_F_times_570 : decode b_F_times 570 = .ok (.lload 25, 2) := by decide +kernel
theorem d_F_times_572 : decode b_F_times 572 = .ok (.lmul, 1) := by decide +kernel
theorem d_F_times_573 : decode b_F_times 573 = .ok (.ladd, 1) := by decide +kernel
theorem d_F_times_574 : decode b_F_times 574 = .ok (.lload 15, 2) := by decide +kernel
theorem d_F_times_576 : decode b_F_times 576 = .ok (.lload 23, 2) := by decide +kernel
theorem d_F_times_578 : decode b_F_times 578 = .ok (.lmul, 1) := by decide +kernel
theorem d_F_times_579 : decode b_F_times 579 = .ok (.ladd, 1) := by decide +kernel
theorem d_F_times_580 : decode b_F_times 580 = .ok (.ldc2_w 51, 3) := by decide +kernel
theorem d_F_times_583 : decode b_F_times 583 = .ok (.lload 49, 2) := by decide +kernel
theorem d_F_times_585 : decode b_F_times 585 = .ok (.lload 41, 2) := by decide +kernel
theorem d_F_times_587 : decode b_F_times 587 = .ok (.lmul, 1) := by decide +kernel
theorem d_F_times_588 : decode b_F_times 588 = .ok (.lload 19, 2) := by decide +kernel
theorem d_F_times_590 : decode b_F_times 590 = .ok (.lload 39, 2) := by decide +kernel
theorem d_F_times_592 : decode b_F_times 592 = .ok (.lmul, 1) := by decide +kernel
theorem d_F_times_593 : decode b_F_times 593 = .ok (.ladd, 1) := by decide +kernel
theorem d_F_times_594 : decode b_F_times 594 = .ok (.lload 51, 2) := by decide +kernel
theorem d_F_times_596 : decode b_F_times 596 = .ok (.lload 37, 2) := by decide +kernel
theorem d_F_times_598 : decode b_F_times 598 = .ok (.lmul, 1) := by decide +kernel
theorem d_F_times_599 : decode b_F_times 599 = .ok (.ladd, 1) := by decide +kernel
theorem d_F_times_600 : decode b_F_times 600 = .ok (.lmul, 1) := by decide +kernel
theorem d_F_times_601 : decode b_F_times 601 = .ok (.ladd, 1) := by decide +kernel
theorem d_F_times_602 : decode b_F_times 602 = .ok (.lastore, 1) := by decide +kernel
theorem d_F_times_603 : decode b_F_times 603 = .ok (.aload_n 0, 1) := by decide +kernel
theorem d_F_times_604 : decode b_F_times 604 = .ok (.bipush 7, 2) := by decide +kernel
theorem d_F_times_606 : decode b_F_times 606 = .ok (.lload_n 3, 1) := by decide +kernel
theorem d_F_times_607 : decode b_F_times 607 = .ok (.lload 37, 2) := by decide +kernel
theorem d_F_times_609 : decode b_F_times 609 = .ok (.lmul, 1) := by decide +kernel
theorem d_F_times_610 : decode b_F_times 610 = .ok (.lload 5, 2) := by decide +kernel
theorem d_F_times_612 : decode b_F_times 612 = .ok (.lload 35, 2) := by decide +kernel
theorem d_F_times_614 : decode b_F_times 614 = .ok (.lmul, 1) := by decide +kernel
theorem d_F_times_615 : decode b_F_times 615 = .ok (.ladd, 1) := by decide +kernel
theorem d_F_times_616 : decode b_F_times 616 = .ok (.lload 7, 2) := by decide +kernel
theorem d_F_times_618 : decode b_F_times 618 = .ok (.lload 33, 2) := by decide +kernel
theorem d_F_times_620 : decode b_F_times 620 = .ok (.lmul, 1) := by decide +kernel
theorem d_F_times_621 : decode b_F_times 621 = .ok (.ladd, 1) := by decide +kernel
theorem d_F_times_622 : decode b_F_times 622 = .ok (.lload 9, 2) := by decide +kernel
theorem d_F_times_624 : decode b_F_times 624 = .ok (.lload 31, 2) := by decide +kernel
theorem d_F_times_626 : decode b_F_times 626 = .ok (.lmul, 1) := by decide +kernel
theorem d_F_times_627 : decode b_F_times 627 = .ok (.ladd, 1) := by decide +kernel
theorem d_F_times_628 : decode b_F_times 628 = .ok (.lload 11, 2) := by decide +kernel
theorem d_F_times_630 : decode b_F_times 630 = .ok (.lload 29, 2) := by decide +kernel
theorem d_F_times_632 : decode b_F_times 632 = .ok (.lmul, 1) := by decide +kernel
theorem d_F_times_633 : decode b_F_times 633 = .ok (.ladd, 1) := by decide +kernel
theorem d_F_times_634 : decode b_F_times 634 = .ok (.lload 13, 2) := by decide +kernel
theorem d_F_times_636 : decode b_F_times 636 = .ok (.lload 27, 2) := by decide +kernel
theorem d_F_times_638 : decode b_F_times 638 = .ok (.lmul, 1) := by decide +kernel
theorem d_F_times_639 : decode b_F_times 639 = .ok (.ladd, 1) := by decide +kernel
theorem d_F_times_640 : decode b_F_times 640 = .ok (.lload 15, 2) := by decide +kernel
theorem d_F_times_642 : decode b_F_times 642 = .ok (.lload 25, 2) := by decide +kernel
theorem d_F_times_644 : decode b_F_times 644 = .ok (.lmul, 1) := by decide +kernel
theorem d_F_times_645 : decode b_F_times 645 = .ok (.ladd, 1) := by decide +kernel
theorem d_F_times_646 : decode b_F_times 646 = .ok (.lload 17, 2) := by decide +kernel
theorem d_F_times_648 : decode b_F_times 648 = .ok (.lload 23, 2) := by decide +kernel
theorem d_F_times_650 : decode b_F_times 650 = .ok (.lmul, 1) := by decide +kernel
theorem d_F_times_651 : decode b_F_times 651 = .ok (.ladd, 1) := by decide +kernel
theorem d_F_times_652 : decode b_F_times 652 = .ok (.ldc2_w 51, 3) := by decide +kernel
theorem d_F_times_655 : decode b_F_times 655 = .ok (.lload 19, 2) := by decide +kernel
theorem d_F_times_657 : decode b_F_times 657 = .ok (.lload 41, 2) := by decide +kernel
theorem d_F_times_659 : decode b_F_times 659 = .ok (.lmul, 1) := by decide +kernel
theorem d_F_times_660 : decode b_F_times 660 = .ok (.lload 21, 2) := by decide +kernel
theorem d_F_times_662 : decode b_F_times 662 = .ok (.lload 39, 2) := by decide +kernel
theorem d_F_times_664 : decode b_F_times 664 = .ok (.lmul, 1) := by decide +kernel
theorem d_F_times_665 : decode b_F_times 665 = .ok (.ladd, 1) := by decide +kernel
theorem d_F_times_666 : decode b_F_times 666 = .ok (.lmul, 1) := by decide +kernel
theorem d_F_times_667 : decode b_F_times 667 = .ok (.ladd, 1) := by decide +kernel
theorem d_F_times_668 : decode b_F_times 668 = .ok (.lastore, 1) := by decide +kernel
theorem d_F_times_669 : decode b_F_times 669 = .ok (.aload_n 0, 1) := by decide +kernel
theorem d_F_times_670 : decode b_F_times 670 = .ok (.bipush 8, 2) := by decide +kernel
theorem d_F_times_672 : decode b_F_times 672 = .ok (.lload_n 3, 1) := by decide +kernel
theorem d_F_times_673 : decode b_F_times 673 = .ok (.lload 39, 2) := by decide +kernel
theorem d_F_times_675 : decode b_F_times 675 = .ok (.lmul, 1) := by decide +kernel
theorem d_F_times_676 : decode b_F_times 676 = .ok (.lload 43, 2) := by decide +kernel
theorem d_F_times_678 : decode b_F_times 678 = .ok (.lload 37, 2) := by decide +kernel
theorem d_F_times_680 : decode b_F_times 680 = .ok (.lmul, 1) := by decide +kernel
theorem d_F_times_681 : decode b_F_times 681 = .ok (.ladd, 1) := by decide +kernel
theorem d_F_times_682 : decode b_F_times 682 = .ok (.lload 7, 2) := by decide +kernel
theorem d_F_times_684 : decode b_F_times 684 = .ok (.lload 35, 2) := by decide +kernel
theorem d_F_times_686 : decode b_F_times 686 = .ok (.lmul, 1) := by decide +kernel
theorem d_F_times_687 : decode b_F_times 687 = .ok (.ladd, 1) := by decide +kernel
theorem d_F_times_688 : decode b_F_times 688 = .ok (.lload 45, 2) := by decide +kernel
theorem d_F_times_690 : decode b_F_times 690 = .ok (.lload 33, 2) := by decide +kernel
theorem d_F_times_692 : decode b_F_times 692 = .ok (.lmul, 1) := by decide +kernel
theorem d_F_times_693 : decode b_F_times 693 = .ok (.ladd, 1) := by decide +kernel
theorem d_F_times_694 : decode b_F_times 694 = .ok (.lload 11, 2) := by decide +kernel
theorem d_F_times_696 : decode b_F_times 696 = .ok (.lload 31, 2) := by decide +kernel
theorem d_F_times_698 : decode b_F_times 698 = .ok (.lmul, 1) := by decide +kernel
theorem d_F_times_699 : decode b_F_times 699 = .ok (.ladd, 1) := by decide +kernel
theorem d_F_times_700 : decode b_F_times 700 = .ok (.lload 47, 2) := by decide +kernel
theorem d_F_times_702 : decode b_F_times 702 = .ok (.lload 29, 2) := by decide +kernel
theorem d_F_times_704 : decode b_F_times 704 = .ok (.lmul, 1) := by decide +kernel
theorem d_F_times_705 : decode b_F_times 705 = .ok (.ladd, 1) := by decide +kernel
theorem d_F_times_706 : decode b_F_times 706 = .ok (.lload 15, 2) := by decide +kernel
theorem d_F_times_708 : decode b_F_times 708 = .ok (.lload 27, 2) := by decide +kernel
theorem d_F_times_710 : decode b_F_times 710 = .ok (.lmul, 1) := by decide +kernel
theorem d_F_times_711 : decode b_F_times 711 = .ok (.ladd, 1) := by decide +kernel
theorem d_F_times_712 : decode b_F_times 712 = .ok (.lload 49, 2) := by decide +kernel
theorem d_F_times_714 : decode b_F_times 714 = .ok (.lload 25, 2) := by decide +kernel
theorem d_F_times_716 : decode b_F_times 716 = .ok (.lmul, 1) := by decide +kernel
theorem d_F_times_717 : decode b_F_times 717 = .ok (.ladd, 1) := by decide +kernel
theorem d_F_times_718 : decode b_F_times 718 = .ok (.lload 19, 2) := by decide +kernel
theorem d_F_times_720 : decode b_F_times 720 = .ok (.lload 23, 2) := by decide +kernel
theorem d_F_times_722 : decode b_F_times 722 = .ok (.lmul, 1) := by decide +kernel
theorem d_F_times_723 : decode b_F_times 723 = .ok (.ladd, 1) := by decide +kernel
theorem d_F_times_724 : decode b_F_times 724 = .ok (.ldc2_w 51, 3) := by decide +kernel
theorem d_F_times_727 : decode b_F_times 727 = .ok (.lload 51, 2) := by decide +kernel
theorem d_F_times_729 : decode b_F_times 729 = .ok (.lload 41, 2) := by decide +kernel
theorem d_F_times_731 : decode b_F_times 731 = .ok (.lmul, 1) := by decide +kernel
theorem d_F_times_732 : decode b_F_times 732 = .ok (.lmul, 1) := by decide +kernel
theorem d_F_times_733 : decode b_F_times 733 = .ok (.ladd, 1) := by decide +kernel
theorem d_F_times_734 : decode b_F_times 734 = .ok (.lastore, 1) := by decide +kernel
theorem d_F_times_735 : decode b_F_times 735 = .ok (.aload_n 0, 1) := by decide +kernel
theorem d_F_times_736 : decode b_F_times 736 = .ok (.bipush 9, 2) := by decide +kernel
theorem d_F_times_738 : decode b_F_times 738 = .ok (.lload_n 3, 1) := by decide +kernel
theorem d_F_times_739 : decode b_F_times 739 = .ok (.lload 41, 2) := by decide +kernel
theorem d_F_times_741 : decode b_F_times 741 = .ok (.lmul, 1) := by decide +kernel
theorem d_F_times_742 : decode b_F_times 742 = .ok (.lload 5, 2) := by decide +kernel
theorem d_F_times_744 : decode b_F_times 744 = .ok (.lload 39, 2) := by decide +kernel
theorem d_F_times_746 : decode b_F_times 746 = .ok (.lmul, 1) := by decide +kernel
theorem d_F_times_747 : decode b_F_times 747 = .ok (.ladd, 1) := by decide +kernel
theorem d_F_times_748 : decode b_F_times 748 = .ok (.lload 7, 2) := by decide +kernel
theorem d_F_times_750 : decode b_F_times 750 = .ok (.lload 37, 2) := by decide +kernel
theorem d_F_times_752 : decode b_F_times 752 = .ok (.lmul, 1) := by decide +kernel
theorem d_F_times_753 : decode b_F_times 753 = .ok (.ladd, 1) := by decide +kernel
theorem d_F_times_754 : decode b_F_times 754 = .ok (.lload 9, 2) := by decide +kernel
theorem d_F_times_756 : decode b_F_times 756 = .ok (.lload 35, 2) := by decide +kernel
theorem d_F_times_758 : decode b_F_times 758 = .ok (.lmul, 1) := by decide +kernel
theorem d_F_times_759 : decode b_F_times 759 = .ok (.ladd, 1) := by decide +kernel
theorem d_F_times_760 : decode b_F_times 760 = .ok (.lload 11, 2) := by decide +kernel
theorem d_F_times_762 : decode b_F_times 762 = .ok (.lload 33, 2) := by decide +kernel
theorem d_F_times_764 : decode b_F_times 764 = .ok (.lmul, 1) := by decide +kernel
theorem d_F_times_765 : decode b_F_times 765 = .ok (.ladd, 1) := by decide +kernel
theorem d_F_times_766 : decode b_F_times 766 = .ok (.lload 13, 2) := by decide +kernel
theorem d_F_times_768 : decode b_F_times 768 = .ok (.lload 31, 2) := by decide +kernel
theorem d_F_times_770 : decode b_F_times 770 = .ok (.lmul, 1) := by decide +kernel
theorem d_F_times_771 : decode b_F_times 771 = .ok (.ladd, 1) := by decide +kernel
theorem d_F_times_772 : decode b_F_times 772 = .ok (.lload 15, 2) := by decide +kernel
theorem d_F_times_774 : decode b_F_times 774 = .ok (.lload 29, 2) := by decide +kernel
theorem d_F_times_776 : decode b_F_times 776 = .ok (.lmul, 1) := by decide +kernel
theorem d_F_times_777 : decode b_F_times 777 = .ok (.ladd, 1) := by decide +kernel
theorem d_F_times_778 : decode b_F_times 778 = .ok (.lload 17, 2) := by decide +kernel
theorem d_F_times_780 : decode b_F_times 780 = .ok (.lload 27, 2) := by decide +kernel
theorem d_F_times_782 : decode b_F_times 782 = .ok (.lmul, 1) := by decide +kernel
theorem d_F_times_783 : decode b_F_times 783 = .ok (.ladd, 1) := by decide +kernel
theorem d_F_times_784 : decode b_F_times 784 = .ok (.lload 19, 2) := by decide +kernel
theorem d_F_times_786 : decode b_F_times 786 = .ok (.lload 25, 2) := by decide +kernel
theorem d_F_times_788 : decode b_F_times 788 = .ok (.lmul, 1) := by decide +kernel
theorem d_F_times_789 : decode b_F_times 789 = .ok (.ladd, 1) := by decide +kernel
theorem d_F_times_790 : decode b_F_times 790 = .ok (.lload 21, 2) := by decide +kernel
theorem d_F_times_792 : decode b_F_times 792 = .ok (.lload 23, 2) := by decide +kernel
theorem d_F_times_794 : decode b_F_times 794 = .ok (.lmul, 1) := by decide +kernel
theorem d_F_times_795 : decode b_F_times 795 = .ok (.ladd, 1) := by decide +kernel
theorem d_F_times_796 : decode b_F_times 796 = .ok (.lastore, 1) := by decide +kernel
theorem d_F_times_797 : decode b_F_times 797 = .ok (.aload_n 0, 1) := by decide +kernel
theorem d_F_times_798 : decode b_F_times 798 = .ok (.invokestatic 45, 3) := by decide +kernel
theorem d_F_times_801 : decode b_F_times 801 = .ok (.return_, 1) := by decide +kernel
end
section
theorem w_F_33 : sx_w [.methodLink R_F 33 y_JA_fill, .static y_JA_fill, .initialized y_JA_fill.cls, .code y_JA_fill b_JA_fill 5 none] y_JA_fill 2 := ⟨by decide +kernel, by decide +kernel⟩
theorem w_F_45 : sx_w [.methodLink R_F 45 y_F_carry, .static y_F_carry, .initialized y_F_carry.cls, .code y_F_carry b_F_carry 8 none] y_F_carry 1 := ⟨by decide +kernel, by decide +kernel⟩
end
section
abbrev rm_JA_fill : Room := { frames := 0, cells := 0, slots := 0, locals := 0 }
set_option maxHeartbeats 4000000 in
set_option maxRecDepth 100000 in
theorem c_JA_fill {l : Launch} {D : va_G} {g : ClassId → FieldType → Prop} {E : Nat → Prop} {H0 : Heap} {a0 : Nat} {v1 : Int64} (f0 : sx_A g .long H0 a0 10) (x0 : sx_L H0 a0 10) (o0 : E a0) : Met l y_JA_fill (.code y_JA_fill b_JA_fill 5 none :: G_) rm_JA_fill (sx_Pc [.ref a0, .long v1] H0 D g) (sx_Qv g E H0) 0 0 E := by
  refine sx_mv (own := R_JA) (by decide) rfl rfl rfl (Nat.le_of_ble_eq_true rfl) ?_
  intro p e s m args below meth c Q ls EE hl hret
  obtain ⟨hx, hb, hml, hown, hts, hG, hK⟩ := id EE
  have hS : sx_S g E E H0 H0 [] := sx_S.rf
  have hl : lv_has ls 5 [(0, .ref a0), (1, .long v1)] := hl
  refine lv_iconst (v := nI 0) hx hb d_JA_fill_0 (by decide +kernel) ?_
  refine lv_istore_n (lv' := [(3, .int (nI (0))), (0, .ref a0), (1, .long v1)]) hx hb d_JA_fill_1 rfl hl (by decide) rfl (fun ls hl => ?_)
  refine lv_aload_n hx hb d_JA_fill_2 rfl (lv_at hl 1 rfl) ?_
  refine sx_alen hx hb hG hS f0 x0 d_JA_fill_3 ?_
  refine lv_istore (lv' := [(4, .int (nI (10))), (3, .int (nI (0))), (0, .ref a0), (1, .long v1)]) hx hb d_JA_fill_4 hl (by decide) rfl (fun ls hl => ?_)
  have lp6 : ∀ (k i1 : Nat) (H : Heap) (locs : List Loc) (ls : Array Slot), i1 + k = 10 → sx_S g E E H0 H locs → lv_has ls 5 [(4, .int (nI (10))), (3, .int (nI (i1))), (0, .ref a0), (1, .long v1)] → W p l e rm_JA_fill s m args below meth c H locs 0 0 Q (F0 m 6 ls []) := by
    intro k
    induction k with
    | zero =>
      intro i1  H locs ls hi  hS hl
      refine lv_iload_n hx hb d_JA_fill_6 rfl (lv_at hl 1 rfl) ?_
      refine lv_iload hx hb d_JA_fill_7 (lv_at hl 0 rfl) ?_
      refine lv_icmp_ge (tgt := 22) hx hb d_JA_fill_9 (by decide) (fun _ => ?_) (fun q => absurd (nI_le (by omega) (by omega)) q)
      exact hret _ _ _ _ hS d_JA_fill_22
    | succ k ih6 =>
      intro i1  H locs ls hi  hS hl
      refine lv_iload_n hx hb d_JA_fill_6 rfl (lv_at hl 1 rfl) ?_
      refine lv_iload hx hb d_JA_fill_7 (lv_at hl 0 rfl) ?_
      refine lv_icmp_ge (tgt := 22) hx hb d_JA_fill_9 (by decide) (fun q => absurd q (nI_ge (by omega) (by omega))) (fun _ => ?_)
      refine lv_aload_n hx hb d_JA_fill_12 rfl (lv_at hl 2 rfl) ?_
      refine lv_iload_n hx hb d_JA_fill_13 rfl (lv_at hl 1 rfl) ?_
      refine lv_lload_n hx hb d_JA_fill_14 rfl (lv_at hl 3 rfl) ?_
      refine sx_last hx hb hG hS f0 o0 (sx_in (by omega) (by decide)) d_JA_fill_15 (fun H locs hS => ?_)
      refine lv_iinc (v := nI (i1 + 1)) (lv' := [(3, .int (nI (i1 + 1))), (4, .int (nI (10))), (0, .ref a0), (1, .long v1)]) hx hb d_JA_fill_16 hl (k := 1) rfl (sx_inc _ _) (by decide) rfl (fun ls hl => ?_)
      refine lv_goto (tgt := 6) hx hb d_JA_fill_19 (by decide) ?_
      exact ih6 (i1 + 1)  _ _ _ (by omega)  hS (lv_sub hl [1, 0, 2, 3] rfl)
  exact lp6 (10) 0  _ _ _ (by omega)  hS (lv_sub hl [0, 1, 2, 3] rfl)
abbrev rm_F_set : Room := { frames := 1, cells := 0, slots := 0, locals := 24 }
set_option maxHeartbeats 4000000 in
set_option maxRecDepth 100000 in
theorem c_F_set {l : Launch} {D : va_G} {g : ClassId → FieldType → Prop} {E : Nat → Prop} {H0 : Heap} {a0 : Nat} {v1 : Int64} (f0 : sx_A g .long H0 a0 10) (x0 : sx_L H0 a0 10) (o0 : E a0) : Met l y_F_set (.code y_F_set b_F_set 3 none :: G_) rm_F_set (sx_Pc [.ref a0, .long v1] H0 D g) (sx_Qv g E H0) 0 0 E := by
  refine sx_mv (own := R_F) (by decide) rfl rfl rfl (Nat.le_of_ble_eq_true rfl) ?_
  intro p e s m args below meth c Q ls EE hl hret
  obtain ⟨hx, hb, hml, hown, hts, hG, hK⟩ := id EE
  have hS : sx_S g E E H0 H0 [] := sx_S.rf
  have hl : lv_has ls 3 [(0, .ref a0), (1, .long v1)] := hl
  refine lv_aload_n hx hb d_F_set_0 rfl (lv_at hl 0 rfl) ?_
  refine lv_lconst (v := 0) hx hb d_F_set_1 (by decide +kernel) ?_
  refine sx_gv (sx_runS (As := [.ref a0, .long 0]) (rest := []) EE (c_JA_fill (hS.a f0) (hS.1.2.2.2 _ _ x0) o0) w_F_33 rfl ⟨rfl, rfl⟩ ⟨Nat.le_of_ble_eq_true rfl, Nat.le_of_ble_eq_true rfl⟩ ⟨Nat.zero_le _, Nat.zero_le _⟩ hl.1 rfl (Nat.le_of_ble_eq_true rfl) d_F_set_2) hS (fun H locs hS => ?_)
  refine lv_aload_n hx hb d_F_set_5 rfl (lv_at hl 0 rfl) ?_
  refine lv_iconst (v := nI 0) hx hb d_F_set_6 (by decide +kernel) ?_
  refine lv_lload_n hx hb d_F_set_7 rfl (lv_at hl 1 rfl) ?_
  refine sx_last hx hb hG hS f0 o0 (sx_in (by omega) (by decide)) d_F_set_8 (fun H locs hS => ?_)
  exact hret _ _ _ _ hS d_F_set_9
abbrev rm_F_copy : Room := { frames := 1, cells := 0, slots := 0, locals := 100 }
set_option maxHeartbeats 4000000 in
set_option maxRecDepth 100000 in
theorem c_F_copy {l : Launch} {D : va_G} {g : ClassId → FieldType → Prop} {E : Nat → Prop} {H0 : Heap} {a0 : Nat} {a1 : Nat} (f0 : sx_A g .long H0 a0 10) (o0 : E a0) (f1 : sx_A g .long H0 a1 10) : Met l y_F_copy (.code y_F_copy b_F_copy 2 none :: G_) rm_F_copy (sx_Pc [.ref a0, .ref a1] H0 D g) (sx_Qv g E H0) 0 0 E := by
  refine sx_mv (own := R_F) (by decide) rfl rfl rfl (Nat.le_of_ble_eq_true rfl) ?_
  intro p e s m args below meth c Q ls EE hl hret
  obtain ⟨hx, hb, hml, hown, hts, hG, hK⟩ := id EE
  have hS : sx_S g E E H0 H0 [] := sx_S.rf
  have hl : lv_has ls 2 [(0, .ref a0), (1, .ref a1)] := hl
  refine lv_aload_n hx hb d_F_copy_0 rfl (lv_at hl 1 rfl) ?_
  refine lv_iconst (v := nI 0) hx hb d_F_copy_1 (by decide +kernel) ?_
  refine lv_aload_n hx hb d_F_copy_2 rfl (lv_at hl 0 rfl) ?_
  refine lv_iconst (v := nI 0) hx hb d_F_copy_3 (by decide +kernel) ?_
  refine lv_bipush (v := nI 10) hx hb d_F_copy_4 (by decide +kernel) ?_
  refine sx_cpy hx hb (by rw [hml]; exact hl.1.symm) hown (hts (.methodLink R_F 39 arraycopyName) (by decide +kernel)) (hts (.native arraycopyName) (by decide +kernel)) (hts (.static arraycopyName) (by decide +kernel)) (hts (.initialized "java/lang/System") (by decide +kernel)) hG hS (f1.le (by decide)) (f0.le (by decide)) o0 (by decide) (Nat.le_of_ble_eq_true rfl) (Nat.le_of_ble_eq_true rfl) d_F_copy_6 (fun H locs hS => ?_)
  exact hret _ _ _ _ hS d_F_copy_9
abbrev rm_F_add : Room := { frames := 0, cells := 0, slots := 0, locals := 0 }
set_option maxHeartbeats 4000000 in
set_option maxRecDepth 100000 in
theorem c_F_add {l : Launch} {D : va_G} {g : ClassId → FieldType → Prop} {E : Nat → Prop} {H0 : Heap} {a0 : Nat} {a1 : Nat} {a2 : Nat} (f0 : sx_A g .long H0 a0 10) (o0 : E a0) (f1 : sx_A g .long H0 a1 10) (f2 : sx_A g .long H0 a2 10) : Met l y_F_add (.code y_F_add b_F_add 4 none :: G_) rm_F_add (sx_Pc [.ref a0, .ref a1, .ref a2] H0 D g) (sx_Qv g E H0) 0 0 E := by
  refine sx_mv (own := R_F) (by decide) rfl rfl rfl (Nat.le_of_ble_eq_true rfl) ?_
  intro p e s m args below meth c Q ls EE hl hret
  obtain ⟨hx, hb, hml, hown, hts, hG, hK⟩ := id EE
  have hS : sx_S g E E H0 H0 [] := sx_S.rf
  have hl : lv_has ls 4 [(0, .ref a0), (1, .ref a1), (2, .ref a2)] := hl
  refine lv_iconst (v := nI 0) hx hb d_F_add_0 (by decide +kernel) ?_
  refine lv_istore_n (lv' := [(3, .int (nI (0))), (0, .ref a0), (1, .ref a1), (2, .ref a2)]) hx hb d_F_add_1 rfl hl (by decide) rfl (fun ls hl => ?_)
  have lp2 : ∀ (k i1 : Nat) (H : Heap) (locs : List Loc) (ls : Array Slot), i1 + k = 10 → sx_S g E E H0 H locs → lv_has ls 4 [(3, .int (nI (i1))), (0, .ref a0), (1, .ref a1), (2, .ref a2)] → W p l e rm_F_add s m args below meth c H locs 0 0 Q (F0 m 2 ls []) := by
    intro k
    induction k with
    | zero =>
      intro i1  H locs ls hi  hS hl
      refine lv_iload_n hx hb d_F_add_2 rfl (lv_at hl 0 rfl) ?_
      refine lv_bipush (v := nI 10) hx hb d_F_add_3 (by decide +kernel) ?_
      refine lv_icmp_ge (tgt := 24) hx hb d_F_add_5 (by decide) (fun _ => ?_) (fun q => absurd (nI_le (by omega) (by omega)) q)
      exact hret _ _ _ _ hS d_F_add_24
    | succ k ih2 =>
      intro i1  H locs ls hi  hS hl
      refine lv_iload_n hx hb d_F_add_2 rfl (lv_at hl 0 rfl) ?_
      refine lv_bipush (v := nI 10) hx hb d_F_add_3 (by decide +kernel) ?_
      refine lv_icmp_ge (tgt := 24) hx hb d_F_add_5 (by decide) (fun q => absurd q (nI_ge (by omega) (by omega))) (fun _ => ?_)
      refine lv_aload_n hx hb d_F_add_8 rfl (lv_at hl 1 rfl) ?_
      refine lv_iload_n hx hb d_F_add_9 rfl (lv_at hl 0 rfl) ?_
      refine lv_aload_n hx hb d_F_add_10 rfl (lv_at hl 2 rfl) ?_
      refine lv_iload_n hx hb d_F_add_11 rfl (lv_at hl 0 rfl) ?_
      refine sx_lald hx hb hG hS f1 (sx_in (by omega) (by decide)) d_F_add_12 (fun z2 => ?_)
      refine lv_aload_n hx hb d_F_add_13 rfl (lv_at hl 3 rfl) ?_
      refine lv_iload_n hx hb d_F_add_14 rfl (lv_at hl 0 rfl) ?_
      refine sx_lald hx hb hG hS f2 (sx_in (by omega) (by decide)) d_F_add_15 (fun z3 => ?_)
      refine sx_ladd hx hb d_F_add_16 (fun z4 => ?_)
      refine sx_last hx hb hG hS f0 o0 (sx_in (by omega) (by decide)) d_F_add_17 (fun H locs hS => ?_)
      refine lv_iinc (v := nI (i1 + 1)) (lv' := [(3, .int (nI (i1 + 1))), (0, .ref a0), (1, .ref a1), (2, .ref a2)]) hx hb d_F_add_18 hl (k := 0) rfl (sx_inc _ _) (by decide) rfl (fun ls hl => ?_)
      refine lv_goto (tgt := 2) hx hb d_F_add_21 (by decide) ?_
      exact ih2 (i1 + 1)  _ _ _ (by omega)  hS (lv_sub hl [0, 1, 2, 3] rfl)
  exact lp2 (10) 0  _ _ _ (by omega)  hS (lv_sub hl [0, 1, 2, 3] rfl)
abbrev rm_F_subtract : Room := { frames := 0, cells := 0, slots := 0, locals := 0 }
set_option maxHeartbeats 4000000 in
set_option maxRecDepth 100000 in
theorem c_F_subtract {l : Launch} {D : va_G} {g : ClassId → FieldType → Prop} {E : Nat → Prop} {H0 : Heap} {a0 : Nat} {a1 : Nat} {a2 : Nat} (f0 : sx_A g .long H0 a0 10) (o0 : E a0) (f1 : sx_A g .long H0 a1 10) (f2 : sx_A g .long H0 a2 10) : Met l y_F_subtract (.code y_F_subtract b_F_subtract 4 none :: G_) rm_F_subtract (sx_Pc [.ref a0, .ref a1, .ref a2] H0 D g) (sx_Qv g E H0) 0 0 E := by
  refine sx_mv (own := R_F) (by decide) rfl rfl rfl (Nat.le_of_ble_eq_true rfl) ?_
  intro p e s m args below meth c Q ls EE hl hret
  obtain ⟨hx, hb, hml, hown, hts, hG, hK⟩ := id EE
  have hS : sx_S g E E H0 H0 [] := sx_S.rf
  have hl : lv_has ls 4 [(0, .ref a0), (1, .ref a1), (2, .ref a2)] := hl
  refine lv_iconst (v := nI 0) hx hb d_F_subtract_0 (by decide +kernel) ?_
  refine lv_istore_n (lv' := [(3, .int (nI (0))), (0, .ref a0), (1, .ref a1), (2, .ref a2)]) hx hb d_F_subtract_1 rfl hl (by decide) rfl (fun ls hl => ?_)
  have lp2 : ∀ (k i1 : Nat) (H : Heap) (locs : List Loc) (ls : Array Slot), i1 + k = 10 → sx_S g E E H0 H locs → lv_has ls 4 [(3, .int (nI (i1))), (0, .ref a0), (1, .ref a1), (2, .ref a2)] → W p l e rm_F_subtract s m args below meth c H locs 0 0 Q (F0 m 2 ls []) := by
    intro k
    induction k with
    | zero =>
      intro i1  H locs ls hi  hS hl
      refine lv_iload_n hx hb d_F_subtract_2 rfl (lv_at hl 0 rfl) ?_
      refine lv_bipush (v := nI 10) hx hb d_F_subtract_3 (by decide +kernel) ?_
      refine lv_icmp_ge (tgt := 24) hx hb d_F_subtract_5 (by decide) (fun _ => ?_) (fun q => absurd (nI_le (by omega) (by omega)) q)
      exact hret _ _ _ _ hS d_F_subtract_24
    | succ k ih2 =>
      intro i1  H locs ls hi  hS hl
      refine lv_iload_n hx hb d_F_subtract_2 rfl (lv_at hl 0 rfl) ?_
      refine lv_bipush (v := nI 10) hx hb d_F_subtract_3 (by decide +kernel) ?_
      refine lv_icmp_ge (tgt := 24) hx hb d_F_subtract_5 (by decide) (fun q => absurd q (nI_ge (by omega) (by omega))) (fun _ => ?_)
      refine lv_aload_n hx hb d_F_subtract_8 rfl (lv_at hl 1 rfl) ?_
      refine lv_iload_n hx hb d_F_subtract_9 rfl (lv_at hl 0 rfl) ?_
      refine lv_aload_n hx hb d_F_subtract_10 rfl (lv_at hl 2 rfl) ?_
      refine lv_iload_n hx hb d_F_subtract_11 rfl (lv_at hl 0 rfl) ?_
      refine sx_lald hx hb hG hS f1 (sx_in (by omega) (by decide)) d_F_subtract_12 (fun z2 => ?_)
      refine lv_aload_n hx hb d_F_subtract_13 rfl (lv_at hl 3 rfl) ?_
      refine lv_iload_n hx hb d_F_subtract_14 rfl (lv_at hl 0 rfl) ?_
      refine sx_lald hx hb hG hS f2 (sx_in (by omega) (by decide)) d_F_subtract_15 (fun z3 => ?_)
      refine sx_lsub hx hb d_F_subtract_16 (fun z4 => ?_)
      refine sx_last hx hb hG hS f0 o0 (sx_in (by omega) (by decide)) d_F_subtract_17 (fun H locs hS => ?_)
      refine lv_iinc (v := nI (i1 + 1)) (lv' := [(3, .int (nI (i1 + 1))), (0, .ref a0), (1, .ref a1), (2, .ref a2)]) hx hb d_F_subtract_18 hl (k := 0) rfl (sx_inc _ _) (by decide) rfl (fun ls hl => ?_)
      refine lv_goto (tgt := 2) hx hb d_F_subtract_21 (by decide) ?_
      exact ih2 (i1 + 1)  _ _ _ (by omega)  hS (lv_sub hl [0, 1, 2, 3] rfl)
  exact lp2 (10) 0  _ _ _ (by omega)  hS (lv_sub hl [0, 1, 2, 3] rfl)
abbrev rm_F_carry : Room := { frames := 0, cells := 0, slots := 0, locals := 0 }
set_option maxHeartbeats 4000000 in
set_option maxRecDepth 100000 in
theorem c_F_carry {l : Launch} {D : va_G} {g : ClassId → FieldType → Prop} {E : Nat → Prop} {H0 : Heap} {a0 : Nat} (f0 : sx_A g .long H0 a0 10) (o0 : E a0) : Met l y_F_carry (.code y_F_carry b_F_carry 8 none :: G_) rm_F_carry (sx_Pc [.ref a0] H0 D g) (sx_Qv g E H0) 0 0 E := by
  refine sx_mv (own := R_F) (by decide) rfl rfl rfl (Nat.le_of_ble_eq_true rfl) ?_
  intro p e s m args below meth c Q ls EE hl hret
  obtain ⟨hx, hb, hml, hown, hts, hG, hK⟩ := id EE
  have hS : sx_S g E E H0 H0 [] := sx_S.rf
  have hl : lv_has ls 8 [(0, .ref a0)] := hl
  refine lv_lconst (v := 0) hx hb d_F_carry_0 (by decide +kernel) ?_
  refine lv_lstore_n (lv' := [(1, .long 0), (0, .ref a0)]) hx hb d_F_carry_1 rfl hl (by decide) rfl (fun ls hl => ?_)
  refine lv_iconst (v := nI 0) hx hb d_F_carry_2 (by decide +kernel) ?_
  refine lv_istore_n (lv' := [(3, .int (nI (0))), (1, .long 0), (0, .ref a0)]) hx hb d_F_carry_3 rfl hl (by decide) rfl (fun ls hl => ?_)
  have lp4 : ∀ (k i2 : Nat) (w1 : Int64) (H : Heap) (locs : List Loc) (ls : Array Slot), i2 + 2 * k = 10 → sx_S g E E H0 H locs → lv_has ls 8 [(3, .int (nI (i2))), (1, .long w1), (0, .ref a0)] → W p l e rm_F_carry s m args below meth c H locs 0 0 Q (F0 m 4 ls []) := by
    intro k
    induction k with
    | zero =>
      intro i2 w1 H locs ls hi  hS hl
      refine lv_iload_n hx hb d_F_carry_4 rfl (lv_at hl 0 rfl) ?_
      refine lv_bipush (v := nI 10) hx hb d_F_carry_5 (by decide +kernel) ?_
      refine lv_icmp_ge (tgt := 74) hx hb d_F_carry_7 (by decide) (fun _ => ?_) (fun q => absurd (nI_le (by omega) (by omega)) q)
      refine lv_aload_n hx hb d_F_carry_74 rfl (lv_at hl 2 rfl) ?_
      refine lv_iconst (v := nI 0) hx hb d_F_carry_75 (by decide +kernel) ?_
      refine sx_lald hx hb hG hS f0 (sx_in (by omega) (by decide)) d_F_carry_76 (fun z3 => ?_)
      refine lv_ldc2 (v := (19)) hx hb hown (hts (.constantLong R_F 51 (19)) (by decide +kernel)) d_F_carry_77 ?_
      refine lv_lload_n hx hb d_F_carry_80 rfl (lv_at hl 1 rfl) ?_
      refine sx_lmul hx hb d_F_carry_81 (fun z4 => ?_)
      refine sx_ladd hx hb d_F_carry_82 (fun z5 => ?_)
      refine lv_lstore_n (lv' := [(3, .long z5), (1, .long w1), (0, .ref a0)]) hx hb d_F_carry_83 rfl hl (by decide) rfl (fun ls hl => ?_)
      refine lv_lload_n hx hb d_F_carry_84 rfl (lv_at hl 0 rfl) ?_
      refine lv_ldc2 (v := (33554432)) hx hb hown (hts (.constantLong R_F 53 (33554432)) (by decide +kernel)) d_F_carry_85 ?_
      refine sx_ladd hx hb d_F_carry_88 (fun z6 => ?_)
      refine lv_bipush (v := nI 26) hx hb d_F_carry_89 (by decide +kernel) ?_
      refine sx_lshr hx hb d_F_carry_91 (fun z7 => ?_)
      refine lv_lstore_n (lv' := [(1, .long z7), (3, .long z5), (0, .ref a0)]) hx hb d_F_carry_92 rfl hl (by decide) rfl (fun ls hl => ?_)
      refine lv_aload_n hx hb d_F_carry_93 rfl (lv_at hl 2 rfl) ?_
      refine lv_iconst (v := nI 0) hx hb d_F_carry_94 (by decide +kernel) ?_
      refine lv_lload_n hx hb d_F_carry_95 rfl (lv_at hl 1 rfl) ?_
      refine lv_lload_n hx hb d_F_carry_96 rfl (lv_at hl 0 rfl) ?_
      refine lv_bipush (v := nI 26) hx hb d_F_carry_97 (by decide +kernel) ?_
      refine sx_lshl hx hb d_F_carry_99 (fun z8 => ?_)
      refine sx_lsub hx hb d_F_carry_100 (fun z9 => ?_)
      refine sx_last hx hb hG hS f0 o0 (sx_in (by omega) (by decide)) d_F_carry_101 (fun H locs hS => ?_)
      refine lv_aload_n hx hb d_F_carry_102 rfl (lv_at hl 2 rfl) ?_
      refine lv_iconst (v := nI 1) hx hb d_F_carry_103 (by decide +kernel) ?_
      refine lv_dup2_11 hx hb d_F_carry_104 rfl rfl ?_
      refine sx_lald hx hb hG hS f0 (sx_in (by omega) (by decide)) d_F_carry_105 (fun z10 => ?_)
      refine lv_lload_n hx hb d_F_carry_106 rfl (lv_at hl 0 rfl) ?_
      refine sx_ladd hx hb d_F_carry_107 (fun z11 => ?_)
      refine sx_last hx hb hG hS f0 o0 (sx_in (by omega) (by decide)) d_F_carry_108 (fun H locs hS => ?_)
      exact hret _ _ _ _ hS d_F_carry_109
    | succ k ih4 =>
      intro i2 w1 H locs ls hi  hS hl
      refine lv_iload_n hx hb d_F_carry_4 rfl (lv_at hl 0 rfl) ?_
      refine lv_bipush (v := nI 10) hx hb d_F_carry_5 (by decide +kernel) ?_
      refine lv_icmp_ge (tgt := 74) hx hb d_F_carry_7 (by decide) (fun q => absurd q (nI_ge (by omega) (by omega))) (fun _ => ?_)
      refine lv_aload_n hx hb d_F_carry_10 rfl (lv_at hl 2 rfl) ?_
      refine lv_iload_n hx hb d_F_carry_11 rfl (lv_at hl 0 rfl) ?_
      refine sx_lald hx hb hG hS f0 (sx_in (by omega) (by decide)) d_F_carry_12 (fun z12 => ?_)
      refine lv_lload_n hx hb d_F_carry_13 rfl (lv_at hl 1 rfl) ?_
      refine sx_ladd hx hb d_F_carry_14 (fun z13 => ?_)
      refine lv_lstore (lv' := [(4, .long z13), (3, .int (nI (i2))), (1, .long w1), (0, .ref a0)]) hx hb d_F_carry_15 hl (by decide) rfl (fun ls hl => ?_)
      refine lv_lload hx hb d_F_carry_17 (lv_at hl 0 rfl) ?_
      refine lv_ldc2 (v := (33554432)) hx hb hown (hts (.constantLong R_F 53 (33554432)) (by decide +kernel)) d_F_carry_19 ?_
      refine sx_ladd hx hb d_F_carry_22 (fun z14 => ?_)
      refine lv_bipush (v := nI 26) hx hb d_F_carry_23 (by decide +kernel) ?_
      refine sx_lshr hx hb d_F_carry_25 (fun z15 => ?_)
      refine lv_lstore_n (lv' := [(1, .long z15), (4, .long z13), (3, .int (nI (i2))), (0, .ref a0)]) hx hb d_F_carry_26 rfl hl (by decide) rfl (fun ls hl => ?_)
      refine lv_aload_n hx hb d_F_carry_27 rfl (lv_at hl 3 rfl) ?_
      refine lv_iload_n hx hb d_F_carry_28 rfl (lv_at hl 2 rfl) ?_
      refine lv_lload hx hb d_F_carry_29 (lv_at hl 1 rfl) ?_
      refine lv_lload_n hx hb d_F_carry_31 rfl (lv_at hl 0 rfl) ?_
      refine lv_bipush (v := nI 26) hx hb d_F_carry_32 (by decide +kernel) ?_
      refine sx_lshl hx hb d_F_carry_34 (fun z16 => ?_)
      refine sx_lsub hx hb d_F_carry_35 (fun z17 => ?_)
      refine sx_last hx hb hG hS f0 o0 (sx_in (by omega) (by decide)) d_F_carry_36 (fun H locs hS => ?_)
      refine lv_aload_n hx hb d_F_carry_37 rfl (lv_at hl 3 rfl) ?_
      refine lv_iload_n hx hb d_F_carry_38 rfl (lv_at hl 2 rfl) ?_
      refine lv_iconst (v := nI 1) hx hb d_F_carry_39 (by decide +kernel) ?_
      refine lv_iadd hx hb d_F_carry_40 ?_
      refine sx_ti (y := nI (i2 + 1)) (nI_add _ _) ?_
      refine sx_lald hx hb hG hS f0 (sx_in (by omega) (by decide)) d_F_carry_41 (fun z18 => ?_)
      refine lv_lload_n hx hb d_F_carry_42 rfl (lv_at hl 0 rfl) ?_
      refine sx_ladd hx hb d_F_carry_43 (fun z19 => ?_)
      refine lv_lstore (lv' := [(6, .long z19), (1, .long z15), (4, .long z13), (3, .int (nI (i2))), (0, .ref a0)]) hx hb d_F_carry_44 hl (by decide) rfl (fun ls hl => ?_)
      refine lv_lload hx hb d_F_carry_46 (lv_at hl 0 rfl) ?_
      refine lv_ldc2 (v := (16777216)) hx hb hown (hts (.constantLong R_F 55 (16777216)) (by decide +kernel)) d_F_carry_48 ?_
      refine sx_ladd hx hb d_F_carry_51 (fun z20 => ?_)
      refine lv_bipush (v := nI 25) hx hb d_F_carry_52 (by decide +kernel) ?_
      refine sx_lshr hx hb d_F_carry_54 (fun z21 => ?_)
      refine lv_lstore_n (lv' := [(1, .long z21), (6, .long z19), (4, .long z13), (3, .int (nI (i2))), (0, .ref a0)]) hx hb d_F_carry_55 rfl hl (by decide) rfl (fun ls hl => ?_)
      refine lv_aload_n hx hb d_F_carry_56 rfl (lv_at hl 4 rfl) ?_
      refine lv_iload_n hx hb d_F_carry_57 rfl (lv_at hl 3 rfl) ?_
      refine lv_iconst (v := nI 1) hx hb d_F_carry_58 (by decide +kernel) ?_
      refine lv_iadd hx hb d_F_carry_59 ?_
      refine sx_ti (y := nI (i2 + 1)) (nI_add _ _) ?_
      refine lv_lload hx hb d_F_carry_60 (lv_at hl 1 rfl) ?_
      refine lv_lload_n hx hb d_F_carry_62 rfl (lv_at hl 0 rfl) ?_
      refine lv_bipush (v := nI 25) hx hb d_F_carry_63 (by decide +kernel) ?_
      refine sx_lshl hx hb d_F_carry_65 (fun z22 => ?_)
      refine sx_lsub hx hb d_F_carry_66 (fun z23 => ?_)
      refine sx_last hx hb hG hS f0 o0 (sx_in (by omega) (by decide)) d_F_carry_67 (fun H locs hS => ?_)
      refine lv_iinc (v := nI (i2 + 2)) (lv' := [(3, .int (nI (i2 + 2))), (1, .long z21), (6, .long z19), (4, .long z13), (0, .ref a0)]) hx hb d_F_carry_68 hl (k := 3) rfl (sx_inc _ _) (by decide) rfl (fun ls hl => ?_)
      refine lv_goto (tgt := 4) hx hb d_F_carry_71 (by decide) ?_
      exact ih4 (i2 + 2) z21 _ _ _ (by omega)  hS (lv_sub hl [0, 1, 4] rfl)
  exact lp4 (5) 0 0 _ _ _ (by omega)  hS (lv_sub hl [0, 1, 2] rfl)
end
section
abbrev rm_F_times : Room := { frames := 1, cells := 0, slots := 0, locals := 27 }
set_option maxHeartbeats 4000000 in
set_option maxRecDepth 100000 in
theorem c_F_times {l : Launch} {D : va_G} {g : ClassId → FieldType → Prop} {E : Nat → Prop} {H0 : Heap} {a0 : Nat} {a1 : Nat} {a2 : Nat} (f0 : sx_A g .long H0 a0 10) (o0 : E a0) (f1 : sx_A g .long H0 a1 10) (f2 : sx_A g .long H0 a2 10) : Met l y_F_times (.code y_F_times b_F_times 53 none :: G_) rm_F_times (sx_Pc [.ref a0, .ref a1, .ref a2] H0 D g) (sx_Qv g E H0) 0 0 E := by
  refine sx_mv (own := R_F) (by decide) rfl rfl rfl (Nat.le_of_ble_eq_true rfl) ?_
  intro p e s m args below meth c Q ls EE hl hret
  obtain ⟨hx, hb, hml, hown, hts, hG, hK⟩ := id EE
  have hS : sx_S g E E H0 H0 [] := sx_S.rf
  have hl : lv_has ls 53 [(0, .ref a0), (1, .ref a1), (2, .ref a2)] := hl
  refine lv_aload_n hx hb d_F_times_0 rfl (lv_at hl 1 rfl) ?_
  refine lv_iconst (v := nI 0) hx hb d_F_times_1 (by decide +kernel) ?_
  refine sx_lald hx hb hG hS f1 (sx_in (by omega) (by decide)) d_F_times_2 (fun z1 => ?_)
  refine lv_lstore_n (lv' := [(3, .long z1), (0, .ref a0), (1, .ref a1), (2, .ref a2)]) hx hb d_F_times_3 rfl hl (by decide) rfl (fun ls hl => ?_)
  refine lv_aload_n hx hb d_F_times_4 rfl (lv_at hl 2 rfl) ?_
  refine lv_iconst (v := nI 1) hx hb d_F_times_5 (by decide +kernel) ?_
  refine sx_lald hx hb hG hS f1 (sx_in (by omega) (by decide)) d_F_times_6 (fun z2 => ?_)
  refine lv_lstore (lv' := [(5, .long z2), (3, .long z1), (0, .ref a0), (1, .ref a1), (2, .ref a2)]) hx hb d_F_times_7 hl (by decide) rfl (fun ls hl => ?_)
  refine lv_aload_n hx hb d_F_times_9 rfl (lv_at hl 3 rfl) ?_
  refine lv_iconst (v := nI 2) hx hb d_F_times_10 (by decide +kernel) ?_
  refine sx_lald hx hb hG hS f1 (sx_in (by omega) (by decide)) d_F_times_11 (fun z3 => ?_)
  refine lv_lstore (lv' := [(7, .long z3), (5, .long z2), (3, .long z1), (0, .ref a0), (1, .ref a1), (2, .ref a2)]) hx hb d_F_times_12 hl (by decide) rfl (fun ls hl => ?_)
  refine lv_aload_n hx hb d_F_times_14 rfl (lv_at hl 4 rfl) ?_
  refine lv_iconst (v := nI 3) hx hb d_F_times_15 (by decide +kernel) ?_
  refine sx_lald hx hb hG hS f1 (sx_in (by omega) (by decide)) d_F_times_16 (fun z4 => ?_)
  refine lv_lstore (lv' := [(9, .long z4), (7, .long z3), (5, .long z2), (3, .long z1), (0, .ref a0), (1, .ref a1), (2, .ref a2)]) hx hb d_F_times_17 hl (by decide) rfl (fun ls hl => ?_)
  refine lv_aload_n hx hb d_F_times_19 rfl (lv_at hl 5 rfl) ?_
  refine lv_iconst (v := nI 4) hx hb d_F_times_20 (by decide +kernel) ?_
  refine sx_lald hx hb hG hS f1 (sx_in (by omega) (by decide)) d_F_times_21 (fun z5 => ?_)
  refine lv_lstore (lv' := [(11, .long z5), (9, .long z4), (7, .long z3), (5, .long z2), (3, .long z1), (0, .ref a0), (1, .ref a1), (2, .ref a2)]) hx hb d_F_times_22 hl (by decide) rfl (fun ls hl => ?_)
  refine lv_aload_n hx hb d_F_times_24 rfl (lv_at hl 6 rfl) ?_
  refine lv_iconst (v := nI 5) hx hb d_F_times_25 (by decide +kernel) ?_
  refine sx_lald hx hb hG hS f1 (sx_in (by omega) (by decide)) d_F_times_26 (fun z6 => ?_)
  refine lv_lstore (lv' := [(13, .long z6), (11, .long z5), (9, .long z4), (7, .long z3), (5, .long z2), (3, .long z1), (0, .ref a0), (1, .ref a1), (2, .ref a2)]) hx hb d_F_times_27 hl (by decide) rfl (fun ls hl => ?_)
  refine lv_aload_n hx hb d_F_times_29 rfl (lv_at hl 7 rfl) ?_
  refine lv_bipush (v := nI 6) hx hb d_F_times_30 (by decide +kernel) ?_
  refine sx_lald hx hb hG hS f1 (sx_in (by omega) (by decide)) d_F_times_32 (fun z7 => ?_)
  refine lv_lstore (lv' := [(15, .long z7), (13, .long z6), (11, .long z5), (9, .long z4), (7, .long z3), (5, .long z2), (3, .long z1), (0, .ref a0), (1, .ref a1), (2, .ref a2)]) hx hb d_F_times_33 hl (by decide) rfl (fun ls hl => ?_)
  refine lv_aload_n hx hb d_F_times_35 rfl (lv_at hl 8 rfl) ?_
  refine lv_bipush (v := nI 7) hx hb d_F_times_36 (by decide +kernel) ?_
  refine sx_lald hx hb hG hS f1 (sx_in (by omega) (by decide)) d_F_times_38 (fun z8 => ?_)
  refine lv_lstore (lv' := [(17, .long z8), (15, .long z7), (13, .long z6), (11, .long z5), (9, .long z4), (7, .long z3), (5, .long z2), (3, .long z1), (0, .ref a0), (1, .ref a1), (2, .ref a2)]) hx hb d_F_times_39 hl (by decide) rfl (fun ls hl => ?_)
  refine lv_aload_n hx hb d_F_times_41 rfl (lv_at hl 9 rfl) ?_
  refine lv_bipush (v := nI 8) hx hb d_F_times_42 (by decide +kernel) ?_
  refine sx_lald hx hb hG hS f1 (sx_in (by omega) (by decide)) d_F_times_44 (fun z9 => ?_)
  refine lv_lstore (lv' := [(19, .long z9), (17, .long z8), (15, .long z7), (13, .long z6), (11, .long z5), (9, .long z4), (7, .long z3), (5, .long z2), (3, .long z1), (0, .ref a0), (1, .ref a1), (2, .ref a2)]) hx hb d_F_times_45 hl (by decide) rfl (fun ls hl => ?_)
  refine lv_aload_n hx hb d_F_times_47 rfl (lv_at hl 10 rfl) ?_
  refine lv_bipush (v := nI 9) hx hb d_F_times_48 (by decide +kernel) ?_
  refine sx_lald hx hb hG hS f1 (sx_in (by omega) (by decide)) d_F_times_50 (fun z10 => ?_)
  refine lv_lstore (lv' := [(21, .long z10), (19, .long z9), (17, .long z8), (15, .long z7), (13, .long z6), (11, .long z5), (9, .long z4), (7, .long z3), (5, .long z2), (3, .long z1), (0, .ref a0), (1, .ref a1), (2, .ref a2)]) hx hb d_F_times_51 hl (by decide) rfl (fun ls hl => ?_)
  refine lv_aload_n hx hb d_F_times_53 rfl (lv_at hl 12 rfl) ?_
  refine lv_iconst (v := nI 0) hx hb d_F_times_54 (by decide +kernel) ?_
  refine sx_lald hx hb hG hS f2 (sx_in (by omega) (by decide)) d_F_times_55 (fun z11 => ?_)
  refine lv_lstore (lv' := [(23, .long z11), (21, .long z10), (19, .long z9), (17, .long z8), (15, .long z7), (13, .long z6), (11, .long z5), (9, .long z4), (7, .long z3), (5, .long z2), (3, .long z1), (0, .ref a0), (1, .ref a1), (2, .ref a2)]) hx hb d_F_times_56 hl (by decide) rfl (fun ls hl => ?_)
  refine lv_aload_n hx hb d_F_times_58 rfl (lv_at hl 13 rfl) ?_
  refine lv_iconst (v := nI 1) hx hb d_F_times_59 (by decide +kernel) ?_
  refine sx_lald hx hb hG hS f2 (sx_in (by omega) (by decide)) d_F_times_60 (fun z12 => ?_)
  refine lv_lstore (lv' := [(25, .long z12), (23, .long z11), (21, .long z10), (19, .long z9), (17, .long z8), (15, .long z7), (13, .long z6), (11, .long z5), (9, .long z4), (7, .long z3), (5, .long z2), (3, .long z1), (0, .ref a0), (1, .ref a1), (2, .ref a2)]) hx hb d_F_times_61 hl (by decide) rfl (fun ls hl => ?_)
  refine lv_aload_n hx hb d_F_times_63 rfl (lv_at hl 14 rfl) ?_
  refine lv_iconst (v := nI 2) hx hb d_F_times_64 (by decide +kernel) ?_
  refine sx_lald hx hb hG hS f2 (sx_in (by omega) (by decide)) d_F_times_65 (fun z13 => ?_)
  refine lv_lstore (lv' := [(27, .long z13), (25, .long z12), (23, .long z11), (21, .long z10), (19, .long z9), (17, .long z8), (15, .long z7), (13, .long z6), (11, .long z5), (9, .long z4), (7, .long z3), (5, .long z2), (3, .long z1), (0, .ref a0), (1, .ref a1), (2, .ref a2)]) hx hb d_F_times_66 hl (by decide) rfl (fun ls hl => ?_)
  refine lv_aload_n hx hb d_F_times_68 rfl (lv_at hl 15 rfl) ?_
  refine lv_iconst (v := nI 3) hx hb d_F_times_69 (by decide +kernel) ?_
  refine sx_lald hx hb hG hS f2 (sx_in (by omega) (by decide)) d_F_times_70 (fun z14 => ?_)
  refine lv_lstore (lv' := [(29, .long z14), (27, .long z13), (25, .long z12), (23, .long z11), (21, .long z10), (19, .long z9), (17, .long z8), (15, .long z7), (13, .long z6), (11, .long z5), (9, .long z4), (7, .long z3), (5, .long z2), (3, .long z1), (0, .ref a0), (1, .ref a1), (2, .ref a2)]) hx hb d_F_times_71 hl (by decide) rfl (fun ls hl => ?_)
  refine lv_aload_n hx hb d_F_times_73 rfl (lv_at hl 16 rfl) ?_
  refine lv_iconst (v := nI 4) hx hb d_F_times_74 (by decide +kernel) ?_
  refine sx_lald hx hb hG hS f2 (sx_in (by omega) (by decide)) d_F_times_75 (fun z15 => ?_)
  refine lv_lstore (lv' := [(31, .long z15), (29, .long z14), (27, .long z13), (25, .long z12), (23, .long z11), (21, .long z10), (19, .long z9), (17, .long z8), (15, .long z7), (13, .long z6), (11, .long z5), (9, .long z4), (7, .long z3), (5, .long z2), (3, .long z1), (0, .ref a0), (1, .ref a1), (2, .ref a2)]) hx hb d_F_times_76 hl (by decide) rfl (fun ls hl => ?_)
  refine lv_aload_n hx hb d_F_times_78 rfl (lv_at hl 17 rfl) ?_
  refine lv_iconst (v := nI 5) hx hb d_F_times_79 (by decide +kernel) ?_
  refine sx_lald hx hb hG hS f2 (sx_in (by omega) (by decide)) d_F_times_80 (fun z16 => ?_)
  refine lv_lstore (lv' := [(33, .long z16), (31, .long z15), (29, .long z14), (27, .long z13), (25, .long z12), (23, .long z11), (21, .long z10), (19, .long z9), (17, .long z8), (15, .long z7), (13, .long z6), (11, .long z5), (9, .long z4), (7, .long z3), (5, .long z2), (3, .long z1), (0, .ref a0), (1, .ref a1), (2, .ref a2)]) hx hb d_F_times_81 hl (by decide) rfl (fun ls hl => ?_)
  refine lv_aload_n hx hb d_F_times_83 rfl (lv_at hl 18 rfl) ?_
  refine lv_bipush (v := nI 6) hx hb d_F_times_84 (by decide +kernel) ?_
  refine sx_lald hx hb hG hS f2 (sx_in (by omega) (by decide)) d_F_times_86 (fun z17 => ?_)
  refine lv_lstore (lv' := [(35, .long z17), (33, .long z16), (31, .long z15), (29, .long z14), (27, .long z13), (25, .long z12), (23, .long z11), (21, .long z10), (19, .long z9), (17, .long z8), (15, .long z7), (13, .long z6), (11, .long z5), (9, .long z4), (7, .long z3), (5, .long z2), (3, .long z1), (0, .ref a0), (1, .ref a1), (2, .ref a2)]) hx hb d_F_times_87 hl (by decide) rfl (fun ls hl => ?_)
  refine lv_aload_n hx hb d_F_times_89 rfl (lv_at hl 19 rfl) ?_
  refine lv_bipush (v := nI 7) hx hb d_F_times_90 (by decide +kernel) ?_
  refine sx_lald hx hb hG hS f2 (sx_in (by omega) (by decide)) d_F_times_92 (fun z18 => ?_)
  refine lv_lstore (lv' := [(37, .long z18), (35, .long z17), (33, .long z16), (31, .long z15), (29, .long z14), (27, .long z13), (25, .long z12), (23, .long z11), (21, .long z10), (19, .long z9), (17, .long z8), (15, .long z7), (13, .long z6), (11, .long z5), (9, .long z4), (7, .long z3), (5, .long z2), (3, .long z1), (0, .ref a0), (1, .ref a1), (2, .ref a2)]) hx hb d_F_times_93 hl (by decide) rfl (fun ls hl => ?_)
  refine lv_aload_n hx hb d_F_times_95 rfl (lv_at hl 20 rfl) ?_
  refine lv_bipush (v := nI 8) hx hb d_F_times_96 (by decide +kernel) ?_
  refine sx_lald hx hb hG hS f2 (sx_in (by omega) (by decide)) d_F_times_98 (fun z19 => ?_)
  refine lv_lstore (lv' := [(39, .long z19), (37, .long z18), (35, .long z17), (33, .long z16), (31, .long z15), (29, .long z14), (27, .long z13), (25, .long z12), (23, .long z11), (21, .long z10), (19, .long z9), (17, .long z8), (15, .long z7), (13, .long z6), (11, .long z5), (9, .long z4), (7, .long z3), (5, .long z2), (3, .long z1), (0, .ref a0), (1, .ref a1), (2, .ref a2)]) hx hb d_F_times_99 hl (by decide) rfl (fun ls hl => ?_)
  refine lv_aload_n hx hb d_F_times_101 rfl (lv_at hl 21 rfl) ?_
  refine lv_bipush (v := nI 9) hx hb d_F_times_102 (by decide +kernel) ?_
  refine sx_lald hx hb hG hS f2 (sx_in (by omega) (by decide)) d_F_times_104 (fun z20 => ?_)
  refine lv_lstore (lv' := [(41, .long z20), (39, .long z19), (37, .long z18), (35, .long z17), (33, .long z16), (31, .long z15), (29, .long z14), (27, .long z13), (25, .long z12), (23, .long z11), (21, .long z10), (19, .long z9), (17, .long z8), (15, .long z7), (13, .long z6), (11, .long z5), (9, .long z4), (7, .long z3), (5, .long z2), (3, .long z1), (0, .ref a0), (1, .ref a1), (2, .ref a2)]) hx hb d_F_times_105 hl (by decide) rfl (fun ls hl => ?_)
  refine lv_ldc2 (v := (2)) hx hb hown (hts (.constantLong R_F 49 (2)) (by decide +kernel)) d_F_times_107 ?_
  refine lv_lload hx hb d_F_times_110 (lv_at hl 18 rfl) ?_
  refine sx_lmul hx hb d_F_times_112 (fun z21 => ?_)
  refine lv_lstore (lv' := [(43, .long z21), (41, .long z20), (39, .long z19), (37, .long z18), (35, .long z17), (33, .long z16), (31, .long z15), (29, .long z14), (27, .long z13), (25, .long z12), (23, .long z11), (21, .long z10), (19, .long z9), (17, .long z8), (15, .long z7), (13, .long z6), (11, .long z5), (9, .long z4), (7, .long z3), (5, .long z2), (3, .long z1), (0, .ref a0), (1, .ref a1), (2, .ref a2)]) hx hb d_F_times_113 hl (by decide) rfl (fun ls hl => ?_)
  refine lv_ldc2 (v := (2)) hx hb hown (hts (.constantLong R_F 49 (2)) (by decide +kernel)) d_F_times_115 ?_
  refine lv_lload hx hb d_F_times_118 (lv_at hl 17 rfl) ?_
  refine sx_lmul hx hb d_F_times_120 (fun z22 => ?_)
  refine lv_lstore (lv' := [(45, .long z22), (43, .long z21), (41, .long z20), (39, .long z19), (37, .long z18), (35, .long z17), (33, .long z16), (31, .long z15), (29, .long z14), (27, .long z13), (25, .long z12), (23, .long z11), (21, .long z10), (19, .long z9), (17, .long z8), (15, .long z7), (13, .long z6), (11, .long z5), (9, .long z4), (7, .long z3), (5, .long z2), (3, .long z1), (0, .ref a0), (1, .ref a1), (2, .ref a2)]) hx hb d_F_times_121 hl (by decide) rfl (fun ls hl => ?_)
  refine lv_ldc2 (v := (2)) hx hb hown (hts (.constantLong R_F 49 (2)) (by decide +kernel)) d_F_times_123 ?_
  refine lv_lload hx hb d_F_times_126 (lv_at hl 16 rfl) ?_
  refine sx_lmul hx hb d_F_times_128 (fun z23 => ?_)
  refine lv_lstore (lv' := [(47, .long z23), (45, .long z22), (43, .long z21), (41, .long z20), (39, .long z19), (37, .long z18), (35, .long z17), (33, .long z16), (31, .long z15), (29, .long z14), (27, .long z13), (25, .long z12), (23, .long z11), (21, .long z10), (19, .long z9), (17, .long z8), (15, .long z7), (13, .long z6), (11, .long z5), (9, .long z4), (7, .long z3), (5, .long z2), (3, .long z1), (0, .ref a0), (1, .ref a1), (2, .ref a2)]) hx hb d_F_times_129 hl (by decide) rfl (fun ls hl => ?_)
  refine lv_ldc2 (v := (2)) hx hb hown (hts (.constantLong R_F 49 (2)) (by decide +kernel)) d_F_times_131 ?_
  refine lv_lload hx hb d_F_times_134 (lv_at hl 15 rfl) ?_
  refine sx_lmul hx hb d_F_times_136 (fun z24 => ?_)
  refine lv_lstore (lv' := [(49, .long z24), (47, .long z23), (45, .long z22), (43, .long z21), (41, .long z20), (39, .long z19), (37, .long z18), (35, .long z17), (33, .long z16), (31, .long z15), (29, .long z14), (27, .long z13), (25, .long z12), (23, .long z11), (21, .long z10), (19, .long z9), (17, .long z8), (15, .long z7), (13, .long z6), (11, .long z5), (9, .long z4), (7, .long z3), (5, .long z2), (3, .long z1), (0, .ref a0), (1, .ref a1), (2, .ref a2)]) hx hb d_F_times_137 hl (by decide) rfl (fun ls hl => ?_)
  refine lv_ldc2 (v := (2)) hx hb hown (hts (.constantLong R_F 49 (2)) (by decide +kernel)) d_F_times_139 ?_
  refine lv_lload hx hb d_F_times_142 (lv_at hl 14 rfl) ?_
  refine sx_lmul hx hb d_F_times_144 (fun z25 => ?_)
  refine lv_lstore (lv' := [(51, .long z25), (49, .long z24), (47, .long z23), (45, .long z22), (43, .long z21), (41, .long z20), (39, .long z19), (37, .long z18), (35, .long z17), (33, .long z16), (31, .long z15), (29, .long z14), (27, .long z13), (25, .long z12), (23, .long z11), (21, .long z10), (19, .long z9), (17, .long z8), (15, .long z7), (13, .long z6), (11, .long z5), (9, .long z4), (7, .long z3), (5, .long z2), (3, .long z1), (0, .ref a0), (1, .ref a1), (2, .ref a2)]) hx hb d_F_times_145 hl (by decide) rfl (fun ls hl => ?_)
  refine lv_aload_n hx hb d_F_times_147 rfl (lv_at hl 25 rfl) ?_
  refine lv_iconst (v := nI 0) hx hb d_F_times_148 (by decide +kernel) ?_
  refine lv_lload_n hx hb d_F_times_149 rfl (lv_at hl 24 rfl) ?_
  refine lv_lload hx hb d_F_times_150 (lv_at hl 14 rfl) ?_
  refine sx_lmul hx hb d_F_times_152 (fun z26 => ?_)
  refine lv_ldc2 (v := (19)) hx hb hown (hts (.constantLong R_F 51 (19)) (by decide +kernel)) d_F_times_153 ?_
  refine lv_lload hx hb d_F_times_156 (lv_at hl 4 rfl) ?_
  refine lv_lload hx hb d_F_times_158 (lv_at hl 5 rfl) ?_
  refine sx_lmul hx hb d_F_times_160 (fun z27 => ?_)
  refine lv_lload hx hb d_F_times_161 (lv_at hl 22 rfl) ?_
  refine lv_lload hx hb d_F_times_163 (lv_at hl 6 rfl) ?_
  refine sx_lmul hx hb d_F_times_165 (fun z28 => ?_)
  refine sx_ladd hx hb d_F_times_166 (fun z29 => ?_)
  refine lv_lload hx hb d_F_times_167 (lv_at hl 3 rfl) ?_
  refine lv_lload hx hb d_F_times_169 (lv_at hl 7 rfl) ?_
  refine sx_lmul hx hb d_F_times_171 (fun z30 => ?_)
  refine sx_ladd hx hb d_F_times_172 (fun z31 => ?_)
  refine lv_lload hx hb d_F_times_173 (lv_at hl 20 rfl) ?_
  refine lv_lload hx hb d_F_times_175 (lv_at hl 8 rfl) ?_
  refine sx_lmul hx hb d_F_times_177 (fun z32 => ?_)
  refine sx_ladd hx hb d_F_times_178 (fun z33 => ?_)
  refine lv_lload hx hb d_F_times_179 (lv_at hl 2 rfl) ?_
  refine lv_lload hx hb d_F_times_181 (lv_at hl 9 rfl) ?_
  refine sx_lmul hx hb d_F_times_183 (fun z34 => ?_)
  refine sx_ladd hx hb d_F_times_184 (fun z35 => ?_)
  refine lv_lload hx hb d_F_times_185 (lv_at hl 18 rfl) ?_
  refine lv_lload hx hb d_F_times_187 (lv_at hl 10 rfl) ?_
  refine sx_lmul hx hb d_F_times_189 (fun z36 => ?_)
  refine sx_ladd hx hb d_F_times_190 (fun z37 => ?_)
  refine lv_lload hx hb d_F_times_191 (lv_at hl 1 rfl) ?_
  refine lv_lload hx hb d_F_times_193 (lv_at hl 11 rfl) ?_
  refine sx_lmul hx hb d_F_times_195 (fun z38 => ?_)
  refine sx_ladd hx hb d_F_times_196 (fun z39 => ?_)
  refine lv_lload hx hb d_F_times_197 (lv_at hl 16 rfl) ?_
  refine lv_lload hx hb d_F_times_199 (lv_at hl 12 rfl) ?_
  refine sx_lmul hx hb d_F_times_201 (fun z40 => ?_)
  refine sx_ladd hx hb d_F_times_202 (fun z41 => ?_)
  refine lv_lload hx hb d_F_times_203 (lv_at hl 0 rfl) ?_
  refine lv_lload hx hb d_F_times_205 (lv_at hl 13 rfl) ?_
  refine sx_lmul hx hb d_F_times_207 (fun z42 => ?_)
  refine sx_ladd hx hb d_F_times_208 (fun z43 => ?_)
  refine sx_lmul hx hb d_F_times_209 (fun z44 => ?_)
  refine sx_ladd hx hb d_F_times_210 (fun z45 => ?_)
  refine sx_last hx hb hG hS f0 o0 (sx_in (by omega) (by decide)) d_F_times_211 (fun H locs hS => ?_)
  refine lv_aload_n hx hb d_F_times_212 rfl (lv_at hl 25 rfl) ?_
  refine lv_iconst (v := nI 1) hx hb d_F_times_213 (by decide +kernel) ?_
  refine lv_lload_n hx hb d_F_times_214 rfl (lv_at hl 24 rfl) ?_
  refine lv_lload hx hb d_F_times_215 (lv_at hl 13 rfl) ?_
  refine sx_lmul hx hb d_F_times_217 (fun z46 => ?_)
  refine lv_lload hx hb d_F_times_218 (lv_at hl 23 rfl) ?_
  refine lv_lload hx hb d_F_times_220 (lv_at hl 14 rfl) ?_
  refine sx_lmul hx hb d_F_times_222 (fun z47 => ?_)
  refine sx_ladd hx hb d_F_times_223 (fun z48 => ?_)
  refine lv_ldc2 (v := (19)) hx hb hown (hts (.constantLong R_F 51 (19)) (by decide +kernel)) d_F_times_224 ?_
  refine lv_lload hx hb d_F_times_227 (lv_at hl 22 rfl) ?_
  refine lv_lload hx hb d_F_times_229 (lv_at hl 5 rfl) ?_
  refine sx_lmul hx hb d_F_times_231 (fun z49 => ?_)
  refine lv_lload hx hb d_F_times_232 (lv_at hl 21 rfl) ?_
  refine lv_lload hx hb d_F_times_234 (lv_at hl 6 rfl) ?_
  refine sx_lmul hx hb d_F_times_236 (fun z50 => ?_)
  refine sx_ladd hx hb d_F_times_237 (fun z51 => ?_)
  refine lv_lload hx hb d_F_times_238 (lv_at hl 20 rfl) ?_
  refine lv_lload hx hb d_F_times_240 (lv_at hl 7 rfl) ?_
  refine sx_lmul hx hb d_F_times_242 (fun z52 => ?_)
  refine sx_ladd hx hb d_F_times_243 (fun z53 => ?_)
  refine lv_lload hx hb d_F_times_244 (lv_at hl 19 rfl) ?_
  refine lv_lload hx hb d_F_times_246 (lv_at hl 8 rfl) ?_
  refine sx_lmul hx hb d_F_times_248 (fun z54 => ?_)
  refine sx_ladd hx hb d_F_times_249 (fun z55 => ?_)
  refine lv_lload hx hb d_F_times_250 (lv_at hl 18 rfl) ?_
  refine lv_lload hx hb d_F_times_252 (lv_at hl 9 rfl) ?_
  refine sx_lmul hx hb d_F_times_254 (fun z56 => ?_)
  refine sx_ladd hx hb d_F_times_255 (fun z57 => ?_)
  refine lv_lload hx hb d_F_times_256 (lv_at hl 17 rfl) ?_
  refine lv_lload hx hb d_F_times_258 (lv_at hl 10 rfl) ?_
  refine sx_lmul hx hb d_F_times_260 (fun z58 => ?_)
  refine sx_ladd hx hb d_F_times_261 (fun z59 => ?_)
  refine lv_lload hx hb d_F_times_262 (lv_at hl 16 rfl) ?_
  refine lv_lload hx hb d_F_times_264 (lv_at hl 11 rfl) ?_
  refine sx_lmul hx hb d_F_times_266 (fun z60 => ?_)
  refine sx_ladd hx hb d_F_times_267 (fun z61 => ?_)
  refine lv_lload hx hb d_F_times_268 (lv_at hl 15 rfl) ?_
  refine lv_lload hx hb d_F_times_270 (lv_at hl 12 rfl) ?_
  refine sx_lmul hx hb d_F_times_272 (fun z62 => ?_)
  refine sx_ladd hx hb d_F_times_273 (fun z63 => ?_)
  refine sx_lmul hx hb d_F_times_274 (fun z64 => ?_)
  refine sx_ladd hx hb d_F_times_275 (fun z65 => ?_)
  refine sx_last hx hb hG hS f0 o0 (sx_in (by omega) (by decide)) d_F_times_276 (fun H locs hS => ?_)
  refine lv_aload_n hx hb d_F_times_277 rfl (lv_at hl 25 rfl) ?_
  refine lv_iconst (v := nI 2) hx hb d_F_times_278 (by decide +kernel) ?_
  refine lv_lload_n hx hb d_F_times_279 rfl (lv_at hl 24 rfl) ?_
  refine lv_lload hx hb d_F_times_280 (lv_at hl 12 rfl) ?_
  refine sx_lmul hx hb d_F_times_282 (fun z66 => ?_)
  refine lv_lload hx hb d_F_times_283 (lv_at hl 4 rfl) ?_
  refine lv_lload hx hb d_F_times_285 (lv_at hl 13 rfl) ?_
  refine sx_lmul hx hb d_F_times_287 (fun z67 => ?_)
  refine sx_ladd hx hb d_F_times_288 (fun z68 => ?_)
  refine lv_lload hx hb d_F_times_289 (lv_at hl 22 rfl) ?_
  refine lv_lload hx hb d_F_times_291 (lv_at hl 14 rfl) ?_
  refine sx_lmul hx hb d_F_times_293 (fun z69 => ?_)
  refine sx_ladd hx hb d_F_times_294 (fun z70 => ?_)
  refine lv_ldc2 (v := (19)) hx hb hown (hts (.constantLong R_F 51 (19)) (by decide +kernel)) d_F_times_295 ?_
  refine lv_lload hx hb d_F_times_298 (lv_at hl 3 rfl) ?_
  refine lv_lload hx hb d_F_times_300 (lv_at hl 5 rfl) ?_
  refine sx_lmul hx hb d_F_times_302 (fun z71 => ?_)
  refine lv_lload hx hb d_F_times_303 (lv_at hl 20 rfl) ?_
  refine lv_lload hx hb d_F_times_305 (lv_at hl 6 rfl) ?_
  refine sx_lmul hx hb d_F_times_307 (fun z72 => ?_)
  refine sx_ladd hx hb d_F_times_308 (fun z73 => ?_)
  refine lv_lload hx hb d_F_times_309 (lv_at hl 2 rfl) ?_
  refine lv_lload hx hb d_F_times_311 (lv_at hl 7 rfl) ?_
  refine sx_lmul hx hb d_F_times_313 (fun z74 => ?_)
  refine sx_ladd hx hb d_F_times_314 (fun z75 => ?_)
  refine lv_lload hx hb d_F_times_315 (lv_at hl 18 rfl) ?_
  refine lv_lload hx hb d_F_times_317 (lv_at hl 8 rfl) ?_
  refine sx_lmul hx hb d_F_times_319 (fun z76 => ?_)
  refine sx_ladd hx hb d_F_times_320 (fun z77 => ?_)
  refine lv_lload hx hb d_F_times_321 (lv_at hl 1 rfl) ?_
  refine lv_lload hx hb d_F_times_323 (lv_at hl 9 rfl) ?_
  refine sx_lmul hx hb d_F_times_325 (fun z78 => ?_)
  refine sx_ladd hx hb d_F_times_326 (fun z79 => ?_)
  refine lv_lload hx hb d_F_times_327 (lv_at hl 16 rfl) ?_
  refine lv_lload hx hb d_F_times_329 (lv_at hl 10 rfl) ?_
  refine sx_lmul hx hb d_F_times_331 (fun z80 => ?_)
  refine sx_ladd hx hb d_F_times_332 (fun z81 => ?_)
  refine lv_lload hx hb d_F_times_333 (lv_at hl 0 rfl) ?_
  refine lv_lload hx hb d_F_times_335 (lv_at hl 11 rfl) ?_
  refine sx_lmul hx hb d_F_times_337 (fun z82 => ?_)
  refine sx_ladd hx hb d_F_times_338 (fun z83 => ?_)
  refine sx_lmul hx hb d_F_times_339 (fun z84 => ?_)
  refine sx_ladd hx hb d_F_times_340 (fun z85 => ?_)
  refine sx_last hx hb hG hS f0 o0 (sx_in (by omega) (by decide)) d_F_times_341 (fun H locs hS => ?_)
  refine lv_aload_n hx hb d_F_times_342 rfl (lv_at hl 25 rfl) ?_
  refine lv_iconst (v := nI 3) hx hb d_F_times_343 (by decide +kernel) ?_
  refine lv_lload_n hx hb d_F_times_344 rfl (lv_at hl 24 rfl) ?_
  refine lv_lload hx hb d_F_times_345 (lv_at hl 11 rfl) ?_
  refine sx_lmul hx hb d_F_times_347 (fun z86 => ?_)
  refine lv_lload hx hb d_F_times_348 (lv_at hl 23 rfl) ?_
  refine lv_lload hx hb d_F_times_350 (lv_at hl 12 rfl) ?_
  refine sx_lmul hx hb d_F_times_352 (fun z87 => ?_)
  refine sx_ladd hx hb d_F_times_353 (fun z88 => ?_)
  refine lv_lload hx hb d_F_times_354 (lv_at hl 22 rfl) ?_
  refine lv_lload hx hb d_F_times_356 (lv_at hl 13 rfl) ?_
  refine sx_lmul hx hb d_F_times_358 (fun z89 => ?_)
  refine sx_ladd hx hb d_F_times_359 (fun z90 => ?_)
  refine lv_lload hx hb d_F_times_360 (lv_at hl 21 rfl) ?_
  refine lv_lload hx hb d_F_times_362 (lv_at hl 14 rfl) ?_
  refine sx_lmul hx hb d_F_times_364 (fun z91 => ?_)
  refine sx_ladd hx hb d_F_times_365 (fun z92 => ?_)
  refine lv_ldc2 (v := (19)) hx hb hown (hts (.constantLong R_F 51 (19)) (by decide +kernel)) d_F_times_366 ?_
  refine lv_lload hx hb d_F_times_369 (lv_at hl 20 rfl) ?_
  refine lv_lload hx hb d_F_times_371 (lv_at hl 5 rfl) ?_
  refine sx_lmul hx hb d_F_times_373 (fun z93 => ?_)
  refine lv_lload hx hb d_F_times_374 (lv_at hl 19 rfl) ?_
  refine lv_lload hx hb d_F_times_376 (lv_at hl 6 rfl) ?_
  refine sx_lmul hx hb d_F_times_378 (fun z94 => ?_)
  refine sx_ladd hx hb d_F_times_379 (fun z95 => ?_)
  refine lv_lload hx hb d_F_times_380 (lv_at hl 18 rfl) ?_
  refine lv_lload hx hb d_F_times_382 (lv_at hl 7 rfl) ?_
  refine sx_lmul hx hb d_F_times_384 (fun z96 => ?_)
  refine sx_ladd hx hb d_F_times_385 (fun z97 => ?_)
  refine lv_lload hx hb d_F_times_386 (lv_at hl 17 rfl) ?_
  refine lv_lload hx hb d_F_times_388 (lv_at hl 8 rfl) ?_
  refine sx_lmul hx hb d_F_times_390 (fun z98 => ?_)
  refine sx_ladd hx hb d_F_times_391 (fun z99 => ?_)
  refine lv_lload hx hb d_F_times_392 (lv_at hl 16 rfl) ?_
  refine lv_lload hx hb d_F_times_394 (lv_at hl 9 rfl) ?_
  refine sx_lmul hx hb d_F_times_396 (fun z100 => ?_)
  refine sx_ladd hx hb d_F_times_397 (fun z101 => ?_)
  refine lv_lload hx hb d_F_times_398 (lv_at hl 15 rfl) ?_
  refine lv_lload hx hb d_F_times_400 (lv_at hl 10 rfl) ?_
  refine sx_lmul hx hb d_F_times_402 (fun z102 => ?_)
  refine sx_ladd hx hb d_F_times_403 (fun z103 => ?_)
  refine sx_lmul hx hb d_F_times_404 (fun z104 => ?_)
  refine sx_ladd hx hb d_F_times_405 (fun z105 => ?_)
  refine sx_last hx hb hG hS f0 o0 (sx_in (by omega) (by decide)) d_F_times_406 (fun H locs hS => ?_)
  refine lv_aload_n hx hb d_F_times_407 rfl (lv_at hl 25 rfl) ?_
  refine lv_iconst (v := nI 4) hx hb d_F_times_408 (by decide +kernel) ?_
  refine lv_lload_n hx hb d_F_times_409 rfl (lv_at hl 24 rfl) ?_
  refine lv_lload hx hb d_F_times_410 (lv_at hl 10 rfl) ?_
  refine sx_lmul hx hb d_F_times_412 (fun z106 => ?_)
  refine lv_lload hx hb d_F_times_413 (lv_at hl 4 rfl) ?_
  refine lv_lload hx hb d_F_times_415 (lv_at hl 11 rfl) ?_
  refine sx_lmul hx hb d_F_times_417 (fun z107 => ?_)
  refine sx_ladd hx hb d_F_times_418 (fun z108 => ?_)
  refine lv_lload hx hb d_F_times_419 (lv_at hl 22 rfl) ?_
  refine lv_lload hx hb d_F_times_421 (lv_at hl 12 rfl) ?_
  refine sx_lmul hx hb d_F_times_423 (fun z109 => ?_)
  refine sx_ladd hx hb d_F_times_424 (fun z110 => ?_)
  refine lv_lload hx hb d_F_times_425 (lv_at hl 3 rfl) ?_
  refine lv_lload hx hb d_F_times_427 (lv_at hl 13 rfl) ?_
  refine sx_lmul hx hb d_F_times_429 (fun z111 => ?_)
  refine sx_ladd hx hb d_F_times_430 (fun z112 => ?_)
  refine lv_lload hx hb d_F_times_431 (lv_at hl 20 rfl) ?_
  refine lv_lload hx hb d_F_times_433 (lv_at hl 14 rfl) ?_
  refine sx_lmul hx hb d_F_times_435 (fun z113 => ?_)
  refine sx_ladd hx hb d_F_times_436 (fun z114 => ?_)
  refine lv_ldc2 (v := (19)) hx hb hown (hts (.constantLong R_F 51 (19)) (by decide +kernel)) d_F_times_437 ?_
  refine lv_lload hx hb d_F_times_440 (lv_at hl 2 rfl) ?_
  refine lv_lload hx hb d_F_times_442 (lv_at hl 5 rfl) ?_
  refine sx_lmul hx hb d_F_times_444 (fun z115 => ?_)
  refine lv_lload hx hb d_F_times_445 (lv_at hl 18 rfl) ?_
  refine lv_lload hx hb d_F_times_447 (lv_at hl 6 rfl) ?_
  refine sx_lmul hx hb d_F_times_449 (fun z116 => ?_)
  refine sx_ladd hx hb d_F_times_450 (fun z117 => ?_)
  refine lv_lload hx hb d_F_times_451 (lv_at hl 1 rfl) ?_
  refine lv_lload hx hb d_F_times_453 (lv_at hl 7 rfl) ?_
  refine sx_lmul hx hb d_F_times_455 (fun z118 => ?_)
  refine sx_ladd hx hb d_F_times_456 (fun z119 => ?_)
  refine lv_lload hx hb d_F_times_457 (lv_at hl 16 rfl) ?_
  refine lv_lload hx hb d_F_times_459 (lv_at hl 8 rfl) ?_
  refine sx_lmul hx hb d_F_times_461 (fun z120 => ?_)
  refine sx_ladd hx hb d_F_times_462 (fun z121 => ?_)
  refine lv_lload hx hb d_F_times_463 (lv_at hl 0 rfl) ?_
  refine lv_lload hx hb d_F_times_465 (lv_at hl 9 rfl) ?_
  refine sx_lmul hx hb d_F_times_467 (fun z122 => ?_)
  refine sx_ladd hx hb d_F_times_468 (fun z123 => ?_)
  refine sx_lmul hx hb d_F_times_469 (fun z124 => ?_)
  refine sx_ladd hx hb d_F_times_470 (fun z125 => ?_)
  refine sx_last hx hb hG hS f0 o0 (sx_in (by omega) (by decide)) d_F_times_471 (fun H locs hS => ?_)
  refine lv_aload_n hx hb d_F_times_472 rfl (lv_at hl 25 rfl) ?_
  refine lv_iconst (v := nI 5) hx hb d_F_times_473 (by decide +kernel) ?_
  refine lv_lload_n hx hb d_F_times_474 rfl (lv_at hl 24 rfl) ?_
  refine lv_lload hx hb d_F_times_475 (lv_at hl 9 rfl) ?_
  refine sx_lmul hx hb d_F_times_477 (fun z126 => ?_)
  refine lv_lload hx hb d_F_times_478 (lv_at hl 23 rfl) ?_
  refine lv_lload hx hb d_F_times_480 (lv_at hl 10 rfl) ?_
  refine sx_lmul hx hb d_F_times_482 (fun z127 => ?_)
  refine sx_ladd hx hb d_F_times_483 (fun z128 => ?_)
  refine lv_lload hx hb d_F_times_484 (lv_at hl 22 rfl) ?_
  refine lv_lload hx hb d_F_times_486 (lv_at hl 11 rfl) ?_
  refine sx_lmul hx hb d_F_times_488 (fun z129 => ?_)
  refine sx_ladd hx hb d_F_times_489 (fun z130 => ?_)
  refine lv_lload hx hb d_F_times_490 (lv_at hl 21 rfl) ?_
  refine lv_lload hx hb d_F_times_492 (lv_at hl 12 rfl) ?_
  refine sx_lmul hx hb d_F_times_494 (fun z131 => ?_)
  refine sx_ladd hx hb d_F_times_495 (fun z132 => ?_)
  refine lv_lload hx hb d_F_times_496 (lv_at hl 20 rfl) ?_
  refine lv_lload hx hb d_F_times_498 (lv_at hl 13 rfl) ?_
  refine sx_lmul hx hb d_F_times_500 (fun z133 => ?_)
  refine sx_ladd hx hb d_F_times_501 (fun z134 => ?_)
  refine lv_lload hx hb d_F_times_502 (lv_at hl 19 rfl) ?_
  refine lv_lload hx hb d_F_times_504 (lv_at hl 14 rfl) ?_
  refine sx_lmul hx hb d_F_times_506 (fun z135 => ?_)
  refine sx_ladd hx hb d_F_times_507 (fun z136 => ?_)
  refine lv_ldc2 (v := (19)) hx hb hown (hts (.constantLong R_F 51 (19)) (by decide +kernel)) d_F_times_508 ?_
  refine lv_lload hx hb d_F_times_511 (lv_at hl 18 rfl) ?_
  refine lv_lload hx hb d_F_times_513 (lv_at hl 5 rfl) ?_
  refine sx_lmul hx hb d_F_times_515 (fun z137 => ?_)
  refine lv_lload hx hb d_F_times_516 (lv_at hl 17 rfl) ?_
  refine lv_lload hx hb d_F_times_518 (lv_at hl 6 rfl) ?_
  refine sx_lmul hx hb d_F_times_520 (fun z138 => ?_)
  refine sx_ladd hx hb d_F_times_521 (fun z139 => ?_)
  refine lv_lload hx hb d_F_times_522 (lv_at hl 16 rfl) ?_
  refine lv_lload hx hb d_F_times_524 (lv_at hl 7 rfl) ?_
  refine sx_lmul hx hb d_F_times_526 (fun z140 => ?_)
  refine sx_ladd hx hb d_F_times_527 (fun z141 => ?_)
  refine lv_lload hx hb d_F_times_528 (lv_at hl 15 rfl) ?_
  refine lv_lload hx hb d_F_times_530 (lv_at hl 8 rfl) ?_
  refine sx_lmul hx hb d_F_times_532 (fun z142 => ?_)
  refine sx_ladd hx hb d_F_times_533 (fun z143 => ?_)
  refine sx_lmul hx hb d_F_times_534 (fun z144 => ?_)
  refine sx_ladd hx hb d_F_times_535 (fun z145 => ?_)
  refine sx_last hx hb hG hS f0 o0 (sx_in (by omega) (by decide)) d_F_times_536 (fun H locs hS => ?_)
  refine lv_aload_n hx hb d_F_times_537 rfl (lv_at hl 25 rfl) ?_
  refine lv_bipush (v := nI 6) hx hb d_F_times_538 (by decide +kernel) ?_
  refine lv_lload_n hx hb d_F_times_540 rfl (lv_at hl 24 rfl) ?_
  refine lv_lload hx hb d_F_times_541 (lv_at hl 8 rfl) ?_
  refine sx_lmul hx hb d_F_times_543 (fun z146 => ?_)
  refine lv_lload hx hb d_F_times_544 (lv_at hl 4 rfl) ?_
  refine lv_lload hx hb d_F_times_546 (lv_at hl 9 rfl) ?_
  refine sx_lmul hx hb d_F_times_548 (fun z147 => ?_)
  refine sx_ladd hx hb d_F_times_549 (fun z148 => ?_)
  refine lv_lload hx hb d_F_times_550 (lv_at hl 22 rfl) ?_
  refine lv_lload hx hb d_F_times_552 (lv_at hl 10 rfl) ?_
  refine sx_lmul hx hb d_F_times_554 (fun z149 => ?_)
  refine sx_ladd hx hb d_F_times_555 (fun z150 => ?_)
  refine lv_lload hx hb d_F_times_556 (lv_at hl 3 rfl) ?_
  refine lv_lload hx hb d_F_times_558 (lv_at hl 11 rfl) ?_
  refine sx_lmul hx hb d_F_times_560 (fun z151 => ?_)
  refine sx_ladd hx hb d_F_times_561 (fun z152 => ?_)
  refine lv_lload hx hb d_F_times_562 (lv_at hl 20 rfl) ?_
  refine lv_lload hx hb d_F_times_564 (lv_at hl 12 rfl) ?_
  refine sx_lmul hx hb d_F_times_566 (fun z153 => ?_)
  refine sx_ladd hx hb d_F_times_567 (fun z154 => ?_)
  refine lv_lload hx hb d_F_times_568 (lv_at hl 2 rfl) ?_
  refine lv_lload hx hb d_F_times_570 (lv_at hl 13 rfl) ?_
  refine sx_lmul hx hb d_F_times_572 (fun z155 => ?_)
  refine sx_ladd hx hb d_F_times_573 (fun z156 => ?_)
  refine lv_lload hx hb d_F_times_574 (lv_at hl 18 rfl) ?_
  refine lv_lload hx hb d_F_times_576 (lv_at hl 14 rfl) ?_
  refine sx_lmul hx hb d_F_times_578 (fun z157 => ?_)
  refine sx_ladd hx hb d_F_times_579 (fun z158 => ?_)
  refine lv_ldc2 (v := (19)) hx hb hown (hts (.constantLong R_F 51 (19)) (by decide +kernel)) d_F_times_580 ?_
  refine lv_lload hx hb d_F_times_583 (lv_at hl 1 rfl) ?_
  refine lv_lload hx hb d_F_times_585 (lv_at hl 5 rfl) ?_
  refine sx_lmul hx hb d_F_times_587 (fun z159 => ?_)
  refine lv_lload hx hb d_F_times_588 (lv_at hl 16 rfl) ?_
  refine lv_lload hx hb d_F_times_590 (lv_at hl 6 rfl) ?_
  refine sx_lmul hx hb d_F_times_592 (fun z160 => ?_)
  refine sx_ladd hx hb d_F_times_593 (fun z161 => ?_)
  refine lv_lload hx hb d_F_times_594 (lv_at hl 0 rfl) ?_
  refine lv_lload hx hb d_F_times_596 (lv_at hl 7 rfl) ?_
  refine sx_lmul hx hb d_F_times_598 (fun z162 => ?_)
  refine sx_ladd hx hb d_F_times_599 (fun z163 => ?_)
  refine sx_lmul hx hb d_F_times_600 (fun z164 => ?_)
  refine sx_ladd hx hb d_F_times_601 (fun z165 => ?_)
  refine sx_last hx hb hG hS f0 o0 (sx_in (by omega) (by decide)) d_F_times_602 (fun H locs hS => ?_)
  refine lv_aload_n hx hb d_F_times_603 rfl (lv_at hl 25 rfl) ?_
  refine lv_bipush (v := nI 7) hx hb d_F_times_604 (by decide +kernel) ?_
  refine lv_lload_n hx hb d_F_times_606 rfl (lv_at hl 24 rfl) ?_
  refine lv_lload hx hb d_F_times_607 (lv_at hl 7 rfl) ?_
  refine sx_lmul hx hb d_F_times_609 (fun z166 => ?_)
  refine lv_lload hx hb d_F_times_610 (lv_at hl 23 rfl) ?_
  refine lv_lload hx hb d_F_times_612 (lv_at hl 8 rfl) ?_
  refine sx_lmul hx hb d_F_times_614 (fun z167 => ?_)
  refine sx_ladd hx hb d_F_times_615 (fun z168 => ?_)
  refine lv_lload hx hb d_F_times_616 (lv_at hl 22 rfl) ?_
  refine lv_lload hx hb d_F_times_618 (lv_at hl 9 rfl) ?_
  refine sx_lmul hx hb d_F_times_620 (fun z169 => ?_)
  refine sx_ladd hx hb d_F_times_621 (fun z170 => ?_)
  refine lv_lload hx hb d_F_times_622 (lv_at hl 21 rfl) ?_
  refine lv_lload hx hb d_F_times_624 (lv_at hl 10 rfl) ?_
  refine sx_lmul hx hb d_F_times_626 (fun z171 => ?_)
  refine sx_ladd hx hb d_F_times_627 (fun z172 => ?_)
  refine lv_lload hx hb d_F_times_628 (lv_at hl 20 rfl) ?_
  refine lv_lload hx hb d_F_times_630 (lv_at hl 11 rfl) ?_
  refine sx_lmul hx hb d_F_times_632 (fun z173 => ?_)
  refine sx_ladd hx hb d_F_times_633 (fun z174 => ?_)
  refine lv_lload hx hb d_F_times_634 (lv_at hl 19 rfl) ?_
  refine lv_lload hx hb d_F_times_636 (lv_at hl 12 rfl) ?_
  refine sx_lmul hx hb d_F_times_638 (fun z175 => ?_)
  refine sx_ladd hx hb d_F_times_639 (fun z176 => ?_)
  refine lv_lload hx hb d_F_times_640 (lv_at hl 18 rfl) ?_
  refine lv_lload hx hb d_F_times_642 (lv_at hl 13 rfl) ?_
  refine sx_lmul hx hb d_F_times_644 (fun z177 => ?_)
  refine sx_ladd hx hb d_F_times_645 (fun z178 => ?_)
  refine lv_lload hx hb d_F_times_646 (lv_at hl 17 rfl) ?_
  refine lv_lload hx hb d_F_times_648 (lv_at hl 14 rfl) ?_
  refine sx_lmul hx hb d_F_times_650 (fun z179 => ?_)
  refine sx_ladd hx hb d_F_times_651 (fun z180 => ?_)
  refine lv_ldc2 (v := (19)) hx hb hown (hts (.constantLong R_F 51 (19)) (by decide +kernel)) d_F_times_652 ?_
  refine lv_lload hx hb d_F_times_655 (lv_at hl 16 rfl) ?_
  refine lv_lload hx hb d_F_times_657 (lv_at hl 5 rfl) ?_
  refine sx_lmul hx hb d_F_times_659 (fun z181 => ?_)
  refine lv_lload hx hb d_F_times_660 (lv_at hl 15 rfl) ?_
  refine lv_lload hx hb d_F_times_662 (lv_at hl 6 rfl) ?_
  refine sx_lmul hx hb d_F_times_664 (fun z182 => ?_)
  refine sx_ladd hx hb d_F_times_665 (fun z183 => ?_)
  refine sx_lmul hx hb d_F_times_666 (fun z184 => ?_)
  refine sx_ladd hx hb d_F_times_667 (fun z185 => ?_)
  refine sx_last hx hb hG hS f0 o0 (sx_in (by omega) (by decide)) d_F_times_668 (fun H locs hS => ?_)
  refine lv_aload_n hx hb d_F_times_669 rfl (lv_at hl 25 rfl) ?_
  refine lv_bipush (v := nI 8) hx hb d_F_times_670 (by decide +kernel) ?_
  refine lv_lload_n hx hb d_F_times_672 rfl (lv_at hl 24 rfl) ?_
  refine lv_lload hx hb d_F_times_673 (lv_at hl 6 rfl) ?_
  refine sx_lmul hx hb d_F_times_675 (fun z186 => ?_)
  refine lv_lload hx hb d_F_times_676 (lv_at hl 4 rfl) ?_
  refine lv_lload hx hb d_F_times_678 (lv_at hl 7 rfl) ?_
  refine sx_lmul hx hb d_F_times_680 (fun z187 => ?_)
  refine sx_ladd hx hb d_F_times_681 (fun z188 => ?_)
  refine lv_lload hx hb d_F_times_682 (lv_at hl 22 rfl) ?_
  refine lv_lload hx hb d_F_times_684 (lv_at hl 8 rfl) ?_
  refine sx_lmul hx hb d_F_times_686 (fun z189 => ?_)
  refine sx_ladd hx hb d_F_times_687 (fun z190 => ?_)
  refine lv_lload hx hb d_F_times_688 (lv_at hl 3 rfl) ?_
  refine lv_lload hx hb d_F_times_690 (lv_at hl 9 rfl) ?_
  refine sx_lmul hx hb d_F_times_692 (fun z191 => ?_)
  refine sx_ladd hx hb d_F_times_693 (fun z192 => ?_)
  refine lv_lload hx hb d_F_times_694 (lv_at hl 20 rfl) ?_
  refine lv_lload hx hb d_F_times_696 (lv_at hl 10 rfl) ?_
  refine sx_lmul hx hb d_F_times_698 (fun z193 => ?_)
  refine sx_ladd hx hb d_F_times_699 (fun z194 => ?_)
  refine lv_lload hx hb d_F_times_700 (lv_at hl 2 rfl) ?_
  refine lv_lload hx hb d_F_times_702 (lv_at hl 11 rfl) ?_
  refine sx_lmul hx hb d_F_times_704 (fun z195 => ?_)
  refine sx_ladd hx hb d_F_times_705 (fun z196 => ?_)
  refine lv_lload hx hb d_F_times_706 (lv_at hl 18 rfl) ?_
  refine lv_lload hx hb d_F_times_708 (lv_at hl 12 rfl) ?_
  refine sx_lmul hx hb d_F_times_710 (fun z197 => ?_)
  refine sx_ladd hx hb d_F_times_711 (fun z198 => ?_)
  refine lv_lload hx hb d_F_times_712 (lv_at hl 1 rfl) ?_
  refine lv_lload hx hb d_F_times_714 (lv_at hl 13 rfl) ?_
  refine sx_lmul hx hb d_F_times_716 (fun z199 => ?_)
  refine sx_ladd hx hb d_F_times_717 (fun z200 => ?_)
  refine lv_lload hx hb d_F_times_718 (lv_at hl 16 rfl) ?_
  refine lv_lload hx hb d_F_times_720 (lv_at hl 14 rfl) ?_
  refine sx_lmul hx hb d_F_times_722 (fun z201 => ?_)
  refine sx_ladd hx hb d_F_times_723 (fun z202 => ?_)
  refine lv_ldc2 (v := (19)) hx hb hown (hts (.constantLong R_F 51 (19)) (by decide +kernel)) d_F_times_724 ?_
  refine lv_lload hx hb d_F_times_727 (lv_at hl 0 rfl) ?_
  refine lv_lload hx hb d_F_times_729 (lv_at hl 5 rfl) ?_
  refine sx_lmul hx hb d_F_times_731 (fun z203 => ?_)
  refine sx_lmul hx hb d_F_times_732 (fun z204 => ?_)
  refine sx_ladd hx hb d_F_times_733 (fun z205 => ?_)
  refine sx_last hx hb hG hS f0 o0 (sx_in (by omega) (by decide)) d_F_times_734 (fun H locs hS => ?_)
  refine lv_aload_n hx hb d_F_times_735 rfl (lv_at hl 25 rfl) ?_
  refine lv_bipush (v := nI 9) hx hb d_F_times_736 (by decide +kernel) ?_
  refine lv_lload_n hx hb d_F_times_738 rfl (lv_at hl 24 rfl) ?_
  refine lv_lload hx hb d_F_times_739 (lv_at hl 5 rfl) ?_
  refine sx_lmul hx hb d_F_times_741 (fun z206 => ?_)
  refine lv_lload hx hb d_F_times_742 (lv_at hl 23 rfl) ?_
  refine lv_lload hx hb d_F_times_744 (lv_at hl 6 rfl) ?_
  refine sx_lmul hx hb d_F_times_746 (fun z207 => ?_)
  refine sx_ladd hx hb d_F_times_747 (fun z208 => ?_)
  refine lv_lload hx hb d_F_times_748 (lv_at hl 22 rfl) ?_
  refine lv_lload hx hb d_F_times_750 (lv_at hl 7 rfl) ?_
  refine sx_lmul hx hb d_F_times_752 (fun z209 => ?_)
  refine sx_ladd hx hb d_F_times_753 (fun z210 => ?_)
  refine lv_lload hx hb d_F_times_754 (lv_at hl 21 rfl) ?_
  refine lv_lload hx hb d_F_times_756 (lv_at hl 8 rfl) ?_
  refine sx_lmul hx hb d_F_times_758 (fun z211 => ?_)
  refine sx_ladd hx hb d_F_times_759 (fun z212 => ?_)
  refine lv_lload hx hb d_F_times_760 (lv_at hl 20 rfl) ?_
  refine lv_lload hx hb d_F_times_762 (lv_at hl 9 rfl) ?_
  refine sx_lmul hx hb d_F_times_764 (fun z213 => ?_)
  refine sx_ladd hx hb d_F_times_765 (fun z214 => ?_)
  refine lv_lload hx hb d_F_times_766 (lv_at hl 19 rfl) ?_
  refine lv_lload hx hb d_F_times_768 (lv_at hl 10 rfl) ?_
  refine sx_lmul hx hb d_F_times_770 (fun z215 => ?_)
  refine sx_ladd hx hb d_F_times_771 (fun z216 => ?_)
  refine lv_lload hx hb d_F_times_772 (lv_at hl 18 rfl) ?_
  refine lv_lload hx hb d_F_times_774 (lv_at hl 11 rfl) ?_
  refine sx_lmul hx hb d_F_times_776 (fun z217 => ?_)
  refine sx_ladd hx hb d_F_times_777 (fun z218 => ?_)
  refine lv_lload hx hb d_F_times_778 (lv_at hl 17 rfl) ?_
  refine lv_lload hx hb d_F_times_780 (lv_at hl 12 rfl) ?_
  refine sx_lmul hx hb d_F_times_782 (fun z219 => ?_)
  refine sx_ladd hx hb d_F_times_783 (fun z220 => ?_)
  refine lv_lload hx hb d_F_times_784 (lv_at hl 16 rfl) ?_
  refine lv_lload hx hb d_F_times_786 (lv_at hl 13 rfl) ?_
  refine sx_lmul hx hb d_F_times_788 (fun z221 => ?_)
  refine sx_ladd hx hb d_F_times_789 (fun z222 => ?_)
  refine lv_lload hx hb d_F_times_790 (lv_at hl 15 rfl) ?_
  refine lv_lload hx hb d_F_times_792 (lv_at hl 14 rfl) ?_
  refine sx_lmul hx hb d_F_times_794 (fun z223 => ?_)
  refine sx_ladd hx hb d_F_times_795 (fun z224 => ?_)
  refine sx_last hx hb hG hS f0 o0 (sx_in (by omega) (by decide)) d_F_times_796 (fun H locs hS => ?_)
  refine lv_aload_n hx hb d_F_times_797 rfl (lv_at hl 25 rfl) ?_
  refine sx_gv (sx_runS (As := [.ref a0]) (rest := []) EE (c_F_carry (hS.a f0) o0) w_F_45 rfl ⟨rfl, rfl⟩ ⟨Nat.le_of_ble_eq_true rfl, Nat.le_of_ble_eq_true rfl⟩ ⟨Nat.zero_le _, Nat.zero_le _⟩ hl.1 rfl (Nat.le_of_ble_eq_true rfl) d_F_times_798) hS (fun H locs hS => ?_)
  exact hret _ _ _ _ hS d_F_times_801
end
section
theorem d_Pt_setAffine_0 : decode b_Pt_setAffine 0 = .ok (.aload_n 0, 1) := by decide +kernel
theorem d_Pt_setAffine_1 : decode b_Pt_setAffine 1 = .ok (.getfield 9, 3) := by decide +kernel
theorem d_Pt_setAffine_4 : decode b_Pt_setAffine 4 = .ok (.aload_n 1, 1) := by decide +kernel
theorem d_Pt_setAffine_5 : decode b_Pt_setAffine 5 = .ok (.invokestatic 28, 3) := by decide +kernel
theorem d_Pt_setAffine_8 : decode b_Pt_setAffine 8 = .ok (.aload_n 0, 1) := by decide +kernel
theorem d_Pt_setAffine_9 : decode b_Pt_setAffine 9 = .ok (.getfield 15, 3) := by decide +kernel
theorem d_Pt_setAffine_12 : decode b_Pt_setAffine 12 = .ok (.aload_n 2, 1) := by decide +kernel
theorem d_Pt_setAffine_13 : decode b_Pt_setAffine 13 = .ok (.invokestatic 28, 3) := by decide +kernel
theorem d_Pt_setAffine_16 : decode b_Pt_setAffine 16 = .ok (.aload_n 0, 1) := by decide +kernel
theorem d_Pt_setAffine_17 : decode b_Pt_setAffine 17 = .ok (.getfield 18, 3) := by decide +kernel
theorem d_Pt_setAffine_20 : decode b_Pt_setAffine 20 = .ok (.lconst 1, 1) := by decide +kernel
theorem d_Pt_setAffine_21 : decode b_Pt_setAffine 21 = .ok (.invokestatic 24, 3) := by decide +kernel
theorem d_Pt_setAffine_24 : decode b_Pt_setAffine 24 = .ok (.aload_n 0, 1) := by decide +kernel
theorem d_Pt_setAffine_25 : decode b_Pt_setAffine 25 = .ok (.getfield 21, 3) := by decide +kernel
theorem d_Pt_setAffine_28 : decode b_Pt_setAffine 28 = .ok (.aload_n 1, 1) := by decide +kernel
theorem d_Pt_setAffine_29 : decode b_Pt_setAffine 29 = .ok (.aload_n 2, 1) := by decide +kernel
theorem d_Pt_setAffine_30 : decode b_Pt_setAffine 30 = .ok (.invokestatic 32, 3) := by decide +kernel
theorem d_Pt_setAffine_33 : decode b_Pt_setAffine 33 = .ok (.return_, 1) := by decide +kernel
theorem d_Ad_set_0 : decode b_Ad_set 0 = .ok (.aload_n 0, 1) := by decide +kernel
theorem d_Ad_set_1 : decode b_Ad_set 1 = .ok (.getfield 9, 3) := by decide +kernel
theorem d_Ad_set_4 : decode b_Ad_set 4 = .ok (.aload_n 1, 1) := by decide +kernel
theorem d_Ad_set_5 : decode b_Ad_set 5 = .ok (.getfield 24, 3) := by decide +kernel
theorem d_Ad_set_8 : decode b_Ad_set 8 = .ok (.aload_n 1, 1) := by decide +kernel
theorem d_Ad_set_9 : decode b_Ad_set 9 = .ok (.getfield 29, 3) := by decide +kernel
theorem d_Ad_set_12 : decode b_Ad_set 12 = .ok (.invokestatic 32, 3) := by decide +kernel
theorem d_Ad_set_15 : decode b_Ad_set 15 = .ok (.aload_n 0, 1) := by decide +kernel
theorem d_Ad_set_16 : decode b_Ad_set 16 = .ok (.getfield 15, 3) := by decide +kernel
theorem d_Ad_set_19 : decode b_Ad_set 19 = .ok (.aload_n 1, 1) := by decide +kernel
theorem d_Ad_set_20 : decode b_Ad_set 20 = .ok (.getfield 24, 3) := by decide +kernel
theorem d_Ad_set_23 : decode b_Ad_set 23 = .ok (.aload_n 1, 1) := by decide +kernel
theorem d_Ad_set_24 : decode b_Ad_set 24 = .ok (.getfield 29, 3) := by decide +kernel
theorem d_Ad_set_27 : decode b_Ad_set 27 = .ok (.invokestatic 36, 3) := by decide +kernel
theorem d_Ad_set_30 : decode b_Ad_set 30 = .ok (.aload_n 0, 1) := by decide +kernel
theorem d_Ad_set_31 : decode b_Ad_set 31 = .ok (.getfield 18, 3) := by decide +kernel
theorem d_Ad_set_34 : decode b_Ad_set 34 = .ok (.aload_n 1, 1) := by decide +kernel
theorem d_Ad_set_35 : decode b_Ad_set 35 = .ok (.getfield 39, 3) := by decide +kernel
theorem d_Ad_set_38 : decode b_Ad_set 38 = .ok (.aload_n 1, 1) := by decide +kernel
theorem d_Ad_set_39 : decode b_Ad_set 39 = .ok (.getfield 39, 3) := by decide +kernel
theorem d_Ad_set_42 : decode b_Ad_set 42 = .ok (.invokestatic 36, 3) := by decide +kernel
theorem d_Ad_set_45 : decode b_Ad_set 45 = .ok (.aload_n 0, 1) := by decide +kernel
theorem d_Ad_set_46 : decode b_Ad_set 46 = .ok (.getfield 21, 3) := by decide +kernel
theorem d_Ad_set_49 : decode b_Ad_set 49 = .ok (.aload_n 1, 1) := by decide +kernel
theorem d_Ad_set_50 : decode b_Ad_set 50 = .ok (.getfield 42, 3) := by decide +kernel
theorem d_Ad_set_53 : decode b_Ad_set 53 = .ok (.getstatic 45, 3) := by decide +kernel
theorem d_Ad_set_56 : decode b_Ad_set 56 = .ok (.invokestatic 50, 3) := by decide +kernel
theorem d_Ad_set_59 : decode b_Ad_set 59 = .ok (.return_, 1) := by decide +kernel
theorem d_Ed_join_0 : decode b_Ed_join 0 = .ok (.aload_n 1, 1) := by decide +kernel
theorem d_Ed_join_1 : decode b_Ed_join 1 = .ok (.getfield 94, 3) := by decide +kernel
theorem d_Ed_join_4 : decode b_Ed_join 4 = .ok (.aload_n 0, 1) := by decide +kernel
theorem d_Ed_join_5 : decode b_Ed_join 5 = .ok (.getfield 52, 3) := by decide +kernel
theorem d_Ed_join_8 : decode b_Ed_join 8 = .ok (.aload_n 0, 1) := by decide +kernel
theorem d_Ed_join_9 : decode b_Ed_join 9 = .ok (.getfield 55, 3) := by decide +kernel
theorem d_Ed_join_12 : decode b_Ed_join 12 = .ok (.invokestatic 104, 3) := by decide +kernel
theorem d_Ed_join_15 : decode b_Ed_join 15 = .ok (.aload_n 1, 1) := by decide +kernel
theorem d_Ed_join_16 : decode b_Ed_join 16 = .ok (.getfield 91, 3) := by decide +kernel
theorem d_Ed_join_19 : decode b_Ed_join 19 = .ok (.aload_n 0, 1) := by decide +kernel
theorem d_Ed_join_20 : decode b_Ed_join 20 = .ok (.getfield 58, 3) := by decide +kernel
theorem d_Ed_join_23 : decode b_Ed_join 23 = .ok (.aload_n 0, 1) := by decide +kernel
theorem d_Ed_join_24 : decode b_Ed_join 24 = .ok (.getfield 61, 3) := by decide +kernel
theorem d_Ed_join_27 : decode b_Ed_join 27 = .ok (.invokestatic 104, 3) := by decide +kernel
theorem d_Ed_join_30 : decode b_Ed_join 30 = .ok (.aload_n 1, 1) := by decide +kernel
theorem d_Ed_join_31 : decode b_Ed_join 31 = .ok (.getfield 112, 3) := by decide +kernel
theorem d_Ed_join_34 : decode b_Ed_join 34 = .ok (.aload_n 0, 1) := by decide +kernel
theorem d_Ed_join_35 : decode b_Ed_join 35 = .ok (.getfield 52, 3) := by decide +kernel
theorem d_Ed_join_38 : decode b_Ed_join 38 = .ok (.aload_n 0, 1) := by decide +kernel
theorem d_Ed_join_39 : decode b_Ed_join 39 = .ok (.getfield 61, 3) := by decide +kernel
theorem d_Ed_join_42 : decode b_Ed_join 42 = .ok (.invokestatic 104, 3) := by decide +kernel
theorem d_Ed_join_45 : decode b_Ed_join 45 = .ok (.aload_n 1, 1) := by decide +kernel
theorem d_Ed_join_46 : decode b_Ed_join 46 = .ok (.getfield 118, 3) := by decide +kernel
theorem d_Ed_join_49 : decode b_Ed_join 49 = .ok (.aload_n 0, 1) := by decide +kernel
theorem d_Ed_join_50 : decode b_Ed_join 50 = .ok (.getfield 55, 3) := by decide +kernel
theorem d_Ed_join_53 : decode b_Ed_join 53 = .ok (.aload_n 0, 1) := by decide +kernel
theorem d_Ed_join_54 : decode b_Ed_join 54 = .ok (.getfield 58, 3) := by decide +kernel
theorem d_Ed_join_57 : decode b_Ed_join 57 = .ok (.invokestatic 104, 3) := by decide +kernel
theorem d_Ed_join_60 : decode b_Ed_join 60 = .ok (.return_, 1) := by decide +kernel
theorem d_Ed_add_0 : decode b_Ed_add 0 = .ok (.aload_n 0, 1) := by decide +kernel
theorem d_Ed_add_1 : decode b_Ed_add 1 = .ok (.getfield 39, 3) := by decide +kernel
theorem d_Ed_add_4 : decode b_Ed_add 4 = .ok (.aload_n 1, 1) := by decide +kernel
theorem d_Ed_add_5 : decode b_Ed_add 5 = .ok (.getfield 91, 3) := by decide +kernel
theorem d_Ed_add_8 : decode b_Ed_add 8 = .ok (.aload_n 1, 1) := by decide +kernel
theorem d_Ed_add_9 : decode b_Ed_add 9 = .ok (.getfield 94, 3) := by decide +kernel
theorem d_Ed_add_12 : decode b_Ed_add 12 = .ok (.invokestatic 97, 3) := by decide +kernel
theorem d_Ed_add_15 : decode b_Ed_add 15 = .ok (.aload_n 0, 1) := by decide +kernel
theorem d_Ed_add_16 : decode b_Ed_add 16 = .ok (.getfield 39, 3) := by decide +kernel
theorem d_Ed_add_19 : decode b_Ed_add 19 = .ok (.aload_n 0, 1) := by decide +kernel
theorem d_Ed_add_20 : decode b_Ed_add 20 = .ok (.getfield 39, 3) := by decide +kernel
theorem d_Ed_add_23 : decode b_Ed_add 23 = .ok (.aload_n 2, 1) := by decide +kernel
theorem d_Ed_add_24 : decode b_Ed_add 24 = .ok (.getfield 101, 3) := by decide +kernel
theorem d_Ed_add_27 : decode b_Ed_add 27 = .ok (.invokestatic 104, 3) := by decide +kernel
theorem d_Ed_add_30 : decode b_Ed_add 30 = .ok (.aload_n 0, 1) := by decide +kernel
theorem d_Ed_add_31 : decode b_Ed_add 31 = .ok (.getfield 43, 3) := by decide +kernel
theorem d_Ed_add_34 : decode b_Ed_add 34 = .ok (.aload_n 1, 1) := by decide +kernel
theorem d_Ed_add_35 : decode b_Ed_add 35 = .ok (.getfield 91, 3) := by decide +kernel
theorem d_Ed_add_38 : decode b_Ed_add 38 = .ok (.aload_n 1, 1) := by decide +kernel
theorem d_Ed_add_39 : decode b_Ed_add 39 = .ok (.getfield 94, 3) := by decide +kernel
theorem d_Ed_add_42 : decode b_Ed_add 42 = .ok (.invokestatic 107, 3) := by decide +kernel
theorem d_Ed_add_45 : decode b_Ed_add 45 = .ok (.aload_n 0, 1) := by decide +kernel
theorem d_Ed_add_46 : decode b_Ed_add 46 = .ok (.getfield 43, 3) := by decide +kernel
theorem d_Ed_add_49 : decode b_Ed_add 49 = .ok (.aload_n 0, 1) := by decide +kernel
theorem d_Ed_add_50 : decode b_Ed_add 50 = .ok (.getfield 43, 3) := by decide +kernel
theorem d_Ed_add_53 : decode b_Ed_add 53 = .ok (.aload_n 2, 1) := by decide +kernel
theorem d_Ed_add_54 : decode b_Ed_add 54 = .ok (.getfield 109, 3) := by decide +kernel
theorem d_Ed_add_57 : decode b_Ed_add 57 = .ok (.invokestatic 104, 3) := by decide +kernel
theorem d_Ed_add_60 : decode b_Ed_add 60 = .ok (.aload_n 0, 1) := by decide +kernel
theorem d_Ed_add_61 : decode b_Ed_add 61 = .ok (.getfield 46, 3) := by decide +kernel
theorem d_Ed_add_64 : decode b_Ed_add 64 = .ok (.aload_n 1, 1) := by decide +kernel
theorem d_Ed_add_65 : decode b_Ed_add 65 = .ok (.getfield 112, 3) := by decide +kernel
theorem d_Ed_add_68 : decode b_Ed_add 68 = .ok (.aload_n 2, 1) := by decide +kernel
theorem d_Ed_add_69 : decode b_Ed_add 69 = .ok (.getfield 115, 3) := by decide +kernel
theorem d_Ed_add_72 : decode b_Ed_add 72 = .ok (.invokestatic 104, 3) := by decide +kernel
theorem d_Ed_add_75 : decode b_Ed_add 75 = .ok (.aload_n 0, 1) := by decide +kernel
theorem d_Ed_add_76 : decode b_Ed_add 76 = .ok (.getfield 49, 3) := by decide +kernel
theorem d_Ed_add_79 : decode b_Ed_add 79 = .ok (.aload_n 1, 1) := by decide +kernel
theorem d_Ed_add_80 : decode b_Ed_add 80 = .ok (.getfield 118, 3) := by decide +kernel
theorem d_Ed_add_83 : decode b_Ed_add 83 = .ok (.aload_n 2, 1) := by decide +kernel
theorem d_Ed_add_84 : decode b_Ed_add 84 = .ok (.getfield 121, 3) := by decide +kernel
theorem d_Ed_add_87 : decode b_Ed_add 87 = .ok (.invokestatic 104, 3) := by decide +kernel
theorem d_Ed_add_90 : decode b_Ed_add 90 = .ok (.aload_n 0, 1) := by decide +kernel
theorem d_Ed_add_91 : decode b_Ed_add 91 = .ok (.getfield 52, 3) := by decide +kernel
theorem d_Ed_add_94 : decode b_Ed_add 94 = .ok (.aload_n 0, 1) := by decide +kernel
theorem d_Ed_add_95 : decode b_Ed_add 95 = .ok (.getfield 43, 3) := by decide +kernel
theorem d_Ed_add_98 : decode b_Ed_add 98 = .ok (.aload_n 0, 1) := by decide +kernel
theorem d_Ed_add_99 : decode b_Ed_add 99 = .ok (.getfield 39, 3) := by decide +kernel
theorem d_Ed_add_102 : decode b_Ed_add 102 = .ok (.invokestatic 97, 3) := by decide +kernel
theorem d_Ed_add_105 : decode b_Ed_add 105 = .ok (.aload_n 0, 1) := by decide +kernel
theorem d_Ed_add_106 : decode b_Ed_add 106 = .ok (.getfield 55, 3) := by decide +kernel
theorem d_Ed_add_109 : decode b_Ed_add 109 = .ok (.aload_n 0, 1) := by decide +kernel
theorem d_Ed_add_110 : decode b_Ed_add 110 = .ok (.getfield 49, 3) := by decide +kernel
theorem d_Ed_add_113 : decode b_Ed_add 113 = .ok (.aload_n 0, 1) := by decide +kernel
theorem d_Ed_add_114 : decode b_Ed_add 114 = .ok (.getfield 46, 3) := by decide +kernel
theorem d_Ed_add_117 : decode b_Ed_add 117 = .ok (.invokestatic 97, 3) := by decide +kernel
theorem d_Ed_add_120 : decode b_Ed_add 120 = .ok (.aload_n 0, 1) := by decide +kernel
theorem d_Ed_add_121 : decode b_Ed_add 121 = .ok (.getfield 58, 3) := by decide +kernel
theorem d_Ed_add_124 : decode b_Ed_add 124 = .ok (.aload_n 0, 1) := by decide +kernel
theorem d_Ed_add_125 : decode b_Ed_add 125 = .ok (.getfield 49, 3) := by decide +kernel
theorem d_Ed_add_128 : decode b_Ed_add 128 = .ok (.aload_n 0, 1) := by decide +kernel
theorem d_Ed_add_129 : decode b_Ed_add 129 = .ok (.getfield 46, 3) := by decide +kernel
theorem d_Ed_add_132 : decode b_Ed_add 132 = .ok (.invokestatic 107, 3) := by decide +kernel
theorem d_Ed_add_135 : decode b_Ed_add 135 = .ok (.aload_n 0, 1) := by decide +kernel
theorem d_Ed_add_136 : decode b_Ed_add 136 = .ok (.getfield 61, 3) := by decide +kernel
theorem d_Ed_add_139 : decode b_Ed_add 139 = .ok (.aload_n 0, 1) := by decide +kernel
theorem d_Ed_add_140 : decode b_Ed_add 140 = .ok (.getfield 43, 3) := by decide +kernel
theorem d_Ed_add_143 : decode b_Ed_add 143 = .ok (.aload_n 0, 1) := by decide +kernel
theorem d_Ed_add_144 : decode b_Ed_add 144 = .ok (.getfield 39, 3) := by decide +kernel
theorem d_Ed_add_147 : decode b_Ed_add 147 = .ok (.invokestatic 107, 3) := by decide +kernel
theorem d_Ed_add_150 : decode b_Ed_add 150 = .ok (.aload_n 0, 1) := by decide +kernel
theorem d_Ed_add_151 : decode b_Ed_add 151 = .ok (.aload_n 1, 1) := by decide +kernel
theorem d_Ed_add_152 : decode b_Ed_add 152 = .ok (.invokevirtual 124, 3) := by decide +kernel
theorem d_Ed_add_155 : decode b_Ed_add 155 = .ok (.return_, 1) := by decide +kernel
theorem d_Ed_fillMultiples_0 : decode b_Ed_fillMultiples 0 = .ok (.aload_n 1, 1) := by decide +kernel
theorem d_Ed_fillMultiples_1 : decode b_Ed_fillMultiples 1 = .ok (.iconst 1, 1) := by decide +kernel
theorem d_Ed_fillMultiples_2 : decode b_Ed_fillMultiples 2 = .ok (.aaload, 1) := by decide +kernel
theorem d_Ed_fillMultiples_3 : decode b_Ed_fillMultiples 3 = .ok (.aload_n 2, 1) := by decide +kernel
theorem d_Ed_fillMultiples_4 : decode b_Ed_fillMultiples 4 = .ok (.invokevirtual 83, 3) := by decide +kernel
theorem d_Ed_fillMultiples_7 : decode b_Ed_fillMultiples 7 = .ok (.iconst 2, 1) := by decide +kernel
theorem d_Ed_fillMultiples_8 : decode b_Ed_fillMultiples 8 = .ok (.istore_n 3, 1) := by decide +kernel
theorem d_Ed_fillMultiples_9 : decode b_Ed_fillMultiples 9 = .ok (.iload_n 3, 1) := by decide +kernel
theorem d_Ed_fillMultiples_10 : decode b_Ed_fillMultiples 10 = .ok (.bipush 16, 2) := by decide +kernel
theorem d_Ed_fillMultiples_12 : decode b_Ed_fillMultiples 12 = .ok (.if_icmp .ge 24, 3) := by decide +kernel
theorem d_Ed_fillMultiples_15 : decode b_Ed_fillMultiples 15 = .ok (.aload_n 0, 1) := by decide +kernel
theorem d_Ed_fillMultiples_16 : decode b_Ed_fillMultiples 16 = .ok (.aload_n 2, 1) := by decide +kernel
theorem d_Ed_fillMultiples_17 : decode b_Ed_fillMultiples 17 = .ok (.aload_n 1, 1) := by decide +kernel
theorem d_Ed_fillMultiples_18 : decode b_Ed_fillMultiples 18 = .ok (.iconst 1, 1) := by decide +kernel
theorem d_Ed_fillMultiples_19 : decode b_Ed_fillMultiples 19 = .ok (.aaload, 1) := by decide +kernel
theorem d_Ed_fillMultiples_20 : decode b_Ed_fillMultiples 20 = .ok (.invokevirtual 87, 3) := by decide +kernel
theorem d_Ed_fillMultiples_23 : decode b_Ed_fillMultiples 23 = .ok (.aload_n 1, 1) := by decide +kernel
theorem d_Ed_fillMultiples_24 : decode b_Ed_fillMultiples 24 = .ok (.iload_n 3, 1) := by decide +kernel
theorem d_Ed_fillMultiples_25 : decode b_Ed_fillMultiples 25 = .ok (.aaload, 1) := by decide +kernel
theorem d_Ed_fillMultiples_26 : decode b_Ed_fillMultiples 26 = .ok (.aload_n 2, 1) := by decide +kernel
theorem d_Ed_fillMultiples_27 : decode b_Ed_fillMultiples 27 = .ok (.invokevirtual 83, 3) := by decide +kernel
theorem d_Ed_fillMultiples_30 : decode b_Ed_fillMultiples 30 = .ok (.iinc 3 1, 3) := by decide +kernel
theorem d_Ed_fillMultiples_33 : decode b_Ed_fillMultiples 33 = .ok (.goto (-24), 3) := by decide +kernel
theorem d_Ed_fillMultiples_36 : decode b_Ed_fillMultiples 36 = .ok (.return_, 1) := by decide +kernel
end
section
/-- the words of a call, its code by its place -/
theorem sx_wc {ws : List Cond} {y : MethodName} {b : ByteArray} {n : Nat} {r : Option FieldType} (h : ∀ w ∈ ws, w ∈ lw_tbl ∧ sx_okw w = true) (hc : Cond.code y b n r ∈ lw_tbl) : ∀ w ∈ ws ++ [Cond.code y b n r], w ∈ lw_tbl ∧ sx_okw w = true := fun w hw => by
  rcases List.mem_append.mp hw with hw | hw
  · exact h w hw
  · rw [List.mem_singleton.mp hw]; exact ⟨hc, rfl⟩
theorem fl_Ad_9 : Cond.fieldLink R_Ad 9 R_Ad "less" "[J" ∈ lw_tbl ∧ sx_okw (Cond.fieldLink R_Ad 9 R_Ad "less" "[J") = true := by decide +kernel
theorem fl_Ad_15 : Cond.fieldLink R_Ad 15 R_Ad "more" "[J" ∈ lw_tbl ∧ sx_okw (Cond.fieldLink R_Ad 15 R_Ad "more" "[J") = true := by decide +kernel
theorem fl_Ad_18 : Cond.fieldLink R_Ad 18 R_Ad "twiceZ" "[J" ∈ lw_tbl ∧ sx_okw (Cond.fieldLink R_Ad 18 R_Ad "twiceZ" "[J") = true := by decide +kernel
theorem fl_Ad_21 : Cond.fieldLink R_Ad 21 R_Ad "twiceDT" "[J" ∈ lw_tbl ∧ sx_okw (Cond.fieldLink R_Ad 21 R_Ad "twiceDT" "[J") = true := by decide +kernel
theorem fl_Ed_39 : Cond.fieldLink R_Ed 39 R_Ed "a" "[J" ∈ lw_tbl ∧ sx_okw (Cond.fieldLink R_Ed 39 R_Ed "a" "[J") = true := by decide +kernel
theorem fl_Ed_43 : Cond.fieldLink R_Ed 43 R_Ed "b" "[J" ∈ lw_tbl ∧ sx_okw (Cond.fieldLink R_Ed 43 R_Ed "b" "[J") = true := by decide +kernel
theorem fl_Ed_46 : Cond.fieldLink R_Ed 46 R_Ed "c" "[J" ∈ lw_tbl ∧ sx_okw (Cond.fieldLink R_Ed 46 R_Ed "c" "[J") = true := by decide +kernel
theorem fl_Ed_49 : Cond.fieldLink R_Ed 49 R_Ed "d" "[J" ∈ lw_tbl ∧ sx_okw (Cond.fieldLink R_Ed 49 R_Ed "d" "[J") = true := by decide +kernel
theorem fl_Ed_52 : Cond.fieldLink R_Ed 52 R_Ed "e" "[J" ∈ lw_tbl ∧ sx_okw (Cond.fieldLink R_Ed 52 R_Ed "e" "[J") = true := by decide +kernel
theorem fl_Ed_55 : Cond.fieldLink R_Ed 55 R_Ed "f" "[J" ∈ lw_tbl ∧ sx_okw (Cond.fieldLink R_Ed 55 R_Ed "f" "[J") = true := by decide +kernel
theorem fl_Ed_58 : Cond.fieldLink R_Ed 58 R_Ed "g" "[J" ∈ lw_tbl ∧ sx_okw (Cond.fieldLink R_Ed 58 R_Ed "g" "[J") = true := by decide +kernel
theorem fl_Ed_61 : Cond.fieldLink R_Ed 61 R_Ed "h" "[J" ∈ lw_tbl ∧ sx_okw (Cond.fieldLink R_Ed 61 R_Ed "h" "[J") = true := by decide +kernel
theorem fl_Pt_9 : Cond.fieldLink R_Pt 9 R_Pt "x" "[J" ∈ lw_tbl ∧ sx_okw (Cond.fieldLink R_Pt 9 R_Pt "x" "[J") = true := by decide +kernel
theorem fl_Pt_15 : Cond.fieldLink R_Pt 15 R_Pt "y" "[J" ∈ lw_tbl ∧ sx_okw (Cond.fieldLink R_Pt 15 R_Pt "y" "[J") = true := by decide +kernel
theorem fl_Pt_18 : Cond.fieldLink R_Pt 18 R_Pt "z" "[J" ∈ lw_tbl ∧ sx_okw (Cond.fieldLink R_Pt 18 R_Pt "z" "[J") = true := by decide +kernel
theorem fl_Pt_21 : Cond.fieldLink R_Pt 21 R_Pt "t" "[J" ∈ lw_tbl ∧ sx_okw (Cond.fieldLink R_Pt 21 R_Pt "t" "[J") = true := by decide +kernel
theorem fn_Ad_24 : Cond.fieldLinkNest R_Ad 24 R_Pt "y" "[J" "CurveKeys" ∈ lw_tbl := by decide +kernel
theorem fn_Ad_29 : Cond.fieldLinkNest R_Ad 29 R_Pt "x" "[J" "CurveKeys" ∈ lw_tbl := by decide +kernel
theorem fn_Ad_39 : Cond.fieldLinkNest R_Ad 39 R_Pt "z" "[J" "CurveKeys" ∈ lw_tbl := by decide +kernel
theorem fn_Ad_42 : Cond.fieldLinkNest R_Ad 42 R_Pt "t" "[J" "CurveKeys" ∈ lw_tbl := by decide +kernel
theorem fn_Ad_45 : Cond.fieldLinkNest R_Ad 45 R_Ed "TWICE_CURVE_D" "[J" "CurveKeys" ∈ lw_tbl := by decide +kernel
theorem fn_Ed_91 : Cond.fieldLinkNest R_Ed 91 R_Pt "y" "[J" "CurveKeys" ∈ lw_tbl := by decide +kernel
theorem fn_Ed_94 : Cond.fieldLinkNest R_Ed 94 R_Pt "x" "[J" "CurveKeys" ∈ lw_tbl := by decide +kernel
theorem fn_Ed_101 : Cond.fieldLinkNest R_Ed 101 R_Ad "less" "[J" "CurveKeys" ∈ lw_tbl := by decide +kernel
theorem fn_Ed_109 : Cond.fieldLinkNest R_Ed 109 R_Ad "more" "[J" "CurveKeys" ∈ lw_tbl := by decide +kernel
theorem fn_Ed_112 : Cond.fieldLinkNest R_Ed 112 R_Pt "t" "[J" "CurveKeys" ∈ lw_tbl := by decide +kernel
theorem fn_Ed_115 : Cond.fieldLinkNest R_Ed 115 R_Ad "twiceDT" "[J" "CurveKeys" ∈ lw_tbl := by decide +kernel
theorem fn_Ed_118 : Cond.fieldLinkNest R_Ed 118 R_Pt "z" "[J" "CurveKeys" ∈ lw_tbl := by decide +kernel
theorem fn_Ed_121 : Cond.fieldLinkNest R_Ed 121 R_Ad "twiceZ" "[J" "CurveKeys" ∈ lw_tbl := by decide +kernel
set_option maxRecDepth 100000 in
theorem mc_F_subtract : Cond.code y_F_subtract b_F_subtract 4 none ∈ lw_tbl := List.mem_append_right _ (List.mem_append_left _ (List.mem_of_getElem? (i := 213) rfl))
theorem w_Ad_32 : sx_w [.methodLink R_Ad 32 y_F_subtract, .static y_F_subtract, .initialized y_F_subtract.cls, .code y_F_subtract b_F_subtract 4 none] y_F_subtract 3 := ⟨sx_wc (ws := [.methodLink R_Ad 32 y_F_subtract, .static y_F_subtract, .initialized y_F_subtract.cls]) (by decide +kernel) mc_F_subtract, by decide +kernel⟩
set_option maxRecDepth 100000 in
theorem mc_F_add : Cond.code y_F_add b_F_add 4 none ∈ lw_tbl := List.mem_append_right _ (List.mem_append_left _ (List.mem_of_getElem? (i := 216) rfl))
theorem w_Ad_36 : sx_w [.methodLink R_Ad 36 y_F_add, .static y_F_add, .initialized y_F_add.cls, .code y_F_add b_F_add 4 none] y_F_add 3 := ⟨sx_wc (ws := [.methodLink R_Ad 36 y_F_add, .static y_F_add, .initialized y_F_add.cls]) (by decide +kernel) mc_F_add, by decide +kernel⟩
set_option maxRecDepth 100000 in
theorem mc_F_times : Cond.code y_F_times b_F_times 53 none ∈ lw_tbl := List.mem_append_right _ (List.mem_append_left _ (List.mem_of_getElem? (i := 195) rfl))
theorem w_Ad_50 : sx_w [.methodLink R_Ad 50 y_F_times, .static y_F_times, .initialized y_F_times.cls, .code y_F_times b_F_times 53 none] y_F_times 3 := ⟨sx_wc (ws := [.methodLink R_Ad 50 y_F_times, .static y_F_times, .initialized y_F_times.cls]) (by decide +kernel) mc_F_times, by decide +kernel⟩
set_option maxRecDepth 100000 in
theorem mc_Ad_set : Cond.code y_Ad_set b_Ad_set 2 none ∈ lw_tbl := List.mem_append_right _ (List.mem_append_left _ (List.mem_of_getElem? (i := 210) rfl))
theorem w_Ed_83 : sx_w [.methodLink R_Ed 83 y_Ad_set, .instanceMethod y_Ad_set, .selects R_Ad y_Ad_set y_Ad_set, .initialized R_Ad, .code y_Ad_set b_Ad_set 2 none] y_Ad_set 1 := ⟨sx_wc (ws := [.methodLink R_Ed 83 y_Ad_set, .instanceMethod y_Ad_set, .selects R_Ad y_Ad_set y_Ad_set, .initialized R_Ad]) (by decide +kernel) mc_Ad_set, by decide +kernel⟩
set_option maxRecDepth 100000 in
theorem mc_Ed_add : Cond.code y_Ed_add b_Ed_add 3 none ∈ lw_tbl := List.mem_append_right _ (List.mem_append_left _ (List.mem_of_getElem? (i := 223) rfl))
theorem w_Ed_87 : sx_w [.methodLink R_Ed 87 y_Ed_add, .instanceMethod y_Ed_add, .selects R_Ed y_Ed_add y_Ed_add, .initialized R_Ed, .code y_Ed_add b_Ed_add 3 none] y_Ed_add 2 := ⟨sx_wc (ws := [.methodLink R_Ed 87 y_Ed_add, .instanceMethod y_Ed_add, .selects R_Ed y_Ed_add y_Ed_add, .initialized R_Ed]) (by decide +kernel) mc_Ed_add, by decide +kernel⟩
theorem w_Ed_97 : sx_w [.methodLink R_Ed 97 y_F_subtract, .static y_F_subtract, .initialized y_F_subtract.cls, .code y_F_subtract b_F_subtract 4 none] y_F_subtract 3 := ⟨sx_wc (ws := [.methodLink R_Ed 97 y_F_subtract, .static y_F_subtract, .initialized y_F_subtract.cls]) (by decide +kernel) mc_F_subtract, by decide +kernel⟩
theorem w_Ed_104 : sx_w [.methodLink R_Ed 104 y_F_times, .static y_F_times, .initialized y_F_times.cls, .code y_F_times b_F_times 53 none] y_F_times 3 := ⟨sx_wc (ws := [.methodLink R_Ed 104 y_F_times, .static y_F_times, .initialized y_F_times.cls]) (by decide +kernel) mc_F_times, by decide +kernel⟩
theorem w_Ed_107 : sx_w [.methodLink R_Ed 107 y_F_add, .static y_F_add, .initialized y_F_add.cls, .code y_F_add b_F_add 4 none] y_F_add 3 := ⟨sx_wc (ws := [.methodLink R_Ed 107 y_F_add, .static y_F_add, .initialized y_F_add.cls]) (by decide +kernel) mc_F_add, by decide +kernel⟩
set_option maxRecDepth 100000 in
theorem mc_Ed_join : Cond.code y_Ed_join b_Ed_join 2 none ∈ lw_tbl := List.mem_append_right _ (List.mem_append_left _ (List.mem_of_getElem? (i := 230) rfl))
theorem w_Ed_124 : sx_w [.methodLink R_Ed 124 y_Ed_join, .instanceMethod y_Ed_join, .selects R_Ed y_Ed_join y_Ed_join, .initialized R_Ed, .code y_Ed_join b_Ed_join 2 none] y_Ed_join 1 := ⟨sx_wc (ws := [.methodLink R_Ed 124 y_Ed_join, .instanceMethod y_Ed_join, .selects R_Ed y_Ed_join y_Ed_join, .initialized R_Ed]) (by decide +kernel) mc_Ed_join, by decide +kernel⟩
set_option maxRecDepth 100000 in
theorem mc_F_set : Cond.code y_F_set b_F_set 3 none ∈ lw_tbl := List.mem_append_right _ (List.mem_append_left _ (List.mem_of_getElem? (i := 189) rfl))
theorem w_Pt_24 : sx_w [.methodLink R_Pt 24 y_F_set, .static y_F_set, .initialized y_F_set.cls, .code y_F_set b_F_set 3 none] y_F_set 2 := ⟨sx_wc (ws := [.methodLink R_Pt 24 y_F_set, .static y_F_set, .initialized y_F_set.cls]) (by decide +kernel) mc_F_set, by decide +kernel⟩
set_option maxRecDepth 100000 in
theorem mc_F_copy : Cond.code y_F_copy b_F_copy 2 none ∈ lw_tbl := List.mem_append_right _ (List.mem_append_left _ (List.mem_of_getElem? (i := 183) rfl))
theorem w_Pt_28 : sx_w [.methodLink R_Pt 28 y_F_copy, .static y_F_copy, .initialized y_F_copy.cls, .code y_F_copy b_F_copy 2 none] y_F_copy 2 := ⟨sx_wc (ws := [.methodLink R_Pt 28 y_F_copy, .static y_F_copy, .initialized y_F_copy.cls]) (by decide +kernel) mc_F_copy, by decide +kernel⟩
theorem w_Pt_32 : sx_w [.methodLink R_Pt 32 y_F_times, .static y_F_times, .initialized y_F_times.cls, .code y_F_times b_F_times 53 none] y_F_times 3 := ⟨sx_wc (ws := [.methodLink R_Pt 32 y_F_times, .static y_F_times, .initialized y_F_times.cls]) (by decide +kernel) mc_F_times, by decide +kernel⟩
end
section
abbrev rm_Pt_setAffine : Room := { frames := 2, cells := 0, slots := 0, locals := 121 }
set_option maxHeartbeats 4000000 in
set_option maxRecDepth 100000 in
theorem c_Pt_setAffine {l : Launch} {D : va_G} {g : ClassId → FieldType → Prop} {E : Nat → Prop} {H0 : Heap} {o : Nat} {r : Nat → Nat} {a0 : Nat} {a1 : Nat} (hM : o4_ D g H0 4 o r) (hE : ¬ E o) (hW : ∀ k, k < 4 → E (r k)) (f0 : sx_A g .long H0 a0 10) (f1 : sx_A g .long H0 a1 10) : Met l y_Pt_setAffine (.code y_Pt_setAffine b_Pt_setAffine 3 none :: G_) rm_Pt_setAffine (sx_Pc [.ref o, .ref a0, .ref a1] H0 D g) (sx_Qv g E H0) 0 0 E := by
  refine sx_mv (own := R_Pt) (by decide) rfl rfl rfl (Nat.le_of_ble_eq_true rfl) ?_
  intro p e s m args below meth c Q ls EE hl hret
  obtain ⟨hx, hb, hml, hown, hts, hG, hK⟩ := id EE
  have hS : sx_S g E E H0 H0 [] := sx_S.rf
  have hl : lv_has ls 3 [(0, .ref o), (1, .ref a0), (2, .ref a1)] := hl
  refine lv_aload_n hx hb d_Pt_setAffine_0 rfl (lv_at hl 0 rfl) ?_
  refine sx_get EE (hS.1.ob hE hM.1) rfl i_Pt 0 (by decide) rfl fl_Pt_9 rfl d_Pt_setAffine_1 ?_
  refine lv_aload_n hx hb d_Pt_setAffine_4 rfl (lv_at hl 1 rfl) ?_
  refine sx_gv (sx_runS (As := [.ref (r 0), .ref a0]) (rest := []) EE (c_F_copy (hS.a (hM.2 0 (by decide)).1) (hW 0 (by decide)) (hS.a f0)) w_Pt_28 rfl ⟨rfl, rfl⟩ ⟨Nat.le_of_ble_eq_true rfl, Nat.le_of_ble_eq_true rfl⟩ ⟨Nat.zero_le _, Nat.zero_le _⟩ hl.1 rfl (Nat.le_of_ble_eq_true rfl) d_Pt_setAffine_5) hS (fun H locs hS => ?_)
  refine lv_aload_n hx hb d_Pt_setAffine_8 rfl (lv_at hl 0 rfl) ?_
  refine sx_get EE (hS.1.ob hE hM.1) rfl i_Pt 1 (by decide) rfl fl_Pt_15 rfl d_Pt_setAffine_9 ?_
  refine lv_aload_n hx hb d_Pt_setAffine_12 rfl (lv_at hl 2 rfl) ?_
  refine sx_gv (sx_runS (As := [.ref (r 1), .ref a1]) (rest := []) EE (c_F_copy (hS.a (hM.2 1 (by decide)).1) (hW 1 (by decide)) (hS.a f1)) w_Pt_28 rfl ⟨rfl, rfl⟩ ⟨Nat.le_of_ble_eq_true rfl, Nat.le_of_ble_eq_true rfl⟩ ⟨Nat.zero_le _, Nat.zero_le _⟩ hl.1 rfl (Nat.le_of_ble_eq_true rfl) d_Pt_setAffine_13) hS (fun H locs hS => ?_)
  refine lv_aload_n hx hb d_Pt_setAffine_16 rfl (lv_at hl 0 rfl) ?_
  refine sx_get EE (hS.1.ob hE hM.1) rfl i_Pt 2 (by decide) rfl fl_Pt_18 rfl d_Pt_setAffine_17 ?_
  refine lv_lconst (v := 1) hx hb d_Pt_setAffine_20 (by decide +kernel) ?_
  refine sx_gv (sx_runS (As := [.ref (r 2), .long 1]) (rest := []) EE (c_F_set (hS.a (hM.2 2 (by decide)).1) (hS.1.2.2.2 _ _ (hM.2 2 (by decide)).2) (hW 2 (by decide))) w_Pt_24 rfl ⟨rfl, rfl⟩ ⟨Nat.le_of_ble_eq_true rfl, Nat.le_of_ble_eq_true rfl⟩ ⟨Nat.zero_le _, Nat.zero_le _⟩ hl.1 rfl (Nat.le_of_ble_eq_true rfl) d_Pt_setAffine_21) hS (fun H locs hS => ?_)
  refine lv_aload_n hx hb d_Pt_setAffine_24 rfl (lv_at hl 0 rfl) ?_
  refine sx_get EE (hS.1.ob hE hM.1) rfl i_Pt 3 (by decide) rfl fl_Pt_21 rfl d_Pt_setAffine_25 ?_
  refine lv_aload_n hx hb d_Pt_setAffine_28 rfl (lv_at hl 1 rfl) ?_
  refine lv_aload_n hx hb d_Pt_setAffine_29 rfl (lv_at hl 2 rfl) ?_
  refine sx_gv (sx_runS (As := [.ref (r 3), .ref a0, .ref a1]) (rest := []) EE (c_F_times (hS.a (hM.2 3 (by decide)).1) (hW 3 (by decide)) (hS.a f0) (hS.a f1)) w_Pt_32 rfl ⟨rfl, rfl⟩ ⟨Nat.le_of_ble_eq_true rfl, Nat.le_of_ble_eq_true rfl⟩ ⟨Nat.zero_le _, Nat.zero_le _⟩ hl.1 rfl (Nat.le_of_ble_eq_true rfl) d_Pt_setAffine_30) hS (fun H locs hS => ?_)
  exact hret _ _ _ _ hS d_Pt_setAffine_33
abbrev rm_Ad_set : Room := { frames := 2, cells := 0, slots := 0, locals := 99 }
set_option maxHeartbeats 4000000 in
set_option maxRecDepth 100000 in
theorem c_Ad_set {l : Launch} {D : va_G} {g : ClassId → FieldType → Prop} {E : Nat → Prop} {H0 : Heap} {o : Nat} {r : Nat → Nat} {a0 : Nat} {r0 : Nat → Nat} {ts : Nat → Nat} (hM : o4_ D g H0 5 o r) (hE : ¬ E o) (hW : ∀ k, k < 4 → E (r k)) (h0 : o4_ D g H0 4 a0 r0) (n0 : ¬ E a0) (hz : st_H D g E H0 ts) : Met l y_Ad_set (.code y_Ad_set b_Ad_set 2 none :: G_) rm_Ad_set (sx_Pc [.ref o, .ref a0] H0 D g) (sx_Qv g E H0) 0 0 E := by
  refine sx_mv (own := R_Ad) (by decide) rfl rfl rfl (Nat.le_of_ble_eq_true rfl) ?_
  intro p e s m args below meth c Q ls EE hl hret
  obtain ⟨hx, hb, hml, hown, hts, hG, hK⟩ := id EE
  have hS : sx_S g E E H0 H0 [] := sx_S.rf
  have hl : lv_has ls 2 [(0, .ref o), (1, .ref a0)] := hl
  refine lv_aload_n hx hb d_Ad_set_0 rfl (lv_at hl 0 rfl) ?_
  refine sx_get EE (hS.1.ob hE hM.1) rfl i_Ad 0 (by decide) rfl fl_Ad_9 rfl d_Ad_set_1 ?_
  refine lv_aload_n hx hb d_Ad_set_4 rfl (lv_at hl 1 rfl) ?_
  refine sx_getN EE (hS.1.ob n0 h0.1) rfl i_Pt 1 (by decide) rfl fn_Ad_24 rfl d_Ad_set_5 ?_
  refine lv_aload_n hx hb d_Ad_set_8 rfl (lv_at hl 1 rfl) ?_
  refine sx_getN EE (hS.1.ob n0 h0.1) rfl i_Pt 0 (by decide) rfl fn_Ad_29 rfl d_Ad_set_9 ?_
  refine sx_gv (sx_runS (As := [.ref (r 0), .ref (r0 1), .ref (r0 0)]) (rest := []) EE (c_F_subtract (hS.a (hM.2 0 (by decide)).1) (hW 0 (by decide)) (hS.a (h0.2 1 (by decide)).1) (hS.a (h0.2 0 (by decide)).1)) w_Ad_32 rfl ⟨rfl, rfl⟩ ⟨Nat.le_of_ble_eq_true rfl, Nat.le_of_ble_eq_true rfl⟩ ⟨Nat.zero_le _, Nat.zero_le _⟩ hl.1 rfl (Nat.le_of_ble_eq_true rfl) d_Ad_set_12) hS (fun H locs hS => ?_)
  refine lv_aload_n hx hb d_Ad_set_15 rfl (lv_at hl 0 rfl) ?_
  refine sx_get EE (hS.1.ob hE hM.1) rfl i_Ad 1 (by decide) rfl fl_Ad_15 rfl d_Ad_set_16 ?_
  refine lv_aload_n hx hb d_Ad_set_19 rfl (lv_at hl 1 rfl) ?_
  refine sx_getN EE (hS.1.ob n0 h0.1) rfl i_Pt 1 (by decide) rfl fn_Ad_24 rfl d_Ad_set_20 ?_
  refine lv_aload_n hx hb d_Ad_set_23 rfl (lv_at hl 1 rfl) ?_
  refine sx_getN EE (hS.1.ob n0 h0.1) rfl i_Pt 0 (by decide) rfl fn_Ad_29 rfl d_Ad_set_24 ?_
  refine sx_gv (sx_runS (As := [.ref (r 1), .ref (r0 1), .ref (r0 0)]) (rest := []) EE (c_F_add (hS.a (hM.2 1 (by decide)).1) (hW 1 (by decide)) (hS.a (h0.2 1 (by decide)).1) (hS.a (h0.2 0 (by decide)).1)) w_Ad_36 rfl ⟨rfl, rfl⟩ ⟨Nat.le_of_ble_eq_true rfl, Nat.le_of_ble_eq_true rfl⟩ ⟨Nat.zero_le _, Nat.zero_le _⟩ hl.1 rfl (Nat.le_of_ble_eq_true rfl) d_Ad_set_27) hS (fun H locs hS => ?_)
  refine lv_aload_n hx hb d_Ad_set_30 rfl (lv_at hl 0 rfl) ?_
  refine sx_get EE (hS.1.ob hE hM.1) rfl i_Ad 2 (by decide) rfl fl_Ad_18 rfl d_Ad_set_31 ?_
  refine lv_aload_n hx hb d_Ad_set_34 rfl (lv_at hl 1 rfl) ?_
  refine sx_getN EE (hS.1.ob n0 h0.1) rfl i_Pt 2 (by decide) rfl fn_Ad_39 rfl d_Ad_set_35 ?_
  refine lv_aload_n hx hb d_Ad_set_38 rfl (lv_at hl 1 rfl) ?_
  refine sx_getN EE (hS.1.ob n0 h0.1) rfl i_Pt 2 (by decide) rfl fn_Ad_39 rfl d_Ad_set_39 ?_
  refine sx_gv (sx_runS (As := [.ref (r 2), .ref (r0 2), .ref (r0 2)]) (rest := []) EE (c_F_add (hS.a (hM.2 2 (by decide)).1) (hW 2 (by decide)) (hS.a (h0.2 2 (by decide)).1) (hS.a (h0.2 2 (by decide)).1)) w_Ad_36 rfl ⟨rfl, rfl⟩ ⟨Nat.le_of_ble_eq_true rfl, Nat.le_of_ble_eq_true rfl⟩ ⟨Nat.zero_le _, Nat.zero_le _⟩ hl.1 rfl (Nat.le_of_ble_eq_true rfl) d_Ad_set_42) hS (fun H locs hS => ?_)
  refine lv_aload_n hx hb d_Ad_set_45 rfl (lv_at hl 0 rfl) ?_
  refine sx_get EE (hS.1.ob hE hM.1) rfl i_Ad 3 (by decide) rfl fl_Ad_21 rfl d_Ad_set_46 ?_
  refine lv_aload_n hx hb d_Ad_set_49 rfl (lv_at hl 1 rfl) ?_
  refine sx_getN EE (hS.1.ob n0 h0.1) rfl i_Pt 3 (by decide) rfl fn_Ad_42 rfl d_Ad_set_50 ?_
  obtain ⟨cz, z1, z2, z3, z4, z5⟩ := (hz.kept hS.1).2.1
  refine sx_getsN EE hK.2.2.1 z1 z2 z3 fn_Ad_45 d_Ad_set_53 ?_
  refine sx_gv (sx_runS (As := [.ref (r 3), .ref (r0 3), .ref (ts 1)]) (rest := []) EE (c_F_times (hS.a (hM.2 3 (by decide)).1) (hW 3 (by decide)) (hS.a (h0.2 3 (by decide)).1) (hS.a hz.2.2.1)) w_Ad_50 rfl ⟨rfl, rfl⟩ ⟨Nat.le_of_ble_eq_true rfl, Nat.le_of_ble_eq_true rfl⟩ ⟨Nat.zero_le _, Nat.zero_le _⟩ hl.1 rfl (Nat.le_of_ble_eq_true rfl) d_Ad_set_56) hS (fun H locs hS => ?_)
  exact hret _ _ _ _ hS d_Ad_set_59
abbrev rm_Ed_join : Room := { frames := 2, cells := 0, slots := 0, locals := 99 }
set_option maxHeartbeats 4000000 in
set_option maxRecDepth 100000 in
theorem c_Ed_join {l : Launch} {D : va_G} {g : ClassId → FieldType → Prop} {E : Nat → Prop} {H0 : Heap} {o : Nat} {r : Nat → Nat} {a0 : Nat} {r0 : Nat → Nat} (hM : ed_ D g H0 o r) (hE : ¬ E o) (hW : ∀ k, 7 ≤ k → k < 15 → E (r k)) (h0 : o4_ D g H0 4 a0 r0) (n0 : ¬ E a0) (w0 : ∀ k, k < 4 → E (r0 k)) : Met l y_Ed_join (.code y_Ed_join b_Ed_join 2 none :: G_) rm_Ed_join (sx_Pc [.ref o, .ref a0] H0 D g) (sx_Qv g E H0) 0 0 E := by
  refine sx_mv (own := R_Ed) (by decide) rfl rfl rfl (Nat.le_of_ble_eq_true rfl) ?_
  intro p e s m args below meth c Q ls EE hl hret
  obtain ⟨hx, hb, hml, hown, hts, hG, hK⟩ := id EE
  have hS : sx_S g E E H0 H0 [] := sx_S.rf
  have hl : lv_has ls 2 [(0, .ref o), (1, .ref a0)] := hl
  refine lv_aload_n hx hb d_Ed_join_0 rfl (lv_at hl 1 rfl) ?_
  refine sx_getN EE (hS.1.ob n0 h0.1) rfl i_Pt 0 (by decide) rfl fn_Ed_94 rfl d_Ed_join_1 ?_
  refine lv_aload_n hx hb d_Ed_join_4 rfl (lv_at hl 0 rfl) ?_
  refine sx_get EE (hS.1.ob hE hM.1) rfl i_Ed 11 (by decide) rfl fl_Ed_52 rfl d_Ed_join_5 ?_
  refine lv_aload_n hx hb d_Ed_join_8 rfl (lv_at hl 0 rfl) ?_
  refine sx_get EE (hS.1.ob hE hM.1) rfl i_Ed 12 (by decide) rfl fl_Ed_55 rfl d_Ed_join_9 ?_
  refine sx_gv (sx_runS (As := [.ref (r0 0), .ref (r 11), .ref (r 12)]) (rest := []) EE (c_F_times (hS.a (h0.2 0 (by decide)).1) (w0 0 (by decide)) (hS.a (hM.2 11 (by decide) (by decide))) (hS.a (hM.2 12 (by decide) (by decide)))) w_Ed_104 rfl ⟨rfl, rfl⟩ ⟨Nat.le_of_ble_eq_true rfl, Nat.le_of_ble_eq_true rfl⟩ ⟨Nat.zero_le _, Nat.zero_le _⟩ hl.1 rfl (Nat.le_of_ble_eq_true rfl) d_Ed_join_12) hS (fun H locs hS => ?_)
  refine lv_aload_n hx hb d_Ed_join_15 rfl (lv_at hl 1 rfl) ?_
  refine sx_getN EE (hS.1.ob n0 h0.1) rfl i_Pt 1 (by decide) rfl fn_Ed_91 rfl d_Ed_join_16 ?_
  refine lv_aload_n hx hb d_Ed_join_19 rfl (lv_at hl 0 rfl) ?_
  refine sx_get EE (hS.1.ob hE hM.1) rfl i_Ed 13 (by decide) rfl fl_Ed_58 rfl d_Ed_join_20 ?_
  refine lv_aload_n hx hb d_Ed_join_23 rfl (lv_at hl 0 rfl) ?_
  refine sx_get EE (hS.1.ob hE hM.1) rfl i_Ed 14 (by decide) rfl fl_Ed_61 rfl d_Ed_join_24 ?_
  refine sx_gv (sx_runS (As := [.ref (r0 1), .ref (r 13), .ref (r 14)]) (rest := []) EE (c_F_times (hS.a (h0.2 1 (by decide)).1) (w0 1 (by decide)) (hS.a (hM.2 13 (by decide) (by decide))) (hS.a (hM.2 14 (by decide) (by decide)))) w_Ed_104 rfl ⟨rfl, rfl⟩ ⟨Nat.le_of_ble_eq_true rfl, Nat.le_of_ble_eq_true rfl⟩ ⟨Nat.zero_le _, Nat.zero_le _⟩ hl.1 rfl (Nat.le_of_ble_eq_true rfl) d_Ed_join_27) hS (fun H locs hS => ?_)
  refine lv_aload_n hx hb d_Ed_join_30 rfl (lv_at hl 1 rfl) ?_
  refine sx_getN EE (hS.1.ob n0 h0.1) rfl i_Pt 3 (by decide) rfl fn_Ed_112 rfl d_Ed_join_31 ?_
  refine lv_aload_n hx hb d_Ed_join_34 rfl (lv_at hl 0 rfl) ?_
  refine sx_get EE (hS.1.ob hE hM.1) rfl i_Ed 11 (by decide) rfl fl_Ed_52 rfl d_Ed_join_35 ?_
  refine lv_aload_n hx hb d_Ed_join_38 rfl (lv_at hl 0 rfl) ?_
  refine sx_get EE (hS.1.ob hE hM.1) rfl i_Ed 14 (by decide) rfl fl_Ed_61 rfl d_Ed_join_39 ?_
  refine sx_gv (sx_runS (As := [.ref (r0 3), .ref (r 11), .ref (r 14)]) (rest := []) EE (c_F_times (hS.a (h0.2 3 (by decide)).1) (w0 3 (by decide)) (hS.a (hM.2 11 (by decide) (by decide))) (hS.a (hM.2 14 (by decide) (by decide)))) w_Ed_104 rfl ⟨rfl, rfl⟩ ⟨Nat.le_of_ble_eq_true rfl, Nat.le_of_ble_eq_true rfl⟩ ⟨Nat.zero_le _, Nat.zero_le _⟩ hl.1 rfl (Nat.le_of_ble_eq_true rfl) d_Ed_join_42) hS (fun H locs hS => ?_)
  refine lv_aload_n hx hb d_Ed_join_45 rfl (lv_at hl 1 rfl) ?_
  refine sx_getN EE (hS.1.ob n0 h0.1) rfl i_Pt 2 (by decide) rfl fn_Ed_118 rfl d_Ed_join_46 ?_
  refine lv_aload_n hx hb d_Ed_join_49 rfl (lv_at hl 0 rfl) ?_
  refine sx_get EE (hS.1.ob hE hM.1) rfl i_Ed 12 (by decide) rfl fl_Ed_55 rfl d_Ed_join_50 ?_
  refine lv_aload_n hx hb d_Ed_join_53 rfl (lv_at hl 0 rfl) ?_
  refine sx_get EE (hS.1.ob hE hM.1) rfl i_Ed 13 (by decide) rfl fl_Ed_58 rfl d_Ed_join_54 ?_
  refine sx_gv (sx_runS (As := [.ref (r0 2), .ref (r 12), .ref (r 13)]) (rest := []) EE (c_F_times (hS.a (h0.2 2 (by decide)).1) (w0 2 (by decide)) (hS.a (hM.2 12 (by decide) (by decide))) (hS.a (hM.2 13 (by decide) (by decide)))) w_Ed_104 rfl ⟨rfl, rfl⟩ ⟨Nat.le_of_ble_eq_true rfl, Nat.le_of_ble_eq_true rfl⟩ ⟨Nat.zero_le _, Nat.zero_le _⟩ hl.1 rfl (Nat.le_of_ble_eq_true rfl) d_Ed_join_57) hS (fun H locs hS => ?_)
  exact hret _ _ _ _ hS d_Ed_join_60
abbrev rm_Ed_add : Room := { frames := 3, cells := 0, slots := 0, locals := 120 }
set_option maxHeartbeats 4000000 in
set_option maxRecDepth 100000 in
theorem c_Ed_add {l : Launch} {D : va_G} {g : ClassId → FieldType → Prop} {E : Nat → Prop} {H0 : Heap} {o : Nat} {r : Nat → Nat} {a0 : Nat} {r0 : Nat → Nat} {a1 : Nat} {r1 : Nat → Nat} (hM : ed_ D g H0 o r) (hE : ¬ E o) (hW : ∀ k, 7 ≤ k → k < 15 → E (r k)) (h0 : o4_ D g H0 4 a0 r0) (n0 : ¬ E a0) (w0 : ∀ k, k < 4 → E (r0 k)) (h1 : o4_ D g H0 5 a1 r1) (n1 : ¬ E a1) : Met l y_Ed_add (.code y_Ed_add b_Ed_add 3 none :: G_) rm_Ed_add (sx_Pc [.ref o, .ref a0, .ref a1] H0 D g) (sx_Qv g E H0) 0 0 E := by
  refine sx_mv (own := R_Ed) (by decide) rfl rfl rfl (Nat.le_of_ble_eq_true rfl) ?_
  intro p e s m args below meth c Q ls EE hl hret
  obtain ⟨hx, hb, hml, hown, hts, hG, hK⟩ := id EE
  have hS : sx_S g E E H0 H0 [] := sx_S.rf
  have hl : lv_has ls 3 [(0, .ref o), (1, .ref a0), (2, .ref a1)] := hl
  refine lv_aload_n hx hb d_Ed_add_0 rfl (lv_at hl 0 rfl) ?_
  refine sx_get EE (hS.1.ob hE hM.1) rfl i_Ed 7 (by decide) rfl fl_Ed_39 rfl d_Ed_add_1 ?_
  refine lv_aload_n hx hb d_Ed_add_4 rfl (lv_at hl 1 rfl) ?_
  refine sx_getN EE (hS.1.ob n0 h0.1) rfl i_Pt 1 (by decide) rfl fn_Ed_91 rfl d_Ed_add_5 ?_
  refine lv_aload_n hx hb d_Ed_add_8 rfl (lv_at hl 1 rfl) ?_
  refine sx_getN EE (hS.1.ob n0 h0.1) rfl i_Pt 0 (by decide) rfl fn_Ed_94 rfl d_Ed_add_9 ?_
  refine sx_gv (sx_runS (As := [.ref (r 7), .ref (r0 1), .ref (r0 0)]) (rest := []) EE (c_F_subtract (hS.a (hM.2 7 (by decide) (by decide))) (hW 7 (by decide) (by decide)) (hS.a (h0.2 1 (by decide)).1) (hS.a (h0.2 0 (by decide)).1)) w_Ed_97 rfl ⟨rfl, rfl⟩ ⟨Nat.le_of_ble_eq_true rfl, Nat.le_of_ble_eq_true rfl⟩ ⟨Nat.zero_le _, Nat.zero_le _⟩ hl.1 rfl (Nat.le_of_ble_eq_true rfl) d_Ed_add_12) hS (fun H locs hS => ?_)
  refine lv_aload_n hx hb d_Ed_add_15 rfl (lv_at hl 0 rfl) ?_
  refine sx_get EE (hS.1.ob hE hM.1) rfl i_Ed 7 (by decide) rfl fl_Ed_39 rfl d_Ed_add_16 ?_
  refine lv_aload_n hx hb d_Ed_add_19 rfl (lv_at hl 0 rfl) ?_
  refine sx_get EE (hS.1.ob hE hM.1) rfl i_Ed 7 (by decide) rfl fl_Ed_39 rfl d_Ed_add_20 ?_
  refine lv_aload_n hx hb d_Ed_add_23 rfl (lv_at hl 2 rfl) ?_
  refine sx_getN EE (hS.1.ob n1 h1.1) rfl i_Ad 0 (by decide) rfl fn_Ed_101 rfl d_Ed_add_24 ?_
  refine sx_gv (sx_runS (As := [.ref (r 7), .ref (r 7), .ref (r1 0)]) (rest := []) EE (c_F_times (hS.a (hM.2 7 (by decide) (by decide))) (hW 7 (by decide) (by decide)) (hS.a (hM.2 7 (by decide) (by decide))) (hS.a (h1.2 0 (by decide)).1)) w_Ed_104 rfl ⟨rfl, rfl⟩ ⟨Nat.le_of_ble_eq_true rfl, Nat.le_of_ble_eq_true rfl⟩ ⟨Nat.zero_le _, Nat.zero_le _⟩ hl.1 rfl (Nat.le_of_ble_eq_true rfl) d_Ed_add_27) hS (fun H locs hS => ?_)
  refine lv_aload_n hx hb d_Ed_add_30 rfl (lv_at hl 0 rfl) ?_
  refine sx_get EE (hS.1.ob hE hM.1) rfl i_Ed 8 (by decide) rfl fl_Ed_43 rfl d_Ed_add_31 ?_
  refine lv_aload_n hx hb d_Ed_add_34 rfl (lv_at hl 1 rfl) ?_
  refine sx_getN EE (hS.1.ob n0 h0.1) rfl i_Pt 1 (by decide) rfl fn_Ed_91 rfl d_Ed_add_35 ?_
  refine lv_aload_n hx hb d_Ed_add_38 rfl (lv_at hl 1 rfl) ?_
  refine sx_getN EE (hS.1.ob n0 h0.1) rfl i_Pt 0 (by decide) rfl fn_Ed_94 rfl d_Ed_add_39 ?_
  refine sx_gv (sx_runS (As := [.ref (r 8), .ref (r0 1), .ref (r0 0)]) (rest := []) EE (c_F_add (hS.a (hM.2 8 (by decide) (by decide))) (hW 8 (by decide) (by decide)) (hS.a (h0.2 1 (by decide)).1) (hS.a (h0.2 0 (by decide)).1)) w_Ed_107 rfl ⟨rfl, rfl⟩ ⟨Nat.le_of_ble_eq_true rfl, Nat.le_of_ble_eq_true rfl⟩ ⟨Nat.zero_le _, Nat.zero_le _⟩ hl.1 rfl (Nat.le_of_ble_eq_true rfl) d_Ed_add_42) hS (fun H locs hS => ?_)
  refine lv_aload_n hx hb d_Ed_add_45 rfl (lv_at hl 0 rfl) ?_
  refine sx_get EE (hS.1.ob hE hM.1) rfl i_Ed 8 (by decide) rfl fl_Ed_43 rfl d_Ed_add_46 ?_
  refine lv_aload_n hx hb d_Ed_add_49 rfl (lv_at hl 0 rfl) ?_
  refine sx_get EE (hS.1.ob hE hM.1) rfl i_Ed 8 (by decide) rfl fl_Ed_43 rfl d_Ed_add_50 ?_
  refine lv_aload_n hx hb d_Ed_add_53 rfl (lv_at hl 2 rfl) ?_
  refine sx_getN EE (hS.1.ob n1 h1.1) rfl i_Ad 1 (by decide) rfl fn_Ed_109 rfl d_Ed_add_54 ?_
  refine sx_gv (sx_runS (As := [.ref (r 8), .ref (r 8), .ref (r1 1)]) (rest := []) EE (c_F_times (hS.a (hM.2 8 (by decide) (by decide))) (hW 8 (by decide) (by decide)) (hS.a (hM.2 8 (by decide) (by decide))) (hS.a (h1.2 1 (by decide)).1)) w_Ed_104 rfl ⟨rfl, rfl⟩ ⟨Nat.le_of_ble_eq_true rfl, Nat.le_of_ble_eq_true rfl⟩ ⟨Nat.zero_le _, Nat.zero_le _⟩ hl.1 rfl (Nat.le_of_ble_eq_true rfl) d_Ed_add_57) hS (fun H locs hS => ?_)
  refine lv_aload_n hx hb d_Ed_add_60 rfl (lv_at hl 0 rfl) ?_
  refine sx_get EE (hS.1.ob hE hM.1) rfl i_Ed 9 (by decide) rfl fl_Ed_46 rfl d_Ed_add_61 ?_
  refine lv_aload_n hx hb d_Ed_add_64 rfl (lv_at hl 1 rfl) ?_
  refine sx_getN EE (hS.1.ob n0 h0.1) rfl i_Pt 3 (by decide) rfl fn_Ed_112 rfl d_Ed_add_65 ?_
  refine lv_aload_n hx hb d_Ed_add_68 rfl (lv_at hl 2 rfl) ?_
  refine sx_getN EE (hS.1.ob n1 h1.1) rfl i_Ad 3 (by decide) rfl fn_Ed_115 rfl d_Ed_add_69 ?_
  refine sx_gv (sx_runS (As := [.ref (r 9), .ref (r0 3), .ref (r1 3)]) (rest := []) EE (c_F_times (hS.a (hM.2 9 (by decide) (by decide))) (hW 9 (by decide) (by decide)) (hS.a (h0.2 3 (by decide)).1) (hS.a (h1.2 3 (by decide)).1)) w_Ed_104 rfl ⟨rfl, rfl⟩ ⟨Nat.le_of_ble_eq_true rfl, Nat.le_of_ble_eq_true rfl⟩ ⟨Nat.zero_le _, Nat.zero_le _⟩ hl.1 rfl (Nat.le_of_ble_eq_true rfl) d_Ed_add_72) hS (fun H locs hS => ?_)
  refine lv_aload_n hx hb d_Ed_add_75 rfl (lv_at hl 0 rfl) ?_
  refine sx_get EE (hS.1.ob hE hM.1) rfl i_Ed 10 (by decide) rfl fl_Ed_49 rfl d_Ed_add_76 ?_
  refine lv_aload_n hx hb d_Ed_add_79 rfl (lv_at hl 1 rfl) ?_
  refine sx_getN EE (hS.1.ob n0 h0.1) rfl i_Pt 2 (by decide) rfl fn_Ed_118 rfl d_Ed_add_80 ?_
  refine lv_aload_n hx hb d_Ed_add_83 rfl (lv_at hl 2 rfl) ?_
  refine sx_getN EE (hS.1.ob n1 h1.1) rfl i_Ad 2 (by decide) rfl fn_Ed_121 rfl d_Ed_add_84 ?_
  refine sx_gv (sx_runS (As := [.ref (r 10), .ref (r0 2), .ref (r1 2)]) (rest := []) EE (c_F_times (hS.a (hM.2 10 (by decide) (by decide))) (hW 10 (by decide) (by decide)) (hS.a (h0.2 2 (by decide)).1) (hS.a (h1.2 2 (by decide)).1)) w_Ed_104 rfl ⟨rfl, rfl⟩ ⟨Nat.le_of_ble_eq_true rfl, Nat.le_of_ble_eq_true rfl⟩ ⟨Nat.zero_le _, Nat.zero_le _⟩ hl.1 rfl (Nat.le_of_ble_eq_true rfl) d_Ed_add_87) hS (fun H locs hS => ?_)
  refine lv_aload_n hx hb d_Ed_add_90 rfl (lv_at hl 0 rfl) ?_
  refine sx_get EE (hS.1.ob hE hM.1) rfl i_Ed 11 (by decide) rfl fl_Ed_52 rfl d_Ed_add_91 ?_
  refine lv_aload_n hx hb d_Ed_add_94 rfl (lv_at hl 0 rfl) ?_
  refine sx_get EE (hS.1.ob hE hM.1) rfl i_Ed 8 (by decide) rfl fl_Ed_43 rfl d_Ed_add_95 ?_
  refine lv_aload_n hx hb d_Ed_add_98 rfl (lv_at hl 0 rfl) ?_
  refine sx_get EE (hS.1.ob hE hM.1) rfl i_Ed 7 (by decide) rfl fl_Ed_39 rfl d_Ed_add_99 ?_
  refine sx_gv (sx_runS (As := [.ref (r 11), .ref (r 8), .ref (r 7)]) (rest := []) EE (c_F_subtract (hS.a (hM.2 11 (by decide) (by decide))) (hW 11 (by decide) (by decide)) (hS.a (hM.2 8 (by decide) (by decide))) (hS.a (hM.2 7 (by decide) (by decide)))) w_Ed_97 rfl ⟨rfl, rfl⟩ ⟨Nat.le_of_ble_eq_true rfl, Nat.le_of_ble_eq_true rfl⟩ ⟨Nat.zero_le _, Nat.zero_le _⟩ hl.1 rfl (Nat.le_of_ble_eq_true rfl) d_Ed_add_102) hS (fun H locs hS => ?_)
  refine lv_aload_n hx hb d_Ed_add_105 rfl (lv_at hl 0 rfl) ?_
  refine sx_get EE (hS.1.ob hE hM.1) rfl i_Ed 12 (by decide) rfl fl_Ed_55 rfl d_Ed_add_106 ?_
  refine lv_aload_n hx hb d_Ed_add_109 rfl (lv_at hl 0 rfl) ?_
  refine sx_get EE (hS.1.ob hE hM.1) rfl i_Ed 10 (by decide) rfl fl_Ed_49 rfl d_Ed_add_110 ?_
  refine lv_aload_n hx hb d_Ed_add_113 rfl (lv_at hl 0 rfl) ?_
  refine sx_get EE (hS.1.ob hE hM.1) rfl i_Ed 9 (by decide) rfl fl_Ed_46 rfl d_Ed_add_114 ?_
  refine sx_gv (sx_runS (As := [.ref (r 12), .ref (r 10), .ref (r 9)]) (rest := []) EE (c_F_subtract (hS.a (hM.2 12 (by decide) (by decide))) (hW 12 (by decide) (by decide)) (hS.a (hM.2 10 (by decide) (by decide))) (hS.a (hM.2 9 (by decide) (by decide)))) w_Ed_97 rfl ⟨rfl, rfl⟩ ⟨Nat.le_of_ble_eq_true rfl, Nat.le_of_ble_eq_true rfl⟩ ⟨Nat.zero_le _, Nat.zero_le _⟩ hl.1 rfl (Nat.le_of_ble_eq_true rfl) d_Ed_add_117) hS (fun H locs hS => ?_)
  refine lv_aload_n hx hb d_Ed_add_120 rfl (lv_at hl 0 rfl) ?_
  refine sx_get EE (hS.1.ob hE hM.1) rfl i_Ed 13 (by decide) rfl fl_Ed_58 rfl d_Ed_add_121 ?_
  refine lv_aload_n hx hb d_Ed_add_124 rfl (lv_at hl 0 rfl) ?_
  refine sx_get EE (hS.1.ob hE hM.1) rfl i_Ed 10 (by decide) rfl fl_Ed_49 rfl d_Ed_add_125 ?_
  refine lv_aload_n hx hb d_Ed_add_128 rfl (lv_at hl 0 rfl) ?_
  refine sx_get EE (hS.1.ob hE hM.1) rfl i_Ed 9 (by decide) rfl fl_Ed_46 rfl d_Ed_add_129 ?_
  refine sx_gv (sx_runS (As := [.ref (r 13), .ref (r 10), .ref (r 9)]) (rest := []) EE (c_F_add (hS.a (hM.2 13 (by decide) (by decide))) (hW 13 (by decide) (by decide)) (hS.a (hM.2 10 (by decide) (by decide))) (hS.a (hM.2 9 (by decide) (by decide)))) w_Ed_107 rfl ⟨rfl, rfl⟩ ⟨Nat.le_of_ble_eq_true rfl, Nat.le_of_ble_eq_true rfl⟩ ⟨Nat.zero_le _, Nat.zero_le _⟩ hl.1 rfl (Nat.le_of_ble_eq_true rfl) d_Ed_add_132) hS (fun H locs hS => ?_)
  refine lv_aload_n hx hb d_Ed_add_135 rfl (lv_at hl 0 rfl) ?_
  refine sx_get EE (hS.1.ob hE hM.1) rfl i_Ed 14 (by decide) rfl fl_Ed_61 rfl d_Ed_add_136 ?_
  refine lv_aload_n hx hb d_Ed_add_139 rfl (lv_at hl 0 rfl) ?_
  refine sx_get EE (hS.1.ob hE hM.1) rfl i_Ed 8 (by decide) rfl fl_Ed_43 rfl d_Ed_add_140 ?_
  refine lv_aload_n hx hb d_Ed_add_143 rfl (lv_at hl 0 rfl) ?_
  refine sx_get EE (hS.1.ob hE hM.1) rfl i_Ed 7 (by decide) rfl fl_Ed_39 rfl d_Ed_add_144 ?_
  refine sx_gv (sx_runS (As := [.ref (r 14), .ref (r 8), .ref (r 7)]) (rest := []) EE (c_F_add (hS.a (hM.2 14 (by decide) (by decide))) (hW 14 (by decide) (by decide)) (hS.a (hM.2 8 (by decide) (by decide))) (hS.a (hM.2 7 (by decide) (by decide)))) w_Ed_107 rfl ⟨rfl, rfl⟩ ⟨Nat.le_of_ble_eq_true rfl, Nat.le_of_ble_eq_true rfl⟩ ⟨Nat.zero_le _, Nat.zero_le _⟩ hl.1 rfl (Nat.le_of_ble_eq_true rfl) d_Ed_add_147) hS (fun H locs hS => ?_)
  refine lv_aload_n hx hb d_Ed_add_150 rfl (lv_at hl 0 rfl) ?_
  refine lv_aload_n hx hb d_Ed_add_151 rfl (lv_at hl 1 rfl) ?_
  refine sx_gv (sx_runV (As := [.ref a0]) (rest := []) EE (hS.1.ob hE hM.1) rfl rfl (c_Ed_join (hM.kept hS.1 hE) hE hW (h0.kept hS.1 n0) n0 w0) w_Ed_124 rfl ⟨rfl, rfl⟩ ⟨Nat.le_of_ble_eq_true rfl, Nat.le_of_ble_eq_true rfl⟩ ⟨Nat.zero_le _, Nat.zero_le _⟩ hl.1 rfl (Nat.le_of_ble_eq_true rfl) d_Ed_add_152) hS (fun H locs hS => ?_)
  exact hret _ _ _ _ hS d_Ed_add_155
abbrev rm_Ed_fillMultiples : Room := { frames := 4, cells := 0, slots := 0, locals := 142 }
set_option maxHeartbeats 4000000 in
set_option maxRecDepth 100000 in
theorem c_Ed_fillMultiples {l : Launch} {D : va_G} {g : ClassId → FieldType → Prop} {E : Nat → Prop} {H0 : Heap} {o : Nat} {r : Nat → Nat} {a0 : Nat} {a1 : Nat} {r1 : Nat → Nat} {ts : Nat → Nat} (hM : ed_ D g H0 o r) (hE : ¬ E o) (hW : ∀ k, 7 ≤ k → k < 15 → E (r k)) (h0 : ra_ D g E H0 a0) (h1 : o4_ D g H0 4 a1 r1) (n1 : ¬ E a1) (w1 : ∀ k, k < 4 → E (r1 k)) (hz : st_H D g E H0 ts) : Met l y_Ed_fillMultiples (.code y_Ed_fillMultiples b_Ed_fillMultiples 4 none :: G_) rm_Ed_fillMultiples (sx_Pc [.ref o, .ref a0, .ref a1] H0 D g) (sx_Qv g E H0) 0 0 E := by
  refine sx_mv (own := R_Ed) (by decide) rfl rfl rfl (Nat.le_of_ble_eq_true rfl) ?_
  intro p e s m args below meth c Q ls EE hl hret
  obtain ⟨hx, hb, hml, hown, hts, hG, hK⟩ := id EE
  have hS : sx_S g E E H0 H0 [] := sx_S.rf
  have hl : lv_has ls 4 [(0, .ref o), (1, .ref a0), (2, .ref a1)] := hl
  refine lv_aload_n hx hb d_Ed_fillMultiples_0 rfl (lv_at hl 1 rfl) ?_
  refine lv_iconst (v := nI 1) hx hb d_Ed_fillMultiples_1 (by decide +kernel) ?_
  refine sx_aald hx hb hG hS h0 (by omega) d_Ed_fillMultiples_2 (fun b1 rb1 hb1 nb1 wb1 => ?_)
  refine lv_aload_n hx hb d_Ed_fillMultiples_3 rfl (lv_at hl 2 rfl) ?_
  refine sx_gv (sx_runV (As := [.ref a1]) (rest := []) EE (hS.1.ob nb1 hb1.1) rfl rfl (c_Ad_set (hb1.kept hS.1 nb1) nb1 wb1 (h1.kept hS.1 n1) n1 (hz.kept hS.1)) w_Ed_83 rfl ⟨rfl, rfl⟩ ⟨Nat.le_of_ble_eq_true rfl, Nat.le_of_ble_eq_true rfl⟩ ⟨Nat.zero_le _, Nat.zero_le _⟩ hl.1 rfl (Nat.le_of_ble_eq_true rfl) d_Ed_fillMultiples_4) hS (fun H locs hS => ?_)
  refine lv_iconst (v := nI 2) hx hb d_Ed_fillMultiples_7 (by decide +kernel) ?_
  refine lv_istore_n (lv' := [(3, .int (nI (2))), (0, .ref o), (1, .ref a0), (2, .ref a1)]) hx hb d_Ed_fillMultiples_8 rfl hl (by decide) rfl (fun ls hl => ?_)
  have lp9 : ∀ (k i2 : Nat) (H : Heap) (locs : List Loc) (ls : Array Slot), i2 + k = 16 → sx_S g E E H0 H locs → lv_has ls 4 [(3, .int (nI (i2))), (0, .ref o), (1, .ref a0), (2, .ref a1)] → W p l e rm_Ed_fillMultiples s m args below meth c H locs 0 0 Q (F0 m 9 ls []) := by
    intro k
    induction k with
    | zero =>
      intro i2  H locs ls hi  hS hl
      refine lv_iload_n hx hb d_Ed_fillMultiples_9 rfl (lv_at hl 0 rfl) ?_
      refine lv_bipush (v := nI 16) hx hb d_Ed_fillMultiples_10 (by decide +kernel) ?_
      refine lv_icmp_ge (tgt := 36) hx hb d_Ed_fillMultiples_12 (by decide) (fun _ => ?_) (fun q => absurd (nI_le (by omega) (by omega)) q)
      exact hret _ _ _ _ hS d_Ed_fillMultiples_36
    | succ k ih9 =>
      intro i2  H locs ls hi  hS hl
      refine lv_iload_n hx hb d_Ed_fillMultiples_9 rfl (lv_at hl 0 rfl) ?_
      refine lv_bipush (v := nI 16) hx hb d_Ed_fillMultiples_10 (by decide +kernel) ?_
      refine lv_icmp_ge (tgt := 36) hx hb d_Ed_fillMultiples_12 (by decide) (fun q => absurd q (nI_ge (by omega) (by omega))) (fun _ => ?_)
      refine lv_aload_n hx hb d_Ed_fillMultiples_15 rfl (lv_at hl 1 rfl) ?_
      refine lv_aload_n hx hb d_Ed_fillMultiples_16 rfl (lv_at hl 3 rfl) ?_
      refine lv_aload_n hx hb d_Ed_fillMultiples_17 rfl (lv_at hl 2 rfl) ?_
      refine lv_iconst (v := nI 1) hx hb d_Ed_fillMultiples_18 (by decide +kernel) ?_
      refine sx_aald hx hb hG hS h0 (by omega) d_Ed_fillMultiples_19 (fun b3 rb3 hb3 nb3 wb3 => ?_)
      refine sx_gv (sx_runV (As := [.ref a1, .ref b3]) (rest := []) EE (hS.1.ob hE hM.1) rfl rfl (c_Ed_add (hM.kept hS.1 hE) hE hW (h1.kept hS.1 n1) n1 w1 (hb3.kept hS.1 nb3) nb3) w_Ed_87 rfl ⟨rfl, rfl⟩ ⟨Nat.le_of_ble_eq_true rfl, Nat.le_of_ble_eq_true rfl⟩ ⟨Nat.zero_le _, Nat.zero_le _⟩ hl.1 rfl (Nat.le_of_ble_eq_true rfl) d_Ed_fillMultiples_20) hS (fun H locs hS => ?_)
      refine lv_aload_n hx hb d_Ed_fillMultiples_23 rfl (lv_at hl 2 rfl) ?_
      refine lv_iload_n hx hb d_Ed_fillMultiples_24 rfl (lv_at hl 0 rfl) ?_
      refine sx_aald hx hb hG hS h0 (by omega) d_Ed_fillMultiples_25 (fun b4 rb4 hb4 nb4 wb4 => ?_)
      refine lv_aload_n hx hb d_Ed_fillMultiples_26 rfl (lv_at hl 3 rfl) ?_
      refine sx_gv (sx_runV (As := [.ref a1]) (rest := []) EE (hS.1.ob nb4 hb4.1) rfl rfl (c_Ad_set (hb4.kept hS.1 nb4) nb4 wb4 (h1.kept hS.1 n1) n1 (hz.kept hS.1)) w_Ed_83 rfl ⟨rfl, rfl⟩ ⟨Nat.le_of_ble_eq_true rfl, Nat.le_of_ble_eq_true rfl⟩ ⟨Nat.zero_le _, Nat.zero_le _⟩ hl.1 rfl (Nat.le_of_ble_eq_true rfl) d_Ed_fillMultiples_27) hS (fun H locs hS => ?_)
      refine lv_iinc (v := nI (i2 + 1)) (lv' := [(3, .int (nI (i2 + 1))), (0, .ref o), (1, .ref a0), (2, .ref a1)]) hx hb d_Ed_fillMultiples_30 hl (k := 0) rfl (sx_inc _ _) (by decide) rfl (fun ls hl => ?_)
      refine lv_goto (tgt := 9) hx hb d_Ed_fillMultiples_33 (by decide) ?_
      exact ih9 (i2 + 1)  _ _ _ (by omega)  hS (lv_sub hl [0, 1, 2, 3] rfl)
  exact lp9 (14) 2  _ _ _ (by omega)  hS (lv_sub hl [0, 1, 2, 3] rfl)
end
section
/-! objects are made, constructors called -/
theorem o4_.grown {D : va_G} {g : ClassId → FieldType → Prop} {H H1 : Heap} {ci o : Nat} {r : Nat → Nat} (h : o4_ D g H ci o r) (hz : H.size ≤ H1.size) (hk : ∀ z : Nat, z < H.size → H1[z]? = H[z]?) : o4_ D g H1 ci o r := h.kept (E := fun _ => False) (sx_J.grow hz hk) (fun h => h)
theorem sx_J.news {g : ClassId → FieldType → Prop} {E' : Nat → Prop} {H Hb H1 : Heap} {q : Nat} (e : H.size = q) (hk : ∀ z : Nat, z < H.size → Hb[z]? = H[z]?) (hz : H.size ≤ Hb.size) (hJ : sx_J g E' Hb H1) (hE : ∀ z, E' z → z = q ∨ Hb.size ≤ z) : ∀ z : Nat, z < H.size → H1[z]? = H[z]? := fun z hz' => (hJ.2.1 z (Nat.lt_of_lt_of_le hz' hz) (fun h => by rcases hE z h with h | h <;> omega)).trans (hk z hz')
section SXN
variable {p : Program} {l : Launch} {e : Env} {R : Room} {s : State} {m : MethodId} {args : Array Value} {below : List Frame} {meth : Method} {c : Code} {H H0 : Heap} {locs : List Loc} {cells slots : Nat} {Q : State → Prop}
variable {cc : ByteArray} {pc : Nat} {ls : Array Slot} {g : ClassId → FieldType → Prop} {E F : Nat → Prop} {D : va_G}
variable {nL index ci N : Nat} {own C host : String} {rest st : List Value} {fs : List Value} {T : u_T}
theorem sx_newo {cells' slots' : Nat} (EE : sx_E p s m args c cc nL own D g) (hc : classes[ci]? = some (C, T, N)) (hin : ∀ w ∈ u_ws C T N, w ∈ G_) (ty : Nat → FieldType) (hty : ∀ k, k < N → parseFieldDescriptor (T k).2.2.1 = some (ty k)) (hw : ∀ w ∈ ([.classLink own index C, .instantiable C N, .initialized C] : List Cond), w ∈ lw_tbl ∧ sx_okw w = true) (hfs : ∀ j, j < N → defaultValue (ty j) = vp_V fs j) (hc1 : cells + 1 = cells') (hs1 : slots + N = slots') (hcells : cells' ≤ R.cells) (hslots : slots' ≤ R.slots) (hdg : decode cc pc = .ok (.new index, 3))
    (kk : ∀ (q : Nat) (H1 : Heap), H.size = q → va_P D classes [(q, .inr (ci, fs))] H1 → H1.size = q + 1 → (∀ z : Nat, z < H.size → H1[z]? = H[z]?) → W p l e R s m args below meth c H1 locs cells' slots' Q (F0 m (pc + 3) ls (.ref q :: rest))) : W p l e R s m args below meth c H locs cells slots Q (F0 m pc ls rest) := by
  subst hc1
  subst hs1
  obtain ⟨hx, hb, hml, hown, hts, hU⟩ := EE
  have hKn := hU.2.1.1 ci _ hc
  have ok : ∀ w ∈ ([.classLink own index C, .instantiable C N, .initialized C] : List Cond), w.before args s = true := fun w h => hts w (G_in (hw w h))
  refine W.newcK hx hb hown (ok _ (by simp)) (ok _ (by simp)) (ok _ (by simp)) rfl hdg hcells hslots hKn.2.1 rfl fun H1 kC hkC e1 z1 o1 => ?_
  refine kk H.size H1 rfl (fun k x hx => ?_) z1 o1
  match k, hx with
  | 0, hx =>
    cases hx
    exact ⟨_, hc, (u_born ty hts hin hKn hkC e1 hty).to hfs⟩
theorem sx_runI {y : MethodName} {bytes : ByteArray} {maxL n mc ms : Nat} {rm : Room} {As : List Value} {b : Nat} {E' : Nat → Prop} {Qc : Array Value → State → Outcome → State → Prop} (EE : sx_E p s m args c cc nL own D g) (hM : Met l y (.code y bytes maxL none :: G_) rm (sx_Pc (.ref b :: As) H D g) Qc mc ms E') (hw : sx_w [.methodLink own index y, .instanceMethod y, .initialized y.cls, .code y bytes maxL none] y n) (hn : As.length = n) (hy1 : y.name = "<init>") (hrm : rm.cells = mc ∧ rm.slots = ms) (hR : rm.frames + 1 ≤ R.frames ∧ 8 + (maxL + 11) + rm.locals ≤ R.locals) (hcs : cells + mc ≤ R.cells ∧ slots + ms ≤ R.slots)
    (hsz : ls.size = nL) (hst : st = As.reverse ++ .ref b :: rest) (hrest : (rest.map fun v => v.category).sum ≤ 8) (hdg : decode cc pc = .ok (.invokespecial index, 3)) :
    va_Run p l e R s m args below meth c H locs cells slots mc ms (F0 m pc ls st) rest (Qc (Value.ref b :: As).toArray) E' := by
  obtain ⟨hx, hb, hml, hown, hts, hU⟩ := EE
  have hin : ∀ w ∈ ([.methodLink own index y, .instanceMethod y, .initialized y.cls, .code y bytes maxL none] : List Cond), w ∈ G_ := fun w h => G_in (hw.1 w h)
  have ok : ∀ w ∈ ([.methodLink own index y, .instanceMethod y, .initialized y.cls, .code y bytes maxL none] : List Cond), w.before args s = true := fun w h => hts w (hin w h)
  exact va_runI (As := As) (rest := rest) ⟨hx, hb, hml, hown, hts⟩ hM (cwI n hts (G_good (fun w h => by
      rcases List.mem_cons.mp h with rfl | h
      · exact hin _ (by simp)
      · exact h)) rfl hrm.1 hrm.2 (ok _ (by simp)) (ok _ (by simp)) (ok _ (by simp)) hy1 hw.2 hR) ⟨sx_blind, fun U hU' hW => ⟨rfl, hU', hU.moved hW⟩⟩ rfl hn hsz hst (lv_room hrest) hdg hcs
theorem sx_runIN {y : MethodName} {bytes : ByteArray} {maxL n mc ms : Nat} {rm : Room} {As : List Value} {b : Nat} {E' : Nat → Prop} {Qc : Array Value → State → Outcome → State → Prop} (EE : sx_E p s m args c cc nL own D g) (hM : Met l y (.code y bytes maxL none :: G_) rm (sx_Pc (.ref b :: As) H D g) Qc mc ms E') (hl : Cond.methodLinkNest own index y host ∈ lw_tbl) (hw : sx_w [.instanceMethod y, .initialized y.cls, .code y bytes maxL none] y n) (hn : As.length = n) (hy1 : y.name = "<init>") (hrm : rm.cells = mc ∧ rm.slots = ms) (hR : rm.frames + 1 ≤ R.frames ∧ 8 + (maxL + 11) + rm.locals ≤ R.locals) (hcs : cells + mc ≤ R.cells ∧ slots + ms ≤ R.slots)
    (hsz : ls.size = nL) (hst : st = As.reverse ++ .ref b :: rest) (hrest : (rest.map fun v => v.category).sum ≤ 8) (hdg : decode cc pc = .ok (.invokespecial index, 3)) :
    va_Run p l e R s m args below meth c H locs cells slots mc ms (F0 m pc ls st) rest (Qc (Value.ref b :: As).toArray) E' := by
  obtain ⟨hx, hb, hml, hown, hts, hU⟩ := EE
  have hin : ∀ w ∈ ([.instanceMethod y, .initialized y.cls, .code y bytes maxL none] : List Cond), w ∈ G_ := fun w h => G_in (hw.1 w h)
  have ok : ∀ w ∈ ([.instanceMethod y, .initialized y.cls, .code y bytes maxL none] : List Cond), w.before args s = true := fun w h => hts w (hin w h)
  exact va_runIN (As := As) (rest := rest) (host := host) ⟨hx, hb, hml, hown, hts⟩ hM ⟨va_cnB n hts (G_good (fun w h => by
      rcases List.mem_cons.mp h with rfl | h
      · exact hin _ (by simp)
      · exact h)) rfl hrm.1 hrm.2 (hU.2.2.1 _ hl rfl) (ok _ (by simp)) hw.2 hR, hy1, ok _ (by simp)⟩ ⟨sx_blind, fun U hU' hW => ⟨rfl, hU', hU.moved hW⟩⟩ rfl hn hsz hst (lv_room hrest) hdg hcs
/-- behind a constructor -/
theorem sx_gI {mc ms cells' slots' : Nat} {E' : Nat → Prop} {P : Heap → Prop} {a : Array Value} (hr : va_Run p l e R s m args below meth c H locs cells slots mc ms (F0 m pc ls st) rest (va_Qv (fun _ : Unit => True) (fun _ t => sx_J g E' H t.heap ∧ P t.heap) E' a) E') (hF : ∀ q, E' q → F q) (hlo : ∀ q ∈ locs, F q.base) (hc1 : cells + mc = cells') (hs1 : slots + ms = slots')
    (k : ∀ (H1 : Heap) (locs1 : List Loc), sx_J g E' H H1 → P H1 → (∀ q ∈ locs1, F q.base) → W p l e R s m args below meth c H1 locs1 cells' slots' Q (F0 m (pc + 3) ls rest)) : W p l e R s m args below meth c H locs cells slots Q (F0 m pc ls st) := by
  subst hc1
  subst hs1
  exact va_callv hr (A0 := F) (H0 := H) ⟨Nat.le_refl _, fun _ _ _ => rfl, hlo⟩ (fun _ _ h => hF _ h) (fun _ h => hF _ h) (fun u t H1 locs1 ht hvm hw hB hz hk hS1 => by
    rw [ht] at hB
    exact k H1 locs1 hB.1 hB.2 hS1.2.2)
end SXN
theorem va_P.one {D : va_G} {cl : List vw_C} {H H1 : Heap} {x o : Nat} {e : va_E} (h : va_P D cl [(x, e)] H) (hs : ∀ q : Nat, q ≠ o → H1[q]? = H[q]?) (ne : x ≠ o) : va_P D cl [(x, e)] H1 := by
  refine h.kept (fun k q hk => ?_)
  match k, hk with
  | 0, hk =>
    cases hk
    exact hs x ne
theorem sx_ge {L : List Nat} {b : Nat} (h : ∀ x ∈ L, b ≤ x) (k : Nat) : b ≤ L.getD k b := by
  rw [List.getD_eq_getElem?_getD]
  cases hk : L[k]? with
  | none => exact Nat.le_refl _
  | some x => exact h x (List.mem_of_getElem? hk)
theorem sx_nilZ {b : Nat} : ∀ x ∈ ([] : List Nat), b ≤ x := fun x h => by cases h
theorem sx_consZ {L : List Nat} {b q : Nat} (h : ∀ x ∈ L, b ≤ x) (hq : b ≤ q) : ∀ x ∈ q :: L, b ≤ x := fun x hx => (List.mem_cons.mp hx).elim (fun e => by rw [e]; exact hq) (h x)
theorem st_H.news {D : va_G} {g : ClassId → FieldType → Prop} {E E' : Nat → Prop} {H0 H : Heap} {t : Nat → Nat} (h : st_H D g E H0 t) (hJ : sx_J g E H0 H) (hE : ∀ z, E' z → H0.size ≤ z) : st_H D g E' H t := by
  obtain ⟨cell, h1, -⟩ := h.2.1
  have h2 := (h.kept hJ).2
  exact ⟨fun z => absurd (hE _ z) (Nat.not_le.mpr (Array.getElem?_eq_some_iff.mp h1).1), h2⟩
theorem o4_.of {D : va_G} {g : ClassId → FieldType → Prop} {H : Heap} {ci o : Nat} {r : Nat → Nat} (h : va_P D classes [(o, .inr (ci, [.ref (r 0), .ref (r 1), .ref (r 2), .ref (r 3)]))] H) (hA : sx_AR g H [(r 0, .long, 10), (r 1, .long, 10), (r 2, .long, 10), (r 3, .long, 10)]) : o4_ D g H ci o r := ⟨h, fun k hk => by
  rcases (show k = 0 ∨ k = 1 ∨ k = 2 ∨ k = 3 by omega) with rfl | rfl | rfl | rfl
  · exact hA (r 0, .long, 10) (by simp)
  · exact hA (r 1, .long, 10) (by simp)
  · exact hA (r 2, .long, 10) (by simp)
  · exact hA (r 3, .long, 10) (by simp)⟩
theorem o4_.put {D : va_G} {g : ClassId → FieldType → Prop} {E : Nat → Prop} {H H1 : Heap} {ci x o : Nat} {r : Nat → Nat} (h : o4_ D g H ci x r) (hJ : sx_J g E H H1) (hs : ∀ q : Nat, q ≠ o → H1[q]? = H[q]?) (ne : x ≠ o) : o4_ D g H1 ci x r := ⟨h.1.one hs ne, fun k hk => ⟨hJ.2.2.1 _ _ _ (h.2 k hk).1, hJ.2.2.2 _ _ (h.2 k hk).2⟩⟩
/-- an array of references, by its contents -/
def rf_ (s : State) (C : String) (H : Heap) (a n : Nat) (f : Nat → Value) : Prop := ∃ (cA : ClassId) (kA : Class) (comp : ClassId), H[a]? = some (arrV cA n f) ∧ s.vm.classes[cA]? = some kA ∧ kA.kind = .array comp (.object C) ∧ s.vm.findClass C = some comp
theorem rf_.lt {s : State} {C : String} {H : Heap} {a n : Nat} {f : Nat → Value} (h : rf_ s C H a n f) : a < H.size := by
  obtain ⟨cA, kA, comp, h, -⟩ := h
  exact (Array.getElem?_eq_some_iff.mp h).1
theorem rf_.kept {s : State} {C : String} {H H1 : Heap} {a n : Nat} {f : Nat → Value} (h : rf_ s C H a n f) (e : H1[a]? = H[a]?) : rf_ s C H1 a n f := by
  obtain ⟨cA, kA, comp, h, h2⟩ := h
  exact ⟨cA, kA, comp, e.trans h, h2⟩
theorem rf_.grown {s : State} {C : String} {H H1 : Heap} {a n : Nat} {f : Nat → Value} (h : rf_ s C H a n f) (hk : ∀ z : Nat, z < H.size → H1[z]? = H[z]?) : rf_ s C H1 a n f := h.kept (hk a h.lt)
section SXR
variable {p : Program} {l : Launch} {e : Env} {R : Room} {s : State} {m : MethodId} {args : Array Value} {below : List Frame} {meth : Method} {c : Code} {H H0 : Heap} {locs : List Loc} {cells slots : Nat} {Q : State → Prop}
variable {cc : ByteArray} {pc : Nat} {ls : Array Slot} {g : ClassId → FieldType → Prop} {E F : Nat → Prop} {D : va_G}
variable {nL index ci N : Nat} {own C : String} {rest : List Value} {fs : List Value} {T : u_T}
theorem sx_newr {n cells' slots' : Nat} (EE : sx_E p s m args c cc nL own D g) (hw : ∀ w ∈ ([.classLink own index C] : List Cond), w ∈ lw_tbl ∧ sx_okw w = true) (hov : Cond.arrayOver (.object C) ∈ lw_tbl ∧ sx_okw (Cond.arrayOver (.object C)) = true) (hn : n < 2 ^ 31) (hbytes : n * 4 ≤ 536870912) (hc1 : cells + 1 = cells') (hs1 : slots + n = slots') (hcells : cells' ≤ R.cells) (hslots : slots' ≤ R.slots) (hS : sx_S g E F H0 H locs) (hdg : decode cc pc = .ok (.anewarray index, 3))
    (kk : ∀ (q : Nat) (H1 : Heap), H.size = q → rf_ s C H1 q n (fun _ => .null) → sx_J g E H H1 → (∀ z : Nat, z < H.size → H1[z]? = H[z]?) → sx_S g E F H0 H1 locs → W p l e R s m args below meth c H1 locs cells' slots' Q (F0 m (pc + 3) ls (.ref q :: rest))) : W p l e R s m args below meth c H locs cells slots Q (F0 m pc ls (.int (nI n) :: rest)) := by
  subst hc1
  subst hs1
  obtain ⟨hx, hb, hml, hown, hts, hU⟩ := EE
  have hz : (nI n).toNatClampNeg = n := nI_clamp hn
  refine W.anew hx hb hown (hts _ (G_in (hw _ (by simp)))) (hts _ (G_in hov)) rfl hdg rfl (nI_pos hn) (by rw [hz]; exact hbytes) hcells (by rw [hz]; exact hslots) fun cA kA comp f1 f2 f3 f4 => ?_
  rw [hz]
  generalize hH1 : H.push ({ cls := cA, slots := Array.replicate n .null, vm := .none } : Cell) = H1
  have z1 : H1.size = H.size + 1 := by rw [← hH1, Array.size_push]
  have e1 : H1[H.size]? = some (arrV cA n (fun _ => .null)) := by rw [← hH1, Array.getElem?_push_size, ← arrV_new]
  have o1 : ∀ q : Nat, q < H.size → H1[q]? = H[q]? := fun q hq => by rw [← hH1, Array.getElem?_push, if_neg (Nat.ne_of_lt hq)]
  have hJ : sx_J g E H H1 := sx_J.grow (by omega) o1
  exact kk H.size H1 rfl ⟨cA, kA, comp, e1, f2, f3, f4⟩ hJ o1 ⟨hS.1.tr hJ, hS.2⟩
theorem sx_aast {a n v i : Nat} {f : Nat → Value} (EE : sx_E p s m args c cc nL own D g) (ha : rf_ s C H a n f) (hc : classes[ci]? = some (C, T, N)) (hv : va_P D classes [(v, .inr (ci, fs))] H) (hi : i < n) (hn : n < 2 ^ 31) (hE : E a) (hS : sx_S g E F H0 H locs) (hdg : decode cc pc = .ok (.aastore, 1))
    (kk : ∀ (H1 : Heap) (locs1 : List Loc), rf_ s C H1 a n (updV f i (.ref v)) → sx_J g E H H1 → (∀ q : Nat, q ≠ a → H1[q]? = H[q]?) → sx_S g E F H0 H1 locs1 → W p l e R s m args below meth c H1 locs1 cells slots Q (F0 m (pc + 1) ls rest)) : W p l e R s m args below meth c H locs cells slots Q (F0 m pc ls (.ref v :: .int (nI i) :: .ref a :: rest)) := by
  obtain ⟨hx, hb, hml, hown, hts, hU⟩ := EE
  obtain ⟨cA, kA, comp, h1, h2, h3, h4⟩ := ha
  obtain ⟨r', hr', cellV, g1, g2, g3, -⟩ := hv 0 _ rfl
  have hcls := (hU.2.1.1 ci _ hc).2
  have hcomp : comp = D.1 ci := Option.some.inj (h4.symm.trans hcls.1)
  subst hcomp
  obtain ⟨kC, hkC, -⟩ := hcls.2
  have hz : (nI i).toNatClampNeg = i := nI_clamp (by omega)
  refine W.aast hx hb h1 (fun q h => by cases h) (fun h => by cases h) h2 h3 rfl hkC ⟨nI_pos (by omega), by rw [hz, arrV_size]; exact hi⟩ g1 (fun q h => by rw [g3] at h; cases h) (by rw [g2]; exact hkC) (by rw [g2]; exact va_assign hcls) rfl rfl hdg fun H1 w1 w2 w3 => ?_
  rw [hz] at w1 ⊢
  have hJ : sx_J g E H H1 := sx_J.cell (t := .object C) hU.1 h1 ((hU.1 _ _).mpr ⟨kA, h2, _, h3⟩) (k2_slotsz _ _ _) (fun _ h => h.set trivial) hE w1 w2 w3
  refine kk H1 _ ⟨cA, kA, _, by rw [w1, arrV_store], h2, h3, h4⟩ hJ w3 ⟨hS.1.tr hJ, hS.2.1, fun q hq => by
    rcases List.mem_append.mp hq with h | h
    · exact hS.2.2 q h
    · rw [List.mem_singleton.mp h]; exact hS.2.1 _ hE⟩
end SXR
end
section
theorem d_Pt_init_0 : decode b_Pt_init 0 = .ok (.aload_n 0, 1) := by decide +kernel
theorem d_Pt_init_1 : decode b_Pt_init 1 = .ok (.invokespecial 1, 3) := by decide +kernel
theorem d_Pt_init_4 : decode b_Pt_init 4 = .ok (.aload_n 0, 1) := by decide +kernel
theorem d_Pt_init_5 : decode b_Pt_init 5 = .ok (.bipush 10, 2) := by decide +kernel
theorem d_Pt_init_7 : decode b_Pt_init 7 = .ok (.newarray .long, 2) := by decide +kernel
theorem d_Pt_init_9 : decode b_Pt_init 9 = .ok (.putfield 9, 3) := by decide +kernel
theorem d_Pt_init_12 : decode b_Pt_init 12 = .ok (.aload_n 0, 1) := by decide +kernel
theorem d_Pt_init_13 : decode b_Pt_init 13 = .ok (.bipush 10, 2) := by decide +kernel
theorem d_Pt_init_15 : decode b_Pt_init 15 = .ok (.newarray .long, 2) := by decide +kernel
theorem d_Pt_init_17 : decode b_Pt_init 17 = .ok (.putfield 15, 3) := by decide +kernel
theorem d_Pt_init_20 : decode b_Pt_init 20 = .ok (.aload_n 0, 1) := by decide +kernel
theorem d_Pt_init_21 : decode b_Pt_init 21 = .ok (.bipush 10, 2) := by decide +kernel
theorem d_Pt_init_23 : decode b_Pt_init 23 = .ok (.newarray .long, 2) := by decide +kernel
theorem d_Pt_init_25 : decode b_Pt_init 25 = .ok (.putfield 18, 3) := by decide +kernel
theorem d_Pt_init_28 : decode b_Pt_init 28 = .ok (.aload_n 0, 1) := by decide +kernel
theorem d_Pt_init_29 : decode b_Pt_init 29 = .ok (.bipush 10, 2) := by decide +kernel
theorem d_Pt_init_31 : decode b_Pt_init 31 = .ok (.newarray .long, 2) := by decide +kernel
theorem d_Pt_init_33 : decode b_Pt_init 33 = .ok (.putfield 21, 3) := by decide +kernel
theorem d_Pt_init_36 : decode b_Pt_init 36 = .ok (.return_, 1) := by decide +kernel
theorem d_Ad_init_0 : decode b_Ad_init 0 = .ok (.aload_n 0, 1) := by decide +kernel
theorem d_Ad_init_1 : decode b_Ad_init 1 = .ok (.invokespecial 1, 3) := by decide +kernel
theorem d_Ad_init_4 : decode b_Ad_init 4 = .ok (.aload_n 0, 1) := by decide +kernel
theorem d_Ad_init_5 : decode b_Ad_init 5 = .ok (.bipush 10, 2) := by decide +kernel
theorem d_Ad_init_7 : decode b_Ad_init 7 = .ok (.newarray .long, 2) := by decide +kernel
theorem d_Ad_init_9 : decode b_Ad_init 9 = .ok (.putfield 9, 3) := by decide +kernel
theorem d_Ad_init_12 : decode b_Ad_init 12 = .ok (.aload_n 0, 1) := by decide +kernel
theorem d_Ad_init_13 : decode b_Ad_init 13 = .ok (.bipush 10, 2) := by decide +kernel
theorem d_Ad_init_15 : decode b_Ad_init 15 = .ok (.newarray .long, 2) := by decide +kernel
theorem d_Ad_init_17 : decode b_Ad_init 17 = .ok (.putfield 15, 3) := by decide +kernel
theorem d_Ad_init_20 : decode b_Ad_init 20 = .ok (.aload_n 0, 1) := by decide +kernel
theorem d_Ad_init_21 : decode b_Ad_init 21 = .ok (.bipush 10, 2) := by decide +kernel
theorem d_Ad_init_23 : decode b_Ad_init 23 = .ok (.newarray .long, 2) := by decide +kernel
theorem d_Ad_init_25 : decode b_Ad_init 25 = .ok (.putfield 18, 3) := by decide +kernel
theorem d_Ad_init_28 : decode b_Ad_init 28 = .ok (.aload_n 0, 1) := by decide +kernel
theorem d_Ad_init_29 : decode b_Ad_init 29 = .ok (.bipush 10, 2) := by decide +kernel
theorem d_Ad_init_31 : decode b_Ad_init 31 = .ok (.newarray .long, 2) := by decide +kernel
theorem d_Ad_init_33 : decode b_Ad_init 33 = .ok (.putfield 21, 3) := by decide +kernel
theorem d_Ad_init_36 : decode b_Ad_init 36 = .ok (.return_, 1) := by decide +kernel
theorem d_F_init_0 : decode b_F_init 0 = .ok (.aload_n 0, 1) := by decide +kernel
theorem d_F_init_1 : decode b_F_init 1 = .ok (.invokespecial 3, 3) := by decide +kernel
theorem d_F_init_4 : decode b_F_init 4 = .ok (.aload_n 0, 1) := by decide +kernel
theorem d_F_init_5 : decode b_F_init 5 = .ok (.bipush 10, 2) := by decide +kernel
theorem d_F_init_7 : decode b_F_init 7 = .ok (.newarray .long, 2) := by decide +kernel
theorem d_F_init_9 : decode b_F_init 9 = .ok (.putfield 11, 3) := by decide +kernel
theorem d_F_init_12 : decode b_F_init 12 = .ok (.aload_n 0, 1) := by decide +kernel
theorem d_F_init_13 : decode b_F_init 13 = .ok (.bipush 10, 2) := by decide +kernel
theorem d_F_init_15 : decode b_F_init 15 = .ok (.newarray .long, 2) := by decide +kernel
theorem d_F_init_17 : decode b_F_init 17 = .ok (.putfield 15, 3) := by decide +kernel
theorem d_F_init_20 : decode b_F_init 20 = .ok (.aload_n 0, 1) := by decide +kernel
theorem d_F_init_21 : decode b_F_init 21 = .ok (.bipush 10, 2) := by decide +kernel
theorem d_F_init_23 : decode b_F_init 23 = .ok (.newarray .long, 2) := by decide +kernel
theorem d_F_init_25 : decode b_F_init 25 = .ok (.putfield 18, 3) := by decide +kernel
theorem d_F_init_28 : decode b_F_init 28 = .ok (.aload_n 0, 1) := by decide +kernel
theorem d_F_init_29 : decode b_F_init 29 = .ok (.bipush 10, 2) := by decide +kernel
theorem d_F_init_31 : decode b_F_init 31 = .ok (.newarray .long, 2) := by decide +kernel
theorem d_F_init_33 : decode b_F_init 33 = .ok (.putfield 21, 3) := by decide +kernel
theorem d_F_init_36 : decode b_F_init 36 = .ok (.aload_n 0, 1) := by decide +kernel
theorem d_F_init_37 : decode b_F_init 37 = .ok (.bipush 10, 2) := by decide +kernel
theorem d_F_init_39 : decode b_F_init 39 = .ok (.newarray .long, 2) := by decide +kernel
theorem d_F_init_41 : decode b_F_init 41 = .ok (.putfield 24, 3) := by decide +kernel
theorem d_F_init_44 : decode b_F_init 44 = .ok (.aload_n 0, 1) := by decide +kernel
theorem d_F_init_45 : decode b_F_init 45 = .ok (.bipush 10, 2) := by decide +kernel
theorem d_F_init_47 : decode b_F_init 47 = .ok (.newarray .long, 2) := by decide +kernel
theorem d_F_init_49 : decode b_F_init 49 = .ok (.putfield 27, 3) := by decide +kernel
theorem d_F_init_52 : decode b_F_init 52 = .ok (.aload_n 0, 1) := by decide +kernel
theorem d_F_init_53 : decode b_F_init 53 = .ok (.bipush 10, 2) := by decide +kernel
theorem d_F_init_55 : decode b_F_init 55 = .ok (.newarray .long, 2) := by decide +kernel
theorem d_F_init_57 : decode b_F_init 57 = .ok (.putfield 30, 3) := by decide +kernel
theorem d_F_init_60 : decode b_F_init 60 = .ok (.return_, 1) := by decide +kernel
theorem d_Ha_init_0 : decode b_Ha_init 0 = .ok (.aload_n 0, 1) := by decide +kernel
theorem d_Ha_init_1 : decode b_Ha_init 1 = .ok (.invokespecial 1, 3) := by decide +kernel
theorem d_Ha_init_4 : decode b_Ha_init 4 = .ok (.aload_n 0, 1) := by decide +kernel
theorem d_Ha_init_5 : decode b_Ha_init 5 = .ok (.bipush 8, 2) := by decide +kernel
theorem d_Ha_init_7 : decode b_Ha_init 7 = .ok (.newarray .long, 2) := by decide +kernel
theorem d_Ha_init_9 : decode b_Ha_init 9 = .ok (.putfield 7, 3) := by decide +kernel
theorem d_Ha_init_12 : decode b_Ha_init 12 = .ok (.aload_n 0, 1) := by decide +kernel
theorem d_Ha_init_13 : decode b_Ha_init 13 = .ok (.bipush 80, 2) := by decide +kernel
theorem d_Ha_init_15 : decode b_Ha_init 15 = .ok (.newarray .long, 2) := by decide +kernel
theorem d_Ha_init_17 : decode b_Ha_init 17 = .ok (.putfield 13, 3) := by decide +kernel
theorem d_Ha_init_20 : decode b_Ha_init 20 = .ok (.aload_n 0, 1) := by decide +kernel
theorem d_Ha_init_21 : decode b_Ha_init 21 = .ok (.sipush 128, 3) := by decide +kernel
theorem d_Ha_init_24 : decode b_Ha_init 24 = .ok (.newarray .byte, 2) := by decide +kernel
theorem d_Ha_init_26 : decode b_Ha_init 26 = .ok (.putfield 16, 3) := by decide +kernel
theorem d_Ha_init_29 : decode b_Ha_init 29 = .ok (.return_, 1) := by decide +kernel
theorem d_Or_init_0 : decode b_Or_init 0 = .ok (.aload_n 0, 1) := by decide +kernel
theorem d_Or_init_1 : decode b_Or_init 1 = .ok (.invokespecial 3, 3) := by decide +kernel
theorem d_Or_init_4 : decode b_Or_init 4 = .ok (.aload_n 0, 1) := by decide +kernel
theorem d_Or_init_5 : decode b_Or_init 5 = .ok (.bipush 64, 2) := by decide +kernel
theorem d_Or_init_7 : decode b_Or_init 7 = .ok (.newarray .long, 2) := by decide +kernel
theorem d_Or_init_9 : decode b_Or_init 9 = .ok (.putfield 11, 3) := by decide +kernel
theorem d_Or_init_12 : decode b_Or_init 12 = .ok (.return_, 1) := by decide +kernel
theorem d_Ro_init_0 : decode b_Ro_init 0 = .ok (.aload_n 0, 1) := by decide +kernel
theorem d_Ro_init_1 : decode b_Ro_init 1 = .ok (.invokespecial 3, 3) := by decide +kernel
theorem d_Ro_init_4 : decode b_Ro_init 4 = .ok (.aload_n 0, 1) := by decide +kernel
theorem d_Ro_init_5 : decode b_Ro_init 5 = .ok (.sipush 1024, 3) := by decide +kernel
theorem d_Ro_init_8 : decode b_Ro_init 8 = .ok (.newarray .byte, 2) := by decide +kernel
theorem d_Ro_init_10 : decode b_Ro_init 10 = .ok (.putfield 11, 3) := by decide +kernel
theorem d_Ro_init_13 : decode b_Ro_init 13 = .ok (.return_, 1) := by decide +kernel
theorem d_La_init_0 : decode b_La_init 0 = .ok (.aload_n 0, 1) := by decide +kernel
theorem d_La_init_1 : decode b_La_init 1 = .ok (.invokespecial 3, 3) := by decide +kernel
theorem d_La_init_4 : decode b_La_init 4 = .ok (.aload_n 0, 1) := by decide +kernel
theorem d_La_init_5 : decode b_La_init 5 = .ok (.bipush 32, 2) := by decide +kernel
theorem d_La_init_7 : decode b_La_init 7 = .ok (.newarray .byte, 2) := by decide +kernel
theorem d_La_init_9 : decode b_La_init 9 = .ok (.putfield 9, 3) := by decide +kernel
theorem d_La_init_12 : decode b_La_init 12 = .ok (.aload_n 0, 1) := by decide +kernel
theorem d_La_init_13 : decode b_La_init 13 = .ok (.bipush 32, 2) := by decide +kernel
theorem d_La_init_15 : decode b_La_init 15 = .ok (.newarray .byte, 2) := by decide +kernel
theorem d_La_init_17 : decode b_La_init 17 = .ok (.putfield 15, 3) := by decide +kernel
theorem d_La_init_20 : decode b_La_init 20 = .ok (.aload_n 0, 1) := by decide +kernel
theorem d_La_init_21 : decode b_La_init 21 = .ok (.bipush 10, 2) := by decide +kernel
theorem d_La_init_23 : decode b_La_init 23 = .ok (.newarray .long, 2) := by decide +kernel
theorem d_La_init_25 : decode b_La_init 25 = .ok (.putfield 20, 3) := by decide +kernel
theorem d_La_init_28 : decode b_La_init 28 = .ok (.aload_n 0, 1) := by decide +kernel
theorem d_La_init_29 : decode b_La_init 29 = .ok (.bipush 10, 2) := by decide +kernel
theorem d_La_init_31 : decode b_La_init 31 = .ok (.newarray .long, 2) := by decide +kernel
theorem d_La_init_33 : decode b_La_init 33 = .ok (.putfield 24, 3) := by decide +kernel
theorem d_La_init_36 : decode b_La_init 36 = .ok (.aload_n 0, 1) := by decide +kernel
theorem d_La_init_37 : decode b_La_init 37 = .ok (.bipush 10, 2) := by decide +kernel
theorem d_La_init_39 : decode b_La_init 39 = .ok (.newarray .long, 2) := by decide +kernel
theorem d_La_init_41 : decode b_La_init 41 = .ok (.putfield 27, 3) := by decide +kernel
theorem d_La_init_44 : decode b_La_init 44 = .ok (.aload_n 0, 1) := by decide +kernel
theorem d_La_init_45 : decode b_La_init 45 = .ok (.bipush 10, 2) := by decide +kernel
theorem d_La_init_47 : decode b_La_init 47 = .ok (.newarray .long, 2) := by decide +kernel
theorem d_La_init_49 : decode b_La_init 49 = .ok (.putfield 30, 3) := by decide +kernel
theorem d_La_init_52 : decode b_La_init 52 = .ok (.aload_n 0, 1) := by decide +kernel
theorem d_La_init_53 : decode b_La_init 53 = .ok (.bipush 10, 2) := by decide +kernel
theorem d_La_init_55 : decode b_La_init 55 = .ok (.newarray .long, 2) := by decide +kernel
theorem d_La_init_57 : decode b_La_init 57 = .ok (.putfield 33, 3) := by decide +kernel
theorem d_La_init_60 : decode b_La_init 60 = .ok (.aload_n 0, 1) := by decide +kernel
theorem d_La_init_61 : decode b_La_init 61 = .ok (.bipush 10, 2) := by decide +kernel
theorem d_La_init_63 : decode b_La_init 63 = .ok (.newarray .long, 2) := by decide +kernel
theorem d_La_init_65 : decode b_La_init 65 = .ok (.putfield 36, 3) := by decide +kernel
theorem d_La_init_68 : decode b_La_init 68 = .ok (.aload_n 0, 1) := by decide +kernel
theorem d_La_init_69 : decode b_La_init 69 = .ok (.bipush 10, 2) := by decide +kernel
theorem d_La_init_71 : decode b_La_init 71 = .ok (.newarray .long, 2) := by decide +kernel
theorem d_La_init_73 : decode b_La_init 73 = .ok (.putfield 39, 3) := by decide +kernel
theorem d_La_init_76 : decode b_La_init 76 = .ok (.aload_n 0, 1) := by decide +kernel
theorem d_La_init_77 : decode b_La_init 77 = .ok (.bipush 10, 2) := by decide +kernel
theorem d_La_init_79 : decode b_La_init 79 = .ok (.newarray .long, 2) := by decide +kernel
theorem d_La_init_81 : decode b_La_init 81 = .ok (.putfield 42, 3) := by decide +kernel
theorem d_La_init_84 : decode b_La_init 84 = .ok (.aload_n 0, 1) := by decide +kernel
theorem d_La_init_85 : decode b_La_init 85 = .ok (.bipush 10, 2) := by decide +kernel
theorem d_La_init_87 : decode b_La_init 87 = .ok (.newarray .long, 2) := by decide +kernel
theorem d_La_init_89 : decode b_La_init 89 = .ok (.putfield 45, 3) := by decide +kernel
theorem d_La_init_92 : decode b_La_init 92 = .ok (.aload_n 0, 1) := by decide +kernel
theorem d_La_init_93 : decode b_La_init 93 = .ok (.aload_n 1, 1) := by decide +kernel
theorem d_La_init_94 : decode b_La_init 94 = .ok (.putfield 48, 3) := by decide +kernel
theorem d_La_init_97 : decode b_La_init 97 = .ok (.aload_n 0, 1) := by decide +kernel
theorem d_La_init_98 : decode b_La_init 98 = .ok (.getfield 15, 3) := by decide +kernel
theorem d_La_init_101 : decode b_La_init 101 = .ok (.iconst 0, 1) := by decide +kernel
theorem d_La_init_102 : decode b_La_init 102 = .ok (.bipush 9, 2) := by decide +kernel
theorem d_La_init_104 : decode b_La_init 104 = .ok (.bastore, 1) := by decide +kernel
theorem d_La_init_105 : decode b_La_init 105 = .ok (.return_, 1) := by decide +kernel
theorem d_Si_init_0 : decode b_Si_init 0 = .ok (.aload_n 0, 1) := by decide +kernel
theorem d_Si_init_1 : decode b_Si_init 1 = .ok (.invokespecial 3, 3) := by decide +kernel
theorem d_Si_init_4 : decode b_Si_init 4 = .ok (.aload_n 0, 1) := by decide +kernel
theorem d_Si_init_5 : decode b_Si_init 5 = .ok (.new 9, 3) := by decide +kernel
theorem d_Si_init_8 : decode b_Si_init 8 = .ok (.dup, 1) := by decide +kernel
theorem d_Si_init_9 : decode b_Si_init 9 = .ok (.invokespecial 11, 3) := by decide +kernel
theorem d_Si_init_12 : decode b_Si_init 12 = .ok (.putfield 12, 3) := by decide +kernel
theorem d_Si_init_15 : decode b_Si_init 15 = .ok (.aload_n 0, 1) := by decide +kernel
theorem d_Si_init_16 : decode b_Si_init 16 = .ok (.new 18, 3) := by decide +kernel
theorem d_Si_init_19 : decode b_Si_init 19 = .ok (.dup, 1) := by decide +kernel
theorem d_Si_init_20 : decode b_Si_init 20 = .ok (.invokespecial 20, 3) := by decide +kernel
theorem d_Si_init_23 : decode b_Si_init 23 = .ok (.putfield 21, 3) := by decide +kernel
theorem d_Si_init_26 : decode b_Si_init 26 = .ok (.aload_n 0, 1) := by decide +kernel
theorem d_Si_init_27 : decode b_Si_init 27 = .ok (.bipush 64, 2) := by decide +kernel
theorem d_Si_init_29 : decode b_Si_init 29 = .ok (.newarray .byte, 2) := by decide +kernel
theorem d_Si_init_31 : decode b_Si_init 31 = .ok (.putfield 25, 3) := by decide +kernel
theorem d_Si_init_34 : decode b_Si_init 34 = .ok (.aload_n 0, 1) := by decide +kernel
theorem d_Si_init_35 : decode b_Si_init 35 = .ok (.bipush 32, 2) := by decide +kernel
theorem d_Si_init_37 : decode b_Si_init 37 = .ok (.newarray .byte, 2) := by decide +kernel
theorem d_Si_init_39 : decode b_Si_init 39 = .ok (.putfield 29, 3) := by decide +kernel
theorem d_Si_init_42 : decode b_Si_init 42 = .ok (.aload_n 0, 1) := by decide +kernel
theorem d_Si_init_43 : decode b_Si_init 43 = .ok (.bipush 32, 2) := by decide +kernel
theorem d_Si_init_45 : decode b_Si_init 45 = .ok (.newarray .byte, 2) := by decide +kernel
theorem d_Si_init_47 : decode b_Si_init 47 = .ok (.putfield 32, 3) := by decide +kernel
theorem d_Si_init_50 : decode b_Si_init 50 = .ok (.aload_n 0, 1) := by decide +kernel
theorem d_Si_init_51 : decode b_Si_init 51 = .ok (.bipush 32, 2) := by decide +kernel
theorem d_Si_init_53 : decode b_Si_init 53 = .ok (.newarray .byte, 2) := by decide +kernel
theorem d_Si_init_55 : decode b_Si_init 55 = .ok (.putfield 35, 3) := by decide +kernel
theorem d_Si_init_58 : decode b_Si_init 58 = .ok (.aload_n 0, 1) := by decide +kernel
theorem d_Si_init_59 : decode b_Si_init 59 = .ok (.bipush 32, 2) := by decide +kernel
theorem d_Si_init_61 : decode b_Si_init 61 = .ok (.newarray .byte, 2) := by decide +kernel
theorem d_Si_init_63 : decode b_Si_init 63 = .ok (.putfield 38, 3) := by decide +kernel
theorem d_Si_init_66 : decode b_Si_init 66 = .ok (.aload_n 0, 1) := by decide +kernel
theorem d_Si_init_67 : decode b_Si_init 67 = .ok (.bipush 32, 2) := by decide +kernel
theorem d_Si_init_69 : decode b_Si_init 69 = .ok (.newarray .byte, 2) := by decide +kernel
theorem d_Si_init_71 : decode b_Si_init 71 = .ok (.putfield 41, 3) := by decide +kernel
theorem d_Si_init_74 : decode b_Si_init 74 = .ok (.aload_n 0, 1) := by decide +kernel
theorem d_Si_init_75 : decode b_Si_init 75 = .ok (.aload_n 1, 1) := by decide +kernel
theorem d_Si_init_76 : decode b_Si_init 76 = .ok (.putfield 44, 3) := by decide +kernel
theorem d_Si_init_79 : decode b_Si_init 79 = .ok (.return_, 1) := by decide +kernel
end
section
theorem nw_Si_9 : ∀ w ∈ ([.classLink R_Si 9 R_Ha, .instantiable R_Ha 5, .initialized R_Ha] : List Cond), w ∈ lw_tbl ∧ sx_okw w = true := by decide +kernel
theorem nw_Si_18 : ∀ w ∈ ([.classLink R_Si 18 R_Or, .instantiable R_Or 1, .initialized R_Or] : List Cond), w ∈ lw_tbl ∧ sx_okw w = true := by decide +kernel
set_option maxRecDepth 100000 in
theorem mc_Ha_init : Cond.code y_Ha_init b_Ha_init 1 none ∈ lw_tbl := List.mem_append_right _ (List.mem_append_right _ (List.mem_append_left _ (List.mem_of_getElem? (i := 47) rfl)))
theorem il_Si_11 : Cond.methodLinkNest R_Si 11 y_Ha_init "CurveKeys" ∈ lw_tbl := by decide +kernel
theorem iw_Si_11 : sx_w [.instanceMethod y_Ha_init, .initialized y_Ha_init.cls, .code y_Ha_init b_Ha_init 1 none] y_Ha_init 0 := ⟨sx_wc (ws := [.instanceMethod y_Ha_init, .initialized y_Ha_init.cls]) (by decide +kernel) mc_Ha_init, by decide +kernel⟩
set_option maxRecDepth 100000 in
theorem mc_Or_init : Cond.code y_Or_init b_Or_init 1 none ∈ lw_tbl := List.mem_append_right _ (List.mem_append_right _ (List.mem_append_left _ (List.mem_of_getElem? (i := 69) rfl)))
theorem il_Si_20 : Cond.methodLinkNest R_Si 20 y_Or_init "CurveKeys" ∈ lw_tbl := by decide +kernel
theorem iw_Si_20 : sx_w [.instanceMethod y_Or_init, .initialized y_Or_init.cls, .code y_Or_init b_Or_init 1 none] y_Or_init 0 := ⟨sx_wc (ws := [.instanceMethod y_Or_init, .initialized y_Or_init.cls]) (by decide +kernel) mc_Or_init, by decide +kernel⟩
theorem fl_F_11 : Cond.fieldLink R_F 11 R_F "eleven" "[J" ∈ lw_tbl ∧ sx_okw (Cond.fieldLink R_F 11 R_F "eleven" "[J") = true := by decide +kernel
theorem fl_F_15 : Cond.fieldLink R_F 15 R_F "ten" "[J" ∈ lw_tbl ∧ sx_okw (Cond.fieldLink R_F 15 R_F "ten" "[J") = true := by decide +kernel
theorem fl_F_18 : Cond.fieldLink R_F 18 R_F "fifty" "[J" ∈ lw_tbl ∧ sx_okw (Cond.fieldLink R_F 18 R_F "fifty" "[J") = true := by decide +kernel
theorem fl_F_21 : Cond.fieldLink R_F 21 R_F "ones" "[J" ∈ lw_tbl ∧ sx_okw (Cond.fieldLink R_F 21 R_F "ones" "[J") = true := by decide +kernel
theorem fl_F_24 : Cond.fieldLink R_F 24 R_F "first" "[J" ∈ lw_tbl ∧ sx_okw (Cond.fieldLink R_F 24 R_F "first" "[J") = true := by decide +kernel
theorem fl_F_27 : Cond.fieldLink R_F 27 R_F "second" "[J" ∈ lw_tbl ∧ sx_okw (Cond.fieldLink R_F 27 R_F "second" "[J") = true := by decide +kernel
theorem fl_F_30 : Cond.fieldLink R_F 30 R_F "spare" "[J" ∈ lw_tbl ∧ sx_okw (Cond.fieldLink R_F 30 R_F "spare" "[J") = true := by decide +kernel
theorem fl_Ha_7 : Cond.fieldLink R_Ha 7 R_Ha "state" "[J" ∈ lw_tbl ∧ sx_okw (Cond.fieldLink R_Ha 7 R_Ha "state" "[J") = true := by decide +kernel
theorem fl_Ha_13 : Cond.fieldLink R_Ha 13 R_Ha "words" "[J" ∈ lw_tbl ∧ sx_okw (Cond.fieldLink R_Ha 13 R_Ha "words" "[J") = true := by decide +kernel
theorem fl_Ha_16 : Cond.fieldLink R_Ha 16 R_Ha "block" "[B" ∈ lw_tbl ∧ sx_okw (Cond.fieldLink R_Ha 16 R_Ha "block" "[B") = true := by decide +kernel
theorem fl_La_9 : Cond.fieldLink R_La 9 R_La "scalar" "[B" ∈ lw_tbl ∧ sx_okw (Cond.fieldLink R_La 9 R_La "scalar" "[B") = true := by decide +kernel
theorem fl_La_15 : Cond.fieldLink R_La 15 R_La "nine" "[B" ∈ lw_tbl ∧ sx_okw (Cond.fieldLink R_La 15 R_La "nine" "[B") = true := by decide +kernel
theorem fl_La_20 : Cond.fieldLink R_La 20 R_La "u" "[J" ∈ lw_tbl ∧ sx_okw (Cond.fieldLink R_La 20 R_La "u" "[J") = true := by decide +kernel
theorem fl_La_24 : Cond.fieldLink R_La 24 R_La "lowX" "[J" ∈ lw_tbl ∧ sx_okw (Cond.fieldLink R_La 24 R_La "lowX" "[J") = true := by decide +kernel
theorem fl_La_27 : Cond.fieldLink R_La 27 R_La "lowZ" "[J" ∈ lw_tbl ∧ sx_okw (Cond.fieldLink R_La 27 R_La "lowZ" "[J") = true := by decide +kernel
theorem fl_La_30 : Cond.fieldLink R_La 30 R_La "highX" "[J" ∈ lw_tbl ∧ sx_okw (Cond.fieldLink R_La 30 R_La "highX" "[J") = true := by decide +kernel
theorem fl_La_33 : Cond.fieldLink R_La 33 R_La "highZ" "[J" ∈ lw_tbl ∧ sx_okw (Cond.fieldLink R_La 33 R_La "highZ" "[J") = true := by decide +kernel
theorem fl_La_36 : Cond.fieldLink R_La 36 R_La "a" "[J" ∈ lw_tbl ∧ sx_okw (Cond.fieldLink R_La 36 R_La "a" "[J") = true := by decide +kernel
theorem fl_La_39 : Cond.fieldLink R_La 39 R_La "b" "[J" ∈ lw_tbl ∧ sx_okw (Cond.fieldLink R_La 39 R_La "b" "[J") = true := by decide +kernel
theorem fl_La_42 : Cond.fieldLink R_La 42 R_La "c" "[J" ∈ lw_tbl ∧ sx_okw (Cond.fieldLink R_La 42 R_La "c" "[J") = true := by decide +kernel
theorem fl_La_45 : Cond.fieldLink R_La 45 R_La "d" "[J" ∈ lw_tbl ∧ sx_okw (Cond.fieldLink R_La 45 R_La "d" "[J") = true := by decide +kernel
theorem fl_La_48 : Cond.fieldLink R_La 48 R_La "field" "LCurveKeys$Field;" ∈ lw_tbl ∧ sx_okw (Cond.fieldLink R_La 48 R_La "field" "LCurveKeys$Field;") = true := by decide +kernel
theorem fl_Or_11 : Cond.fieldLink R_Or 11 R_Or "wide" "[J" ∈ lw_tbl ∧ sx_okw (Cond.fieldLink R_Or 11 R_Or "wide" "[J") = true := by decide +kernel
theorem fl_Ro_11 : Cond.fieldLink R_Ro 11 R_Ro "bytes" "[B" ∈ lw_tbl ∧ sx_okw (Cond.fieldLink R_Ro 11 R_Ro "bytes" "[B") = true := by decide +kernel
theorem fl_Si_12 : Cond.fieldLink R_Si 12 R_Si "hash" "LCurveKeys$Hash;" ∈ lw_tbl ∧ sx_okw (Cond.fieldLink R_Si 12 R_Si "hash" "LCurveKeys$Hash;") = true := by decide +kernel
theorem fl_Si_21 : Cond.fieldLink R_Si 21 R_Si "order" "LCurveKeys$Order;" ∈ lw_tbl ∧ sx_okw (Cond.fieldLink R_Si 21 R_Si "order" "LCurveKeys$Order;") = true := by decide +kernel
theorem fl_Si_25 : Cond.fieldLink R_Si 25 R_Si "digest" "[B" ∈ lw_tbl ∧ sx_okw (Cond.fieldLink R_Si 25 R_Si "digest" "[B") = true := by decide +kernel
theorem fl_Si_29 : Cond.fieldLink R_Si 29 R_Si (String.singleton 'r') "[B" ∈ lw_tbl ∧ sx_okw (Cond.fieldLink R_Si 29 R_Si (String.singleton 'r') "[B") = true := by decide +kernel
theorem fl_Si_32 : Cond.fieldLink R_Si 32 R_Si "k" "[B" ∈ lw_tbl ∧ sx_okw (Cond.fieldLink R_Si 32 R_Si "k" "[B") = true := by decide +kernel
theorem fl_Si_35 : Cond.fieldLink R_Si 35 R_Si "s" "[B" ∈ lw_tbl ∧ sx_okw (Cond.fieldLink R_Si 35 R_Si "s" "[B") = true := by decide +kernel
theorem fl_Si_38 : Cond.fieldLink R_Si 38 R_Si "commitment" "[B" ∈ lw_tbl ∧ sx_okw (Cond.fieldLink R_Si 38 R_Si "commitment" "[B") = true := by decide +kernel
theorem fl_Si_41 : Cond.fieldLink R_Si 41 R_Si "due" "[B" ∈ lw_tbl ∧ sx_okw (Cond.fieldLink R_Si 41 R_Si "due" "[B") = true := by decide +kernel
theorem fl_Si_44 : Cond.fieldLink R_Si 44 R_Si "edwards" "LCurveKeys$Edwards;" ∈ lw_tbl ∧ sx_okw (Cond.fieldLink R_Si 44 R_Si "edwards" "LCurveKeys$Edwards;") = true := by decide +kernel
end
section
abbrev rm_Pt_init : Room := { frames := 1, cells := 4, slots := 40, locals := 13 }
set_option maxHeartbeats 4000000 in
set_option maxRecDepth 100000 in
theorem c_Pt_init {l : Launch} {D : va_G} {g : ClassId → FieldType → Prop} {E : Nat → Prop} {H0 : Heap} {o : Nat} (hEo : E o) (hEn : ∀ q, H0.size ≤ q → E q) (hO : va_P D classes [(o, .inr (4, [.null, .null, .null, .null]))] H0) : Met l y_Pt_init (.code y_Pt_init b_Pt_init 1 none :: G_) rm_Pt_init (sx_Pc [.ref o] H0 D g) (va_Qv (fun _ : Unit => True) (fun _ t => sx_J g E H0 t.heap ∧ ∃ r : Nat → Nat, va_P D classes [(o, .inr (4, [.ref (r 0), .ref (r 1), .ref (r 2), .ref (r 3)]))] t.heap ∧ sx_AR g t.heap [(r 0, .long, 10), (r 1, .long, 10), (r 2, .long, 10), (r 3, .long, 10)] ∧ (∀ k, H0.size ≤ r k)) E) 4 40 E := by
  refine sx_mva (own := R_Pt) (P := fun H => ∃ r : Nat → Nat, va_P D classes [(o, .inr (4, [.ref (r 0), .ref (r 1), .ref (r 2), .ref (r 3)]))] H ∧ sx_AR g H [(r 0, .long, 10), (r 1, .long, 10), (r 2, .long, 10), (r 3, .long, 10)] ∧ (∀ k, H0.size ≤ r k)) (by decide) rfl (Nat.le_of_ble_eq_true rfl) ?_
  intro p e s m args below meth c Q ls EE hin hl hret
  obtain ⟨hx, hb, hml, hown, hts, hG, hK⟩ := id EE
  have hS : sx_S g E E H0 H0 [] := sx_S.rf
  have hA : sx_AR g H0 [] := sx_AR.nil
  have hZ : ∀ x ∈ ([] : List Nat), H0.size ≤ x := sx_nilZ
  have ho : o < H0.size := (hO 0 _ rfl).lt
  have hl : lv_has ls 1 [(0, .ref o)] := hl
  refine lv_aload_n hx hb d_Pt_init_0 rfl (lv_at hl 0 rfl) ?_
  refine W.objInit hx hb hown (hts (.methodLink R_Pt 1 objectInit) (by decide +kernel)) (hts (.instanceMethod objectInit) (by decide +kernel)) (hts (.code objectInit ⟨#[0xb1]⟩ 1 none) (by decide +kernel)) rfl (by rw [hml]; exact hl.1) rfl d_Pt_init_1 (Nat.le_of_ble_eq_true rfl) (Nat.le_of_ble_eq_true rfl) ?_
  refine W.eq (g2 := F0 m 4 ls []) rfl ?_
  refine lv_aload_n hx hb d_Pt_init_4 rfl (lv_at hl 0 rfl) ?_
  refine lv_bipush (v := nI 10) hx hb d_Pt_init_5 (by decide +kernel) ?_
  have hz := hS.1.1
  refine sx_newa (cells' := 1) (slots' := 10) hx hb hG hts rfl (Or.inl rfl) (by decide +kernel) (by decide) (by decide) rfl rfl (Nat.le_of_ble_eq_true rfl) (Nat.le_of_ble_eq_true rfl) hS d_Pt_init_7 (fun q7 H7 e0 a0' l0 y0 hJ hk hS => ?_)
  have hA := hA.kept hJ
  have hO := hO.grown hk
  have hA : sx_AR g H7 [(q7, .long, 10)] := hA.cons a0' l0
  have z_q7 : H0.size ≤ q7 := e0 ▸ hz
  have hZ := sx_consZ hZ z_q7
  refine sx_putF EE hin hO rfl i_Pt t_Pt tok_Pt n_Pt 0 (by decide) rfl fl_Pt_9 (ty := t_Pt 0) (by decide +kernel) rfl rfl (Nat.le_of_ble_eq_true rfl) hEo hS d_Pt_init_9 (fun H9 locs hO hJ hs hS => ?_)
  have hA := hA.kept hJ
  have hO : va_P D classes [(o, .inr (4, [.ref q7, .null, .null, .null]))] H9 := hO
  refine lv_aload_n hx hb d_Pt_init_12 rfl (lv_at hl 0 rfl) ?_
  refine lv_bipush (v := nI 10) hx hb d_Pt_init_13 (by decide +kernel) ?_
  have hz := hS.1.1
  refine sx_newa (cells' := 2) (slots' := 20) hx hb hG hts rfl (Or.inl rfl) (by decide +kernel) (by decide) (by decide) rfl rfl (Nat.le_of_ble_eq_true rfl) (Nat.le_of_ble_eq_true rfl) hS d_Pt_init_15 (fun q15 H15 e0 a0' l0 y0 hJ hk hS => ?_)
  have hA := hA.kept hJ
  have hO := hO.grown hk
  have hA : sx_AR g H15 [(q15, .long, 10), (q7, .long, 10)] := hA.cons a0' l0
  have z_q15 : H0.size ≤ q15 := e0 ▸ hz
  have hZ := sx_consZ hZ z_q15
  refine sx_putF EE hin hO rfl i_Pt t_Pt tok_Pt n_Pt 1 (by decide) rfl fl_Pt_15 (ty := t_Pt 1) (by decide +kernel) rfl rfl (Nat.le_of_ble_eq_true rfl) hEo hS d_Pt_init_17 (fun H17 locs hO hJ hs hS => ?_)
  have hA := hA.kept hJ
  have hO : va_P D classes [(o, .inr (4, [.ref q7, .ref q15, .null, .null]))] H17 := hO
  refine lv_aload_n hx hb d_Pt_init_20 rfl (lv_at hl 0 rfl) ?_
  refine lv_bipush (v := nI 10) hx hb d_Pt_init_21 (by decide +kernel) ?_
  have hz := hS.1.1
  refine sx_newa (cells' := 3) (slots' := 30) hx hb hG hts rfl (Or.inl rfl) (by decide +kernel) (by decide) (by decide) rfl rfl (Nat.le_of_ble_eq_true rfl) (Nat.le_of_ble_eq_true rfl) hS d_Pt_init_23 (fun q23 H23 e0 a0' l0 y0 hJ hk hS => ?_)
  have hA := hA.kept hJ
  have hO := hO.grown hk
  have hA : sx_AR g H23 [(q23, .long, 10), (q15, .long, 10), (q7, .long, 10)] := hA.cons a0' l0
  have z_q23 : H0.size ≤ q23 := e0 ▸ hz
  have hZ := sx_consZ hZ z_q23
  refine sx_putF EE hin hO rfl i_Pt t_Pt tok_Pt n_Pt 2 (by decide) rfl fl_Pt_18 (ty := t_Pt 2) (by decide +kernel) rfl rfl (Nat.le_of_ble_eq_true rfl) hEo hS d_Pt_init_25 (fun H25 locs hO hJ hs hS => ?_)
  have hA := hA.kept hJ
  have hO : va_P D classes [(o, .inr (4, [.ref q7, .ref q15, .ref q23, .null]))] H25 := hO
  refine lv_aload_n hx hb d_Pt_init_28 rfl (lv_at hl 0 rfl) ?_
  refine lv_bipush (v := nI 10) hx hb d_Pt_init_29 (by decide +kernel) ?_
  have hz := hS.1.1
  refine sx_newa (cells' := 4) (slots' := 40) hx hb hG hts rfl (Or.inl rfl) (by decide +kernel) (by decide) (by decide) rfl rfl (Nat.le_of_ble_eq_true rfl) (Nat.le_of_ble_eq_true rfl) hS d_Pt_init_31 (fun q31 H31 e0 a0' l0 y0 hJ hk hS => ?_)
  have hA := hA.kept hJ
  have hO := hO.grown hk
  have hA : sx_AR g H31 [(q31, .long, 10), (q23, .long, 10), (q15, .long, 10), (q7, .long, 10)] := hA.cons a0' l0
  have z_q31 : H0.size ≤ q31 := e0 ▸ hz
  have hZ := sx_consZ hZ z_q31
  refine sx_putF EE hin hO rfl i_Pt t_Pt tok_Pt n_Pt 3 (by decide) rfl fl_Pt_21 (ty := t_Pt 3) (by decide +kernel) rfl rfl (Nat.le_of_ble_eq_true rfl) hEo hS d_Pt_init_33 (fun H33 locs hO hJ hs hS => ?_)
  have hA := hA.kept hJ
  have hO : va_P D classes [(o, .inr (4, [.ref q7, .ref q15, .ref q23, .ref q31]))] H33 := hO
  have hr : ∀ x ∈ ([q7, q15, q23, q31] : List Nat), H0.size ≤ x := by
    intro x hx
    simp only [List.mem_cons, List.not_mem_nil, or_false] at hx
    rcases hx with rfl | rfl | rfl | rfl <;> first | exact Nat.le_refl _ | assumption
  refine hret _ _ _ _ ⟨(fun k => ([q7, q15, q23, q31] : List Nat).getD k H0.size), hO, fun z hz => hA z (by simp only [List.mem_cons, List.not_mem_nil, or_false] at hz ⊢; rcases hz with rfl | rfl | rfl | rfl <;> simp), sx_ge hr⟩ hS.1 hS.2.2 d_Pt_init_36
abbrev rm_Ad_init : Room := { frames := 1, cells := 4, slots := 40, locals := 13 }
set_option maxHeartbeats 4000000 in
set_option maxRecDepth 100000 in
theorem c_Ad_init {l : Launch} {D : va_G} {g : ClassId → FieldType → Prop} {E : Nat → Prop} {H0 : Heap} {o : Nat} (hEo : E o) (hEn : ∀ q, H0.size ≤ q → E q) (hO : va_P D classes [(o, .inr (5, [.null, .null, .null, .null]))] H0) : Met l y_Ad_init (.code y_Ad_init b_Ad_init 1 none :: G_) rm_Ad_init (sx_Pc [.ref o] H0 D g) (va_Qv (fun _ : Unit => True) (fun _ t => sx_J g E H0 t.heap ∧ ∃ r : Nat → Nat, va_P D classes [(o, .inr (5, [.ref (r 0), .ref (r 1), .ref (r 2), .ref (r 3)]))] t.heap ∧ sx_AR g t.heap [(r 0, .long, 10), (r 1, .long, 10), (r 2, .long, 10), (r 3, .long, 10)] ∧ (∀ k, H0.size ≤ r k)) E) 4 40 E := by
  refine sx_mva (own := R_Ad) (P := fun H => ∃ r : Nat → Nat, va_P D classes [(o, .inr (5, [.ref (r 0), .ref (r 1), .ref (r 2), .ref (r 3)]))] H ∧ sx_AR g H [(r 0, .long, 10), (r 1, .long, 10), (r 2, .long, 10), (r 3, .long, 10)] ∧ (∀ k, H0.size ≤ r k)) (by decide) rfl (Nat.le_of_ble_eq_true rfl) ?_
  intro p e s m args below meth c Q ls EE hin hl hret
  obtain ⟨hx, hb, hml, hown, hts, hG, hK⟩ := id EE
  have hS : sx_S g E E H0 H0 [] := sx_S.rf
  have hA : sx_AR g H0 [] := sx_AR.nil
  have hZ : ∀ x ∈ ([] : List Nat), H0.size ≤ x := sx_nilZ
  have ho : o < H0.size := (hO 0 _ rfl).lt
  have hl : lv_has ls 1 [(0, .ref o)] := hl
  refine lv_aload_n hx hb d_Ad_init_0 rfl (lv_at hl 0 rfl) ?_
  refine W.objInit hx hb hown (hts (.methodLink R_Ad 1 objectInit) (by decide +kernel)) (hts (.instanceMethod objectInit) (by decide +kernel)) (hts (.code objectInit ⟨#[0xb1]⟩ 1 none) (by decide +kernel)) rfl (by rw [hml]; exact hl.1) rfl d_Ad_init_1 (Nat.le_of_ble_eq_true rfl) (Nat.le_of_ble_eq_true rfl) ?_
  refine W.eq (g2 := F0 m 4 ls []) rfl ?_
  refine lv_aload_n hx hb d_Ad_init_4 rfl (lv_at hl 0 rfl) ?_
  refine lv_bipush (v := nI 10) hx hb d_Ad_init_5 (by decide +kernel) ?_
  have hz := hS.1.1
  refine sx_newa (cells' := 1) (slots' := 10) hx hb hG hts rfl (Or.inl rfl) (by decide +kernel) (by decide) (by decide) rfl rfl (Nat.le_of_ble_eq_true rfl) (Nat.le_of_ble_eq_true rfl) hS d_Ad_init_7 (fun q7 H7 e0 a0' l0 y0 hJ hk hS => ?_)
  have hA := hA.kept hJ
  have hO := hO.grown hk
  have hA : sx_AR g H7 [(q7, .long, 10)] := hA.cons a0' l0
  have z_q7 : H0.size ≤ q7 := e0 ▸ hz
  have hZ := sx_consZ hZ z_q7
  refine sx_putF EE hin hO rfl i_Ad t_Ad tok_Ad n_Ad 0 (by decide) rfl fl_Ad_9 (ty := t_Ad 0) (by decide +kernel) rfl rfl (Nat.le_of_ble_eq_true rfl) hEo hS d_Ad_init_9 (fun H9 locs hO hJ hs hS => ?_)
  have hA := hA.kept hJ
  have hO : va_P D classes [(o, .inr (5, [.ref q7, .null, .null, .null]))] H9 := hO
  refine lv_aload_n hx hb d_Ad_init_12 rfl (lv_at hl 0 rfl) ?_
  refine lv_bipush (v := nI 10) hx hb d_Ad_init_13 (by decide +kernel) ?_
  have hz := hS.1.1
  refine sx_newa (cells' := 2) (slots' := 20) hx hb hG hts rfl (Or.inl rfl) (by decide +kernel) (by decide) (by decide) rfl rfl (Nat.le_of_ble_eq_true rfl) (Nat.le_of_ble_eq_true rfl) hS d_Ad_init_15 (fun q15 H15 e0 a0' l0 y0 hJ hk hS => ?_)
  have hA := hA.kept hJ
  have hO := hO.grown hk
  have hA : sx_AR g H15 [(q15, .long, 10), (q7, .long, 10)] := hA.cons a0' l0
  have z_q15 : H0.size ≤ q15 := e0 ▸ hz
  have hZ := sx_consZ hZ z_q15
  refine sx_putF EE hin hO rfl i_Ad t_Ad tok_Ad n_Ad 1 (by decide) rfl fl_Ad_15 (ty := t_Ad 1) (by decide +kernel) rfl rfl (Nat.le_of_ble_eq_true rfl) hEo hS d_Ad_init_17 (fun H17 locs hO hJ hs hS => ?_)
  have hA := hA.kept hJ
  have hO : va_P D classes [(o, .inr (5, [.ref q7, .ref q15, .null, .null]))] H17 := hO
  refine lv_aload_n hx hb d_Ad_init_20 rfl (lv_at hl 0 rfl) ?_
  refine lv_bipush (v := nI 10) hx hb d_Ad_init_21 (by decide +kernel) ?_
  have hz := hS.1.1
  refine sx_newa (cells' := 3) (slots' := 30) hx hb hG hts rfl (Or.inl rfl) (by decide +kernel) (by decide) (by decide) rfl rfl (Nat.le_of_ble_eq_true rfl) (Nat.le_of_ble_eq_true rfl) hS d_Ad_init_23 (fun q23 H23 e0 a0' l0 y0 hJ hk hS => ?_)
  have hA := hA.kept hJ
  have hO := hO.grown hk
  have hA : sx_AR g H23 [(q23, .long, 10), (q15, .long, 10), (q7, .long, 10)] := hA.cons a0' l0
  have z_q23 : H0.size ≤ q23 := e0 ▸ hz
  have hZ := sx_consZ hZ z_q23
  refine sx_putF EE hin hO rfl i_Ad t_Ad tok_Ad n_Ad 2 (by decide) rfl fl_Ad_18 (ty := t_Ad 2) (by decide +kernel) rfl rfl (Nat.le_of_ble_eq_true rfl) hEo hS d_Ad_init_25 (fun H25 locs hO hJ hs hS => ?_)
  have hA := hA.kept hJ
  have hO : va_P D classes [(o, .inr (5, [.ref q7, .ref q15, .ref q23, .null]))] H25 := hO
  refine lv_aload_n hx hb d_Ad_init_28 rfl (lv_at hl 0 rfl) ?_
  refine lv_bipush (v := nI 10) hx hb d_Ad_init_29 (by decide +kernel) ?_
  have hz := hS.1.1
  refine sx_newa (cells' := 4) (slots' := 40) hx hb hG hts rfl (Or.inl rfl) (by decide +kernel) (by decide) (by decide) rfl rfl (Nat.le_of_ble_eq_true rfl) (Nat.le_of_ble_eq_true rfl) hS d_Ad_init_31 (fun q31 H31 e0 a0' l0 y0 hJ hk hS => ?_)
  have hA := hA.kept hJ
  have hO := hO.grown hk
  have hA : sx_AR g H31 [(q31, .long, 10), (q23, .long, 10), (q15, .long, 10), (q7, .long, 10)] := hA.cons a0' l0
  have z_q31 : H0.size ≤ q31 := e0 ▸ hz
  have hZ := sx_consZ hZ z_q31
  refine sx_putF EE hin hO rfl i_Ad t_Ad tok_Ad n_Ad 3 (by decide) rfl fl_Ad_21 (ty := t_Ad 3) (by decide +kernel) rfl rfl (Nat.le_of_ble_eq_true rfl) hEo hS d_Ad_init_33 (fun H33 locs hO hJ hs hS => ?_)
  have hA := hA.kept hJ
  have hO : va_P D classes [(o, .inr (5, [.ref q7, .ref q15, .ref q23, .ref q31]))] H33 := hO
  have hr : ∀ x ∈ ([q7, q15, q23, q31] : List Nat), H0.size ≤ x := by
    intro x hx
    simp only [List.mem_cons, List.not_mem_nil, or_false] at hx
    rcases hx with rfl | rfl | rfl | rfl <;> first | exact Nat.le_refl _ | assumption
  refine hret _ _ _ _ ⟨(fun k => ([q7, q15, q23, q31] : List Nat).getD k H0.size), hO, fun z hz => hA z (by simp only [List.mem_cons, List.not_mem_nil, or_false] at hz ⊢; rcases hz with rfl | rfl | rfl | rfl <;> simp), sx_ge hr⟩ hS.1 hS.2.2 d_Ad_init_36
abbrev rm_F_init : Room := { frames := 1, cells := 7, slots := 70, locals := 13 }
set_option maxHeartbeats 4000000 in
set_option maxRecDepth 100000 in
theorem c_F_init {l : Launch} {D : va_G} {g : ClassId → FieldType → Prop} {E : Nat → Prop} {H0 : Heap} {o : Nat} (hEo : E o) (hEn : ∀ q, H0.size ≤ q → E q) (hO : va_P D classes [(o, .inr (2, [.null, .null, .null, .null, .null, .null, .null]))] H0) : Met l y_F_init (.code y_F_init b_F_init 1 none :: G_) rm_F_init (sx_Pc [.ref o] H0 D g) (va_Qv (fun _ : Unit => True) (fun _ t => sx_J g E H0 t.heap ∧ ∃ r : Nat → Nat, va_P D classes [(o, .inr (2, [.ref (r 0), .ref (r 1), .ref (r 2), .ref (r 3), .ref (r 4), .ref (r 5), .ref (r 6)]))] t.heap ∧ sx_AR g t.heap [(r 0, .long, 10), (r 1, .long, 10), (r 2, .long, 10), (r 3, .long, 10), (r 4, .long, 10), (r 5, .long, 10), (r 6, .long, 10)] ∧ (∀ k, H0.size ≤ r k)) E) 7 70 E := by
  refine sx_mva (own := R_F) (P := fun H => ∃ r : Nat → Nat, va_P D classes [(o, .inr (2, [.ref (r 0), .ref (r 1), .ref (r 2), .ref (r 3), .ref (r 4), .ref (r 5), .ref (r 6)]))] H ∧ sx_AR g H [(r 0, .long, 10), (r 1, .long, 10), (r 2, .long, 10), (r 3, .long, 10), (r 4, .long, 10), (r 5, .long, 10), (r 6, .long, 10)] ∧ (∀ k, H0.size ≤ r k)) (by decide) rfl (Nat.le_of_ble_eq_true rfl) ?_
  intro p e s m args below meth c Q ls EE hin hl hret
  obtain ⟨hx, hb, hml, hown, hts, hG, hK⟩ := id EE
  have hS : sx_S g E E H0 H0 [] := sx_S.rf
  have hA : sx_AR g H0 [] := sx_AR.nil
  have hZ : ∀ x ∈ ([] : List Nat), H0.size ≤ x := sx_nilZ
  have ho : o < H0.size := (hO 0 _ rfl).lt
  have hl : lv_has ls 1 [(0, .ref o)] := hl
  refine lv_aload_n hx hb d_F_init_0 rfl (lv_at hl 0 rfl) ?_
  refine W.objInit hx hb hown (hts (.methodLink R_F 3 objectInit) (by decide +kernel)) (hts (.instanceMethod objectInit) (by decide +kernel)) (hts (.code objectInit ⟨#[0xb1]⟩ 1 none) (by decide +kernel)) rfl (by rw [hml]; exact hl.1) rfl d_F_init_1 (Nat.le_of_ble_eq_true rfl) (Nat.le_of_ble_eq_true rfl) ?_
  refine W.eq (g2 := F0 m 4 ls []) rfl ?_
  refine lv_aload_n hx hb d_F_init_4 rfl (lv_at hl 0 rfl) ?_
  refine lv_bipush (v := nI 10) hx hb d_F_init_5 (by decide +kernel) ?_
  have hz := hS.1.1
  refine sx_newa (cells' := 1) (slots' := 10) hx hb hG hts rfl (Or.inl rfl) (by decide +kernel) (by decide) (by decide) rfl rfl (Nat.le_of_ble_eq_true rfl) (Nat.le_of_ble_eq_true rfl) hS d_F_init_7 (fun q7 H7 e0 a0' l0 y0 hJ hk hS => ?_)
  have hA := hA.kept hJ
  have hO := hO.grown hk
  have hA : sx_AR g H7 [(q7, .long, 10)] := hA.cons a0' l0
  have z_q7 : H0.size ≤ q7 := e0 ▸ hz
  have hZ := sx_consZ hZ z_q7
  refine sx_putF EE hin hO rfl i_F t_F tok_F n_F 0 (by decide) rfl fl_F_11 (ty := t_F 0) (by decide +kernel) rfl rfl (Nat.le_of_ble_eq_true rfl) hEo hS d_F_init_9 (fun H9 locs hO hJ hs hS => ?_)
  have hA := hA.kept hJ
  have hO : va_P D classes [(o, .inr (2, [.ref q7, .null, .null, .null, .null, .null, .null]))] H9 := hO
  refine lv_aload_n hx hb d_F_init_12 rfl (lv_at hl 0 rfl) ?_
  refine lv_bipush (v := nI 10) hx hb d_F_init_13 (by decide +kernel) ?_
  have hz := hS.1.1
  refine sx_newa (cells' := 2) (slots' := 20) hx hb hG hts rfl (Or.inl rfl) (by decide +kernel) (by decide) (by decide) rfl rfl (Nat.le_of_ble_eq_true rfl) (Nat.le_of_ble_eq_true rfl) hS d_F_init_15 (fun q15 H15 e0 a0' l0 y0 hJ hk hS => ?_)
  have hA := hA.kept hJ
  have hO := hO.grown hk
  have hA : sx_AR g H15 [(q15, .long, 10), (q7, .long, 10)] := hA.cons a0' l0
  have z_q15 : H0.size ≤ q15 := e0 ▸ hz
  have hZ := sx_consZ hZ z_q15
  refine sx_putF EE hin hO rfl i_F t_F tok_F n_F 1 (by decide) rfl fl_F_15 (ty := t_F 1) (by decide +kernel) rfl rfl (Nat.le_of_ble_eq_true rfl) hEo hS d_F_init_17 (fun H17 locs hO hJ hs hS => ?_)
  have hA := hA.kept hJ
  have hO : va_P D classes [(o, .inr (2, [.ref q7, .ref q15, .null, .null, .null, .null, .null]))] H17 := hO
  refine lv_aload_n hx hb d_F_init_20 rfl (lv_at hl 0 rfl) ?_
  refine lv_bipush (v := nI 10) hx hb d_F_init_21 (by decide +kernel) ?_
  have hz := hS.1.1
  refine sx_newa (cells' := 3) (slots' := 30) hx hb hG hts rfl (Or.inl rfl) (by decide +kernel) (by decide) (by decide) rfl rfl (Nat.le_of_ble_eq_true rfl) (Nat.le_of_ble_eq_true rfl) hS d_F_init_23 (fun q23 H23 e0 a0' l0 y0 hJ hk hS => ?_)
  have hA := hA.kept hJ
  have hO := hO.grown hk
  have hA : sx_AR g H23 [(q23, .long, 10), (q15, .long, 10), (q7, .long, 10)] := hA.cons a0' l0
  have z_q23 : H0.size ≤ q23 := e0 ▸ hz
  have hZ := sx_consZ hZ z_q23
  refine sx_putF EE hin hO rfl i_F t_F tok_F n_F 2 (by decide) rfl fl_F_18 (ty := t_F 2) (by decide +kernel) rfl rfl (Nat.le_of_ble_eq_true rfl) hEo hS d_F_init_25 (fun H25 locs hO hJ hs hS => ?_)
  have hA := hA.kept hJ
  have hO : va_P D classes [(o, .inr (2, [.ref q7, .ref q15, .ref q23, .null, .null, .null, .null]))] H25 := hO
  refine lv_aload_n hx hb d_F_init_28 rfl (lv_at hl 0 rfl) ?_
  refine lv_bipush (v := nI 10) hx hb d_F_init_29 (by decide +kernel) ?_
  have hz := hS.1.1
  refine sx_newa (cells' := 4) (slots' := 40) hx hb hG hts rfl (Or.inl rfl) (by decide +kernel) (by decide) (by decide) rfl rfl (Nat.le_of_ble_eq_true rfl) (Nat.le_of_ble_eq_true rfl) hS d_F_init_31 (fun q31 H31 e0 a0' l0 y0 hJ hk hS => ?_)
  have hA := hA.kept hJ
  have hO := hO.grown hk
  have hA : sx_AR g H31 [(q31, .long, 10), (q23, .long, 10), (q15, .long, 10), (q7, .long, 10)] := hA.cons a0' l0
  have z_q31 : H0.size ≤ q31 := e0 ▸ hz
  have hZ := sx_consZ hZ z_q31
  refine sx_putF EE hin hO rfl i_F t_F tok_F n_F 3 (by decide) rfl fl_F_21 (ty := t_F 3) (by decide +kernel) rfl rfl (Nat.le_of_ble_eq_true rfl) hEo hS d_F_init_33 (fun H33 locs hO hJ hs hS => ?_)
  have hA := hA.kept hJ
  have hO : va_P D classes [(o, .inr (2, [.ref q7, .ref q15, .ref q23, .ref q31, .null, .null, .null]))] H33 := hO
  refine lv_aload_n hx hb d_F_init_36 rfl (lv_at hl 0 rfl) ?_
  refine lv_bipush (v := nI 10) hx hb d_F_init_37 (by decide +kernel) ?_
  have hz := hS.1.1
  refine sx_newa (cells' := 5) (slots' := 50) hx hb hG hts rfl (Or.inl rfl) (by decide +kernel) (by decide) (by decide) rfl rfl (Nat.le_of_ble_eq_true rfl) (Nat.le_of_ble_eq_true rfl) hS d_F_init_39 (fun q39 H39 e0 a0' l0 y0 hJ hk hS => ?_)
  have hA := hA.kept hJ
  have hO := hO.grown hk
  have hA : sx_AR g H39 [(q39, .long, 10), (q31, .long, 10), (q23, .long, 10), (q15, .long, 10), (q7, .long, 10)] := hA.cons a0' l0
  have z_q39 : H0.size ≤ q39 := e0 ▸ hz
  have hZ := sx_consZ hZ z_q39
  refine sx_putF EE hin hO rfl i_F t_F tok_F n_F 4 (by decide) rfl fl_F_24 (ty := t_F 4) (by decide +kernel) rfl rfl (Nat.le_of_ble_eq_true rfl) hEo hS d_F_init_41 (fun H41 locs hO hJ hs hS => ?_)
  have hA := hA.kept hJ
  have hO : va_P D classes [(o, .inr (2, [.ref q7, .ref q15, .ref q23, .ref q31, .ref q39, .null, .null]))] H41 := hO
  refine lv_aload_n hx hb d_F_init_44 rfl (lv_at hl 0 rfl) ?_
  refine lv_bipush (v := nI 10) hx hb d_F_init_45 (by decide +kernel) ?_
  have hz := hS.1.1
  refine sx_newa (cells' := 6) (slots' := 60) hx hb hG hts rfl (Or.inl rfl) (by decide +kernel) (by decide) (by decide) rfl rfl (Nat.le_of_ble_eq_true rfl) (Nat.le_of_ble_eq_true rfl) hS d_F_init_47 (fun q47 H47 e0 a0' l0 y0 hJ hk hS => ?_)
  have hA := hA.kept hJ
  have hO := hO.grown hk
  have hA : sx_AR g H47 [(q47, .long, 10), (q39, .long, 10), (q31, .long, 10), (q23, .long, 10), (q15, .long, 10), (q7, .long, 10)] := hA.cons a0' l0
  have z_q47 : H0.size ≤ q47 := e0 ▸ hz
  have hZ := sx_consZ hZ z_q47
  refine sx_putF EE hin hO rfl i_F t_F tok_F n_F 5 (by decide) rfl fl_F_27 (ty := t_F 5) (by decide +kernel) rfl rfl (Nat.le_of_ble_eq_true rfl) hEo hS d_F_init_49 (fun H49 locs hO hJ hs hS => ?_)
  have hA := hA.kept hJ
  have hO : va_P D classes [(o, .inr (2, [.ref q7, .ref q15, .ref q23, .ref q31, .ref q39, .ref q47, .null]))] H49 := hO
  refine lv_aload_n hx hb d_F_init_52 rfl (lv_at hl 0 rfl) ?_
  refine lv_bipush (v := nI 10) hx hb d_F_init_53 (by decide +kernel) ?_
  have hz := hS.1.1
  refine sx_newa (cells' := 7) (slots' := 70) hx hb hG hts rfl (Or.inl rfl) (by decide +kernel) (by decide) (by decide) rfl rfl (Nat.le_of_ble_eq_true rfl) (Nat.le_of_ble_eq_true rfl) hS d_F_init_55 (fun q55 H55 e0 a0' l0 y0 hJ hk hS => ?_)
  have hA := hA.kept hJ
  have hO := hO.grown hk
  have hA : sx_AR g H55 [(q55, .long, 10), (q47, .long, 10), (q39, .long, 10), (q31, .long, 10), (q23, .long, 10), (q15, .long, 10), (q7, .long, 10)] := hA.cons a0' l0
  have z_q55 : H0.size ≤ q55 := e0 ▸ hz
  have hZ := sx_consZ hZ z_q55
  refine sx_putF EE hin hO rfl i_F t_F tok_F n_F 6 (by decide) rfl fl_F_30 (ty := t_F 6) (by decide +kernel) rfl rfl (Nat.le_of_ble_eq_true rfl) hEo hS d_F_init_57 (fun H57 locs hO hJ hs hS => ?_)
  have hA := hA.kept hJ
  have hO : va_P D classes [(o, .inr (2, [.ref q7, .ref q15, .ref q23, .ref q31, .ref q39, .ref q47, .ref q55]))] H57 := hO
  have hr : ∀ x ∈ ([q7, q15, q23, q31, q39, q47, q55] : List Nat), H0.size ≤ x := by
    intro x hx
    simp only [List.mem_cons, List.not_mem_nil, or_false] at hx
    rcases hx with rfl | rfl | rfl | rfl | rfl | rfl | rfl <;> first | exact Nat.le_refl _ | assumption
  refine hret _ _ _ _ ⟨(fun k => ([q7, q15, q23, q31, q39, q47, q55] : List Nat).getD k H0.size), hO, fun z hz => hA z (by simp only [List.mem_cons, List.not_mem_nil, or_false] at hz ⊢; rcases hz with rfl | rfl | rfl | rfl | rfl | rfl | rfl <;> simp), sx_ge hr⟩ hS.1 hS.2.2 d_F_init_60
abbrev rm_Ha_init : Room := { frames := 1, cells := 3, slots := 216, locals := 13 }
set_option maxHeartbeats 4000000 in
set_option maxRecDepth 100000 in
theorem c_Ha_init {l : Launch} {D : va_G} {g : ClassId → FieldType → Prop} {E : Nat → Prop} {H0 : Heap} {o : Nat} (hEo : E o) (hEn : ∀ q, H0.size ≤ q → E q) (hO : va_P D classes [(o, .inr (7, [.null, .null, .null, .int 0, .int 0]))] H0) : Met l y_Ha_init (.code y_Ha_init b_Ha_init 1 none :: G_) rm_Ha_init (sx_Pc [.ref o] H0 D g) (va_Qv (fun _ : Unit => True) (fun _ t => sx_J g E H0 t.heap ∧ ∃ r : Nat → Nat, va_P D classes [(o, .inr (7, [.ref (r 0), .ref (r 1), .ref (r 2), .int 0, .int 0]))] t.heap ∧ sx_AR g t.heap [(r 0, .long, 8), (r 1, .long, 80), (r 2, .byte, 128)] ∧ (∀ k, H0.size ≤ r k)) E) 3 216 E := by
  refine sx_mva (own := R_Ha) (P := fun H => ∃ r : Nat → Nat, va_P D classes [(o, .inr (7, [.ref (r 0), .ref (r 1), .ref (r 2), .int 0, .int 0]))] H ∧ sx_AR g H [(r 0, .long, 8), (r 1, .long, 80), (r 2, .byte, 128)] ∧ (∀ k, H0.size ≤ r k)) (by decide) rfl (Nat.le_of_ble_eq_true rfl) ?_
  intro p e s m args below meth c Q ls EE hin hl hret
  obtain ⟨hx, hb, hml, hown, hts, hG, hK⟩ := id EE
  have hS : sx_S g E E H0 H0 [] := sx_S.rf
  have hA : sx_AR g H0 [] := sx_AR.nil
  have hZ : ∀ x ∈ ([] : List Nat), H0.size ≤ x := sx_nilZ
  have ho : o < H0.size := (hO 0 _ rfl).lt
  have hl : lv_has ls 1 [(0, .ref o)] := hl
  refine lv_aload_n hx hb d_Ha_init_0 rfl (lv_at hl 0 rfl) ?_
  refine W.objInit hx hb hown (hts (.methodLink R_Ha 1 objectInit) (by decide +kernel)) (hts (.instanceMethod objectInit) (by decide +kernel)) (hts (.code objectInit ⟨#[0xb1]⟩ 1 none) (by decide +kernel)) rfl (by rw [hml]; exact hl.1) rfl d_Ha_init_1 (Nat.le_of_ble_eq_true rfl) (Nat.le_of_ble_eq_true rfl) ?_
  refine W.eq (g2 := F0 m 4 ls []) rfl ?_
  refine lv_aload_n hx hb d_Ha_init_4 rfl (lv_at hl 0 rfl) ?_
  refine lv_bipush (v := nI 8) hx hb d_Ha_init_5 (by decide +kernel) ?_
  have hz := hS.1.1
  refine sx_newa (cells' := 1) (slots' := 8) hx hb hG hts rfl (Or.inl rfl) (by decide +kernel) (by decide) (by decide) rfl rfl (Nat.le_of_ble_eq_true rfl) (Nat.le_of_ble_eq_true rfl) hS d_Ha_init_7 (fun q7 H7 e0 a0' l0 y0 hJ hk hS => ?_)
  have hA := hA.kept hJ
  have hO := hO.grown hk
  have hA : sx_AR g H7 [(q7, .long, 8)] := hA.cons a0' l0
  have z_q7 : H0.size ≤ q7 := e0 ▸ hz
  have hZ := sx_consZ hZ z_q7
  refine sx_putF EE hin hO rfl i_Ha t_Ha tok_Ha n_Ha 0 (by decide) rfl fl_Ha_7 (ty := t_Ha 0) (by decide +kernel) rfl rfl (Nat.le_of_ble_eq_true rfl) hEo hS d_Ha_init_9 (fun H9 locs hO hJ hs hS => ?_)
  have hA := hA.kept hJ
  have hO : va_P D classes [(o, .inr (7, [.ref q7, .null, .null, .int 0, .int 0]))] H9 := hO
  refine lv_aload_n hx hb d_Ha_init_12 rfl (lv_at hl 0 rfl) ?_
  refine lv_bipush (v := nI 80) hx hb d_Ha_init_13 (by decide +kernel) ?_
  have hz := hS.1.1
  refine sx_newa (cells' := 2) (slots' := 88) hx hb hG hts rfl (Or.inl rfl) (by decide +kernel) (by decide) (by decide) rfl rfl (Nat.le_of_ble_eq_true rfl) (Nat.le_of_ble_eq_true rfl) hS d_Ha_init_15 (fun q15 H15 e0 a0' l0 y0 hJ hk hS => ?_)
  have hA := hA.kept hJ
  have hO := hO.grown hk
  have hA : sx_AR g H15 [(q15, .long, 80), (q7, .long, 8)] := hA.cons a0' l0
  have z_q15 : H0.size ≤ q15 := e0 ▸ hz
  have hZ := sx_consZ hZ z_q15
  refine sx_putF EE hin hO rfl i_Ha t_Ha tok_Ha n_Ha 1 (by decide) rfl fl_Ha_13 (ty := t_Ha 1) (by decide +kernel) rfl rfl (Nat.le_of_ble_eq_true rfl) hEo hS d_Ha_init_17 (fun H17 locs hO hJ hs hS => ?_)
  have hA := hA.kept hJ
  have hO : va_P D classes [(o, .inr (7, [.ref q7, .ref q15, .null, .int 0, .int 0]))] H17 := hO
  refine lv_aload_n hx hb d_Ha_init_20 rfl (lv_at hl 0 rfl) ?_
  refine lv_sipush (v := nI 128) hx hb d_Ha_init_21 (by decide +kernel) ?_
  have hz := hS.1.1
  refine sx_newa (cells' := 3) (slots' := 216) hx hb hG hts rfl (Or.inr (Or.inl rfl)) (by decide +kernel) (by decide) (by decide) rfl rfl (Nat.le_of_ble_eq_true rfl) (Nat.le_of_ble_eq_true rfl) hS d_Ha_init_24 (fun q24 H24 e0 a0' l0 y0 hJ hk hS => ?_)
  have hA := hA.kept hJ
  have hO := hO.grown hk
  have hA : sx_AR g H24 [(q24, .byte, 128), (q15, .long, 80), (q7, .long, 8)] := hA.cons a0' l0
  have z_q24 : H0.size ≤ q24 := e0 ▸ hz
  have hZ := sx_consZ hZ z_q24
  refine sx_putF EE hin hO rfl i_Ha t_Ha tok_Ha n_Ha 2 (by decide) rfl fl_Ha_16 (ty := t_Ha 2) (by decide +kernel) rfl rfl (Nat.le_of_ble_eq_true rfl) hEo hS d_Ha_init_26 (fun H26 locs hO hJ hs hS => ?_)
  have hA := hA.kept hJ
  have hO : va_P D classes [(o, .inr (7, [.ref q7, .ref q15, .ref q24, .int 0, .int 0]))] H26 := hO
  have hr : ∀ x ∈ ([q7, q15, q24, H0.size, H0.size] : List Nat), H0.size ≤ x := by
    intro x hx
    simp only [List.mem_cons, List.not_mem_nil, or_false] at hx
    rcases hx with rfl | rfl | rfl | rfl | rfl <;> first | exact Nat.le_refl _ | assumption
  refine hret _ _ _ _ ⟨(fun k => ([q7, q15, q24, H0.size, H0.size] : List Nat).getD k H0.size), hO, fun z hz => hA z (by simp only [List.mem_cons, List.not_mem_nil, or_false] at hz ⊢; rcases hz with rfl | rfl | rfl <;> simp), sx_ge hr⟩ hS.1 hS.2.2 d_Ha_init_29
abbrev rm_Or_init : Room := { frames := 1, cells := 1, slots := 64, locals := 13 }
set_option maxHeartbeats 4000000 in
set_option maxRecDepth 100000 in
theorem c_Or_init {l : Launch} {D : va_G} {g : ClassId → FieldType → Prop} {E : Nat → Prop} {H0 : Heap} {o : Nat} (hEo : E o) (hEn : ∀ q, H0.size ≤ q → E q) (hO : va_P D classes [(o, .inr (8, [.null]))] H0) : Met l y_Or_init (.code y_Or_init b_Or_init 1 none :: G_) rm_Or_init (sx_Pc [.ref o] H0 D g) (va_Qv (fun _ : Unit => True) (fun _ t => sx_J g E H0 t.heap ∧ ∃ r : Nat → Nat, va_P D classes [(o, .inr (8, [.ref (r 0)]))] t.heap ∧ sx_AR g t.heap [(r 0, .long, 64)] ∧ (∀ k, H0.size ≤ r k)) E) 1 64 E := by
  refine sx_mva (own := R_Or) (P := fun H => ∃ r : Nat → Nat, va_P D classes [(o, .inr (8, [.ref (r 0)]))] H ∧ sx_AR g H [(r 0, .long, 64)] ∧ (∀ k, H0.size ≤ r k)) (by decide) rfl (Nat.le_of_ble_eq_true rfl) ?_
  intro p e s m args below meth c Q ls EE hin hl hret
  obtain ⟨hx, hb, hml, hown, hts, hG, hK⟩ := id EE
  have hS : sx_S g E E H0 H0 [] := sx_S.rf
  have hA : sx_AR g H0 [] := sx_AR.nil
  have hZ : ∀ x ∈ ([] : List Nat), H0.size ≤ x := sx_nilZ
  have ho : o < H0.size := (hO 0 _ rfl).lt
  have hl : lv_has ls 1 [(0, .ref o)] := hl
  refine lv_aload_n hx hb d_Or_init_0 rfl (lv_at hl 0 rfl) ?_
  refine W.objInit hx hb hown (hts (.methodLink R_Or 3 objectInit) (by decide +kernel)) (hts (.instanceMethod objectInit) (by decide +kernel)) (hts (.code objectInit ⟨#[0xb1]⟩ 1 none) (by decide +kernel)) rfl (by rw [hml]; exact hl.1) rfl d_Or_init_1 (Nat.le_of_ble_eq_true rfl) (Nat.le_of_ble_eq_true rfl) ?_
  refine W.eq (g2 := F0 m 4 ls []) rfl ?_
  refine lv_aload_n hx hb d_Or_init_4 rfl (lv_at hl 0 rfl) ?_
  refine lv_bipush (v := nI 64) hx hb d_Or_init_5 (by decide +kernel) ?_
  have hz := hS.1.1
  refine sx_newa (cells' := 1) (slots' := 64) hx hb hG hts rfl (Or.inl rfl) (by decide +kernel) (by decide) (by decide) rfl rfl (Nat.le_of_ble_eq_true rfl) (Nat.le_of_ble_eq_true rfl) hS d_Or_init_7 (fun q7 H7 e0 a0' l0 y0 hJ hk hS => ?_)
  have hA := hA.kept hJ
  have hO := hO.grown hk
  have hA : sx_AR g H7 [(q7, .long, 64)] := hA.cons a0' l0
  have z_q7 : H0.size ≤ q7 := e0 ▸ hz
  have hZ := sx_consZ hZ z_q7
  refine sx_putF EE hin hO rfl i_Or t_Or tok_Or n_Or 0 (by decide) rfl fl_Or_11 (ty := t_Or 0) (by decide +kernel) rfl rfl (Nat.le_of_ble_eq_true rfl) hEo hS d_Or_init_9 (fun H9 locs hO hJ hs hS => ?_)
  have hA := hA.kept hJ
  have hO : va_P D classes [(o, .inr (8, [.ref q7]))] H9 := hO
  have hr : ∀ x ∈ ([q7] : List Nat), H0.size ≤ x := by
    intro x hx
    simp only [List.mem_cons, List.not_mem_nil, or_false] at hx
    rcases hx with rfl <;> first | exact Nat.le_refl _ | assumption
  refine hret _ _ _ _ ⟨(fun k => ([q7] : List Nat).getD k H0.size), hO, fun z hz => hA z (by simp only [List.mem_cons, List.not_mem_nil, or_false] at hz ⊢; rcases hz with rfl <;> simp), sx_ge hr⟩ hS.1 hS.2.2 d_Or_init_12
abbrev rm_Ro_init : Room := { frames := 1, cells := 1, slots := 1024, locals := 13 }
set_option maxHeartbeats 4000000 in
set_option maxRecDepth 100000 in
theorem c_Ro_init {l : Launch} {D : va_G} {g : ClassId → FieldType → Prop} {E : Nat → Prop} {H0 : Heap} {o : Nat} (hEo : E o) (hEn : ∀ q, H0.size ≤ q → E q) (hO : va_P D classes [(o, .inr (9, [.null, .int 0]))] H0) : Met l y_Ro_init (.code y_Ro_init b_Ro_init 1 none :: G_) rm_Ro_init (sx_Pc [.ref o] H0 D g) (va_Qv (fun _ : Unit => True) (fun _ t => sx_J g E H0 t.heap ∧ ∃ r : Nat → Nat, va_P D classes [(o, .inr (9, [.ref (r 0), .int 0]))] t.heap ∧ sx_AR g t.heap [(r 0, .byte, 1024)] ∧ (∀ k, H0.size ≤ r k)) E) 1 1024 E := by
  refine sx_mva (own := R_Ro) (P := fun H => ∃ r : Nat → Nat, va_P D classes [(o, .inr (9, [.ref (r 0), .int 0]))] H ∧ sx_AR g H [(r 0, .byte, 1024)] ∧ (∀ k, H0.size ≤ r k)) (by decide) rfl (Nat.le_of_ble_eq_true rfl) ?_
  intro p e s m args below meth c Q ls EE hin hl hret
  obtain ⟨hx, hb, hml, hown, hts, hG, hK⟩ := id EE
  have hS : sx_S g E E H0 H0 [] := sx_S.rf
  have hA : sx_AR g H0 [] := sx_AR.nil
  have hZ : ∀ x ∈ ([] : List Nat), H0.size ≤ x := sx_nilZ
  have ho : o < H0.size := (hO 0 _ rfl).lt
  have hl : lv_has ls 1 [(0, .ref o)] := hl
  refine lv_aload_n hx hb d_Ro_init_0 rfl (lv_at hl 0 rfl) ?_
  refine W.objInit hx hb hown (hts (.methodLink R_Ro 3 objectInit) (by decide +kernel)) (hts (.instanceMethod objectInit) (by decide +kernel)) (hts (.code objectInit ⟨#[0xb1]⟩ 1 none) (by decide +kernel)) rfl (by rw [hml]; exact hl.1) rfl d_Ro_init_1 (Nat.le_of_ble_eq_true rfl) (Nat.le_of_ble_eq_true rfl) ?_
  refine W.eq (g2 := F0 m 4 ls []) rfl ?_
  refine lv_aload_n hx hb d_Ro_init_4 rfl (lv_at hl 0 rfl) ?_
  refine lv_sipush (v := nI 1024) hx hb d_Ro_init_5 (by decide +kernel) ?_
  have hz := hS.1.1
  refine sx_newa (cells' := 1) (slots' := 1024) hx hb hG hts rfl (Or.inr (Or.inl rfl)) (by decide +kernel) (by decide) (by decide) rfl rfl (Nat.le_of_ble_eq_true rfl) (Nat.le_of_ble_eq_true rfl) hS d_Ro_init_8 (fun q8 H8 e0 a0' l0 y0 hJ hk hS => ?_)
  have hA := hA.kept hJ
  have hO := hO.grown hk
  have hA : sx_AR g H8 [(q8, .byte, 1024)] := hA.cons a0' l0
  have z_q8 : H0.size ≤ q8 := e0 ▸ hz
  have hZ := sx_consZ hZ z_q8
  refine sx_put EE hO rfl i_Ro t_Ro tok_Ro n_Ro 0 (by decide) rfl fl_Ro_11 (ty := t_Ro 0) (by decide +kernel) rfl rfl (Nat.le_of_ble_eq_true rfl) hEo hS d_Ro_init_10 (fun H10 locs hO hJ hs hS => ?_)
  have hA := hA.kept hJ
  have hO : va_P D classes [(o, .inr (9, [.ref q8, .int 0]))] H10 := hO
  have hr : ∀ x ∈ ([q8, H0.size] : List Nat), H0.size ≤ x := by
    intro x hx
    simp only [List.mem_cons, List.not_mem_nil, or_false] at hx
    rcases hx with rfl | rfl <;> first | exact Nat.le_refl _ | assumption
  refine hret _ _ _ _ ⟨(fun k => ([q8, H0.size] : List Nat).getD k H0.size), hO, fun z hz => hA z (by simp only [List.mem_cons, List.not_mem_nil, or_false] at hz ⊢; rcases hz with rfl <;> simp), sx_ge hr⟩ hS.1 hS.2.2 d_Ro_init_13
end
section
abbrev rm_La_init : Room := { frames := 1, cells := 11, slots := 154, locals := 13 }
set_option maxHeartbeats 4000000 in
set_option maxRecDepth 100000 in
theorem c_La_init {l : Launch} {D : va_G} {g : ClassId → FieldType → Prop} {E : Nat → Prop} {H0 : Heap} {o : Nat} {a0 : Nat} (hEo : E o) (hEn : ∀ q, H0.size ≤ q → E q) (hO : va_P D classes [(o, .inr (3, [.null, .null, .null, .null, .null, .null, .null, .null, .null, .null, .null, .null]))] H0) : Met l y_La_init (.code y_La_init b_La_init 2 none :: G_) rm_La_init (sx_Pc [.ref o, .ref a0] H0 D g) (va_Qv (fun _ : Unit => True) (fun _ t => sx_J g E H0 t.heap ∧ ∃ r : Nat → Nat, va_P D classes [(o, .inr (3, [.ref a0, .ref (r 1), .ref (r 2), .ref (r 3), .ref (r 4), .ref (r 5), .ref (r 6), .ref (r 7), .ref (r 8), .ref (r 9), .ref (r 10), .ref (r 11)]))] t.heap ∧ sx_AR g t.heap [(r 1, .byte, 32), (r 2, .byte, 32), (r 3, .long, 10), (r 4, .long, 10), (r 5, .long, 10), (r 6, .long, 10), (r 7, .long, 10), (r 8, .long, 10), (r 9, .long, 10), (r 10, .long, 10), (r 11, .long, 10)] ∧ (∀ k, H0.size ≤ r k)) E) 11 154 E := by
  refine sx_mva (own := R_La) (P := fun H => ∃ r : Nat → Nat, va_P D classes [(o, .inr (3, [.ref a0, .ref (r 1), .ref (r 2), .ref (r 3), .ref (r 4), .ref (r 5), .ref (r 6), .ref (r 7), .ref (r 8), .ref (r 9), .ref (r 10), .ref (r 11)]))] H ∧ sx_AR g H [(r 1, .byte, 32), (r 2, .byte, 32), (r 3, .long, 10), (r 4, .long, 10), (r 5, .long, 10), (r 6, .long, 10), (r 7, .long, 10), (r 8, .long, 10), (r 9, .long, 10), (r 10, .long, 10), (r 11, .long, 10)] ∧ (∀ k, H0.size ≤ r k)) (by decide) rfl (Nat.le_of_ble_eq_true rfl) ?_
  intro p e s m args below meth c Q ls EE hin hl hret
  obtain ⟨hx, hb, hml, hown, hts, hG, hK⟩ := id EE
  have hS : sx_S g E E H0 H0 [] := sx_S.rf
  have hA : sx_AR g H0 [] := sx_AR.nil
  have hZ : ∀ x ∈ ([] : List Nat), H0.size ≤ x := sx_nilZ
  have ho : o < H0.size := (hO 0 _ rfl).lt
  have hl : lv_has ls 2 [(0, .ref o), (1, .ref a0)] := hl
  refine lv_aload_n hx hb d_La_init_0 rfl (lv_at hl 0 rfl) ?_
  refine W.objInit hx hb hown (hts (.methodLink R_La 3 objectInit) (by decide +kernel)) (hts (.instanceMethod objectInit) (by decide +kernel)) (hts (.code objectInit ⟨#[0xb1]⟩ 1 none) (by decide +kernel)) rfl (by rw [hml]; exact hl.1) rfl d_La_init_1 (Nat.le_of_ble_eq_true rfl) (Nat.le_of_ble_eq_true rfl) ?_
  refine W.eq (g2 := F0 m 4 ls []) rfl ?_
  refine lv_aload_n hx hb d_La_init_4 rfl (lv_at hl 0 rfl) ?_
  refine lv_bipush (v := nI 32) hx hb d_La_init_5 (by decide +kernel) ?_
  have hz := hS.1.1
  refine sx_newa (cells' := 1) (slots' := 32) hx hb hG hts rfl (Or.inr (Or.inl rfl)) (by decide +kernel) (by decide) (by decide) rfl rfl (Nat.le_of_ble_eq_true rfl) (Nat.le_of_ble_eq_true rfl) hS d_La_init_7 (fun q7 H7 e0 a0' l0 y0 hJ hk hS => ?_)
  have hA := hA.kept hJ
  have hO := hO.grown hk
  have hA : sx_AR g H7 [(q7, .byte, 32)] := hA.cons a0' l0
  have z_q7 : H0.size ≤ q7 := e0 ▸ hz
  have hZ := sx_consZ hZ z_q7
  refine sx_putF EE hin hO rfl i_La t_La tok_La n_La 1 (by decide) rfl fl_La_9 (ty := t_La 1) (by decide +kernel) rfl rfl (Nat.le_of_ble_eq_true rfl) hEo hS d_La_init_9 (fun H9 locs hO hJ hs hS => ?_)
  have hA := hA.kept hJ
  have hO : va_P D classes [(o, .inr (3, [.null, .ref q7, .null, .null, .null, .null, .null, .null, .null, .null, .null, .null]))] H9 := hO
  refine lv_aload_n hx hb d_La_init_12 rfl (lv_at hl 0 rfl) ?_
  refine lv_bipush (v := nI 32) hx hb d_La_init_13 (by decide +kernel) ?_
  have hz := hS.1.1
  refine sx_newa (cells' := 2) (slots' := 64) hx hb hG hts rfl (Or.inr (Or.inl rfl)) (by decide +kernel) (by decide) (by decide) rfl rfl (Nat.le_of_ble_eq_true rfl) (Nat.le_of_ble_eq_true rfl) hS d_La_init_15 (fun q15 H15 e0 a0' l0 y0 hJ hk hS => ?_)
  have hA := hA.kept hJ
  have hO := hO.grown hk
  have hA : sx_AR g H15 [(q15, .byte, 32), (q7, .byte, 32)] := hA.cons a0' l0
  have z_q15 : H0.size ≤ q15 := e0 ▸ hz
  have hZ := sx_consZ hZ z_q15
  refine sx_putF EE hin hO rfl i_La t_La tok_La n_La 2 (by decide) rfl fl_La_15 (ty := t_La 2) (by decide +kernel) rfl rfl (Nat.le_of_ble_eq_true rfl) hEo hS d_La_init_17 (fun H17 locs hO hJ hs hS => ?_)
  have hA := hA.kept hJ
  have hO : va_P D classes [(o, .inr (3, [.null, .ref q7, .ref q15, .null, .null, .null, .null, .null, .null, .null, .null, .null]))] H17 := hO
  refine lv_aload_n hx hb d_La_init_20 rfl (lv_at hl 0 rfl) ?_
  refine lv_bipush (v := nI 10) hx hb d_La_init_21 (by decide +kernel) ?_
  have hz := hS.1.1
  refine sx_newa (cells' := 3) (slots' := 74) hx hb hG hts rfl (Or.inl rfl) (by decide +kernel) (by decide) (by decide) rfl rfl (Nat.le_of_ble_eq_true rfl) (Nat.le_of_ble_eq_true rfl) hS d_La_init_23 (fun q23 H23 e0 a0' l0 y0 hJ hk hS => ?_)
  have hA := hA.kept hJ
  have hO := hO.grown hk
  have hA : sx_AR g H23 [(q23, .long, 10), (q15, .byte, 32), (q7, .byte, 32)] := hA.cons a0' l0
  have z_q23 : H0.size ≤ q23 := e0 ▸ hz
  have hZ := sx_consZ hZ z_q23
  refine sx_putF EE hin hO rfl i_La t_La tok_La n_La 3 (by decide) rfl fl_La_20 (ty := t_La 3) (by decide +kernel) rfl rfl (Nat.le_of_ble_eq_true rfl) hEo hS d_La_init_25 (fun H25 locs hO hJ hs hS => ?_)
  have hA := hA.kept hJ
  have hO : va_P D classes [(o, .inr (3, [.null, .ref q7, .ref q15, .ref q23, .null, .null, .null, .null, .null, .null, .null, .null]))] H25 := hO
  refine lv_aload_n hx hb d_La_init_28 rfl (lv_at hl 0 rfl) ?_
  refine lv_bipush (v := nI 10) hx hb d_La_init_29 (by decide +kernel) ?_
  have hz := hS.1.1
  refine sx_newa (cells' := 4) (slots' := 84) hx hb hG hts rfl (Or.inl rfl) (by decide +kernel) (by decide) (by decide) rfl rfl (Nat.le_of_ble_eq_true rfl) (Nat.le_of_ble_eq_true rfl) hS d_La_init_31 (fun q31 H31 e0 a0' l0 y0 hJ hk hS => ?_)
  have hA := hA.kept hJ
  have hO := hO.grown hk
  have hA : sx_AR g H31 [(q31, .long, 10), (q23, .long, 10), (q15, .byte, 32), (q7, .byte, 32)] := hA.cons a0' l0
  have z_q31 : H0.size ≤ q31 := e0 ▸ hz
  have hZ := sx_consZ hZ z_q31
  refine sx_putF EE hin hO rfl i_La t_La tok_La n_La 4 (by decide) rfl fl_La_24 (ty := t_La 4) (by decide +kernel) rfl rfl (Nat.le_of_ble_eq_true rfl) hEo hS d_La_init_33 (fun H33 locs hO hJ hs hS => ?_)
  have hA := hA.kept hJ
  have hO : va_P D classes [(o, .inr (3, [.null, .ref q7, .ref q15, .ref q23, .ref q31, .null, .null, .null, .null, .null, .null, .null]))] H33 := hO
  refine lv_aload_n hx hb d_La_init_36 rfl (lv_at hl 0 rfl) ?_
  refine lv_bipush (v := nI 10) hx hb d_La_init_37 (by decide +kernel) ?_
  have hz := hS.1.1
  refine sx_newa (cells' := 5) (slots' := 94) hx hb hG hts rfl (Or.inl rfl) (by decide +kernel) (by decide) (by decide) rfl rfl (Nat.le_of_ble_eq_true rfl) (Nat.le_of_ble_eq_true rfl) hS d_La_init_39 (fun q39 H39 e0 a0' l0 y0 hJ hk hS => ?_)
  have hA := hA.kept hJ
  have hO := hO.grown hk
  have hA : sx_AR g H39 [(q39, .long, 10), (q31, .long, 10), (q23, .long, 10), (q15, .byte, 32), (q7, .byte, 32)] := hA.cons a0' l0
  have z_q39 : H0.size ≤ q39 := e0 ▸ hz
  have hZ := sx_consZ hZ z_q39
  refine sx_putF EE hin hO rfl i_La t_La tok_La n_La 5 (by decide) rfl fl_La_27 (ty := t_La 5) (by decide +kernel) rfl rfl (Nat.le_of_ble_eq_true rfl) hEo hS d_La_init_41 (fun H41 locs hO hJ hs hS => ?_)
  have hA := hA.kept hJ
  have hO : va_P D classes [(o, .inr (3, [.null, .ref q7, .ref q15, .ref q23, .ref q31, .ref q39, .null, .null, .null, .null, .null, .null]))] H41 := hO
  refine lv_aload_n hx hb d_La_init_44 rfl (lv_at hl 0 rfl) ?_
  refine lv_bipush (v := nI 10) hx hb d_La_init_45 (by decide +kernel) ?_
  have hz := hS.1.1
  refine sx_newa (cells' := 6) (slots' := 104) hx hb hG hts rfl (Or.inl rfl) (by decide +kernel) (by decide) (by decide) rfl rfl (Nat.le_of_ble_eq_true rfl) (Nat.le_of_ble_eq_true rfl) hS d_La_init_47 (fun q47 H47 e0 a0' l0 y0 hJ hk hS => ?_)
  have hA := hA.kept hJ
  have hO := hO.grown hk
  have hA : sx_AR g H47 [(q47, .long, 10), (q39, .long, 10), (q31, .long, 10), (q23, .long, 10), (q15, .byte, 32), (q7, .byte, 32)] := hA.cons a0' l0
  have z_q47 : H0.size ≤ q47 := e0 ▸ hz
  have hZ := sx_consZ hZ z_q47
  refine sx_putF EE hin hO rfl i_La t_La tok_La n_La 6 (by decide) rfl fl_La_30 (ty := t_La 6) (by decide +kernel) rfl rfl (Nat.le_of_ble_eq_true rfl) hEo hS d_La_init_49 (fun H49 locs hO hJ hs hS => ?_)
  have hA := hA.kept hJ
  have hO : va_P D classes [(o, .inr (3, [.null, .ref q7, .ref q15, .ref q23, .ref q31, .ref q39, .ref q47, .null, .null, .null, .null, .null]))] H49 := hO
  refine lv_aload_n hx hb d_La_init_52 rfl (lv_at hl 0 rfl) ?_
  refine lv_bipush (v := nI 10) hx hb d_La_init_53 (by decide +kernel) ?_
  have hz := hS.1.1
  refine sx_newa (cells' := 7) (slots' := 114) hx hb hG hts rfl (Or.inl rfl) (by decide +kernel) (by decide) (by decide) rfl rfl (Nat.le_of_ble_eq_true rfl) (Nat.le_of_ble_eq_true rfl) hS d_La_init_55 (fun q55 H55 e0 a0' l0 y0 hJ hk hS => ?_)
  have hA := hA.kept hJ
  have hO := hO.grown hk
  have hA : sx_AR g H55 [(q55, .long, 10), (q47, .long, 10), (q39, .long, 10), (q31, .long, 10), (q23, .long, 10), (q15, .byte, 32), (q7, .byte, 32)] := hA.cons a0' l0
  have z_q55 : H0.size ≤ q55 := e0 ▸ hz
  have hZ := sx_consZ hZ z_q55
  refine sx_putF EE hin hO rfl i_La t_La tok_La n_La 7 (by decide) rfl fl_La_33 (ty := t_La 7) (by decide +kernel) rfl rfl (Nat.le_of_ble_eq_true rfl) hEo hS d_La_init_57 (fun H57 locs hO hJ hs hS => ?_)
  have hA := hA.kept hJ
  have hO : va_P D classes [(o, .inr (3, [.null, .ref q7, .ref q15, .ref q23, .ref q31, .ref q39, .ref q47, .ref q55, .null, .null, .null, .null]))] H57 := hO
  refine lv_aload_n hx hb d_La_init_60 rfl (lv_at hl 0 rfl) ?_
  refine lv_bipush (v := nI 10) hx hb d_La_init_61 (by decide +kernel) ?_
  have hz := hS.1.1
  refine sx_newa (cells' := 8) (slots' := 124) hx hb hG hts rfl (Or.inl rfl) (by decide +kernel) (by decide) (by decide) rfl rfl (Nat.le_of_ble_eq_true rfl) (Nat.le_of_ble_eq_true rfl) hS d_La_init_63 (fun q63 H63 e0 a0' l0 y0 hJ hk hS => ?_)
  have hA := hA.kept hJ
  have hO := hO.grown hk
  have hA : sx_AR g H63 [(q63, .long, 10), (q55, .long, 10), (q47, .long, 10), (q39, .long, 10), (q31, .long, 10), (q23, .long, 10), (q15, .byte, 32), (q7, .byte, 32)] := hA.cons a0' l0
  have z_q63 : H0.size ≤ q63 := e0 ▸ hz
  have hZ := sx_consZ hZ z_q63
  refine sx_putF EE hin hO rfl i_La t_La tok_La n_La 8 (by decide) rfl fl_La_36 (ty := t_La 8) (by decide +kernel) rfl rfl (Nat.le_of_ble_eq_true rfl) hEo hS d_La_init_65 (fun H65 locs hO hJ hs hS => ?_)
  have hA := hA.kept hJ
  have hO : va_P D classes [(o, .inr (3, [.null, .ref q7, .ref q15, .ref q23, .ref q31, .ref q39, .ref q47, .ref q55, .ref q63, .null, .null, .null]))] H65 := hO
  refine lv_aload_n hx hb d_La_init_68 rfl (lv_at hl 0 rfl) ?_
  refine lv_bipush (v := nI 10) hx hb d_La_init_69 (by decide +kernel) ?_
  have hz := hS.1.1
  refine sx_newa (cells' := 9) (slots' := 134) hx hb hG hts rfl (Or.inl rfl) (by decide +kernel) (by decide) (by decide) rfl rfl (Nat.le_of_ble_eq_true rfl) (Nat.le_of_ble_eq_true rfl) hS d_La_init_71 (fun q71 H71 e0 a0' l0 y0 hJ hk hS => ?_)
  have hA := hA.kept hJ
  have hO := hO.grown hk
  have hA : sx_AR g H71 [(q71, .long, 10), (q63, .long, 10), (q55, .long, 10), (q47, .long, 10), (q39, .long, 10), (q31, .long, 10), (q23, .long, 10), (q15, .byte, 32), (q7, .byte, 32)] := hA.cons a0' l0
  have z_q71 : H0.size ≤ q71 := e0 ▸ hz
  have hZ := sx_consZ hZ z_q71
  refine sx_putF EE hin hO rfl i_La t_La tok_La n_La 9 (by decide) rfl fl_La_39 (ty := t_La 9) (by decide +kernel) rfl rfl (Nat.le_of_ble_eq_true rfl) hEo hS d_La_init_73 (fun H73 locs hO hJ hs hS => ?_)
  have hA := hA.kept hJ
  have hO : va_P D classes [(o, .inr (3, [.null, .ref q7, .ref q15, .ref q23, .ref q31, .ref q39, .ref q47, .ref q55, .ref q63, .ref q71, .null, .null]))] H73 := hO
  refine lv_aload_n hx hb d_La_init_76 rfl (lv_at hl 0 rfl) ?_
  refine lv_bipush (v := nI 10) hx hb d_La_init_77 (by decide +kernel) ?_
  have hz := hS.1.1
  refine sx_newa (cells' := 10) (slots' := 144) hx hb hG hts rfl (Or.inl rfl) (by decide +kernel) (by decide) (by decide) rfl rfl (Nat.le_of_ble_eq_true rfl) (Nat.le_of_ble_eq_true rfl) hS d_La_init_79 (fun q79 H79 e0 a0' l0 y0 hJ hk hS => ?_)
  have hA := hA.kept hJ
  have hO := hO.grown hk
  have hA : sx_AR g H79 [(q79, .long, 10), (q71, .long, 10), (q63, .long, 10), (q55, .long, 10), (q47, .long, 10), (q39, .long, 10), (q31, .long, 10), (q23, .long, 10), (q15, .byte, 32), (q7, .byte, 32)] := hA.cons a0' l0
  have z_q79 : H0.size ≤ q79 := e0 ▸ hz
  have hZ := sx_consZ hZ z_q79
  refine sx_putF EE hin hO rfl i_La t_La tok_La n_La 10 (by decide) rfl fl_La_42 (ty := t_La 10) (by decide +kernel) rfl rfl (Nat.le_of_ble_eq_true rfl) hEo hS d_La_init_81 (fun H81 locs hO hJ hs hS => ?_)
  have hA := hA.kept hJ
  have hO : va_P D classes [(o, .inr (3, [.null, .ref q7, .ref q15, .ref q23, .ref q31, .ref q39, .ref q47, .ref q55, .ref q63, .ref q71, .ref q79, .null]))] H81 := hO
  refine lv_aload_n hx hb d_La_init_84 rfl (lv_at hl 0 rfl) ?_
  refine lv_bipush (v := nI 10) hx hb d_La_init_85 (by decide +kernel) ?_
  have hz := hS.1.1
  refine sx_newa (cells' := 11) (slots' := 154) hx hb hG hts rfl (Or.inl rfl) (by decide +kernel) (by decide) (by decide) rfl rfl (Nat.le_of_ble_eq_true rfl) (Nat.le_of_ble_eq_true rfl) hS d_La_init_87 (fun q87 H87 e0 a0' l0 y0 hJ hk hS => ?_)
  have hA := hA.kept hJ
  have hO := hO.grown hk
  have hA : sx_AR g H87 [(q87, .long, 10), (q79, .long, 10), (q71, .long, 10), (q63, .long, 10), (q55, .long, 10), (q47, .long, 10), (q39, .long, 10), (q31, .long, 10), (q23, .long, 10), (q15, .byte, 32), (q7, .byte, 32)] := hA.cons a0' l0
  have z_q87 : H0.size ≤ q87 := e0 ▸ hz
  have hZ := sx_consZ hZ z_q87
  refine sx_putF EE hin hO rfl i_La t_La tok_La n_La 11 (by decide) rfl fl_La_45 (ty := t_La 11) (by decide +kernel) rfl rfl (Nat.le_of_ble_eq_true rfl) hEo hS d_La_init_89 (fun H89 locs hO hJ hs hS => ?_)
  have hA := hA.kept hJ
  have hO : va_P D classes [(o, .inr (3, [.null, .ref q7, .ref q15, .ref q23, .ref q31, .ref q39, .ref q47, .ref q55, .ref q63, .ref q71, .ref q79, .ref q87]))] H89 := hO
  refine lv_aload_n hx hb d_La_init_92 rfl (lv_at hl 0 rfl) ?_
  refine lv_aload_n hx hb d_La_init_93 rfl (lv_at hl 1 rfl) ?_
  refine sx_putF EE hin hO rfl i_La t_La tok_La n_La 0 (by decide) rfl fl_La_48 (ty := t_La 0) (by decide +kernel) rfl rfl (Nat.le_of_ble_eq_true rfl) hEo hS d_La_init_94 (fun H94 locs hO hJ hs hS => ?_)
  have hA := hA.kept hJ
  have hO : va_P D classes [(o, .inr (3, [.ref a0, .ref q7, .ref q15, .ref q23, .ref q31, .ref q39, .ref q47, .ref q55, .ref q63, .ref q71, .ref q79, .ref q87]))] H94 := hO
  refine lv_aload_n hx hb d_La_init_97 rfl (lv_at hl 0 rfl) ?_
  refine sx_get EE hO rfl i_La 2 (by decide) rfl fl_La_15 rfl d_La_init_98 ?_
  refine lv_iconst (v := nI 0) hx hb d_La_init_101 (by decide +kernel) ?_
  refine lv_bipush (v := nI 9) hx hb d_La_init_102 (by decide +kernel) ?_
  refine sx_bast (E := fun z => z = q15) (F := E) (H0 := H94) hx hb hG ⟨sx_J.rf, fun z h => h ▸ hEn _ z_q15, hS.2.2⟩ (show sx_A g .byte H94 q15 32 from (hA (q15, .byte, 32) (by simp)).1) rfl (sx_in (by decide) (by decide)) d_La_init_104 (fun H104 locs hS1 => ?_)
  have hA := hA.kept hS1.1
  have hO := hS1.1.ob (fun e => absurd z_q15 (by rw [← e]; exact Nat.not_le.mpr ho)) hO
  have hS : sx_S g E E H0 H104 locs := ⟨hS.1.tr (hS1.1.mono (fun z h => h ▸ hEn _ z_q15)), fun _ h => h, hS1.2.2⟩
  have hr : ∀ x ∈ ([H0.size, q7, q15, q23, q31, q39, q47, q55, q63, q71, q79, q87] : List Nat), H0.size ≤ x := by
    intro x hx
    simp only [List.mem_cons, List.not_mem_nil, or_false] at hx
    rcases hx with rfl | rfl | rfl | rfl | rfl | rfl | rfl | rfl | rfl | rfl | rfl | rfl <;> first | exact Nat.le_refl _ | assumption
  refine hret _ _ _ _ ⟨(fun k => ([H0.size, q7, q15, q23, q31, q39, q47, q55, q63, q71, q79, q87] : List Nat).getD k H0.size), hO, fun z hz => hA z (by simp only [List.mem_cons, List.not_mem_nil, or_false] at hz ⊢; rcases hz with rfl | rfl | rfl | rfl | rfl | rfl | rfl | rfl | rfl | rfl | rfl <;> simp), sx_ge hr⟩ hS.1 hS.2.2 d_La_init_105
abbrev rm_Si_init : Room := { frames := 2, cells := 12, slots := 510, locals := 33 }
set_option maxHeartbeats 4000000 in
set_option maxRecDepth 100000 in
theorem c_Si_init {l : Launch} {D : va_G} {g : ClassId → FieldType → Prop} {E : Nat → Prop} {H0 : Heap} {o : Nat} {a0 : Nat} (hEo : E o) (hEn : ∀ q, H0.size ≤ q → E q) (hO : va_P D classes [(o, .inr (11, [.null, .null, .null, .null, .null, .null, .null, .null, .null]))] H0) : Met l y_Si_init (.code y_Si_init b_Si_init 2 none :: G_) rm_Si_init (sx_Pc [.ref o, .ref a0] H0 D g) (va_Qv (fun _ : Unit => True) (fun _ t => sx_J g E H0 t.heap ∧ ∃ r : Nat → Nat, va_P D classes [(o, .inr (11, [.ref a0, .ref (r 1), .ref (r 2), .ref (r 3), .ref (r 4), .ref (r 5), .ref (r 6), .ref (r 7), .ref (r 8)]))] t.heap ∧ sx_AR g t.heap [(r 3, .byte, 64), (r 4, .byte, 32), (r 5, .byte, 32), (r 6, .byte, 32), (r 7, .byte, 32), (r 8, .byte, 32)] ∧ (∀ k, H0.size ≤ r k)) E) 12 510 E := by
  refine sx_mva (own := R_Si) (P := fun H => ∃ r : Nat → Nat, va_P D classes [(o, .inr (11, [.ref a0, .ref (r 1), .ref (r 2), .ref (r 3), .ref (r 4), .ref (r 5), .ref (r 6), .ref (r 7), .ref (r 8)]))] H ∧ sx_AR g H [(r 3, .byte, 64), (r 4, .byte, 32), (r 5, .byte, 32), (r 6, .byte, 32), (r 7, .byte, 32), (r 8, .byte, 32)] ∧ (∀ k, H0.size ≤ r k)) (by decide) rfl (Nat.le_of_ble_eq_true rfl) ?_
  intro p e s m args below meth c Q ls EE hin hl hret
  obtain ⟨hx, hb, hml, hown, hts, hG, hK⟩ := id EE
  have hS : sx_S g E E H0 H0 [] := sx_S.rf
  have hA : sx_AR g H0 [] := sx_AR.nil
  have hZ : ∀ x ∈ ([] : List Nat), H0.size ≤ x := sx_nilZ
  have ho : o < H0.size := (hO 0 _ rfl).lt
  have hl : lv_has ls 2 [(0, .ref o), (1, .ref a0)] := hl
  refine lv_aload_n hx hb d_Si_init_0 rfl (lv_at hl 0 rfl) ?_
  refine W.objInit hx hb hown (hts (.methodLink R_Si 3 objectInit) (by decide +kernel)) (hts (.instanceMethod objectInit) (by decide +kernel)) (hts (.code objectInit ⟨#[0xb1]⟩ 1 none) (by decide +kernel)) rfl (by rw [hml]; exact hl.1) rfl d_Si_init_1 (Nat.le_of_ble_eq_true rfl) (Nat.le_of_ble_eq_true rfl) ?_
  refine W.eq (g2 := F0 m 4 ls []) rfl ?_
  refine lv_aload_n hx hb d_Si_init_4 rfl (lv_at hl 0 rfl) ?_
  have hz := hS.1.1
  refine sx_newo (ci := 7) (fs := [.null, .null, .null, .int 0, .int 0]) (cells' := 1) (slots' := 5) EE rfl i_Ha t_Ha tok_Ha nw_Si_9 (by decide) rfl rfl (Nat.le_of_ble_eq_true rfl) (Nat.le_of_ble_eq_true rfl) d_Si_init_5 (fun q5 H5 e0 hN s0 k1 => ?_)
  have z_q5 : H0.size ≤ q5 := e0 ▸ hz
  have hZ := sx_consZ hZ z_q5
  refine lv_dup hx hb d_Si_init_8 rfl ?_
  refine sx_gI (E' := fun z => z = q5 ∨ Array.size H5 ≤ z) (P := fun H => ∃ r : Nat → Nat, va_P D classes [(q5, .inr (7, [.ref (r 0), .ref (r 1), .ref (r 2), .int 0, .int 0]))] H ∧ sx_AR g H [(r 0, .long, 8), (r 1, .long, 80), (r 2, .byte, 128)] ∧ (∀ k, Array.size H5 ≤ r k)) (F := E) (mc := 3) (ms := 216) (cells' := 4) (slots' := 221) (sx_runIN (As := []) (rest := [.ref q5, .ref o]) EE (c_Ha_init (E := fun z => z = q5 ∨ Array.size H5 ≤ z) (Or.inl rfl) (fun z h => Or.inr h) hN) il_Si_11 iw_Si_11 rfl rfl ⟨rfl, rfl⟩ ⟨Nat.le_of_ble_eq_true rfl, Nat.le_of_ble_eq_true rfl⟩ ⟨Nat.le_of_ble_eq_true rfl, Nat.le_of_ble_eq_true rfl⟩ hl.1 rfl (Nat.le_of_ble_eq_true rfl) d_Si_init_9) (fun z h => hEn _ (by rcases h with h | h <;> omega)) hS.2.2 rfl rfl (fun H9 locs hJc hPc hlo => ?_)
  have hk := sx_J.news e0 k1 (by omega) hJc (fun _ h => h)
  have hJ : sx_J g E H0 H9 := (sx_J.grow (by omega) k1).tr (hJc.mono (fun z h => hEn _ (by rcases h with h | h <;> omega)))
  have hS : sx_S g E E H0 H9 locs := ⟨hS.1.tr hJ, fun _ h => h, hlo⟩
  have hA := hA.kept hJ
  have hO := hO.grown hk
  refine sx_putF EE hin hO rfl i_Si t_Si tok_Si n_Si 1 (by decide) rfl fl_Si_12 (ty := t_Si 1) (by decide +kernel) rfl rfl (Nat.le_of_ble_eq_true rfl) hEo hS d_Si_init_12 (fun H12 locs hO hJ hs hS => ?_)
  have hA := hA.kept hJ
  have hO : va_P D classes [(o, .inr (11, [.null, .ref q5, .null, .null, .null, .null, .null, .null, .null]))] H12 := hO
  refine lv_aload_n hx hb d_Si_init_15 rfl (lv_at hl 0 rfl) ?_
  have hz := hS.1.1
  refine sx_newo (ci := 8) (fs := [.null]) (cells' := 5) (slots' := 222) EE rfl i_Or t_Or tok_Or nw_Si_18 (by decide) rfl rfl (Nat.le_of_ble_eq_true rfl) (Nat.le_of_ble_eq_true rfl) d_Si_init_16 (fun q16 H16 e0 hN s0 k1 => ?_)
  have z_q16 : H0.size ≤ q16 := e0 ▸ hz
  have hZ := sx_consZ hZ z_q16
  refine lv_dup hx hb d_Si_init_19 rfl ?_
  refine sx_gI (E' := fun z => z = q16 ∨ Array.size H16 ≤ z) (P := fun H => ∃ r : Nat → Nat, va_P D classes [(q16, .inr (8, [.ref (r 0)]))] H ∧ sx_AR g H [(r 0, .long, 64)] ∧ (∀ k, Array.size H16 ≤ r k)) (F := E) (mc := 1) (ms := 64) (cells' := 6) (slots' := 286) (sx_runIN (As := []) (rest := [.ref q16, .ref o]) EE (c_Or_init (E := fun z => z = q16 ∨ Array.size H16 ≤ z) (Or.inl rfl) (fun z h => Or.inr h) hN) il_Si_20 iw_Si_20 rfl rfl ⟨rfl, rfl⟩ ⟨Nat.le_of_ble_eq_true rfl, Nat.le_of_ble_eq_true rfl⟩ ⟨Nat.le_of_ble_eq_true rfl, Nat.le_of_ble_eq_true rfl⟩ hl.1 rfl (Nat.le_of_ble_eq_true rfl) d_Si_init_20) (fun z h => hEn _ (by rcases h with h | h <;> omega)) hS.2.2 rfl rfl (fun H20 locs hJc hPc hlo => ?_)
  have hk := sx_J.news e0 k1 (by omega) hJc (fun _ h => h)
  have hJ : sx_J g E H12 H20 := (sx_J.grow (by omega) k1).tr (hJc.mono (fun z h => hEn _ (by rcases h with h | h <;> omega)))
  have hS : sx_S g E E H0 H20 locs := ⟨hS.1.tr hJ, fun _ h => h, hlo⟩
  have hA := hA.kept hJ
  have hO := hO.grown hk
  refine sx_putF EE hin hO rfl i_Si t_Si tok_Si n_Si 2 (by decide) rfl fl_Si_21 (ty := t_Si 2) (by decide +kernel) rfl rfl (Nat.le_of_ble_eq_true rfl) hEo hS d_Si_init_23 (fun H23 locs hO hJ hs hS => ?_)
  have hA := hA.kept hJ
  have hO : va_P D classes [(o, .inr (11, [.null, .ref q5, .ref q16, .null, .null, .null, .null, .null, .null]))] H23 := hO
  refine lv_aload_n hx hb d_Si_init_26 rfl (lv_at hl 0 rfl) ?_
  refine lv_bipush (v := nI 64) hx hb d_Si_init_27 (by decide +kernel) ?_
  have hz := hS.1.1
  refine sx_newa (cells' := 7) (slots' := 350) hx hb hG hts rfl (Or.inr (Or.inl rfl)) (by decide +kernel) (by decide) (by decide) rfl rfl (Nat.le_of_ble_eq_true rfl) (Nat.le_of_ble_eq_true rfl) hS d_Si_init_29 (fun q29 H29 e0 a0' l0 y0 hJ hk hS => ?_)
  have hA := hA.kept hJ
  have hO := hO.grown hk
  have hA : sx_AR g H29 [(q29, .byte, 64)] := hA.cons a0' l0
  have z_q29 : H0.size ≤ q29 := e0 ▸ hz
  have hZ := sx_consZ hZ z_q29
  refine sx_putF EE hin hO rfl i_Si t_Si tok_Si n_Si 3 (by decide) rfl fl_Si_25 (ty := t_Si 3) (by decide +kernel) rfl rfl (Nat.le_of_ble_eq_true rfl) hEo hS d_Si_init_31 (fun H31 locs hO hJ hs hS => ?_)
  have hA := hA.kept hJ
  have hO : va_P D classes [(o, .inr (11, [.null, .ref q5, .ref q16, .ref q29, .null, .null, .null, .null, .null]))] H31 := hO
  refine lv_aload_n hx hb d_Si_init_34 rfl (lv_at hl 0 rfl) ?_
  refine lv_bipush (v := nI 32) hx hb d_Si_init_35 (by decide +kernel) ?_
  have hz := hS.1.1
  refine sx_newa (cells' := 8) (slots' := 382) hx hb hG hts rfl (Or.inr (Or.inl rfl)) (by decide +kernel) (by decide) (by decide) rfl rfl (Nat.le_of_ble_eq_true rfl) (Nat.le_of_ble_eq_true rfl) hS d_Si_init_37 (fun q37 H37 e0 a0' l0 y0 hJ hk hS => ?_)
  have hA := hA.kept hJ
  have hO := hO.grown hk
  have hA : sx_AR g H37 [(q37, .byte, 32), (q29, .byte, 64)] := hA.cons a0' l0
  have z_q37 : H0.size ≤ q37 := e0 ▸ hz
  have hZ := sx_consZ hZ z_q37
  refine sx_putF EE hin hO rfl i_Si t_Si tok_Si n_Si 4 (by decide) rfl fl_Si_29 (ty := t_Si 4) (by decide +kernel) rfl rfl (Nat.le_of_ble_eq_true rfl) hEo hS d_Si_init_39 (fun H39 locs hO hJ hs hS => ?_)
  have hA := hA.kept hJ
  have hO : va_P D classes [(o, .inr (11, [.null, .ref q5, .ref q16, .ref q29, .ref q37, .null, .null, .null, .null]))] H39 := hO
  refine lv_aload_n hx hb d_Si_init_42 rfl (lv_at hl 0 rfl) ?_
  refine lv_bipush (v := nI 32) hx hb d_Si_init_43 (by decide +kernel) ?_
  have hz := hS.1.1
  refine sx_newa (cells' := 9) (slots' := 414) hx hb hG hts rfl (Or.inr (Or.inl rfl)) (by decide +kernel) (by decide) (by decide) rfl rfl (Nat.le_of_ble_eq_true rfl) (Nat.le_of_ble_eq_true rfl) hS d_Si_init_45 (fun q45 H45 e0 a0' l0 y0 hJ hk hS => ?_)
  have hA := hA.kept hJ
  have hO := hO.grown hk
  have hA : sx_AR g H45 [(q45, .byte, 32), (q37, .byte, 32), (q29, .byte, 64)] := hA.cons a0' l0
  have z_q45 : H0.size ≤ q45 := e0 ▸ hz
  have hZ := sx_consZ hZ z_q45
  refine sx_putF EE hin hO rfl i_Si t_Si tok_Si n_Si 5 (by decide) rfl fl_Si_32 (ty := t_Si 5) (by decide +kernel) rfl rfl (Nat.le_of_ble_eq_true rfl) hEo hS d_Si_init_47 (fun H47 locs hO hJ hs hS => ?_)
  have hA := hA.kept hJ
  have hO : va_P D classes [(o, .inr (11, [.null, .ref q5, .ref q16, .ref q29, .ref q37, .ref q45, .null, .null, .null]))] H47 := hO
  refine lv_aload_n hx hb d_Si_init_50 rfl (lv_at hl 0 rfl) ?_
  refine lv_bipush (v := nI 32) hx hb d_Si_init_51 (by decide +kernel) ?_
  have hz := hS.1.1
  refine sx_newa (cells' := 10) (slots' := 446) hx hb hG hts rfl (Or.inr (Or.inl rfl)) (by decide +kernel) (by decide) (by decide) rfl rfl (Nat.le_of_ble_eq_true rfl) (Nat.le_of_ble_eq_true rfl) hS d_Si_init_53 (fun q53 H53 e0 a0' l0 y0 hJ hk hS => ?_)
  have hA := hA.kept hJ
  have hO := hO.grown hk
  have hA : sx_AR g H53 [(q53, .byte, 32), (q45, .byte, 32), (q37, .byte, 32), (q29, .byte, 64)] := hA.cons a0' l0
  have z_q53 : H0.size ≤ q53 := e0 ▸ hz
  have hZ := sx_consZ hZ z_q53
  refine sx_putF EE hin hO rfl i_Si t_Si tok_Si n_Si 6 (by decide) rfl fl_Si_35 (ty := t_Si 6) (by decide +kernel) rfl rfl (Nat.le_of_ble_eq_true rfl) hEo hS d_Si_init_55 (fun H55 locs hO hJ hs hS => ?_)
  have hA := hA.kept hJ
  have hO : va_P D classes [(o, .inr (11, [.null, .ref q5, .ref q16, .ref q29, .ref q37, .ref q45, .ref q53, .null, .null]))] H55 := hO
  refine lv_aload_n hx hb d_Si_init_58 rfl (lv_at hl 0 rfl) ?_
  refine lv_bipush (v := nI 32) hx hb d_Si_init_59 (by decide +kernel) ?_
  have hz := hS.1.1
  refine sx_newa (cells' := 11) (slots' := 478) hx hb hG hts rfl (Or.inr (Or.inl rfl)) (by decide +kernel) (by decide) (by decide) rfl rfl (Nat.le_of_ble_eq_true rfl) (Nat.le_of_ble_eq_true rfl) hS d_Si_init_61 (fun q61 H61 e0 a0' l0 y0 hJ hk hS => ?_)
  have hA := hA.kept hJ
  have hO := hO.grown hk
  have hA : sx_AR g H61 [(q61, .byte, 32), (q53, .byte, 32), (q45, .byte, 32), (q37, .byte, 32), (q29, .byte, 64)] := hA.cons a0' l0
  have z_q61 : H0.size ≤ q61 := e0 ▸ hz
  have hZ := sx_consZ hZ z_q61
  refine sx_putF EE hin hO rfl i_Si t_Si tok_Si n_Si 7 (by decide) rfl fl_Si_38 (ty := t_Si 7) (by decide +kernel) rfl rfl (Nat.le_of_ble_eq_true rfl) hEo hS d_Si_init_63 (fun H63 locs hO hJ hs hS => ?_)
  have hA := hA.kept hJ
  have hO : va_P D classes [(o, .inr (11, [.null, .ref q5, .ref q16, .ref q29, .ref q37, .ref q45, .ref q53, .ref q61, .null]))] H63 := hO
  refine lv_aload_n hx hb d_Si_init_66 rfl (lv_at hl 0 rfl) ?_
  refine lv_bipush (v := nI 32) hx hb d_Si_init_67 (by decide +kernel) ?_
  have hz := hS.1.1
  refine sx_newa (cells' := 12) (slots' := 510) hx hb hG hts rfl (Or.inr (Or.inl rfl)) (by decide +kernel) (by decide) (by decide) rfl rfl (Nat.le_of_ble_eq_true rfl) (Nat.le_of_ble_eq_true rfl) hS d_Si_init_69 (fun q69 H69 e0 a0' l0 y0 hJ hk hS => ?_)
  have hA := hA.kept hJ
  have hO := hO.grown hk
  have hA : sx_AR g H69 [(q69, .byte, 32), (q61, .byte, 32), (q53, .byte, 32), (q45, .byte, 32), (q37, .byte, 32), (q29, .byte, 64)] := hA.cons a0' l0
  have z_q69 : H0.size ≤ q69 := e0 ▸ hz
  have hZ := sx_consZ hZ z_q69
  refine sx_putF EE hin hO rfl i_Si t_Si tok_Si n_Si 8 (by decide) rfl fl_Si_41 (ty := t_Si 8) (by decide +kernel) rfl rfl (Nat.le_of_ble_eq_true rfl) hEo hS d_Si_init_71 (fun H71 locs hO hJ hs hS => ?_)
  have hA := hA.kept hJ
  have hO : va_P D classes [(o, .inr (11, [.null, .ref q5, .ref q16, .ref q29, .ref q37, .ref q45, .ref q53, .ref q61, .ref q69]))] H71 := hO
  refine lv_aload_n hx hb d_Si_init_74 rfl (lv_at hl 0 rfl) ?_
  refine lv_aload_n hx hb d_Si_init_75 rfl (lv_at hl 1 rfl) ?_
  refine sx_putF EE hin hO rfl i_Si t_Si tok_Si n_Si 0 (by decide) rfl fl_Si_44 (ty := t_Si 0) (by decide +kernel) rfl rfl (Nat.le_of_ble_eq_true rfl) hEo hS d_Si_init_76 (fun H76 locs hO hJ hs hS => ?_)
  have hA := hA.kept hJ
  have hO : va_P D classes [(o, .inr (11, [.ref a0, .ref q5, .ref q16, .ref q29, .ref q37, .ref q45, .ref q53, .ref q61, .ref q69]))] H76 := hO
  have hr : ∀ x ∈ ([H0.size, q5, q16, q29, q37, q45, q53, q61, q69] : List Nat), H0.size ≤ x := by
    intro x hx
    simp only [List.mem_cons, List.not_mem_nil, or_false] at hx
    rcases hx with rfl | rfl | rfl | rfl | rfl | rfl | rfl | rfl | rfl <;> first | exact Nat.le_refl _ | assumption
  refine hret _ _ _ _ ⟨(fun k => ([H0.size, q5, q16, q29, q37, q45, q53, q61, q69] : List Nat).getD k H0.size), hO, fun z hz => hA z (by simp only [List.mem_cons, List.not_mem_nil, or_false] at hz ⊢; rcases hz with rfl | rfl | rfl | rfl | rfl | rfl <;> simp), sx_ge hr⟩ hS.1 hS.2.2 d_Si_init_79
end
