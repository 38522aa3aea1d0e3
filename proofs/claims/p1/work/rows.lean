section
-- ===== PART A: goes FIRST, ahead of the names: the tables' words, and 'selects' of the private methods out of them =====
/-- a private method of a class that the tables say can be made, by its rows of tables_1 -/
def lw_okq (q : MethodName × Nat) : Prop := (q.1.cls ≠ "java/lang/invoke/MethodHandle" ∧ q.1.cls ≠ "java/lang/invoke/VarHandle") ∧ Cond.instantiable q.1.cls q.2 ∈ tables_1 ∧ Cond.privateMethod q.1 ∈ tables_1 ∧ Cond.instanceMethod q.1 ∈ tables_1
theorem lw_p0 : lw_okq (⟨"CurveKeys$Edwards", "fillMultiples", "([LCurveKeys$Addend;LCurveKeys$Point;)V"⟩, 15) := ⟨⟨by decide +kernel, by decide +kernel⟩, List.mem_of_getElem? (i := 117) (by decide +kernel), List.mem_of_getElem? (i := 204) (by decide +kernel), List.mem_of_getElem? (i := 205) (by decide +kernel)⟩
theorem lw_p1 : lw_okq (⟨"CurveKeys$Edwards", "add", "(LCurveKeys$Point;LCurveKeys$Addend;)V"⟩, 15) := ⟨⟨by decide +kernel, by decide +kernel⟩, List.mem_of_getElem? (i := 117) (by decide +kernel), List.mem_of_getElem? (i := 221) (by decide +kernel), List.mem_of_getElem? (i := 222) (by decide +kernel)⟩
theorem lw_p2 : lw_okq (⟨"CurveKeys$Edwards", "join", "(LCurveKeys$Point;)V"⟩, 15) := ⟨⟨by decide +kernel, by decide +kernel⟩, List.mem_of_getElem? (i := 117) (by decide +kernel), List.mem_of_getElem? (i := 228) (by decide +kernel), List.mem_of_getElem? (i := 229) (by decide +kernel)⟩
theorem lw_p3 : lw_okq (⟨"java/lang/Throwable", "fillInStackTrace", "(I)Ljava/lang/Throwable;"⟩, 6) := ⟨⟨by decide +kernel, by decide +kernel⟩, List.mem_of_getElem? (i := 459) (by decide +kernel), List.mem_of_getElem? (i := 457) (by decide +kernel), List.mem_of_getElem? (i := 458) (by decide +kernel)⟩
theorem lw_p4 : lw_okq (⟨"CurveKeys$Row", "growBy", "(I)V"⟩, 2) := ⟨⟨by decide +kernel, by decide +kernel⟩, List.mem_of_getElem? (i := 344) (by decide +kernel), List.mem_of_getElem? (i := 492) (by decide +kernel), List.mem_of_getElem? (i := 493) (by decide +kernel)⟩
theorem lw_p5 : lw_okq (⟨"CurveKeys", "requireTape", "(I)V"⟩, 12) := ⟨⟨by decide +kernel, by decide +kernel⟩, List.mem_of_getElem? (i := 33) (by decide +kernel), List.mem_of_getElem? (i := 541) (by decide +kernel), List.mem_of_getElem? (i := 542) (by decide +kernel)⟩
theorem lw_p6 : lw_okq (⟨"CurveKeys", "existingKey", "(I)LCurveKeys$Key;"⟩, 12) := ⟨⟨by decide +kernel, by decide +kernel⟩, List.mem_of_getElem? (i := 33) (by decide +kernel), List.mem_of_getElem? (i := 583) (by decide +kernel), List.mem_of_getElem? (i := 584) (by decide +kernel)⟩
theorem lw_p7 : lw_okq (⟨"CurveKeys$Ladder", "climb", "()V"⟩, 12) := ⟨⟨by decide +kernel, by decide +kernel⟩, List.mem_of_getElem? (i := 72) (by decide +kernel), List.mem_of_getElem? (i := 625) (by decide +kernel), List.mem_of_getElem? (i := 626) (by decide +kernel)⟩
theorem lw_p8 : lw_okq (⟨"CurveKeys$Ladder", "step", "([J[J[J[J)V"⟩, 12) := ⟨⟨by decide +kernel, by decide +kernel⟩, List.mem_of_getElem? (i := 72) (by decide +kernel), List.mem_of_getElem? (i := 631) (by decide +kernel), List.mem_of_getElem? (i := 632) (by decide +kernel)⟩
theorem lw_p9 : lw_okq (⟨"CurveKeys$Field", "raiseToOnes", "([J)V"⟩, 7) := ⟨⟨by decide +kernel, by decide +kernel⟩, List.mem_of_getElem? (i := 41) (by decide +kernel), List.mem_of_getElem? (i := 649) (by decide +kernel), List.mem_of_getElem? (i := 650) (by decide +kernel)⟩
theorem lw_p10 : lw_okq (⟨"CurveKeys$Field", "stretch", "([J[JI[J)V"⟩, 7) := ⟨⟨by decide +kernel, by decide +kernel⟩, List.mem_of_getElem? (i := 41) (by decide +kernel), List.mem_of_getElem? (i := 654) (by decide +kernel), List.mem_of_getElem? (i := 655) (by decide +kernel)⟩
theorem lw_p11 : lw_okq (⟨"CurveKeys$Field", "settle", "([J)V"⟩, 7) := ⟨⟨by decide +kernel, by decide +kernel⟩, List.mem_of_getElem? (i := 41) (by decide +kernel), List.mem_of_getElem? (i := 664) (by decide +kernel), List.mem_of_getElem? (i := 665) (by decide +kernel)⟩
theorem lw_p12 : lw_okq (⟨"CurveKeys$Hash", "mix", "()V"⟩, 5) := ⟨⟨by decide +kernel, by decide +kernel⟩, List.mem_of_getElem? (i := 284) (by decide +kernel), List.mem_of_getElem? (i := 683) (by decide +kernel), List.mem_of_getElem? (i := 684) (by decide +kernel)⟩
theorem lw_p13 : lw_okq (⟨"CurveKeys$Hash", "spreadWords", "()V"⟩, 5) := ⟨⟨by decide +kernel, by decide +kernel⟩, List.mem_of_getElem? (i := 284) (by decide +kernel), List.mem_of_getElem? (i := 687) (by decide +kernel), List.mem_of_getElem? (i := 688) (by decide +kernel)⟩
theorem lw_p14 : lw_okq (⟨"CurveKeys$Edwards", "addUp", "([B[B)V"⟩, 15) := ⟨⟨by decide +kernel, by decide +kernel⟩, List.mem_of_getElem? (i := 117) (by decide +kernel), List.mem_of_getElem? (i := 966) (by decide +kernel), List.mem_of_getElem? (i := 967) (by decide +kernel)⟩
theorem lw_p15 : lw_okq (⟨"CurveKeys$Edwards", "twice", "(LCurveKeys$Point;)V"⟩, 15) := ⟨⟨by decide +kernel, by decide +kernel⟩, List.mem_of_getElem? (i := 117) (by decide +kernel), List.mem_of_getElem? (i := 974) (by decide +kernel), List.mem_of_getElem? (i := 975) (by decide +kernel)⟩
def lw_privs_1 : List (MethodName × Nat) := [(⟨"CurveKeys$Edwards", "fillMultiples", "([LCurveKeys$Addend;LCurveKeys$Point;)V"⟩, 15), (⟨"CurveKeys$Edwards", "add", "(LCurveKeys$Point;LCurveKeys$Addend;)V"⟩, 15), (⟨"CurveKeys$Edwards", "join", "(LCurveKeys$Point;)V"⟩, 15), (⟨"java/lang/Throwable", "fillInStackTrace", "(I)Ljava/lang/Throwable;"⟩, 6), (⟨"CurveKeys$Row", "growBy", "(I)V"⟩, 2), (⟨"CurveKeys", "requireTape", "(I)V"⟩, 12), (⟨"CurveKeys", "existingKey", "(I)LCurveKeys$Key;"⟩, 12), (⟨"CurveKeys$Ladder", "climb", "()V"⟩, 12), (⟨"CurveKeys$Ladder", "step", "([J[J[J[J)V"⟩, 12), (⟨"CurveKeys$Field", "raiseToOnes", "([J)V"⟩, 7), (⟨"CurveKeys$Field", "stretch", "([J[JI[J)V"⟩, 7), (⟨"CurveKeys$Field", "settle", "([J)V"⟩, 7), (⟨"CurveKeys$Hash", "mix", "()V"⟩, 5), (⟨"CurveKeys$Hash", "spreadWords", "()V"⟩, 5), (⟨"CurveKeys$Edwards", "addUp", "([B[B)V"⟩, 15), (⟨"CurveKeys$Edwards", "twice", "(LCurveKeys$Point;)V"⟩, 15)]
theorem lw_r1 : ∀ q ∈ lw_privs_1, lw_okq q := List.forall_mem_cons.mpr ⟨lw_p0, List.forall_mem_cons.mpr ⟨lw_p1, List.forall_mem_cons.mpr ⟨lw_p2, List.forall_mem_cons.mpr ⟨lw_p3, List.forall_mem_cons.mpr ⟨lw_p4, List.forall_mem_cons.mpr ⟨lw_p5, List.forall_mem_cons.mpr ⟨lw_p6, List.forall_mem_cons.mpr ⟨lw_p7, List.forall_mem_cons.mpr ⟨lw_p8, List.forall_mem_cons.mpr ⟨lw_p9, List.forall_mem_cons.mpr ⟨lw_p10, List.forall_mem_cons.mpr ⟨lw_p11, List.forall_mem_cons.mpr ⟨lw_p12, List.forall_mem_cons.mpr ⟨lw_p13, List.forall_mem_cons.mpr ⟨lw_p14, List.forall_mem_cons.mpr ⟨lw_p15, fun _ h => absurd h List.not_mem_nil⟩⟩⟩⟩⟩⟩⟩⟩⟩⟩⟩⟩⟩⟩⟩⟩
theorem lw_p16 : lw_okq (⟨"CurveKeys$Order", "reduceWide", "([B)V"⟩, 1) := ⟨⟨by decide +kernel, by decide +kernel⟩, List.mem_of_getElem? (i := 306) (by decide +kernel), List.mem_of_getElem? (i := 1014) (by decide +kernel), List.mem_of_getElem? (i := 1015) (by decide +kernel)⟩
theorem lw_p17 : lw_okq (⟨"CurveKeys$Order", "foldPlace", "(I)V"⟩, 1) := ⟨⟨by decide +kernel, by decide +kernel⟩, List.mem_of_getElem? (i := 306) (by decide +kernel), List.mem_of_getElem? (i := 1018) (by decide +kernel), List.mem_of_getElem? (i := 1019) (by decide +kernel)⟩
theorem lw_p18 : lw_okq (⟨"CurveKeys$Order", "subtractMultiple", "(J)V"⟩, 1) := ⟨⟨by decide +kernel, by decide +kernel⟩, List.mem_of_getElem? (i := 306) (by decide +kernel), List.mem_of_getElem? (i := 1026) (by decide +kernel), List.mem_of_getElem? (i := 1027) (by decide +kernel)⟩
theorem lw_p19 : lw_okq (⟨"CurveKeys$Signatures", "hashChallenge", "([BLCurveKeys$Row;)V"⟩, 9) := ⟨⟨by decide +kernel, by decide +kernel⟩, List.mem_of_getElem? (i := 278) (by decide +kernel), List.mem_of_getElem? (i := 1032) (by decide +kernel), List.mem_of_getElem? (i := 1033) (by decide +kernel)⟩
theorem lw_p20 : lw_okq (⟨"CurveKeys$Edwards", "isBelowPrime", "([B)Z"⟩, 15) := ⟨⟨by decide +kernel, by decide +kernel⟩, List.mem_of_getElem? (i := 117) (by decide +kernel), List.mem_of_getElem? (i := 1060) (by decide +kernel), List.mem_of_getElem? (i := 1061) (by decide +kernel)⟩
theorem lw_p21 : lw_okq (⟨"CurveKeys$Edwards", "setRatio", "()V"⟩, 15) := ⟨⟨by decide +kernel, by decide +kernel⟩, List.mem_of_getElem? (i := 117) (by decide +kernel), List.mem_of_getElem? (i := 1067) (by decide +kernel), List.mem_of_getElem? (i := 1068) (by decide +kernel)⟩
theorem lw_p22 : lw_okq (⟨"CurveKeys$Edwards", "mendRoot", "()Z"⟩, 15) := ⟨⟨by decide +kernel, by decide +kernel⟩, List.mem_of_getElem? (i := 117) (by decide +kernel), List.mem_of_getElem? (i := 1078) (by decide +kernel), List.mem_of_getElem? (i := 1079) (by decide +kernel)⟩
theorem lw_p23 : lw_okq (⟨"CurveKeys$Edwards", "isMultipleOfPrime", "([J)Z"⟩, 15) := ⟨⟨by decide +kernel, by decide +kernel⟩, List.mem_of_getElem? (i := 117) (by decide +kernel), List.mem_of_getElem? (i := 1082) (by decide +kernel), List.mem_of_getElem? (i := 1083) (by decide +kernel)⟩
theorem lw_p24 : lw_okq (⟨"CurveKeys$Edwards", "takeSign", "(I)Z"⟩, 15) := ⟨⟨by decide +kernel, by decide +kernel⟩, List.mem_of_getElem? (i := 117) (by decide +kernel), List.mem_of_getElem? (i := 1089) (by decide +kernel), List.mem_of_getElem? (i := 1090) (by decide +kernel)⟩
theorem lw_p25 : lw_okq (⟨"CurveKeysModel", "constants", "()V"⟩, 53) := ⟨⟨by decide +kernel, by decide +kernel⟩, List.mem_of_getElem? (i := 1157) (by decide +kernel), List.mem_of_getElem? (i := 1169) (by decide +kernel), List.mem_of_getElem? (i := 1170) (by decide +kernel)⟩
theorem lw_p26 : lw_okq (⟨"CurveKeysModel", "root", "(II)J"⟩, 53) := ⟨⟨by decide +kernel, by decide +kernel⟩, List.mem_of_getElem? (i := 1157) (by decide +kernel), List.mem_of_getElem? (i := 1176) (by decide +kernel), List.mem_of_getElem? (i := 1177) (by decide +kernel)⟩
theorem lw_p27 : lw_okq (⟨"CurveKeysModel", "fits", "(JJII)Z"⟩, 53) := ⟨⟨by decide +kernel, by decide +kernel⟩, List.mem_of_getElem? (i := 1157) (by decide +kernel), List.mem_of_getElem? (i := 1180) (by decide +kernel), List.mem_of_getElem? (i := 1181) (by decide +kernel)⟩
theorem lw_p28 : lw_okq (⟨"CurveKeysModel", "raise", "(JJ)V"⟩, 53) := ⟨⟨by decide +kernel, by decide +kernel⟩, List.mem_of_getElem? (i := 1157) (by decide +kernel), List.mem_of_getElem? (i := 1184) (by decide +kernel), List.mem_of_getElem? (i := 1185) (by decide +kernel)⟩
theorem lw_p29 : lw_okq (⟨"CurveKeysModel", "inverse", "([J[J[J)V"⟩, 53) := ⟨⟨by decide +kernel, by decide +kernel⟩, List.mem_of_getElem? (i := 1157) (by decide +kernel), List.mem_of_getElem? (i := 1210) (by decide +kernel), List.mem_of_getElem? (i := 1211) (by decide +kernel)⟩
theorem lw_p30 : lw_okq (⟨"CurveKeysModel", "times", "([J[J[J[J[J)V"⟩, 53) := ⟨⟨by decide +kernel, by decide +kernel⟩, List.mem_of_getElem? (i := 1157) (by decide +kernel), List.mem_of_getElem? (i := 1232) (by decide +kernel), List.mem_of_getElem? (i := 1233) (by decide +kernel)⟩
theorem lw_p31 : lw_okq (⟨"CurveKeysModel", "reduce", "([J[J[J)V"⟩, 53) := ⟨⟨by decide +kernel, by decide +kernel⟩, List.mem_of_getElem? (i := 1157) (by decide +kernel), List.mem_of_getElem? (i := 1236) (by decide +kernel), List.mem_of_getElem? (i := 1237) (by decide +kernel)⟩
def lw_privs_2 : List (MethodName × Nat) := [(⟨"CurveKeys$Order", "reduceWide", "([B)V"⟩, 1), (⟨"CurveKeys$Order", "foldPlace", "(I)V"⟩, 1), (⟨"CurveKeys$Order", "subtractMultiple", "(J)V"⟩, 1), (⟨"CurveKeys$Signatures", "hashChallenge", "([BLCurveKeys$Row;)V"⟩, 9), (⟨"CurveKeys$Edwards", "isBelowPrime", "([B)Z"⟩, 15), (⟨"CurveKeys$Edwards", "setRatio", "()V"⟩, 15), (⟨"CurveKeys$Edwards", "mendRoot", "()Z"⟩, 15), (⟨"CurveKeys$Edwards", "isMultipleOfPrime", "([J)Z"⟩, 15), (⟨"CurveKeys$Edwards", "takeSign", "(I)Z"⟩, 15), (⟨"CurveKeysModel", "constants", "()V"⟩, 53), (⟨"CurveKeysModel", "root", "(II)J"⟩, 53), (⟨"CurveKeysModel", "fits", "(JJII)Z"⟩, 53), (⟨"CurveKeysModel", "raise", "(JJ)V"⟩, 53), (⟨"CurveKeysModel", "inverse", "([J[J[J)V"⟩, 53), (⟨"CurveKeysModel", "times", "([J[J[J[J[J)V"⟩, 53), (⟨"CurveKeysModel", "reduce", "([J[J[J)V"⟩, 53)]
theorem lw_r2 : ∀ q ∈ lw_privs_2, lw_okq q := List.forall_mem_cons.mpr ⟨lw_p16, List.forall_mem_cons.mpr ⟨lw_p17, List.forall_mem_cons.mpr ⟨lw_p18, List.forall_mem_cons.mpr ⟨lw_p19, List.forall_mem_cons.mpr ⟨lw_p20, List.forall_mem_cons.mpr ⟨lw_p21, List.forall_mem_cons.mpr ⟨lw_p22, List.forall_mem_cons.mpr ⟨lw_p23, List.forall_mem_cons.mpr ⟨lw_p24, List.forall_mem_cons.mpr ⟨lw_p25, List.forall_mem_cons.mpr ⟨lw_p26, List.forall_mem_cons.mpr ⟨lw_p27, List.forall_mem_cons.mpr ⟨lw_p28, List.forall_mem_cons.mpr ⟨lw_p29, List.forall_mem_cons.mpr ⟨lw_p30, List.forall_mem_cons.mpr ⟨lw_p31, fun _ h => absurd h List.not_mem_nil⟩⟩⟩⟩⟩⟩⟩⟩⟩⟩⟩⟩⟩⟩⟩⟩
theorem lw_p32 : lw_okq (⟨"CurveKeysModel", "power", "([J[J[J)V"⟩, 53) := ⟨⟨by decide +kernel, by decide +kernel⟩, List.mem_of_getElem? (i := 1157) (by decide +kernel), List.mem_of_getElem? (i := 1242) (by decide +kernel), List.mem_of_getElem? (i := 1243) (by decide +kernel)⟩
theorem lw_p33 : lw_okq (⟨"CurveKeysModel", "decode", "()Z"⟩, 53) := ⟨⟨by decide +kernel, by decide +kernel⟩, List.mem_of_getElem? (i := 1157) (by decide +kernel), List.mem_of_getElem? (i := 1249) (by decide +kernel), List.mem_of_getElem? (i := 1250) (by decide +kernel)⟩
theorem lw_p34 : lw_okq (⟨"CurveKeysModel", "fail", "(I)I"⟩, 53) := ⟨⟨by decide +kernel, by decide +kernel⟩, List.mem_of_getElem? (i := 1157) (by decide +kernel), List.mem_of_getElem? (i := 1427) (by decide +kernel), List.mem_of_getElem? (i := 1428) (by decide +kernel)⟩
theorem lw_p35 : lw_okq (⟨"CurveKeysModel", "none", "(I)Z"⟩, 53) := ⟨⟨by decide +kernel, by decide +kernel⟩, List.mem_of_getElem? (i := 1157) (by decide +kernel), List.mem_of_getElem? (i := 1443) (by decide +kernel), List.mem_of_getElem? (i := 1444) (by decide +kernel)⟩
theorem lw_p36 : lw_okq (⟨"CurveKeysModel", "opened", "(I)V"⟩, 53) := ⟨⟨by decide +kernel, by decide +kernel⟩, List.mem_of_getElem? (i := 1157) (by decide +kernel), List.mem_of_getElem? (i := 1447) (by decide +kernel), List.mem_of_getElem? (i := 1448) (by decide +kernel)⟩
theorem lw_p37 : lw_okq (⟨"CurveKeysModel", "hash", "([BI)V"⟩, 53) := ⟨⟨by decide +kernel, by decide +kernel⟩, List.mem_of_getElem? (i := 1157) (by decide +kernel), List.mem_of_getElem? (i := 1451) (by decide +kernel), List.mem_of_getElem? (i := 1452) (by decide +kernel)⟩
theorem lw_p38 : lw_okq (⟨"CurveKeysModel", "over", "()V"⟩, 53) := ⟨⟨by decide +kernel, by decide +kernel⟩, List.mem_of_getElem? (i := 1157) (by decide +kernel), List.mem_of_getElem? (i := 1459) (by decide +kernel), List.mem_of_getElem? (i := 1460) (by decide +kernel)⟩
theorem lw_p39 : lw_okq (⟨"CurveKeysModel", "clamped", "([J[BI)V"⟩, 53) := ⟨⟨by decide +kernel, by decide +kernel⟩, List.mem_of_getElem? (i := 1157) (by decide +kernel), List.mem_of_getElem? (i := 1467) (by decide +kernel), List.mem_of_getElem? (i := 1468) (by decide +kernel)⟩
theorem lw_p40 : lw_okq (⟨"CurveKeysModel", "fromBase", "([J)V"⟩, 53) := ⟨⟨by decide +kernel, by decide +kernel⟩, List.mem_of_getElem? (i := 1157) (by decide +kernel), List.mem_of_getElem? (i := 1473) (by decide +kernel), List.mem_of_getElem? (i := 1474) (by decide +kernel)⟩
theorem lw_p41 : lw_okq (⟨"CurveKeysModel", "multiply", "([J)V"⟩, 53) := ⟨⟨by decide +kernel, by decide +kernel⟩, List.mem_of_getElem? (i := 1157) (by decide +kernel), List.mem_of_getElem? (i := 1477) (by decide +kernel), List.mem_of_getElem? (i := 1478) (by decide +kernel)⟩
theorem lw_p42 : lw_okq (⟨"CurveKeysModel", "add", "([J[J[J[J)V"⟩, 53) := ⟨⟨by decide +kernel, by decide +kernel⟩, List.mem_of_getElem? (i := 1157) (by decide +kernel), List.mem_of_getElem? (i := 1481) (by decide +kernel), List.mem_of_getElem? (i := 1482) (by decide +kernel)⟩
theorem lw_p43 : lw_okq (⟨"CurveKeysModel", "encode", "([B[J[J)V"⟩, 53) := ⟨⟨by decide +kernel, by decide +kernel⟩, List.mem_of_getElem? (i := 1157) (by decide +kernel), List.mem_of_getElem? (i := 1485) (by decide +kernel), List.mem_of_getElem? (i := 1486) (by decide +kernel)⟩
theorem lw_p44 : lw_okq (⟨"CurveKeysModel", "tell", "([BII)V"⟩, 53) := ⟨⟨by decide +kernel, by decide +kernel⟩, List.mem_of_getElem? (i := 1157) (by decide +kernel), List.mem_of_getElem? (i := 1489) (by decide +kernel), List.mem_of_getElem? (i := 1490) (by decide +kernel)⟩
theorem lw_p45 : lw_okq (⟨"CurveKeysModel", "ladder", "()V"⟩, 53) := ⟨⟨by decide +kernel, by decide +kernel⟩, List.mem_of_getElem? (i := 1157) (by decide +kernel), List.mem_of_getElem? (i := 1493) (by decide +kernel), List.mem_of_getElem? (i := 1494) (by decide +kernel)⟩
theorem lw_p46 : lw_okq (⟨"CurveKeysModel", "step", "([J[J[J[J)V"⟩, 53) := ⟨⟨by decide +kernel, by decide +kernel⟩, List.mem_of_getElem? (i := 1157) (by decide +kernel), List.mem_of_getElem? (i := 1497) (by decide +kernel), List.mem_of_getElem? (i := 1498) (by decide +kernel)⟩
theorem lw_p47 : lw_okq (⟨"CurveKeysModel", "hashMessage", "(I)V"⟩, 53) := ⟨⟨by decide +kernel, by decide +kernel⟩, List.mem_of_getElem? (i := 1157) (by decide +kernel), List.mem_of_getElem? (i := 1513) (by decide +kernel), List.mem_of_getElem? (i := 1514) (by decide +kernel)⟩
def lw_privs_3 : List (MethodName × Nat) := [(⟨"CurveKeysModel", "power", "([J[J[J)V"⟩, 53), (⟨"CurveKeysModel", "decode", "()Z"⟩, 53), (⟨"CurveKeysModel", "fail", "(I)I"⟩, 53), (⟨"CurveKeysModel", "none", "(I)Z"⟩, 53), (⟨"CurveKeysModel", "opened", "(I)V"⟩, 53), (⟨"CurveKeysModel", "hash", "([BI)V"⟩, 53), (⟨"CurveKeysModel", "over", "()V"⟩, 53), (⟨"CurveKeysModel", "clamped", "([J[BI)V"⟩, 53), (⟨"CurveKeysModel", "fromBase", "([J)V"⟩, 53), (⟨"CurveKeysModel", "multiply", "([J)V"⟩, 53), (⟨"CurveKeysModel", "add", "([J[J[J[J)V"⟩, 53), (⟨"CurveKeysModel", "encode", "([B[J[J)V"⟩, 53), (⟨"CurveKeysModel", "tell", "([BII)V"⟩, 53), (⟨"CurveKeysModel", "ladder", "()V"⟩, 53), (⟨"CurveKeysModel", "step", "([J[J[J[J)V"⟩, 53), (⟨"CurveKeysModel", "hashMessage", "(I)V"⟩, 53)]
theorem lw_r3 : ∀ q ∈ lw_privs_3, lw_okq q := List.forall_mem_cons.mpr ⟨lw_p32, List.forall_mem_cons.mpr ⟨lw_p33, List.forall_mem_cons.mpr ⟨lw_p34, List.forall_mem_cons.mpr ⟨lw_p35, List.forall_mem_cons.mpr ⟨lw_p36, List.forall_mem_cons.mpr ⟨lw_p37, List.forall_mem_cons.mpr ⟨lw_p38, List.forall_mem_cons.mpr ⟨lw_p39, List.forall_mem_cons.mpr ⟨lw_p40, List.forall_mem_cons.mpr ⟨lw_p41, List.forall_mem_cons.mpr ⟨lw_p42, List.forall_mem_cons.mpr ⟨lw_p43, List.forall_mem_cons.mpr ⟨lw_p44, List.forall_mem_cons.mpr ⟨lw_p45, List.forall_mem_cons.mpr ⟨lw_p46, List.forall_mem_cons.mpr ⟨lw_p47, fun _ h => absurd h List.not_mem_nil⟩⟩⟩⟩⟩⟩⟩⟩⟩⟩⟩⟩⟩⟩⟩⟩
theorem lw_p48 : lw_okq (⟨"CurveKeysModel", "hashNumber", "([J)V"⟩, 53) := ⟨⟨by decide +kernel, by decide +kernel⟩, List.mem_of_getElem? (i := 1157) (by decide +kernel), List.mem_of_getElem? (i := 1517) (by decide +kernel), List.mem_of_getElem? (i := 1518) (by decide +kernel)⟩
theorem lw_p49 : lw_okq (⟨"CurveKeysModel", "verified", "()I"⟩, 53) := ⟨⟨by decide +kernel, by decide +kernel⟩, List.mem_of_getElem? (i := 1157) (by decide +kernel), List.mem_of_getElem? (i := 1525) (by decide +kernel), List.mem_of_getElem? (i := 1526) (by decide +kernel)⟩
def lw_privs_4 : List (MethodName × Nat) := [(⟨"CurveKeysModel", "hashNumber", "([J)V"⟩, 53), (⟨"CurveKeysModel", "verified", "()I"⟩, 53)]
theorem lw_r4 : ∀ q ∈ lw_privs_4, lw_okq q := List.forall_mem_cons.mpr ⟨lw_p48, List.forall_mem_cons.mpr ⟨lw_p49, fun _ h => absurd h List.not_mem_nil⟩⟩
def lw_privs : List (MethodName × Nat) := lw_privs_1 ++ (lw_privs_2 ++ (lw_privs_3 ++ (lw_privs_4)))
def lw_tbl : List Cond := k2_sels lw_privs ++ tables_1
theorem lw_privs_ok : ∀ q ∈ lw_privs, lw_okq q := by
  show ∀ q ∈ lw_privs_1 ++ (lw_privs_2 ++ (lw_privs_3 ++ (lw_privs_4))), lw_okq q
  exact List.forall_mem_append.mpr ⟨lw_r1, List.forall_mem_append.mpr ⟨lw_r2, List.forall_mem_append.mpr ⟨lw_r3, lw_r4⟩⟩⟩
end
section
def R_M : String := "CurveKeysModel"
def F_M : u_T := fun k => match k with
  | 0 => ("CurveKeysModel", "thrown", "I", false)
  | 1 => ("CurveKeysModel", "tape", "[B", true)
  | 2 => ("CurveKeysModel", "message", "[B", true)
  | 3 => ("CurveKeysModel", "result", "[B", true)
  | 4 => ("CurveKeysModel", "keys", "[B", true)
  | 5 => ("CurveKeysModel", "tapes", "I", false)
  | 6 => ("CurveKeysModel", "messages", "I", false)
  | 7 => ("CurveKeysModel", "results", "I", false)
  | 8 => ("CurveKeysModel", "keyCount", "I", false)
  | 9 => ("CurveKeysModel", "told", "[I", true)
  | 10 => ("CurveKeysModel", "p", "[J", true)
  | 11 => ("CurveKeysModel", "pt", "[J", true)
  | 12 => ("CurveKeysModel", "order", "[J", true)
  | 13 => ("CurveKeysModel", "ot", "[J", true)
  | 14 => ("CurveKeysModel", "d", "[J", true)
  | 15 => ("CurveKeysModel", "root", "[J", true)
  | 16 => ("CurveKeysModel", "baseX", "[J", true)
  | 17 => ("CurveKeysModel", "baseY", "[J", true)
  | 18 => ("CurveKeysModel", "px", "[J", true)
  | 19 => ("CurveKeysModel", "py", "[J", true)
  | 20 => ("CurveKeysModel", "qx", "[J", true)
  | 21 => ("CurveKeysModel", "qy", "[J", true)
  | 22 => ("CurveKeysModel", "rx", "[J", true)
  | 23 => ("CurveKeysModel", "ry", "[J", true)
  | 24 => ("CurveKeysModel", "a", "[J", true)
  | 25 => ("CurveKeysModel", "b", "[J", true)
  | 26 => ("CurveKeysModel", "c", "[J", true)
  | 27 => ("CurveKeysModel", "e", "[J", true)
  | 28 => ("CurveKeysModel", "f", "[J", true)
  | 29 => ("CurveKeysModel", "g", "[J", true)
  | 30 => ("CurveKeysModel", "one", "[J", true)
  | 31 => ("CurveKeysModel", "scalar", "[J", true)
  | 32 => ("CurveKeysModel", "secret", "[J", true)
  | 33 => ("CurveKeysModel", "number", "[J", true)
  | 34 => ("CurveKeysModel", "ten", "[J", true)
  | 35 => ("CurveKeysModel", "row", "[B", true)
  | 36 => ("CurveKeysModel", "open", "[B", true)
  | 37 => ("CurveKeysModel", "first", "[B", true)
  | 38 => ("CurveKeysModel", "work", "[B", true)
  | 39 => ("CurveKeysModel", "low", "[I", true)
  | 40 => ("CurveKeysModel", "product", "[J", true)
  | 41 => ("CurveKeysModel", "sum", "[J", true)
  | 42 => ("CurveKeysModel", "u", "[J", true)
  | 43 => ("CurveKeysModel", "v", "[J", true)
  | 44 => ("CurveKeysModel", "x1", "[J", true)
  | 45 => ("CurveKeysModel", "x2", "[J", true)
  | 46 => ("CurveKeysModel", "roots", "[J", true)
  | 47 => ("CurveKeysModel", "starts", "[J", true)
  | 48 => ("CurveKeysModel", "words", "[J", true)
  | 49 => ("CurveKeysModel", "state", "[J", true)
  | 50 => ("CurveKeysModel", "left", "[J", true)
  | 51 => ("CurveKeysModel", "cube", "[J", true)
  | _ => ("CurveKeysModel", "hashed", "[B", true)
def t_M : Nat → FieldType := fun k => match k with
  | 0 => .int
  | 1 => .array .byte
  | 2 => .array .byte
  | 3 => .array .byte
  | 4 => .array .byte
  | 5 => .int
  | 6 => .int
  | 7 => .int
  | 8 => .int
  | 9 => .array .int
  | 10 => .array .long
  | 11 => .array .long
  | 12 => .array .long
  | 13 => .array .long
  | 14 => .array .long
  | 15 => .array .long
  | 16 => .array .long
  | 17 => .array .long
  | 18 => .array .long
  | 19 => .array .long
  | 20 => .array .long
  | 21 => .array .long
  | 22 => .array .long
  | 23 => .array .long
  | 24 => .array .long
  | 25 => .array .long
  | 26 => .array .long
  | 27 => .array .long
  | 28 => .array .long
  | 29 => .array .long
  | 30 => .array .long
  | 31 => .array .long
  | 32 => .array .long
  | 33 => .array .long
  | 34 => .array .long
  | 35 => .array .byte
  | 36 => .array .byte
  | 37 => .array .byte
  | 38 => .array .byte
  | 39 => .array .int
  | 40 => .array .long
  | 41 => .array .long
  | 42 => .array .long
  | 43 => .array .long
  | 44 => .array .long
  | 45 => .array .long
  | 46 => .array .long
  | 47 => .array .long
  | 48 => .array .long
  | 49 => .array .long
  | 50 => .array .long
  | 51 => .array .long
  | _ => .array .byte
theorem n_M : ∀ a, a < 53 → ∀ b, b < 53 → a ≠ b → (F_M a).2.1 ≠ (F_M b).2.1 := by decide +kernel
theorem tok_M : ∀ k, k < 53 → parseFieldDescriptor (F_M k).2.2.1 = some (t_M k) := by decide +kernel
def R_K : String := "CurveKeys"
def F_K : u_T := fun k => match k with
  | 0 => ("CurveKeys", "keys", "[LCurveKeys$Key;", true)
  | 1 => ("CurveKeys", "result", "[B", true)
  | 2 => ("CurveKeys", "verdicts", "[I", true)
  | 3 => ("CurveKeys", "ladder", "LCurveKeys$Ladder;", true)
  | 4 => ("CurveKeys", "edwards", "LCurveKeys$Edwards;", true)
  | 5 => ("CurveKeys", "signatures", "LCurveKeys$Signatures;", true)
  | 6 => ("CurveKeys", "tape", "LCurveKeys$Row;", false)
  | 7 => ("CurveKeys", "message", "LCurveKeys$Row;", false)
  | 8 => ("CurveKeys", "keyCount", "I", false)
  | 9 => ("CurveKeys", "resultLength", "I", false)
  | 10 => ("CurveKeys", "signed", "I", false)
  | _ => ("CurveKeys", "zeroAgreements", "I", false)
def t_K : Nat → FieldType := fun k => match k with
  | 0 => .array (.object "CurveKeys$Key")
  | 1 => .array .byte
  | 2 => .array .int
  | 3 => .object "CurveKeys$Ladder"
  | 4 => .object "CurveKeys$Edwards"
  | 5 => .object "CurveKeys$Signatures"
  | 6 => .object "CurveKeys$Row"
  | 7 => .object "CurveKeys$Row"
  | 8 => .int
  | 9 => .int
  | 10 => .int
  | _ => .int
theorem n_K : ∀ a, a < 12 → ∀ b, b < 12 → a ≠ b → (F_K a).2.1 ≠ (F_K b).2.1 := by decide +kernel
theorem tok_K : ∀ k, k < 12 → parseFieldDescriptor (F_K k).2.2.1 = some (t_K k) := by decide +kernel
def R_F : String := "CurveKeys$Field"
def F_F : u_T := fun k => match k with
  | 0 => ("CurveKeys$Field", "eleven", "[J", true)
  | 1 => ("CurveKeys$Field", "ten", "[J", true)
  | 2 => ("CurveKeys$Field", "fifty", "[J", true)
  | 3 => ("CurveKeys$Field", "ones", "[J", true)
  | 4 => ("CurveKeys$Field", "first", "[J", true)
  | 5 => ("CurveKeys$Field", "second", "[J", true)
  | _ => ("CurveKeys$Field", "spare", "[J", true)
def t_F : Nat → FieldType := fun k => match k with
  | 0 => .array .long
  | 1 => .array .long
  | 2 => .array .long
  | 3 => .array .long
  | 4 => .array .long
  | 5 => .array .long
  | _ => .array .long
theorem n_F : ∀ a, a < 7 → ∀ b, b < 7 → a ≠ b → (F_F a).2.1 ≠ (F_F b).2.1 := by decide +kernel
theorem tok_F : ∀ k, k < 7 → parseFieldDescriptor (F_F k).2.2.1 = some (t_F k) := by decide +kernel
def R_La : String := "CurveKeys$Ladder"
def F_La : u_T := fun k => match k with
  | 0 => ("CurveKeys$Ladder", "field", "LCurveKeys$Field;", true)
  | 1 => ("CurveKeys$Ladder", "scalar", "[B", true)
  | 2 => ("CurveKeys$Ladder", "nine", "[B", true)
  | 3 => ("CurveKeys$Ladder", "u", "[J", true)
  | 4 => ("CurveKeys$Ladder", "lowX", "[J", true)
  | 5 => ("CurveKeys$Ladder", "lowZ", "[J", true)
  | 6 => ("CurveKeys$Ladder", "highX", "[J", true)
  | 7 => ("CurveKeys$Ladder", "highZ", "[J", true)
  | 8 => ("CurveKeys$Ladder", "a", "[J", true)
  | 9 => ("CurveKeys$Ladder", "b", "[J", true)
  | 10 => ("CurveKeys$Ladder", "c", "[J", true)
  | _ => ("CurveKeys$Ladder", "d", "[J", true)
def t_La : Nat → FieldType := fun k => match k with
  | 0 => .object "CurveKeys$Field"
  | 1 => .array .byte
  | 2 => .array .byte
  | 3 => .array .long
  | 4 => .array .long
  | 5 => .array .long
  | 6 => .array .long
  | 7 => .array .long
  | 8 => .array .long
  | 9 => .array .long
  | 10 => .array .long
  | _ => .array .long
theorem n_La : ∀ a, a < 12 → ∀ b, b < 12 → a ≠ b → (F_La a).2.1 ≠ (F_La b).2.1 := by decide +kernel
theorem tok_La : ∀ k, k < 12 → parseFieldDescriptor (F_La k).2.2.1 = some (t_La k) := by decide +kernel
def R_Pt : String := "CurveKeys$Point"
def F_Pt : u_T := fun k => match k with
  | 0 => ("CurveKeys$Point", "x", "[J", true)
  | 1 => ("CurveKeys$Point", "y", "[J", true)
  | 2 => ("CurveKeys$Point", "z", "[J", true)
  | _ => ("CurveKeys$Point", "t", "[J", true)
def t_Pt : Nat → FieldType := fun k => match k with
  | 0 => .array .long
  | 1 => .array .long
  | 2 => .array .long
  | _ => .array .long
theorem n_Pt : ∀ a, a < 4 → ∀ b, b < 4 → a ≠ b → (F_Pt a).2.1 ≠ (F_Pt b).2.1 := by decide +kernel
theorem tok_Pt : ∀ k, k < 4 → parseFieldDescriptor (F_Pt k).2.2.1 = some (t_Pt k) := by decide +kernel
def R_Ad : String := "CurveKeys$Addend"
def F_Ad : u_T := fun k => match k with
  | 0 => ("CurveKeys$Addend", "less", "[J", true)
  | 1 => ("CurveKeys$Addend", "more", "[J", true)
  | 2 => ("CurveKeys$Addend", "twiceZ", "[J", true)
  | _ => ("CurveKeys$Addend", "twiceDT", "[J", true)
def t_Ad : Nat → FieldType := fun k => match k with
  | 0 => .array .long
  | 1 => .array .long
  | 2 => .array .long
  | _ => .array .long
theorem n_Ad : ∀ a, a < 4 → ∀ b, b < 4 → a ≠ b → (F_Ad a).2.1 ≠ (F_Ad b).2.1 := by decide +kernel
theorem tok_Ad : ∀ k, k < 4 → parseFieldDescriptor (F_Ad k).2.2.1 = some (t_Ad k) := by decide +kernel
def R_Ed : String := "CurveKeys$Edwards"
def F_Ed : u_T := fun k => match k with
  | 0 => ("CurveKeys$Edwards", "field", "LCurveKeys$Field;", true)
  | 1 => ("CurveKeys$Edwards", "sum", "LCurveKeys$Point;", true)
  | 2 => ("CurveKeys$Edwards", "found", "LCurveKeys$Point;", true)
  | 3 => ("CurveKeys$Edwards", "ofBase", "[LCurveKeys$Addend;", true)
  | 4 => ("CurveKeys$Edwards", "ofOther", "[LCurveKeys$Addend;", true)
  | 5 => ("CurveKeys$Edwards", "zeroScalar", "[B", true)
  | 6 => ("CurveKeys$Edwards", "form", "[B", true)
  | 7 => ("CurveKeys$Edwards", "a", "[J", true)
  | 8 => ("CurveKeys$Edwards", "b", "[J", true)
  | 9 => ("CurveKeys$Edwards", "c", "[J", true)
  | 10 => ("CurveKeys$Edwards", "d", "[J", true)
  | 11 => ("CurveKeys$Edwards", "e", "[J", true)
  | 12 => ("CurveKeys$Edwards", "f", "[J", true)
  | 13 => ("CurveKeys$Edwards", "g", "[J", true)
  | _ => ("CurveKeys$Edwards", "h", "[J", true)
def t_Ed : Nat → FieldType := fun k => match k with
  | 0 => .object "CurveKeys$Field"
  | 1 => .object "CurveKeys$Point"
  | 2 => .object "CurveKeys$Point"
  | 3 => .array (.object "CurveKeys$Addend")
  | 4 => .array (.object "CurveKeys$Addend")
  | 5 => .array .byte
  | 6 => .array .byte
  | 7 => .array .long
  | 8 => .array .long
  | 9 => .array .long
  | 10 => .array .long
  | 11 => .array .long
  | 12 => .array .long
  | 13 => .array .long
  | _ => .array .long
theorem n_Ed : ∀ a, a < 15 → ∀ b, b < 15 → a ≠ b → (F_Ed a).2.1 ≠ (F_Ed b).2.1 := by decide +kernel
theorem tok_Ed : ∀ k, k < 15 → parseFieldDescriptor (F_Ed k).2.2.1 = some (t_Ed k) := by decide +kernel
def R_Ha : String := "CurveKeys$Hash"
def F_Ha : u_T := fun k => match k with
  | 0 => ("CurveKeys$Hash", "state", "[J", true)
  | 1 => ("CurveKeys$Hash", "words", "[J", true)
  | 2 => ("CurveKeys$Hash", "block", "[B", true)
  | 3 => ("CurveKeys$Hash", "held", "I", false)
  | _ => ("CurveKeys$Hash", "total", "I", false)
def t_Ha : Nat → FieldType := fun k => match k with
  | 0 => .array .long
  | 1 => .array .long
  | 2 => .array .byte
  | 3 => .int
  | _ => .int
theorem n_Ha : ∀ a, a < 5 → ∀ b, b < 5 → a ≠ b → (F_Ha a).2.1 ≠ (F_Ha b).2.1 := by decide +kernel
theorem tok_Ha : ∀ k, k < 5 → parseFieldDescriptor (F_Ha k).2.2.1 = some (t_Ha k) := by decide +kernel
def R_Or : String := "CurveKeys$Order"
def F_Or : u_T := fun k => match k with
  | _ => ("CurveKeys$Order", "wide", "[J", true)
def t_Or : Nat → FieldType := fun k => match k with
  | _ => .array .long
theorem n_Or : ∀ a, a < 1 → ∀ b, b < 1 → a ≠ b → (F_Or a).2.1 ≠ (F_Or b).2.1 := by decide +kernel
theorem tok_Or : ∀ k, k < 1 → parseFieldDescriptor (F_Or k).2.2.1 = some (t_Or k) := by decide +kernel
def R_Ro : String := "CurveKeys$Row"
def F_Ro : u_T := fun k => match k with
  | 0 => ("CurveKeys$Row", "bytes", "[B", false)
  | _ => ("CurveKeys$Row", "length", "I", false)
def t_Ro : Nat → FieldType := fun k => match k with
  | 0 => .array .byte
  | _ => .int
theorem n_Ro : ∀ a, a < 2 → ∀ b, b < 2 → a ≠ b → (F_Ro a).2.1 ≠ (F_Ro b).2.1 := by decide +kernel
theorem tok_Ro : ∀ k, k < 2 → parseFieldDescriptor (F_Ro k).2.2.1 = some (t_Ro k) := by decide +kernel
def R_Ke : String := "CurveKeys$Key"
def F_Ke : u_T := fun k => match k with
  | 0 => ("CurveKeys$Key", "secret", "[B", true)
  | 1 => ("CurveKeys$Key", "scalar", "[B", true)
  | 2 => ("CurveKeys$Key", "prefix", "[B", true)
  | 3 => ("CurveKeys$Key", "publicKey", "[B", true)
  | _ => ("CurveKeys$Key", "ready", "Z", false)
def t_Ke : Nat → FieldType := fun k => match k with
  | 0 => .array .byte
  | 1 => .array .byte
  | 2 => .array .byte
  | 3 => .array .byte
  | _ => .boolean
theorem n_Ke : ∀ a, a < 5 → ∀ b, b < 5 → a ≠ b → (F_Ke a).2.1 ≠ (F_Ke b).2.1 := by decide +kernel
theorem tok_Ke : ∀ k, k < 5 → parseFieldDescriptor (F_Ke k).2.2.1 = some (t_Ke k) := by decide +kernel
def R_Si : String := "CurveKeys$Signatures"
def F_Si : u_T := fun k => match k with
  | 0 => ("CurveKeys$Signatures", "edwards", "LCurveKeys$Edwards;", true)
  | 1 => ("CurveKeys$Signatures", "hash", "LCurveKeys$Hash;", true)
  | 2 => ("CurveKeys$Signatures", "order", "LCurveKeys$Order;", true)
  | 3 => ("CurveKeys$Signatures", "digest", "[B", true)
  | 4 => ("CurveKeys$Signatures", (String.singleton 'r'), "[B", true)
  | 5 => ("CurveKeys$Signatures", "k", "[B", true)
  | 6 => ("CurveKeys$Signatures", "s", "[B", true)
  | 7 => ("CurveKeys$Signatures", "commitment", "[B", true)
  | _ => ("CurveKeys$Signatures", "due", "[B", true)
def t_Si : Nat → FieldType := fun k => match k with
  | 0 => .object "CurveKeys$Edwards"
  | 1 => .object "CurveKeys$Hash"
  | 2 => .object "CurveKeys$Order"
  | 3 => .array .byte
  | 4 => .array .byte
  | 5 => .array .byte
  | 6 => .array .byte
  | 7 => .array .byte
  | _ => .array .byte
theorem n_Si : ∀ a, a < 9 → ∀ b, b < 9 → a ≠ b → (F_Si a).2.1 ≠ (F_Si b).2.1 := by decide +kernel
theorem tok_Si : ∀ k, k < 9 → parseFieldDescriptor (F_Si k).2.2.1 = some (t_Si k) := by decide +kernel
abbrev classes : List vw_C := [(R_M, F_M, 53), (R_K, F_K, 12), (R_F, F_F, 7), (R_La, F_La, 12), (R_Pt, F_Pt, 4), (R_Ad, F_Ad, 4), (R_Ed, F_Ed, 15), (R_Ha, F_Ha, 5), (R_Or, F_Or, 1), (R_Ro, F_Ro, 2), (R_Ke, F_Ke, 5), (R_Si, F_Si, 9)]
abbrev b_M_init : ByteArray := prog_13_method_1_code
def y_M_init : MethodName := ⟨R_M, "<init>", "()V"⟩
abbrev b_M_thrown : ByteArray := prog_13_method_2_code
def y_M_thrown : MethodName := ⟨R_M, "thrown", "()I"⟩
abbrev b_M_fail : ByteArray := prog_13_method_3_code
def y_M_fail : MethodName := ⟨R_M, "fail", "(I)I"⟩
abbrev b_M_copy : ByteArray := prog_13_method_4_code
def y_M_copy : MethodName := ⟨R_M, "copy", "([J[J)V"⟩
abbrev b_M_set : ByteArray := prog_13_method_5_code
def y_M_set : MethodName := ⟨R_M, "set", "([JI)V"⟩
abbrev b_M_zero : ByteArray := prog_13_method_6_code
def y_M_zero : MethodName := ⟨R_M, "zero", "([J)Z"⟩
abbrev b_M_below : ByteArray := prog_13_method_7_code
def y_M_below : MethodName := ⟨R_M, "below", "([J[J)Z"⟩
abbrev b_M_alike : ByteArray := prog_13_method_8_code
def y_M_alike : MethodName := ⟨R_M, "alike", "([J[J)Z"⟩
abbrev b_M_less : ByteArray := prog_13_method_9_code
def y_M_less : MethodName := ⟨R_M, "less", "([J[J[J)V"⟩
abbrev b_M_plus : ByteArray := prog_13_method_10_code
def y_M_plus : MethodName := ⟨R_M, "plus", "([J[J[J[J)V"⟩
abbrev b_M_minus : ByteArray := prog_13_method_11_code
def y_M_minus : MethodName := ⟨R_M, "minus", "([J[J[J[J)V"⟩
abbrev b_M_remainders : ByteArray := prog_13_method_12_code
def y_M_remainders : MethodName := ⟨R_M, "remainders", "([J[J[J)V"⟩
abbrev b_M_reduce : ByteArray := prog_13_method_13_code
def y_M_reduce : MethodName := ⟨R_M, "reduce", "([J[J[J)V"⟩
abbrev b_M_times : ByteArray := prog_13_method_14_code
def y_M_times : MethodName := ⟨R_M, "times", "([J[J[J[J[J)V"⟩
abbrev b_M_half : ByteArray := prog_13_method_15_code
def y_M_half : MethodName := ⟨R_M, "half", "([J[J)V"⟩
abbrev b_M_halve : ByteArray := prog_13_method_16_code
def y_M_halve : MethodName := ⟨R_M, "halve", "([J)V"⟩
abbrev b_M_one : ByteArray := prog_13_method_17_code
def y_M_one : MethodName := ⟨R_M, "one", "([J)Z"⟩
abbrev b_M_inverse : ByteArray := prog_13_method_18_code
def y_M_inverse : MethodName := ⟨R_M, "inverse", "([J[J[J)V"⟩
abbrev b_M_bit : ByteArray := prog_13_method_19_code
def y_M_bit : MethodName := ⟨R_M, "bit", "([JI)I"⟩
abbrev b_M_prime : ByteArray := prog_13_method_20_code
def y_M_prime : MethodName := ⟨R_M, "prime", "(I)I"⟩
abbrev b_M_constants : ByteArray := prog_13_method_21_code
def y_M_constants : MethodName := ⟨R_M, "constants", "()V"⟩
abbrev b_M_root : ByteArray := prog_13_method_22_code
def y_M_root : MethodName := ⟨R_M, "root", "(II)J"⟩
abbrev b_M_fits : ByteArray := prog_13_method_23_code
def y_M_fits : MethodName := ⟨R_M, "fits", "(JJII)Z"⟩
abbrev b_M_raise : ByteArray := prog_13_method_24_code
def y_M_raise : MethodName := ⟨R_M, "raise", "(JJ)V"⟩
abbrev b_M_turned : ByteArray := prog_13_method_25_code
def y_M_turned : MethodName := ⟨R_M, "turned", "(JI)J"⟩
abbrev b_M_padded : ByteArray := prog_13_method_26_code
def y_M_padded : MethodName := ⟨R_M, "padded", "([BIII)I"⟩
abbrev b_M_hash : ByteArray := prog_13_method_27_code
def y_M_hash : MethodName := ⟨R_M, "hash", "([BI)V"⟩
abbrev b_M_over : ByteArray := prog_13_method_28_code
def y_M_over : MethodName := ⟨R_M, "over", "()V"⟩
abbrev b_M_power : ByteArray := prog_13_method_29_code
def y_M_power : MethodName := ⟨R_M, "power", "([J[J[J)V"⟩
abbrev b_M_decode : ByteArray := prog_13_method_30_code
def y_M_decode : MethodName := ⟨R_M, "decode", "()Z"⟩
abbrev b_M_encode : ByteArray := prog_13_method_31_code
def y_M_encode : MethodName := ⟨R_M, "encode", "([B[J[J)V"⟩
abbrev b_M_add : ByteArray := prog_13_method_32_code
def y_M_add : MethodName := ⟨R_M, "add", "([J[J[J[J)V"⟩
abbrev b_M_multiply : ByteArray := prog_13_method_33_code
def y_M_multiply : MethodName := ⟨R_M, "multiply", "([J)V"⟩
abbrev b_M_fromBase : ByteArray := prog_13_method_34_code
def y_M_fromBase : MethodName := ⟨R_M, "fromBase", "([J)V"⟩
abbrev b_M_hashNumber : ByteArray := prog_13_method_35_code
def y_M_hashNumber : MethodName := ⟨R_M, "hashNumber", "([J)V"⟩
abbrev b_M_clamped : ByteArray := prog_13_method_36_code
def y_M_clamped : MethodName := ⟨R_M, "clamped", "([J[BI)V"⟩
abbrev b_M_opened : ByteArray := prog_13_method_37_code
def y_M_opened : MethodName := ⟨R_M, "opened", "(I)V"⟩
abbrev b_M_hashMessage : ByteArray := prog_13_method_38_code
def y_M_hashMessage : MethodName := ⟨R_M, "hashMessage", "(I)V"⟩
abbrev b_M_ladder : ByteArray := prog_13_method_39_code
def y_M_ladder : MethodName := ⟨R_M, "ladder", "()V"⟩
abbrev b_M_step : ByteArray := prog_13_method_40_code
def y_M_step : MethodName := ⟨R_M, "step", "([J[J[J[J)V"⟩
abbrev b_M_feed : ByteArray := prog_13_method_41_code
def y_M_feed : MethodName := ⟨R_M, "feed", "(IIIII)I"⟩
abbrev b_M_end : ByteArray := prog_13_method_42_code
def y_M_end : MethodName := ⟨R_M, "end", "(I)I"⟩
abbrev b_M_none : ByteArray := prog_13_method_43_code
def y_M_none : MethodName := ⟨R_M, "none", "(I)Z"⟩
abbrev b_M_key : ByteArray := prog_13_method_44_code
def y_M_key : MethodName := ⟨R_M, "key", "()I"⟩
abbrev b_M_tell : ByteArray := prog_13_method_45_code
def y_M_tell : MethodName := ⟨R_M, "tell", "([BII)V"⟩
abbrev b_M_open : ByteArray := prog_13_method_46_code
def y_M_open : MethodName := ⟨R_M, "open", "(II)V"⟩
abbrev b_M_agree : ByteArray := prog_13_method_47_code
def y_M_agree : MethodName := ⟨R_M, "agree", "(I)Z"⟩
abbrev b_M_message : ByteArray := prog_13_method_48_code
def y_M_message : MethodName := ⟨R_M, "message", "()I"⟩
abbrev b_M_sign : ByteArray := prog_13_method_49_code
def y_M_sign : MethodName := ⟨R_M, "sign", "(I)V"⟩
abbrev b_M_verified : ByteArray := prog_13_method_50_code
def y_M_verified : MethodName := ⟨R_M, "verified", "()I"⟩
abbrev b_M_verify : ByteArray := prog_13_method_51_code
def y_M_verify : MethodName := ⟨R_M, "verify", "()I"⟩
abbrev b_M_point : ByteArray := prog_13_method_52_code
def y_M_point : MethodName := ⟨R_M, "point", "()Z"⟩
abbrev b_M_back : ByteArray := prog_13_method_53_code
def y_M_back : MethodName := ⟨R_M, "back", "(II)I"⟩
abbrev b_M_result : ByteArray := prog_13_method_54_code
def y_M_result : MethodName := ⟨R_M, "result", "(I)I"⟩
abbrev b_M_count : ByteArray := prog_13_method_55_code
def y_M_count : MethodName := ⟨R_M, "count", "(I)I"⟩
abbrev b_K_init : ByteArray := prog_1_method_1_code
def y_K_init : MethodName := ⟨R_K, "<init>", "()V"⟩
abbrev b_K_feed : ByteArray := prog_1_method_2_code
def y_K_feed : MethodName := ⟨R_K, "feed", "(IIIII)I"⟩
abbrev b_K_end : ByteArray := prog_1_method_3_code
def y_K_end : MethodName := ⟨R_K, "end", "(I)I"⟩
abbrev b_K_key : ByteArray := prog_1_method_4_code
def y_K_key : MethodName := ⟨R_K, "key", "()I"⟩
abbrev b_K_open : ByteArray := prog_1_method_5_code
def y_K_open : MethodName := ⟨R_K, "open", "(II)V"⟩
abbrev b_K_agree : ByteArray := prog_1_method_6_code
def y_K_agree : MethodName := ⟨R_K, "agree", "(I)Z"⟩
abbrev b_K_message : ByteArray := prog_1_method_7_code
def y_K_message : MethodName := ⟨R_K, "message", "()I"⟩
abbrev b_K_sign : ByteArray := prog_1_method_8_code
def y_K_sign : MethodName := ⟨R_K, "sign", "(I)V"⟩
abbrev b_K_verify : ByteArray := prog_1_method_9_code
def y_K_verify : MethodName := ⟨R_K, "verify", "()I"⟩
abbrev b_K_point : ByteArray := prog_1_method_10_code
def y_K_point : MethodName := ⟨R_K, "point", "()Z"⟩
abbrev b_K_back : ByteArray := prog_1_method_11_code
def y_K_back : MethodName := ⟨R_K, "back", "(II)I"⟩
abbrev b_K_result : ByteArray := prog_1_method_12_code
def y_K_result : MethodName := ⟨R_K, "result", "(I)I"⟩
abbrev b_K_count : ByteArray := prog_1_method_13_code
def y_K_count : MethodName := ⟨R_K, "count", "(I)I"⟩
abbrev b_K_existingKey : ByteArray := prog_1_method_14_code
def y_K_existingKey : MethodName := ⟨R_K, "existingKey", "(I)LCurveKeys$Key;"⟩
abbrev b_K_requireTape : ByteArray := prog_1_method_15_code
def y_K_requireTape : MethodName := ⟨R_K, "requireTape", "(I)V"⟩
abbrev b_K_isZeroStart : ByteArray := prog_1_method_16_code
def y_K_isZeroStart : MethodName := ⟨R_K, "isZeroStart", "([B)Z"⟩
abbrev b_K_isSameStart : ByteArray := prog_1_method_17_code
def y_K_isSameStart : MethodName := ⟨R_K, "isSameStart", "([B[B)Z"⟩
abbrev b_K_clamp : ByteArray := prog_1_method_18_code
def y_K_clamp : MethodName := ⟨R_K, "clamp", "([B)V"⟩
abbrev b_F_init : ByteArray := prog_4_method_1_code
def y_F_init : MethodName := ⟨R_F, "<init>", "()V"⟩
abbrev b_F_set : ByteArray := prog_4_method_2_code
def y_F_set : MethodName := ⟨R_F, "set", "([JJ)V"⟩
abbrev b_F_copy : ByteArray := prog_4_method_3_code
def y_F_copy : MethodName := ⟨R_F, "copy", "([J[J)V"⟩
abbrev b_F_add : ByteArray := prog_4_method_4_code
def y_F_add : MethodName := ⟨R_F, "add", "([J[J[J)V"⟩
abbrev b_F_subtract : ByteArray := prog_4_method_5_code
def y_F_subtract : MethodName := ⟨R_F, "subtract", "([J[J[J)V"⟩
abbrev b_F_negate : ByteArray := prog_4_method_6_code
def y_F_negate : MethodName := ⟨R_F, "negate", "([J[J)V"⟩
abbrev b_F_scale : ByteArray := prog_4_method_7_code
def y_F_scale : MethodName := ⟨R_F, "scale", "([J[JJ)V"⟩
abbrev b_F_times : ByteArray := prog_4_method_8_code
def y_F_times : MethodName := ⟨R_F, "times", "([J[J[J)V"⟩
abbrev b_F_square : ByteArray := prog_4_method_9_code
def y_F_square : MethodName := ⟨R_F, "square", "([J[J)V"⟩
abbrev b_F_carry : ByteArray := prog_4_method_10_code
def y_F_carry : MethodName := ⟨R_F, "carry", "([J)V"⟩
abbrev b_F_widthOf : ByteArray := prog_4_method_11_code
def y_F_widthOf : MethodName := ⟨R_F, "widthOf", "(I)I"⟩
abbrev b_F_read : ByteArray := prog_4_method_12_code
def y_F_read : MethodName := ⟨R_F, "read", "([J[B)V"⟩
abbrev b_F_write : ByteArray := prog_4_method_13_code
def y_F_write : MethodName := ⟨R_F, "write", "([B[J)V"⟩
abbrev b_F_settle : ByteArray := prog_4_method_14_code
def y_F_settle : MethodName := ⟨R_F, "settle", "([J)V"⟩
abbrev b_F_invert : ByteArray := prog_4_method_15_code
def y_F_invert : MethodName := ⟨R_F, "invert", "([J[J)V"⟩
abbrev b_F_raiseForRoot : ByteArray := prog_4_method_16_code
def y_F_raiseForRoot : MethodName := ⟨R_F, "raiseForRoot", "([J[J)V"⟩
abbrev b_F_raiseToOnes : ByteArray := prog_4_method_17_code
def y_F_raiseToOnes : MethodName := ⟨R_F, "raiseToOnes", "([J)V"⟩
abbrev b_F_stretch : ByteArray := prog_4_method_18_code
def y_F_stretch : MethodName := ⟨R_F, "stretch", "([J[JI[J)V"⟩
abbrev b_La_init : ByteArray := prog_7_method_1_code
def y_La_init : MethodName := ⟨R_La, "<init>", "(LCurveKeys$Field;)V"⟩
abbrev b_La_writePublicKey : ByteArray := prog_7_method_2_code
def y_La_writePublicKey : MethodName := ⟨R_La, "writePublicKey", "([B[B)V"⟩
abbrev b_La_writeProduct : ByteArray := prog_7_method_3_code
def y_La_writeProduct : MethodName := ⟨R_La, "writeProduct", "([B[B[B)V"⟩
abbrev b_La_climb : ByteArray := prog_7_method_4_code
def y_La_climb : MethodName := ⟨R_La, "climb", "()V"⟩
abbrev b_La_step : ByteArray := prog_7_method_5_code
def y_La_step : MethodName := ⟨R_La, "step", "([J[J[J[J)V"⟩
abbrev b_Pt_init : ByteArray := prog_9_method_1_code
def y_Pt_init : MethodName := ⟨R_Pt, "<init>", "()V"⟩
abbrev b_Pt_setNeutral : ByteArray := prog_9_method_2_code
def y_Pt_setNeutral : MethodName := ⟨R_Pt, "setNeutral", "()V"⟩
abbrev b_Pt_setAffine : ByteArray := prog_9_method_3_code
def y_Pt_setAffine : MethodName := ⟨R_Pt, "setAffine", "([J[J)V"⟩
abbrev b_Pt_negate : ByteArray := prog_9_method_4_code
def y_Pt_negate : MethodName := ⟨R_Pt, "negate", "()V"⟩
abbrev b_Ad_init : ByteArray := prog_2_method_1_code
def y_Ad_init : MethodName := ⟨R_Ad, "<init>", "()V"⟩
abbrev b_Ad_set : ByteArray := prog_2_method_2_code
def y_Ad_set : MethodName := ⟨R_Ad, "set", "(LCurveKeys$Point;)V"⟩
abbrev b_Ed_init : ByteArray := prog_3_method_1_code
def y_Ed_init : MethodName := ⟨R_Ed, "<init>", "(LCurveKeys$Field;)V"⟩
abbrev b_Ed_fillMultiples : ByteArray := prog_3_method_2_code
def y_Ed_fillMultiples : MethodName := ⟨R_Ed, "fillMultiples", "([LCurveKeys$Addend;LCurveKeys$Point;)V"⟩
abbrev b_Ed_add : ByteArray := prog_3_method_3_code
def y_Ed_add : MethodName := ⟨R_Ed, "add", "(LCurveKeys$Point;LCurveKeys$Addend;)V"⟩
abbrev b_Ed_twice : ByteArray := prog_3_method_4_code
def y_Ed_twice : MethodName := ⟨R_Ed, "twice", "(LCurveKeys$Point;)V"⟩
abbrev b_Ed_join : ByteArray := prog_3_method_5_code
def y_Ed_join : MethodName := ⟨R_Ed, "join", "(LCurveKeys$Point;)V"⟩
abbrev b_Ed_multiplyBase : ByteArray := prog_3_method_6_code
def y_Ed_multiplyBase : MethodName := ⟨R_Ed, "multiplyBase", "([B)V"⟩
abbrev b_Ed_subtractFromBase : ByteArray := prog_3_method_7_code
def y_Ed_subtractFromBase : MethodName := ⟨R_Ed, "subtractFromBase", "([B[B)V"⟩
abbrev b_Ed_addUp : ByteArray := prog_3_method_8_code
def y_Ed_addUp : MethodName := ⟨R_Ed, "addUp", "([B[B)V"⟩
abbrev b_Ed_digitAt : ByteArray := prog_3_method_9_code
def y_Ed_digitAt : MethodName := ⟨R_Ed, "digitAt", "([BI)I"⟩
abbrev b_Ed_writeSum : ByteArray := prog_3_method_10_code
def y_Ed_writeSum : MethodName := ⟨R_Ed, "writeSum", "([B)V"⟩
abbrev b_Ed_writeFoundX : ByteArray := prog_3_method_11_code
def y_Ed_writeFoundX : MethodName := ⟨R_Ed, "writeFoundX", "([B)V"⟩
abbrev b_Ed_find : ByteArray := prog_3_method_12_code
def y_Ed_find : MethodName := ⟨R_Ed, "find", "([B)Z"⟩
abbrev b_Ed_isBelowPrime : ByteArray := prog_3_method_13_code
def y_Ed_isBelowPrime : MethodName := ⟨R_Ed, "isBelowPrime", "([B)Z"⟩
abbrev b_Ed_setRatio : ByteArray := prog_3_method_14_code
def y_Ed_setRatio : MethodName := ⟨R_Ed, "setRatio", "()V"⟩
abbrev b_Ed_mendRoot : ByteArray := prog_3_method_15_code
def y_Ed_mendRoot : MethodName := ⟨R_Ed, "mendRoot", "()Z"⟩
abbrev b_Ed_takeSign : ByteArray := prog_3_method_16_code
def y_Ed_takeSign : MethodName := ⟨R_Ed, "takeSign", "(I)Z"⟩
abbrev b_Ed_isMultipleOfPrime : ByteArray := prog_3_method_17_code
def y_Ed_isMultipleOfPrime : MethodName := ⟨R_Ed, "isMultipleOfPrime", "([J)Z"⟩
abbrev b_Ha_init : ByteArray := prog_5_method_1_code
def y_Ha_init : MethodName := ⟨R_Ha, "<init>", "()V"⟩
abbrev b_Ha_begin : ByteArray := prog_5_method_2_code
def y_Ha_begin : MethodName := ⟨R_Ha, "begin", "()V"⟩
abbrev b_Ha_take : ByteArray := prog_5_method_3_code
def y_Ha_take : MethodName := ⟨R_Ha, "take", "([BI)V"⟩
abbrev b_Ha_finish : ByteArray := prog_5_method_4_code
def y_Ha_finish : MethodName := ⟨R_Ha, "finish", "([B)V"⟩
abbrev b_Ha_putWord : ByteArray := prog_5_method_5_code
def y_Ha_putWord : MethodName := ⟨R_Ha, "putWord", "([BIJ)V"⟩
abbrev b_Ha_spreadWords : ByteArray := prog_5_method_6_code
def y_Ha_spreadWords : MethodName := ⟨R_Ha, "spreadWords", "()V"⟩
abbrev b_Ha_mix : ByteArray := prog_5_method_7_code
def y_Ha_mix : MethodName := ⟨R_Ha, "mix", "()V"⟩
abbrev b_Or_init : ByteArray := prog_8_method_1_code
def y_Or_init : MethodName := ⟨R_Or, "<init>", "()V"⟩
abbrev b_Or_isBelow : ByteArray := prog_8_method_2_code
def y_Or_isBelow : MethodName := ⟨R_Or, "isBelow", "([B)Z"⟩
abbrev b_Or_reduce : ByteArray := prog_8_method_3_code
def y_Or_reduce : MethodName := ⟨R_Or, "reduce", "([B[B)V"⟩
abbrev b_Or_reduceForAnyPoint : ByteArray := prog_8_method_4_code
def y_Or_reduceForAnyPoint : MethodName := ⟨R_Or, "reduceForAnyPoint", "([B[B)V"⟩
abbrev b_Or_multiplyAndAdd : ByteArray := prog_8_method_5_code
def y_Or_multiplyAndAdd : MethodName := ⟨R_Or, "multiplyAndAdd", "([B[B[B[B)V"⟩
abbrev b_Or_reduceWide : ByteArray := prog_8_method_6_code
def y_Or_reduceWide : MethodName := ⟨R_Or, "reduceWide", "([B)V"⟩
abbrev b_Or_foldPlace : ByteArray := prog_8_method_7_code
def y_Or_foldPlace : MethodName := ⟨R_Or, "foldPlace", "(I)V"⟩
abbrev b_Or_subtractMultiple : ByteArray := prog_8_method_8_code
def y_Or_subtractMultiple : MethodName := ⟨R_Or, "subtractMultiple", "(J)V"⟩
abbrev b_Ro_init : ByteArray := prog_10_method_1_code
def y_Ro_init : MethodName := ⟨R_Ro, "<init>", "()V"⟩
abbrev b_Ro_hasRoomFor : ByteArray := prog_10_method_2_code
def y_Ro_hasRoomFor : MethodName := ⟨R_Ro, "hasRoomFor", "(I)Z"⟩
abbrev b_Ro_appendNumber : ByteArray := prog_10_method_3_code
def y_Ro_appendNumber : MethodName := ⟨R_Ro, "appendNumber", "(I)V"⟩
abbrev b_Ro_append : ByteArray := prog_10_method_4_code
def y_Ro_append : MethodName := ⟨R_Ro, "append", "([BI)V"⟩
abbrev b_Ro_growBy : ByteArray := prog_10_method_5_code
def y_Ro_growBy : MethodName := ⟨R_Ro, "growBy", "(I)V"⟩
abbrev b_Ke_init : ByteArray := prog_6_method_1_code
def y_Ke_init : MethodName := ⟨R_Ke, "<init>", "()V"⟩
abbrev b_Si_init : ByteArray := prog_11_method_1_code
def y_Si_init : MethodName := ⟨R_Si, "<init>", "(LCurveKeys$Edwards;)V"⟩
abbrev b_Si_makeReady : ByteArray := prog_11_method_2_code
def y_Si_makeReady : MethodName := ⟨R_Si, "makeReady", "(LCurveKeys$Key;)V"⟩
abbrev b_Si_writeSignature : ByteArray := prog_11_method_3_code
def y_Si_writeSignature : MethodName := ⟨R_Si, "writeSignature", "([BLCurveKeys$Key;LCurveKeys$Row;)V"⟩
abbrev b_Si_hashChallenge : ByteArray := prog_11_method_4_code
def y_Si_hashChallenge : MethodName := ⟨R_Si, "hashChallenge", "([BLCurveKeys$Row;)V"⟩
abbrev b_Si_judge : ByteArray := prog_11_method_5_code
def y_Si_judge : MethodName := ⟨R_Si, "judge", "([BLCurveKeys$Row;)I"⟩
end
section
/-! THE KIT OF SHAPES (sx_): which cells are arrays, of which type and length; what a method of arrays leaves as it is. No value is spoken of. -/
/-- the classes that are arrays of a type, by number -/
def sx_G (U : State) (g : ClassId → FieldType → Prop) : Prop := ∀ (c : ClassId) (t : FieldType), g c t ↔ ∃ k : Class, U.vm.classes[c]? = some k ∧ ∃ comp, k.kind = .array comp t
theorem sx_G.moved {u U : State} {g : ClassId → FieldType → Prop} (hvm : u.vm.Alike U.vm) (h : sx_G u g) : sx_G U g := by
  intro c t
  rw [h c t]
  constructor
  · rintro ⟨k, h1, comp, h2⟩
    obtain ⟨k', hk', he⟩ := hvm.2.2 _ _ h1
    exact ⟨k', hk', comp, by rw [he]; exact h2⟩
  · rintro ⟨k, h1, comp, h2⟩
    obtain ⟨k', hk', he⟩ := hvm.symm.2.2 _ _ h1
    exact ⟨k', hk', comp, by rw [he]; exact h2⟩
theorem sx_G.uniq {U : State} {g : ClassId → FieldType → Prop} (h : sx_G U g) {c : ClassId} {t t' : FieldType} (h1 : g c t) (h2 : g c t') : t = t' := by
  obtain ⟨k, a1, x, a2⟩ := (h c t).mp h1
  obtain ⟨k', b1, y, b2⟩ := (h c t').mp h2
  cases Option.some.inj (a1.symm.trans b1)
  have := a2.symm.trans b2
  injection this
theorem sx_G.arr {U : State} {g : ClassId → FieldType → Prop} (h : sx_G U g) {cell : Cell} {t : FieldType} (h1 : g cell.cls t) (h2 : ∀ k, cell.vm ≠ .statics k) : U.isArrayOf cell t := ⟨h2, (h cell.cls t).mp h1⟩
/-- what an element of an array of that type may be -/
def sx_V (t : FieldType) (v : Value) : Prop := match t with
  | .long => ∃ x : Int64, v = .long x
  | .byte => ∃ x : Int32, v = .int x ∧ fits .byte (.int x) = true
  | .int => ∃ x : Int32, v = .int x
  | _ => True
/-- a cell that is an array of type t, of length n at least -/
def sx_c (g : ClassId → FieldType → Prop) (t : FieldType) (n : Nat) (cell : Cell) : Prop := g cell.cls t ∧ (∀ k, cell.vm ≠ .statics k) ∧ cell.vm ≠ .unknown ∧ n ≤ cell.slots.size ∧ ∀ j : Nat, j < n → ∃ v : Value, cell.slots[j]? = some v ∧ sx_V t v
theorem sx_c.set {g : ClassId → FieldType → Prop} {t : FieldType} {n j : Nat} {cell : Cell} {v : Value} (h : sx_c g t n cell) (hv : sx_V t v) : sx_c g t n (cell.setSlot j v) := by
  obtain ⟨h2, h3, h4, h5, h6⟩ := h
  refine ⟨h2, h3, h4, by rw [k2_slotsz]; exact h5, fun k hk => ?_⟩
  have hk5 : k < cell.slots.size := Nat.lt_of_lt_of_le hk h5
  by_cases hkj : j = k
  · subst hkj
    refine ⟨v, ?_, hv⟩
    simp [Cell.setSlot, Array.getElem?_setIfInBounds, hk5]
  · obtain ⟨w, q1, q2⟩ := h6 k hk
    refine ⟨w, ?_, q2⟩
    simp [Cell.setSlot, Array.getElem?_setIfInBounds, hkj, q1]
theorem sx_c.pairs {g : ClassId → FieldType → Prop} {t : FieldType} {n a : Nat} : ∀ (vs : List (Value × Nat)) (cell : Cell), sx_c g t n cell → (∀ q ∈ vs, sx_V t q.1) → sx_c g t n (cell.storePairs a vs)
  | [], _, h, _ => h
  | q :: vs, x0, h, hv => sx_c.pairs vs (x0.setSlot (a + q.2) q.1) (h.set (hv q List.mem_cons_self)) (fun x hx => hv x (List.mem_cons_of_mem _ hx))
/-- an array of type t, of length n at least; sx_L: of just that length -/
def sx_A (g : ClassId → FieldType → Prop) (t : FieldType) (H : Heap) (a n : Nat) : Prop := ∃ cell : Cell, H[a]? = some cell ∧ sx_c g t n cell
def sx_L (H : Heap) (a n : Nat) : Prop := ∃ cell : Cell, H[a]? = some cell ∧ cell.slots.size = n
/-- since H0: what isn't in E is as it was; arrays are arrays of the same type and length -/
def sx_J (g : ClassId → FieldType → Prop) (E : Nat → Prop) (H0 H : Heap) : Prop := H0.size ≤ H.size ∧ (∀ q : Nat, q < H0.size → ¬ E q → H[q]? = H0[q]?) ∧ (∀ (t : FieldType) (a n : Nat), sx_A g t H0 a n → sx_A g t H a n) ∧ ∀ a n : Nat, sx_L H0 a n → sx_L H a n
theorem sx_J.rf {g : ClassId → FieldType → Prop} {E : Nat → Prop} {H : Heap} : sx_J g E H H := ⟨Nat.le_refl _, fun _ _ _ => rfl, fun _ _ _ h => h, fun _ _ h => h⟩
theorem sx_J.tr {g : ClassId → FieldType → Prop} {E : Nat → Prop} {H0 H1 H2 : Heap} (h1 : sx_J g E H0 H1) (h2 : sx_J g E H1 H2) : sx_J g E H0 H2 :=
  ⟨Nat.le_trans h1.1 h2.1, fun q a b => (h2.2.1 q (Nat.lt_of_lt_of_le a h1.1) b).trans (h1.2.1 q a b), fun t a n h => h2.2.2.1 t a n (h1.2.2.1 t a n h), fun a n h => h2.2.2.2 a n (h1.2.2.2 a n h)⟩
theorem sx_J.mono {g : ClassId → FieldType → Prop} {E E' : Nat → Prop} {H0 H1 : Heap} (h : sx_J g E H0 H1) (hE : ∀ q, E q → E' q) : sx_J g E' H0 H1 := ⟨h.1, fun q a b => h.2.1 q a (fun z => b (hE q z)), h.2.2⟩
/-- an array of longs, bytes or ints is written -/
theorem sx_J.cell {U : State} {g : ClassId → FieldType → Prop} {E : Nat → Prop} {a : Nat} {t : FieldType} {H H1 : Heap} {cell cell' : Cell} (hG : sx_G U g) (hc : H[a]? = some cell) (hg : g cell.cls t) (hsz : cell'.slots.size = cell.slots.size) (hk : ∀ n, sx_c g t n cell → sx_c g t n cell') (hlo : E a) (e : H1[a]? = some cell') (z : H1.size = H.size) (oq : ∀ q : Nat, q ≠ a → H1[q]? = H[q]?) : sx_J g E H H1 := by
  refine ⟨Nat.le_of_eq z.symm, fun q _ h => oq q (fun x => h (x ▸ hlo)), fun t' b n hb => ?_, fun b n hb => ?_⟩
  · obtain ⟨c0, h1, h2⟩ := hb
    by_cases hba : b = a
    · subst hba
      cases Option.some.inj (hc.symm.trans h1)
      cases hG.uniq hg h2.1
      exact ⟨_, e, hk n h2⟩
    · exact ⟨c0, (oq b hba).trans h1, h2⟩
  · obtain ⟨c0, h1, h2⟩ := hb
    by_cases hba : b = a
    · subst hba
      cases Option.some.inj (hc.symm.trans h1)
      exact ⟨_, e, hsz.trans h2⟩
    · exact ⟨c0, (oq b hba).trans h1, h2⟩
theorem sx_J.put {U : State} {g : ClassId → FieldType → Prop} {E : Nat → Prop} {a j : Nat} {t : FieldType} {H H1 : Heap} {cell : Cell} {v : Value} (hG : sx_G U g) (hc : H[a]? = some cell) (hg : g cell.cls t) (hv : sx_V t v) (hlo : E a) (e : H1[a]? = some (cell.setSlot j v)) (z : H1.size = H.size) (oq : ∀ q : Nat, q ≠ a → H1[q]? = H[q]?) : sx_J g E H H1 :=
  sx_J.cell hG hc hg (k2_slotsz _ _ _) (fun _ h => h.set hv) hlo e z oq
/-- cells are made; what was there stays -/
theorem sx_J.grow {g : ClassId → FieldType → Prop} {E : Nat → Prop} {H H1 : Heap} (z : H.size ≤ H1.size) (oq : ∀ q : Nat, q < H.size → H1[q]? = H[q]?) : sx_J g E H H1 := by
  have key : ∀ (q : Nat) (cell : Cell), H[q]? = some cell → H1[q]? = some cell := fun q cell h => (oq q (Array.getElem?_eq_some_iff.mp h).1).trans h
  exact ⟨z, fun q h _ => oq q h, fun t a n ⟨c0, h1, h2⟩ => ⟨c0, key a c0 h1, h2⟩, fun a n ⟨c0, h1, h2⟩ => ⟨c0, key a c0 h1, h2⟩⟩
/-- the walk so far -/
def sx_S (g : ClassId → FieldType → Prop) (E : Nat → Prop) (H0 H : Heap) (locs : List Loc) : Prop := sx_J g E H0 H ∧ ∀ q ∈ locs, E q.base
theorem sx_S.rf {g : ClassId → FieldType → Prop} {E : Nat → Prop} {H : Heap} : sx_S g E H H [] := ⟨sx_J.rf, fun _ h => by cases h⟩
theorem sx_S.a {g : ClassId → FieldType → Prop} {E : Nat → Prop} {H0 H : Heap} {locs : List Loc} (h : sx_S g E H0 H locs) {t : FieldType} {a n : Nat} (ha : sx_A g t H0 a n) : sx_A g t H a n := h.1.2.2.1 t a n ha
theorem sx_in {i n : Nat} (h : i < n) (hn : n < 2 ^ 31) : vp_in (nI i) n := vp_in_nI h hn
section SX
variable {p : Program} {l : Launch} {e : Env} {R : Room} {s : State} {m : MethodId} {args : Array Value} {below : List Frame} {meth : Method} {c : Code} {H H0 : Heap} {locs : List Loc} {cells slots : Nat} {Q : State → Prop}
variable {cc : ByteArray} {pc : Nat} {ls : Array Slot} {rest : List Value} {g : ClassId → FieldType → Prop} {E : Nat → Prop}
theorem sx_ti {x y : Int32} (h : x = y) (k : W p l e R s m args below meth c H locs cells slots Q (F0 m pc ls (.int y :: rest))) : W p l e R s m args below meth c H locs cells slots Q (F0 m pc ls (.int x :: rest)) := h ▸ k
theorem sx_lald {a n : Nat} {i : Int32} (hx : p.tables.exec = Jvm.exec) (hb : c.code = cc) (hG : sx_G s g) (hS : sx_S g E H0 H locs) (ha : sx_A g .long H0 a n) (hin : vp_in i n) (hdg : decode cc pc = .ok (.laload, 1))
    (k : ∀ x : Int64, W p l e R s m args below meth c H locs cells slots Q (F0 m (pc + 1) ls (.long x :: rest))) : W p l e R s m args below meth c H locs cells slots Q (F0 m pc ls (.int i :: .ref a :: rest)) := by
  obtain ⟨cell, h1, h2, h3, h4, h5, h6⟩ := hS.a ha
  obtain ⟨v, q1, x, rfl⟩ := h6 i.toNatClampNeg (Nat.not_le.mp fun q => hin (Or.inr q))
  exact W.lald hx hb h1 (hG.arr h2 h3) h4 (fun z => hin (z.imp id (fun q => Nat.le_trans h5 q))) q1 rfl rfl hdg (k x)
theorem sx_iald {a n : Nat} {i : Int32} (hx : p.tables.exec = Jvm.exec) (hb : c.code = cc) (hG : sx_G s g) (hS : sx_S g E H0 H locs) (ha : sx_A g .int H0 a n) (hin : vp_in i n) (hdg : decode cc pc = .ok (.iaload, 1))
    (k : ∀ x : Int32, W p l e R s m args below meth c H locs cells slots Q (F0 m (pc + 1) ls (.int x :: rest))) : W p l e R s m args below meth c H locs cells slots Q (F0 m pc ls (.int i :: .ref a :: rest)) := by
  obtain ⟨cell, h1, h2, h3, h4, h5, h6⟩ := hS.a ha
  obtain ⟨v, q1, x, rfl⟩ := h6 i.toNatClampNeg (Nat.not_le.mp fun q => hin (Or.inr q))
  exact W.iald hx hb h1 (hG.arr h2 h3) h4 (fun z => hin (z.imp id (fun q => Nat.le_trans h5 q))) q1 rfl rfl hdg (k x)
theorem sx_bald {a n : Nat} {i : Int32} (hx : p.tables.exec = Jvm.exec) (hb : c.code = cc) (hG : sx_G s g) (hS : sx_S g E H0 H locs) (ha : sx_A g .byte H0 a n) (hin : vp_in i n) (hdg : decode cc pc = .ok (.baload, 1))
    (k : ∀ x : Int32, W p l e R s m args below meth c H locs cells slots Q (F0 m (pc + 1) ls (.int x :: rest))) : W p l e R s m args below meth c H locs cells slots Q (F0 m pc ls (.int i :: .ref a :: rest)) := by
  obtain ⟨cell, h1, h2, h3, h4, h5, h6⟩ := hS.a ha
  obtain ⟨v, q1, x, rfl, -⟩ := h6 i.toNatClampNeg (Nat.not_le.mp fun q => hin (Or.inr q))
  exact W.bald hx hb h1 (hG.arr h2 h3) h4 (fun z => hin (z.imp id (fun q => Nat.le_trans h5 q))) q1 rfl rfl hdg (k x)
theorem sx_last {a n : Nat} {i : Int32} {x : Int64} (hx : p.tables.exec = Jvm.exec) (hb : c.code = cc) (hG : sx_G s g) (hS : sx_S g E H0 H locs) (ha : sx_A g .long H0 a n) (hlo : E a) (hin : vp_in i n) (hdg : decode cc pc = .ok (.lastore, 1))
    (k : ∀ (H1 : Heap) (locs1 : List Loc), sx_S g E H0 H1 locs1 → W p l e R s m args below meth c H1 locs1 cells slots Q (F0 m (pc + 1) ls rest)) : W p l e R s m args below meth c H locs cells slots Q (F0 m pc ls (.long x :: .int i :: .ref a :: rest)) := by
  obtain ⟨cell, h1, h2, h3, h4, h5, h6⟩ := hS.a ha
  refine W.last hx hb h1 (hG.arr h2 h3) h4 (fun z => hin (z.imp id (fun q => Nat.le_trans h5 q))) rfl rfl hdg fun H1 e z oq => ?_
  exact k H1 _ ⟨hS.1.tr (sx_J.put hG h1 h2 ⟨x, rfl⟩ hlo e z oq), fun q hq => by
    rcases List.mem_append.mp hq with h | h
    · exact hS.2 q h
    · rw [List.mem_singleton.mp h]; exact hlo⟩
theorem sx_iast {a n : Nat} {i : Int32} {x : Int32} (hx : p.tables.exec = Jvm.exec) (hb : c.code = cc) (hG : sx_G s g) (hS : sx_S g E H0 H locs) (ha : sx_A g .int H0 a n) (hlo : E a) (hin : vp_in i n) (hdg : decode cc pc = .ok (.iastore, 1))
    (k : ∀ (H1 : Heap) (locs1 : List Loc), sx_S g E H0 H1 locs1 → W p l e R s m args below meth c H1 locs1 cells slots Q (F0 m (pc + 1) ls rest)) : W p l e R s m args below meth c H locs cells slots Q (F0 m pc ls (.int x :: .int i :: .ref a :: rest)) := by
  obtain ⟨cell, h1, h2, h3, h4, h5, h6⟩ := hS.a ha
  refine W.iast hx hb h1 (hG.arr h2 h3) h4 (fun z => hin (z.imp id (fun q => Nat.le_trans h5 q))) rfl rfl hdg fun H1 e z oq => ?_
  exact k H1 _ ⟨hS.1.tr (sx_J.put hG h1 h2 ⟨x, rfl⟩ hlo e z oq), fun q hq => by
    rcases List.mem_append.mp hq with h | h
    · exact hS.2 q h
    · rw [List.mem_singleton.mp h]; exact hlo⟩
theorem sx_bast {a n : Nat} {i : Int32} {x : Int32} (hx : p.tables.exec = Jvm.exec) (hb : c.code = cc) (hG : sx_G s g) (hS : sx_S g E H0 H locs) (ha : sx_A g .byte H0 a n) (hlo : E a) (hin : vp_in i n) (hdg : decode cc pc = .ok (.bastore, 1))
    (k : ∀ (H1 : Heap) (locs1 : List Loc), sx_S g E H0 H1 locs1 → W p l e R s m args below meth c H1 locs1 cells slots Q (F0 m (pc + 1) ls rest)) : W p l e R s m args below meth c H locs cells slots Q (F0 m pc ls (.int x :: .int i :: .ref a :: rest)) := by
  obtain ⟨cell, h1, h2, h3, h4, h5, h6⟩ := hS.a ha
  refine W.bast hx hb h1 (hG.arr h2 h3) h4 (fun z => hin (z.imp id (fun q => Nat.le_trans h5 q))) rfl rfl hdg fun H1 e z oq => ?_
  exact k H1 _ ⟨hS.1.tr (sx_J.put hG h1 h2 ⟨x.toInt8.toInt32, rfl, pk_fb x⟩ hlo e z oq), fun q hq => by
    rcases List.mem_append.mp hq with h | h
    · exact hS.2 q h
    · rw [List.mem_singleton.mp h]; exact hlo⟩
theorem sx_ladd {x y : Int64} (hx : p.tables.exec = Jvm.exec) (hb : c.code = cc) (hdg : decode cc pc = .ok (.ladd, 1)) (k : ∀ z : Int64, W p l e R s m args below meth c H locs cells slots Q (F0 m (pc + 1) ls (.long z :: rest))) : W p l e R s m args below meth c H locs cells slots Q (F0 m pc ls (.long y :: .long x :: rest)) := lv_ladd hx hb hdg (k _)
theorem sx_lsub {x y : Int64} (hx : p.tables.exec = Jvm.exec) (hb : c.code = cc) (hdg : decode cc pc = .ok (.lsub, 1)) (k : ∀ z : Int64, W p l e R s m args below meth c H locs cells slots Q (F0 m (pc + 1) ls (.long z :: rest))) : W p l e R s m args below meth c H locs cells slots Q (F0 m pc ls (.long y :: .long x :: rest)) := lv_lsub hx hb hdg (k _)
theorem sx_lmul {x y : Int64} (hx : p.tables.exec = Jvm.exec) (hb : c.code = cc) (hdg : decode cc pc = .ok (.lmul, 1)) (k : ∀ z : Int64, W p l e R s m args below meth c H locs cells slots Q (F0 m (pc + 1) ls (.long z :: rest))) : W p l e R s m args below meth c H locs cells slots Q (F0 m pc ls (.long y :: .long x :: rest)) := lv_lmul hx hb hdg (k _)
theorem sx_land {x y : Int64} (hx : p.tables.exec = Jvm.exec) (hb : c.code = cc) (hdg : decode cc pc = .ok (.land, 1)) (k : ∀ z : Int64, W p l e R s m args below meth c H locs cells slots Q (F0 m (pc + 1) ls (.long z :: rest))) : W p l e R s m args below meth c H locs cells slots Q (F0 m pc ls (.long y :: .long x :: rest)) := lv_land hx hb hdg (k _)
theorem sx_lor {x y : Int64} (hx : p.tables.exec = Jvm.exec) (hb : c.code = cc) (hdg : decode cc pc = .ok (.lor, 1)) (k : ∀ z : Int64, W p l e R s m args below meth c H locs cells slots Q (F0 m (pc + 1) ls (.long z :: rest))) : W p l e R s m args below meth c H locs cells slots Q (F0 m pc ls (.long y :: .long x :: rest)) := lv_lor hx hb hdg (k _)
theorem sx_lxor {x y : Int64} (hx : p.tables.exec = Jvm.exec) (hb : c.code = cc) (hdg : decode cc pc = .ok (.lxor, 1)) (k : ∀ z : Int64, W p l e R s m args below meth c H locs cells slots Q (F0 m (pc + 1) ls (.long z :: rest))) : W p l e R s m args below meth c H locs cells slots Q (F0 m pc ls (.long y :: .long x :: rest)) := lv_lxor hx hb hdg (k _)
theorem sx_lshl {x : Int64} {y : Int32} (hx : p.tables.exec = Jvm.exec) (hb : c.code = cc) (hdg : decode cc pc = .ok (.lshl, 1)) (k : ∀ z : Int64, W p l e R s m args below meth c H locs cells slots Q (F0 m (pc + 1) ls (.long z :: rest))) : W p l e R s m args below meth c H locs cells slots Q (F0 m pc ls (.int y :: .long x :: rest)) := lv_lshl hx hb hdg rfl (k _)
theorem sx_lshr {x : Int64} {y : Int32} (hx : p.tables.exec = Jvm.exec) (hb : c.code = cc) (hdg : decode cc pc = .ok (.lshr, 1)) (k : ∀ z : Int64, W p l e R s m args below meth c H locs cells slots Q (F0 m (pc + 1) ls (.long z :: rest))) : W p l e R s m args below meth c H locs cells slots Q (F0 m pc ls (.int y :: .long x :: rest)) := lv_lshr hx hb hdg rfl (k _)
theorem sx_lushr {x : Int64} {y : Int32} (hx : p.tables.exec = Jvm.exec) (hb : c.code = cc) (hdg : decode cc pc = .ok (.lushr, 1)) (k : ∀ z : Int64, W p l e R s m args below meth c H locs cells slots Q (F0 m (pc + 1) ls (.long z :: rest))) : W p l e R s m args below meth c H locs cells slots Q (F0 m pc ls (.int y :: .long x :: rest)) := lv_lushr hx hb hdg rfl (k _)
theorem sx_iadd {x y : Int32} (hx : p.tables.exec = Jvm.exec) (hb : c.code = cc) (hdg : decode cc pc = .ok (.iadd, 1)) (k : ∀ z : Int32, W p l e R s m args below meth c H locs cells slots Q (F0 m (pc + 1) ls (.int z :: rest))) : W p l e R s m args below meth c H locs cells slots Q (F0 m pc ls (.int y :: .int x :: rest)) := lv_iadd hx hb hdg (k _)
theorem sx_isub {x y : Int32} (hx : p.tables.exec = Jvm.exec) (hb : c.code = cc) (hdg : decode cc pc = .ok (.isub, 1)) (k : ∀ z : Int32, W p l e R s m args below meth c H locs cells slots Q (F0 m (pc + 1) ls (.int z :: rest))) : W p l e R s m args below meth c H locs cells slots Q (F0 m pc ls (.int y :: .int x :: rest)) := lv_isub hx hb hdg (k _)
theorem sx_imul {x y : Int32} (hx : p.tables.exec = Jvm.exec) (hb : c.code = cc) (hdg : decode cc pc = .ok (.imul, 1)) (k : ∀ z : Int32, W p l e R s m args below meth c H locs cells slots Q (F0 m (pc + 1) ls (.int z :: rest))) : W p l e R s m args below meth c H locs cells slots Q (F0 m pc ls (.int y :: .int x :: rest)) := lv_imul hx hb hdg (k _)
theorem sx_iand {x y : Int32} (hx : p.tables.exec = Jvm.exec) (hb : c.code = cc) (hdg : decode cc pc = .ok (.iand, 1)) (k : ∀ z : Int32, W p l e R s m args below meth c H locs cells slots Q (F0 m (pc + 1) ls (.int z :: rest))) : W p l e R s m args below meth c H locs cells slots Q (F0 m pc ls (.int y :: .int x :: rest)) := lv_iand hx hb hdg (k _)
theorem sx_ior {x y : Int32} (hx : p.tables.exec = Jvm.exec) (hb : c.code = cc) (hdg : decode cc pc = .ok (.ior, 1)) (k : ∀ z : Int32, W p l e R s m args below meth c H locs cells slots Q (F0 m (pc + 1) ls (.int z :: rest))) : W p l e R s m args below meth c H locs cells slots Q (F0 m pc ls (.int y :: .int x :: rest)) := lv_ior hx hb hdg (k _)
theorem sx_ixor {x y : Int32} (hx : p.tables.exec = Jvm.exec) (hb : c.code = cc) (hdg : decode cc pc = .ok (.ixor, 1)) (k : ∀ z : Int32, W p l e R s m args below meth c H locs cells slots Q (F0 m (pc + 1) ls (.int z :: rest))) : W p l e R s m args below meth c H locs cells slots Q (F0 m pc ls (.int y :: .int x :: rest)) := lv_ixor hx hb hdg (k _)
theorem sx_ishl {x y : Int32} (hx : p.tables.exec = Jvm.exec) (hb : c.code = cc) (hdg : decode cc pc = .ok (.ishl, 1)) (k : ∀ z : Int32, W p l e R s m args below meth c H locs cells slots Q (F0 m (pc + 1) ls (.int z :: rest))) : W p l e R s m args below meth c H locs cells slots Q (F0 m pc ls (.int y :: .int x :: rest)) := lv_ishl hx hb hdg (k _)
theorem sx_ishr {x y : Int32} (hx : p.tables.exec = Jvm.exec) (hb : c.code = cc) (hdg : decode cc pc = .ok (.ishr, 1)) (k : ∀ z : Int32, W p l e R s m args below meth c H locs cells slots Q (F0 m (pc + 1) ls (.int z :: rest))) : W p l e R s m args below meth c H locs cells slots Q (F0 m pc ls (.int y :: .int x :: rest)) := lv_ishr hx hb hdg (k _)
theorem sx_i2l {x : Int32} (hx : p.tables.exec = Jvm.exec) (hb : c.code = cc) (hdg : decode cc pc = .ok (.i2l, 1)) (k : ∀ z : Int64, W p l e R s m args below meth c H locs cells slots Q (F0 m (pc + 1) ls (.long z :: rest))) : W p l e R s m args below meth c H locs cells slots Q (F0 m pc ls (.int x :: rest)) := lv_i2l hx hb hdg rfl (k _)
theorem sx_l2i {x : Int64} (hx : p.tables.exec = Jvm.exec) (hb : c.code = cc) (hdg : decode cc pc = .ok (.l2i, 1)) (k : ∀ z : Int32, W p l e R s m args below meth c H locs cells slots Q (F0 m (pc + 1) ls (.int z :: rest))) : W p l e R s m args below meth c H locs cells slots Q (F0 m pc ls (.long x :: rest)) := lv_l2i hx hb hdg rfl (k _)
theorem sx_i2b {x : Int32} (hx : p.tables.exec = Jvm.exec) (hb : c.code = cc) (hdg : decode cc pc = .ok (.i2b, 1)) (k : ∀ z : Int32, W p l e R s m args below meth c H locs cells slots Q (F0 m (pc + 1) ls (.int z :: rest))) : W p l e R s m args below meth c H locs cells slots Q (F0 m pc ls (.int x :: rest)) := lv_i2b hx hb hdg rfl (k _)
theorem sx_lcmp {x y : Int64} (hx : p.tables.exec = Jvm.exec) (hb : c.code = cc) (hdg : decode cc pc = .ok (.lcmp, 1)) (k : ∀ z : Int32, W p l e R s m args below meth c H locs cells slots Q (F0 m (pc + 1) ls (.int z :: rest))) : W p l e R s m args below meth c H locs cells slots Q (F0 m pc ls (.long y :: .long x :: rest)) := W.lcmp hx hb hdg (k _)
theorem sx_lneg {x : Int64} (hx : p.tables.exec = Jvm.exec) (hb : c.code = cc) (hdg : decode cc pc = .ok (.lneg, 1)) (k : ∀ z : Int64, W p l e R s m args below meth c H locs cells slots Q (F0 m (pc + 1) ls (.long z :: rest))) : W p l e R s m args below meth c H locs cells slots Q (F0 m pc ls (.long x :: rest)) := lv_lneg hx hb hdg (k _)
/-- System.arraycopy of k longs, from the beginning of one to the beginning of the other -/
theorem sx_cpy {a0 a k : Nat} {own : String} {index : Nat} (hx : p.tables.exec = Jvm.exec) (hb : c.code = cc) (hml : c.maxLocals = ls.size) (hown : s.vm.findClass own = some m.cls) (hlink : (Cond.methodLink own index arraycopyName).before args s = true) (hnat : (Cond.native arraycopyName).before args s = true) (hstat : (Cond.static arraycopyName).before args s = true) (hini : (Cond.initialized "java/lang/System").before args s = true)
    (hG : sx_G s g) (hS : sx_S g E H0 H locs) (h0 : sx_A g .long H0 a0 k) (h1 : sx_A g .long H0 a k) (hlo : E a) (hk : k < 2 ^ 31) (hframes : 1 ≤ R.frames) (hlocals : (rest.map fun v => v.category).sum + (nativeFrameWords "java/lang/System" "arraycopy" 5 + 11) ≤ R.locals) (hdg : decode cc pc = .ok (.invokestatic index, 3))
    (kk : ∀ (H1 : Heap) (locs1 : List Loc), sx_S g E H0 H1 locs1 → W p l e R s m args below meth c H1 locs1 cells slots Q (F0 m (pc + 3) ls rest)) : W p l e R s m args below meth c H locs cells slots Q (F0 m pc ls (.int (nI k) :: .int (nI 0) :: .ref a :: .int (nI 0) :: .ref a0 :: rest)) := by
  intro T hT X
  obtain ⟨c0, q1, q2, q3, q4, q5, q6⟩ := hS.a h0
  obtain ⟨c1, w1, w2, w3, w4, w5, w6⟩ := hS.a h1
  obtain ⟨k0, hk0, cm0, hkk0⟩ := (hG _ _).mp q2
  obtain ⟨k1, hk1, cm1, hkk1⟩ := (hG _ _).mp w2
  have z0 : (nI 0).toNatClampNeg = 0 := nI_clamp (by decide)
  have zk : (nI k).toNatClampNeg = k := nI_clamp hk
  have i0 : (nI 0).toInt = 0 := nI_toInt (by decide)
  have ik : (nI k).toInt = (k : Int) := nI_toInt hk
  have hval : ∀ i, i < k → ∃ x : Int64, c0.slots.getD i .null = .long x := fun i hi => by
    obtain ⟨v, v1, x, rfl⟩ := q6 i hi
    exact ⟨x, by rw [Array.getD_eq_getD_getElem?, v1]; rfl⟩
  obtain ⟨vm', X', step⟩ := X.arraycopy hx hown hlink hnat hstat hini (src := a0) (dst := a) (cs := c0) (cd := c1) (srcPos := nI 0) (destPos := nI 0) (n := nI k) (by rw [hT]; exact q1) (by rw [hT]; exact w1) q3 w3 q4 w4 hk0 hk1 hkk0 hkk1 (by decide) (nI_pos (by decide)) (nI_pos (by decide)) (nI_pos hk)
    (by rw [i0, ik]; omega) (by rw [i0, ik]; omega)
    (fun vm₁ _ i hi => by
      rw [zk] at hi
      rw [z0, Nat.zero_add]
      obtain ⟨x, hx⟩ := hval i hi
      rw [hx]
      exact ⟨rfl, trivial⟩)
    (g := F0 m pc ls (.int (nI k) :: .int (nI 0) :: .ref a :: .int (nI 0) :: .ref a0 :: rest)) rfl (by rw [hml]) (rest := rest) rfl (by rw [hb]; exact hdg) hframes (by show 2 * 0 + _ + _ ≤ _; omega)
  have hl : a < H.size := (Array.getElem?_eq_some_iff.mp w1).1
  have hheap : ((T.setVm vm').setCell a (copied c0 c1 (nI 0) (nI 0) (nI k))).heap = H.setIfInBounds a (copied c0 c1 (nI 0) (nI 0) (nI k)) := by rw [← hT]; rfl
  have hval2 : ∀ q ∈ (c0.stretch (nI 0).toNatClampNeg (nI k).toNatClampNeg).zipIdx, sx_V .long q.1 := fun q hq => by
    have h1 : q.1 ∈ c0.stretch (nI 0).toNatClampNeg (nI k).toNatClampNeg := by
      have := List.mem_map_of_mem (f := Prod.fst) hq
      rwa [List.zipIdx_map_fst] at this
    unfold Cell.stretch at h1
    obtain ⟨i, hi, e1⟩ := List.mem_map.mp h1
    rw [z0, zk] at *
    obtain ⟨x, hx⟩ := hval i (List.mem_range.mp hi)
    rw [Nat.zero_add] at e1
    exact ⟨x, by rw [← e1]; exact hx⟩
  have hJ : sx_J g E H (H.setIfInBounds a (copied c0 c1 (nI 0) (nI 0) (nI k))) := sx_J.cell (cell' := copied c0 c1 (nI 0) (nI 0) (nI k)) hG w1 w2 (Cell.storePairs_facts _ _ _).2.2.1 (fun n hn => sx_c.pairs _ _ hn hval2) hlo (by simp [Array.getElem?_setIfInBounds, hl]) (by simp) (fun q hq => by simp [Array.getElem?_setIfInBounds, Ne.symm hq])
  obtain ⟨t, a1, b1⟩ := kk _ _ ⟨hS.1.tr hJ, fun q hq => by
      rcases List.mem_append.mp hq with h | h
      · exact hS.2 q h
      · obtain ⟨z, -, hz⟩ := List.mem_map.mp h
        rw [← hz]
        exact hlo⟩ _ hheap X'
  exact ⟨t, step t a1, b1⟩
end SX
end
section
/-! the nest mates' words -/
def sx_nw (w : Cond) : Bool := match w with
  | .fieldLinkNest .. => true
  | .methodLinkNest .. => true
  | _ => false
def nx_K (U : State) : Prop := ∀ w ∈ lw_tbl, sx_nw w = true → va_Nw w U
theorem nx_K.moved {u U : State} (hW : u.WarmedH U.vm) (h : nx_K u) : nx_K U := by
  intro w hw hn
  have h0 := h w hw hn
  cases w <;> first | exact va_Nw.warmF hW h0 | exact va_Nw.warmM hW h0 | (simp [sx_nw] at hn; done)
theorem nx_K.same {u U : State} (hv : u.vm = U.vm) (h : nx_K u) : nx_K U := by
  intro w hw hn
  have h0 := h w hw hn
  refine va_Nw.same ?_ hv h0
  cases w <;> first | rfl | (simp [sx_nw] at hn; done)
/-! words: the tables' words that a callee may take over, as one list for all methods -/
def sx_okw (w : Cond) : Bool := (w.onTables && w.keeps) || (match w with | .arrayClass _ => true | _ => false)
def G_ : List Cond := lw_tbl.filter sx_okw
theorem G_in {w : Cond} (h : w ∈ lw_tbl ∧ sx_okw w = true) : w ∈ G_ := List.mem_filter.mpr h
theorem G_ok {w : Cond} (h : w ∈ G_) : (w.onTables && w.keeps) = true ∨ ∃ ty, w = .arrayClass ty := by
  have h2 := (List.mem_filter.mp h).2
  rcases Bool.or_eq_true _ _ ▸ h2 with h3 | h3
  · exact Or.inl h3
  · right
    split at h3
    · exact ⟨_, rfl⟩
    · cases h3
theorem G_good {bs : List Cond} (h : ∀ w ∈ bs, w ∈ G_) : GoodIn G_ bs := fun w hw => ⟨h w hw, G_ok (h w hw)⟩
/-- a call's words: all are in the tables -/
def sx_w (ws : List Cond) (y : MethodName) (n : Nat) : Prop := (∀ w ∈ ws, w ∈ lw_tbl ∧ sx_okw w = true) ∧ (y.cls ≠ "java/lang/invoke/MethodHandle" ∧ y.cls ≠ "java/lang/invoke/VarHandle" ∧ (parseMethodDescriptor y.desc).map (fun d => d.parameters.length) = some n)
/-- what a state says to every method: which classes are arrays; our classes -/
def sx_U (D : va_G) (g : ClassId → FieldType → Prop) (U : State) : Prop := sx_G U g ∧ va_K D classes [] U ∧ nx_K U
theorem sx_U.moved {D : va_G} {g : ClassId → FieldType → Prop} {u U : State} (hW : u.WarmedH U.vm) (h : sx_U D g u) : sx_U D g U := ⟨h.1.moved hW.alike, va_K.moved hW.alike h.2.1, h.2.2.moved hW⟩
def sx_E (p : Program) (s : State) (m : MethodId) (args : Array Value) (c : Code) (cc : ByteArray) (nL : Nat) (own : String) (D : va_G) (g : ClassId → FieldType → Prop) : Prop :=
  p.tables.exec = Jvm.exec ∧ c.code = cc ∧ c.maxLocals = nL ∧ s.vm.findClass own = some m.cls ∧ (∀ w ∈ G_, w.before args s = true) ∧ sx_U D g s
abbrev sx_Pc (vs : List Value) (H : Heap) (D : va_G) (g : ClassId → FieldType → Prop) : Array Value → State → Prop := va_Pc vs (fun U => U.heap = H ∧ sx_U D g U)
theorem sx_blind {vs : List Value} {H : Heap} {D : va_G} {g : ClassId → FieldType → Prop} : FrameBlind (sx_Pc vs H D g) := fun _ U f mk q => by
  obtain ⟨q0, q1, q2, q3, q4⟩ := q
  exact ⟨q0, q1, q2.moved (u := U) (U := U.calling f mk _) (Vm.Alike.refl U.vm), va_K.moved (u := U) (U := U.calling f mk _) (Vm.Alike.refl U.vm) q3, nx_K.same (u := U) (U := U.calling f mk _) rfl q4⟩
def sx_Qv (g : ClassId → FieldType → Prop) (E : Nat → Prop) (H0 : Heap) : Array Value → State → Outcome → State → Prop := va_Qv (fun _ : Unit => True) (fun _ t => sx_J g E H0 t.heap) E
def sx_Qi (g : ClassId → FieldType → Prop) (E : Nat → Prop) (H0 : Heap) : Array Value → State → Outcome → State → Prop := va_Qi (fun _ (_ : Unit) => True) (fun _ t => sx_J g E H0 t.heap) E
def sx_Ql (g : ClassId → FieldType → Prop) (E : Nat → Prop) (H0 : Heap) : Array Value → State → Outcome → State → Prop := va_Ql (fun _ (_ : Unit) => True) (fun _ t => sx_J g E H0 t.heap) E
def sx_Qn (g : ClassId → FieldType → Prop) (E : Nat → Prop) (H0 : Heap) (post : Nat → Prop) : Array Value → State → Outcome → State → Prop := va_Qi (fun r (_ : Unit) => ∃ z : Nat, post z ∧ r = nI z) (fun _ t => sx_J g E H0 t.heap) E
abbrev sx_Qz (g : ClassId → FieldType → Prop) (E : Nat → Prop) (H0 : Heap) : Array Value → State → Outcome → State → Prop := sx_Qn g E H0 (fun z => z ≤ 1)
theorem sx_F {g : ClassId → FieldType → Prop} {E : Nat → Prop} {H0 : Heap} {s t : State} (h0 : s.heap = H0) (h : sx_J g E H0 t.heap) : va_F E s t := by
  subst h0
  exact ⟨h.1, h.2.1⟩
theorem sx_nz {z : Nat} (h : z ≤ 1) : narrow .boolean (.int (nI z)) = .int (nI z) := by
  rcases (show z = 0 ∨ z = 1 by omega) with rfl | rfl <;> rfl
theorem sx_inc (a b : Nat) : nI a + Int32.ofInt (b : Int) = nI (a + b) := by
  rw [← nI_add]; rfl
theorem sx_dn (a : Nat) : nI a + Int32.ofInt (-1) = nI a - 1 := by
  rw [show (Int32.ofInt (-1)) = -1 from by decide, Int32.sub_eq_add_neg]
theorem sx_dec {a : Nat} (h : 0 < a) : nI a + Int32.ofInt (-1) = nI (a - 1) := by
  rw [sx_dn]
  obtain ⟨b, rfl⟩ : ∃ b, a = b + 1 := ⟨a - 1, by omega⟩
  rw [nI_pred]; rfl
section SXM
variable {l : Launch} {D : va_G} {g : ClassId → FieldType → Prop} {E : Nat → Prop} {H0 : Heap} {y : MethodName} {cc : ByteArray} {maxL : Nat} {own : String} {vs : List Value} {rm : Room}
theorem sx_mv (hy : plainName y.cls = true) (ho : y.cls = own) (hc : rm.cells = 0) (hs : rm.slots = 0) (hlen : (lg_sl vs).length ≤ maxL)
    (body : ∀ (p : Program) (e : Env) (s : State) (m : MethodId) (args : Array Value) (below : List Frame) (meth : Method) (c : Code) (Q : State → Prop) (ls : Array Slot), sx_E p s m args c cc maxL own D g → lv_has ls maxL (lv_args 0 vs) →
      (∀ (H : Heap) (locs : List Loc) (ls : Array Slot) (pc : Nat), sx_S g E H0 H locs → decode cc pc = .ok (.return_, 1) → W p l e rm s m args below meth c H locs 0 0 Q (F0 m pc ls [])) → W p l e rm s m args below meth c H0 [] 0 0 Q (F0 m 0 ls [])) :
    Met l y (.code y cc maxL none :: G_) rm (sx_Pc vs H0 D g) (sx_Qv g E H0) 0 0 E := by
  refine Met.ofW (cc := cc) (maxL := maxL) (ret := none) hy rfl ?_
  intro p e s m args below meth c s₁ B hml hv
  obtain ⟨rfl, hh, hU⟩ := hv
  have hl := lv_entry vs (n := maxL) hlen
  rw [lg_entry_eq]
  generalize (lg_sl vs ++ List.replicate (maxL - (lg_sl vs).length) Slot.unset).toArray = ls at hl ⊢
  have hb := B.bytes
  rw [hh]
  refine body p e s m _ below meth c _ ls ⟨B.exec, hb, hml, ho ▸ findClass_of_methodNamed B.named, fun w h => atoms_spec B.pre w (List.mem_cons_of_mem _ h), hU⟩ hl (fun H locs ls pc hS hd => ?_)
  exact W.vret B.exec hb B.returns (fun t ht hW => ⟨⟨(), rfl, trivial, (by rw [← ht] at hS; exact hS.1)⟩, sx_F hh (by rw [ht]; exact hS.1)⟩) hS.2 hd
theorem sx_mi (hy : plainName y.cls = true) (ho : y.cls = own) (hc : rm.cells = 0) (hs : rm.slots = 0) (hlen : (lg_sl vs).length ≤ maxL)
    (body : ∀ (p : Program) (e : Env) (s : State) (m : MethodId) (args : Array Value) (below : List Frame) (meth : Method) (c : Code) (Q : State → Prop) (ls : Array Slot), sx_E p s m args c cc maxL own D g → lv_has ls maxL (lv_args 0 vs) →
      (∀ (H : Heap) (locs : List Loc) (ls : Array Slot) (pc : Nat) (r : Int32), sx_S g E H0 H locs → decode cc pc = .ok (.ireturn, 1) → W p l e rm s m args below meth c H locs 0 0 Q (F0 m pc ls [.int r])) → W p l e rm s m args below meth c H0 [] 0 0 Q (F0 m 0 ls [])) :
    Met l y (.code y cc maxL (some .int) :: G_) rm (sx_Pc vs H0 D g) (sx_Qi g E H0) 0 0 E := by
  refine Met.ofW (cc := cc) (maxL := maxL) (ret := some .int) hy rfl ?_
  intro p e s m args below meth c s₁ B hml hv
  obtain ⟨rfl, hh, hU⟩ := hv
  have hl := lv_entry vs (n := maxL) hlen
  rw [lg_entry_eq]
  generalize (lg_sl vs ++ List.replicate (maxL - (lg_sl vs).length) Slot.unset).toArray = ls at hl ⊢
  have hb := B.bytes
  rw [hh]
  refine body p e s m _ below meth c _ ls ⟨B.exec, hb, hml, ho ▸ findClass_of_methodNamed B.named, fun w h => atoms_spec B.pre w (List.mem_cons_of_mem _ h), hU⟩ hl (fun H locs ls pc r hS hd => ?_)
  exact W.iret (v := r) B.exec hb B.returns (fun t ht hW => ⟨⟨r, (), rfl, trivial, (by rw [← ht] at hS; exact hS.1)⟩, sx_F hh (by rw [ht]; exact hS.1)⟩) hS.2 hd
theorem sx_ml (hy : plainName y.cls = true) (ho : y.cls = own) (hc : rm.cells = 0) (hs : rm.slots = 0) (hlen : (lg_sl vs).length ≤ maxL)
    (body : ∀ (p : Program) (e : Env) (s : State) (m : MethodId) (args : Array Value) (below : List Frame) (meth : Method) (c : Code) (Q : State → Prop) (ls : Array Slot), sx_E p s m args c cc maxL own D g → lv_has ls maxL (lv_args 0 vs) →
      (∀ (H : Heap) (locs : List Loc) (ls : Array Slot) (pc : Nat) (r : Int64), sx_S g E H0 H locs → decode cc pc = .ok (.lreturn, 1) → W p l e rm s m args below meth c H locs 0 0 Q (F0 m pc ls [.long r])) → W p l e rm s m args below meth c H0 [] 0 0 Q (F0 m 0 ls [])) :
    Met l y (.code y cc maxL (some .long) :: G_) rm (sx_Pc vs H0 D g) (sx_Ql g E H0) 0 0 E := by
  refine Met.ofW (cc := cc) (maxL := maxL) (ret := some .long) hy rfl ?_
  intro p e s m args below meth c s₁ B hml hv
  obtain ⟨rfl, hh, hU⟩ := hv
  have hl := lv_entry vs (n := maxL) hlen
  rw [lg_entry_eq]
  generalize (lg_sl vs ++ List.replicate (maxL - (lg_sl vs).length) Slot.unset).toArray = ls at hl ⊢
  have hb := B.bytes
  rw [hh]
  refine body p e s m _ below meth c _ ls ⟨B.exec, hb, hml, ho ▸ findClass_of_methodNamed B.named, fun w h => atoms_spec B.pre w (List.mem_cons_of_mem _ h), hU⟩ hl (fun H locs ls pc r hS hd => ?_)
  exact W.lret (v := r) B.exec hb B.returns (fun t ht hW => ⟨⟨r, (), rfl, trivial, (by rw [← ht] at hS; exact hS.1)⟩, sx_F hh (by rw [ht]; exact hS.1)⟩) hS.2 hd
theorem sx_mn {post : Nat → Prop} (hy : plainName y.cls = true) (ho : y.cls = own) (hc : rm.cells = 0) (hs : rm.slots = 0) (hlen : (lg_sl vs).length ≤ maxL)
    (body : ∀ (p : Program) (e : Env) (s : State) (m : MethodId) (args : Array Value) (below : List Frame) (meth : Method) (c : Code) (Q : State → Prop) (ls : Array Slot), sx_E p s m args c cc maxL own D g → lv_has ls maxL (lv_args 0 vs) →
      (∀ (H : Heap) (locs : List Loc) (ls : Array Slot) (pc : Nat) (z : Nat), post z → sx_S g E H0 H locs → decode cc pc = .ok (.ireturn, 1) → W p l e rm s m args below meth c H locs 0 0 Q (F0 m pc ls [.int (nI z)])) → W p l e rm s m args below meth c H0 [] 0 0 Q (F0 m 0 ls [])) :
    Met l y (.code y cc maxL (some .int) :: G_) rm (sx_Pc vs H0 D g) (sx_Qn g E H0 post) 0 0 E := by
  refine Met.ofW (cc := cc) (maxL := maxL) (ret := some .int) hy rfl ?_
  intro p e s m args below meth c s₁ B hml hv
  obtain ⟨rfl, hh, hU⟩ := hv
  have hl := lv_entry vs (n := maxL) hlen
  rw [lg_entry_eq]
  generalize (lg_sl vs ++ List.replicate (maxL - (lg_sl vs).length) Slot.unset).toArray = ls at hl ⊢
  have hb := B.bytes
  rw [hh]
  refine body p e s m _ below meth c _ ls ⟨B.exec, hb, hml, ho ▸ findClass_of_methodNamed B.named, fun w h => atoms_spec B.pre w (List.mem_cons_of_mem _ h), hU⟩ hl (fun H locs ls pc z hz hS hd => ?_)
  exact W.iret (v := nI z) B.exec hb B.returns (fun t ht hW => ⟨⟨nI z, (), rfl, ⟨z, hz, rfl⟩, (by rw [← ht] at hS; exact hS.1)⟩, sx_F hh (by rw [ht]; exact hS.1)⟩) hS.2 hd
theorem sx_mz (hy : plainName y.cls = true) (ho : y.cls = own) (hc : rm.cells = 0) (hs : rm.slots = 0) (hlen : (lg_sl vs).length ≤ maxL)
    (body : ∀ (p : Program) (e : Env) (s : State) (m : MethodId) (args : Array Value) (below : List Frame) (meth : Method) (c : Code) (Q : State → Prop) (ls : Array Slot), sx_E p s m args c cc maxL own D g → lv_has ls maxL (lv_args 0 vs) →
      (∀ (H : Heap) (locs : List Loc) (ls : Array Slot) (pc : Nat) (z : Nat), z ≤ 1 → sx_S g E H0 H locs → decode cc pc = .ok (.ireturn, 1) → W p l e rm s m args below meth c H locs 0 0 Q (F0 m pc ls [.int (nI z)])) → W p l e rm s m args below meth c H0 [] 0 0 Q (F0 m 0 ls [])) :
    Met l y (.code y cc maxL (some .boolean) :: G_) rm (sx_Pc vs H0 D g) (sx_Qz g E H0) 0 0 E := by
  refine Met.ofW (cc := cc) (maxL := maxL) (ret := some .boolean) hy rfl ?_
  intro p e s m args below meth c s₁ B hml hv
  obtain ⟨rfl, hh, hU⟩ := hv
  have hl := lv_entry vs (n := maxL) hlen
  rw [lg_entry_eq]
  generalize (lg_sl vs ++ List.replicate (maxL - (lg_sl vs).length) Slot.unset).toArray = ls at hl ⊢
  have hb := B.bytes
  rw [hh]
  refine body p e s m _ below meth c _ ls ⟨B.exec, hb, hml, ho ▸ findClass_of_methodNamed B.named, fun w h => atoms_spec B.pre w (List.mem_cons_of_mem _ h), hU⟩ hl (fun H locs ls pc z hz hS hd => ?_)
  exact W.zret (v := nI z) (ty := .boolean) B.exec hb B.returns (sx_nz hz) (fun t ht hW => ⟨⟨nI z, (), rfl, ⟨z, hz, rfl⟩, (by rw [← ht] at hS; exact hS.1)⟩, sx_F hh (by rw [ht]; exact hS.1)⟩) hS.2 hd
end SXM
section SXC
variable {p : Program} {l : Launch} {e : Env} {R : Room} {s : State} {m : MethodId} {args : Array Value} {below : List Frame} {meth : Method} {c : Code} {H H0 : Heap} {locs : List Loc} {cells slots : Nat} {Q : State → Prop}
variable {cc : ByteArray} {pc : Nat} {ls : Array Slot} {g : ClassId → FieldType → Prop} {E : Nat → Prop} {D : va_G}
variable {y : MethodName} {bytes : ByteArray} {maxL nL n index : Nat} {ret : Option FieldType} {rm : Room} {own : String} {As rest st : List Value} {Qc : Array Value → State → Outcome → State → Prop}
/-- a static call's run -/
theorem sx_runS (EE : sx_E p s m args c cc nL own D g) (hM : Met l y (.code y bytes maxL ret :: G_) rm (sx_Pc As H D g) Qc 0 0 E) (hw : sx_w [.methodLink own index y, .static y, .initialized y.cls, .code y bytes maxL ret] y n) (hn : As.length = n) (hrm : rm.cells = 0 ∧ rm.slots = 0) (hR : rm.frames + 1 ≤ R.frames ∧ 8 + (maxL + 11) + rm.locals ≤ R.locals) (hcs : cells ≤ R.cells ∧ slots ≤ R.slots)
    (hsz : ls.size = nL) (hst : st = As.reverse ++ rest) (hrest : (rest.map fun v => v.category).sum ≤ 8) (hdg : decode cc pc = .ok (.invokestatic index, 3)) :
    va_Run p l e R s m args below meth c H locs cells slots 0 0 (F0 m pc ls st) rest (Qc As.toArray) E := by
  obtain ⟨hx, hb, hml, hown, hts, hU⟩ := EE
  have hin : ∀ w ∈ ([.methodLink own index y, .static y, .initialized y.cls, .code y bytes maxL ret] : List Cond), w ∈ G_ := fun w h => G_in (hw.1 w h)
  exact va_runS (As := As) (rest := rest) ⟨hx, hb, hml, hown, hts⟩ hM (va_cwS n hts (G_good (fun w h => by
      simp only [va_wsS, List.cons_append, List.nil_append, List.mem_cons] at h
      rcases h with rfl | rfl | rfl | rfl | h
      · exact hin _ (by simp)
      · exact hin _ (by simp)
      · exact hin _ (by simp)
      · exact hin _ (by simp)
      · exact h)) rfl hrm.1 hrm.2 hw.2 hR) ⟨sx_blind, fun U hU' hW => ⟨rfl, hU', hU.moved hW⟩⟩ rfl hn hsz hst (lv_room hrest) hdg hcs
/-- behind a call -/
theorem sx_Sm {H1 : Heap} {locs1 : List Loc} (hS : sx_S g E H0 H locs) (hJ : sx_J g E H H1) (h1 : va_S E H H1 locs1) : sx_S g E H0 H1 locs1 := ⟨hS.1.tr hJ, h1.2.2⟩
theorem sx_vS (hS : sx_S g E H0 H locs) : va_S E H H locs := ⟨Nat.le_refl _, fun _ _ _ => rfl, hS.2⟩
theorem sx_gv (hr : va_Run p l e R s m args below meth c H locs cells slots 0 0 (F0 m pc ls st) rest (sx_Qv g E H As.toArray) E) (hS : sx_S g E H0 H locs)
    (k : ∀ (H1 : Heap) (locs1 : List Loc), sx_S g E H0 H1 locs1 → W p l e R s m args below meth c H1 locs1 cells slots Q (F0 m (pc + 3) ls rest)) : W p l e R s m args below meth c H locs cells slots Q (F0 m pc ls st) :=
  va_callv hr (sx_vS hS) (fun _ _ h => h) (fun _ h => h) (fun u t H1 locs1 ht hvm hw hB hz hk hS1 => k H1 locs1 (sx_Sm hS (ht ▸ hB) hS1))
theorem sx_gi (hr : va_Run p l e R s m args below meth c H locs cells slots 0 0 (F0 m pc ls st) rest (sx_Qi g E H As.toArray) E) (hS : sx_S g E H0 H locs)
    (k : ∀ (x : Int32) (H1 : Heap) (locs1 : List Loc), sx_S g E H0 H1 locs1 → W p l e R s m args below meth c H1 locs1 cells slots Q (F0 m (pc + 3) ls (.int x :: rest))) : W p l e R s m args below meth c H locs cells slots Q (F0 m pc ls st) :=
  va_calli hr (sx_vS hS) (fun _ _ h => h) (fun _ h => h) (fun r u t H1 locs1 ht hvm hw hB hz hk hS1 => k r H1 locs1 (sx_Sm hS (ht ▸ hB) hS1))
theorem sx_gl (hr : va_Run p l e R s m args below meth c H locs cells slots 0 0 (F0 m pc ls st) rest (sx_Ql g E H As.toArray) E) (hS : sx_S g E H0 H locs)
    (k : ∀ (x : Int64) (H1 : Heap) (locs1 : List Loc), sx_S g E H0 H1 locs1 → W p l e R s m args below meth c H1 locs1 cells slots Q (F0 m (pc + 3) ls (.long x :: rest))) : W p l e R s m args below meth c H locs cells slots Q (F0 m pc ls st) :=
  va_calll hr (sx_vS hS) (fun _ _ h => h) (fun _ h => h) (fun r u t H1 locs1 ht hvm hw hB hz hk hS1 => k r H1 locs1 (sx_Sm hS (ht ▸ hB) hS1))
theorem sx_gn {post : Nat → Prop} (hr : va_Run p l e R s m args below meth c H locs cells slots 0 0 (F0 m pc ls st) rest (sx_Qn g E H post As.toArray) E) (hS : sx_S g E H0 H locs)
    (k : ∀ (z : Nat) (_ : post z) (H1 : Heap) (locs1 : List Loc), sx_S g E H0 H1 locs1 → W p l e R s m args below meth c H1 locs1 cells slots Q (F0 m (pc + 3) ls (.int (nI z) :: rest))) : W p l e R s m args below meth c H locs cells slots Q (F0 m pc ls st) :=
  va_calli hr (sx_vS hS) (fun _ _ h => h) (fun _ h => h) (fun r u t H1 locs1 ht hvm hw hB hz hk hS1 => by
    obtain ⟨z, hz, rfl⟩ := hw
    exact k z hz H1 locs1 (sx_Sm hS (ht ▸ hB) hS1))
end SXC
end
section
/-! objects of our classes: what is no array stays -/
theorem sx_noarr {s : State} {g : ClassId → FieldType → Prop} {D : va_G} {cl : List vw_C} {tys : List (ClassId × FieldType)} {ci : Nat} {q : vw_C} (hG : sx_G s g) (hK : va_K D cl tys s) (hc : cl[ci]? = some q) (t : FieldType) : ¬ g (D.1 ci) t := by
  intro h
  obtain ⟨k, h1, comp, h2⟩ := (hG _ _).mp h
  obtain ⟨hS, hfc, kC, hkC, hkind⟩ := hK.1 ci _ hc
  cases Option.some.inj (h1.symm.trans hkC)
  rw [hkind] at h2
  cases h2
theorem sx_J.ob {g : ClassId → FieldType → Prop} {E : Nat → Prop} {H0 H : Heap} {D : va_G} {cl : List vw_C} {o : Nat} {x : va_E} (h : sx_J g E H0 H) (hE : ¬ E o) (hP : va_P D cl [(o, x)] H0) : va_P D cl [(o, x)] H := by
  refine hP.kept (fun k q hk => ?_)
  match k, hk with
  | 0, hk =>
    cases hk
    exact h.2.1 o (hP 0 _ rfl).lt hE
section SXO
variable {p : Program} {l : Launch} {e : Env} {R : Room} {s : State} {m : MethodId} {args : Array Value} {below : List Frame} {meth : Method} {c : Code} {H H0 : Heap} {locs : List Loc} {cells slots : Nat} {Q : State → Prop}
variable {cc : ByteArray} {pc : Nat} {ls : Array Slot} {g : ClassId → FieldType → Prop} {E : Nat → Prop} {D : va_G}
variable {y : MethodName} {bytes : ByteArray} {maxL nL n index : Nat} {ret : Option FieldType} {rm : Room} {own C : String} {As rest st : List Value} {Qc : Array Value → State → Outcome → State → Prop} {b ci : Nat} {fs : List Value} {T : u_T} {N : Nat}
theorem sx_alen {a k n0 : Nat} {t : FieldType} (hx : p.tables.exec = Jvm.exec) (hb : c.code = cc) (hG : sx_G s g) (hS : sx_S g E H0 H locs) (ha : sx_A g t H0 a n0) (hL : sx_L H0 a k) (hdg : decode cc pc = .ok (.arraylength, 1))
    (kk : W p l e R s m args below meth c H locs cells slots Q (F0 m (pc + 1) ls (.int (nI k) :: rest))) : W p l e R s m args below meth c H locs cells slots Q (F0 m pc ls (.ref a :: rest)) := by
  obtain ⟨cell, h1, h2, h3, h4, h5, h6⟩ := hS.a ha
  obtain ⟨cell', q1, q2⟩ := hS.1.2.2.2 a k hL
  cases Option.some.inj (h1.symm.trans q1)
  exact W.alen (n := nI k) hx hb h1 (hG.arr h2 h3) (by rw [q2]; rfl) rfl rfl hdg kk
/-- a call of a method of the object b -/
theorem sx_runV (EE : sx_E p s m args c cc nL own D g) (hP : va_P D classes [(b, .inr (ci, fs))] H) (hc : classes[ci]? = some (C, T, N)) (hC : y.cls = C) (hM : Met l y (.code y bytes maxL ret :: G_) rm (sx_Pc (.ref b :: As) H D g) Qc 0 0 E) (hw : sx_w [.methodLink own index y, .instanceMethod y, .selects C y y, .initialized C, .code y bytes maxL ret] y n) (hn : As.length = n) (hrm : rm.cells = 0 ∧ rm.slots = 0) (hR : rm.frames + 1 ≤ R.frames ∧ 8 + (maxL + 11) + rm.locals ≤ R.locals) (hcs : cells ≤ R.cells ∧ slots ≤ R.slots)
    (hsz : ls.size = nL) (hst : st = As.reverse ++ .ref b :: rest) (hrest : (rest.map fun v => v.category).sum ≤ 8) (hdg : decode cc pc = .ok (.invokevirtual index, 3)) :
    va_Run p l e R s m args below meth c H locs cells slots 0 0 (F0 m pc ls st) rest (Qc (Value.ref b :: As).toArray) E := by
  obtain ⟨hx, hb, hml, hown, hts, hU⟩ := EE
  have hin : ∀ w ∈ ([.methodLink own index y, .instanceMethod y, .selects C y y, .initialized C, .code y bytes maxL ret] : List Cond), w ∈ G_ := fun w h => G_in (hw.1 w h)
  exact va_runV (As := As) (rest := rest) ⟨hx, hb, hml, hown, hts⟩ hM (cwV n hts (G_good (fun w h => by
      simp only [wsV, List.cons_append, List.nil_append, List.mem_cons] at h
      rcases h with rfl | rfl | rfl | rfl | rfl | h
      · exact hin _ (by simp)
      · exact hin _ (by simp)
      · exact hin _ (by simp)
      · exact hin _ (by simp)
      · exact hin _ (by simp)
      · exact h)) rfl hrm.1 hrm.2 ⟨hC, hw.2⟩ hR) ⟨sx_blind, va_recv hU.2.1 hP (ci := ci) (q0 := 0) hc rfl, fun U hU' hW => ⟨rfl, hU', hU.moved hW⟩⟩ rfl hn hsz hst (lv_room hrest) hdg hcs
/-- a field is read -/
theorem sx_get {o : Nat} {v : Value} {f d : String} (EE : sx_E p s m args c cc nL own D g) (hP : va_P D classes [(o, .inr (ci, fs))] H) (hc : classes[ci]? = some (C, T, N)) (hin : ∀ w ∈ u_ws C T N, w ∈ G_) (k : Nat) (hk : k < N) (hT : T k = (C, f, d, (T k).2.2.2)) (hl : Cond.fieldLink own index C f d ∈ lw_tbl ∧ sx_okw (Cond.fieldLink own index C f d) = true) (hv : fs[k]? = some v) (hdg : decode cc pc = .ok (.getfield index, 3))
    (kk : W p l e R s m args below meth c H locs cells slots Q (F0 m (pc + 3) ls (v :: rest))) : W p l e R s m args below meth c H locs cells slots Q (F0 m pc ls (.ref o :: rest)) := by
  obtain ⟨hx, hb, hml, hown, hts, hU⟩ := EE
  have e1 : (T k).1 = C := by rw [hT]
  have e2 : (T k).2.1 = f := by rw [hT]
  have e3 : (T k).2.2.1 = d := by rw [hT]
  exact va_get (D := D) (ci := ci) (v := v) (C := C) (T := T) (N := N) hx hb hts hin hown hU.2.1 hP 0 rfl hc k hk (ref := C) (by rw [e2, e3]; exact hts _ (G_in hl)) (fun x h => by rw [e1] at h; exact h) hv hdg kk
end SXO
/-! objects are written, cells are made -/
theorem sx_A.le {g : ClassId → FieldType → Prop} {t : FieldType} {H : Heap} {a n k : Nat} (h : sx_A g t H a n) (hk : k ≤ n) : sx_A g t H a k := by
  obtain ⟨cell, h1, h2, h3, h4, h5, h6⟩ := h
  exact ⟨cell, h1, h2, h3, h4, Nat.le_trans hk h5, fun j hj => h6 j (Nat.lt_of_lt_of_le hj hk)⟩
theorem sx_J.obj {g : ClassId → FieldType → Prop} {E : Nat → Prop} {H H1 : Heap} {o i : Nat} {cell : Cell} {v : Value} (hc : H[o]? = some cell) (hna : ∀ t, ¬ g cell.cls t) (e : H1[o]? = some (cell.setSlot i v)) (z : H1.size = H.size) (oq : ∀ q : Nat, q ≠ o → H1[q]? = H[q]?) (hE : E o) : sx_J g E H H1 := by
  refine ⟨Nat.le_of_eq z.symm, fun q _ h => oq q (fun x => h (x ▸ hE)), fun t b n hb => ?_, fun b n hb => ?_⟩
  · obtain ⟨c0, h1, h2, h3⟩ := hb
    by_cases hba : b = o
    · subst hba
      cases Option.some.inj (hc.symm.trans h1)
      exact absurd h2 (hna t)
    · exact ⟨c0, (oq b hba).trans h1, h2, h3⟩
  · obtain ⟨c0, h1, h2⟩ := hb
    by_cases hba : b = o
    · subst hba
      cases Option.some.inj (hc.symm.trans h1)
      exact ⟨_, e, by rw [k2_slotsz]; exact h2⟩
    · exact ⟨c0, (oq b hba).trans h1, h2⟩
section SXP
variable {p : Program} {l : Launch} {e : Env} {R : Room} {s : State} {m : MethodId} {args : Array Value} {below : List Frame} {meth : Method} {c : Code} {H H0 : Heap} {locs : List Loc} {cells slots : Nat} {Q : State → Prop}
variable {cc : ByteArray} {pc : Nat} {ls : Array Slot} {g : ClassId → FieldType → Prop} {E : Nat → Prop} {D : va_G}
variable {nL index : Nat} {own C : String} {rest : List Value} {o ci : Nat} {fs : List Value} {T : u_T} {N : Nat}
/-- a field that isn't final is written -/
theorem sx_put {f d : String} {ty : FieldType} {v : Value} (EE : sx_E p s m args c cc nL own D g) (hP : va_P D classes [(o, .inr (ci, fs))] H) (hc : classes[ci]? = some (C, T, N)) (hin : ∀ w ∈ u_ws C T N, w ∈ G_) (ty0 : Nat → FieldType) (hty : ∀ k, k < N → parseFieldDescriptor (T k).2.2.1 = some (ty0 k)) (hnm : ∀ a, a < N → ∀ b, b < N → a ≠ b → (T a).2.1 ≠ (T b).2.1)
    (k : Nat) (hk : k < N) (hT : T k = (C, f, d, false)) (hl : Cond.fieldLink own index C f d ∈ lw_tbl ∧ sx_okw (Cond.fieldLink own index C f d) = true) (hd : parseFieldDescriptor d = some ty) (hn : narrow ty v = v) (hfit : fits ty v = true) (hlen : k < fs.length) (hE : E o) (hS : sx_S g E H0 H locs) (hdg : decode cc pc = .ok (.putfield index, 3))
    (kk : ∀ (H1 : Heap) (locs1 : List Loc), va_P D classes [(o, .inr (ci, fs.set k v))] H1 → (∀ q : Nat, q ≠ o → H1[q]? = H[q]?) → sx_S g E H0 H1 locs1 → W p l e R s m args below meth c H1 locs1 cells slots Q (F0 m (pc + 3) ls rest)) : W p l e R s m args below meth c H locs cells slots Q (F0 m pc ls (v :: .ref o :: rest)) := by
  obtain ⟨hx, hb, hml, hown, hts, hU⟩ := EE
  have e1 : (T k).1 = C := by rw [hT]
  have e2 : (T k).2.1 = f := by rw [hT]
  have e3 : (T k).2.2.1 = d := by rw [hT]
  have e4 : (T k).2.2.2 = false := by rw [hT]
  have hK := hU.2.1
  have hap := va_apart (own := own) hts hin ty0 hty hnm hK hc
  obtain ⟨r, h1, cell, q1, q2, q3, q4⟩ := hP 0 _ rfl
  have hr : r = (C, T, N) := Option.some.inj (h1.symm.trans hc)
  subst hr
  obtain ⟨hS', hfc, kC, hkC, hkind⟩ := hK.1 ci _ hc
  obtain ⟨cf, kf, fi, fd, hi, hsl⟩ := hS' k hk
  have hlay := hts _ (hin _ (u_in_lay hk))
  unfold u_lay at hlay
  rw [if_neg (by rw [e4]; decide)] at hlay
  have hst := (u_facts hfc hkC (u_lays hts hin hk) hi).1
  have h6 := u_store hfc hkC hkind hlay hi (by rw [e3]; exact hd) hn hfit
  refine W.putK hx hb (f := fd) ⟨hown, hts _ (G_in hl), ⟨_, _, _, by rw [e1, e2, e3] at hi; exact hi⟩, hst⟩ (by rw [q2]; exact h6) q1 q3 (by rw [hsl]; exact k2_hasslot (q4 k hk)) rfl rfl hdg fun H' w1 w2 w3 => ?_
  have hJ : sx_J g E H H' := sx_J.obj q1 (fun t => by rw [q2]; exact sx_noarr hU.1 hK hc t) w1 w2 w3 hE
  rw [hsl] at w1
  refine kk H' _ ?_ w3 ⟨hS.1.tr hJ, fun q hq => by
    rcases List.mem_append.mp hq with h | h
    · exact hS.2 q h
    · rw [List.mem_singleton.mp h]; exact hE⟩
  intro j q hj
  match j, hj with
  | 0, hj =>
    cases hj
    exact ⟨_, hc, t_OB.to (V := updV (vp_V fs) k v) ⟨_, w1, q2, q3, t_set q4 hap hk v⟩ (fun j _ => vp_updV_set hlen v j)⟩
/-- a final field is written in the constructor -/
theorem sx_putF {f d : String} {ty : FieldType} {v : Value} (EE : sx_E p s m args c cc nL C D g) (hin2 : meth.name = "<init>") (hP : va_P D classes [(o, .inr (ci, fs))] H) (hc : classes[ci]? = some (C, T, N)) (hin : ∀ w ∈ u_ws C T N, w ∈ G_) (ty0 : Nat → FieldType) (hty : ∀ k, k < N → parseFieldDescriptor (T k).2.2.1 = some (ty0 k)) (hnm : ∀ a, a < N → ∀ b, b < N → a ≠ b → (T a).2.1 ≠ (T b).2.1)
    (k : Nat) (hk : k < N) (hT : T k = (C, f, d, true)) (hl : Cond.fieldLink C index C f d ∈ lw_tbl ∧ sx_okw (Cond.fieldLink C index C f d) = true) (hd : parseFieldDescriptor d = some ty) (hn : narrow ty v = v) (hfit : fits ty v = true) (hlen : k < fs.length) (hE : E o) (hS : sx_S g E H0 H locs) (hdg : decode cc pc = .ok (.putfield index, 3))
    (kk : ∀ (H1 : Heap) (locs1 : List Loc), va_P D classes [(o, .inr (ci, fs.set k v))] H1 → (∀ q : Nat, q ≠ o → H1[q]? = H[q]?) → sx_S g E H0 H1 locs1 → W p l e R s m args below meth c H1 locs1 cells slots Q (F0 m (pc + 3) ls rest)) : W p l e R s m args below meth c H locs cells slots Q (F0 m pc ls (v :: .ref o :: rest)) := by
  obtain ⟨hx, hb, hml, hown, hts, hU⟩ := EE
  have e1 : (T k).1 = C := by rw [hT]
  have e2 : (T k).2.1 = f := by rw [hT]
  have e3 : (T k).2.2.1 = d := by rw [hT]
  have e4 : (T k).2.2.2 = true := by rw [hT]
  have hK := hU.2.1
  have hap := va_apart (own := C) hts hin ty0 hty hnm hK hc
  obtain ⟨r, h1, cell, q1, q2, q3, q4⟩ := hP 0 _ rfl
  have hr : r = (C, T, N) := Option.some.inj (h1.symm.trans hc)
  subst hr
  obtain ⟨hS', hfc, kC, hkC, hkind⟩ := hK.1 ci _ hc
  obtain ⟨cf, kf, fi, fd, hi, hsl⟩ := hS' k hk
  have hlay := hts _ (hin _ (u_in_lay hk))
  unfold u_lay at hlay
  rw [if_pos e4] at hlay
  have hst := (u_facts hfc hkC (u_lays hts hin hk) hi).1
  have hcf : m.cls = cf := by
    obtain ⟨_, _, c', _, _, _, -, -, hf', -, -, -, hown2, -⟩ := Cond.laysFinal_spec hlay
    have e5 : c' = cf := by have := hi.symm.trans hf'; simp at this; exact this.1.symm
    rw [e1] at hown2
    rw [← e5]; exact Option.some.inj (hown.symm.trans hown2)
  have h6 := u_fits hfc hkC hkind (Or.inr hlay) hi (by rw [e3]; exact hd) hn hfit
  refine W.putFinK hx hb hown (hts _ (G_in hl)) (by rw [e1, e2, e3] at hi; exact hi) hst hcf hin2 (by rw [q2]; exact h6) q1 q3 (by rw [hsl]; exact k2_hasslot (q4 k hk)) rfl rfl hdg fun H' w1 w2 w3 => ?_
  have hJ : sx_J g E H H' := sx_J.obj q1 (fun t => by rw [q2]; exact sx_noarr hU.1 hK hc t) w1 w2 w3 hE
  rw [hsl] at w1
  refine kk H' _ ?_ w3 ⟨hS.1.tr hJ, fun q hq => by
    rcases List.mem_append.mp hq with h | h
    · exact hS.2 q h
    · rw [List.mem_singleton.mp h]; exact hE⟩
  intro j q hj
  match j, hj with
  | 0, hj =>
    cases hj
    exact ⟨_, hc, t_OB.to (V := updV (vp_V fs) k v) ⟨_, w1, q2, q3, t_set q4 hap hk v⟩ (fun j _ => vp_updV_set hlen v j)⟩
/-- an array is made -/
theorem sx_newa {t : ArrayType} {ty : FieldType} {n cells' slots' : Nat} (hx : p.tables.exec = Jvm.exec) (hb : c.code = cc) (hG : sx_G s g) (hts : ∀ w ∈ G_, w.before args s = true) (hty : newarray.typeOf t = ty) (hp : ty = .long ∨ ty = .byte ∨ ty = .int) (hw : Cond.arrayClass ty ∈ lw_tbl) (hn : n < 2 ^ 31) (hbytes : n * componentBytes ty ≤ 536870912) (hc1 : cells + 1 = cells') (hs1 : slots + n = slots') (hcells : cells' ≤ R.cells) (hslots : slots' ≤ R.slots) (hS : sx_S g E H0 H locs) (hdg : decode cc pc = .ok (.newarray t, 2))
    (kk : ∀ (q : Nat) (H1 : Heap), H.size = q → sx_A g ty H1 q n → sx_L H1 q n → sx_J g E H H1 → sx_S g E H0 H1 locs → W p l e R s m args below meth c H1 locs cells' slots' Q (F0 m (pc + 2) ls (.ref q :: rest))) : W p l e R s m args below meth c H locs cells slots Q (F0 m pc ls (.int (nI n) :: rest)) := by
  subst hty
  subst hc1
  subst hs1
  refine W.newaK hx hb (hts _ (G_in ⟨hw, by simp [sx_okw]⟩)) (n := nI n) rfl hdg rfl (nI_pos hn) (nI_clamp hn) hbytes hcells hslots rfl (fun H' cA h1 h2 h3 h4 => ?_)
  have hJ : sx_J g E H H' := sx_J.grow (by omega) h3
  refine kk H.size H' rfl ?_ ⟨_, h1, arrV_size _ _ _⟩ hJ ⟨hS.1.tr hJ, hS.2⟩
  obtain ⟨w1, w2⟩ := h4 n (fun _ => defaultValue (newarray.typeOf t))
  refine ⟨_, h1, (hG _ _).mpr w2, w1, (fun h => by cases h), by rw [arrV_size]; exact Nat.le_refl _, fun j hj => ⟨_, arrV_read _ _ hj, ?_⟩⟩
  rcases hp with h | h | h <;> rw [h]
  · exact ⟨0, rfl⟩
  · exact ⟨0, rfl, by decide +kernel⟩
  · exact ⟨0, rfl⟩
end SXP
theorem i0_M : ∀ w ∈ u_ws R_M F_M 53, w ∈ lw_tbl ∧ sx_okw w = true := by decide +kernel
theorem i_M : ∀ w ∈ u_ws R_M F_M 53, w ∈ G_ := fun w h => G_in (i0_M w h)
theorem i0_K : ∀ w ∈ u_ws R_K F_K 12, w ∈ lw_tbl ∧ sx_okw w = true := by decide +kernel
theorem i_K : ∀ w ∈ u_ws R_K F_K 12, w ∈ G_ := fun w h => G_in (i0_K w h)
theorem i0_F : ∀ w ∈ u_ws R_F F_F 7, w ∈ lw_tbl ∧ sx_okw w = true := by decide +kernel
theorem i_F : ∀ w ∈ u_ws R_F F_F 7, w ∈ G_ := fun w h => G_in (i0_F w h)
theorem i0_La : ∀ w ∈ u_ws R_La F_La 12, w ∈ lw_tbl ∧ sx_okw w = true := by decide +kernel
theorem i_La : ∀ w ∈ u_ws R_La F_La 12, w ∈ G_ := fun w h => G_in (i0_La w h)
theorem i0_Pt : ∀ w ∈ u_ws R_Pt F_Pt 4, w ∈ lw_tbl ∧ sx_okw w = true := by decide +kernel
theorem i_Pt : ∀ w ∈ u_ws R_Pt F_Pt 4, w ∈ G_ := fun w h => G_in (i0_Pt w h)
theorem i0_Ad : ∀ w ∈ u_ws R_Ad F_Ad 4, w ∈ lw_tbl ∧ sx_okw w = true := by decide +kernel
theorem i_Ad : ∀ w ∈ u_ws R_Ad F_Ad 4, w ∈ G_ := fun w h => G_in (i0_Ad w h)
theorem i0_Ed : ∀ w ∈ u_ws R_Ed F_Ed 15, w ∈ lw_tbl ∧ sx_okw w = true := by decide +kernel
theorem i_Ed : ∀ w ∈ u_ws R_Ed F_Ed 15, w ∈ G_ := fun w h => G_in (i0_Ed w h)
theorem i0_Ha : ∀ w ∈ u_ws R_Ha F_Ha 5, w ∈ lw_tbl ∧ sx_okw w = true := by decide +kernel
theorem i_Ha : ∀ w ∈ u_ws R_Ha F_Ha 5, w ∈ G_ := fun w h => G_in (i0_Ha w h)
theorem i0_Or : ∀ w ∈ u_ws R_Or F_Or 1, w ∈ lw_tbl ∧ sx_okw w = true := by decide +kernel
theorem i_Or : ∀ w ∈ u_ws R_Or F_Or 1, w ∈ G_ := fun w h => G_in (i0_Or w h)
theorem i0_Ro : ∀ w ∈ u_ws R_Ro F_Ro 2, w ∈ lw_tbl ∧ sx_okw w = true := by decide +kernel
theorem i_Ro : ∀ w ∈ u_ws R_Ro F_Ro 2, w ∈ G_ := fun w h => G_in (i0_Ro w h)
theorem i0_Ke : ∀ w ∈ u_ws R_Ke F_Ke 5, w ∈ lw_tbl ∧ sx_okw w = true := by decide +kernel
theorem i_Ke : ∀ w ∈ u_ws R_Ke F_Ke 5, w ∈ G_ := fun w h => G_in (i0_Ke w h)
theorem i0_Si : ∀ w ∈ u_ws R_Si F_Si 9, w ∈ lw_tbl ∧ sx_okw w = true := by decide +kernel
theorem i_Si : ∀ w ∈ u_ws R_Si F_Si 9, w ∈ G_ := fun w h => G_in (i0_Si w h)
/-! the reference object: its arrays and numbers -/
def mo_arr : List (Nat × FieldType × Nat) := [(1, .byte, 65536), (2, .byte, 65536), (3, .byte, 64), (4, .byte, 3200), (9, .int, 6), (10, .long, 16), (11, .long, 256), (12, .long, 16), (13, .long, 256), (14, .long, 16), (15, .long, 16), (16, .long, 16), (17, .long, 16), (18, .long, 16), (19, .long, 16), (20, .long, 16), (21, .long, 16), (22, .long, 16), (23, .long, 16), (24, .long, 16), (25, .long, 16), (26, .long, 16), (27, .long, 16), (28, .long, 16), (29, .long, 16), (30, .long, 16), (31, .long, 16), (32, .long, 16), (33, .long, 16), (34, .long, 16), (35, .byte, 32), (36, .byte, 32), (37, .byte, 32), (38, .byte, 65664), (39, .int, 8), (40, .long, 32), (41, .long, 18), (42, .long, 16), (43, .long, 16), (44, .long, 17), (45, .long, 17), (46, .long, 80), (47, .long, 8), (48, .long, 80), (49, .long, 8), (50, .long, 8), (51, .long, 8), (52, .byte, 64)]
def mo_fs (r : Nat → Nat) (i : Nat → Int32) : List Value := [.int (i 0), .ref (r 1), .ref (r 2), .ref (r 3), .ref (r 4), .int (i 5), .int (i 6), .int (i 7), .int (i 8), .ref (r 9), .ref (r 10), .ref (r 11), .ref (r 12), .ref (r 13), .ref (r 14), .ref (r 15), .ref (r 16), .ref (r 17), .ref (r 18), .ref (r 19), .ref (r 20), .ref (r 21), .ref (r 22), .ref (r 23), .ref (r 24), .ref (r 25), .ref (r 26), .ref (r 27), .ref (r 28), .ref (r 29), .ref (r 30), .ref (r 31), .ref (r 32), .ref (r 33), .ref (r 34), .ref (r 35), .ref (r 36), .ref (r 37), .ref (r 38), .ref (r 39), .ref (r 40), .ref (r 41), .ref (r 42), .ref (r 43), .ref (r 44), .ref (r 45), .ref (r 46), .ref (r 47), .ref (r 48), .ref (r 49), .ref (r 50), .ref (r 51), .ref (r 52)]
def mo_ (D : va_G) (g : ClassId → FieldType → Prop) (H : Heap) (o : Nat) (r : Nat → Nat) (i : Nat → Int32) : Prop := va_P D classes [(o, .inr (0, mo_fs r i))] H ∧ ∀ q ∈ mo_arr, sx_A g q.2.1 H (r q.1) q.2.2
theorem mo_.kept {D : va_G} {g : ClassId → FieldType → Prop} {E : Nat → Prop} {H0 H : Heap} {o : Nat} {r : Nat → Nat} {i : Nat → Int32} (h : mo_ D g H0 o r i) (hJ : sx_J g E H0 H) (hE : ¬ E o) : mo_ D g H o r i := ⟨hJ.ob hE h.1, fun q hq => hJ.2.2.1 _ _ _ (h.2 q hq)⟩
theorem mo_1 {D : va_G} {g : ClassId → FieldType → Prop} {H : Heap} {o : Nat} {r : Nat → Nat} {i : Nat → Int32} (h : mo_ D g H o r i) : sx_A g .byte H (r 1) 65536 := h.2 (1, .byte, 65536) (by decide +kernel)
theorem mow_1 {E : Nat → Prop} {r : Nat → Nat} (h : ∀ q ∈ mo_arr, E (r q.1)) : E (r 1) := h (1, .byte, 65536) (by decide +kernel)
theorem mo_2 {D : va_G} {g : ClassId → FieldType → Prop} {H : Heap} {o : Nat} {r : Nat → Nat} {i : Nat → Int32} (h : mo_ D g H o r i) : sx_A g .byte H (r 2) 65536 := h.2 (2, .byte, 65536) (by decide +kernel)
theorem mow_2 {E : Nat → Prop} {r : Nat → Nat} (h : ∀ q ∈ mo_arr, E (r q.1)) : E (r 2) := h (2, .byte, 65536) (by decide +kernel)
theorem mo_3 {D : va_G} {g : ClassId → FieldType → Prop} {H : Heap} {o : Nat} {r : Nat → Nat} {i : Nat → Int32} (h : mo_ D g H o r i) : sx_A g .byte H (r 3) 64 := h.2 (3, .byte, 64) (by decide +kernel)
theorem mow_3 {E : Nat → Prop} {r : Nat → Nat} (h : ∀ q ∈ mo_arr, E (r q.1)) : E (r 3) := h (3, .byte, 64) (by decide +kernel)
theorem mo_4 {D : va_G} {g : ClassId → FieldType → Prop} {H : Heap} {o : Nat} {r : Nat → Nat} {i : Nat → Int32} (h : mo_ D g H o r i) : sx_A g .byte H (r 4) 3200 := h.2 (4, .byte, 3200) (by decide +kernel)
theorem mow_4 {E : Nat → Prop} {r : Nat → Nat} (h : ∀ q ∈ mo_arr, E (r q.1)) : E (r 4) := h (4, .byte, 3200) (by decide +kernel)
theorem mo_9 {D : va_G} {g : ClassId → FieldType → Prop} {H : Heap} {o : Nat} {r : Nat → Nat} {i : Nat → Int32} (h : mo_ D g H o r i) : sx_A g .int H (r 9) 6 := h.2 (9, .int, 6) (by decide +kernel)
theorem mow_9 {E : Nat → Prop} {r : Nat → Nat} (h : ∀ q ∈ mo_arr, E (r q.1)) : E (r 9) := h (9, .int, 6) (by decide +kernel)
theorem mo_10 {D : va_G} {g : ClassId → FieldType → Prop} {H : Heap} {o : Nat} {r : Nat → Nat} {i : Nat → Int32} (h : mo_ D g H o r i) : sx_A g .long H (r 10) 16 := h.2 (10, .long, 16) (by decide +kernel)
theorem mow_10 {E : Nat → Prop} {r : Nat → Nat} (h : ∀ q ∈ mo_arr, E (r q.1)) : E (r 10) := h (10, .long, 16) (by decide +kernel)
theorem mo_11 {D : va_G} {g : ClassId → FieldType → Prop} {H : Heap} {o : Nat} {r : Nat → Nat} {i : Nat → Int32} (h : mo_ D g H o r i) : sx_A g .long H (r 11) 256 := h.2 (11, .long, 256) (by decide +kernel)
theorem mow_11 {E : Nat → Prop} {r : Nat → Nat} (h : ∀ q ∈ mo_arr, E (r q.1)) : E (r 11) := h (11, .long, 256) (by decide +kernel)
theorem mo_12 {D : va_G} {g : ClassId → FieldType → Prop} {H : Heap} {o : Nat} {r : Nat → Nat} {i : Nat → Int32} (h : mo_ D g H o r i) : sx_A g .long H (r 12) 16 := h.2 (12, .long, 16) (by decide +kernel)
theorem mow_12 {E : Nat → Prop} {r : Nat → Nat} (h : ∀ q ∈ mo_arr, E (r q.1)) : E (r 12) := h (12, .long, 16) (by decide +kernel)
theorem mo_13 {D : va_G} {g : ClassId → FieldType → Prop} {H : Heap} {o : Nat} {r : Nat → Nat} {i : Nat → Int32} (h : mo_ D g H o r i) : sx_A g .long H (r 13) 256 := h.2 (13, .long, 256) (by decide +kernel)
theorem mow_13 {E : Nat → Prop} {r : Nat → Nat} (h : ∀ q ∈ mo_arr, E (r q.1)) : E (r 13) := h (13, .long, 256) (by decide +kernel)
theorem mo_14 {D : va_G} {g : ClassId → FieldType → Prop} {H : Heap} {o : Nat} {r : Nat → Nat} {i : Nat → Int32} (h : mo_ D g H o r i) : sx_A g .long H (r 14) 16 := h.2 (14, .long, 16) (by decide +kernel)
theorem mow_14 {E : Nat → Prop} {r : Nat → Nat} (h : ∀ q ∈ mo_arr, E (r q.1)) : E (r 14) := h (14, .long, 16) (by decide +kernel)
theorem mo_15 {D : va_G} {g : ClassId → FieldType → Prop} {H : Heap} {o : Nat} {r : Nat → Nat} {i : Nat → Int32} (h : mo_ D g H o r i) : sx_A g .long H (r 15) 16 := h.2 (15, .long, 16) (by decide +kernel)
theorem mow_15 {E : Nat → Prop} {r : Nat → Nat} (h : ∀ q ∈ mo_arr, E (r q.1)) : E (r 15) := h (15, .long, 16) (by decide +kernel)
theorem mo_16 {D : va_G} {g : ClassId → FieldType → Prop} {H : Heap} {o : Nat} {r : Nat → Nat} {i : Nat → Int32} (h : mo_ D g H o r i) : sx_A g .long H (r 16) 16 := h.2 (16, .long, 16) (by decide +kernel)
theorem mow_16 {E : Nat → Prop} {r : Nat → Nat} (h : ∀ q ∈ mo_arr, E (r q.1)) : E (r 16) := h (16, .long, 16) (by decide +kernel)
theorem mo_17 {D : va_G} {g : ClassId → FieldType → Prop} {H : Heap} {o : Nat} {r : Nat → Nat} {i : Nat → Int32} (h : mo_ D g H o r i) : sx_A g .long H (r 17) 16 := h.2 (17, .long, 16) (by decide +kernel)
theorem mow_17 {E : Nat → Prop} {r : Nat → Nat} (h : ∀ q ∈ mo_arr, E (r q.1)) : E (r 17) := h (17, .long, 16) (by decide +kernel)
theorem mo_18 {D : va_G} {g : ClassId → FieldType → Prop} {H : Heap} {o : Nat} {r : Nat → Nat} {i : Nat → Int32} (h : mo_ D g H o r i) : sx_A g .long H (r 18) 16 := h.2 (18, .long, 16) (by decide +kernel)
theorem mow_18 {E : Nat → Prop} {r : Nat → Nat} (h : ∀ q ∈ mo_arr, E (r q.1)) : E (r 18) := h (18, .long, 16) (by decide +kernel)
theorem mo_19 {D : va_G} {g : ClassId → FieldType → Prop} {H : Heap} {o : Nat} {r : Nat → Nat} {i : Nat → Int32} (h : mo_ D g H o r i) : sx_A g .long H (r 19) 16 := h.2 (19, .long, 16) (by decide +kernel)
theorem mow_19 {E : Nat → Prop} {r : Nat → Nat} (h : ∀ q ∈ mo_arr, E (r q.1)) : E (r 19) := h (19, .long, 16) (by decide +kernel)
theorem mo_20 {D : va_G} {g : ClassId → FieldType → Prop} {H : Heap} {o : Nat} {r : Nat → Nat} {i : Nat → Int32} (h : mo_ D g H o r i) : sx_A g .long H (r 20) 16 := h.2 (20, .long, 16) (by decide +kernel)
theorem mow_20 {E : Nat → Prop} {r : Nat → Nat} (h : ∀ q ∈ mo_arr, E (r q.1)) : E (r 20) := h (20, .long, 16) (by decide +kernel)
theorem mo_21 {D : va_G} {g : ClassId → FieldType → Prop} {H : Heap} {o : Nat} {r : Nat → Nat} {i : Nat → Int32} (h : mo_ D g H o r i) : sx_A g .long H (r 21) 16 := h.2 (21, .long, 16) (by decide +kernel)
theorem mow_21 {E : Nat → Prop} {r : Nat → Nat} (h : ∀ q ∈ mo_arr, E (r q.1)) : E (r 21) := h (21, .long, 16) (by decide +kernel)
theorem mo_22 {D : va_G} {g : ClassId → FieldType → Prop} {H : Heap} {o : Nat} {r : Nat → Nat} {i : Nat → Int32} (h : mo_ D g H o r i) : sx_A g .long H (r 22) 16 := h.2 (22, .long, 16) (by decide +kernel)
theorem mow_22 {E : Nat → Prop} {r : Nat → Nat} (h : ∀ q ∈ mo_arr, E (r q.1)) : E (r 22) := h (22, .long, 16) (by decide +kernel)
theorem mo_23 {D : va_G} {g : ClassId → FieldType → Prop} {H : Heap} {o : Nat} {r : Nat → Nat} {i : Nat → Int32} (h : mo_ D g H o r i) : sx_A g .long H (r 23) 16 := h.2 (23, .long, 16) (by decide +kernel)
theorem mow_23 {E : Nat → Prop} {r : Nat → Nat} (h : ∀ q ∈ mo_arr, E (r q.1)) : E (r 23) := h (23, .long, 16) (by decide +kernel)
theorem mo_24 {D : va_G} {g : ClassId → FieldType → Prop} {H : Heap} {o : Nat} {r : Nat → Nat} {i : Nat → Int32} (h : mo_ D g H o r i) : sx_A g .long H (r 24) 16 := h.2 (24, .long, 16) (by decide +kernel)
theorem mow_24 {E : Nat → Prop} {r : Nat → Nat} (h : ∀ q ∈ mo_arr, E (r q.1)) : E (r 24) := h (24, .long, 16) (by decide +kernel)
theorem mo_25 {D : va_G} {g : ClassId → FieldType → Prop} {H : Heap} {o : Nat} {r : Nat → Nat} {i : Nat → Int32} (h : mo_ D g H o r i) : sx_A g .long H (r 25) 16 := h.2 (25, .long, 16) (by decide +kernel)
theorem mow_25 {E : Nat → Prop} {r : Nat → Nat} (h : ∀ q ∈ mo_arr, E (r q.1)) : E (r 25) := h (25, .long, 16) (by decide +kernel)
theorem mo_26 {D : va_G} {g : ClassId → FieldType → Prop} {H : Heap} {o : Nat} {r : Nat → Nat} {i : Nat → Int32} (h : mo_ D g H o r i) : sx_A g .long H (r 26) 16 := h.2 (26, .long, 16) (by decide +kernel)
theorem mow_26 {E : Nat → Prop} {r : Nat → Nat} (h : ∀ q ∈ mo_arr, E (r q.1)) : E (r 26) := h (26, .long, 16) (by decide +kernel)
theorem mo_27 {D : va_G} {g : ClassId → FieldType → Prop} {H : Heap} {o : Nat} {r : Nat → Nat} {i : Nat → Int32} (h : mo_ D g H o r i) : sx_A g .long H (r 27) 16 := h.2 (27, .long, 16) (by decide +kernel)
theorem mow_27 {E : Nat → Prop} {r : Nat → Nat} (h : ∀ q ∈ mo_arr, E (r q.1)) : E (r 27) := h (27, .long, 16) (by decide +kernel)
theorem mo_28 {D : va_G} {g : ClassId → FieldType → Prop} {H : Heap} {o : Nat} {r : Nat → Nat} {i : Nat → Int32} (h : mo_ D g H o r i) : sx_A g .long H (r 28) 16 := h.2 (28, .long, 16) (by decide +kernel)
theorem mow_28 {E : Nat → Prop} {r : Nat → Nat} (h : ∀ q ∈ mo_arr, E (r q.1)) : E (r 28) := h (28, .long, 16) (by decide +kernel)
theorem mo_29 {D : va_G} {g : ClassId → FieldType → Prop} {H : Heap} {o : Nat} {r : Nat → Nat} {i : Nat → Int32} (h : mo_ D g H o r i) : sx_A g .long H (r 29) 16 := h.2 (29, .long, 16) (by decide +kernel)
theorem mow_29 {E : Nat → Prop} {r : Nat → Nat} (h : ∀ q ∈ mo_arr, E (r q.1)) : E (r 29) := h (29, .long, 16) (by decide +kernel)
theorem mo_30 {D : va_G} {g : ClassId → FieldType → Prop} {H : Heap} {o : Nat} {r : Nat → Nat} {i : Nat → Int32} (h : mo_ D g H o r i) : sx_A g .long H (r 30) 16 := h.2 (30, .long, 16) (by decide +kernel)
theorem mow_30 {E : Nat → Prop} {r : Nat → Nat} (h : ∀ q ∈ mo_arr, E (r q.1)) : E (r 30) := h (30, .long, 16) (by decide +kernel)
theorem mo_31 {D : va_G} {g : ClassId → FieldType → Prop} {H : Heap} {o : Nat} {r : Nat → Nat} {i : Nat → Int32} (h : mo_ D g H o r i) : sx_A g .long H (r 31) 16 := h.2 (31, .long, 16) (by decide +kernel)
theorem mow_31 {E : Nat → Prop} {r : Nat → Nat} (h : ∀ q ∈ mo_arr, E (r q.1)) : E (r 31) := h (31, .long, 16) (by decide +kernel)
theorem mo_32 {D : va_G} {g : ClassId → FieldType → Prop} {H : Heap} {o : Nat} {r : Nat → Nat} {i : Nat → Int32} (h : mo_ D g H o r i) : sx_A g .long H (r 32) 16 := h.2 (32, .long, 16) (by decide +kernel)
theorem mow_32 {E : Nat → Prop} {r : Nat → Nat} (h : ∀ q ∈ mo_arr, E (r q.1)) : E (r 32) := h (32, .long, 16) (by decide +kernel)
theorem mo_33 {D : va_G} {g : ClassId → FieldType → Prop} {H : Heap} {o : Nat} {r : Nat → Nat} {i : Nat → Int32} (h : mo_ D g H o r i) : sx_A g .long H (r 33) 16 := h.2 (33, .long, 16) (by decide +kernel)
theorem mow_33 {E : Nat → Prop} {r : Nat → Nat} (h : ∀ q ∈ mo_arr, E (r q.1)) : E (r 33) := h (33, .long, 16) (by decide +kernel)
theorem mo_34 {D : va_G} {g : ClassId → FieldType → Prop} {H : Heap} {o : Nat} {r : Nat → Nat} {i : Nat → Int32} (h : mo_ D g H o r i) : sx_A g .long H (r 34) 16 := h.2 (34, .long, 16) (by decide +kernel)
theorem mow_34 {E : Nat → Prop} {r : Nat → Nat} (h : ∀ q ∈ mo_arr, E (r q.1)) : E (r 34) := h (34, .long, 16) (by decide +kernel)
theorem mo_35 {D : va_G} {g : ClassId → FieldType → Prop} {H : Heap} {o : Nat} {r : Nat → Nat} {i : Nat → Int32} (h : mo_ D g H o r i) : sx_A g .byte H (r 35) 32 := h.2 (35, .byte, 32) (by decide +kernel)
theorem mow_35 {E : Nat → Prop} {r : Nat → Nat} (h : ∀ q ∈ mo_arr, E (r q.1)) : E (r 35) := h (35, .byte, 32) (by decide +kernel)
theorem mo_36 {D : va_G} {g : ClassId → FieldType → Prop} {H : Heap} {o : Nat} {r : Nat → Nat} {i : Nat → Int32} (h : mo_ D g H o r i) : sx_A g .byte H (r 36) 32 := h.2 (36, .byte, 32) (by decide +kernel)
theorem mow_36 {E : Nat → Prop} {r : Nat → Nat} (h : ∀ q ∈ mo_arr, E (r q.1)) : E (r 36) := h (36, .byte, 32) (by decide +kernel)
theorem mo_37 {D : va_G} {g : ClassId → FieldType → Prop} {H : Heap} {o : Nat} {r : Nat → Nat} {i : Nat → Int32} (h : mo_ D g H o r i) : sx_A g .byte H (r 37) 32 := h.2 (37, .byte, 32) (by decide +kernel)
theorem mow_37 {E : Nat → Prop} {r : Nat → Nat} (h : ∀ q ∈ mo_arr, E (r q.1)) : E (r 37) := h (37, .byte, 32) (by decide +kernel)
theorem mo_38 {D : va_G} {g : ClassId → FieldType → Prop} {H : Heap} {o : Nat} {r : Nat → Nat} {i : Nat → Int32} (h : mo_ D g H o r i) : sx_A g .byte H (r 38) 65664 := h.2 (38, .byte, 65664) (by decide +kernel)
theorem mow_38 {E : Nat → Prop} {r : Nat → Nat} (h : ∀ q ∈ mo_arr, E (r q.1)) : E (r 38) := h (38, .byte, 65664) (by decide +kernel)
theorem mo_39 {D : va_G} {g : ClassId → FieldType → Prop} {H : Heap} {o : Nat} {r : Nat → Nat} {i : Nat → Int32} (h : mo_ D g H o r i) : sx_A g .int H (r 39) 8 := h.2 (39, .int, 8) (by decide +kernel)
theorem mow_39 {E : Nat → Prop} {r : Nat → Nat} (h : ∀ q ∈ mo_arr, E (r q.1)) : E (r 39) := h (39, .int, 8) (by decide +kernel)
theorem mo_40 {D : va_G} {g : ClassId → FieldType → Prop} {H : Heap} {o : Nat} {r : Nat → Nat} {i : Nat → Int32} (h : mo_ D g H o r i) : sx_A g .long H (r 40) 32 := h.2 (40, .long, 32) (by decide +kernel)
theorem mow_40 {E : Nat → Prop} {r : Nat → Nat} (h : ∀ q ∈ mo_arr, E (r q.1)) : E (r 40) := h (40, .long, 32) (by decide +kernel)
theorem mo_41 {D : va_G} {g : ClassId → FieldType → Prop} {H : Heap} {o : Nat} {r : Nat → Nat} {i : Nat → Int32} (h : mo_ D g H o r i) : sx_A g .long H (r 41) 18 := h.2 (41, .long, 18) (by decide +kernel)
theorem mow_41 {E : Nat → Prop} {r : Nat → Nat} (h : ∀ q ∈ mo_arr, E (r q.1)) : E (r 41) := h (41, .long, 18) (by decide +kernel)
theorem mo_42 {D : va_G} {g : ClassId → FieldType → Prop} {H : Heap} {o : Nat} {r : Nat → Nat} {i : Nat → Int32} (h : mo_ D g H o r i) : sx_A g .long H (r 42) 16 := h.2 (42, .long, 16) (by decide +kernel)
theorem mow_42 {E : Nat → Prop} {r : Nat → Nat} (h : ∀ q ∈ mo_arr, E (r q.1)) : E (r 42) := h (42, .long, 16) (by decide +kernel)
theorem mo_43 {D : va_G} {g : ClassId → FieldType → Prop} {H : Heap} {o : Nat} {r : Nat → Nat} {i : Nat → Int32} (h : mo_ D g H o r i) : sx_A g .long H (r 43) 16 := h.2 (43, .long, 16) (by decide +kernel)
theorem mow_43 {E : Nat → Prop} {r : Nat → Nat} (h : ∀ q ∈ mo_arr, E (r q.1)) : E (r 43) := h (43, .long, 16) (by decide +kernel)
theorem mo_44 {D : va_G} {g : ClassId → FieldType → Prop} {H : Heap} {o : Nat} {r : Nat → Nat} {i : Nat → Int32} (h : mo_ D g H o r i) : sx_A g .long H (r 44) 17 := h.2 (44, .long, 17) (by decide +kernel)
theorem mow_44 {E : Nat → Prop} {r : Nat → Nat} (h : ∀ q ∈ mo_arr, E (r q.1)) : E (r 44) := h (44, .long, 17) (by decide +kernel)
theorem mo_45 {D : va_G} {g : ClassId → FieldType → Prop} {H : Heap} {o : Nat} {r : Nat → Nat} {i : Nat → Int32} (h : mo_ D g H o r i) : sx_A g .long H (r 45) 17 := h.2 (45, .long, 17) (by decide +kernel)
theorem mow_45 {E : Nat → Prop} {r : Nat → Nat} (h : ∀ q ∈ mo_arr, E (r q.1)) : E (r 45) := h (45, .long, 17) (by decide +kernel)
theorem mo_46 {D : va_G} {g : ClassId → FieldType → Prop} {H : Heap} {o : Nat} {r : Nat → Nat} {i : Nat → Int32} (h : mo_ D g H o r i) : sx_A g .long H (r 46) 80 := h.2 (46, .long, 80) (by decide +kernel)
theorem mow_46 {E : Nat → Prop} {r : Nat → Nat} (h : ∀ q ∈ mo_arr, E (r q.1)) : E (r 46) := h (46, .long, 80) (by decide +kernel)
theorem mo_47 {D : va_G} {g : ClassId → FieldType → Prop} {H : Heap} {o : Nat} {r : Nat → Nat} {i : Nat → Int32} (h : mo_ D g H o r i) : sx_A g .long H (r 47) 8 := h.2 (47, .long, 8) (by decide +kernel)
theorem mow_47 {E : Nat → Prop} {r : Nat → Nat} (h : ∀ q ∈ mo_arr, E (r q.1)) : E (r 47) := h (47, .long, 8) (by decide +kernel)
theorem mo_48 {D : va_G} {g : ClassId → FieldType → Prop} {H : Heap} {o : Nat} {r : Nat → Nat} {i : Nat → Int32} (h : mo_ D g H o r i) : sx_A g .long H (r 48) 80 := h.2 (48, .long, 80) (by decide +kernel)
theorem mow_48 {E : Nat → Prop} {r : Nat → Nat} (h : ∀ q ∈ mo_arr, E (r q.1)) : E (r 48) := h (48, .long, 80) (by decide +kernel)
theorem mo_49 {D : va_G} {g : ClassId → FieldType → Prop} {H : Heap} {o : Nat} {r : Nat → Nat} {i : Nat → Int32} (h : mo_ D g H o r i) : sx_A g .long H (r 49) 8 := h.2 (49, .long, 8) (by decide +kernel)
theorem mow_49 {E : Nat → Prop} {r : Nat → Nat} (h : ∀ q ∈ mo_arr, E (r q.1)) : E (r 49) := h (49, .long, 8) (by decide +kernel)
theorem mo_50 {D : va_G} {g : ClassId → FieldType → Prop} {H : Heap} {o : Nat} {r : Nat → Nat} {i : Nat → Int32} (h : mo_ D g H o r i) : sx_A g .long H (r 50) 8 := h.2 (50, .long, 8) (by decide +kernel)
theorem mow_50 {E : Nat → Prop} {r : Nat → Nat} (h : ∀ q ∈ mo_arr, E (r q.1)) : E (r 50) := h (50, .long, 8) (by decide +kernel)
theorem mo_51 {D : va_G} {g : ClassId → FieldType → Prop} {H : Heap} {o : Nat} {r : Nat → Nat} {i : Nat → Int32} (h : mo_ D g H o r i) : sx_A g .long H (r 51) 8 := h.2 (51, .long, 8) (by decide +kernel)
theorem mow_51 {E : Nat → Prop} {r : Nat → Nat} (h : ∀ q ∈ mo_arr, E (r q.1)) : E (r 51) := h (51, .long, 8) (by decide +kernel)
theorem mo_52 {D : va_G} {g : ClassId → FieldType → Prop} {H : Heap} {o : Nat} {r : Nat → Nat} {i : Nat → Int32} (h : mo_ D g H o r i) : sx_A g .byte H (r 52) 64 := h.2 (52, .byte, 64) (by decide +kernel)
theorem mow_52 {E : Nat → Prop} {r : Nat → Nat} (h : ∀ q ∈ mo_arr, E (r q.1)) : E (r 52) := h (52, .byte, 64) (by decide +kernel)
end
