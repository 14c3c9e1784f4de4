/-! 01.tables -/
section
/-- a private method of a class that the tables say can be made, by its rows of tables_1 -/
def lw_okq (q : MethodName × Nat) : Prop := (q.1.cls ≠ "java/lang/invoke/MethodHandle" ∧ q.1.cls ≠ "java/lang/invoke/VarHandle") ∧ Cond.instantiable q.1.cls q.2 ∈ tables_1 ∧ Cond.privateMethod q.1 ∈ tables_1 ∧ Cond.instanceMethod q.1 ∈ tables_1
theorem lw_p0 : lw_okq (⟨"KitePower$Kite", "startDraft", "()V"⟩, 8) := ⟨⟨by decide +kernel, by decide +kernel⟩, List.mem_of_getElem? (i := 72) (by decide +kernel), List.mem_of_getElem? (i := 78) (by decide +kernel), List.mem_of_getElem? (i := 79) (by decide +kernel)⟩
theorem lw_p1 : lw_okq (⟨"KitePower$Kite", "useDraft", "()V"⟩, 8) := ⟨⟨by decide +kernel, by decide +kernel⟩, List.mem_of_getElem? (i := 72) (by decide +kernel), List.mem_of_getElem? (i := 93) (by decide +kernel), List.mem_of_getElem? (i := 94) (by decide +kernel)⟩
theorem lw_p2 : lw_okq (⟨"KitePower$Tape", "takeWord", "()V"⟩, 8) := ⟨⟨by decide +kernel, by decide +kernel⟩, List.mem_of_getElem? (i := 34) (by decide +kernel), List.mem_of_getElem? (i := 595) (by decide +kernel), List.mem_of_getElem? (i := 596) (by decide +kernel)⟩
theorem lw_p3 : lw_okq (⟨"KitePower$Tape", "takeNumber", "()V"⟩, 8) := ⟨⟨by decide +kernel, by decide +kernel⟩, List.mem_of_getElem? (i := 34) (by decide +kernel), List.mem_of_getElem? (i := 602) (by decide +kernel), List.mem_of_getElem? (i := 603) (by decide +kernel)⟩
theorem lw_p4 : lw_okq (⟨"KitePower$Kite", "takeClause", "(LKitePower$Tape;I)Z"⟩, 8) := ⟨⟨by decide +kernel, by decide +kernel⟩, List.mem_of_getElem? (i := 72) (by decide +kernel), List.mem_of_getElem? (i := 667) (by decide +kernel), List.mem_of_getElem? (i := 668) (by decide +kernel)⟩
theorem lw_p5 : lw_okq (⟨"KitePower$Kite", "takeList", "(LKitePower$Tape;III)Z"⟩, 8) := ⟨⟨by decide +kernel, by decide +kernel⟩, List.mem_of_getElem? (i := 72) (by decide +kernel), List.mem_of_getElem? (i := 671) (by decide +kernel), List.mem_of_getElem? (i := 672) (by decide +kernel)⟩
theorem lw_p6 : lw_okq (⟨"KitePower$Rules", "takeLine", "(LKitePower$Tape;I)Z"⟩, 4) := ⟨⟨by decide +kernel, by decide +kernel⟩, List.mem_of_getElem? (i := 186) (by decide +kernel), List.mem_of_getElem? (i := 719) (by decide +kernel), List.mem_of_getElem? (i := 720) (by decide +kernel)⟩
theorem lw_p7 : lw_okq (⟨"KitePower$Rules", "takeConds", "(LKitePower$Tape;I)Z"⟩, 4) := ⟨⟨by decide +kernel, by decide +kernel⟩, List.mem_of_getElem? (i := 186) (by decide +kernel), List.mem_of_getElem? (i := 726) (by decide +kernel), List.mem_of_getElem? (i := 727) (by decide +kernel)⟩
theorem lw_p8 : lw_okq (⟨"KitePower$Rules", "takeCond", "(LKitePower$Tape;I)Z"⟩, 4) := ⟨⟨by decide +kernel, by decide +kernel⟩, List.mem_of_getElem? (i := 186) (by decide +kernel), List.mem_of_getElem? (i := 730) (by decide +kernel), List.mem_of_getElem? (i := 731) (by decide +kernel)⟩
theorem lw_p9 : lw_okq (⟨"KitePower$Rules", "takeAct", "(LKitePower$Tape;I)Z"⟩, 4) := ⟨⟨by decide +kernel, by decide +kernel⟩, List.mem_of_getElem? (i := 186) (by decide +kernel), List.mem_of_getElem? (i := 739) (by decide +kernel), List.mem_of_getElem? (i := 740) (by decide +kernel)⟩
theorem lw_p10 : lw_okq (⟨"KitePower", "canAsk", "(III)Z"⟩, 15) := ⟨⟨by decide +kernel, by decide +kernel⟩, List.mem_of_getElem? (i := 26) (by decide +kernel), List.mem_of_getElem? (i := 861) (by decide +kernel), List.mem_of_getElem? (i := 862) (by decide +kernel)⟩
theorem lw_p11 : lw_okq (⟨"KitePower$Hours", "foundAlike", "(I)I"⟩, 10) := ⟨⟨by decide +kernel, by decide +kernel⟩, List.mem_of_getElem? (i := 206) (by decide +kernel), List.mem_of_getElem? (i := 913) (by decide +kernel), List.mem_of_getElem? (i := 914) (by decide +kernel)⟩
theorem lw_p12 : lw_okq (⟨"KitePower$LoopFinder", "weighOptions", "(I)V"⟩, 18) := ⟨⟨by decide +kernel, by decide +kernel⟩, List.mem_of_getElem? (i := 214) (by decide +kernel), List.mem_of_getElem? (i := 931) (by decide +kernel), List.mem_of_getElem? (i := 932) (by decide +kernel)⟩
theorem lw_p13 : lw_okq (⟨"KitePower$LoopFinder", "weighOption", "(IIZII)V"⟩, 18) := ⟨⟨by decide +kernel, by decide +kernel⟩, List.mem_of_getElem? (i := 214) (by decide +kernel), List.mem_of_getElem? (i := 945) (by decide +kernel), List.mem_of_getElem? (i := 946) (by decide +kernel)⟩
theorem lw_p14 : lw_okq (⟨"KitePower$LoopFinder", "drawPaths", "()V"⟩, 18) := ⟨⟨by decide +kernel, by decide +kernel⟩, List.mem_of_getElem? (i := 214) (by decide +kernel), List.mem_of_getElem? (i := 953) (by decide +kernel), List.mem_of_getElem? (i := 954) (by decide +kernel)⟩
theorem lw_p15 : lw_okq (⟨"KitePower$LoopFinder", "drawMove", "(IIII)I"⟩, 18) := ⟨⟨by decide +kernel, by decide +kernel⟩, List.mem_of_getElem? (i := 214) (by decide +kernel), List.mem_of_getElem? (i := 959) (by decide +kernel), List.mem_of_getElem? (i := 960) (by decide +kernel)⟩
def lw_privs_1 : List (MethodName × Nat) := [(⟨"KitePower$Kite", "startDraft", "()V"⟩, 8), (⟨"KitePower$Kite", "useDraft", "()V"⟩, 8), (⟨"KitePower$Tape", "takeWord", "()V"⟩, 8), (⟨"KitePower$Tape", "takeNumber", "()V"⟩, 8), (⟨"KitePower$Kite", "takeClause", "(LKitePower$Tape;I)Z"⟩, 8), (⟨"KitePower$Kite", "takeList", "(LKitePower$Tape;III)Z"⟩, 8), (⟨"KitePower$Rules", "takeLine", "(LKitePower$Tape;I)Z"⟩, 4), (⟨"KitePower$Rules", "takeConds", "(LKitePower$Tape;I)Z"⟩, 4), (⟨"KitePower$Rules", "takeCond", "(LKitePower$Tape;I)Z"⟩, 4), (⟨"KitePower$Rules", "takeAct", "(LKitePower$Tape;I)Z"⟩, 4), (⟨"KitePower", "canAsk", "(III)Z"⟩, 15), (⟨"KitePower$Hours", "foundAlike", "(I)I"⟩, 10), (⟨"KitePower$LoopFinder", "weighOptions", "(I)V"⟩, 18), (⟨"KitePower$LoopFinder", "weighOption", "(IIZII)V"⟩, 18), (⟨"KitePower$LoopFinder", "drawPaths", "()V"⟩, 18), (⟨"KitePower$LoopFinder", "drawMove", "(IIII)I"⟩, 18)]
theorem lw_r1 : ∀ q ∈ lw_privs_1, lw_okq q := List.forall_mem_cons.mpr ⟨lw_p0, List.forall_mem_cons.mpr ⟨lw_p1, List.forall_mem_cons.mpr ⟨lw_p2, List.forall_mem_cons.mpr ⟨lw_p3, List.forall_mem_cons.mpr ⟨lw_p4, List.forall_mem_cons.mpr ⟨lw_p5, List.forall_mem_cons.mpr ⟨lw_p6, List.forall_mem_cons.mpr ⟨lw_p7, List.forall_mem_cons.mpr ⟨lw_p8, List.forall_mem_cons.mpr ⟨lw_p9, List.forall_mem_cons.mpr ⟨lw_p10, List.forall_mem_cons.mpr ⟨lw_p11, List.forall_mem_cons.mpr ⟨lw_p12, List.forall_mem_cons.mpr ⟨lw_p13, List.forall_mem_cons.mpr ⟨lw_p14, List.forall_mem_cons.mpr ⟨lw_p15, fun _ h => absurd h List.not_mem_nil⟩⟩⟩⟩⟩⟩⟩⟩⟩⟩⟩⟩⟩⟩⟩⟩
theorem lw_p16 : lw_okq (⟨"KitePower$LoopFinder", "takeBetterMean", "()Z"⟩, 18) := ⟨⟨by decide +kernel, by decide +kernel⟩, List.mem_of_getElem? (i := 214) (by decide +kernel), List.mem_of_getElem? (i := 968) (by decide +kernel), List.mem_of_getElem? (i := 969) (by decide +kernel)⟩
theorem lw_p17 : lw_okq (⟨"KitePower$LoopFinder", "raiseLevels", "()Z"⟩, 18) := ⟨⟨by decide +kernel, by decide +kernel⟩, List.mem_of_getElem? (i := 214) (by decide +kernel), List.mem_of_getElem? (i := 972) (by decide +kernel), List.mem_of_getElem? (i := 973) (by decide +kernel)⟩
theorem lw_p18 : lw_okq (⟨"KitePower$LoopFinder", "raiseFrom", "(I)Z"⟩, 18) := ⟨⟨by decide +kernel, by decide +kernel⟩, List.mem_of_getElem? (i := 214) (by decide +kernel), List.mem_of_getElem? (i := 976) (by decide +kernel), List.mem_of_getElem? (i := 977) (by decide +kernel)⟩
theorem lw_p19 : lw_okq (⟨"KitePower$LoopFinder", "takeBestRing", "()Z"⟩, 18) := ⟨⟨by decide +kernel, by decide +kernel⟩, List.mem_of_getElem? (i := 214) (by decide +kernel), List.mem_of_getElem? (i := 980) (by decide +kernel), List.mem_of_getElem? (i := 981) (by decide +kernel)⟩
theorem lw_p20 : lw_okq (⟨"KitePower$LoopFinder", "takeRing", "(I)Z"⟩, 18) := ⟨⟨by decide +kernel, by decide +kernel⟩, List.mem_of_getElem? (i := 214) (by decide +kernel), List.mem_of_getElem? (i := 984) (by decide +kernel), List.mem_of_getElem? (i := 985) (by decide +kernel)⟩
theorem lw_p21 : lw_okq (⟨"KitePower$LoopFinder", "keepTightPaths", "()V"⟩, 18) := ⟨⟨by decide +kernel, by decide +kernel⟩, List.mem_of_getElem? (i := 214) (by decide +kernel), List.mem_of_getElem? (i := 988) (by decide +kernel), List.mem_of_getElem? (i := 989) (by decide +kernel)⟩
theorem lw_p22 : lw_okq (⟨"KitePower$LoopFinder", "shortestFrom", "(II)I"⟩, 18) := ⟨⟨by decide +kernel, by decide +kernel⟩, List.mem_of_getElem? (i := 214) (by decide +kernel), List.mem_of_getElem? (i := 992) (by decide +kernel), List.mem_of_getElem? (i := 993) (by decide +kernel)⟩
theorem lw_p23 : lw_okq (⟨"KitePower$LoopFinder", "markWaysBack", "(II)V"⟩, 18) := ⟨⟨by decide +kernel, by decide +kernel⟩, List.mem_of_getElem? (i := 214) (by decide +kernel), List.mem_of_getElem? (i := 996) (by decide +kernel), List.mem_of_getElem? (i := 997) (by decide +kernel)⟩
theorem lw_p24 : lw_okq (⟨"KitePower$LoopFinder", "goesOn", "(IIII)Z"⟩, 18) := ⟨⟨by decide +kernel, by decide +kernel⟩, List.mem_of_getElem? (i := 214) (by decide +kernel), List.mem_of_getElem? (i := 1000) (by decide +kernel), List.mem_of_getElem? (i := 1001) (by decide +kernel)⟩
theorem lw_p25 : lw_okq (⟨"KitePower$LoopFinder", "writeLoop", "(IILKitePower$Row;)V"⟩, 18) := ⟨⟨by decide +kernel, by decide +kernel⟩, List.mem_of_getElem? (i := 214) (by decide +kernel), List.mem_of_getElem? (i := 1004) (by decide +kernel), List.mem_of_getElem? (i := 1005) (by decide +kernel)⟩
theorem lw_p26 : lw_okq (⟨"KitePower", "judgeTape", "(II)I"⟩, 15) := ⟨⟨by decide +kernel, by decide +kernel⟩, List.mem_of_getElem? (i := 26) (by decide +kernel), List.mem_of_getElem? (i := 1017) (by decide +kernel), List.mem_of_getElem? (i := 1018) (by decide +kernel)⟩
theorem lw_p27 : lw_okq (⟨"KitePower$Flight", "flyTick", "(I)V"⟩, 12) := ⟨⟨by decide +kernel, by decide +kernel⟩, List.mem_of_getElem? (i := 369) (by decide +kernel), List.mem_of_getElem? (i := 1066) (by decide +kernel), List.mem_of_getElem? (i := 1067) (by decide +kernel)⟩
theorem lw_p28 : lw_okq (⟨"KitePower$Rules", "holds", "(III)Z"⟩, 4) := ⟨⟨by decide +kernel, by decide +kernel⟩, List.mem_of_getElem? (i := 186) (by decide +kernel), List.mem_of_getElem? (i := 1074) (by decide +kernel), List.mem_of_getElem? (i := 1075) (by decide +kernel)⟩
theorem lw_p29 : lw_okq (⟨"KitePower$Rules", "valueOf", "(III)I"⟩, 4) := ⟨⟨by decide +kernel, by decide +kernel⟩, List.mem_of_getElem? (i := 186) (by decide +kernel), List.mem_of_getElem? (i := 1078) (by decide +kernel), List.mem_of_getElem? (i := 1079) (by decide +kernel)⟩
theorem lw_p30 : lw_okq (⟨"KitePower$Flight", "markLost", "(IZ)V"⟩, 12) := ⟨⟨by decide +kernel, by decide +kernel⟩, List.mem_of_getElem? (i := 369) (by decide +kernel), List.mem_of_getElem? (i := 1107) (by decide +kernel), List.mem_of_getElem? (i := 1108) (by decide +kernel)⟩
theorem lw_p31 : lw_okq (⟨"KitePower", "canPair", "(IIII)Z"⟩, 15) := ⟨⟨by decide +kernel, by decide +kernel⟩, List.mem_of_getElem? (i := 26) (by decide +kernel), List.mem_of_getElem? (i := 1160) (by decide +kernel), List.mem_of_getElem? (i := 1161) (by decide +kernel)⟩
def lw_privs_2 : List (MethodName × Nat) := [(⟨"KitePower$LoopFinder", "takeBetterMean", "()Z"⟩, 18), (⟨"KitePower$LoopFinder", "raiseLevels", "()Z"⟩, 18), (⟨"KitePower$LoopFinder", "raiseFrom", "(I)Z"⟩, 18), (⟨"KitePower$LoopFinder", "takeBestRing", "()Z"⟩, 18), (⟨"KitePower$LoopFinder", "takeRing", "(I)Z"⟩, 18), (⟨"KitePower$LoopFinder", "keepTightPaths", "()V"⟩, 18), (⟨"KitePower$LoopFinder", "shortestFrom", "(II)I"⟩, 18), (⟨"KitePower$LoopFinder", "markWaysBack", "(II)V"⟩, 18), (⟨"KitePower$LoopFinder", "goesOn", "(IIII)Z"⟩, 18), (⟨"KitePower$LoopFinder", "writeLoop", "(IILKitePower$Row;)V"⟩, 18), (⟨"KitePower", "judgeTape", "(II)I"⟩, 15), (⟨"KitePower$Flight", "flyTick", "(I)V"⟩, 12), (⟨"KitePower$Rules", "holds", "(III)Z"⟩, 4), (⟨"KitePower$Rules", "valueOf", "(III)I"⟩, 4), (⟨"KitePower$Flight", "markLost", "(IZ)V"⟩, 12), (⟨"KitePower", "canPair", "(IIII)Z"⟩, 15)]
theorem lw_r2 : ∀ q ∈ lw_privs_2, lw_okq q := List.forall_mem_cons.mpr ⟨lw_p16, List.forall_mem_cons.mpr ⟨lw_p17, List.forall_mem_cons.mpr ⟨lw_p18, List.forall_mem_cons.mpr ⟨lw_p19, List.forall_mem_cons.mpr ⟨lw_p20, List.forall_mem_cons.mpr ⟨lw_p21, List.forall_mem_cons.mpr ⟨lw_p22, List.forall_mem_cons.mpr ⟨lw_p23, List.forall_mem_cons.mpr ⟨lw_p24, List.forall_mem_cons.mpr ⟨lw_p25, List.forall_mem_cons.mpr ⟨lw_p26, List.forall_mem_cons.mpr ⟨lw_p27, List.forall_mem_cons.mpr ⟨lw_p28, List.forall_mem_cons.mpr ⟨lw_p29, List.forall_mem_cons.mpr ⟨lw_p30, List.forall_mem_cons.mpr ⟨lw_p31, fun _ h => absurd h List.not_mem_nil⟩⟩⟩⟩⟩⟩⟩⟩⟩⟩⟩⟩⟩⟩⟩⟩
theorem lw_p32 : lw_okq (⟨"KitePower", "areKept", "(II)Z"⟩, 15) := ⟨⟨by decide +kernel, by decide +kernel⟩, List.mem_of_getElem? (i := 26) (by decide +kernel), List.mem_of_getElem? (i := 1167) (by decide +kernel), List.mem_of_getElem? (i := 1168) (by decide +kernel)⟩
theorem lw_p33 : lw_okq (⟨"KitePower$Field", "worthOf", "(I)I"⟩, 6) := ⟨⟨by decide +kernel, by decide +kernel⟩, List.mem_of_getElem? (i := 418) (by decide +kernel), List.mem_of_getElem? (i := 1209) (by decide +kernel), List.mem_of_getElem? (i := 1210) (by decide +kernel)⟩
theorem lw_p34 : lw_okq (⟨"KitePower", "canRead", "(III)Z"⟩, 15) := ⟨⟨by decide +kernel, by decide +kernel⟩, List.mem_of_getElem? (i := 26) (by decide +kernel), List.mem_of_getElem? (i := 1251) (by decide +kernel), List.mem_of_getElem? (i := 1252) (by decide +kernel)⟩
theorem lw_p35 : lw_okq (⟨"KitePower$Readings", "spanOf", "(II)I"⟩, 13) := ⟨⟨by decide +kernel, by decide +kernel⟩, List.mem_of_getElem? (i := 462) (by decide +kernel), List.mem_of_getElem? (i := 1277) (by decide +kernel), List.mem_of_getElem? (i := 1278) (by decide +kernel)⟩
theorem lw_p36 : lw_okq (⟨"KitePower$Readings", "sharesOf", "(II)I"⟩, 13) := ⟨⟨by decide +kernel, by decide +kernel⟩, List.mem_of_getElem? (i := 462) (by decide +kernel), List.mem_of_getElem? (i := 1281) (by decide +kernel), List.mem_of_getElem? (i := 1282) (by decide +kernel)⟩
theorem lw_p37 : lw_okq (⟨"KitePower$Readings", "greatestHeap", "(IIII)I"⟩, 13) := ⟨⟨by decide +kernel, by decide +kernel⟩, List.mem_of_getElem? (i := 462) (by decide +kernel), List.mem_of_getElem? (i := 1304) (by decide +kernel), List.mem_of_getElem? (i := 1305) (by decide +kernel)⟩
theorem lw_p38 : lw_okq (⟨"java/lang/Throwable", "fillInStackTrace", "(I)Ljava/lang/Throwable;"⟩, 6) := ⟨⟨by decide +kernel, by decide +kernel⟩, List.mem_of_getElem? (i := 1353) (by decide +kernel), List.mem_of_getElem? (i := 1351) (by decide +kernel), List.mem_of_getElem? (i := 1352) (by decide +kernel)⟩
theorem lw_p39 : lw_okq (⟨"KitePowerModel", "plain", "()V"⟩, 110) := ⟨⟨by decide +kernel, by decide +kernel⟩, List.mem_of_getElem? (i := 1313) (by decide +kernel), List.mem_of_getElem? (i := 1379) (by decide +kernel), List.mem_of_getElem? (i := 1380) (by decide +kernel)⟩
theorem lw_p40 : lw_okq (⟨"KitePowerModel", "takeKite", "()V"⟩, 110) := ⟨⟨by decide +kernel, by decide +kernel⟩, List.mem_of_getElem? (i := 1313) (by decide +kernel), List.mem_of_getElem? (i := 1385) (by decide +kernel), List.mem_of_getElem? (i := 1386) (by decide +kernel)⟩
theorem lw_p41 : lw_okq (⟨"KitePowerModel", "lay", "(I)V"⟩, 110) := ⟨⟨by decide +kernel, by decide +kernel⟩, List.mem_of_getElem? (i := 1313) (by decide +kernel), List.mem_of_getElem? (i := 1725) (by decide +kernel), List.mem_of_getElem? (i := 1726) (by decide +kernel)⟩
theorem lw_p42 : lw_okq (⟨"KitePowerModel", "begin", "()V"⟩, 110) := ⟨⟨by decide +kernel, by decide +kernel⟩, List.mem_of_getElem? (i := 1313) (by decide +kernel), List.mem_of_getElem? (i := 1740) (by decide +kernel), List.mem_of_getElem? (i := 1741) (by decide +kernel)⟩
theorem lw_p43 : lw_okq (⟨"KitePowerModel", "scan", "()V"⟩, 110) := ⟨⟨by decide +kernel, by decide +kernel⟩, List.mem_of_getElem? (i := 1313) (by decide +kernel), List.mem_of_getElem? (i := 1744) (by decide +kernel), List.mem_of_getElem? (i := 1745) (by decide +kernel)⟩
theorem lw_p44 : lw_okq (⟨"KitePowerModel", "byteAt", "(I)I"⟩, 110) := ⟨⟨by decide +kernel, by decide +kernel⟩, List.mem_of_getElem? (i := 1313) (by decide +kernel), List.mem_of_getElem? (i := 1748) (by decide +kernel), List.mem_of_getElem? (i := 1749) (by decide +kernel)⟩
theorem lw_p45 : lw_okq (⟨"KitePowerModel", "readKite", "()I"⟩, 110) := ⟨⟨by decide +kernel, by decide +kernel⟩, List.mem_of_getElem? (i := 1313) (by decide +kernel), List.mem_of_getElem? (i := 1758) (by decide +kernel), List.mem_of_getElem? (i := 1759) (by decide +kernel)⟩
theorem lw_p46 : lw_okq (⟨"KitePowerModel", "clauseAtHand", "()I"⟩, 110) := ⟨⟨by decide +kernel, by decide +kernel⟩, List.mem_of_getElem? (i := 1313) (by decide +kernel), List.mem_of_getElem? (i := 1762) (by decide +kernel), List.mem_of_getElem? (i := 1763) (by decide +kernel)⟩
theorem lw_p47 : lw_okq (⟨"KitePowerModel", "is", "(Ljava/lang/String;)Z"⟩, 110) := ⟨⟨by decide +kernel, by decide +kernel⟩, List.mem_of_getElem? (i := 1313) (by decide +kernel), List.mem_of_getElem? (i := 1767) (by decide +kernel), List.mem_of_getElem? (i := 1768) (by decide +kernel)⟩
def lw_privs_3 : List (MethodName × Nat) := [(⟨"KitePower", "areKept", "(II)Z"⟩, 15), (⟨"KitePower$Field", "worthOf", "(I)I"⟩, 6), (⟨"KitePower", "canRead", "(III)Z"⟩, 15), (⟨"KitePower$Readings", "spanOf", "(II)I"⟩, 13), (⟨"KitePower$Readings", "sharesOf", "(II)I"⟩, 13), (⟨"KitePower$Readings", "greatestHeap", "(IIII)I"⟩, 13), (⟨"java/lang/Throwable", "fillInStackTrace", "(I)Ljava/lang/Throwable;"⟩, 6), (⟨"KitePowerModel", "plain", "()V"⟩, 110), (⟨"KitePowerModel", "takeKite", "()V"⟩, 110), (⟨"KitePowerModel", "lay", "(I)V"⟩, 110), (⟨"KitePowerModel", "begin", "()V"⟩, 110), (⟨"KitePowerModel", "scan", "()V"⟩, 110), (⟨"KitePowerModel", "byteAt", "(I)I"⟩, 110), (⟨"KitePowerModel", "readKite", "()I"⟩, 110), (⟨"KitePowerModel", "clauseAtHand", "()I"⟩, 110), (⟨"KitePowerModel", "is", "(Ljava/lang/String;)Z"⟩, 110)]
theorem lw_r3 : ∀ q ∈ lw_privs_3, lw_okq q := List.forall_mem_cons.mpr ⟨lw_p32, List.forall_mem_cons.mpr ⟨lw_p33, List.forall_mem_cons.mpr ⟨lw_p34, List.forall_mem_cons.mpr ⟨lw_p35, List.forall_mem_cons.mpr ⟨lw_p36, List.forall_mem_cons.mpr ⟨lw_p37, List.forall_mem_cons.mpr ⟨lw_p38, List.forall_mem_cons.mpr ⟨lw_p39, List.forall_mem_cons.mpr ⟨lw_p40, List.forall_mem_cons.mpr ⟨lw_p41, List.forall_mem_cons.mpr ⟨lw_p42, List.forall_mem_cons.mpr ⟨lw_p43, List.forall_mem_cons.mpr ⟨lw_p44, List.forall_mem_cons.mpr ⟨lw_p45, List.forall_mem_cons.mpr ⟨lw_p46, List.forall_mem_cons.mpr ⟨lw_p47, fun _ h => absurd h List.not_mem_nil⟩⟩⟩⟩⟩⟩⟩⟩⟩⟩⟩⟩⟩⟩⟩⟩
theorem lw_p48 : lw_okq (⟨"KitePowerModel", "need", "(ZI)V"⟩, 110) := ⟨⟨by decide +kernel, by decide +kernel⟩, List.mem_of_getElem? (i := 1313) (by decide +kernel), List.mem_of_getElem? (i := 1784) (by decide +kernel), List.mem_of_getElem? (i := 1785) (by decide +kernel)⟩
theorem lw_p49 : lw_okq (⟨"KitePowerModel", "wrong", "(I)LKitePowerModel$Stop;"⟩, 110) := ⟨⟨by decide +kernel, by decide +kernel⟩, List.mem_of_getElem? (i := 1313) (by decide +kernel), List.mem_of_getElem? (i := 1788) (by decide +kernel), List.mem_of_getElem? (i := 1789) (by decide +kernel)⟩
theorem lw_p50 : lw_okq (⟨"KitePowerModel", "readRow", "([III)I"⟩, 110) := ⟨⟨by decide +kernel, by decide +kernel⟩, List.mem_of_getElem? (i := 1313) (by decide +kernel), List.mem_of_getElem? (i := 1792) (by decide +kernel), List.mem_of_getElem? (i := 1793) (by decide +kernel)⟩
theorem lw_p51 : lw_okq (⟨"KitePowerModel", "look", "(II)I"⟩, 110) := ⟨⟨by decide +kernel, by decide +kernel⟩, List.mem_of_getElem? (i := 1313) (by decide +kernel), List.mem_of_getElem? (i := 1796) (by decide +kernel), List.mem_of_getElem? (i := 1797) (by decide +kernel)⟩
theorem lw_p52 : lw_okq (⟨"KitePowerModel", "number", "(II)I"⟩, 110) := ⟨⟨by decide +kernel, by decide +kernel⟩, List.mem_of_getElem? (i := 1313) (by decide +kernel), List.mem_of_getElem? (i := 1804) (by decide +kernel), List.mem_of_getElem? (i := 1805) (by decide +kernel)⟩
theorem lw_p53 : lw_okq (⟨"KitePowerModel", "close", "()V"⟩, 110) := ⟨⟨by decide +kernel, by decide +kernel⟩, List.mem_of_getElem? (i := 1313) (by decide +kernel), List.mem_of_getElem? (i := 1808) (by decide +kernel), List.mem_of_getElem? (i := 1809) (by decide +kernel)⟩
theorem lw_p54 : lw_okq (⟨"KitePowerModel", "readLine", "()V"⟩, 110) := ⟨⟨by decide +kernel, by decide +kernel⟩, List.mem_of_getElem? (i := 1313) (by decide +kernel), List.mem_of_getElem? (i := 1816) (by decide +kernel), List.mem_of_getElem? (i := 1817) (by decide +kernel)⟩
theorem lw_p55 : lw_okq (⟨"KitePowerModel", "readCond", "(I)V"⟩, 110) := ⟨⟨by decide +kernel, by decide +kernel⟩, List.mem_of_getElem? (i := 1313) (by decide +kernel), List.mem_of_getElem? (i := 1821) (by decide +kernel), List.mem_of_getElem? (i := 1822) (by decide +kernel)⟩
theorem lw_p56 : lw_okq (⟨"KitePowerModel", "condAtHand", "()I"⟩, 110) := ⟨⟨by decide +kernel, by decide +kernel⟩, List.mem_of_getElem? (i := 1313) (by decide +kernel), List.mem_of_getElem? (i := 1825) (by decide +kernel), List.mem_of_getElem? (i := 1826) (by decide +kernel)⟩
theorem lw_p57 : lw_okq (⟨"KitePowerModel", "moveAtHand", "()I"⟩, 110) := ⟨⟨by decide +kernel, by decide +kernel⟩, List.mem_of_getElem? (i := 1313) (by decide +kernel), List.mem_of_getElem? (i := 1839) (by decide +kernel), List.mem_of_getElem? (i := 1840) (by decide +kernel)⟩
theorem lw_p58 : lw_okq (⟨"KitePowerModel", "drumAtHand", "()I"⟩, 110) := ⟨⟨by decide +kernel, by decide +kernel⟩, List.mem_of_getElem? (i := 1313) (by decide +kernel), List.mem_of_getElem? (i := 1848) (by decide +kernel), List.mem_of_getElem? (i := 1849) (by decide +kernel)⟩
theorem lw_p59 : lw_okq (⟨"KitePowerModel", "isState", "(I)Z"⟩, 110) := ⟨⟨by decide +kernel, by decide +kernel⟩, List.mem_of_getElem? (i := 1313) (by decide +kernel), List.mem_of_getElem? (i := 1872) (by decide +kernel), List.mem_of_getElem? (i := 1873) (by decide +kernel)⟩
theorem lw_p60 : lw_okq (⟨"KitePowerModel", "states", "()I"⟩, 110) := ⟨⟨by decide +kernel, by decide +kernel⟩, List.mem_of_getElem? (i := 1313) (by decide +kernel), List.mem_of_getElem? (i := 1876) (by decide +kernel), List.mem_of_getElem? (i := 1877) (by decide +kernel)⟩
theorem lw_p61 : lw_okq (⟨"KitePowerModel", "columnOf", "(I)I"⟩, 110) := ⟨⟨by decide +kernel, by decide +kernel⟩, List.mem_of_getElem? (i := 1313) (by decide +kernel), List.mem_of_getElem? (i := 1880) (by decide +kernel), List.mem_of_getElem? (i := 1881) (by decide +kernel)⟩
theorem lw_p62 : lw_okq (⟨"KitePowerModel", "rowOf", "(I)I"⟩, 110) := ⟨⟨by decide +kernel, by decide +kernel⟩, List.mem_of_getElem? (i := 1313) (by decide +kernel), List.mem_of_getElem? (i := 1884) (by decide +kernel), List.mem_of_getElem? (i := 1885) (by decide +kernel)⟩
theorem lw_p63 : lw_okq (⟨"KitePowerModel", "ropeOf", "(I)I"⟩, 110) := ⟨⟨by decide +kernel, by decide +kernel⟩, List.mem_of_getElem? (i := 1313) (by decide +kernel), List.mem_of_getElem? (i := 1888) (by decide +kernel), List.mem_of_getElem? (i := 1889) (by decide +kernel)⟩
def lw_privs_4 : List (MethodName × Nat) := [(⟨"KitePowerModel", "need", "(ZI)V"⟩, 110), (⟨"KitePowerModel", "wrong", "(I)LKitePowerModel$Stop;"⟩, 110), (⟨"KitePowerModel", "readRow", "([III)I"⟩, 110), (⟨"KitePowerModel", "look", "(II)I"⟩, 110), (⟨"KitePowerModel", "number", "(II)I"⟩, 110), (⟨"KitePowerModel", "close", "()V"⟩, 110), (⟨"KitePowerModel", "readLine", "()V"⟩, 110), (⟨"KitePowerModel", "readCond", "(I)V"⟩, 110), (⟨"KitePowerModel", "condAtHand", "()I"⟩, 110), (⟨"KitePowerModel", "moveAtHand", "()I"⟩, 110), (⟨"KitePowerModel", "drumAtHand", "()I"⟩, 110), (⟨"KitePowerModel", "isState", "(I)Z"⟩, 110), (⟨"KitePowerModel", "states", "()I"⟩, 110), (⟨"KitePowerModel", "columnOf", "(I)I"⟩, 110), (⟨"KitePowerModel", "rowOf", "(I)I"⟩, 110), (⟨"KitePowerModel", "ropeOf", "(I)I"⟩, 110)]
theorem lw_r4 : ∀ q ∈ lw_privs_4, lw_okq q := List.forall_mem_cons.mpr ⟨lw_p48, List.forall_mem_cons.mpr ⟨lw_p49, List.forall_mem_cons.mpr ⟨lw_p50, List.forall_mem_cons.mpr ⟨lw_p51, List.forall_mem_cons.mpr ⟨lw_p52, List.forall_mem_cons.mpr ⟨lw_p53, List.forall_mem_cons.mpr ⟨lw_p54, List.forall_mem_cons.mpr ⟨lw_p55, List.forall_mem_cons.mpr ⟨lw_p56, List.forall_mem_cons.mpr ⟨lw_p57, List.forall_mem_cons.mpr ⟨lw_p58, List.forall_mem_cons.mpr ⟨lw_p59, List.forall_mem_cons.mpr ⟨lw_p60, List.forall_mem_cons.mpr ⟨lw_p61, List.forall_mem_cons.mpr ⟨lw_p62, List.forall_mem_cons.mpr ⟨lw_p63, fun _ h => absurd h List.not_mem_nil⟩⟩⟩⟩⟩⟩⟩⟩⟩⟩⟩⟩⟩⟩⟩⟩
theorem lw_p64 : lw_okq (⟨"KitePowerModel", "heightOf", "(I)I"⟩, 110) := ⟨⟨by decide +kernel, by decide +kernel⟩, List.mem_of_getElem? (i := 1313) (by decide +kernel), List.mem_of_getElem? (i := 1892) (by decide +kernel), List.mem_of_getElem? (i := 1893) (by decide +kernel)⟩
theorem lw_p65 : lw_okq (⟨"KitePowerModel", "bandOf", "(I)I"⟩, 110) := ⟨⟨by decide +kernel, by decide +kernel⟩, List.mem_of_getElem? (i := 1313) (by decide +kernel), List.mem_of_getElem? (i := 1896) (by decide +kernel), List.mem_of_getElem? (i := 1897) (by decide +kernel)⟩
theorem lw_p66 : lw_okq (⟨"KitePowerModel", "isAct", "(I)Z"⟩, 110) := ⟨⟨by decide +kernel, by decide +kernel⟩, List.mem_of_getElem? (i := 1313) (by decide +kernel), List.mem_of_getElem? (i := 1904) (by decide +kernel), List.mem_of_getElem? (i := 1905) (by decide +kernel)⟩
theorem lw_p67 : lw_okq (⟨"KitePowerModel", "acts", "()I"⟩, 110) := ⟨⟨by decide +kernel, by decide +kernel⟩, List.mem_of_getElem? (i := 1313) (by decide +kernel), List.mem_of_getElem? (i := 1908) (by decide +kernel), List.mem_of_getElem? (i := 1909) (by decide +kernel)⟩
theorem lw_p68 : lw_okq (⟨"KitePowerModel", "canDo", "(II)Z"⟩, 110) := ⟨⟨by decide +kernel, by decide +kernel⟩, List.mem_of_getElem? (i := 1313) (by decide +kernel), List.mem_of_getElem? (i := 1912) (by decide +kernel), List.mem_of_getElem? (i := 1913) (by decide +kernel)⟩
theorem lw_p69 : lw_okq (⟨"KitePowerModel", "canMove", "(II)Z"⟩, 110) := ⟨⟨by decide +kernel, by decide +kernel⟩, List.mem_of_getElem? (i := 1313) (by decide +kernel), List.mem_of_getElem? (i := 1919) (by decide +kernel), List.mem_of_getElem? (i := 1920) (by decide +kernel)⟩
theorem lw_p70 : lw_okq (⟨"KitePowerModel", "canReel", "(II)Z"⟩, 110) := ⟨⟨by decide +kernel, by decide +kernel⟩, List.mem_of_getElem? (i := 1313) (by decide +kernel), List.mem_of_getElem? (i := 1926) (by decide +kernel), List.mem_of_getElem? (i := 1927) (by decide +kernel)⟩
theorem lw_p71 : lw_okq (⟨"KitePowerModel", "after", "(II)I"⟩, 110) := ⟨⟨by decide +kernel, by decide +kernel⟩, List.mem_of_getElem? (i := 1313) (by decide +kernel), List.mem_of_getElem? (i := 1930) (by decide +kernel), List.mem_of_getElem? (i := 1931) (by decide +kernel)⟩
theorem lw_p72 : lw_okq (⟨"KitePowerModel", "pullOf", "(III)I"⟩, 110) := ⟨⟨by decide +kernel, by decide +kernel⟩, List.mem_of_getElem? (i := 1313) (by decide +kernel), List.mem_of_getElem? (i := 1956) (by decide +kernel), List.mem_of_getElem? (i := 1957) (by decide +kernel)⟩
theorem lw_p73 : lw_okq (⟨"KitePowerModel", "isSafe", "(III)Z"⟩, 110) := ⟨⟨by decide +kernel, by decide +kernel⟩, List.mem_of_getElem? (i := 1313) (by decide +kernel), List.mem_of_getElem? (i := 1965) (by decide +kernel), List.mem_of_getElem? (i := 1966) (by decide +kernel)⟩
theorem lw_p74 : lw_okq (⟨"KitePowerModel", "highAt", "(II)I"⟩, 110) := ⟨⟨by decide +kernel, by decide +kernel⟩, List.mem_of_getElem? (i := 1313) (by decide +kernel), List.mem_of_getElem? (i := 1969) (by decide +kernel), List.mem_of_getElem? (i := 1970) (by decide +kernel)⟩
theorem lw_p75 : lw_okq (⟨"KitePowerModel", "lowAt", "(II)I"⟩, 110) := ⟨⟨by decide +kernel, by decide +kernel⟩, List.mem_of_getElem? (i := 1313) (by decide +kernel), List.mem_of_getElem? (i := 1973) (by decide +kernel), List.mem_of_getElem? (i := 1974) (by decide +kernel)⟩
theorem lw_p76 : lw_okq (⟨"KitePowerModel", "surely", "(III)I"⟩, 110) := ⟨⟨by decide +kernel, by decide +kernel⟩, List.mem_of_getElem? (i := 1313) (by decide +kernel), List.mem_of_getElem? (i := 1981) (by decide +kernel), List.mem_of_getElem? (i := 1982) (by decide +kernel)⟩
theorem lw_p77 : lw_okq (⟨"KitePowerModel", "workOf", "(II)I"⟩, 110) := ⟨⟨by decide +kernel, by decide +kernel⟩, List.mem_of_getElem? (i := 1313) (by decide +kernel), List.mem_of_getElem? (i := 1985) (by decide +kernel), List.mem_of_getElem? (i := 1986) (by decide +kernel)⟩
theorem lw_p78 : lw_okq (⟨"KitePowerModel", "findLoop", "(I)Z"⟩, 110) := ⟨⟨by decide +kernel, by decide +kernel⟩, List.mem_of_getElem? (i := 1313) (by decide +kernel), List.mem_of_getElem? (i := 1995) (by decide +kernel), List.mem_of_getElem? (i := 1996) (by decide +kernel)⟩
theorem lw_p79 : lw_okq (⟨"KitePowerModel", "findSteps", "(I)V"⟩, 110) := ⟨⟨by decide +kernel, by decide +kernel⟩, List.mem_of_getElem? (i := 1313) (by decide +kernel), List.mem_of_getElem? (i := 1999) (by decide +kernel), List.mem_of_getElem? (i := 2000) (by decide +kernel)⟩
def lw_privs_5 : List (MethodName × Nat) := [(⟨"KitePowerModel", "heightOf", "(I)I"⟩, 110), (⟨"KitePowerModel", "bandOf", "(I)I"⟩, 110), (⟨"KitePowerModel", "isAct", "(I)Z"⟩, 110), (⟨"KitePowerModel", "acts", "()I"⟩, 110), (⟨"KitePowerModel", "canDo", "(II)Z"⟩, 110), (⟨"KitePowerModel", "canMove", "(II)Z"⟩, 110), (⟨"KitePowerModel", "canReel", "(II)Z"⟩, 110), (⟨"KitePowerModel", "after", "(II)I"⟩, 110), (⟨"KitePowerModel", "pullOf", "(III)I"⟩, 110), (⟨"KitePowerModel", "isSafe", "(III)Z"⟩, 110), (⟨"KitePowerModel", "highAt", "(II)I"⟩, 110), (⟨"KitePowerModel", "lowAt", "(II)I"⟩, 110), (⟨"KitePowerModel", "surely", "(III)I"⟩, 110), (⟨"KitePowerModel", "workOf", "(II)I"⟩, 110), (⟨"KitePowerModel", "findLoop", "(I)Z"⟩, 110), (⟨"KitePowerModel", "findSteps", "(I)V"⟩, 110)]
theorem lw_r5 : ∀ q ∈ lw_privs_5, lw_okq q := List.forall_mem_cons.mpr ⟨lw_p64, List.forall_mem_cons.mpr ⟨lw_p65, List.forall_mem_cons.mpr ⟨lw_p66, List.forall_mem_cons.mpr ⟨lw_p67, List.forall_mem_cons.mpr ⟨lw_p68, List.forall_mem_cons.mpr ⟨lw_p69, List.forall_mem_cons.mpr ⟨lw_p70, List.forall_mem_cons.mpr ⟨lw_p71, List.forall_mem_cons.mpr ⟨lw_p72, List.forall_mem_cons.mpr ⟨lw_p73, List.forall_mem_cons.mpr ⟨lw_p74, List.forall_mem_cons.mpr ⟨lw_p75, List.forall_mem_cons.mpr ⟨lw_p76, List.forall_mem_cons.mpr ⟨lw_p77, List.forall_mem_cons.mpr ⟨lw_p78, List.forall_mem_cons.mpr ⟨lw_p79, fun _ h => absurd h List.not_mem_nil⟩⟩⟩⟩⟩⟩⟩⟩⟩⟩⟩⟩⟩⟩⟩⟩
theorem lw_p80 : lw_okq (⟨"KitePowerModel", "findWalks", "()V"⟩, 110) := ⟨⟨by decide +kernel, by decide +kernel⟩, List.mem_of_getElem? (i := 1313) (by decide +kernel), List.mem_of_getElem? (i := 2004) (by decide +kernel), List.mem_of_getElem? (i := 2005) (by decide +kernel)⟩
theorem lw_p81 : lw_okq (⟨"KitePowerModel", "findMean", "()Z"⟩, 110) := ⟨⟨by decide +kernel, by decide +kernel⟩, List.mem_of_getElem? (i := 1313) (by decide +kernel), List.mem_of_getElem? (i := 2012) (by decide +kernel), List.mem_of_getElem? (i := 2013) (by decide +kernel)⟩
theorem lw_p82 : lw_okq (⟨"KitePowerModel", "findActs", "(I)V"⟩, 110) := ⟨⟨by decide +kernel, by decide +kernel⟩, List.mem_of_getElem? (i := 1313) (by decide +kernel), List.mem_of_getElem? (i := 2016) (by decide +kernel), List.mem_of_getElem? (i := 2017) (by decide +kernel)⟩
theorem lw_p83 : lw_okq (⟨"KitePowerModel", "findHigh", "()V"⟩, 110) := ⟨⟨by decide +kernel, by decide +kernel⟩, List.mem_of_getElem? (i := 1313) (by decide +kernel), List.mem_of_getElem? (i := 2020) (by decide +kernel), List.mem_of_getElem? (i := 2021) (by decide +kernel)⟩
theorem lw_p84 : lw_okq (⟨"KitePowerModel", "lessMean", "(I)J"⟩, 110) := ⟨⟨by decide +kernel, by decide +kernel⟩, List.mem_of_getElem? (i := 1313) (by decide +kernel), List.mem_of_getElem? (i := 2024) (by decide +kernel), List.mem_of_getElem? (i := 2025) (by decide +kernel)⟩
theorem lw_p85 : lw_okq (⟨"KitePowerModel", "findTight", "()V"⟩, 110) := ⟨⟨by decide +kernel, by decide +kernel⟩, List.mem_of_getElem? (i := 1313) (by decide +kernel), List.mem_of_getElem? (i := 2028) (by decide +kernel), List.mem_of_getElem? (i := 2029) (by decide +kernel)⟩
theorem lw_p86 : lw_okq (⟨"KitePowerModel", "isTightStep", "(II)Z"⟩, 110) := ⟨⟨by decide +kernel, by decide +kernel⟩, List.mem_of_getElem? (i := 1313) (by decide +kernel), List.mem_of_getElem? (i := 2032) (by decide +kernel), List.mem_of_getElem? (i := 2033) (by decide +kernel)⟩
theorem lw_p87 : lw_okq (⟨"KitePowerModel", "isTight", "(III)Z"⟩, 110) := ⟨⟨by decide +kernel, by decide +kernel⟩, List.mem_of_getElem? (i := 1313) (by decide +kernel), List.mem_of_getElem? (i := 2036) (by decide +kernel), List.mem_of_getElem? (i := 2037) (by decide +kernel)⟩
theorem lw_p88 : lw_okq (⟨"KitePowerModel", "roundOf", "(II)I"⟩, 110) := ⟨⟨by decide +kernel, by decide +kernel⟩, List.mem_of_getElem? (i := 1313) (by decide +kernel), List.mem_of_getElem? (i := 2041) (by decide +kernel), List.mem_of_getElem? (i := 2042) (by decide +kernel)⟩
theorem lw_p89 : lw_okq (⟨"KitePowerModel", "findFar", "(II)V"⟩, 110) := ⟨⟨by decide +kernel, by decide +kernel⟩, List.mem_of_getElem? (i := 1313) (by decide +kernel), List.mem_of_getElem? (i := 2045) (by decide +kernel), List.mem_of_getElem? (i := 2046) (by decide +kernel)⟩
theorem lw_p90 : lw_okq (⟨"KitePowerModel", "leadsTo", "(III)Z"⟩, 110) := ⟨⟨by decide +kernel, by decide +kernel⟩, List.mem_of_getElem? (i := 1313) (by decide +kernel), List.mem_of_getElem? (i := 2049) (by decide +kernel), List.mem_of_getElem? (i := 2050) (by decide +kernel)⟩
theorem lw_p91 : lw_okq (⟨"KitePowerModel", "isNext", "(IIIII)Z"⟩, 110) := ⟨⟨by decide +kernel, by decide +kernel⟩, List.mem_of_getElem? (i := 1313) (by decide +kernel), List.mem_of_getElem? (i := 2053) (by decide +kernel), List.mem_of_getElem? (i := 2054) (by decide +kernel)⟩
theorem lw_p92 : lw_okq (⟨"KitePowerModel", "flyOn", "(IIIIZ)I"⟩, 110) := ⟨⟨by decide +kernel, by decide +kernel⟩, List.mem_of_getElem? (i := 1313) (by decide +kernel), List.mem_of_getElem? (i := 2083) (by decide +kernel), List.mem_of_getElem? (i := 2084) (by decide +kernel)⟩
theorem lw_p93 : lw_okq (⟨"KitePowerModel", "actBy", "(II)I"⟩, 110) := ⟨⟨by decide +kernel, by decide +kernel⟩, List.mem_of_getElem? (i := 1313) (by decide +kernel), List.mem_of_getElem? (i := 2087) (by decide +kernel), List.mem_of_getElem? (i := 2088) (by decide +kernel)⟩
theorem lw_p94 : lw_okq (⟨"KitePowerModel", "holds", "(III)Z"⟩, 110) := ⟨⟨by decide +kernel, by decide +kernel⟩, List.mem_of_getElem? (i := 1313) (by decide +kernel), List.mem_of_getElem? (i := 2091) (by decide +kernel), List.mem_of_getElem? (i := 2092) (by decide +kernel)⟩
theorem lw_p95 : lw_okq (⟨"KitePowerModel", "isKept", "(I)Z"⟩, 110) := ⟨⟨by decide +kernel, by decide +kernel⟩, List.mem_of_getElem? (i := 1313) (by decide +kernel), List.mem_of_getElem? (i := 2112) (by decide +kernel), List.mem_of_getElem? (i := 2113) (by decide +kernel)⟩
def lw_privs_6 : List (MethodName × Nat) := [(⟨"KitePowerModel", "findWalks", "()V"⟩, 110), (⟨"KitePowerModel", "findMean", "()Z"⟩, 110), (⟨"KitePowerModel", "findActs", "(I)V"⟩, 110), (⟨"KitePowerModel", "findHigh", "()V"⟩, 110), (⟨"KitePowerModel", "lessMean", "(I)J"⟩, 110), (⟨"KitePowerModel", "findTight", "()V"⟩, 110), (⟨"KitePowerModel", "isTightStep", "(II)Z"⟩, 110), (⟨"KitePowerModel", "isTight", "(III)Z"⟩, 110), (⟨"KitePowerModel", "roundOf", "(II)I"⟩, 110), (⟨"KitePowerModel", "findFar", "(II)V"⟩, 110), (⟨"KitePowerModel", "leadsTo", "(III)Z"⟩, 110), (⟨"KitePowerModel", "isNext", "(IIIII)Z"⟩, 110), (⟨"KitePowerModel", "flyOn", "(IIIIZ)I"⟩, 110), (⟨"KitePowerModel", "actBy", "(II)I"⟩, 110), (⟨"KitePowerModel", "holds", "(III)Z"⟩, 110), (⟨"KitePowerModel", "isKept", "(I)Z"⟩, 110)]
theorem lw_r6 : ∀ q ∈ lw_privs_6, lw_okq q := List.forall_mem_cons.mpr ⟨lw_p80, List.forall_mem_cons.mpr ⟨lw_p81, List.forall_mem_cons.mpr ⟨lw_p82, List.forall_mem_cons.mpr ⟨lw_p83, List.forall_mem_cons.mpr ⟨lw_p84, List.forall_mem_cons.mpr ⟨lw_p85, List.forall_mem_cons.mpr ⟨lw_p86, List.forall_mem_cons.mpr ⟨lw_p87, List.forall_mem_cons.mpr ⟨lw_p88, List.forall_mem_cons.mpr ⟨lw_p89, List.forall_mem_cons.mpr ⟨lw_p90, List.forall_mem_cons.mpr ⟨lw_p91, List.forall_mem_cons.mpr ⟨lw_p92, List.forall_mem_cons.mpr ⟨lw_p93, List.forall_mem_cons.mpr ⟨lw_p94, List.forall_mem_cons.mpr ⟨lw_p95, fun _ h => absurd h List.not_mem_nil⟩⟩⟩⟩⟩⟩⟩⟩⟩⟩⟩⟩⟩⟩⟩⟩
theorem lw_p96 : lw_okq (⟨"KitePowerModel", "leastApart", "(IIIII)I"⟩, 110) := ⟨⟨by decide +kernel, by decide +kernel⟩, List.mem_of_getElem? (i := 1313) (by decide +kernel), List.mem_of_getElem? (i := 2138) (by decide +kernel), List.mem_of_getElem? (i := 2139) (by decide +kernel)⟩
theorem lw_p97 : lw_okq (⟨"KitePowerModel", "findStates", "(I[I)V"⟩, 110) := ⟨⟨by decide +kernel, by decide +kernel⟩, List.mem_of_getElem? (i := 1313) (by decide +kernel), List.mem_of_getElem? (i := 2142) (by decide +kernel), List.mem_of_getElem? (i := 2143) (by decide +kernel)⟩
theorem lw_p98 : lw_okq (⟨"KitePowerModel", "pullBy", "(IIII)I"⟩, 110) := ⟨⟨by decide +kernel, by decide +kernel⟩, List.mem_of_getElem? (i := 1313) (by decide +kernel), List.mem_of_getElem? (i := 2181) (by decide +kernel), List.mem_of_getElem? (i := 2182) (by decide +kernel)⟩
theorem lw_p99 : lw_okq (⟨"KitePowerModel", "fitOf", "(I)I"⟩, 110) := ⟨⟨by decide +kernel, by decide +kernel⟩, List.mem_of_getElem? (i := 1313) (by decide +kernel), List.mem_of_getElem? (i := 2201) (by decide +kernel), List.mem_of_getElem? (i := 2202) (by decide +kernel)⟩
theorem lw_p100 : lw_okq (⟨"KitePowerModel", "isSo", "(III)Z"⟩, 110) := ⟨⟨by decide +kernel, by decide +kernel⟩, List.mem_of_getElem? (i := 1313) (by decide +kernel), List.mem_of_getElem? (i := 2205) (by decide +kernel), List.mem_of_getElem? (i := 2206) (by decide +kernel)⟩
def lw_privs_7 : List (MethodName × Nat) := [(⟨"KitePowerModel", "leastApart", "(IIIII)I"⟩, 110), (⟨"KitePowerModel", "findStates", "(I[I)V"⟩, 110), (⟨"KitePowerModel", "pullBy", "(IIII)I"⟩, 110), (⟨"KitePowerModel", "fitOf", "(I)I"⟩, 110), (⟨"KitePowerModel", "isSo", "(III)Z"⟩, 110)]
theorem lw_r7 : ∀ q ∈ lw_privs_7, lw_okq q := List.forall_mem_cons.mpr ⟨lw_p96, List.forall_mem_cons.mpr ⟨lw_p97, List.forall_mem_cons.mpr ⟨lw_p98, List.forall_mem_cons.mpr ⟨lw_p99, List.forall_mem_cons.mpr ⟨lw_p100, fun _ h => absurd h List.not_mem_nil⟩⟩⟩⟩⟩
def lw_privs : List (MethodName × Nat) := lw_privs_1 ++ (lw_privs_2 ++ (lw_privs_3 ++ (lw_privs_4 ++ (lw_privs_5 ++ (lw_privs_6 ++ (lw_privs_7))))))
def lw_tbl : List Cond := k2_sels lw_privs ++ tables_1
theorem lw_privs_ok : ∀ q ∈ lw_privs, lw_okq q := by
  show ∀ q ∈ lw_privs_1 ++ (lw_privs_2 ++ (lw_privs_3 ++ (lw_privs_4 ++ (lw_privs_5 ++ (lw_privs_6 ++ (lw_privs_7)))))), lw_okq q
  exact List.forall_mem_append.mpr ⟨lw_r1, List.forall_mem_append.mpr ⟨lw_r2, List.forall_mem_append.mpr ⟨lw_r3, List.forall_mem_append.mpr ⟨lw_r4, List.forall_mem_append.mpr ⟨lw_r5, List.forall_mem_append.mpr ⟨lw_r6, lw_r7⟩⟩⟩⟩⟩⟩
end
/-! 02.names -/
section
def RX0 : String := "KitePower$Air"
def TX0 : u_T := fun k => match k with
  | 0 => ("KitePower$Air", "kite", "LKitePower$Kite;", true)
  | 1 => ("KitePower$Air", "count", "I", false)
  | 2 => ("KitePower$Air", "latestStep", "I", false)
  | 3 => ("KitePower$Air", "steps", "[I", true)
  | 4 => ("KitePower$Air", "places", "[I", true)
  | 5 => ("KitePower$Air", "toldLows", "[I", true)
  | 6 => ("KitePower$Air", "toldHighs", "[I", true)
  | 7 => ("KitePower$Air", "lows", "[I", true)
  | _ => ("KitePower$Air", "highs", "[I", true)
def tyX0 : Nat → FieldType := fun k => match k with
  | 0 => .object "KitePower$Kite"
  | 1 => .int
  | 2 => .int
  | 3 => .array .int
  | 4 => .array .int
  | 5 => .array .int
  | 6 => .array .int
  | 7 => .array .int
  | _ => .array .int
theorem nmX0 : ∀ a, a < 9 → ∀ b, b < 9 → a ≠ b → (TX0 a).2.1 ≠ (TX0 b).2.1 := by decide +kernel
theorem tyX0_ok : ∀ k, k < 9 → parseFieldDescriptor (TX0 k).2.2.1 = some (tyX0 k) := by decide +kernel
abbrev cX0_init : ByteArray := prog_2_method_1_code
def yX0_init : MethodName := ⟨RX0, "<init>", "(LKitePower$Kite;)V"⟩
abbrev cX0_hourOf : ByteArray := prog_2_method_2_code
def yX0_hourOf : MethodName := ⟨RX0, "hourOf", "(III)I"⟩
abbrev cX0_placeOf : ByteArray := prog_2_method_3_code
def yX0_placeOf : MethodName := ⟨RX0, "placeOf", "(II)I"⟩
abbrev cX0_take : ByteArray := prog_2_method_4_code
def yX0_take : MethodName := ⟨RX0, "take", "(IIIII)V"⟩
abbrev cX0_knownAt : ByteArray := prog_2_method_5_code
def yX0_knownAt : MethodName := ⟨RX0, "knownAt", "(III)I"⟩
abbrev cX0_lowAt : ByteArray := prog_2_method_6_code
def yX0_lowAt : MethodName := ⟨RX0, "lowAt", "(II)I"⟩
abbrev cX0_highAt : ByteArray := prog_2_method_7_code
def yX0_highAt : MethodName := ⟨RX0, "highAt", "(II)I"⟩
abbrev cX0_windIn : ByteArray := prog_2_method_8_code
def yX0_windIn : MethodName := ⟨RX0, "windIn", "(IIZ)I"⟩
abbrev cX0_isAlike : ByteArray := prog_2_method_9_code
def yX0_isAlike : MethodName := ⟨RX0, "isAlike", "(II)Z"⟩
abbrev cX0_pullBy : ByteArray := prog_2_method_10_code
def yX0_pullBy : MethodName := ⟨RX0, "pullBy", "(IIIZ)I"⟩
abbrev cX0_isSafe : ByteArray := prog_2_method_11_code
def yX0_isSafe : MethodName := ⟨RX0, "isSafe", "(III)Z"⟩
abbrev cX0_sureWork : ByteArray := prog_2_method_12_code
def yX0_sureWork : MethodName := ⟨RX0, "sureWork", "(III)I"⟩
abbrev cX0_sharedPull : ByteArray := prog_2_method_13_code
def yX0_sharedPull : MethodName := ⟨RX0, "sharedPull", "(IIII)I"⟩
def RX1 : String := "KitePower$Field"
def TX1 : u_T := fun k => match k with
  | 0 => ("KitePower$Field", "kite", "LKitePower$Kite;", true)
  | 1 => ("KitePower$Field", "count", "I", false)
  | 2 => ("KitePower$Field", "chosen", "I", false)
  | 3 => ("KitePower$Field", "loops", "[LKitePower$Row;", true)
  | 4 => ("KitePower$Field", "sites", "[I", true)
  | _ => ("KitePower$Field", "meets", "[I", true)
def tyX1 : Nat → FieldType := fun k => match k with
  | 0 => .object "KitePower$Kite"
  | 1 => .int
  | 2 => .int
  | 3 => .array (.object "KitePower$Row")
  | 4 => .array .int
  | _ => .array .int
theorem nmX1 : ∀ a, a < 6 → ∀ b, b < 6 → a ≠ b → (TX1 a).2.1 ≠ (TX1 b).2.1 := by decide +kernel
theorem tyX1_ok : ∀ k, k < 6 → parseFieldDescriptor (TX1 k).2.2.1 = some (tyX1 k) := by decide +kernel
abbrev cX1_init : ByteArray := prog_3_method_1_code
def yX1_init : MethodName := ⟨RX1, "<init>", "(LKitePower$Kite;)V"⟩
abbrev cX1_forget : ByteArray := prog_3_method_2_code
def yX1_forget : MethodName := ⟨RX1, "forget", "()V"⟩
abbrev cX1_add : ByteArray := prog_3_method_3_code
def yX1_add : MethodName := ⟨RX1, "add", "(ILKitePower$Row;)I"⟩
abbrev cX1_chooseBest : ByteArray := prog_3_method_4_code
def yX1_chooseBest : MethodName := ⟨RX1, "chooseBest", "()I"⟩
abbrev cX1_worthOf : ByteArray := prog_3_method_5_code
def yX1_worthOf : MethodName := ⟨RX1, "worthOf", "(I)I"⟩
abbrev cX1_nearest : ByteArray := prog_3_method_6_code
def yX1_nearest : MethodName := ⟨RX1, "nearest", "(LKitePower$Row;LKitePower$Row;II)I"⟩
abbrev cX1_bestShift : ByteArray := prog_3_method_7_code
def yX1_bestShift : MethodName := ⟨RX1, "bestShift", "(LKitePower$Row;LKitePower$Row;I)I"⟩
abbrev cX1_sharedStep : ByteArray := prog_3_method_8_code
def yX1_sharedStep : MethodName := ⟨RX1, "sharedStep", "(II)I"⟩
def RX2 : String := "KitePower$Flight"
def TX2 : u_T := fun k => match k with
  | 0 => ("KitePower$Flight", "kite", "LKitePower$Kite;", true)
  | 1 => ("KitePower$Flight", "air", "LKitePower$Air;", true)
  | 2 => ("KitePower$Flight", "rules", "LKitePower$Rules;", true)
  | 3 => ("KitePower$Flight", "wasRun", "Z", false)
  | 4 => ("KitePower$Flight", "done", "I", false)
  | 5 => ("KitePower$Flight", "fate", "I", false)
  | 6 => ("KitePower$Flight", "work", "I", false)
  | 7 => ("KitePower$Flight", "end", "I", false)
  | 8 => ("KitePower$Flight", "acts", "[I", true)
  | 9 => ("KitePower$Flight", "goals", "[I", true)
  | 10 => ("KitePower$Flight", "ticksLeft", "[I", true)
  | _ => ("KitePower$Flight", "isLost", "[Z", true)
def tyX2 : Nat → FieldType := fun k => match k with
  | 0 => .object "KitePower$Kite"
  | 1 => .object "KitePower$Air"
  | 2 => .object "KitePower$Rules"
  | 3 => .boolean
  | 4 => .int
  | 5 => .int
  | 6 => .int
  | 7 => .int
  | 8 => .array .int
  | 9 => .array .int
  | 10 => .array .int
  | _ => .array .boolean
theorem nmX2 : ∀ a, a < 12 → ∀ b, b < 12 → a ≠ b → (TX2 a).2.1 ≠ (TX2 b).2.1 := by decide +kernel
theorem tyX2_ok : ∀ k, k < 12 → parseFieldDescriptor (TX2 k).2.2.1 = some (tyX2 k) := by decide +kernel
abbrev cX2_init : ByteArray := prog_4_method_1_code
def yX2_init : MethodName := ⟨RX2, "<init>", "(LKitePower$Kite;LKitePower$Air;LKitePower$Rules;)V"⟩
abbrev cX2_run : ByteArray := prog_4_method_2_code
def yX2_run : MethodName := ⟨RX2, "run", "(IIIIZ)I"⟩
abbrev cX2_flyTick : ByteArray := prog_4_method_3_code
def yX2_flyTick : MethodName := ⟨RX2, "flyTick", "(I)V"⟩
abbrev cX2_countHeld : ByteArray := prog_4_method_4_code
def yX2_countHeld : MethodName := ⟨RX2, "countHeld", "(I)I"⟩
abbrev cX2_markLost : ByteArray := prog_4_method_5_code
def yX2_markLost : MethodName := ⟨RX2, "markLost", "(IZ)V"⟩
def RX3 : String := "KitePower$Hours"
def TX3 : u_T := fun k => match k with
  | 0 => ("KitePower$Hours", "air", "LKitePower$Air;", true)
  | 1 => ("KitePower$Hours", "finder", "LKitePower$LoopFinder;", true)
  | 2 => ("KitePower$Hours", "loops", "[LKitePower$Row;", true)
  | 3 => ("KitePower$Hours", "isFound", "[Z", true)
  | 4 => ("KitePower$Hours", "gains", "[I", true)
  | 5 => ("KitePower$Hours", "fromLanded", "[I", true)
  | 6 => ("KitePower$Hours", "fromFlown", "[I", true)
  | 7 => ("KitePower$Hours", "flown", "[I", true)
  | 8 => ("KitePower$Hours", "first", "I", false)
  | _ => ("KitePower$Hours", "last", "I", false)
def tyX3 : Nat → FieldType := fun k => match k with
  | 0 => .object "KitePower$Air"
  | 1 => .object "KitePower$LoopFinder"
  | 2 => .array (.object "KitePower$Row")
  | 3 => .array .boolean
  | 4 => .array .int
  | 5 => .array .int
  | 6 => .array .int
  | 7 => .array .int
  | 8 => .int
  | _ => .int
theorem nmX3 : ∀ a, a < 10 → ∀ b, b < 10 → a ≠ b → (TX3 a).2.1 ≠ (TX3 b).2.1 := by decide +kernel
theorem tyX3_ok : ∀ k, k < 10 → parseFieldDescriptor (TX3 k).2.2.1 = some (tyX3 k) := by decide +kernel
abbrev cX3_init : ByteArray := prog_5_method_1_code
def yX3_init : MethodName := ⟨RX3, "<init>", "(LKitePower$Kite;LKitePower$Air;)V"⟩
abbrev cX3_forgetHour : ByteArray := prog_5_method_2_code
def yX3_forgetHour : MethodName := ⟨RX3, "forgetHour", "(I)V"⟩
abbrev cX3_forgetAll : ByteArray := prog_5_method_3_code
def yX3_forgetAll : MethodName := ⟨RX3, "forgetAll", "()V"⟩
abbrev cX3_loopAt : ByteArray := prog_5_method_4_code
def yX3_loopAt : MethodName := ⟨RX3, "loopAt", "(I)LKitePower$Row;"⟩
abbrev cX3_foundAlike : ByteArray := prog_5_method_5_code
def yX3_foundAlike : MethodName := ⟨RX3, "foundAlike", "(I)I"⟩
abbrev cX3_weigh : ByteArray := prog_5_method_6_code
def yX3_weigh : MethodName := ⟨RX3, "weigh", "(IIII)V"⟩
abbrev cX3_choose : ByteArray := prog_5_method_7_code
def yX3_choose : MethodName := ⟨RX3, "choose", "(II)I"⟩
abbrev cX3_isPlanned : ByteArray := prog_5_method_8_code
def yX3_isPlanned : MethodName := ⟨RX3, "isPlanned", "(I)Z"⟩
def RX4 : String := "KitePower$Kite"
def TX4 : u_T := fun k => match k with
  | 0 => ("KitePower$Kite", "facts", "[I", true)
  | 1 => ("KitePower$Kite", "draft", "[I", true)
  | 2 => ("KitePower$Kite", "states", "I", false)
  | 3 => ("KitePower$Kite", "columns", "[I", true)
  | 4 => ("KitePower$Kite", "rows", "[I", true)
  | 5 => ("KitePower$Kite", "ropes", "[I", true)
  | 6 => ("KitePower$Kite", "heights", "[I", true)
  | _ => ("KitePower$Kite", "bands", "[I", true)
def tyX4 : Nat → FieldType := fun k => match k with
  | 0 => .array .int
  | 1 => .array .int
  | 2 => .int
  | 3 => .array .int
  | 4 => .array .int
  | 5 => .array .int
  | 6 => .array .int
  | _ => .array .int
theorem nmX4 : ∀ a, a < 8 → ∀ b, b < 8 → a ≠ b → (TX4 a).2.1 ≠ (TX4 b).2.1 := by decide +kernel
theorem tyX4_ok : ∀ k, k < 8 → parseFieldDescriptor (TX4 k).2.2.1 = some (tyX4 k) := by decide +kernel
abbrev cX4_init : ByteArray := prog_6_method_1_code
def yX4_init : MethodName := ⟨RX4, "<init>", "()V"⟩
abbrev cX4_takeText : ByteArray := prog_6_method_2_code
def yX4_takeText : MethodName := ⟨RX4, "takeText", "(LKitePower$Tape;)I"⟩
abbrev cX4_takeClause : ByteArray := prog_6_method_3_code
def yX4_takeClause : MethodName := ⟨RX4, "takeClause", "(LKitePower$Tape;I)Z"⟩
abbrev cX4_takeList : ByteArray := prog_6_method_4_code
def yX4_takeList : MethodName := ⟨RX4, "takeList", "(LKitePower$Tape;III)Z"⟩
abbrev cX4_startDraft : ByteArray := prog_6_method_5_code
def yX4_startDraft : MethodName := ⟨RX4, "startDraft", "()V"⟩
abbrev cX4_useDraft : ByteArray := prog_6_method_6_code
def yX4_useDraft : MethodName := ⟨RX4, "useDraft", "()V"⟩
abbrev cX4_fact : ByteArray := prog_6_method_7_code
def yX4_fact : MethodName := ⟨RX4, "fact", "(I)I"⟩
abbrev cX4_slants : ByteArray := prog_6_method_8_code
def yX4_slants : MethodName := ⟨RX4, "slants", "()I"⟩
abbrev cX4_across : ByteArray := prog_6_method_9_code
def yX4_across : MethodName := ⟨RX4, "across", "()I"⟩
abbrev cX4_hasState : ByteArray := prog_6_method_10_code
def yX4_hasState : MethodName := ⟨RX4, "hasState", "(I)Z"⟩
abbrev cX4_hasAct : ByteArray := prog_6_method_11_code
def yX4_hasAct : MethodName := ⟨RX4, "hasAct", "(I)Z"⟩
abbrev cX4_actCount : ByteArray := prog_6_method_12_code
def yX4_actCount : MethodName := ⟨RX4, "actCount", "()I"⟩
abbrev cX4_moveOf : ByteArray := prog_6_method_13_code
def yX4_moveOf : MethodName := ⟨RX4, "moveOf", "(I)I"⟩
abbrev cX4_drumOf : ByteArray := prog_6_method_14_code
def yX4_drumOf : MethodName := ⟨RX4, "drumOf", "(I)I"⟩
abbrev cX4_isSideways : ByteArray := prog_6_method_15_code
def yX4_isSideways : MethodName := ⟨RX4, "isSideways", "(I)Z"⟩
abbrev cX4_canMove : ByteArray := prog_6_method_16_code
def yX4_canMove : MethodName := ⟨RX4, "canMove", "(II)Z"⟩
abbrev cX4_canReel : ByteArray := prog_6_method_17_code
def yX4_canReel : MethodName := ⟨RX4, "canReel", "(II)Z"⟩
abbrev cX4_moveStep : ByteArray := prog_6_method_18_code
def yX4_moveStep : MethodName := ⟨RX4, "moveStep", "(I)I"⟩
abbrev cX4_drumStep : ByteArray := prog_6_method_19_code
def yX4_drumStep : MethodName := ⟨RX4, "drumStep", "(I)I"⟩
abbrev cX4_goal : ByteArray := prog_6_method_20_code
def yX4_goal : MethodName := ⟨RX4, "goal", "(II)I"⟩
abbrev cX4_withinStates : ByteArray := prog_6_method_21_code
def yX4_withinStates : MethodName := ⟨RX4, "withinStates", "(II)I"⟩
abbrev cX4_pullOf : ByteArray := prog_6_method_22_code
def yX4_pullOf : MethodName := ⟨RX4, "pullOf", "(III)I"⟩
abbrev cX4_pullAt : ByteArray := prog_6_method_23_code
def yX4_pullAt : MethodName := ⟨RX4, "pullAt", "(IIZI)I"⟩
abbrev cX4_workOf : ByteArray := prog_6_method_24_code
def yX4_workOf : MethodName := ⟨RX4, "workOf", "(II)I"⟩
abbrev cX4_fateOf : ByteArray := prog_6_method_25_code
def yX4_fateOf : MethodName := ⟨RX4, "fateOf", "(I)I"⟩
abbrev cX4_bears : ByteArray := prog_6_method_26_code
def yX4_bears : MethodName := ⟨RX4, "bears", "(II)Z"⟩
abbrev cX4_tiringOf : ByteArray := prog_6_method_27_code
def yX4_tiringOf : MethodName := ⟨RX4, "tiringOf", "(I)I"⟩
def RX5 : String := "KitePower$Laws"
def TX5 : u_T := fun k => match k with
  | 0 => ("KitePower$Laws", "count", "I", false)
  | _ => ("KitePower$Laws", "roofs", "[I", true)
def tyX5 : Nat → FieldType := fun k => match k with
  | 0 => .int
  | _ => .array .int
theorem nmX5 : ∀ a, a < 2 → ∀ b, b < 2 → a ≠ b → (TX5 a).2.1 ≠ (TX5 b).2.1 := by decide +kernel
theorem tyX5_ok : ∀ k, k < 2 → parseFieldDescriptor (TX5 k).2.2.1 = some (tyX5 k) := by decide +kernel
abbrev cX5_init : ByteArray := prog_7_method_1_code
def yX5_init : MethodName := ⟨RX5, "<init>", "()V"⟩
abbrev cX5_add : ByteArray := prog_7_method_2_code
def yX5_add : MethodName := ⟨RX5, "add", "(III)I"⟩
abbrev cX5_firstBreach : ByteArray := prog_7_method_3_code
def yX5_firstBreach : MethodName := ⟨RX5, "firstBreach", "(LKitePower$Row;LKitePower$Kite;III)I"⟩
def RX6 : String := "KitePower$LoopFinder"
def TX6 : u_T := fun k => match k with
  | 0 => ("KitePower$LoopFinder", "kite", "LKitePower$Kite;", true)
  | 1 => ("KitePower$LoopFinder", "air", "LKitePower$Air;", true)
  | 2 => ("KitePower$LoopFinder", "slants", "[I", true)
  | 3 => ("KitePower$LoopFinder", "gains", "[I", true)
  | 4 => ("KitePower$LoopFinder", "firsts", "[I", true)
  | 5 => ("KitePower$LoopFinder", "tails", "[I", true)
  | 6 => ("KitePower$LoopFinder", "heads", "[I", true)
  | 7 => ("KitePower$LoopFinder", "works", "[I", true)
  | 8 => ("KitePower$LoopFinder", "acts", "[I", true)
  | 9 => ("KitePower$LoopFinder", "levels", "[J", true)
  | 10 => ("KitePower$LoopFinder", "raisedBy", "[I", true)
  | 11 => ("KitePower$LoopFinder", "isFresh", "[Z", true)
  | 12 => ("KitePower$LoopFinder", "marks", "[I", true)
  | 13 => ("KitePower$LoopFinder", "layers", "[I", true)
  | 14 => ("KitePower$LoopFinder", "queue", "[I", true)
  | 15 => ("KitePower$LoopFinder", "queued", "I", false)
  | 16 => ("KitePower$LoopFinder", "meanSum", "J", false)
  | _ => ("KitePower$LoopFinder", "meanLength", "J", false)
def tyX6 : Nat → FieldType := fun k => match k with
  | 0 => .object "KitePower$Kite"
  | 1 => .object "KitePower$Air"
  | 2 => .array .int
  | 3 => .array .int
  | 4 => .array .int
  | 5 => .array .int
  | 6 => .array .int
  | 7 => .array .int
  | 8 => .array .int
  | 9 => .array .long
  | 10 => .array .int
  | 11 => .array .boolean
  | 12 => .array .int
  | 13 => .array .int
  | 14 => .array .int
  | 15 => .int
  | 16 => .long
  | _ => .long
theorem nmX6 : ∀ a, a < 18 → ∀ b, b < 18 → a ≠ b → (TX6 a).2.1 ≠ (TX6 b).2.1 := by decide +kernel
theorem tyX6_ok : ∀ k, k < 18 → parseFieldDescriptor (TX6 k).2.2.1 = some (tyX6 k) := by decide +kernel
abbrev cX6_init : ByteArray := prog_8_method_1_code
def yX6_init : MethodName := ⟨RX6, "<init>", "(LKitePower$Kite;LKitePower$Air;)V"⟩
abbrev cX6_find : ByteArray := prog_8_method_2_code
def yX6_find : MethodName := ⟨RX6, "find", "(ILKitePower$Row;)V"⟩
abbrev cX6_optionOf : ByteArray := prog_8_method_3_code
def yX6_optionOf : MethodName := ⟨RX6, "optionOf", "(IIZ)I"⟩
abbrev cX6_weighOptions : ByteArray := prog_8_method_4_code
def yX6_weighOptions : MethodName := ⟨RX6, "weighOptions", "(I)V"⟩
abbrev cX6_weighOption : ByteArray := prog_8_method_5_code
def yX6_weighOption : MethodName := ⟨RX6, "weighOption", "(IIZII)V"⟩
abbrev cX6_drawPaths : ByteArray := prog_8_method_6_code
def yX6_drawPaths : MethodName := ⟨RX6, "drawPaths", "()V"⟩
abbrev cX6_drawMove : ByteArray := prog_8_method_7_code
def yX6_drawMove : MethodName := ⟨RX6, "drawMove", "(IIII)I"⟩
abbrev cX6_takeBetterMean : ByteArray := prog_8_method_8_code
def yX6_takeBetterMean : MethodName := ⟨RX6, "takeBetterMean", "()Z"⟩
abbrev cX6_raiseLevels : ByteArray := prog_8_method_9_code
def yX6_raiseLevels : MethodName := ⟨RX6, "raiseLevels", "()Z"⟩
abbrev cX6_raiseFrom : ByteArray := prog_8_method_10_code
def yX6_raiseFrom : MethodName := ⟨RX6, "raiseFrom", "(I)Z"⟩
abbrev cX6_takeBestRing : ByteArray := prog_8_method_11_code
def yX6_takeBestRing : MethodName := ⟨RX6, "takeBestRing", "()Z"⟩
abbrev cX6_takeRing : ByteArray := prog_8_method_12_code
def yX6_takeRing : MethodName := ⟨RX6, "takeRing", "(I)Z"⟩
abbrev cX6_keepTightPaths : ByteArray := prog_8_method_13_code
def yX6_keepTightPaths : MethodName := ⟨RX6, "keepTightPaths", "()V"⟩
abbrev cX6_shortestFrom : ByteArray := prog_8_method_14_code
def yX6_shortestFrom : MethodName := ⟨RX6, "shortestFrom", "(II)I"⟩
abbrev cX6_markWaysBack : ByteArray := prog_8_method_15_code
def yX6_markWaysBack : MethodName := ⟨RX6, "markWaysBack", "(II)V"⟩
abbrev cX6_goesOn : ByteArray := prog_8_method_16_code
def yX6_goesOn : MethodName := ⟨RX6, "goesOn", "(IIII)Z"⟩
abbrev cX6_writeLoop : ByteArray := prog_8_method_17_code
def yX6_writeLoop : MethodName := ⟨RX6, "writeLoop", "(IILKitePower$Row;)V"⟩
def RX7 : String := "KitePower$Readings"
def TX7 : u_T := fun k => match k with
  | 0 => ("KitePower$Readings", "kite", "LKitePower$Kite;", true)
  | 1 => ("KitePower$Readings", "air", "LKitePower$Air;", true)
  | 2 => ("KitePower$Readings", "count", "I", false)
  | 3 => ("KitePower$Readings", "rightings", "I", false)
  | 4 => ("KitePower$Readings", "latestStep", "I", false)
  | 5 => ("KitePower$Readings", "steps", "[I", true)
  | 6 => ("KitePower$Readings", "states", "[I", true)
  | 7 => ("KitePower$Readings", "acts", "[I", true)
  | 8 => ("KitePower$Readings", "hours", "[I", true)
  | 9 => ("KitePower$Readings", "lows", "[I", true)
  | 10 => ("KitePower$Readings", "highs", "[I", true)
  | 11 => ("KitePower$Readings", "rightSteps", "[I", true)
  | _ => ("KitePower$Readings", "rightReads", "[I", true)
def tyX7 : Nat → FieldType := fun k => match k with
  | 0 => .object "KitePower$Kite"
  | 1 => .object "KitePower$Air"
  | 2 => .int
  | 3 => .int
  | 4 => .int
  | 5 => .array .int
  | 6 => .array .int
  | 7 => .array .int
  | 8 => .array .int
  | 9 => .array .int
  | 10 => .array .int
  | 11 => .array .int
  | _ => .array .int
theorem nmX7 : ∀ a, a < 13 → ∀ b, b < 13 → a ≠ b → (TX7 a).2.1 ≠ (TX7 b).2.1 := by decide +kernel
theorem tyX7_ok : ∀ k, k < 13 → parseFieldDescriptor (TX7 k).2.2.1 = some (tyX7 k) := by decide +kernel
abbrev cX7_init : ByteArray := prog_9_method_1_code
def yX7_init : MethodName := ⟨RX7, "<init>", "(LKitePower$Kite;LKitePower$Air;)V"⟩
abbrev cX7_forget : ByteArray := prog_9_method_2_code
def yX7_forget : MethodName := ⟨RX7, "forget", "()V"⟩
abbrev cX7_add : ByteArray := prog_9_method_3_code
def yX7_add : MethodName := ⟨RX7, "add", "(IIIIII)I"⟩
abbrev cX7_putRight : ByteArray := prog_9_method_4_code
def yX7_putRight : MethodName := ⟨RX7, "putRight", "(IIII)I"⟩
abbrev cX7_fittingShares : ByteArray := prog_9_method_5_code
def yX7_fittingShares : MethodName := ⟨RX7, "fittingShares", "(I)I"⟩
abbrev cX7_spanOf : ByteArray := prog_9_method_6_code
def yX7_spanOf : MethodName := ⟨RX7, "spanOf", "(II)I"⟩
abbrev cX7_sharesOf : ByteArray := prog_9_method_7_code
def yX7_sharesOf : MethodName := ⟨RX7, "sharesOf", "(II)I"⟩
abbrev cX7_bestNext : ByteArray := prog_9_method_8_code
def yX7_bestNext : MethodName := ⟨RX7, "bestNext", "(II)I"⟩
abbrev cX7_greatestHeap : ByteArray := prog_9_method_9_code
def yX7_greatestHeap : MethodName := ⟨RX7, "greatestHeap", "(IIII)I"⟩
def RX8 : String := "KitePower$Row"
def TX8 : u_T := fun k => match k with
  | 0 => ("KitePower$Row", "acts", "[I", true)
  | 1 => ("KitePower$Row", "states", "[I", true)
  | 2 => ("KitePower$Row", "length", "I", false)
  | 3 => ("KitePower$Row", "worth", "I", false)
  | 4 => ("KitePower$Row", "safeActs", "I", false)
  | 5 => ("KitePower$Row", "end", "I", false)
  | 6 => ("KitePower$Row", "won", "I", false)
  | 7 => ("KitePower$Row", "spent", "I", false)
  | 8 => ("KitePower$Row", "greatest", "I", false)
  | _ => ("KitePower$Row", "isLoop", "Z", false)
def tyX8 : Nat → FieldType := fun k => match k with
  | 0 => .array .int
  | 1 => .array .int
  | 2 => .int
  | 3 => .int
  | 4 => .int
  | 5 => .int
  | 6 => .int
  | 7 => .int
  | 8 => .int
  | _ => .boolean
theorem nmX8 : ∀ a, a < 10 → ∀ b, b < 10 → a ≠ b → (TX8 a).2.1 ≠ (TX8 b).2.1 := by decide +kernel
theorem tyX8_ok : ∀ k, k < 10 → parseFieldDescriptor (TX8 k).2.2.1 = some (tyX8 k) := by decide +kernel
abbrev cX8_init : ByteArray := prog_10_method_1_code
def yX8_init : MethodName := ⟨RX8, "<init>", "(I)V"⟩
abbrev cX8_copyFrom : ByteArray := prog_10_method_2_code
def yX8_copyFrom : MethodName := ⟨RX8, "copyFrom", "(LKitePower$Row;)V"⟩
abbrev cX8_takeActs : ByteArray := prog_10_method_3_code
def yX8_takeActs : MethodName := ⟨RX8, "takeActs", "(LKitePower$Tape;LKitePower$Kite;)Z"⟩
abbrev cX8_walk : ByteArray := prog_10_method_4_code
def yX8_walk : MethodName := ⟨RX8, "walk", "(LKitePower$Air;LKitePower$Kite;II)V"⟩
abbrev cX8_tiring : ByteArray := prog_10_method_5_code
def yX8_tiring : MethodName := ⟨RX8, "tiring", "(LKitePower$Air;LKitePower$Kite;I)I"⟩
def RX9 : String := "KitePower$Rules"
def TX9 : u_T := fun k => match k with
  | 0 => ("KitePower$Rules", "kite", "LKitePower$Kite;", true)
  | 1 => ("KitePower$Rules", "lines", "I", false)
  | 2 => ("KitePower$Rules", "told", "[I", true)
  | _ => ("KitePower$Rules", "draft", "[I", true)
def tyX9 : Nat → FieldType := fun k => match k with
  | 0 => .object "KitePower$Kite"
  | 1 => .int
  | 2 => .array .int
  | _ => .array .int
theorem nmX9 : ∀ a, a < 4 → ∀ b, b < 4 → a ≠ b → (TX9 a).2.1 ≠ (TX9 b).2.1 := by decide +kernel
theorem tyX9_ok : ∀ k, k < 4 → parseFieldDescriptor (TX9 k).2.2.1 = some (tyX9 k) := by decide +kernel
abbrev cX9_init : ByteArray := prog_11_method_1_code
def yX9_init : MethodName := ⟨RX9, "<init>", "(LKitePower$Kite;)V"⟩
abbrev cX9_forget : ByteArray := prog_11_method_2_code
def yX9_forget : MethodName := ⟨RX9, "forget", "()V"⟩
abbrev cX9_takeText : ByteArray := prog_11_method_3_code
def yX9_takeText : MethodName := ⟨RX9, "takeText", "(LKitePower$Tape;)I"⟩
abbrev cX9_takeLine : ByteArray := prog_11_method_4_code
def yX9_takeLine : MethodName := ⟨RX9, "takeLine", "(LKitePower$Tape;I)Z"⟩
abbrev cX9_takeConds : ByteArray := prog_11_method_5_code
def yX9_takeConds : MethodName := ⟨RX9, "takeConds", "(LKitePower$Tape;I)Z"⟩
abbrev cX9_takeCond : ByteArray := prog_11_method_6_code
def yX9_takeCond : MethodName := ⟨RX9, "takeCond", "(LKitePower$Tape;I)Z"⟩
abbrev cX9_takeAct : ByteArray := prog_11_method_7_code
def yX9_takeAct : MethodName := ⟨RX9, "takeAct", "(LKitePower$Tape;I)Z"⟩
abbrev cX9_actFor : ByteArray := prog_11_method_8_code
def yX9_actFor : MethodName := ⟨RX9, "actFor", "(II)I"⟩
abbrev cX9_holds : ByteArray := prog_11_method_9_code
def yX9_holds : MethodName := ⟨RX9, "holds", "(III)Z"⟩
abbrev cX9_valueOf : ByteArray := prog_11_method_10_code
def yX9_valueOf : MethodName := ⟨RX9, "valueOf", "(III)I"⟩
def RX10 : String := "KitePower$Tape"
def TX10 : u_T := fun k => match k with
  | 0 => ("KitePower$Tape", "bytes", "[B", true)
  | 1 => ("KitePower$Tape", "length", "I", false)
  | 2 => ("KitePower$Tape", "faultKind", "I", false)
  | 3 => ("KitePower$Tape", "faultPlace", "I", false)
  | 4 => ("KitePower$Tape", "number", "I", false)
  | 5 => ("KitePower$Tape", "token", "I", false)
  | 6 => ("KitePower$Tape", "start", "I", false)
  | _ => ("KitePower$Tape", "at", "I", false)
def tyX10 : Nat → FieldType := fun k => match k with
  | 0 => .array .byte
  | 1 => .int
  | 2 => .int
  | 3 => .int
  | 4 => .int
  | 5 => .int
  | 6 => .int
  | _ => .int
theorem nmX10 : ∀ a, a < 8 → ∀ b, b < 8 → a ≠ b → (TX10 a).2.1 ≠ (TX10 b).2.1 := by decide +kernel
theorem tyX10_ok : ∀ k, k < 8 → parseFieldDescriptor (TX10 k).2.2.1 = some (tyX10 k) := by decide +kernel
abbrev cX10_init : ByteArray := prog_12_method_1_code
def yX10_init : MethodName := ⟨RX10, "<init>", "()V"⟩
abbrev cX10_hasRoom : ByteArray := prog_12_method_2_code
def yX10_hasRoom : MethodName := ⟨RX10, "hasRoom", "(I)Z"⟩
abbrev cX10_addInt : ByteArray := prog_12_method_3_code
def yX10_addInt : MethodName := ⟨RX10, "addInt", "(I)V"⟩
abbrev cX10_byteAt : ByteArray := prog_12_method_4_code
def yX10_byteAt : MethodName := ⟨RX10, "byteAt", "(I)I"⟩
abbrev cX10_startText : ByteArray := prog_12_method_5_code
def yX10_startText : MethodName := ⟨RX10, "startText", "()V"⟩
abbrev cX10_advance : ByteArray := prog_12_method_6_code
def yX10_advance : MethodName := ⟨RX10, "advance", "()V"⟩
abbrev cX10_takeWord : ByteArray := prog_12_method_7_code
def yX10_takeWord : MethodName := ⟨RX10, "takeWord", "()V"⟩
abbrev cX10_takeNumber : ByteArray := prog_12_method_8_code
def yX10_takeNumber : MethodName := ⟨RX10, "takeNumber", "()V"⟩
abbrev cX10_isAtEnd : ByteArray := prog_12_method_9_code
def yX10_isAtEnd : MethodName := ⟨RX10, "isAtEnd", "()Z"⟩
abbrev cX10_isSemicolon : ByteArray := prog_12_method_10_code
def yX10_isSemicolon : MethodName := ⟨RX10, "isSemicolon", "()Z"⟩
abbrev cX10_wordAmong : ByteArray := prog_12_method_11_code
def yX10_wordAmong : MethodName := ⟨RX10, "wordAmong", "(Ljava/lang/String;)I"⟩
abbrev cX10_isNumberWithin : ByteArray := prog_12_method_12_code
def yX10_isNumberWithin : MethodName := ⟨RX10, "isNumberWithin", "(II)Z"⟩
abbrev cX10_fails : ByteArray := prog_12_method_13_code
def yX10_fails : MethodName := ⟨RX10, "fails", "(I)Z"⟩
abbrev cX10_isBlank : ByteArray := prog_12_method_14_code
def yX10_isBlank : MethodName := ⟨RX10, "isBlank", "(I)Z"⟩
abbrev cX10_isLetter : ByteArray := prog_12_method_15_code
def yX10_isLetter : MethodName := ⟨RX10, "isLetter", "(I)Z"⟩
abbrev cX10_isDigit : ByteArray := prog_12_method_16_code
def yX10_isDigit : MethodName := ⟨RX10, "isDigit", "(I)Z"⟩
def RX11 : String := "KitePower"
def TX11 : u_T := fun k => match k with
  | 0 => ("KitePower", "tape", "LKitePower$Tape;", true)
  | 1 => ("KitePower", "kite", "LKitePower$Kite;", true)
  | 2 => ("KitePower", "air", "LKitePower$Air;", true)
  | 3 => ("KitePower", "rules", "LKitePower$Rules;", true)
  | 4 => ("KitePower", "hours", "LKitePower$Hours;", true)
  | 5 => ("KitePower", "latestLoop", "LKitePower$Row;", true)
  | 6 => ("KitePower", "judgedRow", "LKitePower$Row;", true)
  | 7 => ("KitePower", "kept", "[LKitePower$Row;", true)
  | 8 => ("KitePower", "flight", "LKitePower$Flight;", true)
  | 9 => ("KitePower", "field", "LKitePower$Field;", true)
  | 10 => ("KitePower", "laws", "LKitePower$Laws;", true)
  | 11 => ("KitePower", "readings", "LKitePower$Readings;", true)
  | 12 => ("KitePower", "judgedOfThisKite", "Z", false)
  | 13 => ("KitePower", "tired", "I", false)
  | _ => ("KitePower", "share", "I", false)
def tyX11 : Nat → FieldType := fun k => match k with
  | 0 => .object "KitePower$Tape"
  | 1 => .object "KitePower$Kite"
  | 2 => .object "KitePower$Air"
  | 3 => .object "KitePower$Rules"
  | 4 => .object "KitePower$Hours"
  | 5 => .object "KitePower$Row"
  | 6 => .object "KitePower$Row"
  | 7 => .array (.object "KitePower$Row")
  | 8 => .object "KitePower$Flight"
  | 9 => .object "KitePower$Field"
  | 10 => .object "KitePower$Laws"
  | 11 => .object "KitePower$Readings"
  | 12 => .boolean
  | 13 => .int
  | _ => .int
theorem nmX11 : ∀ a, a < 15 → ∀ b, b < 15 → a ≠ b → (TX11 a).2.1 ≠ (TX11 b).2.1 := by decide +kernel
theorem tyX11_ok : ∀ k, k < 15 → parseFieldDescriptor (TX11 k).2.2.1 = some (tyX11 k) := by decide +kernel
abbrev cX11_init : ByteArray := prog_1_method_1_code
def yX11_init : MethodName := ⟨RX11, "<init>", "()V"⟩
abbrev cX11_feed : ByteArray := prog_1_method_2_code
def yX11_feed : MethodName := ⟨RX11, "feed", "(IIIII)I"⟩
abbrev cX11_end : ByteArray := prog_1_method_3_code
def yX11_end : MethodName := ⟨RX11, "end", "(I)I"⟩
abbrev cX11_kite : ByteArray := prog_1_method_4_code
def yX11_kite : MethodName := ⟨RX11, "kite", "()I"⟩
abbrev cX11_rules : ByteArray := prog_1_method_5_code
def yX11_rules : MethodName := ⟨RX11, "rules", "()I"⟩
abbrev cX11_fault : ByteArray := prog_1_method_6_code
def yX11_fault : MethodName := ⟨RX11, "fault", "(I)I"⟩
abbrev cX11_told : ByteArray := prog_1_method_7_code
def yX11_told : MethodName := ⟨RX11, "told", "(I)I"⟩
abbrev cX11_state : ByteArray := prog_1_method_8_code
def yX11_state : MethodName := ⟨RX11, "state", "(II)I"⟩
abbrev cX11_leads : ByteArray := prog_1_method_9_code
def yX11_leads : MethodName := ⟨RX11, "leads", "(II)I"⟩
abbrev cX11_wind : ByteArray := prog_1_method_10_code
def yX11_wind : MethodName := ⟨RX11, "wind", "(IIIII)I"⟩
abbrev cX11_winds : ByteArray := prog_1_method_11_code
def yX11_winds : MethodName := ⟨RX11, "winds", "(III)I"⟩
abbrev cX11_pull : ByteArray := prog_1_method_12_code
def yX11_pull : MethodName := ⟨RX11, "pull", "(III)I"⟩
abbrev cX11_safe : ByteArray := prog_1_method_13_code
def yX11_safe : MethodName := ⟨RX11, "safe", "(III)I"⟩
abbrev cX11_gives : ByteArray := prog_1_method_14_code
def yX11_gives : MethodName := ⟨RX11, "gives", "(III)I"⟩
abbrev cX11_best : ByteArray := prog_1_method_15_code
def yX11_best : MethodName := ⟨RX11, "best", "(I)I"⟩
abbrev cX11_looped : ByteArray := prog_1_method_16_code
def yX11_looped : MethodName := ⟨RX11, "looped", "(I)I"⟩
abbrev cX11_judge : ByteArray := prog_1_method_17_code
def yX11_judge : MethodName := ⟨RX11, "judge", "(II)I"⟩
abbrev cX11_judgeTape : ByteArray := prog_1_method_18_code
def yX11_judgeTape : MethodName := ⟨RX11, "judgeTape", "(II)I"⟩
abbrev cX11_judged : ByteArray := prog_1_method_19_code
def yX11_judged : MethodName := ⟨RX11, "judged", "(I)I"⟩
abbrev cX11_keep : ByteArray := prog_1_method_20_code
def yX11_keep : MethodName := ⟨RX11, "keep", "(I)I"⟩
abbrev cX11_fly : ByteArray := prog_1_method_21_code
def yX11_fly : MethodName := ⟨RX11, "fly", "(IIIIZ)I"⟩
abbrev cX11_flown : ByteArray := prog_1_method_22_code
def yX11_flown : MethodName := ⟨RX11, "flown", "(I)I"⟩
abbrev cX11_held : ByteArray := prog_1_method_23_code
def yX11_held : MethodName := ⟨RX11, "held", "(I)I"⟩
abbrev cX11_tired : ByteArray := prog_1_method_24_code
def yX11_tired : MethodName := ⟨RX11, "tired", "(I)I"⟩
abbrev cX11_rounds : ByteArray := prog_1_method_25_code
def yX11_rounds : MethodName := ⟨RX11, "rounds", "(III)I"⟩
abbrev cX11_plan : ByteArray := prog_1_method_26_code
def yX11_plan : MethodName := ⟨RX11, "plan", "(IIIIII)I"⟩
abbrev cX11_planned : ByteArray := prog_1_method_27_code
def yX11_planned : MethodName := ⟨RX11, "planned", "(I)I"⟩
abbrev cX11_apart : ByteArray := prog_1_method_28_code
def yX11_apart : MethodName := ⟨RX11, "apart", "(IIIII)I"⟩
abbrev cX11_shift : ByteArray := prog_1_method_29_code
def yX11_shift : MethodName := ⟨RX11, "shift", "(IIII)I"⟩
abbrev cX11_stand : ByteArray := prog_1_method_30_code
def yX11_stand : MethodName := ⟨RX11, "stand", "(II)I"⟩
abbrev cX11_field : ByteArray := prog_1_method_31_code
def yX11_field : MethodName := ⟨RX11, "field", "()I"⟩
abbrev cX11_fielded : ByteArray := prog_1_method_32_code
def yX11_fielded : MethodName := ⟨RX11, "fielded", "()I"⟩
abbrev cX11_law : ByteArray := prog_1_method_33_code
def yX11_law : MethodName := ⟨RX11, "law", "(III)I"⟩
abbrev cX11_breach : ByteArray := prog_1_method_34_code
def yX11_breach : MethodName := ⟨RX11, "breach", "(IIII)I"⟩
abbrev cX11_hidden : ByteArray := prog_1_method_35_code
def yX11_hidden : MethodName := ⟨RX11, "hidden", "(I)I"⟩
abbrev cX11_pulls : ByteArray := prog_1_method_36_code
def yX11_pulls : MethodName := ⟨RX11, "pulls", "(III)I"⟩
abbrev cX11_read : ByteArray := prog_1_method_37_code
def yX11_read : MethodName := ⟨RX11, "read", "(IIIIII)I"⟩
abbrev cX11_right : ByteArray := prog_1_method_38_code
def yX11_right : MethodName := ⟨RX11, "right", "(IIII)I"⟩
abbrev cX11_fit : ByteArray := prog_1_method_39_code
def yX11_fit : MethodName := ⟨RX11, "fit", "(I)I"⟩
abbrev cX11_next : ByteArray := prog_1_method_40_code
def yX11_next : MethodName := ⟨RX11, "next", "(II)I"⟩
abbrev cX11_count : ByteArray := prog_1_method_41_code
def yX11_count : MethodName := ⟨RX11, "count", "(I)I"⟩
abbrev cX11_canAsk : ByteArray := prog_1_method_42_code
def yX11_canAsk : MethodName := ⟨RX11, "canAsk", "(III)Z"⟩
abbrev cX11_canRead : ByteArray := prog_1_method_43_code
def yX11_canRead : MethodName := ⟨RX11, "canRead", "(III)Z"⟩
abbrev cX11_canPair : ByteArray := prog_1_method_44_code
def yX11_canPair : MethodName := ⟨RX11, "canPair", "(IIII)Z"⟩
abbrev cX11_areKept : ByteArray := prog_1_method_45_code
def yX11_areKept : MethodName := ⟨RX11, "areKept", "(II)Z"⟩
abbrev cX11_isWithin : ByteArray := prog_1_method_46_code
def yX11_isWithin : MethodName := ⟨RX11, "isWithin", "(III)Z"⟩
abbrev cX11_isHour : ByteArray := prog_1_method_47_code
def yX11_isHour : MethodName := ⟨RX11, "isHour", "(I)Z"⟩
abbrev cX11_isBand : ByteArray := prog_1_method_48_code
def yX11_isBand : MethodName := ⟨RX11, "isBand", "(I)Z"⟩
abbrev cX11_isStep : ByteArray := prog_1_method_49_code
def yX11_isStep : MethodName := ⟨RX11, "isStep", "(I)Z"⟩
abbrev cX11_isSlot : ByteArray := prog_1_method_50_code
def yX11_isSlot : MethodName := ⟨RX11, "isSlot", "(I)Z"⟩
abbrev cX11_isSite : ByteArray := prog_1_method_51_code
def yX11_isSite : MethodName := ⟨RX11, "isSite", "(I)Z"⟩
abbrev cX11_isEach : ByteArray := prog_1_method_52_code
def yX11_isEach : MethodName := ⟨RX11, "isEach", "(I)Z"⟩
abbrev cX11_isCost : ByteArray := prog_1_method_53_code
def yX11_isCost : MethodName := ⟨RX11, "isCost", "(I)Z"⟩
def RX12 : String := "KitePowerModel$Stop"
def TX12 : u_T := fun k => match k with
  | 0 => ("java/lang/Throwable", "cause", "Ljava/lang/Throwable;", false)
  | 1 => ("java/lang/Throwable", "stackTrace", "[Ljava/lang/StackTraceElement;", false)
  | 2 => ("java/lang/Throwable", "suppressedExceptions", "Ljava/util/List;", false)
  | 3 => ("java/lang/Throwable", "detailMessage", "Ljava/lang/String;", false)
  | 4 => ("java/lang/Throwable", "backtrace", "Ljava/lang/Object;", false)
  | _ => ("java/lang/Throwable", "depth", "I", false)
def tyX12 : Nat → FieldType := fun k => match k with
  | 0 => .object "java/lang/Throwable"
  | 1 => .array (.object "java/lang/StackTraceElement")
  | 2 => .object "java/util/List"
  | 3 => .object "java/lang/String"
  | 4 => .object "java/lang/Object"
  | _ => .int
theorem nmX12 : ∀ a, a < 6 → ∀ b, b < 6 → a ≠ b → (TX12 a).2.1 ≠ (TX12 b).2.1 := by decide +kernel
theorem tyX12_ok : ∀ k, k < 6 → parseFieldDescriptor (TX12 k).2.2.1 = some (tyX12 k) := by decide +kernel
abbrev cX12_init : ByteArray := prog_15_method_1_code
def yX12_init : MethodName := ⟨RX12, "<init>", "()V"⟩
def RX13 : String := "KitePowerModel"
def TX13 : u_T := fun k => match k with
  | 0 => ("KitePowerModel", "stop", "LKitePowerModel$Stop;", true)
  | 1 => ("KitePowerModel", "tape", "[B", true)
  | 2 => ("KitePowerModel", "taped", "I", false)
  | 3 => ("KitePowerModel", "length", "I", false)
  | 4 => ("KitePowerModel", "from", "I", false)
  | 5 => ("KitePowerModel", "behind", "I", false)
  | 6 => ("KitePowerModel", "hand", "I", false)
  | 7 => ("KitePowerModel", "value", "I", false)
  | 8 => ("KitePowerModel", "fault", "I", false)
  | 9 => ("KitePowerModel", "faultAt", "I", false)
  | 10 => ("KitePowerModel", "rule", "[I", true)
  | 11 => ("KitePowerModel", "readRule", "[I", true)
  | 12 => ("KitePowerModel", "lift", "[I", true)
  | 13 => ("KitePowerModel", "readLift", "[I", true)
  | 14 => ("KitePowerModel", "window", "[I", true)
  | 15 => ("KitePowerModel", "readWindow", "[I", true)
  | 16 => ("KitePowerModel", "lifts", "I", false)
  | 17 => ("KitePowerModel", "readLifts", "I", false)
  | 18 => ("KitePowerModel", "readWindows", "I", false)
  | 19 => ("KitePowerModel", "isTold", "[Z", true)
  | 20 => ("KitePowerModel", "lines", "I", false)
  | 21 => ("KitePowerModel", "readLines", "I", false)
  | 22 => ("KitePowerModel", "what", "[I", true)
  | 23 => ("KitePowerModel", "how", "[I", true)
  | 24 => ("KitePowerModel", "bound", "[I", true)
  | 25 => ("KitePowerModel", "conds", "[I", true)
  | 26 => ("KitePowerModel", "does", "[I", true)
  | 27 => ("KitePowerModel", "winds", "I", false)
  | 28 => ("KitePowerModel", "windTelling", "I", false)
  | 29 => ("KitePowerModel", "windHour", "[I", true)
  | 30 => ("KitePowerModel", "windBand", "[I", true)
  | 31 => ("KitePowerModel", "windLow", "[I", true)
  | 32 => ("KitePowerModel", "windHigh", "[I", true)
  | 33 => ("KitePowerModel", "windAt", "[I", true)
  | 34 => ("KitePowerModel", "lowNow", "[I", true)
  | 35 => ("KitePowerModel", "highNow", "[I", true)
  | 36 => ("KitePowerModel", "isStep", "[Z", true)
  | 37 => ("KitePowerModel", "stepGives", "[I", true)
  | 38 => ("KitePowerModel", "walk", "[J", true)
  | 39 => ("KitePowerModel", "meanSum", "J", false)
  | 40 => ("KitePowerModel", "meanMany", "J", false)
  | 41 => ("KitePowerModel", "high", "[J", true)
  | 42 => ("KitePowerModel", "tightTo", "[I", true)
  | 43 => ("KitePowerModel", "tightMany", "[I", true)
  | 44 => ("KitePowerModel", "far", "[I", true)
  | 45 => ("KitePowerModel", "queue", "[I", true)
  | 46 => ("KitePowerModel", "loopSum", "I", false)
  | 47 => ("KitePowerModel", "loopBegin", "I", false)
  | 48 => ("KitePowerModel", "loopActs", "I", false)
  | 49 => ("KitePowerModel", "loopAct", "[I", true)
  | 50 => ("KitePowerModel", "bestMany", "I", false)
  | 51 => ("KitePowerModel", "bestSum", "I", false)
  | 52 => ("KitePowerModel", "bestState", "I", false)
  | 53 => ("KitePowerModel", "bestAct", "[I", true)
  | 54 => ("KitePowerModel", "hasBest", "Z", false)
  | 55 => ("KitePowerModel", "judgedEnd", "I", false)
  | 56 => ("KitePowerModel", "judgedWon", "I", false)
  | 57 => ("KitePowerModel", "judgedSpent", "I", false)
  | 58 => ("KitePowerModel", "judgedMost", "I", false)
  | 59 => ("KitePowerModel", "judgedMany", "I", false)
  | 60 => ("KitePowerModel", "judgedBegin", "I", false)
  | 61 => ("KitePowerModel", "hasJudged", "Z", false)
  | 62 => ("KitePowerModel", "isLoopJudged", "Z", false)
  | 63 => ("KitePowerModel", "judgedAct", "[I", true)
  | 64 => ("KitePowerModel", "loopMany", "[I", true)
  | 65 => ("KitePowerModel", "loopState", "[I", true)
  | 66 => ("KitePowerModel", "loopWorth", "[I", true)
  | 67 => ("KitePowerModel", "kept", "[I", true)
  | 68 => ("KitePowerModel", "isRoundJudged", "Z", false)
  | 69 => ("KitePowerModel", "flownHow", "I", false)
  | 70 => ("KitePowerModel", "flownWork", "I", false)
  | 71 => ("KitePowerModel", "flownState", "I", false)
  | 72 => ("KitePowerModel", "flownTicks", "I", false)
  | 73 => ("KitePowerModel", "flownAct", "[I", true)
  | 74 => ("KitePowerModel", "tryAct", "[I", true)
  | 75 => ("KitePowerModel", "hasFlown", "Z", false)
  | 76 => ("KitePowerModel", "tryHow", "I", false)
  | 77 => ("KitePowerModel", "tryWork", "I", false)
  | 78 => ("KitePowerModel", "tryState", "I", false)
  | 79 => ("KitePowerModel", "tired", "I", false)
  | 80 => ("KitePowerModel", "hourGives", "[J", true)
  | 81 => ("KitePowerModel", "planFlown", "[I", true)
  | 82 => ("KitePowerModel", "landedFrom", "[J", true)
  | 83 => ("KitePowerModel", "flownFrom", "[J", true)
  | 84 => ("KitePowerModel", "planFrom", "I", false)
  | 85 => ("KitePowerModel", "planTo", "I", false)
  | 86 => ("KitePowerModel", "statesOne", "[I", true)
  | 87 => ("KitePowerModel", "statesOther", "[I", true)
  | 88 => ("KitePowerModel", "stands", "I", false)
  | 89 => ("KitePowerModel", "fieldSet", "I", false)
  | 90 => ("KitePowerModel", "standSite", "[I", true)
  | 91 => ("KitePowerModel", "meets", "[Z", true)
  | 92 => ("KitePowerModel", "laws", "I", false)
  | 93 => ("KitePowerModel", "lawFrom", "[I", true)
  | 94 => ("KitePowerModel", "lawTo", "[I", true)
  | 95 => ("KitePowerModel", "lawHeight", "[I", true)
  | 96 => ("KitePowerModel", "hidden", "I", false)
  | 97 => ("KitePowerModel", "reads", "I", false)
  | 98 => ("KitePowerModel", "rights", "I", false)
  | 99 => ("KitePowerModel", "readTelling", "I", false)
  | 100 => ("KitePowerModel", "readState", "[I", true)
  | 101 => ("KitePowerModel", "readAct", "[I", true)
  | 102 => ("KitePowerModel", "readHour", "[I", true)
  | 103 => ("KitePowerModel", "readLow", "[I", true)
  | 104 => ("KitePowerModel", "readHigh", "[I", true)
  | 105 => ("KitePowerModel", "readAt", "[I", true)
  | 106 => ("KitePowerModel", "rightOf", "[I", true)
  | 107 => ("KitePowerModel", "rightLow", "[I", true)
  | 108 => ("KitePowerModel", "rightHigh", "[I", true)
  | _ => ("KitePowerModel", "rightAt", "[I", true)
def tyX13 : Nat → FieldType := fun k => match k with
  | 0 => .object "KitePowerModel$Stop"
  | 1 => .array .byte
  | 2 => .int
  | 3 => .int
  | 4 => .int
  | 5 => .int
  | 6 => .int
  | 7 => .int
  | 8 => .int
  | 9 => .int
  | 10 => .array .int
  | 11 => .array .int
  | 12 => .array .int
  | 13 => .array .int
  | 14 => .array .int
  | 15 => .array .int
  | 16 => .int
  | 17 => .int
  | 18 => .int
  | 19 => .array .boolean
  | 20 => .int
  | 21 => .int
  | 22 => .array .int
  | 23 => .array .int
  | 24 => .array .int
  | 25 => .array .int
  | 26 => .array .int
  | 27 => .int
  | 28 => .int
  | 29 => .array .int
  | 30 => .array .int
  | 31 => .array .int
  | 32 => .array .int
  | 33 => .array .int
  | 34 => .array .int
  | 35 => .array .int
  | 36 => .array .boolean
  | 37 => .array .int
  | 38 => .array .long
  | 39 => .long
  | 40 => .long
  | 41 => .array .long
  | 42 => .array .int
  | 43 => .array .int
  | 44 => .array .int
  | 45 => .array .int
  | 46 => .int
  | 47 => .int
  | 48 => .int
  | 49 => .array .int
  | 50 => .int
  | 51 => .int
  | 52 => .int
  | 53 => .array .int
  | 54 => .boolean
  | 55 => .int
  | 56 => .int
  | 57 => .int
  | 58 => .int
  | 59 => .int
  | 60 => .int
  | 61 => .boolean
  | 62 => .boolean
  | 63 => .array .int
  | 64 => .array .int
  | 65 => .array .int
  | 66 => .array .int
  | 67 => .array .int
  | 68 => .boolean
  | 69 => .int
  | 70 => .int
  | 71 => .int
  | 72 => .int
  | 73 => .array .int
  | 74 => .array .int
  | 75 => .boolean
  | 76 => .int
  | 77 => .int
  | 78 => .int
  | 79 => .int
  | 80 => .array .long
  | 81 => .array .int
  | 82 => .array .long
  | 83 => .array .long
  | 84 => .int
  | 85 => .int
  | 86 => .array .int
  | 87 => .array .int
  | 88 => .int
  | 89 => .int
  | 90 => .array .int
  | 91 => .array .boolean
  | 92 => .int
  | 93 => .array .int
  | 94 => .array .int
  | 95 => .array .int
  | 96 => .int
  | 97 => .int
  | 98 => .int
  | 99 => .int
  | 100 => .array .int
  | 101 => .array .int
  | 102 => .array .int
  | 103 => .array .int
  | 104 => .array .int
  | 105 => .array .int
  | 106 => .array .int
  | 107 => .array .int
  | 108 => .array .int
  | _ => .array .int
theorem nmX13 : ∀ a, a < 110 → ∀ b, b < 110 → a ≠ b → (TX13 a).2.1 ≠ (TX13 b).2.1 := by decide +kernel
theorem tyX13_ok : ∀ k, k < 110 → parseFieldDescriptor (TX13 k).2.2.1 = some (tyX13 k) := by decide +kernel
abbrev cX13_in : ByteArray := prog_14_method_1_code
def yX13_in : MethodName := ⟨RX13, "in", "(JJJ)Z"⟩
abbrev cX13_isHour : ByteArray := prog_14_method_2_code
def yX13_isHour : MethodName := ⟨RX13, "isHour", "(I)Z"⟩
abbrev cX13_wrong : ByteArray := prog_14_method_3_code
def yX13_wrong : MethodName := ⟨RX13, "wrong", "(I)LKitePowerModel$Stop;"⟩
abbrev cX13_byteAt : ByteArray := prog_14_method_4_code
def yX13_byteAt : MethodName := ⟨RX13, "byteAt", "(I)I"⟩
abbrev cX13_isSmall : ByteArray := prog_14_method_5_code
def yX13_isSmall : MethodName := ⟨RX13, "isSmall", "(I)Z"⟩
abbrev cX13_isDigit : ByteArray := prog_14_method_6_code
def yX13_isDigit : MethodName := ⟨RX13, "isDigit", "(I)Z"⟩
abbrev cX13_scan : ByteArray := prog_14_method_7_code
def yX13_scan : MethodName := ⟨RX13, "scan", "()V"⟩
abbrev cX13_is : ByteArray := prog_14_method_8_code
def yX13_is : MethodName := ⟨RX13, "is", "(Ljava/lang/String;)Z"⟩
abbrev cX13_need : ByteArray := prog_14_method_9_code
def yX13_need : MethodName := ⟨RX13, "need", "(ZI)V"⟩
abbrev cX13_look : ByteArray := prog_14_method_10_code
def yX13_look : MethodName := ⟨RX13, "look", "(II)I"⟩
abbrev cX13_number : ByteArray := prog_14_method_11_code
def yX13_number : MethodName := ⟨RX13, "number", "(II)I"⟩
abbrev cX13_close : ByteArray := prog_14_method_12_code
def yX13_close : MethodName := ⟨RX13, "close", "()V"⟩
abbrev cX13_begin : ByteArray := prog_14_method_13_code
def yX13_begin : MethodName := ⟨RX13, "begin", "()V"⟩
abbrev cX13_plain : ByteArray := prog_14_method_14_code
def yX13_plain : MethodName := ⟨RX13, "plain", "()V"⟩
abbrev cX13_clauseAtHand : ByteArray := prog_14_method_15_code
def yX13_clauseAtHand : MethodName := ⟨RX13, "clauseAtHand", "()I"⟩
abbrev cX13_readRow : ByteArray := prog_14_method_16_code
def yX13_readRow : MethodName := ⟨RX13, "readRow", "([III)I"⟩
abbrev cX13_readKite : ByteArray := prog_14_method_17_code
def yX13_readKite : MethodName := ⟨RX13, "readKite", "()I"⟩
abbrev cX13_takeKite : ByteArray := prog_14_method_18_code
def yX13_takeKite : MethodName := ⟨RX13, "takeKite", "()V"⟩
abbrev cX13_condAtHand : ByteArray := prog_14_method_19_code
def yX13_condAtHand : MethodName := ⟨RX13, "condAtHand", "()I"⟩
abbrev cX13_readCond : ByteArray := prog_14_method_20_code
def yX13_readCond : MethodName := ⟨RX13, "readCond", "(I)V"⟩
abbrev cX13_moveAtHand : ByteArray := prog_14_method_21_code
def yX13_moveAtHand : MethodName := ⟨RX13, "moveAtHand", "()I"⟩
abbrev cX13_drumAtHand : ByteArray := prog_14_method_22_code
def yX13_drumAtHand : MethodName := ⟨RX13, "drumAtHand", "()I"⟩
abbrev cX13_readLine : ByteArray := prog_14_method_23_code
def yX13_readLine : MethodName := ⟨RX13, "readLine", "()V"⟩
abbrev cX13_init : ByteArray := prog_14_method_24_code
def yX13_init : MethodName := ⟨RX13, "<init>", "()V"⟩
abbrev cX13_feed : ByteArray := prog_14_method_25_code
def yX13_feed : MethodName := ⟨RX13, "feed", "(IIIII)I"⟩
abbrev cX13_lay : ByteArray := prog_14_method_26_code
def yX13_lay : MethodName := ⟨RX13, "lay", "(I)V"⟩
abbrev cX13_end : ByteArray := prog_14_method_27_code
def yX13_end : MethodName := ⟨RX13, "end", "(I)I"⟩
abbrev cX13_kite : ByteArray := prog_14_method_28_code
def yX13_kite : MethodName := ⟨RX13, "kite", "()I"⟩
abbrev cX13_rules : ByteArray := prog_14_method_29_code
def yX13_rules : MethodName := ⟨RX13, "rules", "()I"⟩
abbrev cX13_fault : ByteArray := prog_14_method_30_code
def yX13_fault : MethodName := ⟨RX13, "fault", "(I)I"⟩
abbrev cX13_told : ByteArray := prog_14_method_31_code
def yX13_told : MethodName := ⟨RX13, "told", "(I)I"⟩
abbrev cX13_states : ByteArray := prog_14_method_32_code
def yX13_states : MethodName := ⟨RX13, "states", "()I"⟩
abbrev cX13_columnOf : ByteArray := prog_14_method_33_code
def yX13_columnOf : MethodName := ⟨RX13, "columnOf", "(I)I"⟩
abbrev cX13_rowOf : ByteArray := prog_14_method_34_code
def yX13_rowOf : MethodName := ⟨RX13, "rowOf", "(I)I"⟩
abbrev cX13_ropeOf : ByteArray := prog_14_method_35_code
def yX13_ropeOf : MethodName := ⟨RX13, "ropeOf", "(I)I"⟩
abbrev cX13_heightOf : ByteArray := prog_14_method_36_code
def yX13_heightOf : MethodName := ⟨RX13, "heightOf", "(I)I"⟩
abbrev cX13_bandOf : ByteArray := prog_14_method_37_code
def yX13_bandOf : MethodName := ⟨RX13, "bandOf", "(I)I"⟩
abbrev cX13_acts : ByteArray := prog_14_method_38_code
def yX13_acts : MethodName := ⟨RX13, "acts", "()I"⟩
abbrev cX13_moveOf : ByteArray := prog_14_method_39_code
def yX13_moveOf : MethodName := ⟨RX13, "moveOf", "(I)I"⟩
abbrev cX13_drumOf : ByteArray := prog_14_method_40_code
def yX13_drumOf : MethodName := ⟨RX13, "drumOf", "(I)I"⟩
abbrev cX13_canMove : ByteArray := prog_14_method_41_code
def yX13_canMove : MethodName := ⟨RX13, "canMove", "(II)Z"⟩
abbrev cX13_canReel : ByteArray := prog_14_method_42_code
def yX13_canReel : MethodName := ⟨RX13, "canReel", "(II)Z"⟩
abbrev cX13_canDo : ByteArray := prog_14_method_43_code
def yX13_canDo : MethodName := ⟨RX13, "canDo", "(II)Z"⟩
abbrev cX13_after : ByteArray := prog_14_method_44_code
def yX13_after : MethodName := ⟨RX13, "after", "(II)I"⟩
abbrev cX13_pullOf : ByteArray := prog_14_method_45_code
def yX13_pullOf : MethodName := ⟨RX13, "pullOf", "(III)I"⟩
abbrev cX13_workOf : ByteArray := prog_14_method_46_code
def yX13_workOf : MethodName := ⟨RX13, "workOf", "(II)I"⟩
abbrev cX13_isState : ByteArray := prog_14_method_47_code
def yX13_isState : MethodName := ⟨RX13, "isState", "(I)Z"⟩
abbrev cX13_isAct : ByteArray := prog_14_method_48_code
def yX13_isAct : MethodName := ⟨RX13, "isAct", "(I)Z"⟩
abbrev cX13_state : ByteArray := prog_14_method_49_code
def yX13_state : MethodName := ⟨RX13, "state", "(II)I"⟩
abbrev cX13_leads : ByteArray := prog_14_method_50_code
def yX13_leads : MethodName := ⟨RX13, "leads", "(II)I"⟩
abbrev cX13_isBand : ByteArray := prog_14_method_51_code
def yX13_isBand : MethodName := ⟨RX13, "isBand", "(I)Z"⟩
abbrev cX13_wind : ByteArray := prog_14_method_52_code
def yX13_wind : MethodName := ⟨RX13, "wind", "(IIIII)I"⟩
abbrev cX13_winds : ByteArray := prog_14_method_53_code
def yX13_winds : MethodName := ⟨RX13, "winds", "(III)I"⟩
abbrev cX13_lowAt : ByteArray := prog_14_method_54_code
def yX13_lowAt : MethodName := ⟨RX13, "lowAt", "(II)I"⟩
abbrev cX13_highAt : ByteArray := prog_14_method_55_code
def yX13_highAt : MethodName := ⟨RX13, "highAt", "(II)I"⟩
abbrev cX13_pull : ByteArray := prog_14_method_56_code
def yX13_pull : MethodName := ⟨RX13, "pull", "(III)I"⟩
abbrev cX13_isSafe : ByteArray := prog_14_method_57_code
def yX13_isSafe : MethodName := ⟨RX13, "isSafe", "(III)Z"⟩
abbrev cX13_surely : ByteArray := prog_14_method_58_code
def yX13_surely : MethodName := ⟨RX13, "surely", "(III)I"⟩
abbrev cX13_safe : ByteArray := prog_14_method_59_code
def yX13_safe : MethodName := ⟨RX13, "safe", "(III)I"⟩
abbrev cX13_gives : ByteArray := prog_14_method_60_code
def yX13_gives : MethodName := ⟨RX13, "gives", "(III)I"⟩
abbrev cX13_findSteps : ByteArray := prog_14_method_61_code
def yX13_findSteps : MethodName := ⟨RX13, "findSteps", "(I)V"⟩
abbrev cX13_findWalks : ByteArray := prog_14_method_62_code
def yX13_findWalks : MethodName := ⟨RX13, "findWalks", "()V"⟩
abbrev cX13_findMean : ByteArray := prog_14_method_63_code
def yX13_findMean : MethodName := ⟨RX13, "findMean", "()Z"⟩
abbrev cX13_lessMean : ByteArray := prog_14_method_64_code
def yX13_lessMean : MethodName := ⟨RX13, "lessMean", "(I)J"⟩
abbrev cX13_findHigh : ByteArray := prog_14_method_65_code
def yX13_findHigh : MethodName := ⟨RX13, "findHigh", "()V"⟩
abbrev cX13_isTight : ByteArray := prog_14_method_66_code
def yX13_isTight : MethodName := ⟨RX13, "isTight", "(III)Z"⟩
abbrev cX13_isTightStep : ByteArray := prog_14_method_67_code
def yX13_isTightStep : MethodName := ⟨RX13, "isTightStep", "(II)Z"⟩
abbrev cX13_findTight : ByteArray := prog_14_method_68_code
def yX13_findTight : MethodName := ⟨RX13, "findTight", "()V"⟩
abbrev cX13_roundOf : ByteArray := prog_14_method_69_code
def yX13_roundOf : MethodName := ⟨RX13, "roundOf", "(II)I"⟩
abbrev cX13_leadsTo : ByteArray := prog_14_method_70_code
def yX13_leadsTo : MethodName := ⟨RX13, "leadsTo", "(III)Z"⟩
abbrev cX13_findFar : ByteArray := prog_14_method_71_code
def yX13_findFar : MethodName := ⟨RX13, "findFar", "(II)V"⟩
abbrev cX13_findLoop : ByteArray := prog_14_method_72_code
def yX13_findLoop : MethodName := ⟨RX13, "findLoop", "(I)Z"⟩
abbrev cX13_findActs : ByteArray := prog_14_method_73_code
def yX13_findActs : MethodName := ⟨RX13, "findActs", "(I)V"⟩
abbrev cX13_isNext : ByteArray := prog_14_method_74_code
def yX13_isNext : MethodName := ⟨RX13, "isNext", "(IIIII)Z"⟩
abbrev cX13_best : ByteArray := prog_14_method_75_code
def yX13_best : MethodName := ⟨RX13, "best", "(I)I"⟩
abbrev cX13_looped : ByteArray := prog_14_method_76_code
def yX13_looped : MethodName := ⟨RX13, "looped", "(I)I"⟩
abbrev cX13_judge : ByteArray := prog_14_method_77_code
def yX13_judge : MethodName := ⟨RX13, "judge", "(II)I"⟩
abbrev cX13_judged : ByteArray := prog_14_method_78_code
def yX13_judged : MethodName := ⟨RX13, "judged", "(I)I"⟩
abbrev cX13_isSlot : ByteArray := prog_14_method_79_code
def yX13_isSlot : MethodName := ⟨RX13, "isSlot", "(I)Z"⟩
abbrev cX13_keep : ByteArray := prog_14_method_80_code
def yX13_keep : MethodName := ⟨RX13, "keep", "(I)I"⟩
abbrev cX13_holds : ByteArray := prog_14_method_81_code
def yX13_holds : MethodName := ⟨RX13, "holds", "(III)Z"⟩
abbrev cX13_actBy : ByteArray := prog_14_method_82_code
def yX13_actBy : MethodName := ⟨RX13, "actBy", "(II)I"⟩
abbrev cX13_flyOn : ByteArray := prog_14_method_83_code
def yX13_flyOn : MethodName := ⟨RX13, "flyOn", "(IIIIZ)I"⟩
abbrev cX13_fly : ByteArray := prog_14_method_84_code
def yX13_fly : MethodName := ⟨RX13, "fly", "(IIIIZ)I"⟩
abbrev cX13_flown : ByteArray := prog_14_method_85_code
def yX13_flown : MethodName := ⟨RX13, "flown", "(I)I"⟩
abbrev cX13_held : ByteArray := prog_14_method_86_code
def yX13_held : MethodName := ⟨RX13, "held", "(I)I"⟩
abbrev cX13_tired : ByteArray := prog_14_method_87_code
def yX13_tired : MethodName := ⟨RX13, "tired", "(I)I"⟩
abbrev cX13_isKept : ByteArray := prog_14_method_88_code
def yX13_isKept : MethodName := ⟨RX13, "isKept", "(I)Z"⟩
abbrev cX13_rounds : ByteArray := prog_14_method_89_code
def yX13_rounds : MethodName := ⟨RX13, "rounds", "(III)I"⟩
abbrev cX13_plan : ByteArray := prog_14_method_90_code
def yX13_plan : MethodName := ⟨RX13, "plan", "(IIIIII)I"⟩
abbrev cX13_isCost : ByteArray := prog_14_method_91_code
def yX13_isCost : MethodName := ⟨RX13, "isCost", "(I)Z"⟩
abbrev cX13_planned : ByteArray := prog_14_method_92_code
def yX13_planned : MethodName := ⟨RX13, "planned", "(I)I"⟩
abbrev cX13_findStates : ByteArray := prog_14_method_93_code
def yX13_findStates : MethodName := ⟨RX13, "findStates", "(I[I)V"⟩
abbrev cX13_leastApart : ByteArray := prog_14_method_94_code
def yX13_leastApart : MethodName := ⟨RX13, "leastApart", "(IIIII)I"⟩
abbrev cX13_isSite : ByteArray := prog_14_method_95_code
def yX13_isSite : MethodName := ⟨RX13, "isSite", "(I)Z"⟩
abbrev cX13_apart : ByteArray := prog_14_method_96_code
def yX13_apart : MethodName := ⟨RX13, "apart", "(IIIII)I"⟩
abbrev cX13_shift : ByteArray := prog_14_method_97_code
def yX13_shift : MethodName := ⟨RX13, "shift", "(IIII)I"⟩
abbrev cX13_stand : ByteArray := prog_14_method_98_code
def yX13_stand : MethodName := ⟨RX13, "stand", "(II)I"⟩
abbrev cX13_field : ByteArray := prog_14_method_99_code
def yX13_field : MethodName := ⟨RX13, "field", "()I"⟩
abbrev cX13_fielded : ByteArray := prog_14_method_100_code
def yX13_fielded : MethodName := ⟨RX13, "fielded", "()I"⟩
abbrev cX13_law : ByteArray := prog_14_method_101_code
def yX13_law : MethodName := ⟨RX13, "law", "(III)I"⟩
abbrev cX13_breach : ByteArray := prog_14_method_102_code
def yX13_breach : MethodName := ⟨RX13, "breach", "(IIII)I"⟩
abbrev cX13_hidden : ByteArray := prog_14_method_103_code
def yX13_hidden : MethodName := ⟨RX13, "hidden", "(I)I"⟩
abbrev cX13_pullBy : ByteArray := prog_14_method_104_code
def yX13_pullBy : MethodName := ⟨RX13, "pullBy", "(IIII)I"⟩
abbrev cX13_pulls : ByteArray := prog_14_method_105_code
def yX13_pulls : MethodName := ⟨RX13, "pulls", "(III)I"⟩
abbrev cX13_arePulls : ByteArray := prog_14_method_106_code
def yX13_arePulls : MethodName := ⟨RX13, "arePulls", "(II)Z"⟩
abbrev cX13_read : ByteArray := prog_14_method_107_code
def yX13_read : MethodName := ⟨RX13, "read", "(IIIIII)I"⟩
abbrev cX13_right : ByteArray := prog_14_method_108_code
def yX13_right : MethodName := ⟨RX13, "right", "(IIII)I"⟩
abbrev cX13_isSo : ByteArray := prog_14_method_109_code
def yX13_isSo : MethodName := ⟨RX13, "isSo", "(III)Z"⟩
abbrev cX13_fitOf : ByteArray := prog_14_method_110_code
def yX13_fitOf : MethodName := ⟨RX13, "fitOf", "(I)I"⟩
abbrev cX13_fit : ByteArray := prog_14_method_111_code
def yX13_fit : MethodName := ⟨RX13, "fit", "(I)I"⟩
abbrev cX13_next : ByteArray := prog_14_method_112_code
def yX13_next : MethodName := ⟨RX13, "next", "(II)I"⟩
abbrev cX13_count : ByteArray := prog_14_method_113_code
def yX13_count : MethodName := ⟨RX13, "count", "(I)I"⟩
def RJ6 : String := "java/lang/Integer"
def TJ6 : u_T := fun k => match k with
  | _ => ("", "", "", false)
def tyJ6 : Nat → FieldType := fun k => match k with
  | _ => .int
theorem nmJ6 : ∀ a, a < 0 → ∀ b, b < 0 → a ≠ b → (TJ6 a).2.1 ≠ (TJ6 b).2.1 := by decide +kernel
theorem tyJ6_ok : ∀ k, k < 0 → parseFieldDescriptor (TJ6 k).2.2.1 = some (tyJ6 k) := by decide +kernel
abbrev cJ6_bitCount_0f7a4 : ByteArray := prog_17_method_49_code
def yJ6_bitCount_0f7a4 : MethodName := ⟨RJ6, "bitCount", "(I)I"⟩
def RJ9 : String := "java/lang/Math"
def TJ9 : u_T := fun k => match k with
  | _ => ("", "", "", false)
def tyJ9 : Nat → FieldType := fun k => match k with
  | _ => .int
theorem nmJ9 : ∀ a, a < 0 → ∀ b, b < 0 → a ≠ b → (TJ9 a).2.1 ≠ (TJ9 b).2.1 := by decide +kernel
theorem tyJ9_ok : ∀ k, k < 0 → parseFieldDescriptor (TJ9 k).2.2.1 = some (tyJ9 k) := by decide +kernel
abbrev cJ9_abs_0f7a4 : ByteArray := prog_18_method_59_code
def yJ9_abs_0f7a4 : MethodName := ⟨RJ9, "abs", "(I)I"⟩
abbrev cJ9_max_7cf53 : ByteArray := prog_18_method_65_code
def yJ9_max_7cf53 : MethodName := ⟨RJ9, "max", "(II)I"⟩
abbrev cJ9_max_f86c9 : ByteArray := prog_18_method_66_code
def yJ9_max_f86c9 : MethodName := ⟨RJ9, "max", "(JJ)J"⟩
abbrev cJ9_min_7cf53 : ByteArray := prog_18_method_69_code
def yJ9_min_7cf53 : MethodName := ⟨RJ9, "min", "(II)I"⟩
def RJ0 : String := "java/lang/String"
def TJ0 : u_T := fun k => match k with
  | _ => ("", "", "", false)
def tyJ0 : Nat → FieldType := fun k => match k with
  | _ => .int
theorem nmJ0 : ∀ a, a < 0 → ∀ b, b < 0 → a ≠ b → (TJ0 a).2.1 ≠ (TJ0 b).2.1 := by decide +kernel
theorem tyJ0_ok : ∀ k, k < 0 → parseFieldDescriptor (TJ0 k).2.2.1 = some (tyJ0 k) := by decide +kernel
abbrev cJ0_length_8abf5 : ByteArray := prog_19_method_54_code
def yJ0_length_8abf5 : MethodName := ⟨RJ0, "length", "()I"⟩
abbrev cJ0_charAt_5068e : ByteArray := prog_19_method_56_code
def yJ0_charAt_5068e : MethodName := ⟨RJ0, "charAt", "(I)C"⟩
abbrev cJ0_coder_7d493 : ByteArray := prog_19_method_152_code
def yJ0_coder_7d493 : MethodName := ⟨RJ0, "coder", "()B"⟩
abbrev cJ0_isLatin1_aae02 : ByteArray := prog_19_method_154_code
def yJ0_isLatin1_aae02 : MethodName := ⟨RJ0, "isLatin1", "()Z"⟩
abbrev cJ0_checkIndex_df160 : ByteArray := prog_19_method_155_code
def yJ0_checkIndex_df160 : MethodName := ⟨RJ0, "checkIndex", "(II)V"⟩
def RJ1 : String := "java/lang/StringLatin1"
def TJ1 : u_T := fun k => match k with
  | _ => ("", "", "", false)
def tyJ1 : Nat → FieldType := fun k => match k with
  | _ => .int
theorem nmJ1 : ∀ a, a < 0 → ∀ b, b < 0 → a ≠ b → (TJ1 a).2.1 ≠ (TJ1 b).2.1 := by decide +kernel
theorem tyJ1_ok : ∀ k, k < 0 → parseFieldDescriptor (TJ1 k).2.2.1 = some (tyJ1 k) := by decide +kernel
abbrev cJ1_charAt_3b067 : ByteArray := prog_20_method_2_code
def yJ1_charAt_3b067 : MethodName := ⟨RJ1, "charAt", "([BI)C"⟩
def RJ2 : String := "java/lang/StringUTF16"
def TJ2 : u_T := fun k => match k with
  | _ => ("", "", "", false)
def tyJ2 : Nat → FieldType := fun k => match k with
  | _ => .int
theorem nmJ2 : ∀ a, a < 0 → ∀ b, b < 0 → a ≠ b → (TJ2 a).2.1 ≠ (TJ2 b).2.1 := by decide +kernel
theorem tyJ2_ok : ∀ k, k < 0 → parseFieldDescriptor (TJ2 k).2.2.1 = some (tyJ2 k) := by decide +kernel
abbrev cJ2_getChar_3b067 : ByteArray := prog_21_method_5_code
def yJ2_getChar_3b067 : MethodName := ⟨RJ2, "getChar", "([BI)C"⟩
abbrev cJ2_length_9d52b : ByteArray := prog_21_method_6_code
def yJ2_length_9d52b : MethodName := ⟨RJ2, "length", "([B)I"⟩
abbrev cJ2_charAt_3b067 : ByteArray := prog_21_method_83_code
def yJ2_charAt_3b067 : MethodName := ⟨RJ2, "charAt", "([BI)C"⟩
abbrev cJ2_checkIndex_2214a : ByteArray := prog_21_method_91_code
def yJ2_checkIndex_2214a : MethodName := ⟨RJ2, "checkIndex", "(I[B)V"⟩
def RJ10 : String := "java/lang/System"
def TJ10 : u_T := fun k => match k with
  | _ => ("", "", "", false)
def tyJ10 : Nat → FieldType := fun k => match k with
  | _ => .int
theorem nmJ10 : ∀ a, a < 0 → ∀ b, b < 0 → a ≠ b → (TJ10 a).2.1 ≠ (TJ10 b).2.1 := by decide +kernel
theorem tyJ10_ok : ∀ k, k < 0 → parseFieldDescriptor (TJ10 k).2.2.1 = some (tyJ10 k) := by decide +kernel
def RJ7 : String := "java/util/Arrays"
def TJ7 : u_T := fun k => match k with
  | _ => ("", "", "", false)
def tyJ7 : Nat → FieldType := fun k => match k with
  | _ => .int
theorem nmJ7 : ∀ a, a < 0 → ∀ b, b < 0 → a ≠ b → (TJ7 a).2.1 ≠ (TJ7 b).2.1 := by decide +kernel
theorem tyJ7_ok : ∀ k, k < 0 → parseFieldDescriptor (TJ7 k).2.2.1 = some (tyJ7 k) := by decide +kernel
abbrev cJ7_rangeCheck_23922 : ByteArray := prog_24_method_30_code
def yJ7_rangeCheck_23922 : MethodName := ⟨RJ7, "rangeCheck", "(III)V"⟩
abbrev cJ7_fill_53178 : ByteArray := prog_24_method_103_code
def yJ7_fill_53178 : MethodName := ⟨RJ7, "fill", "([II)V"⟩
abbrev cJ7_fill_fda19 : ByteArray := prog_24_method_104_code
def yJ7_fill_fda19 : MethodName := ⟨RJ7, "fill", "([IIII)V"⟩
def RJ3 : String := "jdk/internal/util/Preconditions"
def TJ3 : u_T := fun k => match k with
  | _ => ("", "", "", false)
def tyJ3 : Nat → FieldType := fun k => match k with
  | _ => .int
theorem nmJ3 : ∀ a, a < 0 → ∀ b, b < 0 → a ≠ b → (TJ3 a).2.1 ≠ (TJ3 b).2.1 := by decide +kernel
theorem tyJ3_ok : ∀ k, k < 0 → parseFieldDescriptor (TJ3 k).2.2.1 = some (tyJ3 k) := by decide +kernel
abbrev cJ3_checkIndex_8e157 : ByteArray := prog_25_method_11_code
def yJ3_checkIndex_8e157 : MethodName := ⟨RJ3, "checkIndex", "(IILjava/util/function/BiFunction;)I"⟩
def RL : String := "KitePowerLaw"
abbrev cL_law : ByteArray := code
def yL_law : MethodName := ⟨RL, "law", "([I)Z"⟩
abbrev vwCl : List vw_C := [(RX0, TX0, 9), (RX1, TX1, 6), (RX2, TX2, 12), (RX3, TX3, 10), (RX4, TX4, 8), (RX5, TX5, 2), (RX6, TX6, 18), (RX7, TX7, 13), (RX8, TX8, 10), (RX9, TX9, 4), (RX10, TX10, 8), (RX11, TX11, 15), (RX12, TX12, 6), (RX13, TX13, 110)]
abbrev mm_D (cd : ByteArray) (pc q : Nat) (i : Instr) : Prop := decode cd pc = .ok (i, q - pc) ∧ pc < q
abbrev mm_Bz (cd : ByteArray) (pc q t : Nat) (k : Jvm.ClassFile.Cond) : Prop := decode cd pc = .ok (.ifCond k ((t : Int) - pc), 3) ∧ pc + 3 = q
abbrev mm_Bi (cd : ByteArray) (pc q t : Nat) (k : Jvm.ClassFile.Cond) : Prop := decode cd pc = .ok (.if_icmp k ((t : Int) - pc), 3) ∧ pc + 3 = q
abbrev mm_Bg (cd : ByteArray) (pc t : Nat) : Prop := decode cd pc = .ok (.goto ((t : Int) - pc), 3)
end
