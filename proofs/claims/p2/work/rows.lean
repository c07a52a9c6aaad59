section
-- ===== PART A (the kit's own text, given for pasting) =====
/-- a private method of a class that the tables say can be made, by its rows of tables_1 -/
def lw_okq (q : MethodName × Nat) : Prop := (q.1.cls ≠ "java/lang/invoke/MethodHandle" ∧ q.1.cls ≠ "java/lang/invoke/VarHandle") ∧ Cond.instantiable q.1.cls q.2 ∈ tables_1 ∧ Cond.privateMethod q.1 ∈ tables_1 ∧ Cond.instanceMethod q.1 ∈ tables_1
theorem lw_p0 : lw_okq (⟨"AcresPaid$Ring", "goesItsWay", "(I)Z"⟩, 3) := ⟨⟨by decide +kernel, by decide +kernel⟩, List.mem_of_getElem? (i := 117) (by decide +kernel), List.mem_of_getElem? (i := 569) (by decide +kernel), List.mem_of_getElem? (i := 570) (by decide +kernel)⟩
theorem lw_p1 : lw_okq (⟨"AcresPaid$Ring", "next", "(I)I"⟩, 3) := ⟨⟨by decide +kernel, by decide +kernel⟩, List.mem_of_getElem? (i := 117) (by decide +kernel), List.mem_of_getElem? (i := 573) (by decide +kernel), List.mem_of_getElem? (i := 574) (by decide +kernel)⟩
theorem lw_p2 : lw_okq (⟨"AcresPaid$Ring", "meet", "(II)Z"⟩, 3) := ⟨⟨by decide +kernel, by decide +kernel⟩, List.mem_of_getElem? (i := 117) (by decide +kernel), List.mem_of_getElem? (i := 577) (by decide +kernel), List.mem_of_getElem? (i := 578) (by decide +kernel)⟩
theorem lw_p3 : lw_okq (⟨"AcresPaid$Claims", "isBehind", "(III)Z"⟩, 20) := ⟨⟨by decide +kernel, by decide +kernel⟩, List.mem_of_getElem? (i := 134) (by decide +kernel), List.mem_of_getElem? (i := 683) (by decide +kernel), List.mem_of_getElem? (i := 684) (by decide +kernel)⟩
theorem lw_p4 : lw_okq (⟨"AcresPaid$Claims", "wasMade", "(III)Z"⟩, 20) := ⟨⟨by decide +kernel, by decide +kernel⟩, List.mem_of_getElem? (i := 134) (by decide +kernel), List.mem_of_getElem? (i := 778) (by decide +kernel), List.mem_of_getElem? (i := 779) (by decide +kernel)⟩
theorem lw_p5 : lw_okq (⟨"AcresPaid$Season", "faultOfRow", "(I)I"⟩, 13) := ⟨⟨by decide +kernel, by decide +kernel⟩, List.mem_of_getElem? (i := 709) (by decide +kernel), List.mem_of_getElem? (i := 785) (by decide +kernel), List.mem_of_getElem? (i := 786) (by decide +kernel)⟩
theorem lw_p6 : lw_okq (⟨"AcresPaid$Season", "countRow", "(I)V"⟩, 13) := ⟨⟨by decide +kernel, by decide +kernel⟩, List.mem_of_getElem? (i := 709) (by decide +kernel), List.mem_of_getElem? (i := 798) (by decide +kernel), List.mem_of_getElem? (i := 799) (by decide +kernel)⟩
theorem lw_p7 : lw_okq (⟨"AcresPaid$Season", "sumUp", "()V"⟩, 13) := ⟨⟨by decide +kernel, by decide +kernel⟩, List.mem_of_getElem? (i := 709) (by decide +kernel), List.mem_of_getElem? (i := 812) (by decide +kernel), List.mem_of_getElem? (i := 813) (by decide +kernel)⟩
theorem lw_p8 : lw_okq (⟨"AcresPaid$Shelves", "rowOn", "(I)I"⟩, 3) := ⟨⟨by decide +kernel, by decide +kernel⟩, List.mem_of_getElem? (i := 467) (by decide +kernel), List.mem_of_getElem? (i := 878) (by decide +kernel), List.mem_of_getElem? (i := 879) (by decide +kernel)⟩
theorem lw_p9 : lw_okq (⟨"AcresPaid$Colours", "apart", "(I[II)I"⟩, 3) := ⟨⟨by decide +kernel, by decide +kernel⟩, List.mem_of_getElem? (i := 424) (by decide +kernel), List.mem_of_getElem? (i := 900) (by decide +kernel), List.mem_of_getElem? (i := 901) (by decide +kernel)⟩
theorem lw_p10 : lw_okq (⟨"AcresPaid$Texts", "faultOf", "(I)I"⟩, 15) := ⟨⟨by decide +kernel, by decide +kernel⟩, List.mem_of_getElem? (i := 214) (by decide +kernel), List.mem_of_getElem? (i := 929) (by decide +kernel), List.mem_of_getElem? (i := 930) (by decide +kernel)⟩
theorem lw_p11 : lw_okq (⟨"AcresPaid$Texts", "open", "(I[I)V"⟩, 15) := ⟨⟨by decide +kernel, by decide +kernel⟩, List.mem_of_getElem? (i := 214) (by decide +kernel), List.mem_of_getElem? (i := 933) (by decide +kernel), List.mem_of_getElem? (i := 934) (by decide +kernel)⟩
theorem lw_p12 : lw_okq (⟨"AcresPaid$Texts", "either", "(I)I"⟩, 15) := ⟨⟨by decide +kernel, by decide +kernel⟩, List.mem_of_getElem? (i := 214) (by decide +kernel), List.mem_of_getElem? (i := 937) (by decide +kernel), List.mem_of_getElem? (i := 938) (by decide +kernel)⟩
theorem lw_p13 : lw_okq (⟨"AcresPaid$Texts", "both", "(I)I"⟩, 15) := ⟨⟨by decide +kernel, by decide +kernel⟩, List.mem_of_getElem? (i := 214) (by decide +kernel), List.mem_of_getElem? (i := 941) (by decide +kernel), List.mem_of_getElem? (i := 942) (by decide +kernel)⟩
theorem lw_p14 : lw_okq (⟨"AcresPaid$Texts", "compared", "(I)I"⟩, 15) := ⟨⟨by decide +kernel, by decide +kernel⟩, List.mem_of_getElem? (i := 214) (by decide +kernel), List.mem_of_getElem? (i := 945) (by decide +kernel), List.mem_of_getElem? (i := 946) (by decide +kernel)⟩
theorem lw_p15 : lw_okq (⟨"AcresPaid$Texts", "sum", "(I)I"⟩, 15) := ⟨⟨by decide +kernel, by decide +kernel⟩, List.mem_of_getElem? (i := 214) (by decide +kernel), List.mem_of_getElem? (i := 949) (by decide +kernel), List.mem_of_getElem? (i := 950) (by decide +kernel)⟩
def lw_privs_1 : List (MethodName × Nat) := [(⟨"AcresPaid$Ring", "goesItsWay", "(I)Z"⟩, 3), (⟨"AcresPaid$Ring", "next", "(I)I"⟩, 3), (⟨"AcresPaid$Ring", "meet", "(II)Z"⟩, 3), (⟨"AcresPaid$Claims", "isBehind", "(III)Z"⟩, 20), (⟨"AcresPaid$Claims", "wasMade", "(III)Z"⟩, 20), (⟨"AcresPaid$Season", "faultOfRow", "(I)I"⟩, 13), (⟨"AcresPaid$Season", "countRow", "(I)V"⟩, 13), (⟨"AcresPaid$Season", "sumUp", "()V"⟩, 13), (⟨"AcresPaid$Shelves", "rowOn", "(I)I"⟩, 3), (⟨"AcresPaid$Colours", "apart", "(I[II)I"⟩, 3), (⟨"AcresPaid$Texts", "faultOf", "(I)I"⟩, 15), (⟨"AcresPaid$Texts", "open", "(I[I)V"⟩, 15), (⟨"AcresPaid$Texts", "either", "(I)I"⟩, 15), (⟨"AcresPaid$Texts", "both", "(I)I"⟩, 15), (⟨"AcresPaid$Texts", "compared", "(I)I"⟩, 15), (⟨"AcresPaid$Texts", "sum", "(I)I"⟩, 15)]
theorem lw_r1 : ∀ q ∈ lw_privs_1, lw_okq q := List.forall_mem_cons.mpr ⟨lw_p0, List.forall_mem_cons.mpr ⟨lw_p1, List.forall_mem_cons.mpr ⟨lw_p2, List.forall_mem_cons.mpr ⟨lw_p3, List.forall_mem_cons.mpr ⟨lw_p4, List.forall_mem_cons.mpr ⟨lw_p5, List.forall_mem_cons.mpr ⟨lw_p6, List.forall_mem_cons.mpr ⟨lw_p7, List.forall_mem_cons.mpr ⟨lw_p8, List.forall_mem_cons.mpr ⟨lw_p9, List.forall_mem_cons.mpr ⟨lw_p10, List.forall_mem_cons.mpr ⟨lw_p11, List.forall_mem_cons.mpr ⟨lw_p12, List.forall_mem_cons.mpr ⟨lw_p13, List.forall_mem_cons.mpr ⟨lw_p14, List.forall_mem_cons.mpr ⟨lw_p15, fun _ h => absurd h List.not_mem_nil⟩⟩⟩⟩⟩⟩⟩⟩⟩⟩⟩⟩⟩⟩⟩⟩
theorem lw_p16 : lw_okq (⟨"AcresPaid$Texts", "product", "(I)I"⟩, 15) := ⟨⟨by decide +kernel, by decide +kernel⟩, List.mem_of_getElem? (i := 214) (by decide +kernel), List.mem_of_getElem? (i := 953) (by decide +kernel), List.mem_of_getElem? (i := 954) (by decide +kernel)⟩
theorem lw_p17 : lw_okq (⟨"AcresPaid$Texts", "operand", "(I)I"⟩, 15) := ⟨⟨by decide +kernel, by decide +kernel⟩, List.mem_of_getElem? (i := 214) (by decide +kernel), List.mem_of_getElem? (i := 957) (by decide +kernel), List.mem_of_getElem? (i := 958) (by decide +kernel)⟩
theorem lw_p18 : lw_okq (⟨"AcresPaid$Texts", "sign", "()I"⟩, 15) := ⟨⟨by decide +kernel, by decide +kernel⟩, List.mem_of_getElem? (i := 214) (by decide +kernel), List.mem_of_getElem? (i := 961) (by decide +kernel), List.mem_of_getElem? (i := 962) (by decide +kernel)⟩
theorem lw_p19 : lw_okq (⟨"AcresPaid$Texts", "number", "()I"⟩, 15) := ⟨⟨by decide +kernel, by decide +kernel⟩, List.mem_of_getElem? (i := 214) (by decide +kernel), List.mem_of_getElem? (i := 968) (by decide +kernel), List.mem_of_getElem? (i := 969) (by decide +kernel)⟩
theorem lw_p20 : lw_okq (⟨"AcresPaid$Texts", "fail", "()V"⟩, 15) := ⟨⟨by decide +kernel, by decide +kernel⟩, List.mem_of_getElem? (i := 214) (by decide +kernel), List.mem_of_getElem? (i := 1055) (by decide +kernel), List.mem_of_getElem? (i := 1056) (by decide +kernel)⟩
theorem lw_p21 : lw_okq (⟨"AcresPaid$Texts", "takes", "(C)Z"⟩, 15) := ⟨⟨by decide +kernel, by decide +kernel⟩, List.mem_of_getElem? (i := 214) (by decide +kernel), List.mem_of_getElem? (i := 1059) (by decide +kernel), List.mem_of_getElem? (i := 1060) (by decide +kernel)⟩
theorem lw_p22 : lw_okq (⟨"AcresPaid$Accounts", "sumCrops", "(LAcresPaid$Season;I)I"⟩, 10) := ⟨⟨by decide +kernel, by decide +kernel⟩, List.mem_of_getElem? (i := 270) (by decide +kernel), List.mem_of_getElem? (i := 1083) (by decide +kernel), List.mem_of_getElem? (i := 1084) (by decide +kernel)⟩
theorem lw_p23 : lw_okq (⟨"AcresPaid$Accounts", "cropsGrown", "()I"⟩, 10) := ⟨⟨by decide +kernel, by decide +kernel⟩, List.mem_of_getElem? (i := 270) (by decide +kernel), List.mem_of_getElem? (i := 1090) (by decide +kernel), List.mem_of_getElem? (i := 1091) (by decide +kernel)⟩
theorem lw_p24 : lw_okq (⟨"AcresPaid$Accounts", "squaresOfTopCrop", "()I"⟩, 10) := ⟨⟨by decide +kernel, by decide +kernel⟩, List.mem_of_getElem? (i := 270) (by decide +kernel), List.mem_of_getElem? (i := 1094) (by decide +kernel), List.mem_of_getElem? (i := 1095) (by decide +kernel)⟩
theorem lw_p25 : lw_okq (⟨"AcresPaid$Accounts", "permitsOf", "(III)I"⟩, 10) := ⟨⟨by decide +kernel, by decide +kernel⟩, List.mem_of_getElem? (i := 270) (by decide +kernel), List.mem_of_getElem? (i := 1104) (by decide +kernel), List.mem_of_getElem? (i := 1105) (by decide +kernel)⟩
theorem lw_p26 : lw_okq (⟨"AcresPaid$Accounts", "isHolder", "(IIII)Z"⟩, 10) := ⟨⟨by decide +kernel, by decide +kernel⟩, List.mem_of_getElem? (i := 270) (by decide +kernel), List.mem_of_getElem? (i := 1108) (by decide +kernel), List.mem_of_getElem? (i := 1109) (by decide +kernel)⟩
theorem lw_p27 : lw_okq (⟨"AcresPaid$Accounts", "valueOf", "(IIII)J"⟩, 10) := ⟨⟨by decide +kernel, by decide +kernel⟩, List.mem_of_getElem? (i := 270) (by decide +kernel), List.mem_of_getElem? (i := 1133) (by decide +kernel), List.mem_of_getElem? (i := 1134) (by decide +kernel)⟩
theorem lw_p28 : lw_okq (⟨"AcresPaid$Accounts", "greened", "(II)I"⟩, 10) := ⟨⟨by decide +kernel, by decide +kernel⟩, List.mem_of_getElem? (i := 270) (by decide +kernel), List.mem_of_getElem? (i := 1147) (by decide +kernel), List.mem_of_getElem? (i := 1148) (by decide +kernel)⟩
theorem lw_p29 : lw_okq (⟨"AcresPaid$Accounts", "stepped", "(II)I"⟩, 10) := ⟨⟨by decide +kernel, by decide +kernel⟩, List.mem_of_getElem? (i := 270) (by decide +kernel), List.mem_of_getElem? (i := 1153) (by decide +kernel), List.mem_of_getElem? (i := 1154) (by decide +kernel)⟩
theorem lw_p30 : lw_okq (⟨"AcresPaid$Accounts", "fined", "(II)I"⟩, 10) := ⟨⟨by decide +kernel, by decide +kernel⟩, List.mem_of_getElem? (i := 270) (by decide +kernel), List.mem_of_getElem? (i := 1157) (by decide +kernel), List.mem_of_getElem? (i := 1158) (by decide +kernel)⟩
theorem lw_p31 : lw_okq (⟨"AcresPaid$Accounts", "partOf", "(IJJ)I"⟩, 10) := ⟨⟨by decide +kernel, by decide +kernel⟩, List.mem_of_getElem? (i := 270) (by decide +kernel), List.mem_of_getElem? (i := 1195) (by decide +kernel), List.mem_of_getElem? (i := 1196) (by decide +kernel)⟩
def lw_privs_2 : List (MethodName × Nat) := [(⟨"AcresPaid$Texts", "product", "(I)I"⟩, 15), (⟨"AcresPaid$Texts", "operand", "(I)I"⟩, 15), (⟨"AcresPaid$Texts", "sign", "()I"⟩, 15), (⟨"AcresPaid$Texts", "number", "()I"⟩, 15), (⟨"AcresPaid$Texts", "fail", "()V"⟩, 15), (⟨"AcresPaid$Texts", "takes", "(C)Z"⟩, 15), (⟨"AcresPaid$Accounts", "sumCrops", "(LAcresPaid$Season;I)I"⟩, 10), (⟨"AcresPaid$Accounts", "cropsGrown", "()I"⟩, 10), (⟨"AcresPaid$Accounts", "squaresOfTopCrop", "()I"⟩, 10), (⟨"AcresPaid$Accounts", "permitsOf", "(III)I"⟩, 10), (⟨"AcresPaid$Accounts", "isHolder", "(IIII)Z"⟩, 10), (⟨"AcresPaid$Accounts", "valueOf", "(IIII)J"⟩, 10), (⟨"AcresPaid$Accounts", "greened", "(II)I"⟩, 10), (⟨"AcresPaid$Accounts", "stepped", "(II)I"⟩, 10), (⟨"AcresPaid$Accounts", "fined", "(II)I"⟩, 10), (⟨"AcresPaid$Accounts", "partOf", "(IJJ)I"⟩, 10)]
theorem lw_r2 : ∀ q ∈ lw_privs_2, lw_okq q := List.forall_mem_cons.mpr ⟨lw_p16, List.forall_mem_cons.mpr ⟨lw_p17, List.forall_mem_cons.mpr ⟨lw_p18, List.forall_mem_cons.mpr ⟨lw_p19, List.forall_mem_cons.mpr ⟨lw_p20, List.forall_mem_cons.mpr ⟨lw_p21, List.forall_mem_cons.mpr ⟨lw_p22, List.forall_mem_cons.mpr ⟨lw_p23, List.forall_mem_cons.mpr ⟨lw_p24, List.forall_mem_cons.mpr ⟨lw_p25, List.forall_mem_cons.mpr ⟨lw_p26, List.forall_mem_cons.mpr ⟨lw_p27, List.forall_mem_cons.mpr ⟨lw_p28, List.forall_mem_cons.mpr ⟨lw_p29, List.forall_mem_cons.mpr ⟨lw_p30, List.forall_mem_cons.mpr ⟨lw_p31, fun _ h => absurd h List.not_mem_nil⟩⟩⟩⟩⟩⟩⟩⟩⟩⟩⟩⟩⟩⟩⟩⟩
theorem lw_p32 : lw_okq (⟨"AcresPaid$Picks", "notBeside", "(IILAcresPaid$Season;)I"⟩, 17) := ⟨⟨by decide +kernel, by decide +kernel⟩, List.mem_of_getElem? (i := 312) (by decide +kernel), List.mem_of_getElem? (i := 1213) (by decide +kernel), List.mem_of_getElem? (i := 1214) (by decide +kernel)⟩
theorem lw_p33 : lw_okq (⟨"AcresPaid$Picks", "cheapest", "(I)I"⟩, 17) := ⟨⟨by decide +kernel, by decide +kernel⟩, List.mem_of_getElem? (i := 312) (by decide +kernel), List.mem_of_getElem? (i := 1226) (by decide +kernel), List.mem_of_getElem? (i := 1227) (by decide +kernel)⟩
theorem lw_p34 : lw_okq (⟨"AcresPaid$Picks", "endsAll", "(II)Z"⟩, 17) := ⟨⟨by decide +kernel, by decide +kernel⟩, List.mem_of_getElem? (i := 312) (by decide +kernel), List.mem_of_getElem? (i := 1230) (by decide +kernel), List.mem_of_getElem? (i := 1231) (by decide +kernel)⟩
theorem lw_p35 : lw_okq (⟨"AcresPaid$Picks", "isLess", "(III)Z"⟩, 17) := ⟨⟨by decide +kernel, by decide +kernel⟩, List.mem_of_getElem? (i := 312) (by decide +kernel), List.mem_of_getElem? (i := 1234) (by decide +kernel), List.mem_of_getElem? (i := 1235) (by decide +kernel)⟩
theorem lw_p36 : lw_okq (⟨"AcresPaid$Picks", "areaOf", "(II)I"⟩, 17) := ⟨⟨by decide +kernel, by decide +kernel⟩, List.mem_of_getElem? (i := 312) (by decide +kernel), List.mem_of_getElem? (i := 1238) (by decide +kernel), List.mem_of_getElem? (i := 1239) (by decide +kernel)⟩
theorem lw_p37 : lw_okq (⟨"AcresPaid$Picks", "give", "(II)I"⟩, 17) := ⟨⟨by decide +kernel, by decide +kernel⟩, List.mem_of_getElem? (i := 312) (by decide +kernel), List.mem_of_getElem? (i := 1246) (by decide +kernel), List.mem_of_getElem? (i := 1247) (by decide +kernel)⟩
theorem lw_p38 : lw_okq (⟨"AcresPaid$Picks", "fillPool", "(II)V"⟩, 17) := ⟨⟨by decide +kernel, by decide +kernel⟩, List.mem_of_getElem? (i := 312) (by decide +kernel), List.mem_of_getElem? (i := 1266) (by decide +kernel), List.mem_of_getElem? (i := 1267) (by decide +kernel)⟩
theorem lw_p39 : lw_okq (⟨"AcresPaid$Picks", "riskiest", "()I"⟩, 17) := ⟨⟨by decide +kernel, by decide +kernel⟩, List.mem_of_getElem? (i := 312) (by decide +kernel), List.mem_of_getElem? (i := 1274) (by decide +kernel), List.mem_of_getElem? (i := 1275) (by decide +kernel)⟩
theorem lw_p40 : lw_okq (⟨"AcresPaid$Picks", "lotted", "()I"⟩, 17) := ⟨⟨by decide +kernel, by decide +kernel⟩, List.mem_of_getElem? (i := 312) (by decide +kernel), List.mem_of_getElem? (i := 1278) (by decide +kernel), List.mem_of_getElem? (i := 1279) (by decide +kernel)⟩
theorem lw_p41 : lw_okq (⟨"AcresPaid$Picks", "takeFromPool", "(I)V"⟩, 17) := ⟨⟨by decide +kernel, by decide +kernel⟩, List.mem_of_getElem? (i := 312) (by decide +kernel), List.mem_of_getElem? (i := 1283) (by decide +kernel), List.mem_of_getElem? (i := 1284) (by decide +kernel)⟩
theorem lw_p42 : lw_okq (⟨"AcresPaid$Picks", "chance", "(III)J"⟩, 17) := ⟨⟨by decide +kernel, by decide +kernel⟩, List.mem_of_getElem? (i := 312) (by decide +kernel), List.mem_of_getElem? (i := 1312) (by decide +kernel), List.mem_of_getElem? (i := 1313) (by decide +kernel)⟩
theorem lw_p43 : lw_okq (⟨"AcresPaid$Mix", "seek", "(I)I"⟩, 12) := ⟨⟨by decide +kernel, by decide +kernel⟩, List.mem_of_getElem? (i := 377) (by decide +kernel), List.mem_of_getElem? (i := 1338) (by decide +kernel), List.mem_of_getElem? (i := 1339) (by decide +kernel)⟩
theorem lw_p44 : lw_okq (⟨"AcresPaid$Mix", "sortByWorth", "()V"⟩, 12) := ⟨⟨by decide +kernel, by decide +kernel⟩, List.mem_of_getElem? (i := 377) (by decide +kernel), List.mem_of_getElem? (i := 1343) (by decide +kernel), List.mem_of_getElem? (i := 1344) (by decide +kernel)⟩
theorem lw_p45 : lw_okq (⟨"AcresPaid$Mix", "seekFrom", "(I[IIII)V"⟩, 12) := ⟨⟨by decide +kernel, by decide +kernel⟩, List.mem_of_getElem? (i := 377) (by decide +kernel), List.mem_of_getElem? (i := 1347) (by decide +kernel), List.mem_of_getElem? (i := 1348) (by decide +kernel)⟩
theorem lw_p46 : lw_okq (⟨"AcresPaid$Mix", "bound", "(II)I"⟩, 12) := ⟨⟨by decide +kernel, by decide +kernel⟩, List.mem_of_getElem? (i := 377) (by decide +kernel), List.mem_of_getElem? (i := 1351) (by decide +kernel), List.mem_of_getElem? (i := 1352) (by decide +kernel)⟩
theorem lw_p47 : lw_okq (⟨"AcresPaid$Mix", "isFirstUnused", "(I[I)Z"⟩, 12) := ⟨⟨by decide +kernel, by decide +kernel⟩, List.mem_of_getElem? (i := 377) (by decide +kernel), List.mem_of_getElem? (i := 1357) (by decide +kernel), List.mem_of_getElem? (i := 1358) (by decide +kernel)⟩
def lw_privs_3 : List (MethodName × Nat) := [(⟨"AcresPaid$Picks", "notBeside", "(IILAcresPaid$Season;)I"⟩, 17), (⟨"AcresPaid$Picks", "cheapest", "(I)I"⟩, 17), (⟨"AcresPaid$Picks", "endsAll", "(II)Z"⟩, 17), (⟨"AcresPaid$Picks", "isLess", "(III)Z"⟩, 17), (⟨"AcresPaid$Picks", "areaOf", "(II)I"⟩, 17), (⟨"AcresPaid$Picks", "give", "(II)I"⟩, 17), (⟨"AcresPaid$Picks", "fillPool", "(II)V"⟩, 17), (⟨"AcresPaid$Picks", "riskiest", "()I"⟩, 17), (⟨"AcresPaid$Picks", "lotted", "()I"⟩, 17), (⟨"AcresPaid$Picks", "takeFromPool", "(I)V"⟩, 17), (⟨"AcresPaid$Picks", "chance", "(III)J"⟩, 17), (⟨"AcresPaid$Mix", "seek", "(I)I"⟩, 12), (⟨"AcresPaid$Mix", "sortByWorth", "()V"⟩, 12), (⟨"AcresPaid$Mix", "seekFrom", "(I[IIII)V"⟩, 12), (⟨"AcresPaid$Mix", "bound", "(II)I"⟩, 12), (⟨"AcresPaid$Mix", "isFirstUnused", "(I[I)Z"⟩, 12)]
theorem lw_r3 : ∀ q ∈ lw_privs_3, lw_okq q := List.forall_mem_cons.mpr ⟨lw_p32, List.forall_mem_cons.mpr ⟨lw_p33, List.forall_mem_cons.mpr ⟨lw_p34, List.forall_mem_cons.mpr ⟨lw_p35, List.forall_mem_cons.mpr ⟨lw_p36, List.forall_mem_cons.mpr ⟨lw_p37, List.forall_mem_cons.mpr ⟨lw_p38, List.forall_mem_cons.mpr ⟨lw_p39, List.forall_mem_cons.mpr ⟨lw_p40, List.forall_mem_cons.mpr ⟨lw_p41, List.forall_mem_cons.mpr ⟨lw_p42, List.forall_mem_cons.mpr ⟨lw_p43, List.forall_mem_cons.mpr ⟨lw_p44, List.forall_mem_cons.mpr ⟨lw_p45, List.forall_mem_cons.mpr ⟨lw_p46, List.forall_mem_cons.mpr ⟨lw_p47, fun _ h => absurd h List.not_mem_nil⟩⟩⟩⟩⟩⟩⟩⟩⟩⟩⟩⟩⟩⟩⟩⟩
theorem lw_p48 : lw_okq (⟨"AcresPaid$Acts", "yields", "(II)I"⟩, 5) := ⟨⟨by decide +kernel, by decide +kernel⟩, List.mem_of_getElem? (i := 443) (by decide +kernel), List.mem_of_getElem? (i := 1386) (by decide +kernel), List.mem_of_getElem? (i := 1387) (by decide +kernel)⟩
theorem lw_p49 : lw_okq (⟨"AcresPaid$Acts", "began", "(I)V"⟩, 5) := ⟨⟨by decide +kernel, by decide +kernel⟩, List.mem_of_getElem? (i := 443) (by decide +kernel), List.mem_of_getElem? (i := 1390) (by decide +kernel), List.mem_of_getElem? (i := 1391) (by decide +kernel)⟩
theorem lw_p50 : lw_okq (⟨"AcresPaid$Acts", "claims", "(II)I"⟩, 5) := ⟨⟨by decide +kernel, by decide +kernel⟩, List.mem_of_getElem? (i := 443) (by decide +kernel), List.mem_of_getElem? (i := 1394) (by decide +kernel), List.mem_of_getElem? (i := 1395) (by decide +kernel)⟩
theorem lw_p51 : lw_okq (⟨"AcresPaid$Acts", "holds", "(II)I"⟩, 5) := ⟨⟨by decide +kernel, by decide +kernel⟩, List.mem_of_getElem? (i := 443) (by decide +kernel), List.mem_of_getElem? (i := 1398) (by decide +kernel), List.mem_of_getElem? (i := 1399) (by decide +kernel)⟩
theorem lw_p52 : lw_okq (⟨"AcresPaid$Acts", "tells", "(II)I"⟩, 5) := ⟨⟨by decide +kernel, by decide +kernel⟩, List.mem_of_getElem? (i := 443) (by decide +kernel), List.mem_of_getElem? (i := 1402) (by decide +kernel), List.mem_of_getElem? (i := 1403) (by decide +kernel)⟩
theorem lw_p53 : lw_okq (⟨"AcresPaidModel", "add", "(I)I"⟩, 101) := ⟨⟨by decide +kernel, by decide +kernel⟩, List.mem_of_getElem? (i := 1476) (by decide +kernel), List.mem_of_getElem? (i := 1797) (by decide +kernel), List.mem_of_getElem? (i := 1798) (by decide +kernel)⟩
theorem lw_p54 : lw_okq (⟨"AcresPaidModel", "isSound", "()Z"⟩, 101) := ⟨⟨by decide +kernel, by decide +kernel⟩, List.mem_of_getElem? (i := 1476) (by decide +kernel), List.mem_of_getElem? (i := 1827) (by decide +kernel), List.mem_of_getElem? (i := 1828) (by decide +kernel)⟩
theorem lw_p55 : lw_okq (⟨"AcresPaidModel", "lowY", "(I)I"⟩, 101) := ⟨⟨by decide +kernel, by decide +kernel⟩, List.mem_of_getElem? (i := 1476) (by decide +kernel), List.mem_of_getElem? (i := 1831) (by decide +kernel), List.mem_of_getElem? (i := 1832) (by decide +kernel)⟩
theorem lw_p56 : lw_okq (⟨"AcresPaidModel", "behind", "(I)I"⟩, 101) := ⟨⟨by decide +kernel, by decide +kernel⟩, List.mem_of_getElem? (i := 1476) (by decide +kernel), List.mem_of_getElem? (i := 1835) (by decide +kernel), List.mem_of_getElem? (i := 1836) (by decide +kernel)⟩
theorem lw_p57 : lw_okq (⟨"AcresPaidModel", "highY", "(I)I"⟩, 101) := ⟨⟨by decide +kernel, by decide +kernel⟩, List.mem_of_getElem? (i := 1476) (by decide +kernel), List.mem_of_getElem? (i := 1842) (by decide +kernel), List.mem_of_getElem? (i := 1843) (by decide +kernel)⟩
theorem lw_p58 : lw_okq (⟨"AcresPaidModel", "lowX", "(I)I"⟩, 101) := ⟨⟨by decide +kernel, by decide +kernel⟩, List.mem_of_getElem? (i := 1476) (by decide +kernel), List.mem_of_getElem? (i := 1849) (by decide +kernel), List.mem_of_getElem? (i := 1850) (by decide +kernel)⟩
theorem lw_p59 : lw_okq (⟨"AcresPaidModel", "highX", "(I)I"⟩, 101) := ⟨⟨by decide +kernel, by decide +kernel⟩, List.mem_of_getElem? (i := 1476) (by decide +kernel), List.mem_of_getElem? (i := 1853) (by decide +kernel), List.mem_of_getElem? (i := 1854) (by decide +kernel)⟩
theorem lw_p60 : lw_okq (⟨"AcresPaidModel", "ringArea", "()I"⟩, 101) := ⟨⟨by decide +kernel, by decide +kernel⟩, List.mem_of_getElem? (i := 1476) (by decide +kernel), List.mem_of_getElem? (i := 1857) (by decide +kernel), List.mem_of_getElem? (i := 1858) (by decide +kernel)⟩
theorem lw_p61 : lw_okq (⟨"AcresPaidModel", "isFarm", "(I)Z"⟩, 101) := ⟨⟨by decide +kernel, by decide +kernel⟩, List.mem_of_getElem? (i := 1476) (by decide +kernel), List.mem_of_getElem? (i := 1865) (by decide +kernel), List.mem_of_getElem? (i := 1866) (by decide +kernel)⟩
theorem lw_p62 : lw_okq (⟨"AcresPaidModel", "isBody", "(I)Z"⟩, 101) := ⟨⟨by decide +kernel, by decide +kernel⟩, List.mem_of_getElem? (i := 1476) (by decide +kernel), List.mem_of_getElem? (i := 1869) (by decide +kernel), List.mem_of_getElem? (i := 1870) (by decide +kernel)⟩
theorem lw_p63 : lw_okq (⟨"AcresPaidModel", "isInRing", "(II)Z"⟩, 101) := ⟨⟨by decide +kernel, by decide +kernel⟩, List.mem_of_getElem? (i := 1476) (by decide +kernel), List.mem_of_getElem? (i := 1873) (by decide +kernel), List.mem_of_getElem? (i := 1874) (by decide +kernel)⟩
def lw_privs_4 : List (MethodName × Nat) := [(⟨"AcresPaid$Acts", "yields", "(II)I"⟩, 5), (⟨"AcresPaid$Acts", "began", "(I)V"⟩, 5), (⟨"AcresPaid$Acts", "claims", "(II)I"⟩, 5), (⟨"AcresPaid$Acts", "holds", "(II)I"⟩, 5), (⟨"AcresPaid$Acts", "tells", "(II)I"⟩, 5), (⟨"AcresPaidModel", "add", "(I)I"⟩, 101), (⟨"AcresPaidModel", "isSound", "()Z"⟩, 101), (⟨"AcresPaidModel", "lowY", "(I)I"⟩, 101), (⟨"AcresPaidModel", "behind", "(I)I"⟩, 101), (⟨"AcresPaidModel", "highY", "(I)I"⟩, 101), (⟨"AcresPaidModel", "lowX", "(I)I"⟩, 101), (⟨"AcresPaidModel", "highX", "(I)I"⟩, 101), (⟨"AcresPaidModel", "ringArea", "()I"⟩, 101), (⟨"AcresPaidModel", "isFarm", "(I)Z"⟩, 101), (⟨"AcresPaidModel", "isBody", "(I)Z"⟩, 101), (⟨"AcresPaidModel", "isInRing", "(II)Z"⟩, 101)]
theorem lw_r4 : ∀ q ∈ lw_privs_4, lw_okq q := List.forall_mem_cons.mpr ⟨lw_p48, List.forall_mem_cons.mpr ⟨lw_p49, List.forall_mem_cons.mpr ⟨lw_p50, List.forall_mem_cons.mpr ⟨lw_p51, List.forall_mem_cons.mpr ⟨lw_p52, List.forall_mem_cons.mpr ⟨lw_p53, List.forall_mem_cons.mpr ⟨lw_p54, List.forall_mem_cons.mpr ⟨lw_p55, List.forall_mem_cons.mpr ⟨lw_p56, List.forall_mem_cons.mpr ⟨lw_p57, List.forall_mem_cons.mpr ⟨lw_p58, List.forall_mem_cons.mpr ⟨lw_p59, List.forall_mem_cons.mpr ⟨lw_p60, List.forall_mem_cons.mpr ⟨lw_p61, List.forall_mem_cons.mpr ⟨lw_p62, List.forall_mem_cons.mpr ⟨lw_p63, fun _ h => absurd h List.not_mem_nil⟩⟩⟩⟩⟩⟩⟩⟩⟩⟩⟩⟩⟩⟩⟩⟩
theorem lw_p64 : lw_okq (⟨"AcresPaidModel", "isField", "(I)Z"⟩, 101) := ⟨⟨by decide +kernel, by decide +kernel⟩, List.mem_of_getElem? (i := 1476) (by decide +kernel), List.mem_of_getElem? (i := 1881) (by decide +kernel), List.mem_of_getElem? (i := 1882) (by decide +kernel)⟩
theorem lw_p65 : lw_okq (⟨"AcresPaidModel", "holderOn", "(III)I"⟩, 101) := ⟨⟨by decide +kernel, by decide +kernel⟩, List.mem_of_getElem? (i := 1476) (by decide +kernel), List.mem_of_getElem? (i := 1900) (by decide +kernel), List.mem_of_getElem? (i := 1901) (by decide +kernel)⟩
theorem lw_p66 : lw_okq (⟨"AcresPaidModel", "claimOf", "(IIII)I"⟩, 101) := ⟨⟨by decide +kernel, by decide +kernel⟩, List.mem_of_getElem? (i := 1476) (by decide +kernel), List.mem_of_getElem? (i := 1928) (by decide +kernel), List.mem_of_getElem? (i := 1929) (by decide +kernel)⟩
theorem lw_p67 : lw_okq (⟨"AcresPaidModel", "reckon", "(I)V"⟩, 101) := ⟨⟨by decide +kernel, by decide +kernel⟩, List.mem_of_getElem? (i := 1476) (by decide +kernel), List.mem_of_getElem? (i := 1932) (by decide +kernel), List.mem_of_getElem? (i := 1933) (by decide +kernel)⟩
theorem lw_p68 : lw_okq (⟨"AcresPaidModel", "counts", "(II)Z"⟩, 101) := ⟨⟨by decide +kernel, by decide +kernel⟩, List.mem_of_getElem? (i := 1476) (by decide +kernel), List.mem_of_getElem? (i := 1936) (by decide +kernel), List.mem_of_getElem? (i := 1937) (by decide +kernel)⟩
theorem lw_p69 : lw_okq (⟨"AcresPaidModel", "yearOf", "(I)I"⟩, 101) := ⟨⟨by decide +kernel, by decide +kernel⟩, List.mem_of_getElem? (i := 1476) (by decide +kernel), List.mem_of_getElem? (i := 1940) (by decide +kernel), List.mem_of_getElem? (i := 1941) (by decide +kernel)⟩
theorem lw_p70 : lw_okq (⟨"AcresPaidModel", "findFaults", "(II)V"⟩, 101) := ⟨⟨by decide +kernel, by decide +kernel⟩, List.mem_of_getElem? (i := 1476) (by decide +kernel), List.mem_of_getElem? (i := 1944) (by decide +kernel), List.mem_of_getElem? (i := 1945) (by decide +kernel)⟩
theorem lw_p71 : lw_okq (⟨"AcresPaidModel", "isOut", "(IIII)Z"⟩, 101) := ⟨⟨by decide +kernel, by decide +kernel⟩, List.mem_of_getElem? (i := 1476) (by decide +kernel), List.mem_of_getElem? (i := 1948) (by decide +kernel), List.mem_of_getElem? (i := 1949) (by decide +kernel)⟩
theorem lw_p72 : lw_okq (⟨"AcresPaidModel", "isIn", "(II)Z"⟩, 101) := ⟨⟨by decide +kernel, by decide +kernel⟩, List.mem_of_getElem? (i := 1476) (by decide +kernel), List.mem_of_getElem? (i := 1952) (by decide +kernel), List.mem_of_getElem? (i := 1953) (by decide +kernel)⟩
theorem lw_p73 : lw_okq (⟨"AcresPaidModel", "findCounted", "(II)V"⟩, 101) := ⟨⟨by decide +kernel, by decide +kernel⟩, List.mem_of_getElem? (i := 1476) (by decide +kernel), List.mem_of_getElem? (i := 1956) (by decide +kernel), List.mem_of_getElem? (i := 1957) (by decide +kernel)⟩
theorem lw_p74 : lw_okq (⟨"AcresPaidModel", "missingOf", "(II)I"⟩, 101) := ⟨⟨by decide +kernel, by decide +kernel⟩, List.mem_of_getElem? (i := 1476) (by decide +kernel), List.mem_of_getElem? (i := 1960) (by decide +kernel), List.mem_of_getElem? (i := 1961) (by decide +kernel)⟩
theorem lw_p75 : lw_okq (⟨"AcresPaidModel", "lateOf", "(I)I"⟩, 101) := ⟨⟨by decide +kernel, by decide +kernel⟩, List.mem_of_getElem? (i := 1476) (by decide +kernel), List.mem_of_getElem? (i := 1964) (by decide +kernel), List.mem_of_getElem? (i := 1965) (by decide +kernel)⟩
theorem lw_p76 : lw_okq (⟨"AcresPaidModel", "apartOf", "(III)I"⟩, 101) := ⟨⟨by decide +kernel, by decide +kernel⟩, List.mem_of_getElem? (i := 1476) (by decide +kernel), List.mem_of_getElem? (i := 1995) (by decide +kernel), List.mem_of_getElem? (i := 1996) (by decide +kernel)⟩
theorem lw_p77 : lw_okq (⟨"AcresPaidModel", "readLine", "()V"⟩, 101) := ⟨⟨by decide +kernel, by decide +kernel⟩, List.mem_of_getElem? (i := 1476) (by decide +kernel), List.mem_of_getElem? (i := 2011) (by decide +kernel), List.mem_of_getElem? (i := 2012) (by decide +kernel)⟩
theorem lw_p78 : lw_okq (⟨"AcresPaidModel", "either", "()V"⟩, 101) := ⟨⟨by decide +kernel, by decide +kernel⟩, List.mem_of_getElem? (i := 1476) (by decide +kernel), List.mem_of_getElem? (i := 2015) (by decide +kernel), List.mem_of_getElem? (i := 2016) (by decide +kernel)⟩
theorem lw_p79 : lw_okq (⟨"AcresPaidModel", "all", "()V"⟩, 101) := ⟨⟨by decide +kernel, by decide +kernel⟩, List.mem_of_getElem? (i := 1476) (by decide +kernel), List.mem_of_getElem? (i := 2019) (by decide +kernel), List.mem_of_getElem? (i := 2020) (by decide +kernel)⟩
def lw_privs_5 : List (MethodName × Nat) := [(⟨"AcresPaidModel", "isField", "(I)Z"⟩, 101), (⟨"AcresPaidModel", "holderOn", "(III)I"⟩, 101), (⟨"AcresPaidModel", "claimOf", "(IIII)I"⟩, 101), (⟨"AcresPaidModel", "reckon", "(I)V"⟩, 101), (⟨"AcresPaidModel", "counts", "(II)Z"⟩, 101), (⟨"AcresPaidModel", "yearOf", "(I)I"⟩, 101), (⟨"AcresPaidModel", "findFaults", "(II)V"⟩, 101), (⟨"AcresPaidModel", "isOut", "(IIII)Z"⟩, 101), (⟨"AcresPaidModel", "isIn", "(II)Z"⟩, 101), (⟨"AcresPaidModel", "findCounted", "(II)V"⟩, 101), (⟨"AcresPaidModel", "missingOf", "(II)I"⟩, 101), (⟨"AcresPaidModel", "lateOf", "(I)I"⟩, 101), (⟨"AcresPaidModel", "apartOf", "(III)I"⟩, 101), (⟨"AcresPaidModel", "readLine", "()V"⟩, 101), (⟨"AcresPaidModel", "either", "()V"⟩, 101), (⟨"AcresPaidModel", "all", "()V"⟩, 101)]
theorem lw_r5 : ∀ q ∈ lw_privs_5, lw_okq q := List.forall_mem_cons.mpr ⟨lw_p64, List.forall_mem_cons.mpr ⟨lw_p65, List.forall_mem_cons.mpr ⟨lw_p66, List.forall_mem_cons.mpr ⟨lw_p67, List.forall_mem_cons.mpr ⟨lw_p68, List.forall_mem_cons.mpr ⟨lw_p69, List.forall_mem_cons.mpr ⟨lw_p70, List.forall_mem_cons.mpr ⟨lw_p71, List.forall_mem_cons.mpr ⟨lw_p72, List.forall_mem_cons.mpr ⟨lw_p73, List.forall_mem_cons.mpr ⟨lw_p74, List.forall_mem_cons.mpr ⟨lw_p75, List.forall_mem_cons.mpr ⟨lw_p76, List.forall_mem_cons.mpr ⟨lw_p77, List.forall_mem_cons.mpr ⟨lw_p78, List.forall_mem_cons.mpr ⟨lw_p79, fun _ h => absurd h List.not_mem_nil⟩⟩⟩⟩⟩⟩⟩⟩⟩⟩⟩⟩⟩⟩⟩⟩
theorem lw_p80 : lw_okq (⟨"AcresPaidModel", "compared", "()V"⟩, 101) := ⟨⟨by decide +kernel, by decide +kernel⟩, List.mem_of_getElem? (i := 1476) (by decide +kernel), List.mem_of_getElem? (i := 2023) (by decide +kernel), List.mem_of_getElem? (i := 2024) (by decide +kernel)⟩
theorem lw_p81 : lw_okq (⟨"AcresPaidModel", "sum", "()V"⟩, 101) := ⟨⟨by decide +kernel, by decide +kernel⟩, List.mem_of_getElem? (i := 1476) (by decide +kernel), List.mem_of_getElem? (i := 2027) (by decide +kernel), List.mem_of_getElem? (i := 2028) (by decide +kernel)⟩
theorem lw_p82 : lw_okq (⟨"AcresPaidModel", "product", "()V"⟩, 101) := ⟨⟨by decide +kernel, by decide +kernel⟩, List.mem_of_getElem? (i := 1476) (by decide +kernel), List.mem_of_getElem? (i := 2031) (by decide +kernel), List.mem_of_getElem? (i := 2032) (by decide +kernel)⟩
theorem lw_p83 : lw_okq (⟨"AcresPaidModel", "operand", "()V"⟩, 101) := ⟨⟨by decide +kernel, by decide +kernel⟩, List.mem_of_getElem? (i := 1476) (by decide +kernel), List.mem_of_getElem? (i := 2035) (by decide +kernel), List.mem_of_getElem? (i := 2036) (by decide +kernel)⟩
theorem lw_p84 : lw_okq (⟨"AcresPaidModel", "look", "()I"⟩, 101) := ⟨⟨by decide +kernel, by decide +kernel⟩, List.mem_of_getElem? (i := 1476) (by decide +kernel), List.mem_of_getElem? (i := 2039) (by decide +kernel), List.mem_of_getElem? (i := 2040) (by decide +kernel)⟩
theorem lw_p85 : lw_okq (⟨"AcresPaidModel", "lay", "(II)V"⟩, 101) := ⟨⟨by decide +kernel, by decide +kernel⟩, List.mem_of_getElem? (i := 1476) (by decide +kernel), List.mem_of_getElem? (i := 2046) (by decide +kernel), List.mem_of_getElem? (i := 2047) (by decide +kernel)⟩
theorem lw_p86 : lw_okq (⟨"AcresPaidModel", "opens", "()Z"⟩, 101) := ⟨⟨by decide +kernel, by decide +kernel⟩, List.mem_of_getElem? (i := 1476) (by decide +kernel), List.mem_of_getElem? (i := 2050) (by decide +kernel), List.mem_of_getElem? (i := 2051) (by decide +kernel)⟩
theorem lw_p87 : lw_okq (⟨"AcresPaidModel", "wrong", "()V"⟩, 101) := ⟨⟨by decide +kernel, by decide +kernel⟩, List.mem_of_getElem? (i := 1476) (by decide +kernel), List.mem_of_getElem? (i := 2054) (by decide +kernel), List.mem_of_getElem? (i := 2055) (by decide +kernel)⟩
theorem lw_p88 : lw_okq (⟨"AcresPaidModel", "forceOf", "(III)I"⟩, 101) := ⟨⟨by decide +kernel, by decide +kernel⟩, List.mem_of_getElem? (i := 1476) (by decide +kernel), List.mem_of_getElem? (i := 2062) (by decide +kernel), List.mem_of_getElem? (i := 2063) (by decide +kernel)⟩
theorem lw_p89 : lw_okq (⟨"AcresPaidModel", "findFacts", "(III)V"⟩, 101) := ⟨⟨by decide +kernel, by decide +kernel⟩, List.mem_of_getElem? (i := 1476) (by decide +kernel), List.mem_of_getElem? (i := 2070) (by decide +kernel), List.mem_of_getElem? (i := 2071) (by decide +kernel)⟩
theorem lw_p90 : lw_okq (⟨"AcresPaidModel", "sumOf", "(IIZ)I"⟩, 101) := ⟨⟨by decide +kernel, by decide +kernel⟩, List.mem_of_getElem? (i := 1476) (by decide +kernel), List.mem_of_getElem? (i := 2074) (by decide +kernel), List.mem_of_getElem? (i := 2075) (by decide +kernel)⟩
theorem lw_p91 : lw_okq (⟨"AcresPaidModel", "errorsOf", "(II)I"⟩, 101) := ⟨⟨by decide +kernel, by decide +kernel⟩, List.mem_of_getElem? (i := 1476) (by decide +kernel), List.mem_of_getElem? (i := 2078) (by decide +kernel), List.mem_of_getElem? (i := 2079) (by decide +kernel)⟩
theorem lw_p92 : lw_okq (⟨"AcresPaidModel", "isProved", "(III)Z"⟩, 101) := ⟨⟨by decide +kernel, by decide +kernel⟩, List.mem_of_getElem? (i := 1476) (by decide +kernel), List.mem_of_getElem? (i := 2082) (by decide +kernel), List.mem_of_getElem? (i := 2083) (by decide +kernel)⟩
theorem lw_p93 : lw_okq (⟨"AcresPaidModel", "payBy", "(IIII)I"⟩, 101) := ⟨⟨by decide +kernel, by decide +kernel⟩, List.mem_of_getElem? (i := 1476) (by decide +kernel), List.mem_of_getElem? (i := 2090) (by decide +kernel), List.mem_of_getElem? (i := 2091) (by decide +kernel)⟩
theorem lw_p94 : lw_okq (⟨"AcresPaidModel", "gives", "(I)I"⟩, 101) := ⟨⟨by decide +kernel, by decide +kernel⟩, List.mem_of_getElem? (i := 1476) (by decide +kernel), List.mem_of_getElem? (i := 2094) (by decide +kernel), List.mem_of_getElem? (i := 2095) (by decide +kernel)⟩
theorem lw_p95 : lw_okq (⟨"AcresPaidModel", "worked", "(III)I"⟩, 101) := ⟨⟨by decide +kernel, by decide +kernel⟩, List.mem_of_getElem? (i := 1476) (by decide +kernel), List.mem_of_getElem? (i := 2098) (by decide +kernel), List.mem_of_getElem? (i := 2099) (by decide +kernel)⟩
def lw_privs_6 : List (MethodName × Nat) := [(⟨"AcresPaidModel", "compared", "()V"⟩, 101), (⟨"AcresPaidModel", "sum", "()V"⟩, 101), (⟨"AcresPaidModel", "product", "()V"⟩, 101), (⟨"AcresPaidModel", "operand", "()V"⟩, 101), (⟨"AcresPaidModel", "look", "()I"⟩, 101), (⟨"AcresPaidModel", "lay", "(II)V"⟩, 101), (⟨"AcresPaidModel", "opens", "()Z"⟩, 101), (⟨"AcresPaidModel", "wrong", "()V"⟩, 101), (⟨"AcresPaidModel", "forceOf", "(III)I"⟩, 101), (⟨"AcresPaidModel", "findFacts", "(III)V"⟩, 101), (⟨"AcresPaidModel", "sumOf", "(IIZ)I"⟩, 101), (⟨"AcresPaidModel", "errorsOf", "(II)I"⟩, 101), (⟨"AcresPaidModel", "isProved", "(III)Z"⟩, 101), (⟨"AcresPaidModel", "payBy", "(IIII)I"⟩, 101), (⟨"AcresPaidModel", "gives", "(I)I"⟩, 101), (⟨"AcresPaidModel", "worked", "(III)I"⟩, 101)]
theorem lw_r6 : ∀ q ∈ lw_privs_6, lw_okq q := List.forall_mem_cons.mpr ⟨lw_p80, List.forall_mem_cons.mpr ⟨lw_p81, List.forall_mem_cons.mpr ⟨lw_p82, List.forall_mem_cons.mpr ⟨lw_p83, List.forall_mem_cons.mpr ⟨lw_p84, List.forall_mem_cons.mpr ⟨lw_p85, List.forall_mem_cons.mpr ⟨lw_p86, List.forall_mem_cons.mpr ⟨lw_p87, List.forall_mem_cons.mpr ⟨lw_p88, List.forall_mem_cons.mpr ⟨lw_p89, List.forall_mem_cons.mpr ⟨lw_p90, List.forall_mem_cons.mpr ⟨lw_p91, List.forall_mem_cons.mpr ⟨lw_p92, List.forall_mem_cons.mpr ⟨lw_p93, List.forall_mem_cons.mpr ⟨lw_p94, List.forall_mem_cons.mpr ⟨lw_p95, fun _ h => absurd h List.not_mem_nil⟩⟩⟩⟩⟩⟩⟩⟩⟩⟩⟩⟩⟩⟩⟩⟩
theorem lw_p96 : lw_okq (⟨"AcresPaidModel", "valuesOf", "(IIII)J"⟩, 101) := ⟨⟨by decide +kernel, by decide +kernel⟩, List.mem_of_getElem? (i := 1476) (by decide +kernel), List.mem_of_getElem? (i := 2105) (by decide +kernel), List.mem_of_getElem? (i := 2106) (by decide +kernel)⟩
theorem lw_p97 : lw_okq (⟨"AcresPaidModel", "hasTrouble", "(II)Z"⟩, 101) := ⟨⟨by decide +kernel, by decide +kernel⟩, List.mem_of_getElem? (i := 1476) (by decide +kernel), List.mem_of_getElem? (i := 2136) (by decide +kernel), List.mem_of_getElem? (i := 2137) (by decide +kernel)⟩
theorem lw_p98 : lw_okq (⟨"AcresPaidModel", "isTrouble", "(II)Z"⟩, 101) := ⟨⟨by decide +kernel, by decide +kernel⟩, List.mem_of_getElem? (i := 1476) (by decide +kernel), List.mem_of_getElem? (i := 2140) (by decide +kernel), List.mem_of_getElem? (i := 2141) (by decide +kernel)⟩
theorem lw_p99 : lw_okq (⟨"AcresPaidModel", "doMeet", "(II)Z"⟩, 101) := ⟨⟨by decide +kernel, by decide +kernel⟩, List.mem_of_getElem? (i := 1476) (by decide +kernel), List.mem_of_getElem? (i := 2144) (by decide +kernel), List.mem_of_getElem? (i := 2145) (by decide +kernel)⟩
theorem lw_p100 : lw_okq (⟨"AcresPaidModel", "isCured", "(II)Z"⟩, 101) := ⟨⟨by decide +kernel, by decide +kernel⟩, List.mem_of_getElem? (i := 1476) (by decide +kernel), List.mem_of_getElem? (i := 2151) (by decide +kernel), List.mem_of_getElem? (i := 2152) (by decide +kernel)⟩
theorem lw_p101 : lw_okq (⟨"AcresPaidModel", "isAway", "(II)Z"⟩, 101) := ⟨⟨by decide +kernel, by decide +kernel⟩, List.mem_of_getElem? (i := 1476) (by decide +kernel), List.mem_of_getElem? (i := 2155) (by decide +kernel), List.mem_of_getElem? (i := 2156) (by decide +kernel)⟩
theorem lw_p102 : lw_okq (⟨"AcresPaidModel", "claimsIn", "(II)Z"⟩, 101) := ⟨⟨by decide +kernel, by decide +kernel⟩, List.mem_of_getElem? (i := 1476) (by decide +kernel), List.mem_of_getElem? (i := 2171) (by decide +kernel), List.mem_of_getElem? (i := 2172) (by decide +kernel)⟩
theorem lw_p103 : lw_okq (⟨"AcresPaidModel", "riskOf", "(II)I"⟩, 101) := ⟨⟨by decide +kernel, by decide +kernel⟩, List.mem_of_getElem? (i := 1476) (by decide +kernel), List.mem_of_getElem? (i := 2175) (by decide +kernel), List.mem_of_getElem? (i := 2176) (by decide +kernel)⟩
theorem lw_p104 : lw_okq (⟨"AcresPaidModel", "isControlled", "(II)Z"⟩, 101) := ⟨⟨by decide +kernel, by decide +kernel⟩, List.mem_of_getElem? (i := 1476) (by decide +kernel), List.mem_of_getElem? (i := 2188) (by decide +kernel), List.mem_of_getElem? (i := 2189) (by decide +kernel)⟩
theorem lw_p105 : lw_okq (⟨"AcresPaidModel", "mixOn", "(IIII)V"⟩, 101) := ⟨⟨by decide +kernel, by decide +kernel⟩, List.mem_of_getElem? (i := 1476) (by decide +kernel), List.mem_of_getElem? (i := 2210) (by decide +kernel), List.mem_of_getElem? (i := 2211) (by decide +kernel)⟩
theorem lw_p106 : lw_okq (⟨"AcresPaidModel", "yields", "(II)I"⟩, 101) := ⟨⟨by decide +kernel, by decide +kernel⟩, List.mem_of_getElem? (i := 1476) (by decide +kernel), List.mem_of_getElem? (i := 2226) (by decide +kernel), List.mem_of_getElem? (i := 2227) (by decide +kernel)⟩
theorem lw_p107 : lw_okq (⟨"AcresPaidModel", "ran", "(I)V"⟩, 101) := ⟨⟨by decide +kernel, by decide +kernel⟩, List.mem_of_getElem? (i := 1476) (by decide +kernel), List.mem_of_getElem? (i := 2230) (by decide +kernel), List.mem_of_getElem? (i := 2231) (by decide +kernel)⟩
theorem lw_p108 : lw_okq (⟨"AcresPaidModel", "farmYields", "(II)I"⟩, 101) := ⟨⟨by decide +kernel, by decide +kernel⟩, List.mem_of_getElem? (i := 1476) (by decide +kernel), List.mem_of_getElem? (i := 2234) (by decide +kernel), List.mem_of_getElem? (i := 2235) (by decide +kernel)⟩
theorem lw_p109 : lw_okq (⟨"AcresPaidModel", "plainYields", "(II)I"⟩, 101) := ⟨⟨by decide +kernel, by decide +kernel⟩, List.mem_of_getElem? (i := 1476) (by decide +kernel), List.mem_of_getElem? (i := 2238) (by decide +kernel), List.mem_of_getElem? (i := 2239) (by decide +kernel)⟩
theorem lw_p110 : lw_okq (⟨"AcresPaidModel", "claimsBy", "(II)I"⟩, 101) := ⟨⟨by decide +kernel, by decide +kernel⟩, List.mem_of_getElem? (i := 1476) (by decide +kernel), List.mem_of_getElem? (i := 2242) (by decide +kernel), List.mem_of_getElem? (i := 2243) (by decide +kernel)⟩
theorem lw_p111 : lw_okq (⟨"AcresPaidModel", "youngClaims", "(II)I"⟩, 101) := ⟨⟨by decide +kernel, by decide +kernel⟩, List.mem_of_getElem? (i := 1476) (by decide +kernel), List.mem_of_getElem? (i := 2246) (by decide +kernel), List.mem_of_getElem? (i := 2247) (by decide +kernel)⟩
def lw_privs_7 : List (MethodName × Nat) := [(⟨"AcresPaidModel", "valuesOf", "(IIII)J"⟩, 101), (⟨"AcresPaidModel", "hasTrouble", "(II)Z"⟩, 101), (⟨"AcresPaidModel", "isTrouble", "(II)Z"⟩, 101), (⟨"AcresPaidModel", "doMeet", "(II)Z"⟩, 101), (⟨"AcresPaidModel", "isCured", "(II)Z"⟩, 101), (⟨"AcresPaidModel", "isAway", "(II)Z"⟩, 101), (⟨"AcresPaidModel", "claimsIn", "(II)Z"⟩, 101), (⟨"AcresPaidModel", "riskOf", "(II)I"⟩, 101), (⟨"AcresPaidModel", "isControlled", "(II)Z"⟩, 101), (⟨"AcresPaidModel", "mixOn", "(IIII)V"⟩, 101), (⟨"AcresPaidModel", "yields", "(II)I"⟩, 101), (⟨"AcresPaidModel", "ran", "(I)V"⟩, 101), (⟨"AcresPaidModel", "farmYields", "(II)I"⟩, 101), (⟨"AcresPaidModel", "plainYields", "(II)I"⟩, 101), (⟨"AcresPaidModel", "claimsBy", "(II)I"⟩, 101), (⟨"AcresPaidModel", "youngClaims", "(II)I"⟩, 101)]
theorem lw_r7 : ∀ q ∈ lw_privs_7, lw_okq q := List.forall_mem_cons.mpr ⟨lw_p96, List.forall_mem_cons.mpr ⟨lw_p97, List.forall_mem_cons.mpr ⟨lw_p98, List.forall_mem_cons.mpr ⟨lw_p99, List.forall_mem_cons.mpr ⟨lw_p100, List.forall_mem_cons.mpr ⟨lw_p101, List.forall_mem_cons.mpr ⟨lw_p102, List.forall_mem_cons.mpr ⟨lw_p103, List.forall_mem_cons.mpr ⟨lw_p104, List.forall_mem_cons.mpr ⟨lw_p105, List.forall_mem_cons.mpr ⟨lw_p106, List.forall_mem_cons.mpr ⟨lw_p107, List.forall_mem_cons.mpr ⟨lw_p108, List.forall_mem_cons.mpr ⟨lw_p109, List.forall_mem_cons.mpr ⟨lw_p110, List.forall_mem_cons.mpr ⟨lw_p111, fun _ h => absurd h List.not_mem_nil⟩⟩⟩⟩⟩⟩⟩⟩⟩⟩⟩⟩⟩⟩⟩⟩
theorem lw_p112 : lw_okq (⟨"AcresPaidModel", "plainClaims", "(II)I"⟩, 101) := ⟨⟨by decide +kernel, by decide +kernel⟩, List.mem_of_getElem? (i := 1476) (by decide +kernel), List.mem_of_getElem? (i := 2250) (by decide +kernel), List.mem_of_getElem? (i := 2251) (by decide +kernel)⟩
theorem lw_p113 : lw_okq (⟨"AcresPaidModel", "holdsBy", "(II)I"⟩, 101) := ⟨⟨by decide +kernel, by decide +kernel⟩, List.mem_of_getElem? (i := 1476) (by decide +kernel), List.mem_of_getElem? (i := 2254) (by decide +kernel), List.mem_of_getElem? (i := 2255) (by decide +kernel)⟩
theorem lw_p114 : lw_okq (⟨"AcresPaidModel", "plainHolds", "(II)I"⟩, 101) := ⟨⟨by decide +kernel, by decide +kernel⟩, List.mem_of_getElem? (i := 1476) (by decide +kernel), List.mem_of_getElem? (i := 2258) (by decide +kernel), List.mem_of_getElem? (i := 2259) (by decide +kernel)⟩
theorem lw_p115 : lw_okq (⟨"AcresPaidModel", "tells", "(II)I"⟩, 101) := ⟨⟨by decide +kernel, by decide +kernel⟩, List.mem_of_getElem? (i := 1476) (by decide +kernel), List.mem_of_getElem? (i := 2262) (by decide +kernel), List.mem_of_getElem? (i := 2263) (by decide +kernel)⟩
theorem lw_p116 : lw_okq (⟨"AcresPaidModel", "plainTells", "(II)I"⟩, 101) := ⟨⟨by decide +kernel, by decide +kernel⟩, List.mem_of_getElem? (i := 1476) (by decide +kernel), List.mem_of_getElem? (i := 2266) (by decide +kernel), List.mem_of_getElem? (i := 2267) (by decide +kernel)⟩
theorem lw_p117 : lw_okq (⟨"AcresPaidModel", "whyNoPlace", "(II)I"⟩, 101) := ⟨⟨by decide +kernel, by decide +kernel⟩, List.mem_of_getElem? (i := 1476) (by decide +kernel), List.mem_of_getElem? (i := 2286) (by decide +kernel), List.mem_of_getElem? (i := 2287) (by decide +kernel)⟩
theorem lw_p118 : lw_okq (⟨"AcresPaidModel", "countOf", "(I)I"⟩, 101) := ⟨⟨by decide +kernel, by decide +kernel⟩, List.mem_of_getElem? (i := 1476) (by decide +kernel), List.mem_of_getElem? (i := 2307) (by decide +kernel), List.mem_of_getElem? (i := 2308) (by decide +kernel)⟩
def lw_privs_8 : List (MethodName × Nat) := [(⟨"AcresPaidModel", "plainClaims", "(II)I"⟩, 101), (⟨"AcresPaidModel", "holdsBy", "(II)I"⟩, 101), (⟨"AcresPaidModel", "plainHolds", "(II)I"⟩, 101), (⟨"AcresPaidModel", "tells", "(II)I"⟩, 101), (⟨"AcresPaidModel", "plainTells", "(II)I"⟩, 101), (⟨"AcresPaidModel", "whyNoPlace", "(II)I"⟩, 101), (⟨"AcresPaidModel", "countOf", "(I)I"⟩, 101)]
theorem lw_r8 : ∀ q ∈ lw_privs_8, lw_okq q := List.forall_mem_cons.mpr ⟨lw_p112, List.forall_mem_cons.mpr ⟨lw_p113, List.forall_mem_cons.mpr ⟨lw_p114, List.forall_mem_cons.mpr ⟨lw_p115, List.forall_mem_cons.mpr ⟨lw_p116, List.forall_mem_cons.mpr ⟨lw_p117, List.forall_mem_cons.mpr ⟨lw_p118, fun _ h => absurd h List.not_mem_nil⟩⟩⟩⟩⟩⟩⟩
def lw_privs : List (MethodName × Nat) := lw_privs_1 ++ (lw_privs_2 ++ (lw_privs_3 ++ (lw_privs_4 ++ (lw_privs_5 ++ (lw_privs_6 ++ (lw_privs_7 ++ (lw_privs_8)))))))
def lw_tbl : List Cond := k2_sels lw_privs ++ tables_1
theorem lw_privs_ok : ∀ q ∈ lw_privs, lw_okq q := by
  show ∀ q ∈ lw_privs_1 ++ (lw_privs_2 ++ (lw_privs_3 ++ (lw_privs_4 ++ (lw_privs_5 ++ (lw_privs_6 ++ (lw_privs_7 ++ (lw_privs_8))))))), lw_okq q
  exact List.forall_mem_append.mpr ⟨lw_r1, List.forall_mem_append.mpr ⟨lw_r2, List.forall_mem_append.mpr ⟨lw_r3, List.forall_mem_append.mpr ⟨lw_r4, List.forall_mem_append.mpr ⟨lw_r5, List.forall_mem_append.mpr ⟨lw_r6, List.forall_mem_append.mpr ⟨lw_r7, lw_r8⟩⟩⟩⟩⟩⟩⟩
-- ===== the program's tables, by program out of claim/ =====
def zCN : Nat → String := fun k => match k with
  | 0 => "AcresPaid$Accounts"
  | 1 => "AcresPaid$Acts"
  | 2 => "AcresPaid$Claims"
  | 3 => "AcresPaid$Colours"
  | 4 => "AcresPaid$Mix"
  | 5 => "AcresPaid$Picks"
  | 6 => "AcresPaid$Register"
  | 7 => "AcresPaid$Ring"
  | 8 => "AcresPaid$Season"
  | 9 => "AcresPaid$Shelves"
  | 10 => "AcresPaid$Texts"
  | 11 => "AcresPaid"
  | 12 => "AcresPaidModel"
  | 13 => "AcresPaidLaw"
  | 14 => "java/lang/Character"
  | 15 => "java/lang/Integer"
  | 16 => "java/lang/Math"
  | 17 => "java/lang/String"
  | 18 => "java/lang/StringLatin1"
  | 19 => "java/lang/StringUTF16"
  | 20 => "java/lang/System"
  | 21 => "java/util/Arrays"
  | _ => "jdk/internal/util/Preconditions"
def zT0 : u_T := fun k => match k with
  | 0 => ("AcresPaid$Accounts", "register", "LAcresPaid$Register;", true)
  | 1 => ("AcresPaid$Accounts", "claims", "LAcresPaid$Claims;", true)
  | 2 => ("AcresPaid$Accounts", "texts", "LAcresPaid$Texts;", true)
  | 3 => ("AcresPaid$Accounts", "seasons", "[LAcresPaid$Season;", true)
  | 4 => ("AcresPaid$Accounts", "names", "[I", true)
  | 5 => ("AcresPaid$Accounts", "cropSquares", "[I", true)
  | 6 => ("AcresPaid$Accounts", "sums", "[I", true)
  | 7 => ("AcresPaid$Accounts", "fineLine", "I", false)
  | 8 => ("AcresPaid$Accounts", "settled", "[I", true)
  | _ => ("AcresPaid$Accounts", "dues", "[I", true)
def zT1 : u_T := fun k => match k with
  | 0 => ("AcresPaid$Acts", "kept", "[I", true)
  | 1 => ("AcresPaid$Acts", "ran", "I", false)
  | 2 => ("AcresPaid$Acts", "number", "I", false)
  | 3 => ("AcresPaid$Acts", "kind", "I", false)
  | _ => ("AcresPaid$Acts", "measure", "I", false)
def zT2 : u_T := fun k => match k with
  | 0 => ("AcresPaid$Claims", "register", "LAcresPaid$Register;", true)
  | 1 => ("AcresPaid$Claims", "n", "I", false)
  | 2 => ("AcresPaid$Claims", "outs", "I", false)
  | 3 => ("AcresPaid$Claims", "controls", "I", false)
  | 4 => ("AcresPaid$Claims", "farms", "[I", true)
  | 5 => ("AcresPaid$Claims", "fields", "[I", true)
  | 6 => ("AcresPaid$Claims", "crops", "[I", true)
  | 7 => ("AcresPaid$Claims", "on", "[I", true)
  | 8 => ("AcresPaid$Claims", "order", "[I", true)
  | 9 => ("AcresPaid$Claims", "closes", "[I", true)
  | 10 => ("AcresPaid$Claims", "outFrom", "[I", true)
  | 11 => ("AcresPaid$Claims", "outTo", "[I", true)
  | 12 => ("AcresPaid$Claims", "outStart", "[I", true)
  | 13 => ("AcresPaid$Claims", "outOn", "[I", true)
  | 14 => ("AcresPaid$Claims", "controlFarm", "[I", true)
  | 15 => ("AcresPaid$Claims", "controlField", "[I", true)
  | 16 => ("AcresPaid$Claims", "controlYear", "[I", true)
  | 17 => ("AcresPaid$Claims", "controlMissing", "[I", true)
  | 18 => ("AcresPaid$Claims", "controlOn", "[I", true)
  | _ => ("AcresPaid$Claims", "proved", "[I", true)
def zT3 : u_T := fun k => match k with
  | 0 => ("AcresPaid$Colours", "table", "[I", true)
  | 1 => ("AcresPaid$Colours", "blankSign", "I", false)
  | _ => ("AcresPaid$Colours", "seen", "[[I", true)
def zT4 : u_T := fun k => match k with
  | 0 => ("AcresPaid$Mix", "areas", "[I", true)
  | 1 => ("AcresPaid$Mix", "n", "I", false)
  | 2 => ("AcresPaid$Mix", "coins", "[I", true)
  | 3 => ("AcresPaid$Mix", "chosen", "[I", true)
  | 4 => ("AcresPaid$Mix", "chosenCount", "I", false)
  | 5 => ("AcresPaid$Mix", "byNumber", "[I", true)
  | 6 => ("AcresPaid$Mix", "byWorth", "[I", true)
  | 7 => ("AcresPaid$Mix", "loads", "[I", true)
  | 8 => ("AcresPaid$Mix", "way", "[I", true)
  | 9 => ("AcresPaid$Mix", "room", "I", false)
  | 10 => ("AcresPaid$Mix", "wanted", "I", false)
  | _ => ("AcresPaid$Mix", "best", "I", false)
def zT5 : u_T := fun k => match k with
  | 0 => ("AcresPaid$Picks", "register", "LAcresPaid$Register;", true)
  | 1 => ("AcresPaid$Picks", "claims", "LAcresPaid$Claims;", true)
  | 2 => ("AcresPaid$Picks", "accounts", "LAcresPaid$Accounts;", true)
  | 3 => ("AcresPaid$Picks", "givenFields", "[I", true)
  | 4 => ("AcresPaid$Picks", "givenCount", "I", false)
  | 5 => ("AcresPaid$Picks", "torn", "[I", true)
  | 6 => ("AcresPaid$Picks", "against", "[I", true)
  | 7 => ("AcresPaid$Picks", "lot", "I", false)
  | 8 => ("AcresPaid$Picks", "drawnFarms", "[I", true)
  | 9 => ("AcresPaid$Picks", "drawnCount", "I", false)
  | 10 => ("AcresPaid$Picks", "pool", "[I", true)
  | 11 => ("AcresPaid$Picks", "risks", "[I", true)
  | 12 => ("AcresPaid$Picks", "poolSize", "I", false)
  | 13 => ("AcresPaid$Picks", "controlled", "I", false)
  | 14 => ("AcresPaid$Picks", "wrong", "I", false)
  | 15 => ("AcresPaid$Picks", "judged", "I", false)
  | _ => ("AcresPaid$Picks", "judgedWrong", "I", false)
def zT6 : u_T := fun k => match k with
  | 0 => ("AcresPaid$Register", "day", "I", false)
  | 1 => ("AcresPaid$Register", "n", "I", false)
  | 2 => ("AcresPaid$Register", "farms", "I", false)
  | 3 => ("AcresPaid$Register", "fields", "I", false)
  | 4 => ("AcresPaid$Register", "permits", "I", false)
  | 5 => ("AcresPaid$Register", "fieldsGone", "I", false)
  | 6 => ("AcresPaid$Register", "handed", "I", false)
  | 7 => ("AcresPaid$Register", "kinds", "[I", true)
  | 8 => ("AcresPaid$Register", "measures", "[I", true)
  | 9 => ("AcresPaid$Register", "told", "[I", true)
  | 10 => ("AcresPaid$Register", "gone", "[I", true)
  | 11 => ("AcresPaid$Register", "dearest", "[I", true)
  | 12 => ("AcresPaid$Register", "tellers", "[I", true)
  | 13 => ("AcresPaid$Register", "rows", "[I", true)
  | 14 => ("AcresPaid$Register", "handedBody", "[I", true)
  | 15 => ("AcresPaid$Register", "handedTo", "[I", true)
  | 16 => ("AcresPaid$Register", "handedFrom", "[I", true)
  | _ => ("AcresPaid$Register", "handedOn", "[I", true)
def zT7 : u_T := fun k => match k with
  | 0 => ("AcresPaid$Ring", "xs", "[I", true)
  | 1 => ("AcresPaid$Ring", "ys", "[I", true)
  | _ => ("AcresPaid$Ring", "n", "I", false)
def zT8 : u_T := fun k => match k with
  | 0 => ("AcresPaid$Season", "register", "LAcresPaid$Register;", true)
  | 1 => ("AcresPaid$Season", "claims", "LAcresPaid$Claims;", true)
  | 2 => ("AcresPaid$Season", "year", "I", true)
  | 3 => ("AcresPaid$Season", "k", "I", false)
  | 4 => ("AcresPaid$Season", "stamp", "I", false)
  | 5 => ("AcresPaid$Season", "n", "I", false)
  | 6 => ("AcresPaid$Season", "list", "[I", true)
  | 7 => ("AcresPaid$Season", "sizes", "[I", true)
  | 8 => ("AcresPaid$Season", "lost", "[I", true)
  | 9 => ("AcresPaid$Season", "fault", "[I", true)
  | 10 => ("AcresPaid$Season", "squares", "[I", true)
  | 11 => ("AcresPaid$Season", "misses", "[I", true)
  | _ => ("AcresPaid$Season", "latest", "[I", true)
def zT9 : u_T := fun k => match k with
  | 0 => ("AcresPaid$Shelves", "sorts", "[I", true)
  | 1 => ("AcresPaid$Shelves", "held", "[I", true)
  | _ => ("AcresPaid$Shelves", "elements", "[J", true)
def zT10 : u_T := fun k => match k with
  | 0 => ("AcresPaid$Texts", "tape", "[B", true)
  | 1 => ("AcresPaid$Texts", "length", "I", false)
  | 2 => ("AcresPaid$Texts", "store", "[B", true)
  | 3 => ("AcresPaid$Texts", "lengths", "[I", true)
  | 4 => ("AcresPaid$Texts", "whats", "[I", true)
  | 5 => ("AcresPaid$Texts", "since", "[I", true)
  | 6 => ("AcresPaid$Texts", "madeOn", "[I", true)
  | 7 => ("AcresPaid$Texts", "n", "I", false)
  | 8 => ("AcresPaid$Texts", "unknown", "[I", true)
  | 9 => ("AcresPaid$Texts", "start", "I", false)
  | 10 => ("AcresPaid$Texts", "end", "I", false)
  | 11 => ("AcresPaid$Texts", "at", "I", false)
  | 12 => ("AcresPaid$Texts", "fault", "I", false)
  | 13 => ("AcresPaid$Texts", "names", "[I", false)
  | _ => ("AcresPaid$Texts", "line", "I", false)
def zT11 : u_T := fun k => match k with
  | 0 => ("AcresPaid", "register", "LAcresPaid$Register;", true)
  | 1 => ("AcresPaid", "ring", "LAcresPaid$Ring;", true)
  | 2 => ("AcresPaid", "claims", "LAcresPaid$Claims;", true)
  | 3 => ("AcresPaid", "texts", "LAcresPaid$Texts;", true)
  | 4 => ("AcresPaid", "accounts", "LAcresPaid$Accounts;", true)
  | 5 => ("AcresPaid", "picks", "LAcresPaid$Picks;", true)
  | 6 => ("AcresPaid", "mixer", "LAcresPaid$Mix;", true)
  | 7 => ("AcresPaid", "colours", "LAcresPaid$Colours;", true)
  | 8 => ("AcresPaid", "acts", "LAcresPaid$Acts;", true)
  | _ => ("AcresPaid", "shelves", "LAcresPaid$Shelves;", true)
def zT12 : u_T := fun k => match k with
  | 0 => ("AcresPaidModel", "code", "I", false)
  | 1 => ("AcresPaidModel", "today", "I", false)
  | 2 => ("AcresPaidModel", "bodies", "I", false)
  | 3 => ("AcresPaidModel", "kind", "[I", true)
  | 4 => ("AcresPaidModel", "landOf", "[I", true)
  | 5 => ("AcresPaidModel", "farmOf", "[I", true)
  | 6 => ("AcresPaidModel", "toldOn", "[I", true)
  | 7 => ("AcresPaidModel", "gaveUp", "[I", true)
  | 8 => ("AcresPaidModel", "areaOf", "[I", true)
  | 9 => ("AcresPaidModel", "valueOf", "[I", true)
  | 10 => ("AcresPaidModel", "inside", "[I", true)
  | 11 => ("AcresPaidModel", "corners", "I", false)
  | 12 => ("AcresPaidModel", "cornerX", "[I", true)
  | 13 => ("AcresPaidModel", "cornerY", "[I", true)
  | 14 => ("AcresPaidModel", "handovers", "I", false)
  | 15 => ("AcresPaidModel", "handBody", "[I", true)
  | 16 => ("AcresPaidModel", "handFarm", "[I", true)
  | 17 => ("AcresPaidModel", "handDay", "[I", true)
  | 18 => ("AcresPaidModel", "handTold", "[I", true)
  | 19 => ("AcresPaidModel", "claims", "I", false)
  | 20 => ("AcresPaidModel", "claimFarm", "[I", true)
  | 21 => ("AcresPaidModel", "claimField", "[I", true)
  | 22 => ("AcresPaidModel", "claimCrop", "[I", true)
  | 23 => ("AcresPaidModel", "claimDay", "[I", true)
  | 24 => ("AcresPaidModel", "closes", "[I", true)
  | 25 => ("AcresPaidModel", "outs", "I", false)
  | 26 => ("AcresPaidModel", "outX0", "[I", true)
  | 27 => ("AcresPaidModel", "outY0", "[I", true)
  | 28 => ("AcresPaidModel", "outX1", "[I", true)
  | 29 => ("AcresPaidModel", "outY1", "[I", true)
  | 30 => ("AcresPaidModel", "outDay", "[I", true)
  | 31 => ("AcresPaidModel", "outTold", "[I", true)
  | 32 => ("AcresPaidModel", "controls", "I", false)
  | 33 => ("AcresPaidModel", "controlFarm", "[I", true)
  | 34 => ("AcresPaidModel", "controlField", "[I", true)
  | 35 => ("AcresPaidModel", "controlYear", "[I", true)
  | 36 => ("AcresPaidModel", "missing", "[I", true)
  | 37 => ("AcresPaidModel", "controlDay", "[I", true)
  | 38 => ("AcresPaidModel", "isStale", "Z", false)
  | 39 => ("AcresPaidModel", "reckonedFor", "I", false)
  | 40 => ("AcresPaidModel", "does", "[Z", true)
  | 41 => ("AcresPaidModel", "countedOf", "[I", true)
  | 42 => ("AcresPaidModel", "foundOf", "[I", true)
  | 43 => ("AcresPaidModel", "faultOf", "[I", true)
  | 44 => ("AcresPaidModel", "firstFarm", "[I", true)
  | 45 => ("AcresPaidModel", "isFault", "[Z", true)
  | 46 => ("AcresPaidModel", "isOutNow", "[Z", true)
  | 47 => ("AcresPaidModel", "isTaken", "[Z", true)
  | 48 => ("AcresPaidModel", "majeures", "[I", true)
  | 49 => ("AcresPaidModel", "colours", "[I", true)
  | 50 => ("AcresPaidModel", "seenColour", "[I", true)
  | 51 => ("AcresPaidModel", "isSeen", "[Z", true)
  | 52 => ("AcresPaidModel", "blankIs", "I", false)
  | 53 => ("AcresPaidModel", "tape", "[B", true)
  | 54 => ("AcresPaidModel", "taped", "I", false)
  | 55 => ("AcresPaidModel", "texts", "I", false)
  | 56 => ("AcresPaidModel", "textWhat", "[I", true)
  | 57 => ("AcresPaidModel", "made", "[I", true)
  | 58 => ("AcresPaidModel", "textYear", "[I", true)
  | 59 => ("AcresPaidModel", "lineMany", "[I", true)
  | 60 => ("AcresPaidModel", "testEnd", "[I", true)
  | 61 => ("AcresPaidModel", "lineEnd", "[I", true)
  | 62 => ("AcresPaidModel", "act", "[I", true)
  | 63 => ("AcresPaidModel", "with", "[I", true)
  | 64 => ("AcresPaidModel", "here", "I", false)
  | 65 => ("AcresPaidModel", "fault", "I", false)
  | 66 => ("AcresPaidModel", "open", "I", false)
  | 67 => ("AcresPaidModel", "row", "I", false)
  | 68 => ("AcresPaidModel", "laid", "I", false)
  | 69 => ("AcresPaidModel", "facts", "[I", true)
  | 70 => ("AcresPaidModel", "pile", "[I", true)
  | 71 => ("AcresPaidModel", "byLine", "I", false)
  | 72 => ("AcresPaidModel", "cropSquares", "[I", true)
  | 73 => ("AcresPaidModel", "isSpent", "[Z", true)
  | 74 => ("AcresPaidModel", "paidBy", "[I", true)
  | 75 => ("AcresPaidModel", "fineLine", "I", false)
  | 76 => ("AcresPaidModel", "settled", "[I", true)
  | 77 => ("AcresPaidModel", "wants", "[J", true)
  | 78 => ("AcresPaidModel", "gets", "[J", true)
  | 79 => ("AcresPaidModel", "troubles", "I", false)
  | 80 => ("AcresPaidModel", "trouble", "[I", true)
  | 81 => ("AcresPaidModel", "givenMany", "I", false)
  | 82 => ("AcresPaidModel", "givenUp", "[I", true)
  | 83 => ("AcresPaidModel", "z", "I", false)
  | 84 => ("AcresPaidModel", "drawnMany", "I", false)
  | 85 => ("AcresPaidModel", "drawnFarm", "[I", true)
  | 86 => ("AcresPaidModel", "isLeft", "[Z", true)
  | 87 => ("AcresPaidModel", "plots", "I", false)
  | 88 => ("AcresPaidModel", "plotSquares", "[I", true)
  | 89 => ("AcresPaidModel", "worths", "[I", true)
  | 90 => ("AcresPaidModel", "mixTrial", "[I", true)
  | 91 => ("AcresPaidModel", "mixBest", "[I", true)
  | 92 => ("AcresPaidModel", "mixSquares", "[I", true)
  | 93 => ("AcresPaidModel", "mixMany", "I", false)
  | 94 => ("AcresPaidModel", "mostCoins", "I", false)
  | 95 => ("AcresPaidModel", "traces", "I", false)
  | 96 => ("AcresPaidModel", "traced", "[I", true)
  | 97 => ("AcresPaidModel", "holds", "[I", true)
  | 98 => ("AcresPaidModel", "size", "[I", true)
  | 99 => ("AcresPaidModel", "elements", "[J", true)
  | _ => ("AcresPaidModel", "shifted", "[J", true)
def zY0 : Nat → FieldType := fun k => match k with
  | 0 => .object "AcresPaid$Register"
  | 1 => .object "AcresPaid$Claims"
  | 2 => .object "AcresPaid$Texts"
  | 3 => .array (.object "AcresPaid$Season")
  | 4 => .array (.int)
  | 5 => .array (.int)
  | 6 => .array (.int)
  | 7 => .int
  | 8 => .array (.int)
  | _ => .array (.int)
def zY1 : Nat → FieldType := fun k => match k with
  | 0 => .array (.int)
  | 1 => .int
  | 2 => .int
  | 3 => .int
  | _ => .int
def zY2 : Nat → FieldType := fun k => match k with
  | 0 => .object "AcresPaid$Register"
  | 1 => .int
  | 2 => .int
  | 3 => .int
  | 4 => .array (.int)
  | 5 => .array (.int)
  | 6 => .array (.int)
  | 7 => .array (.int)
  | 8 => .array (.int)
  | 9 => .array (.int)
  | 10 => .array (.int)
  | 11 => .array (.int)
  | 12 => .array (.int)
  | 13 => .array (.int)
  | 14 => .array (.int)
  | 15 => .array (.int)
  | 16 => .array (.int)
  | 17 => .array (.int)
  | 18 => .array (.int)
  | _ => .array (.int)
def zY3 : Nat → FieldType := fun k => match k with
  | 0 => .array (.int)
  | 1 => .int
  | _ => .array (.array (.int))
def zY4 : Nat → FieldType := fun k => match k with
  | 0 => .array (.int)
  | 1 => .int
  | 2 => .array (.int)
  | 3 => .array (.int)
  | 4 => .int
  | 5 => .array (.int)
  | 6 => .array (.int)
  | 7 => .array (.int)
  | 8 => .array (.int)
  | 9 => .int
  | 10 => .int
  | _ => .int
def zY5 : Nat → FieldType := fun k => match k with
  | 0 => .object "AcresPaid$Register"
  | 1 => .object "AcresPaid$Claims"
  | 2 => .object "AcresPaid$Accounts"
  | 3 => .array (.int)
  | 4 => .int
  | 5 => .array (.int)
  | 6 => .array (.int)
  | 7 => .int
  | 8 => .array (.int)
  | 9 => .int
  | 10 => .array (.int)
  | 11 => .array (.int)
  | 12 => .int
  | 13 => .int
  | 14 => .int
  | 15 => .int
  | _ => .int
def zY6 : Nat → FieldType := fun k => match k with
  | 0 => .int
  | 1 => .int
  | 2 => .int
  | 3 => .int
  | 4 => .int
  | 5 => .int
  | 6 => .int
  | 7 => .array (.int)
  | 8 => .array (.int)
  | 9 => .array (.int)
  | 10 => .array (.int)
  | 11 => .array (.int)
  | 12 => .array (.int)
  | 13 => .array (.int)
  | 14 => .array (.int)
  | 15 => .array (.int)
  | 16 => .array (.int)
  | _ => .array (.int)
def zY7 : Nat → FieldType := fun k => match k with
  | 0 => .array (.int)
  | 1 => .array (.int)
  | _ => .int
def zY8 : Nat → FieldType := fun k => match k with
  | 0 => .object "AcresPaid$Register"
  | 1 => .object "AcresPaid$Claims"
  | 2 => .int
  | 3 => .int
  | 4 => .int
  | 5 => .int
  | 6 => .array (.int)
  | 7 => .array (.int)
  | 8 => .array (.int)
  | 9 => .array (.int)
  | 10 => .array (.int)
  | 11 => .array (.int)
  | _ => .array (.int)
def zY9 : Nat → FieldType := fun k => match k with
  | 0 => .array (.int)
  | 1 => .array (.int)
  | _ => .array (.long)
def zY10 : Nat → FieldType := fun k => match k with
  | 0 => .array (.byte)
  | 1 => .int
  | 2 => .array (.byte)
  | 3 => .array (.int)
  | 4 => .array (.int)
  | 5 => .array (.int)
  | 6 => .array (.int)
  | 7 => .int
  | 8 => .array (.int)
  | 9 => .int
  | 10 => .int
  | 11 => .int
  | 12 => .int
  | 13 => .array (.int)
  | _ => .int
def zY11 : Nat → FieldType := fun k => match k with
  | 0 => .object "AcresPaid$Register"
  | 1 => .object "AcresPaid$Ring"
  | 2 => .object "AcresPaid$Claims"
  | 3 => .object "AcresPaid$Texts"
  | 4 => .object "AcresPaid$Accounts"
  | 5 => .object "AcresPaid$Picks"
  | 6 => .object "AcresPaid$Mix"
  | 7 => .object "AcresPaid$Colours"
  | 8 => .object "AcresPaid$Acts"
  | _ => .object "AcresPaid$Shelves"
def zY12 : Nat → FieldType := fun k => match k with
  | 0 => .int
  | 1 => .int
  | 2 => .int
  | 3 => .array (.int)
  | 4 => .array (.int)
  | 5 => .array (.int)
  | 6 => .array (.int)
  | 7 => .array (.int)
  | 8 => .array (.int)
  | 9 => .array (.int)
  | 10 => .array (.int)
  | 11 => .int
  | 12 => .array (.int)
  | 13 => .array (.int)
  | 14 => .int
  | 15 => .array (.int)
  | 16 => .array (.int)
  | 17 => .array (.int)
  | 18 => .array (.int)
  | 19 => .int
  | 20 => .array (.int)
  | 21 => .array (.int)
  | 22 => .array (.int)
  | 23 => .array (.int)
  | 24 => .array (.int)
  | 25 => .int
  | 26 => .array (.int)
  | 27 => .array (.int)
  | 28 => .array (.int)
  | 29 => .array (.int)
  | 30 => .array (.int)
  | 31 => .array (.int)
  | 32 => .int
  | 33 => .array (.int)
  | 34 => .array (.int)
  | 35 => .array (.int)
  | 36 => .array (.int)
  | 37 => .array (.int)
  | 38 => .boolean
  | 39 => .int
  | 40 => .array (.boolean)
  | 41 => .array (.int)
  | 42 => .array (.int)
  | 43 => .array (.int)
  | 44 => .array (.int)
  | 45 => .array (.boolean)
  | 46 => .array (.boolean)
  | 47 => .array (.boolean)
  | 48 => .array (.int)
  | 49 => .array (.int)
  | 50 => .array (.int)
  | 51 => .array (.boolean)
  | 52 => .int
  | 53 => .array (.byte)
  | 54 => .int
  | 55 => .int
  | 56 => .array (.int)
  | 57 => .array (.int)
  | 58 => .array (.int)
  | 59 => .array (.int)
  | 60 => .array (.int)
  | 61 => .array (.int)
  | 62 => .array (.int)
  | 63 => .array (.int)
  | 64 => .int
  | 65 => .int
  | 66 => .int
  | 67 => .int
  | 68 => .int
  | 69 => .array (.int)
  | 70 => .array (.int)
  | 71 => .int
  | 72 => .array (.int)
  | 73 => .array (.boolean)
  | 74 => .array (.int)
  | 75 => .int
  | 76 => .array (.int)
  | 77 => .array (.long)
  | 78 => .array (.long)
  | 79 => .int
  | 80 => .array (.int)
  | 81 => .int
  | 82 => .array (.int)
  | 83 => .int
  | 84 => .int
  | 85 => .array (.int)
  | 86 => .array (.boolean)
  | 87 => .int
  | 88 => .array (.int)
  | 89 => .array (.int)
  | 90 => .array (.int)
  | 91 => .array (.int)
  | 92 => .array (.int)
  | 93 => .int
  | 94 => .int
  | 95 => .int
  | 96 => .array (.int)
  | 97 => .array (.int)
  | 98 => .array (.int)
  | 99 => .array (.long)
  | _ => .array (.long)
def zT : Nat → u_T := fun c => match c with
  | 0 => zT0
  | 1 => zT1
  | 2 => zT2
  | 3 => zT3
  | 4 => zT4
  | 5 => zT5
  | 6 => zT6
  | 7 => zT7
  | 8 => zT8
  | 9 => zT9
  | 10 => zT10
  | 11 => zT11
  | _ => zT12
def zY : Nat → Nat → FieldType := fun c => match c with
  | 0 => zY0
  | 1 => zY1
  | 2 => zY2
  | 3 => zY3
  | 4 => zY4
  | 5 => zY5
  | 6 => zY6
  | 7 => zY7
  | 8 => zY8
  | 9 => zY9
  | 10 => zY10
  | 11 => zY11
  | _ => zY12
def zN : Nat → Nat := fun c => match c with
  | 0 => 10
  | 1 => 5
  | 2 => 20
  | 3 => 3
  | 4 => 12
  | 5 => 17
  | 6 => 18
  | 7 => 3
  | 8 => 13
  | 9 => 3
  | 10 => 15
  | 11 => 10
  | _ => 101
abbrev zCl : List vw_C := (List.range 13).map (fun c => (zCN c, zT c, zN c))
def zFP : List (List Nat) := [[290, 292, 294, 296, 298, 300, 302, 304, 306, 308], [455, 457, 459, 461, 463], [172, 174, 176, 178, 180, 182, 184, 186, 188, 190, 192, 194, 196, 198, 200, 202, 204, 206, 208, 210], [435, 437, 439], [398, 400, 402, 404, 406, 408, 410, 412, 414, 416, 418, 420], [341, 343, 345, 347, 349, 351, 353, 355, 357, 359, 361, 363, 365, 367, 369, 371, 373], [78, 80, 82, 84, 86, 88, 90, 92, 94, 96, 98, 100, 102, 104, 106, 108, 110, 112], [126, 128, 130], [742, 744, 746, 748, 750, 752, 754, 756, 758, 760, 762, 764, 766], [477, 479, 481], [237, 239, 241, 243, 245, 247, 249, 251, 253, 255, 257, 259, 261, 263, 265], [495, 497, 499, 501, 503, 505, 507, 509, 511, 513], [1581, 1583, 1585, 1587, 1589, 1591, 1593, 1595, 1597, 1599, 1601, 1603, 1605, 1607, 1609, 1611, 1613, 1615, 1617, 1619, 1621, 1623, 1625, 1627, 1629, 1631, 1633, 1635, 1637, 1639, 1641, 1643, 1645, 1647, 1649, 1651, 1653, 1655, 1657, 1659, 1661, 1663, 1665, 1667, 1669, 1671, 1673, 1675, 1677, 1679, 1681, 1683, 1685, 1687, 1689, 1691, 1693, 1695, 1697, 1699, 1701, 1703, 1705, 1707, 1709, 1711, 1713, 1715, 1717, 1719, 1721, 1723, 1725, 1727, 1729, 1731, 1733, 1735, 1737, 1739, 1741, 1743, 1745, 1747, 1749, 1751, 1753, 1755, 1757, 1759, 1761, 1763, 1765, 1767, 1769, 1771, 1773, 1775, 1777, 1779, 1781]]
def zfcp : List (Nat × Nat × Nat × Nat × Nat) := [(0, 11, 0, 3, 280), (0, 17, 0, 4, 281), (0, 21, 0, 5, 283), (0, 24, 0, 6, 284), (0, 27, 0, 8, 288), (0, 30, 0, 9, 289), (0, 33, 0, 0, 277), (0, 37, 0, 1, 278), (0, 41, 0, 2, 279), (0, 45, 6, 1, 42), (0, 51, 6, 5, 53), (0, 54, 2, 1, 141), (0, 57, 2, 2, 144), (0, 60, 2, 3, 147), (0, 66, 8, 3, 718), (0, 69, 8, 4, 720), (0, 80, 8, 10, 736), (0, 87, 6, 7, 58), (0, 90, 8, 11, 738), (0, 100, 8, 12, 740), (0, 124, 8, 5, 723), (0, 128, 2, 6, 155), (0, 131, 8, 6, 725), (0, 134, 8, 7, 728), (0, 146, 6, 4, 50), (0, 149, 6, 11, 71), (0, 163, 6, 8, 63), (0, 208, 0, 7, 286), (0, 211, 10, 14, 236), (0, 216, 6, 0, 41), (1, 9, 1, 0, 448), (1, 15, 1, 1, 450), (1, 19, 1, 2, 452), (1, 22, 1, 3, 453), (1, 25, 1, 4, 454), (2, 9, 2, 4, 150), (2, 15, 2, 5, 152), (2, 18, 2, 6, 154), (2, 21, 2, 7, 157), (2, 24, 2, 8, 158), (2, 27, 2, 9, 160), (2, 30, 2, 10, 162), (2, 33, 2, 11, 163), (2, 36, 2, 12, 164), (2, 39, 2, 13, 165), (2, 42, 2, 14, 166), (2, 45, 2, 15, 167), (2, 48, 2, 16, 168), (2, 51, 2, 17, 169), (2, 54, 2, 18, 170), (2, 57, 2, 19, 171), (2, 60, 2, 0, 139), (2, 64, 2, 1, 140), (2, 68, 6, 0, 37), (2, 77, 6, 10, 68), (2, 83, 6, 8, 61), (2, 96, 2, 2, 145), (2, 99, 2, 3, 148), (3, 9, 3, 0, 431), (3, 15, 3, 1, 432), (3, 20, 3, 2, 434), (4, 9, 4, 0, 382), (4, 15, 4, 2, 385), (4, 18, 4, 3, 387), (4, 21, 4, 5, 391), (4, 24, 4, 6, 392), (4, 27, 4, 7, 393), (4, 30, 4, 8, 394), (4, 33, 4, 1, 383), (4, 43, 4, 9, 395), (4, 46, 4, 10, 396), (4, 62, 4, 4, 389), (4, 65, 4, 11, 397), (5, 9, 5, 3, 320), (5, 15, 5, 5, 324), (5, 18, 5, 6, 325), (5, 21, 5, 8, 328), (5, 24, 5, 10, 332), (5, 27, 5, 11, 333), (5, 30, 5, 0, 317), (5, 34, 5, 1, 318), (5, 38, 5, 2, 319), (5, 42, 6, 1, 43), (5, 57, 8, 9, 733), (5, 84, 8, 5, 722), (5, 109, 6, 8, 62), (5, 112, 5, 4, 322), (5, 119, 5, 12, 334), (5, 127, 5, 9, 330), (5, 141, 6, 0, 40), (5, 153, 8, 12, 741), (5, 159, 5, 7, 326), (5, 163, 5, 13, 335), (5, 166, 5, 14, 337), (5, 177, 5, 15, 339), (5, 180, 5, 16, 340), (6, 9, 6, 7, 57), (6, 15, 6, 8, 60), (6, 18, 6, 9, 65), (6, 21, 6, 10, 67), (6, 24, 6, 11, 70), (6, 27, 6, 12, 72), (6, 30, 6, 13, 73), (6, 33, 6, 14, 74), (6, 36, 6, 15, 75), (6, 39, 6, 16, 76), (6, 42, 6, 17, 77), (6, 52, 6, 1, 44), (6, 70, 6, 0, 39), (6, 73, 6, 2, 46), (6, 76, 6, 3, 48), (6, 83, 6, 4, 51), (6, 101, 6, 6, 55), (7, 9, 7, 0, 122), (7, 15, 7, 1, 123), (7, 18, 7, 2, 124), (8, 9, 8, 3, 717), (8, 15, 8, 4, 719), (8, 18, 8, 6, 724), (8, 22, 8, 7, 727), (8, 25, 8, 8, 730), (8, 28, 8, 9, 732), (8, 31, 8, 10, 735), (8, 34, 8, 11, 737), (8, 37, 8, 12, 739), (8, 40, 8, 0, 714), (8, 44, 8, 1, 715), (8, 48, 8, 2, 716), (8, 51, 8, 5, 721), (8, 54, 2, 1, 142), (8, 61, 2, 8, 159), (8, 87, 2, 4, 151), (8, 90, 2, 5, 153), (9, 9, 9, 0, 472), (9, 15, 9, 1, 474), (9, 18, 9, 2, 476), (10, 9, 10, 0, 219), (10, 15, 10, 2, 222), (10, 18, 10, 3, 223), (10, 22, 10, 4, 224), (10, 25, 10, 5, 225), (10, 28, 10, 6, 226), (10, 31, 10, 8, 229), (10, 34, 10, 13, 234), (10, 37, 10, 1, 220), (10, 41, 10, 7, 227), (10, 69, 10, 14, 235), (10, 72, 10, 12, 233), (10, 75, 10, 11, 232), (10, 78, 10, 10, 231), (10, 81, 10, 9, 230), (11, 12, 11, 0, 485), (11, 19, 11, 1, 486), (11, 28, 11, 2, 487), (11, 35, 11, 3, 488), (11, 44, 11, 4, 489), (11, 53, 11, 5, 490), (11, 60, 11, 6, 491), (11, 67, 11, 7, 492), (11, 74, 11, 8, 493), (11, 81, 11, 9, 494), (11, 93, 6, 0, 38), (11, 108, 7, 2, 125), (11, 139, 6, 7, 59), (11, 143, 6, 8, 64), (11, 146, 6, 9, 66), (11, 149, 6, 10, 69), (11, 158, 6, 5, 54), (11, 167, 6, 6, 56), (11, 176, 2, 1, 143), (11, 178, 2, 9, 161), (11, 181, 2, 2, 146), (11, 199, 8, 7, 729), (11, 202, 8, 8, 731), (11, 205, 2, 6, 156), (11, 208, 8, 6, 726), (11, 211, 8, 9, 734), (11, 221, 2, 3, 149), (11, 238, 9, 0, 473), (11, 245, 3, 1, 433), (11, 251, 10, 1, 221), (11, 260, 10, 7, 228), (11, 271, 0, 4, 282), (11, 277, 0, 7, 287), (11, 280, 0, 6, 285), (11, 297, 5, 4, 323), (11, 300, 5, 3, 321), (11, 303, 5, 7, 327), (11, 309, 5, 9, 331), (11, 312, 5, 8, 329), (11, 318, 5, 13, 336), (11, 321, 5, 14, 338), (11, 327, 4, 1, 384), (11, 330, 4, 2, 386), (11, 336, 4, 4, 390), (11, 339, 4, 3, 388), (11, 349, 1, 1, 451), (11, 361, 1, 0, 449), (11, 388, 9, 1, 475), (11, 394, 6, 1, 45), (11, 395, 6, 2, 47), (11, 398, 6, 3, 49), (11, 401, 6, 4, 52), (12, 7, 12, 3, 1483), (12, 13, 12, 4, 1484), (12, 16, 12, 5, 1485), (12, 19, 12, 6, 1486), (12, 22, 12, 7, 1487), (12, 25, 12, 8, 1488), (12, 28, 12, 9, 1489), (12, 31, 12, 10, 1490), (12, 34, 12, 12, 1492), (12, 37, 12, 13, 1493), (12, 40, 12, 15, 1495), (12, 43, 12, 16, 1496), (12, 46, 12, 17, 1497), (12, 49, 12, 18, 1498), (12, 52, 12, 20, 1500), (12, 55, 12, 21, 1501), (12, 58, 12, 22, 1502), (12, 61, 12, 23, 1503), (12, 64, 12, 24, 1504), (12, 67, 12, 26, 1506), (12, 70, 12, 27, 1507), (12, 73, 12, 28, 1508), (12, 76, 12, 29, 1509), (12, 79, 12, 30, 1510), (12, 82, 12, 31, 1511), (12, 85, 12, 33, 1513), (12, 88, 12, 34, 1514), (12, 91, 12, 35, 1515), (12, 94, 12, 36, 1516), (12, 97, 12, 37, 1517), (12, 100, 12, 38, 1518), (12, 104, 12, 39, 1519), (12, 108, 12, 40, 1520), (12, 112, 12, 41, 1521), (12, 115, 12, 42, 1522), (12, 118, 12, 43, 1523), (12, 121, 12, 44, 1524), (12, 124, 12, 45, 1525), (12, 127, 12, 46, 1526), (12, 130, 12, 47, 1527), (12, 133, 12, 48, 1528), (12, 136, 12, 49, 1529), (12, 139, 12, 50, 1530), (12, 142, 12, 51, 1531), (12, 145, 12, 52, 1532), (12, 148, 12, 53, 1533), (12, 152, 12, 56, 1536), (12, 155, 12, 57, 1537), (12, 158, 12, 58, 1538), (12, 161, 12, 59, 1539), (12, 164, 12, 60, 1540), (12, 167, 12, 61, 1541), (12, 170, 12, 62, 1542), (12, 173, 12, 63, 1543), (12, 176, 12, 69, 1549), (12, 179, 12, 70, 1550), (12, 182, 12, 72, 1552), (12, 185, 12, 73, 1553), (12, 188, 12, 74, 1554), (12, 191, 12, 76, 1556), (12, 194, 12, 77, 1557), (12, 198, 12, 78, 1558), (12, 201, 12, 80, 1560), (12, 204, 12, 81, 1561), (12, 207, 12, 82, 1562), (12, 210, 12, 83, 1563), (12, 213, 12, 84, 1564), (12, 216, 12, 85, 1565), (12, 219, 12, 86, 1566), (12, 222, 12, 88, 1568), (12, 225, 12, 89, 1569), (12, 228, 12, 90, 1570), (12, 231, 12, 91, 1571), (12, 234, 12, 92, 1572), (12, 237, 12, 93, 1573), (12, 240, 12, 96, 1576), (12, 243, 12, 97, 1577), (12, 246, 12, 98, 1578), (12, 249, 12, 99, 1579), (12, 252, 12, 100, 1580), (12, 262, 12, 1, 1481), (12, 265, 12, 2, 1482), (12, 283, 12, 11, 1491), (12, 328, 12, 14, 1494), (12, 336, 12, 19, 1499), (12, 339, 12, 25, 1505), (12, 352, 12, 32, 1512), (12, 391, 12, 54, 1534), (12, 394, 12, 64, 1544), (12, 397, 12, 65, 1545), (12, 400, 12, 67, 1547), (12, 403, 12, 68, 1548), (12, 406, 12, 66, 1546), (12, 445, 12, 55, 1535), (12, 460, 12, 71, 1551), (12, 495, 12, 75, 1555), (12, 514, 12, 79, 1559), (12, 546, 12, 87, 1567), (12, 549, 12, 94, 1574), (12, 556, 12, 95, 1575)]
def zmcp_0 : List (Nat × Nat × Nat × Nat × Nat) := [(0, 3, 1000, 0, 274), (0, 63, 96, 0, 710), (0, 72, 97, 0, 769), (0, 76, 1, 0, 1081), (0, 83, 3, 0, 1082), (0, 93, 4, 0, 1089), (0, 97, 5, 0, 1093), (0, 103, 31, 0, 1098), (0, 107, 102, 0, 1099), (0, 110, 6, 0, 1103), (0, 114, 38, 0, 1112), (0, 118, 332, 0, 1086), (0, 125, 100, 0, 1087), (0, 137, 101, 0, 1088), (0, 140, 1010, 0, 1097), (0, 152, 7, 0, 1107), (0, 156, 86, 0, 1111), (0, 159, 2, 0, 1125), (0, 166, 120, 0, 1126), (0, 171, 1011, 0, 1127), (0, 174, 121, 0, 1128), (0, 178, 10, 0, 1132), (0, 182, 9, 0, 1136), (0, 186, 11, 0, 1146), (0, 189, 12, 0, 1152), (0, 192, 13, 0, 1156), (0, 199, 1014, 0, 1140), (0, 202, 1013, 0, 1143), (0, 219, 8, 0, 1170), (0, 225, 76, 0, 1189), (0, 229, 17, 0, 1194), (1, 3, 1000, 0, 447), (1, 28, 22, 0, 1385), (1, 32, 23, 0, 1393), (1, 35, 24, 0, 1397), (1, 38, 25, 0, 1401), (1, 41, 21, 0, 1389), (2, 3, 1000, 0, 138), (2, 73, 28, 0, 682), (2, 80, 30, 0, 777), (2, 86, 140, 1, 835), (2, 90, 1010, 0, 836), (2, 102, 137, 1, 1116), (3, 3, 1000, 0, 428), (3, 24, 332, 0, 872), (3, 30, 111, 0, 873), (3, 36, 114, 0, 881), (3, 40, 43, 0, 899), (3, 47, 1011, 0, 905), (3, 53, 1012, 0, 903)]
def zmcp_1 : List (Nat × Nat × Nat × Nat × Nat) := [(4, 3, 1000, 0, 381), (4, 37, 1010, 0, 1336), (4, 49, 47, 0, 1337), (4, 53, 332, 0, 1341), (4, 59, 48, 0, 1342), (4, 68, 49, 0, 1346), (4, 72, 51, 0, 1350), (4, 75, 1002, 0, 1355), (4, 81, 50, 0, 1356), (4, 85, 1011, 0, 1354), (5, 3, 1000, 0, 316), (5, 48, 77, 0, 1206), (5, 52, 99, 0, 1207), (5, 60, 83, 0, 1211), (5, 64, 54, 0, 1212), (5, 68, 56, 0, 1225), (5, 72, 60, 0, 1245), (5, 76, 84, 0, 1216), (5, 80, 55, 0, 1220), (5, 85, 101, 0, 1223), (5, 88, 100, 0, 1224), (5, 91, 57, 0, 1229), (5, 94, 58, 0, 1233), (5, 98, 59, 0, 1237), (5, 101, 329, 0, 1241), (5, 106, 328, 0, 1242), (5, 115, 62, 0, 1265), (5, 122, 1011, 0, 1272), (5, 130, 63, 0, 1273), (5, 134, 64, 0, 1277), (5, 137, 65, 0, 1282), (5, 144, 1, 0, 1269), (5, 150, 76, 0, 1270), (5, 156, 102, 0, 1271), (5, 169, 75, 0, 1298), (5, 172, 36, 0, 1299), (5, 185, 69, 0, 1308), (5, 189, 68, 0, 1311), (5, 193, 137, 1, 1315), (6, 3, 1000, 0, 36), (6, 45, 137, 1, 539), (6, 56, 74, 0, 604), (6, 60, 71, 0, 536), (6, 63, 75, 0, 1193), (6, 66, 73, 0, 535), (6, 79, 79, 0, 625), (6, 86, 91, 0, 612), (6, 92, 82, 0, 829), (6, 96, 329, 0, 830), (7, 3, 1000, 0, 121)]
def zmcp_2 : List (Nat × Nat × Nat × Nat × Nat) := [(7, 22, 93, 0, 568), (7, 26, 92, 0, 572), (7, 30, 94, 0, 576), (7, 34, 1012, 0, 593), (7, 39, 1011, 0, 583), (7, 43, 1010, 0, 586), (7, 47, 95, 0, 580), (8, 3, 1000, 0, 713), (8, 57, 29, 0, 773), (8, 64, 332, 0, 781), (8, 70, 103, 0, 784), (8, 74, 104, 0, 797), (8, 78, 105, 0, 811), (8, 81, 100, 0, 788), (8, 84, 101, 0, 792), (8, 93, 1011, 0, 819), (8, 99, 82, 0, 796), (8, 104, 33, 0, 801), (8, 108, 329, 0, 805), (8, 113, 35, 0, 815), (8, 116, 1010, 0, 820), (9, 3, 1000, 0, 471), (9, 22, 331, 0, 1430), (9, 28, 110, 0, 877), (9, 32, 111, 0, 885), (9, 36, 113, 0, 1444), (9, 44, 1002, 0, 1461), (10, 3, 1000, 0, 218), (10, 44, 1002, 0, 925), (10, 50, 122, 0, 928), (10, 54, 137, 1, 1372), (10, 58, 123, 0, 932), (10, 62, 128, 0, 936), (10, 65, 125, 0, 1058), (10, 84, 124, 0, 960), (10, 88, 129, 0, 940), (10, 91, 127, 0, 1062), (10, 95, 130, 0, 944), (10, 98, 131, 0, 948), (10, 101, 132, 0, 952), (10, 104, 133, 0, 956), (10, 107, 134, 0, 964), (10, 111, 135, 0, 967), (10, 116, 1001, 0, 972), (10, 121, 126, 0, 1054), (11, 3, 1000, 0, 28), (11, 11, 70, 1, 33), (11, 18, 87, 1, 118), (11, 25, 26, 0, 135), (11, 34, 116, 1, 215)]
def zmcp_3 : List (Nat × Nat × Nat × Nat × Nat) := [(11, 41, 0, 0, 271), (11, 50, 52, 0, 313), (11, 59, 44, 1, 378), (11, 66, 39, 1, 425), (11, 73, 19, 1, 444), (11, 80, 106, 1, 468), (11, 85, 137, 0, 520), (11, 89, 140, 0, 545), (11, 97, 73, 0, 527), (11, 101, 79, 0, 531), (11, 105, 71, 0, 544), (11, 111, 88, 0, 552), (11, 114, 89, 0, 564), (11, 117, 90, 0, 589), (11, 121, 75, 0, 600), (11, 124, 81, 0, 608), (11, 128, 80, 0, 621), (11, 132, 74, 0, 630), (11, 136, 77, 0, 632), (11, 152, 86, 0, 636), (11, 155, 82, 0, 644), (11, 161, 78, 0, 656), (11, 164, 138, 0, 660), (11, 170, 85, 0, 663), (11, 173, 141, 0, 675), (11, 177, 27, 0, 678), (11, 184, 32, 0, 694), (11, 187, 139, 0, 702), (11, 190, 1, 0, 705), (11, 194, 98, 0, 821), (11, 214, 83, 0, 825), (11, 218, 31, 0, 831), (11, 224, 34, 0, 841), (11, 228, 37, 0, 849), (11, 232, 40, 0, 857), (11, 235, 142, 0, 865), (11, 241, 41, 0, 868), (11, 248, 42, 0, 895), (11, 254, 117, 0, 910), (11, 257, 143, 0, 918), (11, 261, 118, 0, 921), (11, 264, 120, 0, 1069), (11, 267, 2, 0, 1077), (11, 274, 8, 0, 1121), (11, 283, 14, 0, 1166), (11, 286, 15, 0, 1175), (11, 290, 16, 0, 1185), (11, 293, 53, 0, 1202), (11, 306, 61, 0, 1261), (11, 315, 66, 0, 1294)]
def zmcp_4 : List (Nat × Nat × Nat × Nat × Nat) := [(11, 324, 67, 0, 1303), (11, 328, 45, 0, 1320), (11, 333, 46, 0, 1332), (11, 342, 119, 0, 1368), (11, 345, 18, 0, 1373), (11, 352, 20, 0, 1381), (11, 356, 1011, 0, 1409), (11, 364, 107, 0, 1414), (11, 367, 108, 0, 1418), (11, 370, 109, 0, 1426), (11, 373, 112, 0, 1440), (11, 377, 114, 0, 1451), (11, 385, 115, 0, 1457), (11, 391, 72, 0, 1466), (12, 1, 1000, 0, 1480), (12, 258, 196, 0, 1789), (12, 268, 200, 0, 1868), (12, 272, 201, 0, 1804), (12, 276, 204, 0, 1796), (12, 280, 206, 0, 1807), (12, 286, 213, 0, 1834), (12, 289, 211, 0, 1838), (12, 293, 212, 0, 1845), (12, 296, 216, 0, 1830), (12, 299, 217, 0, 1841), (12, 302, 214, 0, 1848), (12, 305, 215, 0, 1852), (12, 308, 218, 0, 1826), (12, 312, 219, 0, 1856), (12, 316, 202, 0, 1864), (12, 319, 221, 0, 1872), (12, 322, 203, 0, 1880), (12, 325, 197, 0, 1892), (12, 331, 226, 0, 1899), (12, 342, 229, 0, 1939), (12, 345, 233, 0, 1947), (12, 349, 235, 0, 1951), (12, 355, 234, 0, 1935), (12, 358, 236, 0, 1943), (12, 362, 238, 0, 1955), (12, 365, 237, 0, 1959), (12, 368, 239, 0, 1931), (12, 372, 198, 0, 1924), (12, 375, 241, 0, 1927), (12, 379, 240, 0, 1963), (12, 382, 318, 0, 1987), (12, 385, 248, 0, 1994), (12, 409, 252, 0, 2053), (12, 412, 251, 0, 2038), (12, 415, 255, 0, 2042)]
def zmcp_5 : List (Nat × Nat × Nat × Nat × Nat) := [(12, 418, 253, 0, 2045), (12, 421, 254, 0, 2049), (12, 424, 256, 0, 2034), (12, 427, 261, 0, 2014), (12, 430, 257, 0, 2030), (12, 433, 258, 0, 2026), (12, 436, 259, 0, 2022), (12, 439, 260, 0, 2018), (12, 442, 263, 0, 2007), (12, 448, 262, 0, 2010), (12, 451, 265, 0, 2061), (12, 454, 267, 0, 2101), (12, 457, 268, 0, 2097), (12, 463, 270, 0, 2073), (12, 467, 271, 0, 2077), (12, 470, 273, 0, 2081), (12, 473, 272, 0, 2069), (12, 480, 269, 0, 2093), (12, 483, 275, 0, 2104), (12, 487, 276, 0, 2108), (12, 502, 277, 0, 2089), (12, 508, 282, 0, 2143), (12, 511, 283, 0, 2139), (12, 517, 285, 0, 2154), (12, 520, 284, 0, 2135), (12, 523, 287, 0, 2147), (12, 526, 286, 0, 2150), (12, 529, 291, 0, 2170), (12, 532, 293, 0, 2174), (12, 536, 296, 0, 2191), (12, 540, 295, 0, 2187), (12, 543, 297, 0, 2194), (12, 552, 301, 0, 2209), (12, 559, 305, 0, 2229), (12, 562, 306, 0, 2237), (12, 565, 307, 0, 2233), (12, 568, 308, 0, 2225), (12, 571, 309, 0, 2249), (12, 574, 310, 0, 2245), (12, 577, 313, 0, 2253), (12, 580, 312, 0, 2257), (12, 583, 311, 0, 2241), (12, 586, 314, 0, 2265), (12, 589, 315, 0, 2261), (12, 592, 321, 0, 2285), (12, 599, 326, 0, 2306), (13, 9, 136, 0, 25), (13, 12, 195, 0, 1477), (13, 13, 144, 0, 516), (13, 17, 199, 0, 1785)]
def zmcp_6 : List (Nat × Nat × Nat × Nat × Nat) := [(13, 18, 145, 0, 523), (13, 22, 205, 0, 1792), (13, 23, 146, 0, 540), (13, 27, 207, 0, 1800), (13, 28, 147, 0, 548), (13, 31, 209, 0, 1814), (13, 32, 148, 0, 556), (13, 35, 210, 0, 1818), (13, 36, 149, 0, 560), (13, 39, 220, 0, 1822), (13, 40, 150, 0, 596), (13, 43, 222, 0, 1860), (13, 44, 151, 0, 617), (13, 47, 208, 0, 1810), (13, 48, 152, 0, 626), (13, 51, 228, 0, 1903), (13, 52, 153, 0, 640), (13, 56, 223, 0, 1876), (13, 57, 154, 0, 648), (13, 60, 224, 0, 1884), (13, 61, 155, 0, 652), (13, 64, 225, 0, 1888), (13, 65, 156, 0, 667), (13, 68, 227, 0, 1895), (13, 69, 157, 0, 671), (13, 72, 230, 0, 1908), (13, 73, 158, 0, 686), (13, 76, 231, 0, 1912), (13, 77, 159, 0, 690), (13, 80, 232, 0, 1916), (13, 81, 160, 0, 698), (13, 85, 242, 0, 1920), (13, 86, 161, 0, 837), (13, 90, 243, 0, 1967), (13, 91, 162, 0, 845), (13, 94, 244, 0, 1971), (13, 95, 163, 0, 853), (13, 98, 245, 0, 1975), (13, 99, 164, 0, 861), (13, 102, 247, 0, 1983), (13, 103, 165, 0, 887), (13, 106, 246, 0, 1979), (13, 107, 166, 0, 891), (13, 110, 249, 0, 1990), (13, 111, 167, 0, 906), (13, 114, 250, 0, 1999), (13, 115, 168, 0, 914), (13, 118, 264, 0, 2003), (13, 119, 169, 0, 1065), (13, 122, 266, 0, 2057)]
def zmcp_7 : List (Nat × Nat × Nat × Nat × Nat) := [(13, 123, 170, 0, 1073), (13, 126, 274, 0, 2065), (13, 127, 171, 0, 1117), (13, 130, 278, 0, 2085), (13, 131, 172, 0, 1162), (13, 134, 279, 0, 2117), (13, 135, 173, 0, 1171), (13, 138, 280, 0, 2121), (13, 139, 174, 0, 1180), (13, 142, 281, 0, 2127), (13, 143, 175, 0, 1198), (13, 146, 288, 0, 2131), (13, 147, 176, 0, 1249), (13, 150, 289, 0, 2158), (13, 151, 177, 0, 1253), (13, 154, 290, 0, 2162), (13, 155, 178, 0, 1257), (13, 158, 292, 0, 2166), (13, 159, 179, 0, 1286), (13, 162, 294, 0, 2179), (13, 163, 180, 0, 1290), (13, 166, 298, 0, 2183), (13, 167, 181, 0, 1316), (13, 170, 299, 0, 2197), (13, 171, 182, 0, 1324), (13, 174, 300, 0, 2201), (13, 175, 183, 0, 1328), (13, 178, 302, 0, 2205), (13, 179, 184, 0, 1360), (13, 182, 303, 0, 2213), (13, 183, 185, 0, 1364), (13, 186, 304, 0, 2217), (13, 187, 186, 0, 1377), (13, 190, 316, 0, 2221), (13, 191, 187, 0, 1405), (13, 194, 317, 0, 2269), (13, 195, 188, 0, 1410), (13, 198, 319, 0, 2273), (13, 199, 189, 0, 1422), (13, 202, 320, 0, 2277), (13, 205, 190, 0, 1436), (13, 209, 322, 0, 2281), (13, 210, 191, 0, 1447), (13, 214, 323, 0, 2289), (13, 215, 192, 0, 1453), (13, 218, 324, 0, 2294), (13, 219, 193, 0, 1462), (13, 222, 325, 0, 2298), (13, 223, 194, 0, 1471), (13, 226, 327, 0, 2302)]
def zmcp_8 : List (Nat × Nat × Nat × Nat × Nat) := [(21, 13, 330, 0, 1433)]
def zmcp : List (Nat × Nat × Nat × Nat × Nat) := zmcp_0 ++ (zmcp_1 ++ (zmcp_2 ++ (zmcp_3 ++ (zmcp_4 ++ (zmcp_5 ++ (zmcp_6 ++ (zmcp_7 ++ (zmcp_8))))))))
def zccp : List (Nat × Nat × Nat × Nat) := [(0, 9, 8, 275), (11, 9, 6, 31), (11, 16, 7, 116), (11, 23, 2, 133), (11, 32, 10, 213), (11, 39, 0, 269), (11, 48, 5, 311), (11, 57, 4, 376), (11, 64, 3, 423), (11, 71, 1, 442), (11, 78, 9, 466), (13, 7, 11, 23), (13, 10, 12, 1475)]
def zkcp : List (Nat × Nat × Nat × Nat) := [(3, 46, 2147483647, 904), (5, 162, 1103515245, 1281), (7, 46, 16777215, 616), (11, 135, 2294967296, 631), (11, 289, 2000000000, 1184), (12, 335, 2294967296, 1907), (12, 390, 2147483647, 1998), (12, 479, 2000000000, 2112), (12, 507, 2294967297, 2126), (12, 535, 1103515245, 2178), (15, 265, 1431655765, 808), (15, 266, 858993459, 809), (15, 267, 252645135, 810)]
def zlcp : List (Nat × Nat × Nat × Nat) := [(0, 195, 100, 1161), (0, 197, 2000000000, 1139), (0, 204, 3, 1150), (0, 206, 10, 1151), (0, 214, 99, 1160), (0, 223, 18446744071709551617, 1179), (5, 183, 100, 1307), (9, 42, 9223372036854775808, 886), (11, 383, 9223372036854775808, 1452), (12, 477, 2000000000, 2111), (12, 491, 3, 2113), (12, 493, 10, 2114), (12, 498, 99, 2115), (12, 500, 100, 2116), (12, 505, 18446744071709551617, 2125), (12, 597, 9223372036854775808, 2293), (13, 203, 4294967295, 2310)]
abbrev aI : Type := Nat × Instr × Nat × Nat × Nat
abbrev aM : Type := Nat × MethodName × ByteArray × Nat × Option FieldType × Nat × Nat × List aI
def zI0 : List aI := [(0, .aload_n 0, 1, 0, 0), (1, .invokespecial 3, 3, 1000, 0), (4, .aload_n 0, 1, 0, 0), (5, .bipush 10, 2, 0, 0), (7, .anewarray 9, 3, 4, 0), (10, .putfield 11, 3, 0, 3), (13, .aload_n 0, 1, 0, 0), (14, .bipush 13, 2, 0, 0), (16, .newarray .int, 2, 0, 0), (18, .putfield 17, 3, 0, 4), (21, .aload_n 0, 1, 0, 0), (22, .bipush 8, 2, 0, 0), (24, .newarray .int, 2, 0, 0), (26, .putfield 21, 3, 0, 5), (29, .aload_n 0, 1, 0, 0), (30, .bipush 6, 2, 0, 0), (32, .newarray .int, 2, 0, 0), (34, .putfield 24, 3, 0, 6), (37, .aload_n 0, 1, 0, 0), (38, .sipush 1500, 3, 0, 0), (41, .newarray .int, 2, 0, 0), (43, .putfield 27, 3, 0, 8), (46, .aload_n 0, 1, 0, 0), (47, .sipush 150, 3, 0, 0), (50, .newarray .int, 2, 0, 0), (52, .putfield 30, 3, 0, 9), (55, .aload_n 0, 1, 0, 0), (56, .aload_n 1, 1, 0, 0), (57, .putfield 33, 3, 0, 0), (60, .aload_n 0, 1, 0, 0), (61, .aload_n 2, 1, 0, 0), (62, .putfield 37, 3, 0, 1), (65, .aload_n 0, 1, 0, 0), (66, .aload_n 3, 1, 0, 0), (67, .putfield 41, 3, 0, 2), (70, .return_, 1, 0, 0)]
def zM0 : aM := (0, ⟨"AcresPaid$Accounts", "<init>", "(LAcresPaid$Register;LAcresPaid$Claims;LAcresPaid$Texts;)V"⟩, prog_2_method_1_code, 4, none, 3, 2, zI0)
def zI1 : List aI := [(0, .aload_n 0, 1, 0, 0), (1, .getfield 33, 3, 0, 0), (4, .getfield 45, 3, 6, 1), (7, .aload_n 0, 1, 0, 0), (8, .getfield 33, 3, 0, 0), (11, .getfield 51, 3, 6, 5), (14, .iadd, 1, 0, 0), (15, .aload_n 0, 1, 0, 0), (16, .getfield 37, 3, 0, 1), (19, .getfield 54, 3, 2, 1), (22, .iadd, 1, 0, 0), (23, .aload_n 0, 1, 0, 0), (24, .getfield 37, 3, 0, 1), (27, .getfield 57, 3, 2, 2), (30, .iadd, 1, 0, 0), (31, .aload_n 0, 1, 0, 0), (32, .getfield 37, 3, 0, 1), (35, .getfield 60, 3, 2, 3), (38, .iadd, 1, 0, 0), (39, .istore_n 3, 1, 0, 0), (40, .aload_n 0, 1, 0, 0), (41, .getfield 11, 3, 0, 3), (44, .iload_n 1, 1, 0, 0), (45, .aaload, 1, 0, 0), (46, .astore 4, 2, 0, 0), (48, .aload 4, 2, 0, 0), (50, .ifnonnull 29, 3, 79, 0), (53, .new 9, 3, 8, 0), (56, .dup, 1, 0, 0), (57, .aload_n 0, 1, 0, 0), (58, .getfield 33, 3, 0, 0), (61, .aload_n 0, 1, 0, 0), (62, .getfield 37, 3, 0, 1), (65, .iload_n 1, 1, 0, 0), (66, .invokespecial 63, 3, 96, 0), (69, .astore 4, 2, 0, 0), (71, .aload_n 0, 1, 0, 0), (72, .getfield 11, 3, 0, 3), (75, .iload_n 1, 1, 0, 0), (76, .aload 4, 2, 0, 0), (78, .aastore, 1, 0, 0), (79, .aload 4, 2, 0, 0), (81, .getfield 66, 3, 8, 3), (84, .iload_n 2, 1, 0, 0), (85, .if_icmp .ne 12, 3, 97, 0), (88, .aload 4, 2, 0, 0), (90, .getfield 69, 3, 8, 4), (93, .iload_n 3, 1, 0, 0), (94, .if_icmp .eq 10, 3, 104, 0), (97, .aload 4, 2, 0, 0), (99, .iload_n 2, 1, 0, 0), (100, .iload_n 3, 1, 0, 0), (101, .invokevirtual 72, 3, 97, 0), (104, .aload 4, 2, 0, 0), (106, .areturn, 1, 0, 0)]
def zM1 : aM := (0, ⟨"AcresPaid$Accounts", "season", "(II)LAcresPaid$Season;"⟩, prog_2_method_2_code, 5, (Option.some (.object "AcresPaid$Season")), 2, 0, zI1)
def zI2_0 : List aI := [(0, .aload_n 0, 1, 0, 0), (1, .iload_n 2, 1, 0, 0), (2, .iload_n 3, 1, 0, 0), (3, .invokevirtual 76, 3, 1, 0), (6, .astore 4, 2, 0, 0), (8, .aload 4, 2, 0, 0), (10, .getfield 80, 3, 8, 10), (13, .iload_n 1, 1, 0, 0), (14, .iaload, 1, 0, 0), (15, .istore 5, 2, 0, 0), (17, .aload_n 0, 1, 0, 0), (18, .aload 4, 2, 0, 0), (20, .iload_n 1, 1, 0, 0), (21, .invokevirtual 83, 3, 3, 0), (24, .istore 6, 2, 0, 0), (26, .aload_n 0, 1, 0, 0), (27, .getfield 17, 3, 0, 4), (30, .iconst 0, 1, 0, 0), (31, .iload_n 2, 1, 0, 0), (32, .iastore, 1, 0, 0), (33, .aload_n 0, 1, 0, 0), (34, .getfield 17, 3, 0, 4), (37, .iconst 1, 1, 0, 0), (38, .aload_n 0, 1, 0, 0), (39, .getfield 33, 3, 0, 0), (42, .getfield 87, 3, 6, 7), (45, .iload_n 1, 1, 0, 0), (46, .iaload, 1, 0, 0), (47, .iastore, 1, 0, 0), (48, .aload_n 0, 1, 0, 0), (49, .getfield 17, 3, 0, 4), (52, .iconst 2, 1, 0, 0), (53, .iload 5, 2, 0, 0), (55, .iastore, 1, 0, 0), (56, .aload_n 0, 1, 0, 0), (57, .getfield 17, 3, 0, 4), (60, .iconst 3, 1, 0, 0), (61, .iload 5, 2, 0, 0), (63, .aload 4, 2, 0, 0), (65, .getfield 90, 3, 8, 11), (68, .iload_n 1, 1, 0, 0), (69, .iaload, 1, 0, 0), (70, .isub, 1, 0, 0), (71, .iastore, 1, 0, 0), (72, .aload_n 0, 1, 0, 0), (73, .getfield 17, 3, 0, 4), (76, .iconst 4, 1, 0, 0), (77, .iload 5, 2, 0, 0), (79, .ifCond .ne 7, 3, 86, 0), (82, .iconst 0, 1, 0, 0), (83, .goto 11, 3, 94, 0), (86, .bipush 100, 2, 0, 0), (88, .iload 6, 2, 0, 0), (90, .imul, 1, 0, 0), (91, .iload 5, 2, 0, 0), (93, .idiv, 1, 0, 0), (94, .iastore, 1, 0, 0), (95, .aload_n 0, 1, 0, 0), (96, .getfield 17, 3, 0, 4), (99, .iconst 5, 1, 0, 0), (100, .aload_n 0, 1, 0, 0), (101, .invokevirtual 93, 3, 4, 0), (104, .iastore, 1, 0, 0), (105, .aload_n 0, 1, 0, 0), (106, .getfield 17, 3, 0, 4), (109, .bipush 6, 2, 0, 0), (111, .iload 5, 2, 0, 0), (113, .ifCond .ne 7, 3, 120, 0), (116, .iconst 0, 1, 0, 0), (117, .goto 13, 3, 130, 0), (120, .bipush 100, 2, 0, 0), (122, .aload_n 0, 1, 0, 0), (123, .invokevirtual 97, 3, 5, 0), (126, .imul, 1, 0, 0), (127, .iload 5, 2, 0, 0), (129, .idiv, 1, 0, 0), (130, .iastore, 1, 0, 0), (131, .aload_n 0, 1, 0, 0), (132, .getfield 17, 3, 0, 4), (135, .bipush 7, 2, 0, 0), (137, .aload 4, 2, 0, 0), (139, .getfield 100, 3, 8, 12), (142, .iload_n 1, 1, 0, 0), (143, .iaload, 1, 0, 0), (144, .iconst (-1), 1, 0, 0), (145, .if_icmp .ne 7, 3, 152, 0), (148, .iconst 0, 1, 0, 0), (149, .goto 17, 3, 166, 0), (152, .aload_n 0, 1, 0, 0), (153, .getfield 37, 3, 0, 1), (156, .aload 4, 2, 0, 0), (158, .getfield 100, 3, 8, 12), (161, .iload_n 1, 1, 0, 0), (162, .iaload, 1, 0, 0), (163, .invokevirtual 103, 3, 31, 0), (166, .iastore, 1, 0, 0), (167, .aload_n 0, 1, 0, 0), (168, .getfield 17, 3, 0, 4), (171, .bipush 8, 2, 0, 0), (173, .aload 4, 2, 0, 0)]
def zI2_1 : List aI := [(175, .iload_n 1, 1, 0, 0), (176, .invokevirtual 107, 3, 102, 0), (179, .iastore, 1, 0, 0), (180, .aload_n 0, 1, 0, 0), (181, .getfield 17, 3, 0, 4), (184, .bipush 9, 2, 0, 0), (186, .aload_n 0, 1, 0, 0), (187, .iload_n 1, 1, 0, 0), (188, .iload_n 2, 1, 0, 0), (189, .iload_n 3, 1, 0, 0), (190, .invokevirtual 110, 3, 6, 0), (193, .iastore, 1, 0, 0), (194, .aload_n 0, 1, 0, 0), (195, .getfield 17, 3, 0, 4), (198, .bipush 10, 2, 0, 0), (200, .iconst 0, 1, 0, 0), (201, .iastore, 1, 0, 0), (202, .aload_n 0, 1, 0, 0), (203, .getfield 17, 3, 0, 4), (206, .bipush 11, 2, 0, 0), (208, .aload_n 0, 1, 0, 0), (209, .getfield 37, 3, 0, 1), (212, .iload_n 1, 1, 0, 0), (213, .iload_n 2, 1, 0, 0), (214, .iload_n 3, 1, 0, 0), (215, .invokevirtual 114, 3, 38, 0), (218, .ifCond .eq 7, 3, 225, 0), (221, .iconst 1, 1, 0, 0), (222, .goto 4, 3, 226, 0), (225, .iconst 0, 1, 0, 0), (226, .iastore, 1, 0, 0), (227, .aload_n 0, 1, 0, 0), (228, .getfield 17, 3, 0, 4), (231, .bipush 12, 2, 0, 0), (233, .iconst 0, 1, 0, 0), (234, .iastore, 1, 0, 0), (235, .iconst 0, 1, 0, 0), (236, .istore 7, 2, 0, 0), (238, .iload 7, 2, 0, 0), (240, .iload_n 2, 1, 0, 0), (241, .if_icmp .ge 39, 3, 280, 0), (244, .aload_n 0, 1, 0, 0), (245, .getfield 17, 3, 0, 4), (248, .bipush 12, 2, 0, 0), (250, .dup2, 1, 0, 0), (251, .iaload, 1, 0, 0), (252, .aload_n 0, 1, 0, 0), (253, .iload 7, 2, 0, 0), (255, .iload_n 3, 1, 0, 0), (256, .invokevirtual 76, 3, 1, 0), (259, .getfield 90, 3, 8, 11), (262, .iload_n 1, 1, 0, 0), (263, .iaload, 1, 0, 0), (264, .ifCond .le 7, 3, 271, 0), (267, .iconst 1, 1, 0, 0), (268, .goto 4, 3, 272, 0), (271, .iconst 0, 1, 0, 0), (272, .iadd, 1, 0, 0), (273, .iastore, 1, 0, 0), (274, .iinc 7 1, 3, 0, 0), (277, .goto (-39), 3, 238, 0), (280, .return_, 1, 0, 0)]
def zI2 : List aI := zI2_0 ++ (zI2_1)
def zM2 : aM := (0, ⟨"AcresPaid$Accounts", "know", "(III)V"⟩, prog_2_method_3_code, 8, none, 3, 0, zI2)
def zI3 : List aI := [(0, .iconst 0, 1, 0, 0), (1, .istore_n 3, 1, 0, 0), (2, .aload_n 0, 1, 0, 0), (3, .getfield 21, 3, 0, 5), (6, .iconst 0, 1, 0, 0), (7, .invokestatic 118, 3, 332, 0), (10, .iconst 0, 1, 0, 0), (11, .istore 4, 2, 0, 0), (13, .iload 4, 2, 0, 0), (15, .aload_n 1, 1, 0, 0), (16, .getfield 124, 3, 8, 5), (19, .if_icmp .ge 81, 3, 100, 0), (22, .aload_n 1, 1, 0, 0), (23, .iload 4, 2, 0, 0), (25, .invokevirtual 125, 3, 100, 0), (28, .iload_n 2, 1, 0, 0), (29, .if_icmp .ne 65, 3, 94, 0), (32, .aload_n 0, 1, 0, 0), (33, .getfield 21, 3, 0, 5), (36, .aload_n 0, 1, 0, 0), (37, .getfield 37, 3, 0, 1), (40, .getfield 128, 3, 2, 6), (43, .aload_n 1, 1, 0, 0), (44, .getfield 131, 3, 8, 6), (47, .iload 4, 2, 0, 0), (49, .iaload, 1, 0, 0), (50, .iaload, 1, 0, 0), (51, .dup2, 1, 0, 0), (52, .iaload, 1, 0, 0), (53, .aload_n 1, 1, 0, 0), (54, .getfield 134, 3, 8, 7), (57, .iload 4, 2, 0, 0), (59, .iaload, 1, 0, 0), (60, .iadd, 1, 0, 0), (61, .iastore, 1, 0, 0), (62, .iload_n 3, 1, 0, 0), (63, .aload_n 0, 1, 0, 0), (64, .getfield 33, 3, 0, 0), (67, .getfield 87, 3, 6, 7), (70, .aload_n 1, 1, 0, 0), (71, .iload 4, 2, 0, 0), (73, .invokevirtual 137, 3, 101, 0), (76, .iaload, 1, 0, 0), (77, .iconst 5, 1, 0, 0), (78, .if_icmp .ne 13, 3, 91, 0), (81, .aload_n 1, 1, 0, 0), (82, .getfield 134, 3, 8, 7), (85, .iload 4, 2, 0, 0), (87, .iaload, 1, 0, 0), (88, .goto 4, 3, 92, 0), (91, .iconst 0, 1, 0, 0), (92, .iadd, 1, 0, 0), (93, .istore_n 3, 1, 0, 0), (94, .iinc 4 1, 3, 0, 0), (97, .goto (-84), 3, 13, 0), (100, .iload_n 3, 1, 0, 0), (101, .ireturn, 1, 0, 0)]
def zM3 : aM := (0, ⟨"AcresPaid$Accounts", "sumCrops", "(LAcresPaid$Season;I)I"⟩, prog_2_method_4_code, 5, (Option.some .int), 2, 0, zI3)
def zI4 : List aI := [(0, .iconst 0, 1, 0, 0), (1, .istore_n 1, 1, 0, 0), (2, .iconst 0, 1, 0, 0), (3, .istore_n 2, 1, 0, 0), (4, .iload_n 2, 1, 0, 0), (5, .bipush 8, 2, 0, 0), (7, .if_icmp .ge 26, 3, 33, 0), (10, .iload_n 1, 1, 0, 0), (11, .aload_n 0, 1, 0, 0), (12, .getfield 21, 3, 0, 5), (15, .iload_n 2, 1, 0, 0), (16, .iaload, 1, 0, 0), (17, .ifCond .le 7, 3, 24, 0), (20, .iconst 1, 1, 0, 0), (21, .goto 4, 3, 25, 0), (24, .iconst 0, 1, 0, 0), (25, .iadd, 1, 0, 0), (26, .istore_n 1, 1, 0, 0), (27, .iinc 2 1, 3, 0, 0), (30, .goto (-26), 3, 4, 0), (33, .iload_n 1, 1, 0, 0), (34, .ireturn, 1, 0, 0)]
def zM4 : aM := (0, ⟨"AcresPaid$Accounts", "cropsGrown", "()I"⟩, prog_2_method_5_code, 3, (Option.some .int), 0, 0, zI4)
def zI5 : List aI := [(0, .iconst 0, 1, 0, 0), (1, .istore_n 1, 1, 0, 0), (2, .iconst 0, 1, 0, 0), (3, .istore_n 2, 1, 0, 0), (4, .iload_n 2, 1, 0, 0), (5, .bipush 8, 2, 0, 0), (7, .if_icmp .ge 20, 3, 27, 0), (10, .iload_n 1, 1, 0, 0), (11, .aload_n 0, 1, 0, 0), (12, .getfield 21, 3, 0, 5), (15, .iload_n 2, 1, 0, 0), (16, .iaload, 1, 0, 0), (17, .invokestatic 140, 3, 1010, 0), (20, .istore_n 1, 1, 0, 0), (21, .iinc 2 1, 3, 0, 0), (24, .goto (-20), 3, 4, 0), (27, .iload_n 1, 1, 0, 0), (28, .ireturn, 1, 0, 0)]
def zM5 : aM := (0, ⟨"AcresPaid$Accounts", "squaresOfTopCrop", "()I"⟩, prog_2_method_6_code, 3, (Option.some .int), 0, 0, zI5)
def zI6 : List aI := [(0, .iconst 0, 1, 0, 0), (1, .istore 4, 2, 0, 0), (3, .iconst 0, 1, 0, 0), (4, .istore 5, 2, 0, 0), (6, .iload 5, 2, 0, 0), (8, .aload_n 0, 1, 0, 0), (9, .getfield 33, 3, 0, 0), (12, .getfield 146, 3, 6, 4), (15, .if_icmp .ge 39, 3, 54, 0), (18, .iload 4, 2, 0, 0), (20, .aload_n 0, 1, 0, 0), (21, .iload_n 1, 1, 0, 0), (22, .aload_n 0, 1, 0, 0), (23, .getfield 33, 3, 0, 0), (26, .getfield 149, 3, 6, 11), (29, .iload 5, 2, 0, 0), (31, .iaload, 1, 0, 0), (32, .iload_n 2, 1, 0, 0), (33, .iload_n 3, 1, 0, 0), (34, .invokevirtual 152, 3, 7, 0), (37, .ifCond .eq 7, 3, 44, 0), (40, .iconst 1, 1, 0, 0), (41, .goto 4, 3, 45, 0), (44, .iconst 0, 1, 0, 0), (45, .iadd, 1, 0, 0), (46, .istore 4, 2, 0, 0), (48, .iinc 5 1, 3, 0, 0), (51, .goto (-45), 3, 6, 0), (54, .iload 4, 2, 0, 0), (56, .ireturn, 1, 0, 0)]
def zM6 : aM := (0, ⟨"AcresPaid$Accounts", "permitsOf", "(III)I"⟩, prog_2_method_7_code, 6, (Option.some .int), 3, 0, zI6)
def zI7 : List aI := [(0, .aload_n 0, 1, 0, 0), (1, .getfield 33, 3, 0, 0), (4, .iload_n 2, 1, 0, 0), (5, .iload_n 3, 1, 0, 0), (6, .sipush 365, 3, 0, 0), (9, .imul, 1, 0, 0), (10, .sipush 365, 3, 0, 0), (13, .iadd, 1, 0, 0), (14, .iconst 1, 1, 0, 0), (15, .isub, 1, 0, 0), (16, .iload 4, 2, 0, 0), (18, .invokevirtual 156, 3, 86, 0), (21, .iload_n 1, 1, 0, 0), (22, .if_icmp .ne 7, 3, 29, 0), (25, .iconst 1, 1, 0, 0), (26, .goto 4, 3, 30, 0), (29, .iconst 0, 1, 0, 0), (30, .ireturn, 1, 0, 0)]
def zM7 : aM := (0, ⟨"AcresPaid$Accounts", "isHolder", "(IIII)Z"⟩, prog_2_method_8_code, 5, (Option.some .boolean), 4, 0, zI7)
def zI8_0 : List aI := [(0, .aload_n 0, 1, 0, 0), (1, .iload_n 1, 1, 0, 0), (2, .iload_n 2, 1, 0, 0), (3, .iload_n 3, 1, 0, 0), (4, .invokevirtual 159, 3, 2, 0), (7, .aload_n 0, 1, 0, 0), (8, .getfield 33, 3, 0, 0), (11, .getfield 163, 3, 6, 8), (14, .iload_n 1, 1, 0, 0), (15, .iaload, 1, 0, 0), (16, .bipush 10, 2, 0, 0), (18, .imul, 1, 0, 0), (19, .istore 5, 2, 0, 0), (21, .iload 4, 2, 0, 0), (23, .iconst (-1), 1, 0, 0), (24, .if_icmp .ne 19, 3, 43, 0), (27, .aload_n 0, 1, 0, 0), (28, .getfield 41, 3, 0, 2), (31, .iload 5, 2, 0, 0), (33, .iconst 0, 1, 0, 0), (34, .iadd, 1, 0, 0), (35, .iload_n 2, 1, 0, 0), (36, .iload_n 3, 1, 0, 0), (37, .invokevirtual 166, 3, 120, 0), (40, .goto 5, 3, 45, 0), (43, .iload 4, 2, 0, 0), (45, .istore 6, 2, 0, 0), (47, .aload_n 0, 1, 0, 0), (48, .getfield 17, 3, 0, 4), (51, .iconst 3, 1, 0, 0), (52, .iaload, 1, 0, 0), (53, .bipush 10, 2, 0, 0), (55, .aload_n 0, 1, 0, 0), (56, .getfield 17, 3, 0, 4), (59, .bipush 9, 2, 0, 0), (61, .iaload, 1, 0, 0), (62, .imul, 1, 0, 0), (63, .invokestatic 171, 3, 1011, 0), (66, .istore 7, 2, 0, 0), (68, .iload 6, 2, 0, 0), (70, .iconst (-1), 1, 0, 0), (71, .if_icmp .ne 7, 3, 78, 0), (74, .lconst 1, 1, 0, 0), (75, .goto 17, 3, 92, 0), (78, .aload_n 0, 1, 0, 0), (79, .getfield 41, 3, 0, 2), (82, .iload 6, 2, 0, 0), (84, .aload_n 0, 1, 0, 0), (85, .getfield 17, 3, 0, 4), (88, .invokevirtual 174, 3, 121, 0), (91, .i2l, 1, 0, 0), (92, .lstore 8, 2, 0, 0), (94, .aload_n 0, 1, 0, 0), (95, .getfield 24, 3, 0, 6), (98, .iconst 1, 1, 0, 0), (99, .lload 8, 2, 0, 0), (101, .iload 7, 2, 0, 0), (103, .i2l, 1, 0, 0), (104, .lmul, 1, 0, 0), (105, .aload_n 0, 1, 0, 0), (106, .iload 7, 2, 0, 0), (108, .iload_n 1, 1, 0, 0), (109, .iload_n 2, 1, 0, 0), (110, .iload_n 3, 1, 0, 0), (111, .invokevirtual 178, 3, 10, 0), (114, .ladd, 1, 0, 0), (115, .invokestatic 182, 3, 9, 0), (118, .iastore, 1, 0, 0), (119, .aload_n 0, 1, 0, 0), (120, .getfield 24, 3, 0, 6), (123, .iconst 2, 1, 0, 0), (124, .aload_n 0, 1, 0, 0), (125, .aload_n 0, 1, 0, 0), (126, .getfield 24, 3, 0, 6), (129, .iconst 1, 1, 0, 0), (130, .iaload, 1, 0, 0), (131, .aload_n 0, 1, 0, 0), (132, .getfield 41, 3, 0, 2), (135, .iload 5, 2, 0, 0), (137, .iconst 1, 1, 0, 0), (138, .iadd, 1, 0, 0), (139, .iload_n 2, 1, 0, 0), (140, .iload_n 3, 1, 0, 0), (141, .invokevirtual 166, 3, 120, 0), (144, .invokevirtual 186, 3, 11, 0), (147, .iastore, 1, 0, 0), (148, .aload_n 0, 1, 0, 0), (149, .getfield 24, 3, 0, 6), (152, .iconst 3, 1, 0, 0), (153, .aload_n 0, 1, 0, 0), (154, .aload_n 0, 1, 0, 0), (155, .getfield 24, 3, 0, 6), (158, .iconst 2, 1, 0, 0), (159, .iaload, 1, 0, 0), (160, .aload_n 0, 1, 0, 0), (161, .getfield 41, 3, 0, 2), (164, .iload 5, 2, 0, 0), (166, .iconst 2, 1, 0, 0), (167, .iadd, 1, 0, 0), (168, .iload_n 2, 1, 0, 0)]
def zI8_1 : List aI := [(169, .iload_n 3, 1, 0, 0), (170, .invokevirtual 166, 3, 120, 0), (173, .invokevirtual 189, 3, 12, 0), (176, .iastore, 1, 0, 0), (177, .aload_n 0, 1, 0, 0), (178, .getfield 24, 3, 0, 6), (181, .iconst 4, 1, 0, 0), (182, .aload_n 0, 1, 0, 0), (183, .aload_n 0, 1, 0, 0), (184, .getfield 24, 3, 0, 6), (187, .iconst 3, 1, 0, 0), (188, .iaload, 1, 0, 0), (189, .aload_n 0, 1, 0, 0), (190, .getfield 41, 3, 0, 2), (193, .iload 5, 2, 0, 0), (195, .iconst 3, 1, 0, 0), (196, .iadd, 1, 0, 0), (197, .iload_n 2, 1, 0, 0), (198, .iload_n 3, 1, 0, 0), (199, .invokevirtual 166, 3, 120, 0), (202, .invokevirtual 192, 3, 13, 0), (205, .iastore, 1, 0, 0), (206, .aload_n 0, 1, 0, 0), (207, .getfield 24, 3, 0, 6), (210, .iconst 5, 1, 0, 0), (211, .aload_n 0, 1, 0, 0), (212, .getfield 24, 3, 0, 6), (215, .iconst 4, 1, 0, 0), (216, .iaload, 1, 0, 0), (217, .aload_n 0, 1, 0, 0), (218, .getfield 24, 3, 0, 6), (221, .iconst 4, 1, 0, 0), (222, .iaload, 1, 0, 0), (223, .i2l, 1, 0, 0), (224, .bipush 100, 2, 0, 0), (226, .aload_n 0, 1, 0, 0), (227, .getfield 17, 3, 0, 4), (230, .bipush 7, 2, 0, 0), (232, .iaload, 1, 0, 0), (233, .invokestatic 171, 3, 1011, 0), (236, .i2l, 1, 0, 0), (237, .lmul, 1, 0, 0), (238, .ldc2_w 195, 3, 100, 0), (241, .ldiv, 1, 0, 0), (242, .l2i, 1, 0, 0), (243, .isub, 1, 0, 0), (244, .iastore, 1, 0, 0), (245, .aload_n 0, 1, 0, 0), (246, .getfield 24, 3, 0, 6), (249, .iconst 5, 1, 0, 0), (250, .iaload, 1, 0, 0), (251, .ireturn, 1, 0, 0)]
def zI8 : List aI := zI8_0 ++ (zI8_1)
def zM8 : aM := (0, ⟨"AcresPaid$Accounts", "pay", "(IIII)I"⟩, prog_2_method_9_code, 10, (Option.some .int), 4, 0, zI8)
def zI9 : List aI := [(0, .lconst 0, 1, 0, 0), (1, .ldc2_w 197, 3, 2000000000, 0), (4, .lload_n 0, 1, 0, 0), (5, .invokestatic 199, 3, 1014, 0), (8, .invokestatic 202, 3, 1013, 0), (11, .l2i, 1, 0, 0), (12, .ireturn, 1, 0, 0)]
def zM9 : aM := (0, ⟨"AcresPaid$Accounts", "held", "(J)I"⟩, prog_2_method_10_code, 2, (Option.some .int), 1, 1, zI9)
def zI10 : List aI := [(0, .lconst 0, 1, 0, 0), (1, .lstore 5, 2, 0, 0), (3, .iload_n 1, 1, 0, 0), (4, .istore 7, 2, 0, 0), (6, .iconst 0, 1, 0, 0), (7, .istore 8, 2, 0, 0), (9, .iload 8, 2, 0, 0), (11, .aload_n 0, 1, 0, 0), (12, .getfield 33, 3, 0, 0), (15, .getfield 146, 3, 6, 4), (18, .if_icmp .ge 75, 3, 93, 0), (21, .iload 7, 2, 0, 0), (23, .ifCond .le 70, 3, 93, 0), (26, .aload_n 0, 1, 0, 0), (27, .getfield 33, 3, 0, 0), (30, .getfield 149, 3, 6, 11), (33, .iload 8, 2, 0, 0), (35, .iaload, 1, 0, 0), (36, .istore 9, 2, 0, 0), (38, .aload_n 0, 1, 0, 0), (39, .iload_n 2, 1, 0, 0), (40, .iload 9, 2, 0, 0), (42, .iload_n 3, 1, 0, 0), (43, .iload 4, 2, 0, 0), (45, .invokevirtual 152, 3, 7, 0), (48, .ifCond .eq 39, 3, 87, 0), (51, .iload 7, 2, 0, 0), (53, .bipush 10, 2, 0, 0), (55, .invokestatic 171, 3, 1011, 0), (58, .istore 10, 2, 0, 0), (60, .lload 5, 2, 0, 0), (62, .iload 10, 2, 0, 0), (64, .i2l, 1, 0, 0), (65, .aload_n 0, 1, 0, 0), (66, .getfield 33, 3, 0, 0), (69, .getfield 163, 3, 6, 8), (72, .iload 9, 2, 0, 0), (74, .iaload, 1, 0, 0), (75, .i2l, 1, 0, 0), (76, .lmul, 1, 0, 0), (77, .ladd, 1, 0, 0), (78, .lstore 5, 2, 0, 0), (80, .iload 7, 2, 0, 0), (82, .iload 10, 2, 0, 0), (84, .isub, 1, 0, 0), (85, .istore 7, 2, 0, 0), (87, .iinc 8 1, 3, 0, 0), (90, .goto (-81), 3, 9, 0), (93, .lload 5, 2, 0, 0), (95, .lreturn, 1, 0, 0)]
def zM10 : aM := (0, ⟨"AcresPaid$Accounts", "valueOf", "(IIII)J"⟩, prog_2_method_11_code, 11, (Option.some .long), 4, 0, zI10)
def zI11 : List aI := [(0, .iload_n 2, 1, 0, 0), (1, .iconst (-1), 1, 0, 0), (2, .if_icmp .eq 18, 3, 20, 0), (5, .aload_n 0, 1, 0, 0), (6, .getfield 41, 3, 0, 2), (9, .iload_n 2, 1, 0, 0), (10, .aload_n 0, 1, 0, 0), (11, .getfield 17, 3, 0, 4), (14, .invokevirtual 174, 3, 121, 0), (17, .ifCond .eq 7, 3, 24, 0), (20, .iconst 1, 1, 0, 0), (21, .goto 4, 3, 25, 0), (24, .iconst 0, 1, 0, 0), (25, .istore_n 3, 1, 0, 0), (26, .iload_n 3, 1, 0, 0), (27, .ifCond .eq 22, 3, 49, 0), (30, .iload_n 1, 1, 0, 0), (31, .i2l, 1, 0, 0), (32, .iload_n 1, 1, 0, 0), (33, .i2l, 1, 0, 0), (34, .ldc2_w 204, 3, 3, 0), (37, .lmul, 1, 0, 0), (38, .ldc2_w 206, 3, 10, 0), (41, .ldiv, 1, 0, 0), (42, .ladd, 1, 0, 0), (43, .invokestatic 182, 3, 9, 0), (46, .goto 4, 3, 50, 0), (49, .iload_n 1, 1, 0, 0), (50, .ireturn, 1, 0, 0)]
def zM11 : aM := (0, ⟨"AcresPaid$Accounts", "greened", "(II)I"⟩, prog_2_method_12_code, 4, (Option.some .int), 2, 0, zI11)
def zI12 : List aI := [(0, .iload_n 2, 1, 0, 0), (1, .iconst (-1), 1, 0, 0), (2, .if_icmp .ne 5, 3, 7, 0), (5, .iload_n 1, 1, 0, 0), (6, .ireturn, 1, 0, 0), (7, .aload_n 0, 1, 0, 0), (8, .getfield 17, 3, 0, 4), (11, .bipush 10, 2, 0, 0), (13, .iload_n 1, 1, 0, 0), (14, .iastore, 1, 0, 0), (15, .aload_n 0, 1, 0, 0), (16, .getfield 41, 3, 0, 2), (19, .iload_n 2, 1, 0, 0), (20, .aload_n 0, 1, 0, 0), (21, .getfield 17, 3, 0, 4), (24, .invokevirtual 174, 3, 121, 0), (27, .istore_n 3, 1, 0, 0), (28, .aload_n 0, 1, 0, 0), (29, .getfield 17, 3, 0, 4), (32, .bipush 10, 2, 0, 0), (34, .iconst 0, 1, 0, 0), (35, .iastore, 1, 0, 0), (36, .iconst 0, 1, 0, 0), (37, .iload_n 1, 1, 0, 0), (38, .iload_n 3, 1, 0, 0), (39, .invokestatic 171, 3, 1011, 0), (42, .invokestatic 140, 3, 1010, 0), (45, .ireturn, 1, 0, 0)]
def zM12 : aM := (0, ⟨"AcresPaid$Accounts", "stepped", "(II)I"⟩, prog_2_method_13_code, 4, (Option.some .int), 2, 0, zI12)
def zI13 : List aI := [(0, .aload_n 0, 1, 0, 0), (1, .iconst (-1), 1, 0, 0), (2, .putfield 208, 3, 0, 7), (5, .iload_n 2, 1, 0, 0), (6, .iconst (-1), 1, 0, 0), (7, .if_icmp .ne 5, 3, 12, 0), (10, .iload_n 1, 1, 0, 0), (11, .ireturn, 1, 0, 0), (12, .iconst 0, 1, 0, 0), (13, .bipush 100, 2, 0, 0), (15, .aload_n 0, 1, 0, 0), (16, .getfield 41, 3, 0, 2), (19, .iload_n 2, 1, 0, 0), (20, .aload_n 0, 1, 0, 0), (21, .getfield 17, 3, 0, 4), (24, .invokevirtual 174, 3, 121, 0), (27, .invokestatic 171, 3, 1011, 0), (30, .invokestatic 140, 3, 1010, 0), (33, .istore_n 3, 1, 0, 0), (34, .aload_n 0, 1, 0, 0), (35, .aload_n 0, 1, 0, 0), (36, .getfield 41, 3, 0, 2), (39, .getfield 211, 3, 10, 14), (42, .putfield 208, 3, 0, 7), (45, .aload_n 0, 1, 0, 0), (46, .getfield 17, 3, 0, 4), (49, .bipush 11, 2, 0, 0), (51, .iaload, 1, 0, 0), (52, .iconst 1, 1, 0, 0), (53, .if_icmp .ne 5, 3, 58, 0), (56, .iload_n 1, 1, 0, 0), (57, .ireturn, 1, 0, 0), (58, .iload_n 1, 1, 0, 0), (59, .iload_n 1, 1, 0, 0), (60, .i2l, 1, 0, 0), (61, .iload_n 3, 1, 0, 0), (62, .i2l, 1, 0, 0), (63, .lmul, 1, 0, 0), (64, .ldc2_w 214, 3, 99, 0), (67, .ladd, 1, 0, 0), (68, .ldc2_w 195, 3, 100, 0), (71, .ldiv, 1, 0, 0), (72, .l2i, 1, 0, 0), (73, .isub, 1, 0, 0), (74, .ireturn, 1, 0, 0)]
def zM13 : aM := (0, ⟨"AcresPaid$Accounts", "fined", "(II)I"⟩, prog_2_method_14_code, 4, (Option.some .int), 2, 0, zI13)
def zI14 : List aI := [(0, .aload_n 0, 1, 0, 0), (1, .iload_n 1, 1, 0, 0), (2, .iload_n 2, 1, 0, 0), (3, .aload_n 0, 1, 0, 0), (4, .getfield 33, 3, 0, 0), (7, .getfield 216, 3, 6, 0), (10, .iconst (-1), 1, 0, 0), (11, .invokevirtual 219, 3, 8, 0), (14, .istore_n 3, 1, 0, 0), (15, .aload_n 0, 1, 0, 0), (16, .getfield 27, 3, 0, 8), (19, .iload_n 1, 1, 0, 0), (20, .bipush 10, 2, 0, 0), (22, .imul, 1, 0, 0), (23, .iload_n 2, 1, 0, 0), (24, .iadd, 1, 0, 0), (25, .iload_n 3, 1, 0, 0), (26, .iastore, 1, 0, 0), (27, .iload_n 3, 1, 0, 0), (28, .ireturn, 1, 0, 0)]
def zM14 : aM := (0, ⟨"AcresPaid$Accounts", "keepSettled", "(II)I"⟩, prog_2_method_15_code, 4, (Option.some .int), 2, 0, zI14)
def zI15 : List aI := [(0, .lconst 0, 1, 0, 0), (1, .lstore_n 2, 1, 0, 0), (2, .aload_n 0, 1, 0, 0), (3, .getfield 33, 3, 0, 0), (6, .getfield 216, 3, 6, 0), (9, .sipush 365, 3, 0, 0), (12, .idiv, 1, 0, 0), (13, .istore 4, 2, 0, 0), (15, .iconst 0, 1, 0, 0), (16, .istore 5, 2, 0, 0), (18, .iload 5, 2, 0, 0), (20, .iload 4, 2, 0, 0), (22, .if_icmp .ge 48, 3, 70, 0), (25, .iload 5, 2, 0, 0), (27, .bipush 10, 2, 0, 0), (29, .if_icmp .ge 41, 3, 70, 0), (32, .lload_n 2, 1, 0, 0), (33, .aload_n 0, 1, 0, 0), (34, .iload_n 1, 1, 0, 0), (35, .iload 5, 2, 0, 0), (37, .aload_n 0, 1, 0, 0), (38, .getfield 33, 3, 0, 0), (41, .getfield 216, 3, 6, 0), (44, .iconst (-1), 1, 0, 0), (45, .invokevirtual 219, 3, 8, 0), (48, .aload_n 0, 1, 0, 0), (49, .getfield 27, 3, 0, 8), (52, .iload_n 1, 1, 0, 0), (53, .bipush 10, 2, 0, 0), (55, .imul, 1, 0, 0), (56, .iload 5, 2, 0, 0), (58, .iadd, 1, 0, 0), (59, .iaload, 1, 0, 0), (60, .isub, 1, 0, 0), (61, .i2l, 1, 0, 0), (62, .ladd, 1, 0, 0), (63, .lstore_n 2, 1, 0, 0), (64, .iinc 5 1, 3, 0, 0), (67, .goto (-49), 3, 18, 0), (70, .ldc2_w 223, 3, 18446744071709551617, 0), (73, .ldc2_w 197, 3, 2000000000, 0), (76, .lload_n 2, 1, 0, 0), (77, .invokestatic 199, 3, 1014, 0), (80, .invokestatic 202, 3, 1013, 0), (83, .l2i, 1, 0, 0), (84, .ireturn, 1, 0, 0)]
def zM15 : aM := (0, ⟨"AcresPaid$Accounts", "owedFor", "(I)I"⟩, prog_2_method_16_code, 6, (Option.some .int), 1, 0, zI15)
def zI16 : List aI := [(0, .aload_n 0, 1, 0, 0), (1, .getfield 33, 3, 0, 0), (4, .getfield 163, 3, 6, 8), (7, .iload_n 1, 1, 0, 0), (8, .iaload, 1, 0, 0), (9, .istore 4, 2, 0, 0), (11, .lconst 0, 1, 0, 0), (12, .lstore 5, 2, 0, 0), (14, .iconst 0, 1, 0, 0), (15, .istore 7, 2, 0, 0), (17, .iload 7, 2, 0, 0), (19, .aload_n 0, 1, 0, 0), (20, .getfield 33, 3, 0, 0), (23, .getfield 45, 3, 6, 1), (26, .if_icmp .ge 62, 3, 88, 0), (29, .aload_n 0, 1, 0, 0), (30, .getfield 30, 3, 0, 9), (33, .iload 7, 2, 0, 0), (35, .aload_n 0, 1, 0, 0), (36, .getfield 33, 3, 0, 0), (39, .iload 7, 2, 0, 0), (41, .iload 4, 2, 0, 0), (43, .invokevirtual 225, 3, 76, 0), (46, .ifCond .eq 21, 3, 67, 0), (49, .aload_n 0, 1, 0, 0), (50, .iload 7, 2, 0, 0), (52, .iload_n 2, 1, 0, 0), (53, .aload_n 0, 1, 0, 0), (54, .getfield 33, 3, 0, 0), (57, .getfield 216, 3, 6, 0), (60, .iconst (-1), 1, 0, 0), (61, .invokevirtual 219, 3, 8, 0), (64, .goto 4, 3, 68, 0), (67, .iconst 0, 1, 0, 0), (68, .iastore, 1, 0, 0), (69, .lload 5, 2, 0, 0), (71, .aload_n 0, 1, 0, 0), (72, .getfield 30, 3, 0, 9), (75, .iload 7, 2, 0, 0), (77, .iaload, 1, 0, 0), (78, .i2l, 1, 0, 0), (79, .ladd, 1, 0, 0), (80, .lstore 5, 2, 0, 0), (82, .iinc 7 1, 3, 0, 0), (85, .goto (-68), 3, 17, 0), (88, .lload 5, 2, 0, 0), (90, .iload_n 3, 1, 0, 0), (91, .i2l, 1, 0, 0), (92, .lcmp, 1, 0, 0), (93, .ifCond .le 10, 3, 103, 0), (96, .lload 5, 2, 0, 0), (98, .lconst 0, 1, 0, 0), (99, .lcmp, 1, 0, 0), (100, .ifCond .gt 10, 3, 110, 0), (103, .aload_n 0, 1, 0, 0), (104, .getfield 30, 3, 0, 9), (107, .iload_n 1, 1, 0, 0), (108, .iaload, 1, 0, 0), (109, .ireturn, 1, 0, 0), (110, .aload_n 0, 1, 0, 0), (111, .iload_n 1, 1, 0, 0), (112, .iload_n 3, 1, 0, 0), (113, .i2l, 1, 0, 0), (114, .lload 5, 2, 0, 0), (116, .invokevirtual 229, 3, 17, 0), (119, .ireturn, 1, 0, 0)]
def zM16 : aM := (0, ⟨"AcresPaid$Accounts", "shareOf", "(III)I"⟩, prog_2_method_17_code, 8, (Option.some .int), 3, 0, zI16)
def zI17 : List aI := [(0, .lload_n 2, 1, 0, 0), (1, .aload_n 0, 1, 0, 0), (2, .getfield 30, 3, 0, 9), (5, .iload_n 1, 1, 0, 0), (6, .iaload, 1, 0, 0), (7, .i2l, 1, 0, 0), (8, .lmul, 1, 0, 0), (9, .lload 4, 2, 0, 0), (11, .lrem, 1, 0, 0), (12, .lstore 6, 2, 0, 0), (14, .lload_n 2, 1, 0, 0), (15, .lstore 8, 2, 0, 0), (17, .iconst 0, 1, 0, 0), (18, .istore 10, 2, 0, 0), (20, .iconst 0, 1, 0, 0), (21, .istore 11, 2, 0, 0), (23, .iload 11, 2, 0, 0), (25, .aload_n 0, 1, 0, 0), (26, .getfield 33, 3, 0, 0), (29, .getfield 45, 3, 6, 1), (32, .if_icmp .ge 74, 3, 106, 0), (35, .lload_n 2, 1, 0, 0), (36, .aload_n 0, 1, 0, 0), (37, .getfield 30, 3, 0, 9), (40, .iload 11, 2, 0, 0), (42, .iaload, 1, 0, 0), (43, .i2l, 1, 0, 0), (44, .lmul, 1, 0, 0), (45, .lload 4, 2, 0, 0), (47, .lrem, 1, 0, 0), (48, .lstore 12, 2, 0, 0), (50, .lload 8, 2, 0, 0), (52, .lload_n 2, 1, 0, 0), (53, .aload_n 0, 1, 0, 0), (54, .getfield 30, 3, 0, 9), (57, .iload 11, 2, 0, 0), (59, .iaload, 1, 0, 0), (60, .i2l, 1, 0, 0), (61, .lmul, 1, 0, 0), (62, .lload 4, 2, 0, 0), (64, .ldiv, 1, 0, 0), (65, .lsub, 1, 0, 0), (66, .lstore 8, 2, 0, 0), (68, .iload 10, 2, 0, 0), (70, .lload 12, 2, 0, 0), (72, .lload 6, 2, 0, 0), (74, .lcmp, 1, 0, 0), (75, .ifCond .gt 17, 3, 92, 0), (78, .lload 12, 2, 0, 0), (80, .lload 6, 2, 0, 0), (82, .lcmp, 1, 0, 0), (83, .ifCond .ne 13, 3, 96, 0), (86, .iload 11, 2, 0, 0), (88, .iload_n 1, 1, 0, 0), (89, .if_icmp .ge 7, 3, 96, 0), (92, .iconst 1, 1, 0, 0), (93, .goto 4, 3, 97, 0), (96, .iconst 0, 1, 0, 0), (97, .iadd, 1, 0, 0), (98, .istore 10, 2, 0, 0), (100, .iinc 11 1, 3, 0, 0), (103, .goto (-80), 3, 23, 0), (106, .lload_n 2, 1, 0, 0), (107, .aload_n 0, 1, 0, 0), (108, .getfield 30, 3, 0, 9), (111, .iload_n 1, 1, 0, 0), (112, .iaload, 1, 0, 0), (113, .i2l, 1, 0, 0), (114, .lmul, 1, 0, 0), (115, .lload 4, 2, 0, 0), (117, .ldiv, 1, 0, 0), (118, .l2i, 1, 0, 0), (119, .iload 10, 2, 0, 0), (121, .i2l, 1, 0, 0), (122, .lload 8, 2, 0, 0), (124, .lcmp, 1, 0, 0), (125, .ifCond .ge 7, 3, 132, 0), (128, .iconst 1, 1, 0, 0), (129, .goto 4, 3, 133, 0), (132, .iconst 0, 1, 0, 0), (133, .iadd, 1, 0, 0), (134, .ireturn, 1, 0, 0)]
def zM17 : aM := (0, ⟨"AcresPaid$Accounts", "partOf", "(IJJ)I"⟩, prog_2_method_18_code, 14, (Option.some .int), 3, 0, zI17)
def zI18 : List aI := [(0, .iconst 0, 1, 0, 0), (1, .istore 5, 2, 0, 0), (3, .iconst 0, 1, 0, 0), (4, .istore 6, 2, 0, 0), (6, .iload 6, 2, 0, 0), (8, .aload_n 0, 1, 0, 0), (9, .getfield 33, 3, 0, 0), (12, .getfield 45, 3, 6, 1), (15, .if_icmp .ge 88, 3, 103, 0), (18, .aload_n 0, 1, 0, 0), (19, .getfield 33, 3, 0, 0), (22, .iload 6, 2, 0, 0), (24, .iload_n 2, 1, 0, 0), (25, .invokevirtual 225, 3, 76, 0), (28, .ifCond .eq 69, 3, 97, 0), (31, .aload_n 0, 1, 0, 0), (32, .iload 6, 2, 0, 0), (34, .iload_n 3, 1, 0, 0), (35, .aload_n 0, 1, 0, 0), (36, .getfield 33, 3, 0, 0), (39, .getfield 216, 3, 6, 0), (42, .iconst (-1), 1, 0, 0), (43, .invokevirtual 219, 3, 8, 0), (46, .istore 7, 2, 0, 0), (48, .aload_n 0, 1, 0, 0), (49, .iload 6, 2, 0, 0), (51, .iload_n 3, 1, 0, 0), (52, .aload_n 0, 1, 0, 0), (53, .getfield 33, 3, 0, 0), (56, .getfield 216, 3, 6, 0), (59, .iload_n 1, 1, 0, 0), (60, .invokevirtual 219, 3, 8, 0), (63, .istore 8, 2, 0, 0), (65, .iload 5, 2, 0, 0), (67, .iload 4, 2, 0, 0), (69, .ifCond .eq 13, 3, 82, 0), (72, .iload 8, 2, 0, 0), (74, .iload 7, 2, 0, 0), (76, .if_icmp .le 17, 3, 93, 0), (79, .goto 10, 3, 89, 0), (82, .iload 8, 2, 0, 0), (84, .iload 7, 2, 0, 0), (86, .if_icmp .ge 7, 3, 93, 0), (89, .iconst 1, 1, 0, 0), (90, .goto 4, 3, 94, 0), (93, .iconst 0, 1, 0, 0), (94, .iadd, 1, 0, 0), (95, .istore 5, 2, 0, 0), (97, .iinc 6 1, 3, 0, 0), (100, .goto (-94), 3, 6, 0), (103, .iload 5, 2, 0, 0), (105, .ireturn, 1, 0, 0)]
def zM18 : aM := (0, ⟨"AcresPaid$Accounts", "changedBy", "(IIIZ)I"⟩, prog_2_method_19_code, 9, (Option.some .int), 4, 0, zI18)
def zI19 : List aI := [(0, .aload_n 0, 1, 0, 0), (1, .invokespecial 3, 3, 1000, 0), (4, .aload_n 0, 1, 0, 0), (5, .bipush 24, 2, 0, 0), (7, .newarray .int, 2, 0, 0), (9, .putfield 9, 3, 1, 0), (12, .return_, 1, 0, 0)]
def zM19 : aM := (1, ⟨"AcresPaid$Acts", "<init>", "()V"⟩, prog_3_method_1_code, 1, none, 0, 2, zI19)
def zI20 : List aI := [(0, .aload_n 0, 1, 0, 0), (1, .iconst 0, 1, 0, 0), (2, .putfield 15, 3, 1, 1), (5, .aload_n 0, 1, 0, 0), (6, .iload_n 1, 1, 0, 0), (7, .putfield 19, 3, 1, 2), (10, .aload_n 0, 1, 0, 0), (11, .iload_n 2, 1, 0, 0), (12, .putfield 22, 3, 1, 3), (15, .aload_n 0, 1, 0, 0), (16, .iload_n 3, 1, 0, 0), (17, .putfield 25, 3, 1, 4), (20, .iload 4, 2, 0, 0), (22, .tableswitch 59 0 2 #[26, 37, 48], 26, 0, 0), (48, .aload_n 0, 1, 0, 0), (49, .aload_n 0, 1, 0, 0), (50, .getfield 22, 3, 1, 3), (53, .iload 5, 2, 0, 0), (55, .invokevirtual 28, 3, 22, 0), (58, .ireturn, 1, 0, 0), (59, .aload_n 0, 1, 0, 0), (60, .aload_n 0, 1, 0, 0), (61, .getfield 22, 3, 1, 3), (64, .iload 5, 2, 0, 0), (66, .invokevirtual 32, 3, 23, 0), (69, .ireturn, 1, 0, 0), (70, .aload_n 0, 1, 0, 0), (71, .aload_n 0, 1, 0, 0), (72, .getfield 22, 3, 1, 3), (75, .iload 5, 2, 0, 0), (77, .invokevirtual 35, 3, 24, 0), (80, .ireturn, 1, 0, 0), (81, .aload_n 0, 1, 0, 0), (82, .aload_n 0, 1, 0, 0), (83, .getfield 22, 3, 1, 3), (86, .iload 5, 2, 0, 0), (88, .invokevirtual 38, 3, 25, 0), (91, .ireturn, 1, 0, 0)]
def zM20 : aM := (1, ⟨"AcresPaid$Acts", "run", "(IIIII)I"⟩, prog_3_method_2_code, 6, (Option.some .int), 5, 0, zI20)
def zI21 : List aI := [(0, .aload_n 0, 1, 0, 0), (1, .getfield 15, 3, 1, 1), (4, .bipush 24, 2, 0, 0), (6, .if_icmp .ge 13, 3, 19, 0), (9, .aload_n 0, 1, 0, 0), (10, .getfield 9, 3, 1, 0), (13, .aload_n 0, 1, 0, 0), (14, .getfield 15, 3, 1, 1), (17, .iload_n 1, 1, 0, 0), (18, .iastore, 1, 0, 0), (19, .aload_n 0, 1, 0, 0), (20, .dup, 1, 0, 0), (21, .getfield 15, 3, 1, 1), (24, .iconst 1, 1, 0, 0), (25, .iadd, 1, 0, 0), (26, .putfield 15, 3, 1, 1), (29, .return_, 1, 0, 0)]
def zM21 : aM := (1, ⟨"AcresPaid$Acts", "began", "(I)V"⟩, prog_3_method_3_code, 2, none, 1, 0, zI21)
def zI22 : List aI := [(0, .iload_n 1, 1, 0, 0), (1, .tableswitch 97 1 7 #[43, 90, 61, 97, 97, 97, 75], 43, 0, 0), (44, .aload_n 0, 1, 0, 0), (45, .bipush 20, 2, 0, 0), (47, .invokevirtual 41, 3, 21, 0), (50, .aload_n 0, 1, 0, 0), (51, .iconst 0, 1, 0, 0), (52, .iload_n 2, 1, 0, 0), (53, .invokevirtual 28, 3, 22, 0), (56, .aload_n 0, 1, 0, 0), (57, .getfield 25, 3, 1, 4), (60, .iadd, 1, 0, 0), (61, .ireturn, 1, 0, 0), (62, .aload_n 0, 1, 0, 0), (63, .bipush 40, 2, 0, 0), (65, .invokevirtual 41, 3, 21, 0), (68, .aload_n 0, 1, 0, 0), (69, .iconst 1, 1, 0, 0), (70, .iload_n 2, 1, 0, 0), (71, .invokevirtual 28, 3, 22, 0), (74, .ineg, 1, 0, 0), (75, .ireturn, 1, 0, 0), (76, .aload_n 0, 1, 0, 0), (77, .bipush 80, 2, 0, 0), (79, .invokevirtual 41, 3, 21, 0), (82, .aload_n 0, 1, 0, 0), (83, .iconst 2, 1, 0, 0), (84, .iload_n 2, 1, 0, 0), (85, .invokevirtual 28, 3, 22, 0), (88, .iconst 3, 1, 0, 0), (89, .ixor, 1, 0, 0), (90, .ireturn, 1, 0, 0), (91, .aload_n 0, 1, 0, 0), (92, .iconst 1, 1, 0, 0), (93, .iload_n 2, 1, 0, 0), (94, .invokevirtual 28, 3, 22, 0), (97, .ireturn, 1, 0, 0), (98, .aload_n 0, 1, 0, 0), (99, .iconst 1, 1, 0, 0), (100, .invokevirtual 41, 3, 21, 0), (103, .iload_n 2, 1, 0, 0), (104, .iconst 2, 1, 0, 0), (105, .imul, 1, 0, 0), (106, .aload_n 0, 1, 0, 0), (107, .getfield 19, 3, 1, 2), (110, .isub, 1, 0, 0), (111, .ireturn, 1, 0, 0)]
def zM22 : aM := (1, ⟨"AcresPaid$Acts", "yields", "(II)I"⟩, prog_3_method_4_code, 3, (Option.some .int), 2, 0, zI22)
def zI23 : List aI := [(0, .iload_n 1, 1, 0, 0), (1, .lookupswitch 93 #[(2, 35), (5, 50), (7, 73)], 35, 0, 0), (36, .aload_n 0, 1, 0, 0), (37, .bipush 30, 2, 0, 0), (39, .invokevirtual 41, 3, 21, 0), (42, .aload_n 0, 1, 0, 0), (43, .iconst 1, 1, 0, 0), (44, .iload_n 2, 1, 0, 0), (45, .invokevirtual 32, 3, 23, 0), (48, .iconst 2, 1, 0, 0), (49, .imul, 1, 0, 0), (50, .ireturn, 1, 0, 0), (51, .aload_n 0, 1, 0, 0), (52, .bipush 60, 2, 0, 0), (54, .invokevirtual 41, 3, 21, 0), (57, .aload_n 0, 1, 0, 0), (58, .iconst 4, 1, 0, 0), (59, .iload_n 2, 1, 0, 0), (60, .invokevirtual 32, 3, 23, 0), (63, .aload_n 0, 1, 0, 0), (64, .aload_n 0, 1, 0, 0), (65, .getfield 22, 3, 1, 3), (68, .iconst 2, 1, 0, 0), (69, .invokevirtual 35, 3, 24, 0), (72, .isub, 1, 0, 0), (73, .ireturn, 1, 0, 0), (74, .aload_n 0, 1, 0, 0), (75, .bipush 81, 2, 0, 0), (77, .invokevirtual 41, 3, 21, 0), (80, .aload_n 0, 1, 0, 0), (81, .iconst 2, 1, 0, 0), (82, .iload_n 2, 1, 0, 0), (83, .invokevirtual 32, 3, 23, 0), (86, .aload_n 0, 1, 0, 0), (87, .iconst 2, 1, 0, 0), (88, .iload_n 2, 1, 0, 0), (89, .invokevirtual 28, 3, 22, 0), (92, .iadd, 1, 0, 0), (93, .ireturn, 1, 0, 0), (94, .aload_n 0, 1, 0, 0), (95, .bipush 10, 2, 0, 0), (97, .invokevirtual 41, 3, 21, 0), (100, .aload_n 0, 1, 0, 0), (101, .aload_n 0, 1, 0, 0), (102, .getfield 22, 3, 1, 3), (105, .iload_n 2, 1, 0, 0), (106, .invokevirtual 28, 3, 22, 0), (109, .iconst 1, 1, 0, 0), (110, .iadd, 1, 0, 0), (111, .ireturn, 1, 0, 0)]
def zM23 : aM := (1, ⟨"AcresPaid$Acts", "claims", "(II)I"⟩, prog_3_method_5_code, 3, (Option.some .int), 2, 0, zI23)
def zI24 : List aI := [(0, .iload_n 1, 1, 0, 0), (1, .lookupswitch 45 #[(4, 27), (5, 27)], 27, 0, 0), (28, .aload_n 0, 1, 0, 0), (29, .bipush 50, 2, 0, 0), (31, .invokevirtual 41, 3, 21, 0), (34, .aload_n 0, 1, 0, 0), (35, .iconst 0, 1, 0, 0), (36, .iload_n 2, 1, 0, 0), (37, .invokevirtual 35, 3, 24, 0), (40, .aload_n 0, 1, 0, 0), (41, .getfield 25, 3, 1, 4), (44, .iadd, 1, 0, 0), (45, .ireturn, 1, 0, 0), (46, .aload_n 0, 1, 0, 0), (47, .bipush 11, 2, 0, 0), (49, .invokevirtual 41, 3, 21, 0), (52, .iload_n 2, 1, 0, 0), (53, .aload_n 0, 1, 0, 0), (54, .getfield 19, 3, 1, 2), (57, .ixor, 1, 0, 0), (58, .ireturn, 1, 0, 0)]
def zM24 : aM := (1, ⟨"AcresPaid$Acts", "holds", "(II)I"⟩, prog_3_method_6_code, 3, (Option.some .int), 2, 0, zI24)
def zI25 : List aI := [(0, .iload_n 1, 1, 0, 0), (1, .lookupswitch 65 #[(3, 27), (6, 50)], 27, 0, 0), (28, .aload_n 0, 1, 0, 0), (29, .bipush 41, 2, 0, 0), (31, .invokevirtual 41, 3, 21, 0), (34, .aload_n 0, 1, 0, 0), (35, .iconst 1, 1, 0, 0), (36, .iload_n 2, 1, 0, 0), (37, .invokevirtual 38, 3, 25, 0), (40, .aload_n 0, 1, 0, 0), (41, .aload_n 0, 1, 0, 0), (42, .getfield 22, 3, 1, 3), (45, .iconst 1, 1, 0, 0), (46, .invokevirtual 28, 3, 22, 0), (49, .iadd, 1, 0, 0), (50, .ireturn, 1, 0, 0), (51, .aload_n 0, 1, 0, 0), (52, .bipush 70, 2, 0, 0), (54, .invokevirtual 41, 3, 21, 0), (57, .aload_n 0, 1, 0, 0), (58, .iconst 0, 1, 0, 0), (59, .iload_n 2, 1, 0, 0), (60, .iconst 1, 1, 0, 0), (61, .iadd, 1, 0, 0), (62, .invokevirtual 38, 3, 25, 0), (65, .ireturn, 1, 0, 0), (66, .aload_n 0, 1, 0, 0), (67, .iconst 2, 1, 0, 0), (68, .invokevirtual 41, 3, 21, 0), (71, .aload_n 0, 1, 0, 0), (72, .aload_n 0, 1, 0, 0), (73, .getfield 22, 3, 1, 3), (76, .aload_n 0, 1, 0, 0), (77, .aload_n 0, 1, 0, 0), (78, .getfield 22, 3, 1, 3), (81, .iload_n 2, 1, 0, 0), (82, .invokevirtual 32, 3, 23, 0), (85, .invokevirtual 35, 3, 24, 0), (88, .ireturn, 1, 0, 0)]
def zM25 : aM := (1, ⟨"AcresPaid$Acts", "tells", "(II)I"⟩, prog_3_method_7_code, 3, (Option.some .int), 2, 0, zI25)
def zI26 : List aI := [(0, .aload_n 0, 1, 0, 0), (1, .invokespecial 3, 3, 1000, 0), (4, .aload_n 0, 1, 0, 0), (5, .sipush 300, 3, 0, 0), (8, .newarray .int, 2, 0, 0), (10, .putfield 9, 3, 2, 4), (13, .aload_n 0, 1, 0, 0), (14, .sipush 300, 3, 0, 0), (17, .newarray .int, 2, 0, 0), (19, .putfield 15, 3, 2, 5), (22, .aload_n 0, 1, 0, 0), (23, .sipush 300, 3, 0, 0), (26, .newarray .int, 2, 0, 0), (28, .putfield 18, 3, 2, 6), (31, .aload_n 0, 1, 0, 0), (32, .sipush 300, 3, 0, 0), (35, .newarray .int, 2, 0, 0), (37, .putfield 21, 3, 2, 7), (40, .aload_n 0, 1, 0, 0), (41, .sipush 300, 3, 0, 0), (44, .newarray .int, 2, 0, 0), (46, .putfield 24, 3, 2, 8), (49, .aload_n 0, 1, 0, 0), (50, .iconst 4, 1, 0, 0), (51, .newarray .int, 2, 0, 0), (53, .dup, 1, 0, 0), (54, .iconst 0, 1, 0, 0), (55, .sipush 135, 3, 0, 0), (58, .iastore, 1, 0, 0), (59, .dup, 1, 0, 0), (60, .iconst 1, 1, 0, 0), (61, .sipush 135, 3, 0, 0), (64, .iastore, 1, 0, 0), (65, .dup, 1, 0, 0), (66, .iconst 2, 1, 0, 0), (67, .sipush 135, 3, 0, 0), (70, .iastore, 1, 0, 0), (71, .dup, 1, 0, 0), (72, .iconst 3, 1, 0, 0), (73, .sipush 135, 3, 0, 0), (76, .iastore, 1, 0, 0), (77, .putfield 27, 3, 2, 9), (80, .aload_n 0, 1, 0, 0), (81, .bipush 40, 2, 0, 0), (83, .newarray .int, 2, 0, 0), (85, .putfield 30, 3, 2, 10), (88, .aload_n 0, 1, 0, 0), (89, .bipush 40, 2, 0, 0), (91, .newarray .int, 2, 0, 0), (93, .putfield 33, 3, 2, 11), (96, .aload_n 0, 1, 0, 0), (97, .bipush 40, 2, 0, 0), (99, .newarray .int, 2, 0, 0), (101, .putfield 36, 3, 2, 12), (104, .aload_n 0, 1, 0, 0), (105, .bipush 40, 2, 0, 0), (107, .newarray .int, 2, 0, 0), (109, .putfield 39, 3, 2, 13), (112, .aload_n 0, 1, 0, 0), (113, .sipush 200, 3, 0, 0), (116, .newarray .int, 2, 0, 0), (118, .putfield 42, 3, 2, 14), (121, .aload_n 0, 1, 0, 0), (122, .sipush 200, 3, 0, 0), (125, .newarray .int, 2, 0, 0), (127, .putfield 45, 3, 2, 15), (130, .aload_n 0, 1, 0, 0), (131, .sipush 200, 3, 0, 0), (134, .newarray .int, 2, 0, 0), (136, .putfield 48, 3, 2, 16), (139, .aload_n 0, 1, 0, 0), (140, .sipush 200, 3, 0, 0), (143, .newarray .int, 2, 0, 0), (145, .putfield 51, 3, 2, 17), (148, .aload_n 0, 1, 0, 0), (149, .sipush 200, 3, 0, 0), (152, .newarray .int, 2, 0, 0), (154, .putfield 54, 3, 2, 18), (157, .aload_n 0, 1, 0, 0), (158, .sipush 1500, 3, 0, 0), (161, .newarray .int, 2, 0, 0), (163, .putfield 57, 3, 2, 19), (166, .aload_n 0, 1, 0, 0), (167, .aload_n 1, 1, 0, 0), (168, .putfield 60, 3, 2, 0), (171, .return_, 1, 0, 0)]
def zM26 : aM := (2, ⟨"AcresPaid$Claims", "<init>", "(LAcresPaid$Register;)V"⟩, prog_4_method_1_code, 2, none, 1, 2, zI26)
def zI27 : List aI := [(0, .aload_n 0, 1, 0, 0), (1, .getfield 64, 3, 2, 1), (4, .sipush 300, 3, 0, 0), (7, .if_icmp .ge 121, 3, 128, 0), (10, .aload_n 0, 1, 0, 0), (11, .getfield 9, 3, 2, 4), (14, .aload_n 0, 1, 0, 0), (15, .getfield 64, 3, 2, 1), (18, .iload_n 1, 1, 0, 0), (19, .iastore, 1, 0, 0), (20, .aload_n 0, 1, 0, 0), (21, .getfield 15, 3, 2, 5), (24, .aload_n 0, 1, 0, 0), (25, .getfield 64, 3, 2, 1), (28, .iload_n 2, 1, 0, 0), (29, .iastore, 1, 0, 0), (30, .aload_n 0, 1, 0, 0), (31, .getfield 18, 3, 2, 6), (34, .aload_n 0, 1, 0, 0), (35, .getfield 64, 3, 2, 1), (38, .iload_n 3, 1, 0, 0), (39, .iastore, 1, 0, 0), (40, .aload_n 0, 1, 0, 0), (41, .getfield 21, 3, 2, 7), (44, .aload_n 0, 1, 0, 0), (45, .getfield 64, 3, 2, 1), (48, .aload_n 0, 1, 0, 0), (49, .getfield 60, 3, 2, 0), (52, .getfield 68, 3, 6, 0), (55, .iastore, 1, 0, 0), (56, .aload_n 0, 1, 0, 0), (57, .getfield 64, 3, 2, 1), (60, .istore 4, 2, 0, 0), (62, .iload 4, 2, 0, 0), (64, .ifCond .le 43, 3, 107, 0), (67, .aload_n 0, 1, 0, 0), (68, .aload_n 0, 1, 0, 0), (69, .getfield 24, 3, 2, 8), (72, .iload 4, 2, 0, 0), (74, .iconst 1, 1, 0, 0), (75, .isub, 1, 0, 0), (76, .iaload, 1, 0, 0), (77, .iload_n 1, 1, 0, 0), (78, .iload_n 2, 1, 0, 0), (79, .invokevirtual 73, 3, 28, 0), (82, .ifCond .eq 25, 3, 107, 0), (85, .aload_n 0, 1, 0, 0), (86, .getfield 24, 3, 2, 8), (89, .iload 4, 2, 0, 0), (91, .aload_n 0, 1, 0, 0), (92, .getfield 24, 3, 2, 8), (95, .iload 4, 2, 0, 0), (97, .iconst 1, 1, 0, 0), (98, .isub, 1, 0, 0), (99, .iaload, 1, 0, 0), (100, .iastore, 1, 0, 0), (101, .iinc 4 (-1), 3, 0, 0), (104, .goto (-42), 3, 62, 0), (107, .aload_n 0, 1, 0, 0), (108, .getfield 24, 3, 2, 8), (111, .iload 4, 2, 0, 0), (113, .aload_n 0, 1, 0, 0), (114, .getfield 64, 3, 2, 1), (117, .iastore, 1, 0, 0), (118, .aload_n 0, 1, 0, 0), (119, .dup, 1, 0, 0), (120, .getfield 64, 3, 2, 1), (123, .iconst 1, 1, 0, 0), (124, .iadd, 1, 0, 0), (125, .putfield 64, 3, 2, 1), (128, .aload_n 0, 1, 0, 0), (129, .getfield 64, 3, 2, 1), (132, .ireturn, 1, 0, 0)]
def zM27 : aM := (2, ⟨"AcresPaid$Claims", "add", "(III)I"⟩, prog_4_method_2_code, 5, (Option.some .int), 3, 0, zI27)
def zI28 : List aI := [(0, .aload_n 0, 1, 0, 0), (1, .getfield 9, 3, 2, 4), (4, .iload_n 1, 1, 0, 0), (5, .iaload, 1, 0, 0), (6, .iload_n 2, 1, 0, 0), (7, .if_icmp .gt 23, 3, 30, 0), (10, .aload_n 0, 1, 0, 0), (11, .getfield 9, 3, 2, 4), (14, .iload_n 1, 1, 0, 0), (15, .iaload, 1, 0, 0), (16, .iload_n 2, 1, 0, 0), (17, .if_icmp .ne 17, 3, 34, 0), (20, .aload_n 0, 1, 0, 0), (21, .getfield 15, 3, 2, 5), (24, .iload_n 1, 1, 0, 0), (25, .iaload, 1, 0, 0), (26, .iload_n 3, 1, 0, 0), (27, .if_icmp .le 7, 3, 34, 0), (30, .iconst 1, 1, 0, 0), (31, .goto 4, 3, 35, 0), (34, .iconst 0, 1, 0, 0), (35, .ireturn, 1, 0, 0)]
def zM28 : aM := (2, ⟨"AcresPaid$Claims", "isBehind", "(III)Z"⟩, prog_4_method_3_code, 4, (Option.some .boolean), 3, 0, zI28)
def zI29 : List aI := [(0, .aload_n 0, 1, 0, 0), (1, .getfield 24, 3, 2, 8), (4, .iload_n 1, 1, 0, 0), (5, .iaload, 1, 0, 0), (6, .istore 4, 2, 0, 0), (8, .aload_n 0, 1, 0, 0), (9, .getfield 60, 3, 2, 0), (12, .getfield 77, 3, 6, 10), (15, .aload_n 0, 1, 0, 0), (16, .getfield 15, 3, 2, 5), (19, .iload 4, 2, 0, 0), (21, .iaload, 1, 0, 0), (22, .iaload, 1, 0, 0), (23, .istore 5, 2, 0, 0), (25, .aload_n 0, 1, 0, 0), (26, .iload 4, 2, 0, 0), (28, .iload_n 2, 1, 0, 0), (29, .iload_n 3, 1, 0, 0), (30, .invokevirtual 80, 3, 30, 0), (33, .ifCond .eq 15, 3, 48, 0), (36, .iload 5, 2, 0, 0), (38, .iconst (-1), 1, 0, 0), (39, .if_icmp .eq 11, 3, 50, 0), (42, .iload 5, 2, 0, 0), (44, .iload_n 3, 1, 0, 0), (45, .if_icmp .gt 5, 3, 50, 0), (48, .iconst 0, 1, 0, 0), (49, .ireturn, 1, 0, 0), (50, .iload_n 1, 1, 0, 0), (51, .iconst 1, 1, 0, 0), (52, .iadd, 1, 0, 0), (53, .aload_n 0, 1, 0, 0), (54, .getfield 64, 3, 2, 1), (57, .if_icmp .lt 5, 3, 62, 0), (60, .iconst 1, 1, 0, 0), (61, .ireturn, 1, 0, 0), (62, .aload_n 0, 1, 0, 0), (63, .getfield 24, 3, 2, 8), (66, .iload_n 1, 1, 0, 0), (67, .iconst 1, 1, 0, 0), (68, .iadd, 1, 0, 0), (69, .iaload, 1, 0, 0), (70, .istore 6, 2, 0, 0), (72, .aload_n 0, 1, 0, 0), (73, .iload 6, 2, 0, 0), (75, .aload_n 0, 1, 0, 0), (76, .getfield 9, 3, 2, 4), (79, .iload 4, 2, 0, 0), (81, .iaload, 1, 0, 0), (82, .aload_n 0, 1, 0, 0), (83, .getfield 15, 3, 2, 5), (86, .iload 4, 2, 0, 0), (88, .iaload, 1, 0, 0), (89, .invokevirtual 73, 3, 28, 0), (92, .ifCond .ne 14, 3, 106, 0), (95, .aload_n 0, 1, 0, 0), (96, .iload 6, 2, 0, 0), (98, .iload_n 2, 1, 0, 0), (99, .iload_n 3, 1, 0, 0), (100, .invokevirtual 80, 3, 30, 0), (103, .ifCond .ne 7, 3, 110, 0), (106, .iconst 1, 1, 0, 0), (107, .goto 4, 3, 111, 0), (110, .iconst 0, 1, 0, 0), (111, .ireturn, 1, 0, 0)]
def zM29 : aM := (2, ⟨"AcresPaid$Claims", "counts", "(III)Z"⟩, prog_4_method_4_code, 7, (Option.some .boolean), 3, 0, zI29)
def zI30 : List aI := [(0, .aload_n 0, 1, 0, 0), (1, .getfield 21, 3, 2, 7), (4, .iload_n 1, 1, 0, 0), (5, .iaload, 1, 0, 0), (6, .sipush 365, 3, 0, 0), (9, .idiv, 1, 0, 0), (10, .iload_n 2, 1, 0, 0), (11, .if_icmp .ne 17, 3, 28, 0), (14, .aload_n 0, 1, 0, 0), (15, .getfield 21, 3, 2, 7), (18, .iload_n 1, 1, 0, 0), (19, .iaload, 1, 0, 0), (20, .iload_n 3, 1, 0, 0), (21, .if_icmp .gt 7, 3, 28, 0), (24, .iconst 1, 1, 0, 0), (25, .goto 4, 3, 29, 0), (28, .iconst 0, 1, 0, 0), (29, .ireturn, 1, 0, 0)]
def zM30 : aM := (2, ⟨"AcresPaid$Claims", "wasMade", "(III)Z"⟩, prog_4_method_5_code, 4, (Option.some .boolean), 3, 0, zI30)
def zI31 : List aI := [(0, .aload_n 0, 1, 0, 0), (1, .getfield 60, 3, 2, 0), (4, .getfield 83, 3, 6, 8), (7, .aload_n 0, 1, 0, 0), (8, .getfield 9, 3, 2, 4), (11, .iload_n 1, 1, 0, 0), (12, .iaload, 1, 0, 0), (13, .iaload, 1, 0, 0), (14, .istore_n 2, 1, 0, 0), (15, .iload_n 2, 1, 0, 0), (16, .invokestatic 86, 3, 140, 0), (19, .ifCond .eq 27, 3, 46, 0), (22, .iconst 0, 1, 0, 0), (23, .aload_n 0, 1, 0, 0), (24, .getfield 21, 3, 2, 7), (27, .iload_n 1, 1, 0, 0), (28, .iaload, 1, 0, 0), (29, .sipush 365, 3, 0, 0), (32, .irem, 1, 0, 0), (33, .aload_n 0, 1, 0, 0), (34, .getfield 27, 3, 2, 9), (37, .iload_n 2, 1, 0, 0), (38, .iaload, 1, 0, 0), (39, .isub, 1, 0, 0), (40, .invokestatic 90, 3, 1010, 0), (43, .goto 4, 3, 47, 0), (46, .iconst 0, 1, 0, 0), (47, .ireturn, 1, 0, 0)]
def zM31 : aM := (2, ⟨"AcresPaid$Claims", "lateness", "(I)I"⟩, prog_4_method_6_code, 3, (Option.some .int), 1, 0, zI31)
def zI32 : List aI := [(0, .aload_n 0, 1, 0, 0), (1, .getfield 96, 3, 2, 2), (4, .bipush 40, 2, 0, 0), (6, .if_icmp .ge 59, 3, 65, 0), (9, .aload_n 0, 1, 0, 0), (10, .getfield 30, 3, 2, 10), (13, .aload_n 0, 1, 0, 0), (14, .getfield 96, 3, 2, 2), (17, .iload_n 1, 1, 0, 0), (18, .iastore, 1, 0, 0), (19, .aload_n 0, 1, 0, 0), (20, .getfield 33, 3, 2, 11), (23, .aload_n 0, 1, 0, 0), (24, .getfield 96, 3, 2, 2), (27, .iload_n 2, 1, 0, 0), (28, .iastore, 1, 0, 0), (29, .aload_n 0, 1, 0, 0), (30, .getfield 36, 3, 2, 12), (33, .aload_n 0, 1, 0, 0), (34, .getfield 96, 3, 2, 2), (37, .iload_n 3, 1, 0, 0), (38, .iastore, 1, 0, 0), (39, .aload_n 0, 1, 0, 0), (40, .getfield 39, 3, 2, 13), (43, .aload_n 0, 1, 0, 0), (44, .getfield 96, 3, 2, 2), (47, .aload_n 0, 1, 0, 0), (48, .getfield 60, 3, 2, 0), (51, .getfield 68, 3, 6, 0), (54, .iastore, 1, 0, 0), (55, .aload_n 0, 1, 0, 0), (56, .dup, 1, 0, 0), (57, .getfield 96, 3, 2, 2), (60, .iconst 1, 1, 0, 0), (61, .iadd, 1, 0, 0), (62, .putfield 96, 3, 2, 2), (65, .aload_n 0, 1, 0, 0), (66, .getfield 96, 3, 2, 2), (69, .ireturn, 1, 0, 0)]
def zM32 : aM := (2, ⟨"AcresPaid$Claims", "addOut", "(III)I"⟩, prog_4_method_7_code, 4, (Option.some .int), 3, 0, zI32)
def zI33 : List aI := [(0, .iconst 0, 1, 0, 0), (1, .istore 4, 2, 0, 0), (3, .iconst 0, 1, 0, 0), (4, .istore 5, 2, 0, 0), (6, .iload 5, 2, 0, 0), (8, .aload_n 0, 1, 0, 0), (9, .getfield 96, 3, 2, 2), (12, .if_icmp .ge 105, 3, 117, 0), (15, .aload_n 0, 1, 0, 0), (16, .getfield 39, 3, 2, 13), (19, .iload 5, 2, 0, 0), (21, .iaload, 1, 0, 0), (22, .iload_n 3, 1, 0, 0), (23, .if_icmp .gt 22, 3, 45, 0), (26, .aload_n 0, 1, 0, 0), (27, .getfield 36, 3, 2, 12), (30, .iload 5, 2, 0, 0), (32, .iaload, 1, 0, 0), (33, .iload_n 2, 1, 0, 0), (34, .sipush 365, 3, 0, 0), (37, .imul, 1, 0, 0), (38, .if_icmp .gt 7, 3, 45, 0), (41, .iconst 1, 1, 0, 0), (42, .goto 4, 3, 46, 0), (45, .iconst 0, 1, 0, 0), (46, .istore 6, 2, 0, 0), (48, .iload 6, 2, 0, 0), (50, .ifCond .eq 61, 3, 111, 0), (53, .aload_n 0, 1, 0, 0), (54, .getfield 30, 3, 2, 10), (57, .iload 5, 2, 0, 0), (59, .iaload, 1, 0, 0), (60, .bipush 100, 2, 0, 0), (62, .irem, 1, 0, 0), (63, .iload_n 1, 1, 0, 0), (64, .if_icmp .gt 47, 3, 111, 0), (67, .iload_n 1, 1, 0, 0), (68, .aload_n 0, 1, 0, 0), (69, .getfield 33, 3, 2, 11), (72, .iload 5, 2, 0, 0), (74, .iaload, 1, 0, 0), (75, .bipush 100, 2, 0, 0), (77, .irem, 1, 0, 0), (78, .if_icmp .gt 33, 3, 111, 0), (81, .iload 4, 2, 0, 0), (83, .iconst 2, 1, 0, 0), (84, .aload_n 0, 1, 0, 0), (85, .getfield 33, 3, 2, 11), (88, .iload 5, 2, 0, 0), (90, .iaload, 1, 0, 0), (91, .bipush 100, 2, 0, 0), (93, .idiv, 1, 0, 0), (94, .ishl, 1, 0, 0), (95, .iconst 1, 1, 0, 0), (96, .aload_n 0, 1, 0, 0), (97, .getfield 30, 3, 2, 10), (100, .iload 5, 2, 0, 0), (102, .iaload, 1, 0, 0), (103, .bipush 100, 2, 0, 0), (105, .idiv, 1, 0, 0), (106, .ishl, 1, 0, 0), (107, .isub, 1, 0, 0), (108, .ior, 1, 0, 0), (109, .istore 4, 2, 0, 0), (111, .iinc 5 1, 3, 0, 0), (114, .goto (-108), 3, 6, 0), (117, .iload 4, 2, 0, 0), (119, .ireturn, 1, 0, 0)]
def zM33 : aM := (2, ⟨"AcresPaid$Claims", "outOfRow", "(III)I"⟩, prog_4_method_8_code, 7, (Option.some .int), 3, 0, zI33)
def zI34 : List aI := [(0, .aload_n 0, 1, 0, 0), (1, .getfield 99, 3, 2, 3), (4, .sipush 200, 3, 0, 0), (7, .if_icmp .ge 70, 3, 77, 0), (10, .aload_n 0, 1, 0, 0), (11, .getfield 42, 3, 2, 14), (14, .aload_n 0, 1, 0, 0), (15, .getfield 99, 3, 2, 3), (18, .iload_n 1, 1, 0, 0), (19, .iastore, 1, 0, 0), (20, .aload_n 0, 1, 0, 0), (21, .getfield 45, 3, 2, 15), (24, .aload_n 0, 1, 0, 0), (25, .getfield 99, 3, 2, 3), (28, .iload_n 2, 1, 0, 0), (29, .iastore, 1, 0, 0), (30, .aload_n 0, 1, 0, 0), (31, .getfield 48, 3, 2, 16), (34, .aload_n 0, 1, 0, 0), (35, .getfield 99, 3, 2, 3), (38, .iload_n 3, 1, 0, 0), (39, .iastore, 1, 0, 0), (40, .aload_n 0, 1, 0, 0), (41, .getfield 51, 3, 2, 17), (44, .aload_n 0, 1, 0, 0), (45, .getfield 99, 3, 2, 3), (48, .iload 4, 2, 0, 0), (50, .iastore, 1, 0, 0), (51, .aload_n 0, 1, 0, 0), (52, .getfield 54, 3, 2, 18), (55, .aload_n 0, 1, 0, 0), (56, .getfield 99, 3, 2, 3), (59, .aload_n 0, 1, 0, 0), (60, .getfield 60, 3, 2, 0), (63, .getfield 68, 3, 6, 0), (66, .iastore, 1, 0, 0), (67, .aload_n 0, 1, 0, 0), (68, .dup, 1, 0, 0), (69, .getfield 99, 3, 2, 3), (72, .iconst 1, 1, 0, 0), (73, .iadd, 1, 0, 0), (74, .putfield 99, 3, 2, 3), (77, .aload_n 0, 1, 0, 0), (78, .getfield 99, 3, 2, 3), (81, .ireturn, 1, 0, 0)]
def zM34 : aM := (2, ⟨"AcresPaid$Claims", "addControl", "(IIII)I"⟩, prog_4_method_9_code, 5, (Option.some .int), 4, 0, zI34)
def zI35 : List aI := [(0, .aload_n 0, 1, 0, 0), (1, .getfield 99, 3, 2, 3), (4, .iconst 1, 1, 0, 0), (5, .isub, 1, 0, 0), (6, .istore 4, 2, 0, 0), (8, .iload 4, 2, 0, 0), (10, .ifCond .lt 83, 3, 93, 0), (13, .aload_n 0, 1, 0, 0), (14, .getfield 42, 3, 2, 14), (17, .iload 4, 2, 0, 0), (19, .iaload, 1, 0, 0), (20, .aload_n 0, 1, 0, 0), (21, .getfield 9, 3, 2, 4), (24, .iload_n 1, 1, 0, 0), (25, .iaload, 1, 0, 0), (26, .if_icmp .ne 23, 3, 49, 0), (29, .aload_n 0, 1, 0, 0), (30, .getfield 45, 3, 2, 15), (33, .iload 4, 2, 0, 0), (35, .iaload, 1, 0, 0), (36, .aload_n 0, 1, 0, 0), (37, .getfield 15, 3, 2, 5), (40, .iload_n 1, 1, 0, 0), (41, .iaload, 1, 0, 0), (42, .if_icmp .ne 7, 3, 49, 0), (45, .iconst 1, 1, 0, 0), (46, .goto 4, 3, 50, 0), (49, .iconst 0, 1, 0, 0), (50, .istore 5, 2, 0, 0), (52, .iload 5, 2, 0, 0), (54, .ifCond .eq 33, 3, 87, 0), (57, .aload_n 0, 1, 0, 0), (58, .getfield 48, 3, 2, 16), (61, .iload 4, 2, 0, 0), (63, .iaload, 1, 0, 0), (64, .iload_n 2, 1, 0, 0), (65, .if_icmp .ne 22, 3, 87, 0), (68, .aload_n 0, 1, 0, 0), (69, .getfield 54, 3, 2, 18), (72, .iload 4, 2, 0, 0), (74, .iaload, 1, 0, 0), (75, .iload_n 3, 1, 0, 0), (76, .if_icmp .gt 11, 3, 87, 0), (79, .aload_n 0, 1, 0, 0), (80, .getfield 51, 3, 2, 17), (83, .iload 4, 2, 0, 0), (85, .iaload, 1, 0, 0), (86, .ireturn, 1, 0, 0), (87, .iinc 4 (-1), 3, 0, 0), (90, .goto (-82), 3, 8, 0), (93, .iconst 0, 1, 0, 0), (94, .ireturn, 1, 0, 0)]
def zM35 : aM := (2, ⟨"AcresPaid$Claims", "missing", "(III)I"⟩, prog_4_method_10_code, 6, (Option.some .int), 3, 0, zI35)
def zI36 : List aI := [(0, .iconst 0, 1, 0, 0), (1, .istore_n 3, 1, 0, 0), (2, .iload_n 3, 1, 0, 0), (3, .aload_n 0, 1, 0, 0), (4, .getfield 99, 3, 2, 3), (7, .if_icmp .ge 31, 3, 38, 0), (10, .aload_n 0, 1, 0, 0), (11, .getfield 42, 3, 2, 14), (14, .iload_n 3, 1, 0, 0), (15, .iaload, 1, 0, 0), (16, .iload_n 1, 1, 0, 0), (17, .if_icmp .ne 15, 3, 32, 0), (20, .aload_n 0, 1, 0, 0), (21, .getfield 48, 3, 2, 16), (24, .iload_n 3, 1, 0, 0), (25, .iaload, 1, 0, 0), (26, .iload_n 2, 1, 0, 0), (27, .if_icmp .ne 5, 3, 32, 0), (30, .iconst 1, 1, 0, 0), (31, .ireturn, 1, 0, 0), (32, .iinc 3 1, 3, 0, 0), (35, .goto (-33), 3, 2, 0), (38, .iconst 0, 1, 0, 0), (39, .ireturn, 1, 0, 0)]
def zM36 : aM := (2, ⟨"AcresPaid$Claims", "isControlled", "(II)Z"⟩, prog_4_method_11_code, 4, (Option.some .boolean), 2, 0, zI36)
def zI37 : List aI := [(0, .iload_n 1, 1, 0, 0), (1, .bipush 10, 2, 0, 0), (3, .imul, 1, 0, 0), (4, .iload_n 2, 1, 0, 0), (5, .iadd, 1, 0, 0), (6, .istore_n 3, 1, 0, 0), (7, .aload_n 0, 1, 0, 0), (8, .getfield 57, 3, 2, 19), (11, .iload_n 3, 1, 0, 0), (12, .iaload, 1, 0, 0), (13, .ifCond .eq 5, 3, 18, 0), (16, .iconst 0, 1, 0, 0), (17, .ireturn, 1, 0, 0), (18, .aload_n 0, 1, 0, 0), (19, .getfield 57, 3, 2, 19), (22, .iload_n 3, 1, 0, 0), (23, .aload_n 0, 1, 0, 0), (24, .getfield 60, 3, 2, 0), (27, .getfield 68, 3, 6, 0), (30, .iconst 1, 1, 0, 0), (31, .iadd, 1, 0, 0), (32, .iastore, 1, 0, 0), (33, .iconst 1, 1, 0, 0), (34, .ireturn, 1, 0, 0)]
def zM37 : aM := (2, ⟨"AcresPaid$Claims", "prove", "(II)Z"⟩, prog_4_method_12_code, 4, (Option.some .boolean), 2, 0, zI37)
def zI38 : List aI := [(0, .aload_n 0, 1, 0, 0), (1, .getfield 57, 3, 2, 19), (4, .iload_n 1, 1, 0, 0), (5, .bipush 10, 2, 0, 0), (7, .imul, 1, 0, 0), (8, .iload_n 2, 1, 0, 0), (9, .iadd, 1, 0, 0), (10, .iaload, 1, 0, 0), (11, .iconst 1, 1, 0, 0), (12, .iload_n 3, 1, 0, 0), (13, .iconst 1, 1, 0, 0), (14, .iadd, 1, 0, 0), (15, .invokestatic 102, 3, 137, 0), (18, .ireturn, 1, 0, 0)]
def zM38 : aM := (2, ⟨"AcresPaid$Claims", "isProved", "(III)Z"⟩, prog_4_method_13_code, 4, (Option.some .boolean), 3, 0, zI38)
def zI39 : List aI := [(0, .aload_n 0, 1, 0, 0), (1, .invokespecial 3, 3, 1000, 0), (4, .aload_n 0, 1, 0, 0), (5, .bipush 48, 2, 0, 0), (7, .newarray .int, 2, 0, 0), (9, .putfield 9, 3, 3, 0), (12, .aload_n 0, 1, 0, 0), (13, .iconst (-1), 1, 0, 0), (14, .putfield 15, 3, 3, 1), (17, .aload_n 0, 1, 0, 0), (18, .sipush 150, 3, 0, 0), (21, .anewarray 19, 3, 5, 0), (24, .putfield 20, 3, 3, 2), (27, .return_, 1, 0, 0)]
def zM39 : aM := (3, ⟨"AcresPaid$Colours", "<init>", "()V"⟩, prog_5_method_1_code, 1, none, 0, 2, zI39)
def zI40 : List aI := [(0, .iload_n 1, 1, 0, 0), (1, .bipush 6, 2, 0, 0), (3, .imul, 1, 0, 0), (4, .iload_n 2, 1, 0, 0), (5, .iadd, 1, 0, 0), (6, .istore 4, 2, 0, 0), (8, .aload_n 0, 1, 0, 0), (9, .getfield 9, 3, 3, 0), (12, .iload 4, 2, 0, 0), (14, .iaload, 1, 0, 0), (15, .istore 5, 2, 0, 0), (17, .aload_n 0, 1, 0, 0), (18, .getfield 9, 3, 3, 0), (21, .iload 4, 2, 0, 0), (23, .iload_n 3, 1, 0, 0), (24, .iastore, 1, 0, 0), (25, .iload 5, 2, 0, 0), (27, .ireturn, 1, 0, 0)]
def zM40 : aM := (3, ⟨"AcresPaid$Colours", "paint", "(III)I"⟩, prog_5_method_2_code, 6, (Option.some .int), 3, 0, zI40)
def zI41 : List aI := [(0, .aload_n 0, 1, 0, 0), (1, .getfield 20, 3, 3, 2), (4, .iload_n 1, 1, 0, 0), (5, .aaload, 1, 0, 0), (6, .astore 6, 2, 0, 0), (8, .aload 6, 2, 0, 0), (10, .ifnonnull 25, 3, 35, 0), (13, .bipush 60, 2, 0, 0), (15, .newarray .int, 2, 0, 0), (17, .astore 6, 2, 0, 0), (19, .aload 6, 2, 0, 0), (21, .sipush 1000, 3, 0, 0), (24, .invokestatic 24, 3, 332, 0), (27, .aload_n 0, 1, 0, 0), (28, .getfield 20, 3, 3, 2), (31, .iload_n 1, 1, 0, 0), (32, .aload 6, 2, 0, 0), (34, .aastore, 1, 0, 0), (35, .iconst 0, 1, 0, 0), (36, .istore 7, 2, 0, 0), (38, .iconst 0, 1, 0, 0), (39, .istore 8, 2, 0, 0), (41, .iconst 0, 1, 0, 0), (42, .istore 9, 2, 0, 0), (44, .iload 9, 2, 0, 0), (46, .bipush 6, 2, 0, 0), (48, .if_icmp .ge 122, 3, 170, 0), (51, .iload 8, 2, 0, 0), (53, .ifCond .ne 19, 3, 72, 0), (56, .aload_n 3, 1, 0, 0), (57, .iload 4, 2, 0, 0), (59, .iload 5, 2, 0, 0), (61, .i2l, 1, 0, 0), (62, .iload 9, 2, 0, 0), (64, .i2l, 1, 0, 0), (65, .ladd, 1, 0, 0), (66, .invokevirtual 30, 3, 111, 0), (69, .ifCond .ne 7, 3, 76, 0), (72, .iconst 1, 1, 0, 0), (73, .goto 4, 3, 77, 0), (76, .iconst 0, 1, 0, 0), (77, .istore 8, 2, 0, 0), (79, .iload 8, 2, 0, 0), (81, .ifCond .eq 10, 3, 91, 0), (84, .aload_n 0, 1, 0, 0), (85, .getfield 15, 3, 3, 1), (88, .goto 15, 3, 103, 0), (91, .aload_n 3, 1, 0, 0), (92, .iload 4, 2, 0, 0), (94, .iload 5, 2, 0, 0), (96, .iload 9, 2, 0, 0), (98, .iadd, 1, 0, 0), (99, .invokevirtual 36, 3, 114, 0), (102, .l2i, 1, 0, 0), (103, .istore 10, 2, 0, 0), (105, .iload 8, 2, 0, 0), (107, .ifCond .ne 16, 3, 123, 0), (110, .iload 10, 2, 0, 0), (112, .aload_n 0, 1, 0, 0), (113, .getfield 15, 3, 3, 1), (116, .if_icmp .eq 7, 3, 123, 0), (119, .iconst 1, 1, 0, 0), (120, .goto 4, 3, 124, 0), (123, .iconst 0, 1, 0, 0), (124, .istore 11, 2, 0, 0), (126, .aload 6, 2, 0, 0), (128, .iload_n 2, 1, 0, 0), (129, .bipush 6, 2, 0, 0), (131, .imul, 1, 0, 0), (132, .iload 9, 2, 0, 0), (134, .iadd, 1, 0, 0), (135, .iload 11, 2, 0, 0), (137, .ifCond .eq 8, 3, 145, 0), (140, .iload 10, 2, 0, 0), (142, .goto 6, 3, 148, 0), (145, .sipush 1000, 3, 0, 0), (148, .iastore, 1, 0, 0), (149, .iload 7, 2, 0, 0), (151, .iload 11, 2, 0, 0), (153, .ifCond .eq 7, 3, 160, 0), (156, .iconst 1, 1, 0, 0), (157, .goto 4, 3, 161, 0), (160, .iconst 0, 1, 0, 0), (161, .iadd, 1, 0, 0), (162, .istore 7, 2, 0, 0), (164, .iinc 9 1, 3, 0, 0), (167, .goto (-123), 3, 44, 0), (170, .iload 7, 2, 0, 0), (172, .ireturn, 1, 0, 0)]
def zM41 : aM := (3, ⟨"AcresPaid$Colours", "look", "(IILAcresPaid$Shelves;II)I"⟩, prog_5_method_3_code, 12, (Option.some .int), 5, 0, zI41)
def zI42 : List aI := [(0, .aload_n 0, 1, 0, 0), (1, .getfield 20, 3, 3, 2), (4, .iload_n 1, 1, 0, 0), (5, .aaload, 1, 0, 0), (6, .astore 4, 2, 0, 0), (8, .aload 4, 2, 0, 0), (10, .ifnonnull 6, 3, 16, 0), (13, .bipush (-2), 2, 0, 0), (15, .ireturn, 1, 0, 0), (16, .aload_n 0, 1, 0, 0), (17, .iconst 0, 1, 0, 0), (18, .aload 4, 2, 0, 0), (20, .iload_n 2, 1, 0, 0), (21, .invokevirtual 40, 3, 43, 0), (24, .istore 5, 2, 0, 0), (26, .iload 5, 2, 0, 0), (28, .iconst (-1), 1, 0, 0), (29, .if_icmp .ne 6, 3, 35, 0), (32, .bipush (-2), 2, 0, 0), (34, .ireturn, 1, 0, 0), (35, .iconst 0, 1, 0, 0), (36, .istore 6, 2, 0, 0), (38, .ldc 46, 2, 2147483647, 0), (40, .istore 7, 2, 0, 0), (42, .iconst 1, 1, 0, 0), (43, .istore 8, 2, 0, 0), (45, .iload 8, 2, 0, 0), (47, .bipush 8, 2, 0, 0), (49, .if_icmp .ge 51, 3, 100, 0), (52, .aload_n 0, 1, 0, 0), (53, .iload 8, 2, 0, 0), (55, .aload 4, 2, 0, 0), (57, .iload_n 2, 1, 0, 0), (58, .invokevirtual 40, 3, 43, 0), (61, .istore 9, 2, 0, 0), (63, .iload 9, 2, 0, 0), (65, .iload 5, 2, 0, 0), (67, .if_icmp .ge 18, 3, 85, 0), (70, .iload 5, 2, 0, 0), (72, .istore 7, 2, 0, 0), (74, .iload 9, 2, 0, 0), (76, .istore 5, 2, 0, 0), (78, .iload 8, 2, 0, 0), (80, .istore 6, 2, 0, 0), (82, .goto 12, 3, 94, 0), (85, .iload 7, 2, 0, 0), (87, .iload 9, 2, 0, 0), (89, .invokestatic 47, 3, 1011, 0), (92, .istore 7, 2, 0, 0), (94, .iinc 8 1, 3, 0, 0), (97, .goto (-52), 3, 45, 0), (100, .iload_n 3, 1, 0, 0), (101, .ifCond .ne 8, 3, 109, 0), (104, .iload 6, 2, 0, 0), (106, .goto 8, 3, 114, 0), (109, .iload 7, 2, 0, 0), (111, .iload 5, 2, 0, 0), (113, .isub, 1, 0, 0), (114, .ireturn, 1, 0, 0)]
def zM42 : aM := (3, ⟨"AcresPaid$Colours", "judge", "(III)I"⟩, prog_5_method_4_code, 10, (Option.some .int), 3, 0, zI42)
def zI43 : List aI := [(0, .iconst 0, 1, 0, 0), (1, .istore 4, 2, 0, 0), (3, .iconst 0, 1, 0, 0), (4, .istore 5, 2, 0, 0), (6, .iconst 0, 1, 0, 0), (7, .istore 6, 2, 0, 0), (9, .iload 6, 2, 0, 0), (11, .bipush 6, 2, 0, 0), (13, .if_icmp .ge 54, 3, 67, 0), (16, .aload_n 2, 1, 0, 0), (17, .iload_n 3, 1, 0, 0), (18, .bipush 6, 2, 0, 0), (20, .imul, 1, 0, 0), (21, .iload 6, 2, 0, 0), (23, .iadd, 1, 0, 0), (24, .iaload, 1, 0, 0), (25, .istore 7, 2, 0, 0), (27, .iload 7, 2, 0, 0), (29, .sipush 1000, 3, 0, 0), (32, .if_icmp .eq 29, 3, 61, 0), (35, .iload 4, 2, 0, 0), (37, .iload 7, 2, 0, 0), (39, .aload_n 0, 1, 0, 0), (40, .getfield 9, 3, 3, 0), (43, .iload_n 1, 1, 0, 0), (44, .bipush 6, 2, 0, 0), (46, .imul, 1, 0, 0), (47, .iload 6, 2, 0, 0), (49, .iadd, 1, 0, 0), (50, .iaload, 1, 0, 0), (51, .isub, 1, 0, 0), (52, .invokestatic 53, 3, 1012, 0), (55, .iadd, 1, 0, 0), (56, .istore 4, 2, 0, 0), (58, .iinc 5 1, 3, 0, 0), (61, .iinc 6 1, 3, 0, 0), (64, .goto (-55), 3, 9, 0), (67, .iload 5, 2, 0, 0), (69, .ifCond .ne 7, 3, 76, 0), (72, .iconst (-1), 1, 0, 0), (73, .goto 5, 3, 78, 0), (76, .iload 4, 2, 0, 0), (78, .ireturn, 1, 0, 0)]
def zM43 : aM := (3, ⟨"AcresPaid$Colours", "apart", "(I[II)I"⟩, prog_5_method_5_code, 8, (Option.some .int), 3, 0, zI43)
def zI44 : List aI := [(0, .aload_n 0, 1, 0, 0), (1, .invokespecial 3, 3, 1000, 0), (4, .aload_n 0, 1, 0, 0), (5, .bipush 6, 2, 0, 0), (7, .newarray .int, 2, 0, 0), (9, .putfield 9, 3, 4, 0), (12, .aload_n 0, 1, 0, 0), (13, .bipush 8, 2, 0, 0), (15, .newarray .int, 2, 0, 0), (17, .putfield 15, 3, 4, 2), (20, .aload_n 0, 1, 0, 0), (21, .bipush 6, 2, 0, 0), (23, .newarray .int, 2, 0, 0), (25, .putfield 18, 3, 4, 3), (28, .aload_n 0, 1, 0, 0), (29, .bipush 8, 2, 0, 0), (31, .newarray .int, 2, 0, 0), (33, .dup, 1, 0, 0), (34, .iconst 0, 1, 0, 0), (35, .iconst 0, 1, 0, 0), (36, .iastore, 1, 0, 0), (37, .dup, 1, 0, 0), (38, .iconst 1, 1, 0, 0), (39, .iconst 1, 1, 0, 0), (40, .iastore, 1, 0, 0), (41, .dup, 1, 0, 0), (42, .iconst 2, 1, 0, 0), (43, .iconst 2, 1, 0, 0), (44, .iastore, 1, 0, 0), (45, .dup, 1, 0, 0), (46, .iconst 3, 1, 0, 0), (47, .iconst 3, 1, 0, 0), (48, .iastore, 1, 0, 0), (49, .dup, 1, 0, 0), (50, .iconst 4, 1, 0, 0), (51, .iconst 4, 1, 0, 0), (52, .iastore, 1, 0, 0), (53, .dup, 1, 0, 0), (54, .iconst 5, 1, 0, 0), (55, .iconst 5, 1, 0, 0), (56, .iastore, 1, 0, 0), (57, .dup, 1, 0, 0), (58, .bipush 6, 2, 0, 0), (60, .bipush 6, 2, 0, 0), (62, .iastore, 1, 0, 0), (63, .dup, 1, 0, 0), (64, .bipush 7, 2, 0, 0), (66, .bipush 7, 2, 0, 0), (68, .iastore, 1, 0, 0), (69, .putfield 21, 3, 4, 5), (72, .aload_n 0, 1, 0, 0), (73, .bipush 8, 2, 0, 0), (75, .newarray .int, 2, 0, 0), (77, .putfield 24, 3, 4, 6), (80, .aload_n 0, 1, 0, 0), (81, .bipush 8, 2, 0, 0), (83, .newarray .int, 2, 0, 0), (85, .putfield 27, 3, 4, 7), (88, .aload_n 0, 1, 0, 0), (89, .bipush 6, 2, 0, 0), (91, .newarray .int, 2, 0, 0), (93, .putfield 30, 3, 4, 8), (96, .return_, 1, 0, 0)]
def zM44 : aM := (4, ⟨"AcresPaid$Mix", "<init>", "()V"⟩, prog_6_method_1_code, 1, none, 0, 2, zI44)
def zI45 : List aI := [(0, .aload_n 0, 1, 0, 0), (1, .getfield 33, 3, 4, 1), (4, .bipush 6, 2, 0, 0), (6, .if_icmp .ge 23, 3, 29, 0), (9, .aload_n 0, 1, 0, 0), (10, .getfield 9, 3, 4, 0), (13, .aload_n 0, 1, 0, 0), (14, .getfield 33, 3, 4, 1), (17, .iload_n 1, 1, 0, 0), (18, .iastore, 1, 0, 0), (19, .aload_n 0, 1, 0, 0), (20, .dup, 1, 0, 0), (21, .getfield 33, 3, 4, 1), (24, .iconst 1, 1, 0, 0), (25, .iadd, 1, 0, 0), (26, .putfield 33, 3, 4, 1), (29, .aload_n 0, 1, 0, 0), (30, .getfield 33, 3, 4, 1), (33, .ireturn, 1, 0, 0)]
def zM45 : aM := (4, ⟨"AcresPaid$Mix", "add", "(I)I"⟩, prog_6_method_2_code, 2, (Option.some .int), 1, 0, zI45)
def zI46 : List aI := [(0, .iconst 0, 1, 0, 0), (1, .istore_n 3, 1, 0, 0), (2, .iconst 0, 1, 0, 0), (3, .istore 4, 2, 0, 0), (5, .iconst 0, 1, 0, 0), (6, .istore 5, 2, 0, 0), (8, .iload 5, 2, 0, 0), (10, .aload_n 0, 1, 0, 0), (11, .getfield 33, 3, 4, 1), (14, .if_icmp .ge 33, 3, 47, 0), (17, .iload_n 3, 1, 0, 0), (18, .aload_n 0, 1, 0, 0), (19, .getfield 9, 3, 4, 0), (22, .iload 5, 2, 0, 0), (24, .iaload, 1, 0, 0), (25, .iadd, 1, 0, 0), (26, .istore_n 3, 1, 0, 0), (27, .iload 4, 2, 0, 0), (29, .aload_n 0, 1, 0, 0), (30, .getfield 9, 3, 4, 0), (33, .iload 5, 2, 0, 0), (35, .iaload, 1, 0, 0), (36, .invokestatic 37, 3, 1010, 0), (39, .istore 4, 2, 0, 0), (41, .iinc 5 1, 3, 0, 0), (44, .goto (-36), 3, 8, 0), (47, .aload_n 0, 1, 0, 0), (48, .iload_n 3, 1, 0, 0), (49, .iload_n 1, 1, 0, 0), (50, .imul, 1, 0, 0), (51, .bipush 100, 2, 0, 0), (53, .idiv, 1, 0, 0), (54, .putfield 43, 3, 4, 9), (57, .aload_n 0, 1, 0, 0), (58, .iload_n 2, 1, 0, 0), (59, .putfield 46, 3, 4, 10), (62, .bipush (-2), 2, 0, 0), (64, .istore 5, 2, 0, 0), (66, .iload 4, 2, 0, 0), (68, .aload_n 0, 1, 0, 0), (69, .getfield 43, 3, 4, 9), (72, .if_icmp .gt 18, 3, 90, 0), (75, .aload_n 0, 1, 0, 0), (76, .getfield 33, 3, 4, 1), (79, .iload_n 2, 1, 0, 0), (80, .if_icmp .lt 10, 3, 90, 0), (83, .aload_n 0, 1, 0, 0), (84, .iload_n 3, 1, 0, 0), (85, .invokevirtual 49, 3, 47, 0), (88, .istore 5, 2, 0, 0), (90, .aload_n 0, 1, 0, 0), (91, .iconst 0, 1, 0, 0), (92, .putfield 33, 3, 4, 1), (95, .iload 5, 2, 0, 0), (97, .ireturn, 1, 0, 0)]
def zM46 : aM := (4, ⟨"AcresPaid$Mix", "find", "(II)I"⟩, prog_6_method_3_code, 6, (Option.some .int), 2, 0, zI46)
def zI47 : List aI := [(0, .aload_n 0, 1, 0, 0), (1, .getfield 27, 3, 4, 7), (4, .iconst 0, 1, 0, 0), (5, .invokestatic 53, 3, 332, 0), (8, .aload_n 0, 1, 0, 0), (9, .invokevirtual 59, 3, 48, 0), (12, .aload_n 0, 1, 0, 0), (13, .aload_n 0, 1, 0, 0), (14, .getfield 33, 3, 4, 1), (17, .putfield 62, 3, 4, 4), (20, .aload_n 0, 1, 0, 0), (21, .iconst (-1), 1, 0, 0), (22, .putfield 65, 3, 4, 11), (25, .aload_n 0, 1, 0, 0), (26, .iconst 0, 1, 0, 0), (27, .aload_n 0, 1, 0, 0), (28, .getfield 24, 3, 4, 6), (31, .iload_n 1, 1, 0, 0), (32, .iconst 0, 1, 0, 0), (33, .iconst 0, 1, 0, 0), (34, .invokevirtual 68, 3, 49, 0), (37, .aload_n 0, 1, 0, 0), (38, .dup, 1, 0, 0), (39, .getfield 65, 3, 4, 11), (42, .iconst 1, 1, 0, 0), (43, .isub, 1, 0, 0), (44, .putfield 65, 3, 4, 11), (47, .aload_n 0, 1, 0, 0), (48, .iconst 0, 1, 0, 0), (49, .aload_n 0, 1, 0, 0), (50, .getfield 21, 3, 4, 5), (53, .iload_n 1, 1, 0, 0), (54, .iconst 0, 1, 0, 0), (55, .iconst 0, 1, 0, 0), (56, .invokevirtual 68, 3, 49, 0), (59, .aload_n 0, 1, 0, 0), (60, .getfield 65, 3, 4, 11), (63, .ireturn, 1, 0, 0)]
def zM47 : aM := (4, ⟨"AcresPaid$Mix", "seek", "(I)I"⟩, prog_6_method_4_code, 2, (Option.some .int), 1, 0, zI47)
def zI48 : List aI := [(0, .iconst 0, 1, 0, 0), (1, .istore_n 1, 1, 0, 0), (2, .iload_n 1, 1, 0, 0), (3, .bipush 8, 2, 0, 0), (5, .if_icmp .ge 64, 3, 69, 0), (8, .iload_n 1, 1, 0, 0), (9, .istore_n 2, 1, 0, 0), (10, .iload_n 2, 1, 0, 0), (11, .ifCond .le 45, 3, 56, 0), (14, .aload_n 0, 1, 0, 0), (15, .getfield 15, 3, 4, 2), (18, .aload_n 0, 1, 0, 0), (19, .getfield 24, 3, 4, 6), (22, .iload_n 2, 1, 0, 0), (23, .iconst 1, 1, 0, 0), (24, .isub, 1, 0, 0), (25, .iaload, 1, 0, 0), (26, .iaload, 1, 0, 0), (27, .aload_n 0, 1, 0, 0), (28, .getfield 15, 3, 4, 2), (31, .iload_n 1, 1, 0, 0), (32, .iaload, 1, 0, 0), (33, .if_icmp .ge 23, 3, 56, 0), (36, .aload_n 0, 1, 0, 0), (37, .getfield 24, 3, 4, 6), (40, .iload_n 2, 1, 0, 0), (41, .aload_n 0, 1, 0, 0), (42, .getfield 24, 3, 4, 6), (45, .iload_n 2, 1, 0, 0), (46, .iconst 1, 1, 0, 0), (47, .isub, 1, 0, 0), (48, .iaload, 1, 0, 0), (49, .iastore, 1, 0, 0), (50, .iinc 2 (-1), 3, 0, 0), (53, .goto (-43), 3, 10, 0), (56, .aload_n 0, 1, 0, 0), (57, .getfield 24, 3, 4, 6), (60, .iload_n 2, 1, 0, 0), (61, .iload_n 1, 1, 0, 0), (62, .iastore, 1, 0, 0), (63, .iinc 1 1, 3, 0, 0), (66, .goto (-64), 3, 2, 0), (69, .return_, 1, 0, 0)]
def zM48 : aM := (4, ⟨"AcresPaid$Mix", "sortByWorth", "()V"⟩, prog_6_method_5_code, 3, none, 0, 0, zI48)
def zI49_0 : List aI := [(0, .iload 5, 2, 0, 0), (2, .aload_n 0, 1, 0, 0), (3, .getfield 33, 3, 4, 1), (6, .iadd, 1, 0, 0), (7, .iload_n 1, 1, 0, 0), (8, .isub, 1, 0, 0), (9, .aload_n 0, 1, 0, 0), (10, .getfield 46, 3, 4, 10), (13, .if_icmp .lt 17, 3, 30, 0), (16, .aload_n 0, 1, 0, 0), (17, .iload_n 3, 1, 0, 0), (18, .iload 4, 2, 0, 0), (20, .invokevirtual 72, 3, 51, 0), (23, .aload_n 0, 1, 0, 0), (24, .getfield 65, 3, 4, 11), (27, .if_icmp .gt 4, 3, 31, 0), (30, .return_, 1, 0, 0), (31, .iload_n 1, 1, 0, 0), (32, .aload_n 0, 1, 0, 0), (33, .getfield 33, 3, 4, 1), (36, .if_icmp .ge 9, 3, 45, 0), (39, .iload_n 1, 1, 0, 0), (40, .bipush 6, 2, 0, 0), (42, .if_icmp .lt 27, 3, 69, 0), (45, .aload_n 0, 1, 0, 0), (46, .iload 4, 2, 0, 0), (48, .putfield 65, 3, 4, 11), (51, .aload_n 0, 1, 0, 0), (52, .getfield 30, 3, 4, 8), (55, .iconst 0, 1, 0, 0), (56, .aload_n 0, 1, 0, 0), (57, .getfield 18, 3, 4, 3), (60, .iconst 0, 1, 0, 0), (61, .aload_n 0, 1, 0, 0), (62, .getfield 33, 3, 4, 1), (65, .invokestatic 75, 3, 1002, 0), (68, .return_, 1, 0, 0), (69, .aload_n 0, 1, 0, 0), (70, .getfield 9, 3, 4, 0), (73, .iload_n 1, 1, 0, 0), (74, .iaload, 1, 0, 0), (75, .istore 6, 2, 0, 0), (77, .iconst 0, 1, 0, 0), (78, .istore 7, 2, 0, 0), (80, .iload 7, 2, 0, 0), (82, .bipush 8, 2, 0, 0), (84, .if_icmp .ge 131, 3, 215, 0), (87, .aload_n 2, 1, 0, 0), (88, .iload 7, 2, 0, 0), (90, .iaload, 1, 0, 0), (91, .istore 8, 2, 0, 0), (93, .aload_n 0, 1, 0, 0), (94, .getfield 27, 3, 4, 7), (97, .iload 8, 2, 0, 0), (99, .iaload, 1, 0, 0), (100, .iload 6, 2, 0, 0), (102, .iadd, 1, 0, 0), (103, .aload_n 0, 1, 0, 0), (104, .getfield 43, 3, 4, 9), (107, .if_icmp .gt 102, 3, 209, 0), (110, .aload_n 0, 1, 0, 0), (111, .getfield 27, 3, 4, 7), (114, .iload 8, 2, 0, 0), (116, .iaload, 1, 0, 0), (117, .ifCond .gt 13, 3, 130, 0), (120, .aload_n 0, 1, 0, 0), (121, .iload 7, 2, 0, 0), (123, .aload_n 2, 1, 0, 0), (124, .invokevirtual 81, 3, 50, 0), (127, .ifCond .eq 82, 3, 209, 0), (130, .aload_n 0, 1, 0, 0), (131, .getfield 27, 3, 4, 7), (134, .iload 8, 2, 0, 0), (136, .iaload, 1, 0, 0), (137, .ifCond .ne 7, 3, 144, 0), (140, .iconst 1, 1, 0, 0), (141, .goto 4, 3, 145, 0), (144, .iconst 0, 1, 0, 0), (145, .istore 9, 2, 0, 0), (147, .aload_n 0, 1, 0, 0), (148, .getfield 27, 3, 4, 7), (151, .iload 8, 2, 0, 0), (153, .dup2, 1, 0, 0), (154, .iaload, 1, 0, 0), (155, .iload 6, 2, 0, 0), (157, .iadd, 1, 0, 0), (158, .iastore, 1, 0, 0), (159, .aload_n 0, 1, 0, 0), (160, .getfield 30, 3, 4, 8), (163, .iload_n 1, 1, 0, 0), (164, .iload 8, 2, 0, 0), (166, .iastore, 1, 0, 0), (167, .aload_n 0, 1, 0, 0), (168, .iload_n 1, 1, 0, 0), (169, .iconst 1, 1, 0, 0), (170, .iadd, 1, 0, 0), (171, .aload_n 2, 1, 0, 0), (172, .iload_n 3, 1, 0, 0), (173, .iload 6, 2, 0, 0), (175, .isub, 1, 0, 0)]
def zI49_1 : List aI := [(176, .iload 4, 2, 0, 0), (178, .iload 6, 2, 0, 0), (180, .aload_n 0, 1, 0, 0), (181, .getfield 15, 3, 4, 2), (184, .iload 8, 2, 0, 0), (186, .iaload, 1, 0, 0), (187, .imul, 1, 0, 0), (188, .iadd, 1, 0, 0), (189, .iload 5, 2, 0, 0), (191, .iload 9, 2, 0, 0), (193, .iadd, 1, 0, 0), (194, .invokevirtual 68, 3, 49, 0), (197, .aload_n 0, 1, 0, 0), (198, .getfield 27, 3, 4, 7), (201, .iload 8, 2, 0, 0), (203, .dup2, 1, 0, 0), (204, .iaload, 1, 0, 0), (205, .iload 6, 2, 0, 0), (207, .isub, 1, 0, 0), (208, .iastore, 1, 0, 0), (209, .iinc 7 1, 3, 0, 0), (212, .goto (-132), 3, 80, 0), (215, .return_, 1, 0, 0)]
def zI49 : List aI := zI49_0 ++ (zI49_1)
def zM49 : aM := (4, ⟨"AcresPaid$Mix", "seekFrom", "(I[IIII)V"⟩, prog_6_method_6_code, 10, none, 5, 0, zI49)
def zI50 : List aI := [(0, .iconst 0, 1, 0, 0), (1, .istore_n 3, 1, 0, 0), (2, .iload_n 3, 1, 0, 0), (3, .iload_n 1, 1, 0, 0), (4, .if_icmp .ge 41, 3, 45, 0), (7, .aload_n 0, 1, 0, 0), (8, .getfield 27, 3, 4, 7), (11, .aload_n 2, 1, 0, 0), (12, .iload_n 3, 1, 0, 0), (13, .iaload, 1, 0, 0), (14, .iaload, 1, 0, 0), (15, .ifCond .ne 24, 3, 39, 0), (18, .aload_n 0, 1, 0, 0), (19, .getfield 15, 3, 4, 2), (22, .aload_n 2, 1, 0, 0), (23, .iload_n 3, 1, 0, 0), (24, .iaload, 1, 0, 0), (25, .iaload, 1, 0, 0), (26, .aload_n 0, 1, 0, 0), (27, .getfield 15, 3, 4, 2), (30, .aload_n 2, 1, 0, 0), (31, .iload_n 1, 1, 0, 0), (32, .iaload, 1, 0, 0), (33, .iaload, 1, 0, 0), (34, .if_icmp .ne 5, 3, 39, 0), (37, .iconst 0, 1, 0, 0), (38, .ireturn, 1, 0, 0), (39, .iinc 3 1, 3, 0, 0), (42, .goto (-40), 3, 2, 0), (45, .iconst 1, 1, 0, 0), (46, .ireturn, 1, 0, 0)]
def zM50 : aM := (4, ⟨"AcresPaid$Mix", "isFirstUnused", "(I[I)Z"⟩, prog_6_method_7_code, 4, (Option.some .boolean), 2, 0, zI50)
def zI51 : List aI := [(0, .iload_n 2, 1, 0, 0), (1, .istore_n 3, 1, 0, 0), (2, .iload_n 1, 1, 0, 0), (3, .istore 4, 2, 0, 0), (5, .iconst 0, 1, 0, 0), (6, .istore 5, 2, 0, 0), (8, .iload 5, 2, 0, 0), (10, .bipush 8, 2, 0, 0), (12, .if_icmp .ge 63, 3, 75, 0), (15, .iload 4, 2, 0, 0), (17, .ifCond .le 58, 3, 75, 0), (20, .iload 4, 2, 0, 0), (22, .aload_n 0, 1, 0, 0), (23, .getfield 43, 3, 4, 9), (26, .aload_n 0, 1, 0, 0), (27, .getfield 27, 3, 4, 7), (30, .aload_n 0, 1, 0, 0), (31, .getfield 24, 3, 4, 6), (34, .iload 5, 2, 0, 0), (36, .iaload, 1, 0, 0), (37, .iaload, 1, 0, 0), (38, .isub, 1, 0, 0), (39, .invokestatic 85, 3, 1011, 0), (42, .istore 6, 2, 0, 0), (44, .iload_n 3, 1, 0, 0), (45, .iload 6, 2, 0, 0), (47, .aload_n 0, 1, 0, 0), (48, .getfield 15, 3, 4, 2), (51, .aload_n 0, 1, 0, 0), (52, .getfield 24, 3, 4, 6), (55, .iload 5, 2, 0, 0), (57, .iaload, 1, 0, 0), (58, .iaload, 1, 0, 0), (59, .imul, 1, 0, 0), (60, .iadd, 1, 0, 0), (61, .istore_n 3, 1, 0, 0), (62, .iload 4, 2, 0, 0), (64, .iload 6, 2, 0, 0), (66, .isub, 1, 0, 0), (67, .istore 4, 2, 0, 0), (69, .iinc 5 1, 3, 0, 0), (72, .goto (-64), 3, 8, 0), (75, .iload 4, 2, 0, 0), (77, .ifCond .le 7, 3, 84, 0), (80, .iconst (-1), 1, 0, 0), (81, .goto 4, 3, 85, 0), (84, .iload_n 3, 1, 0, 0), (85, .ireturn, 1, 0, 0)]
def zM51 : aM := (4, ⟨"AcresPaid$Mix", "bound", "(II)I"⟩, prog_6_method_8_code, 7, (Option.some .int), 2, 0, zI51)
def zI52 : List aI := [(0, .aload_n 0, 1, 0, 0), (1, .invokespecial 3, 3, 1000, 0), (4, .aload_n 0, 1, 0, 0), (5, .bipush 10, 2, 0, 0), (7, .newarray .int, 2, 0, 0), (9, .putfield 9, 3, 5, 3), (12, .aload_n 0, 1, 0, 0), (13, .bipush 10, 2, 0, 0), (15, .newarray .int, 2, 0, 0), (17, .putfield 15, 3, 5, 5), (20, .aload_n 0, 1, 0, 0), (21, .bipush 10, 2, 0, 0), (23, .newarray .int, 2, 0, 0), (25, .putfield 18, 3, 5, 6), (28, .aload_n 0, 1, 0, 0), (29, .bipush 9, 2, 0, 0), (31, .newarray .int, 2, 0, 0), (33, .putfield 21, 3, 5, 8), (36, .aload_n 0, 1, 0, 0), (37, .sipush 150, 3, 0, 0), (40, .newarray .int, 2, 0, 0), (42, .putfield 24, 3, 5, 10), (45, .aload_n 0, 1, 0, 0), (46, .sipush 150, 3, 0, 0), (49, .newarray .int, 2, 0, 0), (51, .putfield 27, 3, 5, 11), (54, .aload_n 0, 1, 0, 0), (55, .aload_n 1, 1, 0, 0), (56, .putfield 30, 3, 5, 0), (59, .aload_n 0, 1, 0, 0), (60, .aload_n 2, 1, 0, 0), (61, .putfield 34, 3, 5, 1), (64, .aload_n 0, 1, 0, 0), (65, .aload_n 3, 1, 0, 0), (66, .putfield 38, 3, 5, 2), (69, .return_, 1, 0, 0)]
def zM52 : aM := (5, ⟨"AcresPaid$Picks", "<init>", "(LAcresPaid$Register;LAcresPaid$Claims;LAcresPaid$Accounts;)V"⟩, prog_7_method_1_code, 4, none, 3, 2, zI52)
def zI53 : List aI := [(0, .iconst 0, 1, 0, 0), (1, .istore_n 2, 1, 0, 0), (2, .iconst 0, 1, 0, 0), (3, .istore_n 3, 1, 0, 0), (4, .iload_n 3, 1, 0, 0), (5, .aload_n 0, 1, 0, 0), (6, .getfield 30, 3, 5, 0), (9, .getfield 42, 3, 6, 1), (12, .if_icmp .ge 62, 3, 74, 0), (15, .aload_n 0, 1, 0, 0), (16, .getfield 30, 3, 5, 0), (19, .iload_n 3, 1, 0, 0), (20, .invokevirtual 48, 3, 77, 0), (23, .ifCond .eq 45, 3, 68, 0), (26, .aload_n 1, 1, 0, 0), (27, .iload_n 3, 1, 0, 0), (28, .invokevirtual 52, 3, 99, 0), (31, .ifCond .eq 37, 3, 68, 0), (34, .aload_n 0, 1, 0, 0), (35, .getfield 30, 3, 5, 0), (38, .iload_n 3, 1, 0, 0), (39, .aload_n 1, 1, 0, 0), (40, .getfield 57, 3, 8, 9), (43, .invokevirtual 60, 3, 83, 0), (46, .ifCond .le 22, 3, 68, 0), (49, .iload_n 2, 1, 0, 0), (50, .bipush 10, 2, 0, 0), (52, .if_icmp .lt 6, 3, 58, 0), (55, .bipush (-4), 2, 0, 0), (57, .ireturn, 1, 0, 0), (58, .aload_n 0, 1, 0, 0), (59, .getfield 15, 3, 5, 5), (62, .iload_n 2, 1, 0, 0), (63, .iload_n 3, 1, 0, 0), (64, .iastore, 1, 0, 0), (65, .iinc 2 1, 3, 0, 0), (68, .iinc 3 1, 3, 0, 0), (71, .goto (-67), 3, 4, 0), (74, .iconst 0, 1, 0, 0), (75, .istore_n 3, 1, 0, 0), (76, .iload_n 3, 1, 0, 0), (77, .iload_n 2, 1, 0, 0), (78, .if_icmp .ge 22, 3, 100, 0), (81, .aload_n 0, 1, 0, 0), (82, .getfield 18, 3, 5, 6), (85, .iload_n 3, 1, 0, 0), (86, .aload_n 0, 1, 0, 0), (87, .iload_n 3, 1, 0, 0), (88, .iload_n 2, 1, 0, 0), (89, .aload_n 1, 1, 0, 0), (90, .invokevirtual 64, 3, 54, 0), (93, .iastore, 1, 0, 0), (94, .iinc 3 1, 3, 0, 0), (97, .goto (-21), 3, 76, 0), (100, .aload_n 0, 1, 0, 0), (101, .aload_n 0, 1, 0, 0), (102, .iload_n 2, 1, 0, 0), (103, .invokevirtual 68, 3, 56, 0), (106, .iload_n 2, 1, 0, 0), (107, .invokevirtual 72, 3, 60, 0), (110, .ireturn, 1, 0, 0)]
def zM53 : aM := (5, ⟨"AcresPaid$Picks", "leastToGive", "(LAcresPaid$Season;)I"⟩, prog_7_method_2_code, 4, (Option.some .int), 1, 0, zI53)
def zI54 : List aI := [(0, .iconst 0, 1, 0, 0), (1, .istore 4, 2, 0, 0), (3, .iconst 0, 1, 0, 0), (4, .istore 5, 2, 0, 0), (6, .iload 5, 2, 0, 0), (8, .iload_n 2, 1, 0, 0), (9, .if_icmp .ge 61, 3, 70, 0), (12, .aload_n 0, 1, 0, 0), (13, .getfield 30, 3, 5, 0), (16, .aload_n 0, 1, 0, 0), (17, .getfield 15, 3, 5, 5), (20, .iload_n 1, 1, 0, 0), (21, .iaload, 1, 0, 0), (22, .aload_n 0, 1, 0, 0), (23, .getfield 15, 3, 5, 5), (26, .iload 5, 2, 0, 0), (28, .iaload, 1, 0, 0), (29, .invokevirtual 76, 3, 84, 0), (32, .ifCond .eq 32, 3, 64, 0), (35, .aload_n 0, 1, 0, 0), (36, .getfield 15, 3, 5, 5), (39, .iload_n 1, 1, 0, 0), (40, .iaload, 1, 0, 0), (41, .aload_n 0, 1, 0, 0), (42, .getfield 15, 3, 5, 5), (45, .iload 5, 2, 0, 0), (47, .iaload, 1, 0, 0), (48, .aload_n 3, 1, 0, 0), (49, .invokestatic 80, 3, 55, 0), (52, .ifCond .eq 12, 3, 64, 0), (55, .iload 4, 2, 0, 0), (57, .iconst 1, 1, 0, 0), (58, .iload 5, 2, 0, 0), (60, .ishl, 1, 0, 0), (61, .ior, 1, 0, 0), (62, .istore 4, 2, 0, 0), (64, .iinc 5 1, 3, 0, 0), (67, .goto (-61), 3, 6, 0), (70, .iload 4, 2, 0, 0), (72, .ireturn, 1, 0, 0)]
def zM54 : aM := (5, ⟨"AcresPaid$Picks", "notBeside", "(IILAcresPaid$Season;)I"⟩, prog_7_method_3_code, 6, (Option.some .int), 3, 0, zI54)
def zI55 : List aI := [(0, .iconst 0, 1, 0, 0), (1, .istore_n 3, 1, 0, 0), (2, .iload_n 3, 1, 0, 0), (3, .aload_n 2, 1, 0, 0), (4, .getfield 84, 3, 8, 5), (7, .if_icmp .ge 62, 3, 69, 0), (10, .iconst 0, 1, 0, 0), (11, .istore 4, 2, 0, 0), (13, .iload 4, 2, 0, 0), (15, .aload_n 2, 1, 0, 0), (16, .getfield 84, 3, 8, 5), (19, .if_icmp .ge 44, 3, 63, 0), (22, .aload_n 2, 1, 0, 0), (23, .iload_n 3, 1, 0, 0), (24, .invokevirtual 85, 3, 101, 0), (27, .iload_n 0, 1, 0, 0), (28, .if_icmp .ne 35, 3, 63, 0), (31, .aload_n 2, 1, 0, 0), (32, .iload 4, 2, 0, 0), (34, .invokevirtual 85, 3, 101, 0), (37, .iload_n 1, 1, 0, 0), (38, .if_icmp .ne 19, 3, 57, 0), (41, .aload_n 2, 1, 0, 0), (42, .iload 4, 2, 0, 0), (44, .invokevirtual 88, 3, 100, 0), (47, .aload_n 2, 1, 0, 0), (48, .iload_n 3, 1, 0, 0), (49, .invokevirtual 88, 3, 100, 0), (52, .if_icmp .eq 5, 3, 57, 0), (55, .iconst 1, 1, 0, 0), (56, .ireturn, 1, 0, 0), (57, .iinc 4 1, 3, 0, 0), (60, .goto (-47), 3, 13, 0), (63, .iinc 3 1, 3, 0, 0), (66, .goto (-64), 3, 2, 0), (69, .iconst 0, 1, 0, 0), (70, .ireturn, 1, 0, 0)]
def zM55 : aM := (5, ⟨"AcresPaid$Picks", "areOfTwoFarms", "(IILAcresPaid$Season;)Z"⟩, prog_7_method_4_code, 5, (Option.some .boolean), 3, 1, zI55)
def zI56 : List aI := [(0, .iconst 1, 1, 0, 0), (1, .iload_n 1, 1, 0, 0), (2, .ishl, 1, 0, 0), (3, .iconst 1, 1, 0, 0), (4, .isub, 1, 0, 0), (5, .istore_n 2, 1, 0, 0), (6, .iconst 0, 1, 0, 0), (7, .istore_n 3, 1, 0, 0), (8, .iload_n 3, 1, 0, 0), (9, .iconst 1, 1, 0, 0), (10, .iload_n 1, 1, 0, 0), (11, .ishl, 1, 0, 0), (12, .if_icmp .ge 30, 3, 42, 0), (15, .aload_n 0, 1, 0, 0), (16, .iload_n 3, 1, 0, 0), (17, .iload_n 1, 1, 0, 0), (18, .invokevirtual 91, 3, 57, 0), (21, .ifCond .eq 15, 3, 36, 0), (24, .aload_n 0, 1, 0, 0), (25, .iload_n 3, 1, 0, 0), (26, .iload_n 2, 1, 0, 0), (27, .iload_n 1, 1, 0, 0), (28, .invokevirtual 94, 3, 58, 0), (31, .ifCond .eq 5, 3, 36, 0), (34, .iload_n 3, 1, 0, 0), (35, .istore_n 2, 1, 0, 0), (36, .iinc 3 1, 3, 0, 0), (39, .goto (-31), 3, 8, 0), (42, .iload_n 2, 1, 0, 0), (43, .ireturn, 1, 0, 0)]
def zM56 : aM := (5, ⟨"AcresPaid$Picks", "cheapest", "(I)I"⟩, prog_7_method_5_code, 4, (Option.some .int), 1, 0, zI56)
def zI57 : List aI := [(0, .iconst 0, 1, 0, 0), (1, .istore_n 3, 1, 0, 0), (2, .iload_n 3, 1, 0, 0), (3, .iload_n 2, 1, 0, 0), (4, .if_icmp .ge 32, 3, 36, 0), (7, .iload_n 1, 1, 0, 0), (8, .iload_n 3, 1, 0, 0), (9, .ishr, 1, 0, 0), (10, .iconst 1, 1, 0, 0), (11, .iand, 1, 0, 0), (12, .ifCond .ne 18, 3, 30, 0), (15, .aload_n 0, 1, 0, 0), (16, .getfield 18, 3, 5, 6), (19, .iload_n 3, 1, 0, 0), (20, .iaload, 1, 0, 0), (21, .iload_n 1, 1, 0, 0), (22, .iconst (-1), 1, 0, 0), (23, .ixor, 1, 0, 0), (24, .iand, 1, 0, 0), (25, .ifCond .eq 5, 3, 30, 0), (28, .iconst 0, 1, 0, 0), (29, .ireturn, 1, 0, 0), (30, .iinc 3 1, 3, 0, 0), (33, .goto (-31), 3, 2, 0), (36, .iconst 1, 1, 0, 0), (37, .ireturn, 1, 0, 0)]
def zM57 : aM := (5, ⟨"AcresPaid$Picks", "endsAll", "(II)Z"⟩, prog_7_method_6_code, 4, (Option.some .boolean), 2, 0, zI57)
def zI58 : List aI := [(0, .aload_n 0, 1, 0, 0), (1, .iload_n 1, 1, 0, 0), (2, .iload_n 3, 1, 0, 0), (3, .invokevirtual 98, 3, 59, 0), (6, .istore 4, 2, 0, 0), (8, .aload_n 0, 1, 0, 0), (9, .iload_n 2, 1, 0, 0), (10, .iload_n 3, 1, 0, 0), (11, .invokevirtual 98, 3, 59, 0), (14, .istore 5, 2, 0, 0), (16, .iload 4, 2, 0, 0), (18, .iload 5, 2, 0, 0), (20, .if_icmp .eq 16, 3, 36, 0), (23, .iload 4, 2, 0, 0), (25, .iload 5, 2, 0, 0), (27, .if_icmp .ge 7, 3, 34, 0), (30, .iconst 1, 1, 0, 0), (31, .goto 4, 3, 35, 0), (34, .iconst 0, 1, 0, 0), (35, .ireturn, 1, 0, 0), (36, .iload_n 1, 1, 0, 0), (37, .invokestatic 101, 3, 329, 0), (40, .iload_n 2, 1, 0, 0), (41, .invokestatic 101, 3, 329, 0), (44, .invokestatic 106, 3, 328, 0), (47, .istore 6, 2, 0, 0), (49, .iload 6, 2, 0, 0), (51, .ifCond .eq 16, 3, 67, 0), (54, .iload 6, 2, 0, 0), (56, .ifCond .ge 7, 3, 63, 0), (59, .iconst 1, 1, 0, 0), (60, .goto 17, 3, 77, 0), (63, .iconst 0, 1, 0, 0), (64, .goto 13, 3, 77, 0), (67, .iload_n 1, 1, 0, 0), (68, .iload_n 2, 1, 0, 0), (69, .if_icmp .ge 7, 3, 76, 0), (72, .iconst 1, 1, 0, 0), (73, .goto 4, 3, 77, 0), (76, .iconst 0, 1, 0, 0), (77, .ireturn, 1, 0, 0)]
def zM58 : aM := (5, ⟨"AcresPaid$Picks", "isLess", "(III)Z"⟩, prog_7_method_7_code, 7, (Option.some .boolean), 3, 0, zI58)
def zI59 : List aI := [(0, .iconst 0, 1, 0, 0), (1, .istore_n 3, 1, 0, 0), (2, .iconst 0, 1, 0, 0), (3, .istore 4, 2, 0, 0), (5, .iload 4, 2, 0, 0), (7, .iload_n 2, 1, 0, 0), (8, .if_icmp .ge 34, 3, 42, 0), (11, .iload_n 3, 1, 0, 0), (12, .iload_n 1, 1, 0, 0), (13, .iload 4, 2, 0, 0), (15, .ishr, 1, 0, 0), (16, .iconst 1, 1, 0, 0), (17, .iand, 1, 0, 0), (18, .aload_n 0, 1, 0, 0), (19, .getfield 30, 3, 5, 0), (22, .getfield 109, 3, 6, 8), (25, .aload_n 0, 1, 0, 0), (26, .getfield 15, 3, 5, 5), (29, .iload 4, 2, 0, 0), (31, .iaload, 1, 0, 0), (32, .iaload, 1, 0, 0), (33, .imul, 1, 0, 0), (34, .iadd, 1, 0, 0), (35, .istore_n 3, 1, 0, 0), (36, .iinc 4 1, 3, 0, 0), (39, .goto (-34), 3, 5, 0), (42, .iload_n 3, 1, 0, 0), (43, .ireturn, 1, 0, 0)]
def zM59 : aM := (5, ⟨"AcresPaid$Picks", "areaOf", "(II)I"⟩, prog_7_method_8_code, 5, (Option.some .int), 2, 0, zI59)
def zI60 : List aI := [(0, .aload_n 0, 1, 0, 0), (1, .iconst 0, 1, 0, 0), (2, .putfield 112, 3, 5, 4), (5, .iconst 0, 1, 0, 0), (6, .istore_n 3, 1, 0, 0), (7, .iload_n 3, 1, 0, 0), (8, .iload_n 2, 1, 0, 0), (9, .if_icmp .ge 43, 3, 52, 0), (12, .iload_n 1, 1, 0, 0), (13, .iload_n 3, 1, 0, 0), (14, .ishr, 1, 0, 0), (15, .iconst 1, 1, 0, 0), (16, .iand, 1, 0, 0), (17, .iconst 1, 1, 0, 0), (18, .if_icmp .ne 28, 3, 46, 0), (21, .aload_n 0, 1, 0, 0), (22, .getfield 9, 3, 5, 3), (25, .aload_n 0, 1, 0, 0), (26, .getfield 112, 3, 5, 4), (29, .aload_n 0, 1, 0, 0), (30, .getfield 15, 3, 5, 5), (33, .iload_n 3, 1, 0, 0), (34, .iaload, 1, 0, 0), (35, .iastore, 1, 0, 0), (36, .aload_n 0, 1, 0, 0), (37, .dup, 1, 0, 0), (38, .getfield 112, 3, 5, 4), (41, .iconst 1, 1, 0, 0), (42, .iadd, 1, 0, 0), (43, .putfield 112, 3, 5, 4), (46, .iinc 3 1, 3, 0, 0), (49, .goto (-42), 3, 7, 0), (52, .aload_n 0, 1, 0, 0), (53, .iload_n 1, 1, 0, 0), (54, .iload_n 2, 1, 0, 0), (55, .invokevirtual 98, 3, 59, 0), (58, .ireturn, 1, 0, 0)]
def zM60 : aM := (5, ⟨"AcresPaid$Picks", "give", "(II)I"⟩, prog_7_method_9_code, 4, (Option.some .int), 2, 0, zI60)
def zI61 : List aI := [(0, .aload_n 0, 1, 0, 0), (1, .iload_n 1, 1, 0, 0), (2, .iload_n 2, 1, 0, 0), (3, .invokevirtual 115, 3, 62, 0), (6, .iload_n 3, 1, 0, 0), (7, .aload_n 0, 1, 0, 0), (8, .getfield 119, 3, 5, 12), (11, .invokestatic 122, 3, 1011, 0), (14, .istore 4, 2, 0, 0), (16, .iload 4, 2, 0, 0), (18, .iconst 1, 1, 0, 0), (19, .iadd, 1, 0, 0), (20, .iconst 2, 1, 0, 0), (21, .idiv, 1, 0, 0), (22, .istore 5, 2, 0, 0), (24, .aload_n 0, 1, 0, 0), (25, .iconst 0, 1, 0, 0), (26, .putfield 127, 3, 5, 9), (29, .iconst 0, 1, 0, 0), (30, .istore 6, 2, 0, 0), (32, .iload 6, 2, 0, 0), (34, .iload 4, 2, 0, 0), (36, .if_icmp .ge 31, 3, 67, 0), (39, .aload_n 0, 1, 0, 0), (40, .iload 6, 2, 0, 0), (42, .iload 5, 2, 0, 0), (44, .if_icmp .ge 10, 3, 54, 0), (47, .aload_n 0, 1, 0, 0), (48, .invokevirtual 130, 3, 63, 0), (51, .goto 7, 3, 58, 0), (54, .aload_n 0, 1, 0, 0), (55, .invokevirtual 134, 3, 64, 0), (58, .invokevirtual 137, 3, 65, 0), (61, .iinc 6 1, 3, 0, 0), (64, .goto (-32), 3, 32, 0), (67, .iload 4, 2, 0, 0), (69, .ireturn, 1, 0, 0)]
def zM61 : aM := (5, ⟨"AcresPaid$Picks", "drawFarms", "(III)I"⟩, prog_7_method_10_code, 7, (Option.some .int), 3, 0, zI61)
def zI62 : List aI := [(0, .aload_n 0, 1, 0, 0), (1, .getfield 38, 3, 5, 2), (4, .iload_n 2, 1, 0, 0), (5, .aload_n 0, 1, 0, 0), (6, .getfield 30, 3, 5, 0), (9, .getfield 141, 3, 6, 0), (12, .invokevirtual 144, 3, 1, 0), (15, .astore_n 3, 1, 0, 0), (16, .aload_n 0, 1, 0, 0), (17, .iconst 0, 1, 0, 0), (18, .putfield 119, 3, 5, 12), (21, .iconst 0, 1, 0, 0), (22, .istore 4, 2, 0, 0), (24, .iload 4, 2, 0, 0), (26, .aload_n 0, 1, 0, 0), (27, .getfield 30, 3, 5, 0), (30, .getfield 42, 3, 6, 1), (33, .if_icmp .ge 93, 3, 126, 0), (36, .aload_n 0, 1, 0, 0), (37, .getfield 30, 3, 5, 0), (40, .iload 4, 2, 0, 0), (42, .iload_n 1, 1, 0, 0), (43, .invokevirtual 150, 3, 76, 0), (46, .ifCond .eq 74, 3, 120, 0), (49, .aload_n 3, 1, 0, 0), (50, .getfield 153, 3, 8, 12), (53, .iload 4, 2, 0, 0), (55, .iaload, 1, 0, 0), (56, .iconst (-1), 1, 0, 0), (57, .if_icmp .eq 63, 3, 120, 0), (60, .aload_n 0, 1, 0, 0), (61, .getfield 24, 3, 5, 10), (64, .aload_n 0, 1, 0, 0), (65, .getfield 119, 3, 5, 12), (68, .iload 4, 2, 0, 0), (70, .iastore, 1, 0, 0), (71, .aload_n 0, 1, 0, 0), (72, .getfield 27, 3, 5, 11), (75, .aload_n 0, 1, 0, 0), (76, .getfield 119, 3, 5, 12), (79, .iload_n 2, 1, 0, 0), (80, .ifCond .ne 7, 3, 87, 0), (83, .iconst 0, 1, 0, 0), (84, .goto 25, 3, 109, 0), (87, .aload_n 0, 1, 0, 0), (88, .getfield 38, 3, 5, 2), (91, .iload_n 2, 1, 0, 0), (92, .iconst 1, 1, 0, 0), (93, .isub, 1, 0, 0), (94, .aload_n 0, 1, 0, 0), (95, .getfield 30, 3, 5, 0), (98, .getfield 141, 3, 6, 0), (101, .invokevirtual 144, 3, 1, 0), (104, .iload 4, 2, 0, 0), (106, .invokevirtual 156, 3, 102, 0), (109, .iastore, 1, 0, 0), (110, .aload_n 0, 1, 0, 0), (111, .dup, 1, 0, 0), (112, .getfield 119, 3, 5, 12), (115, .iconst 1, 1, 0, 0), (116, .iadd, 1, 0, 0), (117, .putfield 119, 3, 5, 12), (120, .iinc 4 1, 3, 0, 0), (123, .goto (-99), 3, 24, 0), (126, .return_, 1, 0, 0)]
def zM62 : aM := (5, ⟨"AcresPaid$Picks", "fillPool", "(II)V"⟩, prog_7_method_11_code, 5, none, 2, 0, zI62)
def zI63 : List aI := [(0, .iconst 0, 1, 0, 0), (1, .istore_n 1, 1, 0, 0), (2, .iconst 1, 1, 0, 0), (3, .istore_n 2, 1, 0, 0), (4, .iload_n 2, 1, 0, 0), (5, .aload_n 0, 1, 0, 0), (6, .getfield 119, 3, 5, 12), (9, .if_icmp .ge 26, 3, 35, 0), (12, .aload_n 0, 1, 0, 0), (13, .getfield 27, 3, 5, 11), (16, .iload_n 2, 1, 0, 0), (17, .iaload, 1, 0, 0), (18, .aload_n 0, 1, 0, 0), (19, .getfield 27, 3, 5, 11), (22, .iload_n 1, 1, 0, 0), (23, .iaload, 1, 0, 0), (24, .if_icmp .le 5, 3, 29, 0), (27, .iload_n 2, 1, 0, 0), (28, .istore_n 1, 1, 0, 0), (29, .iinc 2 1, 3, 0, 0), (32, .goto (-28), 3, 4, 0), (35, .iload_n 1, 1, 0, 0), (36, .ireturn, 1, 0, 0)]
def zM63 : aM := (5, ⟨"AcresPaid$Picks", "riskiest", "()I"⟩, prog_7_method_12_code, 3, (Option.some .int), 0, 0, zI63)
def zI64 : List aI := [(0, .aload_n 0, 1, 0, 0), (1, .aload_n 0, 1, 0, 0), (2, .getfield 159, 3, 5, 7), (5, .ldc 162, 2, 1103515245, 0), (7, .imul, 1, 0, 0), (8, .sipush 12345, 3, 0, 0), (11, .iadd, 1, 0, 0), (12, .putfield 159, 3, 5, 7), (15, .aload_n 0, 1, 0, 0), (16, .getfield 119, 3, 5, 12), (19, .ifCond .ne 7, 3, 26, 0), (22, .iconst 0, 1, 0, 0), (23, .goto 15, 3, 38, 0), (26, .aload_n 0, 1, 0, 0), (27, .getfield 159, 3, 5, 7), (30, .bipush 8, 2, 0, 0), (32, .iushr, 1, 0, 0), (33, .aload_n 0, 1, 0, 0), (34, .getfield 119, 3, 5, 12), (37, .irem, 1, 0, 0), (38, .ireturn, 1, 0, 0)]
def zM64 : aM := (5, ⟨"AcresPaid$Picks", "lotted", "()I"⟩, prog_7_method_13_code, 1, (Option.some .int), 0, 0, zI64)
def zI65 : List aI := [(0, .iload_n 1, 1, 0, 0), (1, .aload_n 0, 1, 0, 0), (2, .getfield 119, 3, 5, 12), (5, .if_icmp .ge 12, 3, 17, 0), (8, .aload_n 0, 1, 0, 0), (9, .getfield 127, 3, 5, 9), (12, .bipush 9, 2, 0, 0), (14, .if_icmp .lt 4, 3, 18, 0), (17, .return_, 1, 0, 0), (18, .aload_n 0, 1, 0, 0), (19, .getfield 21, 3, 5, 8), (22, .aload_n 0, 1, 0, 0), (23, .getfield 127, 3, 5, 9), (26, .aload_n 0, 1, 0, 0), (27, .getfield 24, 3, 5, 10), (30, .iload_n 1, 1, 0, 0), (31, .iaload, 1, 0, 0), (32, .iastore, 1, 0, 0), (33, .aload_n 0, 1, 0, 0), (34, .dup, 1, 0, 0), (35, .getfield 127, 3, 5, 9), (38, .iconst 1, 1, 0, 0), (39, .iadd, 1, 0, 0), (40, .putfield 127, 3, 5, 9), (43, .aload_n 0, 1, 0, 0), (44, .dup, 1, 0, 0), (45, .getfield 119, 3, 5, 12), (48, .iconst 1, 1, 0, 0), (49, .isub, 1, 0, 0), (50, .putfield 119, 3, 5, 12), (53, .iload_n 1, 1, 0, 0), (54, .istore_n 2, 1, 0, 0), (55, .iload_n 2, 1, 0, 0), (56, .aload_n 0, 1, 0, 0), (57, .getfield 119, 3, 5, 12), (60, .if_icmp .ge 37, 3, 97, 0), (63, .aload_n 0, 1, 0, 0), (64, .getfield 24, 3, 5, 10), (67, .iload_n 2, 1, 0, 0), (68, .aload_n 0, 1, 0, 0), (69, .getfield 24, 3, 5, 10), (72, .iload_n 2, 1, 0, 0), (73, .iconst 1, 1, 0, 0), (74, .iadd, 1, 0, 0), (75, .iaload, 1, 0, 0), (76, .iastore, 1, 0, 0), (77, .aload_n 0, 1, 0, 0), (78, .getfield 27, 3, 5, 11), (81, .iload_n 2, 1, 0, 0), (82, .aload_n 0, 1, 0, 0), (83, .getfield 27, 3, 5, 11), (86, .iload_n 2, 1, 0, 0), (87, .iconst 1, 1, 0, 0), (88, .iadd, 1, 0, 0), (89, .iaload, 1, 0, 0), (90, .iastore, 1, 0, 0), (91, .iinc 2 1, 3, 0, 0), (94, .goto (-39), 3, 55, 0), (97, .return_, 1, 0, 0)]
def zM65 : aM := (5, ⟨"AcresPaid$Picks", "takeFromPool", "(I)V"⟩, prog_7_method_14_code, 3, none, 1, 0, zI65)
def zI66 : List aI := [(0, .aload_n 0, 1, 0, 0), (1, .getfield 38, 3, 5, 2), (4, .iload_n 1, 1, 0, 0), (5, .aload_n 0, 1, 0, 0), (6, .getfield 30, 3, 5, 0), (9, .getfield 141, 3, 6, 0), (12, .invokevirtual 144, 3, 1, 0), (15, .astore_n 2, 1, 0, 0), (16, .aload_n 0, 1, 0, 0), (17, .iconst 0, 1, 0, 0), (18, .putfield 163, 3, 5, 13), (21, .aload_n 0, 1, 0, 0), (22, .iconst 0, 1, 0, 0), (23, .putfield 166, 3, 5, 14), (26, .iconst 0, 1, 0, 0), (27, .istore_n 3, 1, 0, 0), (28, .iload_n 3, 1, 0, 0), (29, .aload_n 0, 1, 0, 0), (30, .getfield 30, 3, 5, 0), (33, .getfield 42, 3, 6, 1), (36, .if_icmp .ge 90, 3, 126, 0), (39, .aload_n 0, 1, 0, 0), (40, .getfield 30, 3, 5, 0), (43, .iload_n 3, 1, 0, 0), (44, .invokevirtual 169, 3, 75, 0), (47, .ifCond .eq 73, 3, 120, 0), (50, .aload_n 0, 1, 0, 0), (51, .getfield 34, 3, 5, 1), (54, .iload_n 3, 1, 0, 0), (55, .iload_n 1, 1, 0, 0), (56, .invokevirtual 172, 3, 36, 0), (59, .ifCond .eq 61, 3, 120, 0), (62, .aload_n 0, 1, 0, 0), (63, .dup, 1, 0, 0), (64, .getfield 163, 3, 5, 13), (67, .iconst 1, 1, 0, 0), (68, .iadd, 1, 0, 0), (69, .putfield 163, 3, 5, 13), (72, .aload_n 0, 1, 0, 0), (73, .dup, 1, 0, 0), (74, .getfield 166, 3, 5, 14), (77, .aload_n 2, 1, 0, 0), (78, .iload_n 3, 1, 0, 0), (79, .invokevirtual 156, 3, 102, 0), (82, .iconst 2, 1, 0, 0), (83, .if_icmp .le 7, 3, 90, 0), (86, .iconst 1, 1, 0, 0), (87, .goto 4, 3, 91, 0), (90, .iconst 0, 1, 0, 0), (91, .iadd, 1, 0, 0), (92, .putfield 166, 3, 5, 14), (95, .aload_n 0, 1, 0, 0), (96, .getfield 163, 3, 5, 13), (99, .bipush 8, 2, 0, 0), (101, .if_icmp .gt 19, 3, 120, 0), (104, .aload_n 0, 1, 0, 0), (105, .aload_n 0, 1, 0, 0), (106, .getfield 163, 3, 5, 13), (109, .putfield 177, 3, 5, 15), (112, .aload_n 0, 1, 0, 0), (113, .aload_n 0, 1, 0, 0), (114, .getfield 166, 3, 5, 14), (117, .putfield 180, 3, 5, 16), (120, .iinc 3 1, 3, 0, 0), (123, .goto (-95), 3, 28, 0), (126, .aload_n 0, 1, 0, 0), (127, .getfield 163, 3, 5, 13), (130, .ifCond .ne 13, 3, 143, 0), (133, .aload_n 0, 1, 0, 0), (134, .iconst 0, 1, 0, 0), (135, .putfield 177, 3, 5, 15), (138, .aload_n 0, 1, 0, 0), (139, .iconst 0, 1, 0, 0), (140, .putfield 180, 3, 5, 16), (143, .return_, 1, 0, 0)]
def zM66 : aM := (5, ⟨"AcresPaid$Picks", "judge", "(I)V"⟩, prog_7_method_15_code, 4, none, 1, 0, zI66)
def zI67 : List aI := [(0, .iload_n 2, 1, 0, 0), (1, .i2l, 1, 0, 0), (2, .ldc2_w 183, 3, 100, 0), (5, .aload_n 0, 1, 0, 0), (6, .getfield 177, 3, 5, 15), (9, .invokestatic 185, 3, 69, 0), (12, .lmul, 1, 0, 0), (13, .lstore_n 3, 1, 0, 0), (14, .ldc2_w 183, 3, 100, 0), (17, .aload_n 0, 1, 0, 0), (18, .aload_n 0, 1, 0, 0), (19, .getfield 180, 3, 5, 16), (22, .aload_n 0, 1, 0, 0), (23, .getfield 177, 3, 5, 15), (26, .iload_n 1, 1, 0, 0), (27, .invokevirtual 189, 3, 68, 0), (30, .lmul, 1, 0, 0), (31, .lload_n 3, 1, 0, 0), (32, .lcmp, 1, 0, 0), (33, .ifCond .ge 5, 3, 38, 0), (36, .iconst 1, 1, 0, 0), (37, .ireturn, 1, 0, 0), (38, .ldc2_w 183, 3, 100, 0), (41, .aload_n 0, 1, 0, 0), (42, .iconst 0, 1, 0, 0), (43, .aload_n 0, 1, 0, 0), (44, .getfield 180, 3, 5, 16), (47, .iload_n 1, 1, 0, 0), (48, .invokevirtual 189, 3, 68, 0), (51, .lmul, 1, 0, 0), (52, .lload_n 3, 1, 0, 0), (53, .lcmp, 1, 0, 0), (54, .ifCond .ge 7, 3, 61, 0), (57, .iconst 2, 1, 0, 0), (58, .goto 4, 3, 62, 0), (61, .iconst 0, 1, 0, 0), (62, .ireturn, 1, 0, 0)]
def zM67 : aM := (5, ⟨"AcresPaid$Picks", "unlike", "(II)I"⟩, prog_7_method_16_code, 5, (Option.some .int), 2, 0, zI67)
def zI68 : List aI := [(0, .lconst 0, 1, 0, 0), (1, .lstore 4, 2, 0, 0), (3, .lconst 1, 1, 0, 0), (4, .lstore 6, 2, 0, 0), (6, .iconst 0, 1, 0, 0), (7, .istore 8, 2, 0, 0), (9, .iload 8, 2, 0, 0), (11, .aload_n 0, 1, 0, 0), (12, .getfield 177, 3, 5, 15), (15, .if_icmp .gt 69, 3, 84, 0), (18, .iload 8, 2, 0, 0), (20, .iload_n 1, 1, 0, 0), (21, .iload_n 2, 1, 0, 0), (22, .invokestatic 193, 3, 137, 0), (25, .ifCond .eq 34, 3, 59, 0), (28, .lload 4, 2, 0, 0), (30, .lload 6, 2, 0, 0), (32, .iload_n 3, 1, 0, 0), (33, .i2l, 1, 0, 0), (34, .iload 8, 2, 0, 0), (36, .invokestatic 185, 3, 69, 0), (39, .lmul, 1, 0, 0), (40, .bipush 100, 2, 0, 0), (42, .iload_n 3, 1, 0, 0), (43, .isub, 1, 0, 0), (44, .i2l, 1, 0, 0), (45, .aload_n 0, 1, 0, 0), (46, .getfield 177, 3, 5, 15), (49, .iload 8, 2, 0, 0), (51, .isub, 1, 0, 0), (52, .invokestatic 185, 3, 69, 0), (55, .lmul, 1, 0, 0), (56, .ladd, 1, 0, 0), (57, .lstore 4, 2, 0, 0), (59, .lload 6, 2, 0, 0), (61, .aload_n 0, 1, 0, 0), (62, .getfield 177, 3, 5, 15), (65, .iload 8, 2, 0, 0), (67, .isub, 1, 0, 0), (68, .i2l, 1, 0, 0), (69, .lmul, 1, 0, 0), (70, .iload 8, 2, 0, 0), (72, .iconst 1, 1, 0, 0), (73, .iadd, 1, 0, 0), (74, .i2l, 1, 0, 0), (75, .ldiv, 1, 0, 0), (76, .lstore 6, 2, 0, 0), (78, .iinc 8 1, 3, 0, 0), (81, .goto (-72), 3, 9, 0), (84, .lload 4, 2, 0, 0), (86, .lreturn, 1, 0, 0)]
def zM68 : aM := (5, ⟨"AcresPaid$Picks", "chance", "(III)J"⟩, prog_7_method_17_code, 9, (Option.some .long), 3, 0, zI68)
def zI69 : List aI := [(0, .lconst 1, 1, 0, 0), (1, .lstore_n 3, 1, 0, 0), (2, .iconst 0, 1, 0, 0), (3, .istore 5, 2, 0, 0), (5, .iload 5, 2, 0, 0), (7, .iload_n 2, 1, 0, 0), (8, .if_icmp .ge 13, 3, 21, 0), (11, .lload_n 3, 1, 0, 0), (12, .lload_n 0, 1, 0, 0), (13, .lmul, 1, 0, 0), (14, .lstore_n 3, 1, 0, 0), (15, .iinc 5 1, 3, 0, 0), (18, .goto (-13), 3, 5, 0), (21, .lload_n 3, 1, 0, 0), (22, .lreturn, 1, 0, 0)]
def zM69 : aM := (5, ⟨"AcresPaid$Picks", "power", "(JI)J"⟩, prog_7_method_18_code, 6, (Option.some .long), 2, 1, zI69)
def zI70 : List aI := [(0, .aload_n 0, 1, 0, 0), (1, .invokespecial 3, 3, 1000, 0), (4, .aload_n 0, 1, 0, 0), (5, .sipush 150, 3, 0, 0), (8, .newarray .int, 2, 0, 0), (10, .putfield 9, 3, 6, 7), (13, .aload_n 0, 1, 0, 0), (14, .sipush 150, 3, 0, 0), (17, .newarray .int, 2, 0, 0), (19, .putfield 15, 3, 6, 8), (22, .aload_n 0, 1, 0, 0), (23, .sipush 150, 3, 0, 0), (26, .newarray .int, 2, 0, 0), (28, .putfield 18, 3, 6, 9), (31, .aload_n 0, 1, 0, 0), (32, .sipush 150, 3, 0, 0), (35, .newarray .int, 2, 0, 0), (37, .putfield 21, 3, 6, 10), (40, .aload_n 0, 1, 0, 0), (41, .sipush 150, 3, 0, 0), (44, .newarray .int, 2, 0, 0), (46, .putfield 24, 3, 6, 11), (49, .aload_n 0, 1, 0, 0), (50, .sipush 150, 3, 0, 0), (53, .newarray .int, 2, 0, 0), (55, .putfield 27, 3, 6, 12), (58, .aload_n 0, 1, 0, 0), (59, .sipush 3600, 3, 0, 0), (62, .newarray .int, 2, 0, 0), (64, .putfield 30, 3, 6, 13), (67, .aload_n 0, 1, 0, 0), (68, .sipush 200, 3, 0, 0), (71, .newarray .int, 2, 0, 0), (73, .putfield 33, 3, 6, 14), (76, .aload_n 0, 1, 0, 0), (77, .sipush 200, 3, 0, 0), (80, .newarray .int, 2, 0, 0), (82, .putfield 36, 3, 6, 15), (85, .aload_n 0, 1, 0, 0), (86, .sipush 200, 3, 0, 0), (89, .newarray .int, 2, 0, 0), (91, .putfield 39, 3, 6, 16), (94, .aload_n 0, 1, 0, 0), (95, .sipush 200, 3, 0, 0), (98, .newarray .int, 2, 0, 0), (100, .putfield 42, 3, 6, 17), (103, .return_, 1, 0, 0)]
def zM70 : aM := (6, ⟨"AcresPaid$Register", "<init>", "()V"⟩, prog_8_method_1_code, 1, none, 0, 2, zI70)
def zI71 : List aI := [(0, .iload_n 0, 1, 0, 0), (1, .iconst 1, 1, 0, 0), (2, .iconst 3, 1, 0, 0), (3, .invokestatic 45, 3, 137, 0), (6, .ifCond .ne 9, 3, 15, 0), (9, .iload_n 0, 1, 0, 0), (10, .bipush 7, 2, 0, 0), (12, .if_icmp .ne 7, 3, 19, 0), (15, .iconst 1, 1, 0, 0), (16, .goto 4, 3, 20, 0), (19, .iconst 0, 1, 0, 0), (20, .ireturn, 1, 0, 0)]
def zM71 : aM := (6, ⟨"AcresPaid$Register", "isFarmKind", "(I)Z"⟩, prog_8_method_2_code, 1, (Option.some .boolean), 1, 1, zI71)
def zI72 : List aI := [(0, .iload_n 0, 1, 0, 0), (1, .istore_n 2, 1, 0, 0), (2, .iconst 0, 1, 0, 0), (3, .istore_n 3, 1, 0, 0), (4, .iload_n 3, 1, 0, 0), (5, .bipush 8, 2, 0, 0), (7, .if_icmp .ge 27, 3, 34, 0), (10, .iload_n 2, 1, 0, 0), (11, .iconst (-1), 1, 0, 0), (12, .if_icmp .eq 22, 3, 34, 0), (15, .iload_n 2, 1, 0, 0), (16, .iload_n 1, 1, 0, 0), (17, .if_icmp .ne 5, 3, 22, 0), (20, .iconst 1, 1, 0, 0), (21, .ireturn, 1, 0, 0), (22, .getstatic 49, 3, 0, 0), (25, .iload_n 2, 1, 0, 0), (26, .iaload, 1, 0, 0), (27, .istore_n 2, 1, 0, 0), (28, .iinc 3 1, 3, 0, 0), (31, .goto (-27), 3, 4, 0), (34, .iconst 0, 1, 0, 0), (35, .ireturn, 1, 0, 0)]
def zM72 : aM := (6, ⟨"AcresPaid$Register", "isUnder", "(II)Z"⟩, prog_8_method_3_code, 4, (Option.some .boolean), 2, 1, zI72)
def zI73 : List aI := [(0, .aload_n 0, 1, 0, 0), (1, .getfield 52, 3, 6, 1), (4, .sipush 150, 3, 0, 0), (7, .if_icmp .lt 7, 3, 14, 0), (10, .iconst 1, 1, 0, 0), (11, .goto 4, 3, 15, 0), (14, .iconst 0, 1, 0, 0), (15, .ireturn, 1, 0, 0)]
def zM73 : aM := (6, ⟨"AcresPaid$Register", "isFull", "()Z"⟩, prog_8_method_4_code, 1, (Option.some .boolean), 0, 0, zI73)
def zI74 : List aI := [(0, .iload_n 1, 1, 0, 0), (1, .iconst 0, 1, 0, 0), (2, .aload_n 0, 1, 0, 0), (3, .getfield 52, 3, 6, 1), (6, .iconst 1, 1, 0, 0), (7, .isub, 1, 0, 0), (8, .invokestatic 45, 3, 137, 0), (11, .ireturn, 1, 0, 0)]
def zM74 : aM := (6, ⟨"AcresPaid$Register", "isBody", "(I)Z"⟩, prog_8_method_5_code, 2, (Option.some .boolean), 1, 0, zI74)
def zI75 : List aI := [(0, .aload_n 0, 1, 0, 0), (1, .iload_n 1, 1, 0, 0), (2, .invokevirtual 56, 3, 74, 0), (5, .ifCond .eq 19, 3, 24, 0), (8, .aload_n 0, 1, 0, 0), (9, .getfield 9, 3, 6, 7), (12, .iload_n 1, 1, 0, 0), (13, .iaload, 1, 0, 0), (14, .invokestatic 60, 3, 71, 0), (17, .ifCond .eq 7, 3, 24, 0), (20, .iconst 1, 1, 0, 0), (21, .goto 4, 3, 25, 0), (24, .iconst 0, 1, 0, 0), (25, .ireturn, 1, 0, 0)]
def zM75 : aM := (6, ⟨"AcresPaid$Register", "isFarm", "(I)Z"⟩, prog_8_method_6_code, 2, (Option.some .boolean), 1, 0, zI75)
def zI76 : List aI := [(0, .aload_n 0, 1, 0, 0), (1, .iload_n 1, 1, 0, 0), (2, .invokevirtual 63, 3, 75, 0), (5, .ifCond .eq 17, 3, 22, 0), (8, .aload_n 0, 1, 0, 0), (9, .getfield 15, 3, 6, 8), (12, .iload_n 1, 1, 0, 0), (13, .iaload, 1, 0, 0), (14, .iload_n 2, 1, 0, 0), (15, .if_icmp .ne 7, 3, 22, 0), (18, .iconst 1, 1, 0, 0), (19, .goto 4, 3, 23, 0), (22, .iconst 0, 1, 0, 0), (23, .ireturn, 1, 0, 0)]
def zM76 : aM := (6, ⟨"AcresPaid$Register", "isFarmOf", "(II)Z"⟩, prog_8_method_7_code, 3, (Option.some .boolean), 2, 0, zI76)
def zI77 : List aI := [(0, .aload_n 0, 1, 0, 0), (1, .iload_n 1, 1, 0, 0), (2, .invokevirtual 56, 3, 74, 0), (5, .ifCond .eq 21, 3, 26, 0), (8, .aload_n 0, 1, 0, 0), (9, .getfield 9, 3, 6, 7), (12, .iload_n 1, 1, 0, 0), (13, .iaload, 1, 0, 0), (14, .iconst 4, 1, 0, 0), (15, .iconst 5, 1, 0, 0), (16, .invokestatic 45, 3, 137, 0), (19, .ifCond .eq 7, 3, 26, 0), (22, .iconst 1, 1, 0, 0), (23, .goto 4, 3, 27, 0), (26, .iconst 0, 1, 0, 0), (27, .ireturn, 1, 0, 0)]
def zM77 : aM := (6, ⟨"AcresPaid$Register", "isField", "(I)Z"⟩, prog_8_method_8_code, 2, (Option.some .boolean), 1, 0, zI77)
def zI78 : List aI := [(0, .aload_n 0, 1, 0, 0), (1, .iload_n 1, 1, 0, 0), (2, .invokevirtual 56, 3, 74, 0), (5, .ifCond .eq 22, 3, 27, 0), (8, .aload_n 0, 1, 0, 0), (9, .getfield 9, 3, 6, 7), (12, .iload_n 1, 1, 0, 0), (13, .iaload, 1, 0, 0), (14, .iconst 4, 1, 0, 0), (15, .bipush 6, 2, 0, 0), (17, .invokestatic 45, 3, 137, 0), (20, .ifCond .eq 7, 3, 27, 0), (23, .iconst 1, 1, 0, 0), (24, .goto 4, 3, 28, 0), (27, .iconst 0, 1, 0, 0), (28, .ireturn, 1, 0, 0)]
def zM78 : aM := (6, ⟨"AcresPaid$Register", "isHeld", "(I)Z"⟩, prog_8_method_9_code, 2, (Option.some .boolean), 1, 0, zI78)
def zI79 : List aI := [(0, .aload_n 0, 1, 0, 0), (1, .getfield 52, 3, 6, 1), (4, .istore 4, 2, 0, 0), (6, .aload_n 0, 1, 0, 0), (7, .invokevirtual 66, 3, 73, 0), (10, .ifCond .eq 6, 3, 16, 0), (13, .bipush (-3), 2, 0, 0), (15, .ireturn, 1, 0, 0), (16, .aload_n 0, 1, 0, 0), (17, .getfield 9, 3, 6, 7), (20, .iload 4, 2, 0, 0), (22, .iload_n 1, 1, 0, 0), (23, .iastore, 1, 0, 0), (24, .aload_n 0, 1, 0, 0), (25, .getfield 15, 3, 6, 8), (28, .iload 4, 2, 0, 0), (30, .iload_n 2, 1, 0, 0), (31, .iastore, 1, 0, 0), (32, .aload_n 0, 1, 0, 0), (33, .getfield 27, 3, 6, 12), (36, .iload 4, 2, 0, 0), (38, .iload_n 3, 1, 0, 0), (39, .iastore, 1, 0, 0), (40, .aload_n 0, 1, 0, 0), (41, .getfield 18, 3, 6, 9), (44, .iload 4, 2, 0, 0), (46, .aload_n 0, 1, 0, 0), (47, .getfield 70, 3, 6, 0), (50, .iastore, 1, 0, 0), (51, .aload_n 0, 1, 0, 0), (52, .getfield 21, 3, 6, 10), (55, .iload 4, 2, 0, 0), (57, .iconst (-1), 1, 0, 0), (58, .iastore, 1, 0, 0), (59, .aload_n 0, 1, 0, 0), (60, .dup, 1, 0, 0), (61, .getfield 73, 3, 6, 2), (64, .iload_n 1, 1, 0, 0), (65, .invokestatic 60, 3, 71, 0), (68, .ifCond .eq 7, 3, 75, 0), (71, .iconst 1, 1, 0, 0), (72, .goto 4, 3, 76, 0), (75, .iconst 0, 1, 0, 0), (76, .iadd, 1, 0, 0), (77, .putfield 73, 3, 6, 2), (80, .aload_n 0, 1, 0, 0), (81, .dup, 1, 0, 0), (82, .getfield 76, 3, 6, 3), (85, .iload_n 1, 1, 0, 0), (86, .iconst 4, 1, 0, 0), (87, .iconst 5, 1, 0, 0), (88, .invokestatic 45, 3, 137, 0), (91, .ifCond .eq 7, 3, 98, 0), (94, .iconst 1, 1, 0, 0), (95, .goto 4, 3, 99, 0), (98, .iconst 0, 1, 0, 0), (99, .iadd, 1, 0, 0), (100, .putfield 76, 3, 6, 3), (103, .aload_n 0, 1, 0, 0), (104, .dup, 1, 0, 0), (105, .getfield 52, 3, 6, 1), (108, .iconst 1, 1, 0, 0), (109, .iadd, 1, 0, 0), (110, .putfield 52, 3, 6, 1), (113, .iload 4, 2, 0, 0), (115, .ireturn, 1, 0, 0)]
def zM79 : aM := (6, ⟨"AcresPaid$Register", "add", "(III)I"⟩, prog_8_method_10_code, 5, (Option.some .int), 3, 0, zI79)
def zI80 : List aI := [(0, .aload_n 0, 1, 0, 0), (1, .bipush 6, 2, 0, 0), (3, .iload_n 1, 1, 0, 0), (4, .iconst (-1), 1, 0, 0), (5, .invokevirtual 79, 3, 79, 0), (8, .istore_n 2, 1, 0, 0), (9, .iload_n 2, 1, 0, 0), (10, .ifCond .ge 5, 3, 15, 0), (13, .iload_n 2, 1, 0, 0), (14, .ireturn, 1, 0, 0), (15, .aload_n 0, 1, 0, 0), (16, .getfield 83, 3, 6, 4), (19, .istore_n 3, 1, 0, 0), (20, .iload_n 3, 1, 0, 0), (21, .ifCond .le 40, 3, 61, 0), (24, .aload_n 0, 1, 0, 0), (25, .getfield 15, 3, 6, 8), (28, .aload_n 0, 1, 0, 0), (29, .getfield 24, 3, 6, 11), (32, .iload_n 3, 1, 0, 0), (33, .iconst 1, 1, 0, 0), (34, .isub, 1, 0, 0), (35, .iaload, 1, 0, 0), (36, .iaload, 1, 0, 0), (37, .iload_n 1, 1, 0, 0), (38, .if_icmp .ge 23, 3, 61, 0), (41, .aload_n 0, 1, 0, 0), (42, .getfield 24, 3, 6, 11), (45, .iload_n 3, 1, 0, 0), (46, .aload_n 0, 1, 0, 0), (47, .getfield 24, 3, 6, 11), (50, .iload_n 3, 1, 0, 0), (51, .iconst 1, 1, 0, 0), (52, .isub, 1, 0, 0), (53, .iaload, 1, 0, 0), (54, .iastore, 1, 0, 0), (55, .iinc 3 (-1), 3, 0, 0), (58, .goto (-38), 3, 20, 0), (61, .aload_n 0, 1, 0, 0), (62, .getfield 24, 3, 6, 11), (65, .iload_n 3, 1, 0, 0), (66, .iload_n 2, 1, 0, 0), (67, .iastore, 1, 0, 0), (68, .aload_n 0, 1, 0, 0), (69, .dup, 1, 0, 0), (70, .getfield 83, 3, 6, 4), (73, .iconst 1, 1, 0, 0), (74, .iadd, 1, 0, 0), (75, .putfield 83, 3, 6, 4), (78, .iload_n 2, 1, 0, 0), (79, .ireturn, 1, 0, 0)]
def zM80 : aM := (6, ⟨"AcresPaid$Register", "addPermit", "(I)I"⟩, prog_8_method_11_code, 4, (Option.some .int), 1, 0, zI80)
def zI81 : List aI := [(0, .iconst 0, 1, 0, 0), (1, .istore_n 3, 1, 0, 0), (2, .iload_n 3, 1, 0, 0), (3, .bipush 24, 2, 0, 0), (5, .if_icmp .ge 25, 3, 30, 0), (8, .aload_n 0, 1, 0, 0), (9, .getfield 30, 3, 6, 13), (12, .iload_n 1, 1, 0, 0), (13, .bipush 24, 2, 0, 0), (15, .imul, 1, 0, 0), (16, .iload_n 3, 1, 0, 0), (17, .iadd, 1, 0, 0), (18, .aload_n 2, 1, 0, 0), (19, .iload_n 3, 1, 0, 0), (20, .invokevirtual 86, 3, 91, 0), (23, .iastore, 1, 0, 0), (24, .iinc 3 1, 3, 0, 0), (27, .goto (-25), 3, 2, 0), (30, .return_, 1, 0, 0)]
def zM81 : aM := (6, ⟨"AcresPaid$Register", "outline", "(ILAcresPaid$Ring;)V"⟩, prog_8_method_12_code, 4, none, 2, 0, zI81)
def zI82 : List aI := [(0, .aload_n 0, 1, 0, 0), (1, .getfield 30, 3, 6, 13), (4, .iload_n 1, 1, 0, 0), (5, .bipush 24, 2, 0, 0), (7, .imul, 1, 0, 0), (8, .iload_n 2, 1, 0, 0), (9, .iadd, 1, 0, 0), (10, .iaload, 1, 0, 0), (11, .ireturn, 1, 0, 0)]
def zM82 : aM := (6, ⟨"AcresPaid$Register", "rowOf", "(II)I"⟩, prog_8_method_13_code, 3, (Option.some .int), 2, 0, zI82)
def zI83 : List aI := [(0, .iconst 0, 1, 0, 0), (1, .istore_n 3, 1, 0, 0), (2, .iconst 0, 1, 0, 0), (3, .istore 4, 2, 0, 0), (5, .iload 4, 2, 0, 0), (7, .bipush 24, 2, 0, 0), (9, .if_icmp .ge 27, 3, 36, 0), (12, .iload_n 3, 1, 0, 0), (13, .aload_n 0, 1, 0, 0), (14, .iload_n 1, 1, 0, 0), (15, .iload 4, 2, 0, 0), (17, .invokevirtual 92, 3, 82, 0), (20, .aload_n 2, 1, 0, 0), (21, .iload 4, 2, 0, 0), (23, .iaload, 1, 0, 0), (24, .iand, 1, 0, 0), (25, .invokestatic 96, 3, 329, 0), (28, .iadd, 1, 0, 0), (29, .istore_n 3, 1, 0, 0), (30, .iinc 4 1, 3, 0, 0), (33, .goto (-28), 3, 5, 0), (36, .iload_n 3, 1, 0, 0), (37, .ireturn, 1, 0, 0)]
def zM83 : aM := (6, ⟨"AcresPaid$Register", "squaresAmong", "(I[I)I"⟩, prog_8_method_14_code, 5, (Option.some .int), 2, 0, zI83)
def zI84 : List aI := [(0, .iconst 0, 1, 0, 0), (1, .istore_n 3, 1, 0, 0), (2, .iload_n 3, 1, 0, 0), (3, .bipush 24, 2, 0, 0), (5, .if_icmp .ge 27, 3, 32, 0), (8, .aload_n 0, 1, 0, 0), (9, .iload_n 1, 1, 0, 0), (10, .iload_n 3, 1, 0, 0), (11, .invokevirtual 92, 3, 82, 0), (14, .aload_n 0, 1, 0, 0), (15, .iload_n 2, 1, 0, 0), (16, .iload_n 3, 1, 0, 0), (17, .invokevirtual 92, 3, 82, 0), (20, .iand, 1, 0, 0), (21, .ifCond .eq 5, 3, 26, 0), (24, .iconst 1, 1, 0, 0), (25, .ireturn, 1, 0, 0), (26, .iinc 3 1, 3, 0, 0), (29, .goto (-27), 3, 2, 0), (32, .iconst 0, 1, 0, 0), (33, .ireturn, 1, 0, 0)]
def zM84 : aM := (6, ⟨"AcresPaid$Register", "meet", "(II)Z"⟩, prog_8_method_15_code, 4, (Option.some .boolean), 2, 0, zI84)
def zI85 : List aI := [(0, .aload_n 0, 1, 0, 0), (1, .getfield 101, 3, 6, 6), (4, .sipush 200, 3, 0, 0), (7, .if_icmp .ge 56, 3, 63, 0), (10, .aload_n 0, 1, 0, 0), (11, .getfield 33, 3, 6, 14), (14, .aload_n 0, 1, 0, 0), (15, .getfield 101, 3, 6, 6), (18, .iload_n 1, 1, 0, 0), (19, .iastore, 1, 0, 0), (20, .aload_n 0, 1, 0, 0), (21, .getfield 36, 3, 6, 15), (24, .aload_n 0, 1, 0, 0), (25, .getfield 101, 3, 6, 6), (28, .iload_n 2, 1, 0, 0), (29, .iastore, 1, 0, 0), (30, .aload_n 0, 1, 0, 0), (31, .getfield 39, 3, 6, 16), (34, .aload_n 0, 1, 0, 0), (35, .getfield 101, 3, 6, 6), (38, .iload_n 3, 1, 0, 0), (39, .iastore, 1, 0, 0), (40, .aload_n 0, 1, 0, 0), (41, .getfield 42, 3, 6, 17), (44, .aload_n 0, 1, 0, 0), (45, .getfield 101, 3, 6, 6), (48, .aload_n 0, 1, 0, 0), (49, .getfield 70, 3, 6, 0), (52, .iastore, 1, 0, 0), (53, .aload_n 0, 1, 0, 0), (54, .dup, 1, 0, 0), (55, .getfield 101, 3, 6, 6), (58, .iconst 1, 1, 0, 0), (59, .iadd, 1, 0, 0), (60, .putfield 101, 3, 6, 6), (63, .aload_n 0, 1, 0, 0), (64, .getfield 101, 3, 6, 6), (67, .ireturn, 1, 0, 0)]
def zM85 : aM := (6, ⟨"AcresPaid$Register", "pass", "(III)I"⟩, prog_8_method_16_code, 4, (Option.some .int), 3, 0, zI85)
def zI86 : List aI := [(0, .aload_n 0, 1, 0, 0), (1, .getfield 27, 3, 6, 12), (4, .iload_n 1, 1, 0, 0), (5, .iaload, 1, 0, 0), (6, .istore 4, 2, 0, 0), (8, .iconst 0, 1, 0, 0), (9, .istore 5, 2, 0, 0), (11, .iconst 0, 1, 0, 0), (12, .istore 6, 2, 0, 0), (14, .iload 6, 2, 0, 0), (16, .aload_n 0, 1, 0, 0), (17, .getfield 101, 3, 6, 6), (20, .if_icmp .ge 77, 3, 97, 0), (23, .aload_n 0, 1, 0, 0), (24, .getfield 33, 3, 6, 14), (27, .iload 6, 2, 0, 0), (29, .iaload, 1, 0, 0), (30, .iload_n 1, 1, 0, 0), (31, .if_icmp .ne 18, 3, 49, 0), (34, .aload_n 0, 1, 0, 0), (35, .getfield 42, 3, 6, 17), (38, .iload 6, 2, 0, 0), (40, .iaload, 1, 0, 0), (41, .iload_n 3, 1, 0, 0), (42, .if_icmp .gt 7, 3, 49, 0), (45, .iconst 1, 1, 0, 0), (46, .goto 4, 3, 50, 0), (49, .iconst 0, 1, 0, 0), (50, .istore 7, 2, 0, 0), (52, .iload 7, 2, 0, 0), (54, .ifCond .eq 37, 3, 91, 0), (57, .aload_n 0, 1, 0, 0), (58, .getfield 39, 3, 6, 16), (61, .iload 6, 2, 0, 0), (63, .iaload, 1, 0, 0), (64, .iload 5, 2, 0, 0), (66, .iload_n 2, 1, 0, 0), (67, .invokestatic 45, 3, 137, 0), (70, .ifCond .eq 21, 3, 91, 0), (73, .aload_n 0, 1, 0, 0), (74, .getfield 39, 3, 6, 16), (77, .iload 6, 2, 0, 0), (79, .iaload, 1, 0, 0), (80, .istore 5, 2, 0, 0), (82, .aload_n 0, 1, 0, 0), (83, .getfield 36, 3, 6, 15), (86, .iload 6, 2, 0, 0), (88, .iaload, 1, 0, 0), (89, .istore 4, 2, 0, 0), (91, .iinc 6 1, 3, 0, 0), (94, .goto (-80), 3, 14, 0), (97, .iload 4, 2, 0, 0), (99, .ireturn, 1, 0, 0)]
def zM86 : aM := (6, ⟨"AcresPaid$Register", "holderOf", "(III)I"⟩, prog_8_method_17_code, 8, (Option.some .int), 3, 0, zI86)
def zI87 : List aI := [(0, .aload_n 0, 1, 0, 0), (1, .invokespecial 3, 3, 1000, 0), (4, .aload_n 0, 1, 0, 0), (5, .bipush 12, 2, 0, 0), (7, .newarray .int, 2, 0, 0), (9, .putfield 9, 3, 7, 0), (12, .aload_n 0, 1, 0, 0), (13, .bipush 12, 2, 0, 0), (15, .newarray .int, 2, 0, 0), (17, .putfield 15, 3, 7, 1), (20, .return_, 1, 0, 0)]
def zM87 : aM := (7, ⟨"AcresPaid$Ring", "<init>", "()V"⟩, prog_9_method_1_code, 1, none, 0, 2, zI87)
def zI88 : List aI := [(0, .aload_n 0, 1, 0, 0), (1, .getfield 18, 3, 7, 2), (4, .bipush 12, 2, 0, 0), (6, .if_icmp .ge 33, 3, 39, 0), (9, .aload_n 0, 1, 0, 0), (10, .getfield 9, 3, 7, 0), (13, .aload_n 0, 1, 0, 0), (14, .getfield 18, 3, 7, 2), (17, .iload_n 1, 1, 0, 0), (18, .iastore, 1, 0, 0), (19, .aload_n 0, 1, 0, 0), (20, .getfield 15, 3, 7, 1), (23, .aload_n 0, 1, 0, 0), (24, .getfield 18, 3, 7, 2), (27, .iload_n 2, 1, 0, 0), (28, .iastore, 1, 0, 0), (29, .aload_n 0, 1, 0, 0), (30, .dup, 1, 0, 0), (31, .getfield 18, 3, 7, 2), (34, .iconst 1, 1, 0, 0), (35, .iadd, 1, 0, 0), (36, .putfield 18, 3, 7, 2), (39, .aload_n 0, 1, 0, 0), (40, .getfield 18, 3, 7, 2), (43, .ireturn, 1, 0, 0)]
def zM88 : aM := (7, ⟨"AcresPaid$Ring", "add", "(II)I"⟩, prog_9_method_2_code, 3, (Option.some .int), 2, 0, zI88)
def zI89 : List aI := [(0, .aload_n 0, 1, 0, 0), (1, .getfield 18, 3, 7, 2), (4, .iconst 4, 1, 0, 0), (5, .if_icmp .lt 12, 3, 17, 0), (8, .aload_n 0, 1, 0, 0), (9, .getfield 18, 3, 7, 2), (12, .iconst 2, 1, 0, 0), (13, .irem, 1, 0, 0), (14, .ifCond .eq 5, 3, 19, 0), (17, .iconst 0, 1, 0, 0), (18, .ireturn, 1, 0, 0), (19, .iconst 0, 1, 0, 0), (20, .istore_n 1, 1, 0, 0), (21, .iload_n 1, 1, 0, 0), (22, .aload_n 0, 1, 0, 0), (23, .getfield 18, 3, 7, 2), (26, .if_icmp .ge 66, 3, 92, 0), (29, .aload_n 0, 1, 0, 0), (30, .iload_n 1, 1, 0, 0), (31, .invokevirtual 22, 3, 93, 0), (34, .ifCond .ne 5, 3, 39, 0), (37, .iconst 0, 1, 0, 0), (38, .ireturn, 1, 0, 0), (39, .iload_n 1, 1, 0, 0), (40, .iconst 1, 1, 0, 0), (41, .iadd, 1, 0, 0), (42, .istore_n 2, 1, 0, 0), (43, .iload_n 2, 1, 0, 0), (44, .aload_n 0, 1, 0, 0), (45, .getfield 18, 3, 7, 2), (48, .if_icmp .ge 38, 3, 86, 0), (51, .aload_n 0, 1, 0, 0), (52, .iload_n 1, 1, 0, 0), (53, .invokevirtual 26, 3, 92, 0), (56, .iload_n 2, 1, 0, 0), (57, .if_icmp .eq 23, 3, 80, 0), (60, .aload_n 0, 1, 0, 0), (61, .iload_n 2, 1, 0, 0), (62, .invokevirtual 26, 3, 92, 0), (65, .iload_n 1, 1, 0, 0), (66, .if_icmp .eq 14, 3, 80, 0), (69, .aload_n 0, 1, 0, 0), (70, .iload_n 1, 1, 0, 0), (71, .iload_n 2, 1, 0, 0), (72, .invokevirtual 30, 3, 94, 0), (75, .ifCond .eq 5, 3, 80, 0), (78, .iconst 0, 1, 0, 0), (79, .ireturn, 1, 0, 0), (80, .iinc 2 1, 3, 0, 0), (83, .goto (-40), 3, 43, 0), (86, .iinc 1 1, 3, 0, 0), (89, .goto (-68), 3, 21, 0), (92, .iconst 1, 1, 0, 0), (93, .ireturn, 1, 0, 0)]
def zM89 : aM := (7, ⟨"AcresPaid$Ring", "isSound", "()Z"⟩, prog_9_method_3_code, 3, (Option.some .boolean), 0, 0, zI89)
def zI90 : List aI := [(0, .iconst 0, 1, 0, 0), (1, .istore_n 1, 1, 0, 0), (2, .iconst 0, 1, 0, 0), (3, .istore_n 2, 1, 0, 0), (4, .iload_n 2, 1, 0, 0), (5, .aload_n 0, 1, 0, 0), (6, .getfield 18, 3, 7, 2), (9, .if_icmp .ge 45, 3, 54, 0), (12, .aload_n 0, 1, 0, 0), (13, .iload_n 2, 1, 0, 0), (14, .invokevirtual 26, 3, 92, 0), (17, .istore_n 3, 1, 0, 0), (18, .iload_n 1, 1, 0, 0), (19, .aload_n 0, 1, 0, 0), (20, .getfield 9, 3, 7, 0), (23, .iload_n 2, 1, 0, 0), (24, .iaload, 1, 0, 0), (25, .aload_n 0, 1, 0, 0), (26, .getfield 15, 3, 7, 1), (29, .iload_n 3, 1, 0, 0), (30, .iaload, 1, 0, 0), (31, .imul, 1, 0, 0), (32, .aload_n 0, 1, 0, 0), (33, .getfield 9, 3, 7, 0), (36, .iload_n 3, 1, 0, 0), (37, .iaload, 1, 0, 0), (38, .aload_n 0, 1, 0, 0), (39, .getfield 15, 3, 7, 1), (42, .iload_n 2, 1, 0, 0), (43, .iaload, 1, 0, 0), (44, .imul, 1, 0, 0), (45, .isub, 1, 0, 0), (46, .iadd, 1, 0, 0), (47, .istore_n 1, 1, 0, 0), (48, .iinc 2 1, 3, 0, 0), (51, .goto (-47), 3, 4, 0), (54, .iload_n 1, 1, 0, 0), (55, .invokestatic 34, 3, 1012, 0), (58, .iconst 2, 1, 0, 0), (59, .idiv, 1, 0, 0), (60, .ireturn, 1, 0, 0)]
def zM90 : aM := (7, ⟨"AcresPaid$Ring", "squares", "()I"⟩, prog_9_method_4_code, 4, (Option.some .int), 0, 0, zI90)
def zI91 : List aI := [(0, .iconst 0, 1, 0, 0), (1, .istore_n 2, 1, 0, 0), (2, .iconst 1, 1, 0, 0), (3, .istore_n 3, 1, 0, 0), (4, .iload_n 3, 1, 0, 0), (5, .aload_n 0, 1, 0, 0), (6, .getfield 18, 3, 7, 2), (9, .if_icmp .ge 65, 3, 74, 0), (12, .aload_n 0, 1, 0, 0), (13, .getfield 15, 3, 7, 1), (16, .iload_n 3, 1, 0, 0), (17, .iaload, 1, 0, 0), (18, .istore 4, 2, 0, 0), (20, .aload_n 0, 1, 0, 0), (21, .getfield 15, 3, 7, 1), (24, .aload_n 0, 1, 0, 0), (25, .iload_n 3, 1, 0, 0), (26, .invokevirtual 26, 3, 92, 0), (29, .iaload, 1, 0, 0), (30, .istore 5, 2, 0, 0), (32, .iload 4, 2, 0, 0), (34, .iload 5, 2, 0, 0), (36, .invokestatic 39, 3, 1011, 0), (39, .iload_n 1, 1, 0, 0), (40, .if_icmp .gt 28, 3, 68, 0), (43, .iload_n 1, 1, 0, 0), (44, .iload 4, 2, 0, 0), (46, .iload 5, 2, 0, 0), (48, .invokestatic 43, 3, 1010, 0), (51, .if_icmp .ge 17, 3, 68, 0), (54, .iload_n 2, 1, 0, 0), (55, .ldc 46, 2, 16777215, 0), (57, .iconst (-1), 1, 0, 0), (58, .aload_n 0, 1, 0, 0), (59, .getfield 9, 3, 7, 0), (62, .iload_n 3, 1, 0, 0), (63, .iaload, 1, 0, 0), (64, .ishl, 1, 0, 0), (65, .iand, 1, 0, 0), (66, .ixor, 1, 0, 0), (67, .istore_n 2, 1, 0, 0), (68, .iinc 3 2, 3, 0, 0), (71, .goto (-67), 3, 4, 0), (74, .iload_n 2, 1, 0, 0), (75, .ireturn, 1, 0, 0)]
def zM91 : aM := (7, ⟨"AcresPaid$Ring", "insideOfRow", "(I)I"⟩, prog_9_method_5_code, 6, (Option.some .int), 1, 0, zI91)
def zI92 : List aI := [(0, .iload_n 1, 1, 0, 0), (1, .iconst 1, 1, 0, 0), (2, .iadd, 1, 0, 0), (3, .aload_n 0, 1, 0, 0), (4, .getfield 18, 3, 7, 2), (7, .if_icmp .ge 9, 3, 16, 0), (10, .iload_n 1, 1, 0, 0), (11, .iconst 1, 1, 0, 0), (12, .iadd, 1, 0, 0), (13, .goto 4, 3, 17, 0), (16, .iconst 0, 1, 0, 0), (17, .ireturn, 1, 0, 0)]
def zM92 : aM := (7, ⟨"AcresPaid$Ring", "next", "(I)I"⟩, prog_9_method_6_code, 2, (Option.some .int), 1, 0, zI92)
def zI93 : List aI := [(0, .aload_n 0, 1, 0, 0), (1, .iload_n 1, 1, 0, 0), (2, .invokevirtual 26, 3, 92, 0), (5, .istore_n 2, 1, 0, 0), (6, .aload_n 0, 1, 0, 0), (7, .getfield 15, 3, 7, 1), (10, .iload_n 1, 1, 0, 0), (11, .iaload, 1, 0, 0), (12, .aload_n 0, 1, 0, 0), (13, .getfield 15, 3, 7, 1), (16, .iload_n 2, 1, 0, 0), (17, .iaload, 1, 0, 0), (18, .if_icmp .ne 7, 3, 25, 0), (21, .iconst 1, 1, 0, 0), (22, .goto 4, 3, 26, 0), (25, .iconst 0, 1, 0, 0), (26, .istore_n 3, 1, 0, 0), (27, .aload_n 0, 1, 0, 0), (28, .getfield 9, 3, 7, 0), (31, .iload_n 1, 1, 0, 0), (32, .iaload, 1, 0, 0), (33, .aload_n 0, 1, 0, 0), (34, .getfield 9, 3, 7, 0), (37, .iload_n 2, 1, 0, 0), (38, .iaload, 1, 0, 0), (39, .if_icmp .ne 7, 3, 46, 0), (42, .iconst 1, 1, 0, 0), (43, .goto 4, 3, 47, 0), (46, .iconst 0, 1, 0, 0), (47, .istore 4, 2, 0, 0), (49, .iload_n 1, 1, 0, 0), (50, .iconst 2, 1, 0, 0), (51, .irem, 1, 0, 0), (52, .ifCond .ne 20, 3, 72, 0), (55, .iload_n 3, 1, 0, 0), (56, .ifCond .eq 12, 3, 68, 0), (59, .iload 4, 2, 0, 0), (61, .ifCond .ne 7, 3, 68, 0), (64, .iconst 1, 1, 0, 0), (65, .goto 21, 3, 86, 0), (68, .iconst 0, 1, 0, 0), (69, .goto 17, 3, 86, 0), (72, .iload 4, 2, 0, 0), (74, .ifCond .eq 11, 3, 85, 0), (77, .iload_n 3, 1, 0, 0), (78, .ifCond .ne 7, 3, 85, 0), (81, .iconst 1, 1, 0, 0), (82, .goto 4, 3, 86, 0), (85, .iconst 0, 1, 0, 0), (86, .ireturn, 1, 0, 0)]
def zM93 : aM := (7, ⟨"AcresPaid$Ring", "goesItsWay", "(I)Z"⟩, prog_9_method_7_code, 5, (Option.some .boolean), 1, 0, zI93)
def zI94 : List aI := [(0, .aload_n 0, 1, 0, 0), (1, .getfield 9, 3, 7, 0), (4, .iload_n 1, 1, 0, 0), (5, .iaload, 1, 0, 0), (6, .aload_n 0, 1, 0, 0), (7, .getfield 9, 3, 7, 0), (10, .aload_n 0, 1, 0, 0), (11, .iload_n 1, 1, 0, 0), (12, .invokevirtual 26, 3, 92, 0), (15, .iaload, 1, 0, 0), (16, .aload_n 0, 1, 0, 0), (17, .getfield 9, 3, 7, 0), (20, .iload_n 2, 1, 0, 0), (21, .iaload, 1, 0, 0), (22, .aload_n 0, 1, 0, 0), (23, .getfield 9, 3, 7, 0), (26, .aload_n 0, 1, 0, 0), (27, .iload_n 2, 1, 0, 0), (28, .invokevirtual 26, 3, 92, 0), (31, .iaload, 1, 0, 0), (32, .invokestatic 47, 3, 95, 0), (35, .ifCond .eq 45, 3, 80, 0), (38, .aload_n 0, 1, 0, 0), (39, .getfield 15, 3, 7, 1), (42, .iload_n 1, 1, 0, 0), (43, .iaload, 1, 0, 0), (44, .aload_n 0, 1, 0, 0), (45, .getfield 15, 3, 7, 1), (48, .aload_n 0, 1, 0, 0), (49, .iload_n 1, 1, 0, 0), (50, .invokevirtual 26, 3, 92, 0), (53, .iaload, 1, 0, 0), (54, .aload_n 0, 1, 0, 0), (55, .getfield 15, 3, 7, 1), (58, .iload_n 2, 1, 0, 0), (59, .iaload, 1, 0, 0), (60, .aload_n 0, 1, 0, 0), (61, .getfield 15, 3, 7, 1), (64, .aload_n 0, 1, 0, 0), (65, .iload_n 2, 1, 0, 0), (66, .invokevirtual 26, 3, 92, 0), (69, .iaload, 1, 0, 0), (70, .invokestatic 47, 3, 95, 0), (73, .ifCond .eq 7, 3, 80, 0), (76, .iconst 1, 1, 0, 0), (77, .goto 4, 3, 81, 0), (80, .iconst 0, 1, 0, 0), (81, .ireturn, 1, 0, 0)]
def zM94 : aM := (7, ⟨"AcresPaid$Ring", "meet", "(II)Z"⟩, prog_9_method_8_code, 3, (Option.some .boolean), 2, 0, zI94)
def zI95 : List aI := [(0, .iload_n 0, 1, 0, 0), (1, .iload_n 1, 1, 0, 0), (2, .invokestatic 39, 3, 1011, 0), (5, .iload_n 2, 1, 0, 0), (6, .iload_n 3, 1, 0, 0), (7, .invokestatic 39, 3, 1011, 0), (10, .invokestatic 43, 3, 1010, 0), (13, .iload_n 0, 1, 0, 0), (14, .iload_n 1, 1, 0, 0), (15, .invokestatic 43, 3, 1010, 0), (18, .iload_n 2, 1, 0, 0), (19, .iload_n 3, 1, 0, 0), (20, .invokestatic 43, 3, 1010, 0), (23, .invokestatic 39, 3, 1011, 0), (26, .if_icmp .gt 7, 3, 33, 0), (29, .iconst 1, 1, 0, 0), (30, .goto 4, 3, 34, 0), (33, .iconst 0, 1, 0, 0), (34, .ireturn, 1, 0, 0)]
def zM95 : aM := (7, ⟨"AcresPaid$Ring", "overlap", "(IIII)Z"⟩, prog_9_method_9_code, 4, (Option.some .boolean), 4, 1, zI95)
def zI96 : List aI := [(0, .aload_n 0, 1, 0, 0), (1, .invokespecial 3, 3, 1000, 0), (4, .aload_n 0, 1, 0, 0), (5, .iconst (-1), 1, 0, 0), (6, .putfield 9, 3, 8, 3), (9, .aload_n 0, 1, 0, 0), (10, .iconst (-1), 1, 0, 0), (11, .putfield 15, 3, 8, 4), (14, .aload_n 0, 1, 0, 0), (15, .sipush 300, 3, 0, 0), (18, .newarray .int, 2, 0, 0), (20, .putfield 18, 3, 8, 6), (23, .aload_n 0, 1, 0, 0), (24, .sipush 300, 3, 0, 0), (27, .newarray .int, 2, 0, 0), (29, .putfield 22, 3, 8, 7), (32, .aload_n 0, 1, 0, 0), (33, .sipush 300, 3, 0, 0), (36, .newarray .int, 2, 0, 0), (38, .putfield 25, 3, 8, 8), (41, .aload_n 0, 1, 0, 0), (42, .bipush 24, 2, 0, 0), (44, .newarray .int, 2, 0, 0), (46, .putfield 28, 3, 8, 9), (49, .aload_n 0, 1, 0, 0), (50, .sipush 150, 3, 0, 0), (53, .newarray .int, 2, 0, 0), (55, .putfield 31, 3, 8, 10), (58, .aload_n 0, 1, 0, 0), (59, .sipush 150, 3, 0, 0), (62, .newarray .int, 2, 0, 0), (64, .putfield 34, 3, 8, 11), (67, .aload_n 0, 1, 0, 0), (68, .sipush 150, 3, 0, 0), (71, .newarray .int, 2, 0, 0), (73, .putfield 37, 3, 8, 12), (76, .aload_n 0, 1, 0, 0), (77, .aload_n 1, 1, 0, 0), (78, .putfield 40, 3, 8, 0), (81, .aload_n 0, 1, 0, 0), (82, .aload_n 2, 1, 0, 0), (83, .putfield 44, 3, 8, 1), (86, .aload_n 0, 1, 0, 0), (87, .iload_n 3, 1, 0, 0), (88, .putfield 48, 3, 8, 2), (91, .return_, 1, 0, 0)]
def zM96 : aM := (8, ⟨"AcresPaid$Season", "<init>", "(LAcresPaid$Register;LAcresPaid$Claims;I)V"⟩, prog_10_method_1_code, 4, none, 3, 2, zI96)
def zI97 : List aI := [(0, .aload_n 0, 1, 0, 0), (1, .iload_n 1, 1, 0, 0), (2, .putfield 9, 3, 8, 3), (5, .aload_n 0, 1, 0, 0), (6, .iload_n 2, 1, 0, 0), (7, .putfield 15, 3, 8, 4), (10, .aload_n 0, 1, 0, 0), (11, .iconst 0, 1, 0, 0), (12, .putfield 51, 3, 8, 5), (15, .iconst 0, 1, 0, 0), (16, .istore_n 3, 1, 0, 0), (17, .iload_n 3, 1, 0, 0), (18, .aload_n 0, 1, 0, 0), (19, .getfield 44, 3, 8, 1), (22, .getfield 54, 3, 2, 1), (25, .if_icmp .ge 56, 3, 81, 0), (28, .aload_n 0, 1, 0, 0), (29, .getfield 44, 3, 8, 1), (32, .iload_n 3, 1, 0, 0), (33, .aload_n 0, 1, 0, 0), (34, .getfield 48, 3, 8, 2), (37, .aload_n 0, 1, 0, 0), (38, .getfield 9, 3, 8, 3), (41, .invokevirtual 57, 3, 29, 0), (44, .ifCond .eq 31, 3, 75, 0), (47, .aload_n 0, 1, 0, 0), (48, .getfield 18, 3, 8, 6), (51, .aload_n 0, 1, 0, 0), (52, .getfield 51, 3, 8, 5), (55, .aload_n 0, 1, 0, 0), (56, .getfield 44, 3, 8, 1), (59, .getfield 61, 3, 2, 8), (62, .iload_n 3, 1, 0, 0), (63, .iaload, 1, 0, 0), (64, .iastore, 1, 0, 0), (65, .aload_n 0, 1, 0, 0), (66, .dup, 1, 0, 0), (67, .getfield 51, 3, 8, 5), (70, .iconst 1, 1, 0, 0), (71, .iadd, 1, 0, 0), (72, .putfield 51, 3, 8, 5), (75, .iinc 3 1, 3, 0, 0), (78, .goto (-61), 3, 17, 0), (81, .aload_n 0, 1, 0, 0), (82, .getfield 22, 3, 8, 7), (85, .iconst 0, 1, 0, 0), (86, .invokestatic 64, 3, 332, 0), (89, .iconst 0, 1, 0, 0), (90, .istore_n 3, 1, 0, 0), (91, .iload_n 3, 1, 0, 0), (92, .bipush 24, 2, 0, 0), (94, .if_icmp .ge 25, 3, 119, 0), (97, .aload_n 0, 1, 0, 0), (98, .getfield 28, 3, 8, 9), (101, .iload_n 3, 1, 0, 0), (102, .aload_n 0, 1, 0, 0), (103, .iload_n 3, 1, 0, 0), (104, .invokevirtual 70, 3, 103, 0), (107, .iastore, 1, 0, 0), (108, .aload_n 0, 1, 0, 0), (109, .iload_n 3, 1, 0, 0), (110, .invokevirtual 74, 3, 104, 0), (113, .iinc 3 1, 3, 0, 0), (116, .goto (-25), 3, 91, 0), (119, .aload_n 0, 1, 0, 0), (120, .invokevirtual 78, 3, 105, 0), (123, .return_, 1, 0, 0)]
def zM97 : aM := (8, ⟨"AcresPaid$Season", "build", "(II)V"⟩, prog_10_method_2_code, 4, none, 2, 0, zI97)
def zI98 : List aI := [(0, .iconst 0, 1, 0, 0), (1, .istore_n 3, 1, 0, 0), (2, .iload_n 3, 1, 0, 0), (3, .aload_n 0, 1, 0, 0), (4, .getfield 51, 3, 8, 5), (7, .if_icmp .ge 29, 3, 36, 0), (10, .aload_n 0, 1, 0, 0), (11, .iload_n 3, 1, 0, 0), (12, .invokevirtual 81, 3, 100, 0), (15, .iload_n 1, 1, 0, 0), (16, .if_icmp .ne 14, 3, 30, 0), (19, .aload_n 0, 1, 0, 0), (20, .iload_n 3, 1, 0, 0), (21, .invokevirtual 84, 3, 101, 0), (24, .iload_n 2, 1, 0, 0), (25, .if_icmp .ne 5, 3, 30, 0), (28, .iload_n 3, 1, 0, 0), (29, .ireturn, 1, 0, 0), (30, .iinc 3 1, 3, 0, 0), (33, .goto (-31), 3, 2, 0), (36, .iconst (-1), 1, 0, 0), (37, .ireturn, 1, 0, 0)]
def zM98 : aM := (8, ⟨"AcresPaid$Season", "placeOf", "(II)I"⟩, prog_10_method_3_code, 4, (Option.some .int), 2, 0, zI98)
def zI99 : List aI := [(0, .iconst 0, 1, 0, 0), (1, .istore_n 2, 1, 0, 0), (2, .iload_n 2, 1, 0, 0), (3, .aload_n 0, 1, 0, 0), (4, .getfield 51, 3, 8, 5), (7, .if_icmp .ge 20, 3, 27, 0), (10, .aload_n 0, 1, 0, 0), (11, .iload_n 2, 1, 0, 0), (12, .invokevirtual 84, 3, 101, 0), (15, .iload_n 1, 1, 0, 0), (16, .if_icmp .ne 5, 3, 21, 0), (19, .iconst 1, 1, 0, 0), (20, .ireturn, 1, 0, 0), (21, .iinc 2 1, 3, 0, 0), (24, .goto (-22), 3, 2, 0), (27, .iconst 0, 1, 0, 0), (28, .ireturn, 1, 0, 0)]
def zM99 : aM := (8, ⟨"AcresPaid$Season", "isClaimed", "(I)Z"⟩, prog_10_method_4_code, 3, (Option.some .boolean), 1, 0, zI99)
def zI100 : List aI := [(0, .aload_n 0, 1, 0, 0), (1, .getfield 44, 3, 8, 1), (4, .getfield 87, 3, 2, 4), (7, .aload_n 0, 1, 0, 0), (8, .getfield 18, 3, 8, 6), (11, .iload_n 1, 1, 0, 0), (12, .iaload, 1, 0, 0), (13, .iaload, 1, 0, 0), (14, .ireturn, 1, 0, 0)]
def zM100 : aM := (8, ⟨"AcresPaid$Season", "farmAt", "(I)I"⟩, prog_10_method_5_code, 2, (Option.some .int), 1, 0, zI100)
def zI101 : List aI := [(0, .aload_n 0, 1, 0, 0), (1, .getfield 44, 3, 8, 1), (4, .getfield 90, 3, 2, 5), (7, .aload_n 0, 1, 0, 0), (8, .getfield 18, 3, 8, 6), (11, .iload_n 1, 1, 0, 0), (12, .iaload, 1, 0, 0), (13, .iaload, 1, 0, 0), (14, .ireturn, 1, 0, 0)]
def zM101 : aM := (8, ⟨"AcresPaid$Season", "fieldAt", "(I)I"⟩, prog_10_method_6_code, 2, (Option.some .int), 1, 0, zI101)
def zI102 : List aI := [(0, .aload_n 0, 1, 0, 0), (1, .getfield 31, 3, 8, 10), (4, .iload_n 1, 1, 0, 0), (5, .iaload, 1, 0, 0), (6, .aload_n 0, 1, 0, 0), (7, .getfield 34, 3, 8, 11), (10, .iload_n 1, 1, 0, 0), (11, .iaload, 1, 0, 0), (12, .isub, 1, 0, 0), (13, .istore_n 2, 1, 0, 0), (14, .iload_n 2, 1, 0, 0), (15, .ifCond .ne 20, 3, 35, 0), (18, .aload_n 0, 1, 0, 0), (19, .getfield 31, 3, 8, 10), (22, .iload_n 1, 1, 0, 0), (23, .iaload, 1, 0, 0), (24, .ifCond .ne 7, 3, 31, 0), (27, .iconst 0, 1, 0, 0), (28, .goto 6, 3, 34, 0), (31, .sipush 999, 3, 0, 0), (34, .ireturn, 1, 0, 0), (35, .sipush 999, 3, 0, 0), (38, .bipush 100, 2, 0, 0), (40, .aload_n 0, 1, 0, 0), (41, .getfield 34, 3, 8, 11), (44, .iload_n 1, 1, 0, 0), (45, .iaload, 1, 0, 0), (46, .imul, 1, 0, 0), (47, .iload_n 2, 1, 0, 0), (48, .idiv, 1, 0, 0), (49, .invokestatic 93, 3, 1011, 0), (52, .ireturn, 1, 0, 0)]
def zM102 : aM := (8, ⟨"AcresPaid$Season", "errorsOf", "(I)I"⟩, prog_10_method_7_code, 3, (Option.some .int), 1, 0, zI102)
def zI103 : List aI := [(0, .iconst 0, 1, 0, 0), (1, .istore_n 2, 1, 0, 0), (2, .iconst 0, 1, 0, 0), (3, .istore_n 3, 1, 0, 0), (4, .iconst 0, 1, 0, 0), (5, .istore 4, 2, 0, 0), (7, .iconst 0, 1, 0, 0), (8, .istore 5, 2, 0, 0), (10, .iload 5, 2, 0, 0), (12, .aload_n 0, 1, 0, 0), (13, .getfield 51, 3, 8, 5), (16, .if_icmp .ge 65, 3, 81, 0), (19, .iload 5, 2, 0, 0), (21, .ifCond .le 35, 3, 56, 0), (24, .aload_n 0, 1, 0, 0), (25, .iload 5, 2, 0, 0), (27, .invokevirtual 81, 3, 100, 0), (30, .aload_n 0, 1, 0, 0), (31, .iload 5, 2, 0, 0), (33, .iconst 1, 1, 0, 0), (34, .isub, 1, 0, 0), (35, .invokevirtual 81, 3, 100, 0), (38, .if_icmp .eq 18, 3, 56, 0), (41, .iload_n 3, 1, 0, 0), (42, .iload_n 2, 1, 0, 0), (43, .iload 4, 2, 0, 0), (45, .iand, 1, 0, 0), (46, .ior, 1, 0, 0), (47, .istore_n 3, 1, 0, 0), (48, .iload_n 2, 1, 0, 0), (49, .iload 4, 2, 0, 0), (51, .ior, 1, 0, 0), (52, .istore_n 2, 1, 0, 0), (53, .iconst 0, 1, 0, 0), (54, .istore 4, 2, 0, 0), (56, .iload 4, 2, 0, 0), (58, .aload_n 0, 1, 0, 0), (59, .getfield 40, 3, 8, 0), (62, .aload_n 0, 1, 0, 0), (63, .iload 5, 2, 0, 0), (65, .invokevirtual 84, 3, 101, 0), (68, .iload_n 1, 1, 0, 0), (69, .invokevirtual 99, 3, 82, 0), (72, .ior, 1, 0, 0), (73, .istore 4, 2, 0, 0), (75, .iinc 5 1, 3, 0, 0), (78, .goto (-68), 3, 10, 0), (81, .iload_n 3, 1, 0, 0), (82, .iload_n 2, 1, 0, 0), (83, .iload 4, 2, 0, 0), (85, .iand, 1, 0, 0), (86, .ior, 1, 0, 0), (87, .ireturn, 1, 0, 0)]
def zM103 : aM := (8, ⟨"AcresPaid$Season", "faultOfRow", "(I)I"⟩, prog_10_method_8_code, 6, (Option.some .int), 1, 0, zI103)
def zI104 : List aI := [(0, .aload_n 0, 1, 0, 0), (1, .getfield 28, 3, 8, 9), (4, .iload_n 1, 1, 0, 0), (5, .iaload, 1, 0, 0), (6, .aload_n 0, 1, 0, 0), (7, .getfield 44, 3, 8, 1), (10, .iload_n 1, 1, 0, 0), (11, .aload_n 0, 1, 0, 0), (12, .getfield 48, 3, 8, 2), (15, .aload_n 0, 1, 0, 0), (16, .getfield 9, 3, 8, 3), (19, .invokevirtual 104, 3, 33, 0), (22, .ior, 1, 0, 0), (23, .istore_n 2, 1, 0, 0), (24, .iconst 0, 1, 0, 0), (25, .istore_n 3, 1, 0, 0), (26, .iconst 0, 1, 0, 0), (27, .istore 4, 2, 0, 0), (29, .iload 4, 2, 0, 0), (31, .aload_n 0, 1, 0, 0), (32, .getfield 51, 3, 8, 5), (35, .if_icmp .ge 77, 3, 112, 0), (38, .iload 4, 2, 0, 0), (40, .ifCond .le 22, 3, 62, 0), (43, .aload_n 0, 1, 0, 0), (44, .iload 4, 2, 0, 0), (46, .invokevirtual 81, 3, 100, 0), (49, .aload_n 0, 1, 0, 0), (50, .iload 4, 2, 0, 0), (52, .iconst 1, 1, 0, 0), (53, .isub, 1, 0, 0), (54, .invokevirtual 81, 3, 100, 0), (57, .if_icmp .eq 5, 3, 62, 0), (60, .iconst 0, 1, 0, 0), (61, .istore_n 3, 1, 0, 0), (62, .aload_n 0, 1, 0, 0), (63, .getfield 40, 3, 8, 0), (66, .aload_n 0, 1, 0, 0), (67, .iload 4, 2, 0, 0), (69, .invokevirtual 84, 3, 101, 0), (72, .iload_n 1, 1, 0, 0), (73, .invokevirtual 99, 3, 82, 0), (76, .istore 5, 2, 0, 0), (78, .aload_n 0, 1, 0, 0), (79, .getfield 22, 3, 8, 7), (82, .iload 4, 2, 0, 0), (84, .dup2, 1, 0, 0), (85, .iaload, 1, 0, 0), (86, .iload 5, 2, 0, 0), (88, .iload_n 2, 1, 0, 0), (89, .iconst (-1), 1, 0, 0), (90, .ixor, 1, 0, 0), (91, .iand, 1, 0, 0), (92, .iload_n 3, 1, 0, 0), (93, .iconst (-1), 1, 0, 0), (94, .ixor, 1, 0, 0), (95, .iand, 1, 0, 0), (96, .invokestatic 108, 3, 329, 0), (99, .iadd, 1, 0, 0), (100, .iastore, 1, 0, 0), (101, .iload_n 3, 1, 0, 0), (102, .iload 5, 2, 0, 0), (104, .ior, 1, 0, 0), (105, .istore_n 3, 1, 0, 0), (106, .iinc 4 1, 3, 0, 0), (109, .goto (-80), 3, 29, 0), (112, .return_, 1, 0, 0)]
def zM104 : aM := (8, ⟨"AcresPaid$Season", "countRow", "(I)V"⟩, prog_10_method_9_code, 6, none, 1, 0, zI104)
def zI105 : List aI := [(0, .aload_n 0, 1, 0, 0), (1, .getfield 31, 3, 8, 10), (4, .iconst 0, 1, 0, 0), (5, .invokestatic 64, 3, 332, 0), (8, .aload_n 0, 1, 0, 0), (9, .getfield 34, 3, 8, 11), (12, .iconst 0, 1, 0, 0), (13, .invokestatic 64, 3, 332, 0), (16, .aload_n 0, 1, 0, 0), (17, .getfield 37, 3, 8, 12), (20, .iconst (-1), 1, 0, 0), (21, .invokestatic 64, 3, 332, 0), (24, .iconst 0, 1, 0, 0), (25, .istore_n 1, 1, 0, 0), (26, .iload_n 1, 1, 0, 0), (27, .aload_n 0, 1, 0, 0), (28, .getfield 51, 3, 8, 5), (31, .if_icmp .ge 102, 3, 133, 0), (34, .aload_n 0, 1, 0, 0), (35, .iload_n 1, 1, 0, 0), (36, .invokevirtual 81, 3, 100, 0), (39, .istore_n 2, 1, 0, 0), (40, .aload_n 0, 1, 0, 0), (41, .getfield 25, 3, 8, 8), (44, .iload_n 1, 1, 0, 0), (45, .aload_n 0, 1, 0, 0), (46, .getfield 22, 3, 8, 7), (49, .iload_n 1, 1, 0, 0), (50, .iaload, 1, 0, 0), (51, .aload_n 0, 1, 0, 0), (52, .getfield 44, 3, 8, 1), (55, .aload_n 0, 1, 0, 0), (56, .getfield 18, 3, 8, 6), (59, .iload_n 1, 1, 0, 0), (60, .iaload, 1, 0, 0), (61, .aload_n 0, 1, 0, 0), (62, .getfield 48, 3, 8, 2), (65, .aload_n 0, 1, 0, 0), (66, .getfield 9, 3, 8, 3), (69, .invokevirtual 113, 3, 35, 0), (72, .invokestatic 93, 3, 1011, 0), (75, .iastore, 1, 0, 0), (76, .aload_n 0, 1, 0, 0), (77, .getfield 31, 3, 8, 10), (80, .iload_n 2, 1, 0, 0), (81, .dup2, 1, 0, 0), (82, .iaload, 1, 0, 0), (83, .aload_n 0, 1, 0, 0), (84, .getfield 22, 3, 8, 7), (87, .iload_n 1, 1, 0, 0), (88, .iaload, 1, 0, 0), (89, .iadd, 1, 0, 0), (90, .iastore, 1, 0, 0), (91, .aload_n 0, 1, 0, 0), (92, .getfield 34, 3, 8, 11), (95, .iload_n 2, 1, 0, 0), (96, .dup2, 1, 0, 0), (97, .iaload, 1, 0, 0), (98, .aload_n 0, 1, 0, 0), (99, .getfield 25, 3, 8, 8), (102, .iload_n 1, 1, 0, 0), (103, .iaload, 1, 0, 0), (104, .iadd, 1, 0, 0), (105, .iastore, 1, 0, 0), (106, .aload_n 0, 1, 0, 0), (107, .getfield 37, 3, 8, 12), (110, .iload_n 2, 1, 0, 0), (111, .aload_n 0, 1, 0, 0), (112, .getfield 37, 3, 8, 12), (115, .iload_n 2, 1, 0, 0), (116, .iaload, 1, 0, 0), (117, .aload_n 0, 1, 0, 0), (118, .getfield 18, 3, 8, 6), (121, .iload_n 1, 1, 0, 0), (122, .iaload, 1, 0, 0), (123, .invokestatic 116, 3, 1010, 0), (126, .iastore, 1, 0, 0), (127, .iinc 1 1, 3, 0, 0), (130, .goto (-104), 3, 26, 0), (133, .return_, 1, 0, 0)]
def zM105 : aM := (8, ⟨"AcresPaid$Season", "sumUp", "()V"⟩, prog_10_method_10_code, 3, none, 0, 0, zI105)
def zI106 : List aI := [(0, .aload_n 0, 1, 0, 0), (1, .invokespecial 3, 3, 1000, 0), (4, .aload_n 0, 1, 0, 0), (5, .bipush 6, 2, 0, 0), (7, .newarray .int, 2, 0, 0), (9, .dup, 1, 0, 0), (10, .iconst 0, 1, 0, 0), (11, .iconst (-1), 1, 0, 0), (12, .iastore, 1, 0, 0), (13, .dup, 1, 0, 0), (14, .iconst 1, 1, 0, 0), (15, .iconst (-1), 1, 0, 0), (16, .iastore, 1, 0, 0), (17, .dup, 1, 0, 0), (18, .iconst 2, 1, 0, 0), (19, .iconst (-1), 1, 0, 0), (20, .iastore, 1, 0, 0), (21, .dup, 1, 0, 0), (22, .iconst 3, 1, 0, 0), (23, .iconst (-1), 1, 0, 0), (24, .iastore, 1, 0, 0), (25, .dup, 1, 0, 0), (26, .iconst 4, 1, 0, 0), (27, .iconst (-1), 1, 0, 0), (28, .iastore, 1, 0, 0), (29, .dup, 1, 0, 0), (30, .iconst 5, 1, 0, 0), (31, .iconst (-1), 1, 0, 0), (32, .iastore, 1, 0, 0), (33, .putfield 9, 3, 9, 0), (36, .aload_n 0, 1, 0, 0), (37, .bipush 6, 2, 0, 0), (39, .newarray .int, 2, 0, 0), (41, .putfield 15, 3, 9, 1), (44, .aload_n 0, 1, 0, 0), (45, .sipush 360, 3, 0, 0), (48, .newarray .long, 2, 1, 0), (50, .putfield 18, 3, 9, 2), (53, .return_, 1, 0, 0)]
def zM106 : aM := (9, ⟨"AcresPaid$Shelves", "<init>", "()V"⟩, prog_11_method_1_code, 1, none, 0, 2, zI106)
def zI107 : List aI := [(0, .aload_n 0, 1, 0, 0), (1, .getfield 9, 3, 9, 0), (4, .iload_n 1, 1, 0, 0), (5, .iconst (-1), 1, 0, 0), (6, .iastore, 1, 0, 0), (7, .aload_n 0, 1, 0, 0), (8, .getfield 15, 3, 9, 1), (11, .iload_n 1, 1, 0, 0), (12, .iconst 0, 1, 0, 0), (13, .iastore, 1, 0, 0), (14, .iconst 1, 1, 0, 0), (15, .ireturn, 1, 0, 0)]
def zM107 : aM := (9, ⟨"AcresPaid$Shelves", "empty", "(I)I"⟩, prog_11_method_2_code, 2, (Option.some .int), 1, 0, zI107)
def zI108 : List aI := [(0, .aload_n 0, 1, 0, 0), (1, .getfield 9, 3, 9, 0), (4, .iload_n 1, 1, 0, 0), (5, .iconst 5, 1, 0, 0), (6, .iastore, 1, 0, 0), (7, .aload_n 0, 1, 0, 0), (8, .getfield 15, 3, 9, 1), (11, .iload_n 1, 1, 0, 0), (12, .iload_n 2, 1, 0, 0), (13, .iastore, 1, 0, 0), (14, .iconst 1, 1, 0, 0), (15, .ireturn, 1, 0, 0)]
def zM108 : aM := (9, ⟨"AcresPaid$Shelves", "hold", "(II)I"⟩, prog_11_method_3_code, 3, (Option.some .int), 2, 0, zI108)
def zI109 : List aI := [(0, .aload_n 0, 1, 0, 0), (1, .getfield 9, 3, 9, 0), (4, .iload_n 1, 1, 0, 0), (5, .iload_n 2, 1, 0, 0), (6, .iastore, 1, 0, 0), (7, .aload_n 0, 1, 0, 0), (8, .getfield 15, 3, 9, 1), (11, .iload_n 1, 1, 0, 0), (12, .iload_n 3, 1, 0, 0), (13, .iastore, 1, 0, 0), (14, .aload_n 0, 1, 0, 0), (15, .getfield 18, 3, 9, 2), (18, .iload_n 1, 1, 0, 0), (19, .bipush 60, 2, 0, 0), (21, .imul, 1, 0, 0), (22, .iload_n 1, 1, 0, 0), (23, .bipush 60, 2, 0, 0), (25, .imul, 1, 0, 0), (26, .iload_n 3, 1, 0, 0), (27, .iadd, 1, 0, 0), (28, .lconst 0, 1, 0, 0), (29, .invokestatic 22, 3, 331, 0), (32, .iconst 1, 1, 0, 0), (33, .ireturn, 1, 0, 0)]
def zM109 : aM := (9, ⟨"AcresPaid$Shelves", "lay", "(III)I"⟩, prog_11_method_4_code, 4, (Option.some .int), 3, 0, zI109)
def zI110 : List aI := [(0, .aload_n 0, 1, 0, 0), (1, .getfield 9, 3, 9, 0), (4, .iload_n 1, 1, 0, 0), (5, .iaload, 1, 0, 0), (6, .iconst (-1), 1, 0, 0), (7, .if_icmp .ne 6, 3, 13, 0), (10, .bipush (-11), 2, 0, 0), (12, .ireturn, 1, 0, 0), (13, .aload_n 0, 1, 0, 0), (14, .getfield 9, 3, 9, 0), (17, .iload_n 1, 1, 0, 0), (18, .iaload, 1, 0, 0), (19, .iconst 5, 1, 0, 0), (20, .if_icmp .ne 8, 3, 28, 0), (23, .bipush (-12), 2, 0, 0), (25, .goto 4, 3, 29, 0), (28, .iconst 1, 1, 0, 0), (29, .ireturn, 1, 0, 0)]
def zM110 : aM := (9, ⟨"AcresPaid$Shelves", "rowOn", "(I)I"⟩, prog_11_method_5_code, 2, (Option.some .int), 1, 0, zI110)
def zI111 : List aI := [(0, .aload_n 0, 1, 0, 0), (1, .iload_n 1, 1, 0, 0), (2, .invokevirtual 28, 3, 110, 0), (5, .iconst 1, 1, 0, 0), (6, .if_icmp .ne 25, 3, 31, 0), (9, .lconst 0, 1, 0, 0), (10, .lload_n 2, 1, 0, 0), (11, .lcmp, 1, 0, 0), (12, .ifCond .gt 19, 3, 31, 0), (15, .lload_n 2, 1, 0, 0), (16, .aload_n 0, 1, 0, 0), (17, .getfield 15, 3, 9, 1), (20, .iload_n 1, 1, 0, 0), (21, .iaload, 1, 0, 0), (22, .i2l, 1, 0, 0), (23, .lcmp, 1, 0, 0), (24, .ifCond .ge 7, 3, 31, 0), (27, .iconst 1, 1, 0, 0), (28, .goto 4, 3, 32, 0), (31, .iconst 0, 1, 0, 0), (32, .ireturn, 1, 0, 0)]
def zM111 : aM := (9, ⟨"AcresPaid$Shelves", "hasPlace", "(IJ)Z"⟩, prog_11_method_6_code, 4, (Option.some .boolean), 2, 0, zI111)
def zI112 : List aI := [(0, .aload_n 0, 1, 0, 0), (1, .iload_n 1, 1, 0, 0), (2, .invokevirtual 28, 3, 110, 0), (5, .istore 5, 2, 0, 0), (7, .iload 5, 2, 0, 0), (9, .iconst 1, 1, 0, 0), (10, .if_icmp .eq 6, 3, 16, 0), (13, .iload 5, 2, 0, 0), (15, .ireturn, 1, 0, 0), (16, .aload_n 0, 1, 0, 0), (17, .iload_n 1, 1, 0, 0), (18, .iload_n 2, 1, 0, 0), (19, .i2l, 1, 0, 0), (20, .invokevirtual 32, 3, 111, 0), (23, .ifCond .ne 6, 3, 29, 0), (26, .bipush (-13), 2, 0, 0), (28, .ireturn, 1, 0, 0), (29, .aload_n 0, 1, 0, 0), (30, .getfield 18, 3, 9, 2), (33, .iload_n 1, 1, 0, 0), (34, .bipush 60, 2, 0, 0), (36, .imul, 1, 0, 0), (37, .iload_n 2, 1, 0, 0), (38, .iadd, 1, 0, 0), (39, .aload_n 0, 1, 0, 0), (40, .getfield 9, 3, 9, 0), (43, .iload_n 1, 1, 0, 0), (44, .iaload, 1, 0, 0), (45, .lload_n 3, 1, 0, 0), (46, .invokestatic 36, 3, 113, 0), (49, .lastore, 1, 0, 0), (50, .iconst 1, 1, 0, 0), (51, .ireturn, 1, 0, 0)]
def zM112 : aM := (9, ⟨"AcresPaid$Shelves", "write", "(IIJ)I"⟩, prog_11_method_7_code, 6, (Option.some .int), 3, 0, zI112)
def zI113 : List aI := [(0, .iload_n 0, 1, 0, 0), (1, .tableswitch 47 0 3 #[31, 36, 41, 45], 31, 0, 0), (32, .lload_n 1, 1, 0, 0), (33, .l2i, 1, 0, 0), (34, .i2b, 1, 0, 0), (35, .i2l, 1, 0, 0), (36, .lreturn, 1, 0, 0), (37, .lload_n 1, 1, 0, 0), (38, .l2i, 1, 0, 0), (39, .i2s, 1, 0, 0), (40, .i2l, 1, 0, 0), (41, .lreturn, 1, 0, 0), (42, .lload_n 1, 1, 0, 0), (43, .l2i, 1, 0, 0), (44, .i2l, 1, 0, 0), (45, .lreturn, 1, 0, 0), (46, .lload_n 1, 1, 0, 0), (47, .lreturn, 1, 0, 0), (48, .lload_n 1, 1, 0, 0), (49, .lconst 0, 1, 0, 0), (50, .lcmp, 1, 0, 0), (51, .ifCond .eq 7, 3, 58, 0), (54, .lconst 1, 1, 0, 0), (55, .goto 4, 3, 59, 0), (58, .lconst 0, 1, 0, 0), (59, .lreturn, 1, 0, 0)]
def zM113 : aM := (9, ⟨"AcresPaid$Shelves", "lowest", "(IJ)J"⟩, prog_11_method_8_code, 3, (Option.some .long), 2, 1, zI113)
def zI114 : List aI := [(0, .aload_n 0, 1, 0, 0), (1, .iload_n 1, 1, 0, 0), (2, .iload_n 2, 1, 0, 0), (3, .i2l, 1, 0, 0), (4, .invokevirtual 32, 3, 111, 0), (7, .ifCond .eq 17, 3, 24, 0), (10, .aload_n 0, 1, 0, 0), (11, .getfield 18, 3, 9, 2), (14, .iload_n 1, 1, 0, 0), (15, .bipush 60, 2, 0, 0), (17, .imul, 1, 0, 0), (18, .iload_n 2, 1, 0, 0), (19, .iadd, 1, 0, 0), (20, .laload, 1, 0, 0), (21, .goto 6, 3, 27, 0), (24, .ldc2_w 42, 3, 9223372036854775808, 0), (27, .lreturn, 1, 0, 0)]
def zM114 : aM := (9, ⟨"AcresPaid$Shelves", "read", "(II)J"⟩, prog_11_method_9_code, 3, (Option.some .long), 2, 0, zI114)
def zI115 : List aI := [(0, .aload_n 0, 1, 0, 0), (1, .iload_n 1, 1, 0, 0), (2, .invokevirtual 28, 3, 110, 0), (5, .istore 6, 2, 0, 0), (7, .aload_n 0, 1, 0, 0), (8, .iload_n 3, 1, 0, 0), (9, .invokevirtual 28, 3, 110, 0), (12, .istore 7, 2, 0, 0), (14, .iload 6, 2, 0, 0), (16, .bipush (-11), 2, 0, 0), (18, .if_icmp .eq 10, 3, 28, 0), (21, .iload 7, 2, 0, 0), (23, .bipush (-11), 2, 0, 0), (25, .if_icmp .ne 6, 3, 31, 0), (28, .bipush (-11), 2, 0, 0), (30, .ireturn, 1, 0, 0), (31, .iload 6, 2, 0, 0), (33, .bipush (-12), 2, 0, 0), (35, .if_icmp .eq 25, 3, 60, 0), (38, .iload 7, 2, 0, 0), (40, .bipush (-12), 2, 0, 0), (42, .if_icmp .eq 18, 3, 60, 0), (45, .aload_n 0, 1, 0, 0), (46, .getfield 9, 3, 9, 0), (49, .iload_n 1, 1, 0, 0), (50, .iaload, 1, 0, 0), (51, .aload_n 0, 1, 0, 0), (52, .getfield 9, 3, 9, 0), (55, .iload_n 3, 1, 0, 0), (56, .iaload, 1, 0, 0), (57, .if_icmp .eq 6, 3, 63, 0), (60, .bipush (-12), 2, 0, 0), (62, .ireturn, 1, 0, 0), (63, .iload 5, 2, 0, 0), (65, .ifCond .lt 39, 3, 104, 0), (68, .iload_n 2, 1, 0, 0), (69, .ifCond .lt 35, 3, 104, 0), (72, .iload 4, 2, 0, 0), (74, .ifCond .lt 30, 3, 104, 0), (77, .iload_n 2, 1, 0, 0), (78, .aload_n 0, 1, 0, 0), (79, .getfield 15, 3, 9, 1), (82, .iload_n 1, 1, 0, 0), (83, .iaload, 1, 0, 0), (84, .iload 5, 2, 0, 0), (86, .isub, 1, 0, 0), (87, .if_icmp .gt 17, 3, 104, 0), (90, .iload 4, 2, 0, 0), (92, .aload_n 0, 1, 0, 0), (93, .getfield 15, 3, 9, 1), (96, .iload_n 3, 1, 0, 0), (97, .iaload, 1, 0, 0), (98, .iload 5, 2, 0, 0), (100, .isub, 1, 0, 0), (101, .if_icmp .le 6, 3, 107, 0), (104, .bipush (-13), 2, 0, 0), (106, .ireturn, 1, 0, 0), (107, .aload_n 0, 1, 0, 0), (108, .getfield 18, 3, 9, 2), (111, .iload_n 1, 1, 0, 0), (112, .bipush 60, 2, 0, 0), (114, .imul, 1, 0, 0), (115, .iload_n 2, 1, 0, 0), (116, .iadd, 1, 0, 0), (117, .aload_n 0, 1, 0, 0), (118, .getfield 18, 3, 9, 2), (121, .iload_n 3, 1, 0, 0), (122, .bipush 60, 2, 0, 0), (124, .imul, 1, 0, 0), (125, .iload 4, 2, 0, 0), (127, .iadd, 1, 0, 0), (128, .iload 5, 2, 0, 0), (130, .invokestatic 44, 3, 1002, 0), (133, .iload 5, 2, 0, 0), (135, .ireturn, 1, 0, 0)]
def zM115 : aM := (9, ⟨"AcresPaid$Shelves", "copy", "(IIIII)I"⟩, prog_11_method_10_code, 8, (Option.some .int), 5, 0, zI115)
def zI116 : List aI := [(0, .aload_n 0, 1, 0, 0), (1, .invokespecial 3, 3, 1000, 0), (4, .aload_n 0, 1, 0, 0), (5, .sipush 160, 3, 0, 0), (8, .newarray .byte, 2, 3, 0), (10, .putfield 9, 3, 10, 0), (13, .aload_n 0, 1, 0, 0), (14, .sipush 2560, 3, 0, 0), (17, .newarray .byte, 2, 3, 0), (19, .putfield 15, 3, 10, 2), (22, .aload_n 0, 1, 0, 0), (23, .bipush 16, 2, 0, 0), (25, .newarray .int, 2, 0, 0), (27, .putfield 18, 3, 10, 3), (30, .aload_n 0, 1, 0, 0), (31, .bipush 16, 2, 0, 0), (33, .newarray .int, 2, 0, 0), (35, .putfield 22, 3, 10, 4), (38, .aload_n 0, 1, 0, 0), (39, .bipush 16, 2, 0, 0), (41, .newarray .int, 2, 0, 0), (43, .putfield 25, 3, 10, 5), (46, .aload_n 0, 1, 0, 0), (47, .bipush 16, 2, 0, 0), (49, .newarray .int, 2, 0, 0), (51, .putfield 28, 3, 10, 6), (54, .aload_n 0, 1, 0, 0), (55, .bipush 13, 2, 0, 0), (57, .newarray .int, 2, 0, 0), (59, .putfield 31, 3, 10, 8), (62, .aload_n 0, 1, 0, 0), (63, .aload_n 0, 1, 0, 0), (64, .getfield 31, 3, 10, 8), (67, .putfield 34, 3, 10, 13), (70, .return_, 1, 0, 0)]
def zM116 : aM := (10, ⟨"AcresPaid$Texts", "<init>", "()V"⟩, prog_12_method_1_code, 1, none, 0, 2, zI116)
def zI117 : List aI := [(0, .iconst 0, 1, 0, 0), (1, .istore_n 3, 1, 0, 0), (2, .iload_n 3, 1, 0, 0), (3, .iload_n 1, 1, 0, 0), (4, .if_icmp .ge 45, 3, 49, 0), (7, .aload_n 0, 1, 0, 0), (8, .getfield 37, 3, 10, 1), (11, .sipush 160, 3, 0, 0), (14, .if_icmp .ge 35, 3, 49, 0), (17, .aload_n 0, 1, 0, 0), (18, .getfield 9, 3, 10, 0), (21, .aload_n 0, 1, 0, 0), (22, .getfield 37, 3, 10, 1), (25, .iload_n 2, 1, 0, 0), (26, .bipush 8, 2, 0, 0), (28, .iload_n 3, 1, 0, 0), (29, .imul, 1, 0, 0), (30, .ishr, 1, 0, 0), (31, .i2b, 1, 0, 0), (32, .bastore, 1, 0, 0), (33, .aload_n 0, 1, 0, 0), (34, .dup, 1, 0, 0), (35, .getfield 37, 3, 10, 1), (38, .iconst 1, 1, 0, 0), (39, .iadd, 1, 0, 0), (40, .putfield 37, 3, 10, 1), (43, .iinc 3 1, 3, 0, 0), (46, .goto (-44), 3, 2, 0), (49, .aload_n 0, 1, 0, 0), (50, .getfield 37, 3, 10, 1), (53, .ireturn, 1, 0, 0)]
def zM117 : aM := (10, ⟨"AcresPaid$Texts", "take", "(II)I"⟩, prog_12_method_2_code, 4, (Option.some .int), 2, 0, zI117)
def zI118 : List aI := [(0, .aload_n 0, 1, 0, 0), (1, .getfield 41, 3, 10, 7), (4, .bipush 16, 2, 0, 0), (6, .if_icmp .lt 6, 3, 12, 0), (9, .bipush (-3), 2, 0, 0), (11, .ireturn, 1, 0, 0), (12, .aload_n 0, 1, 0, 0), (13, .getfield 9, 3, 10, 0), (16, .iconst 0, 1, 0, 0), (17, .aload_n 0, 1, 0, 0), (18, .getfield 15, 3, 10, 2), (21, .aload_n 0, 1, 0, 0), (22, .getfield 41, 3, 10, 7), (25, .sipush 160, 3, 0, 0), (28, .imul, 1, 0, 0), (29, .aload_n 0, 1, 0, 0), (30, .getfield 37, 3, 10, 1), (33, .invokestatic 44, 3, 1002, 0), (36, .aload_n 0, 1, 0, 0), (37, .getfield 18, 3, 10, 3), (40, .aload_n 0, 1, 0, 0), (41, .getfield 41, 3, 10, 7), (44, .aload_n 0, 1, 0, 0), (45, .getfield 37, 3, 10, 1), (48, .iastore, 1, 0, 0), (49, .aload_n 0, 1, 0, 0), (50, .iconst 0, 1, 0, 0), (51, .putfield 37, 3, 10, 1), (54, .aload_n 0, 1, 0, 0), (55, .aload_n 0, 1, 0, 0), (56, .getfield 41, 3, 10, 7), (59, .invokevirtual 50, 3, 122, 0), (62, .istore 4, 2, 0, 0), (64, .iload 4, 2, 0, 0), (66, .iconst (-1), 1, 0, 0), (67, .if_icmp .eq 9, 3, 76, 0), (70, .bipush (-100), 2, 0, 0), (72, .iload 4, 2, 0, 0), (74, .isub, 1, 0, 0), (75, .ireturn, 1, 0, 0), (76, .aload_n 0, 1, 0, 0), (77, .getfield 22, 3, 10, 4), (80, .aload_n 0, 1, 0, 0), (81, .getfield 41, 3, 10, 7), (84, .iload_n 1, 1, 0, 0), (85, .iastore, 1, 0, 0), (86, .aload_n 0, 1, 0, 0), (87, .getfield 25, 3, 10, 5), (90, .aload_n 0, 1, 0, 0), (91, .getfield 41, 3, 10, 7), (94, .iload_n 2, 1, 0, 0), (95, .iastore, 1, 0, 0), (96, .aload_n 0, 1, 0, 0), (97, .getfield 28, 3, 10, 6), (100, .aload_n 0, 1, 0, 0), (101, .getfield 41, 3, 10, 7), (104, .iload_n 3, 1, 0, 0), (105, .iastore, 1, 0, 0), (106, .aload_n 0, 1, 0, 0), (107, .dup, 1, 0, 0), (108, .getfield 41, 3, 10, 7), (111, .iconst 1, 1, 0, 0), (112, .iadd, 1, 0, 0), (113, .putfield 41, 3, 10, 7), (116, .aload_n 0, 1, 0, 0), (117, .getfield 41, 3, 10, 7), (120, .iconst 1, 1, 0, 0), (121, .isub, 1, 0, 0), (122, .ireturn, 1, 0, 0)]
def zM118 : aM := (10, ⟨"AcresPaid$Texts", "make", "(III)I"⟩, prog_12_method_3_code, 5, (Option.some .int), 3, 0, zI118)
def zI119 : List aI := [(0, .iload_n 1, 1, 0, 0), (1, .iconst 0, 1, 0, 0), (2, .aload_n 0, 1, 0, 0), (3, .getfield 41, 3, 10, 7), (6, .iconst 1, 1, 0, 0), (7, .isub, 1, 0, 0), (8, .invokestatic 54, 3, 137, 0), (11, .ifCond .eq 19, 3, 30, 0), (14, .aload_n 0, 1, 0, 0), (15, .getfield 22, 3, 10, 4), (18, .iload_n 1, 1, 0, 0), (19, .iaload, 1, 0, 0), (20, .bipush 10, 2, 0, 0), (22, .irem, 1, 0, 0), (23, .ifCond .ne 7, 3, 30, 0), (26, .iconst 1, 1, 0, 0), (27, .goto 4, 3, 31, 0), (30, .iconst 0, 1, 0, 0), (31, .ireturn, 1, 0, 0)]
def zM119 : aM := (10, ⟨"AcresPaid$Texts", "isRate", "(I)Z"⟩, prog_12_method_4_code, 2, (Option.some .boolean), 1, 0, zI119)
def zI120 : List aI := [(0, .aload_n 0, 1, 0, 0), (1, .getfield 41, 3, 10, 7), (4, .iconst 1, 1, 0, 0), (5, .isub, 1, 0, 0), (6, .istore 4, 2, 0, 0), (8, .iload 4, 2, 0, 0), (10, .ifCond .lt 45, 3, 55, 0), (13, .aload_n 0, 1, 0, 0), (14, .getfield 22, 3, 10, 4), (17, .iload 4, 2, 0, 0), (19, .iaload, 1, 0, 0), (20, .iload_n 1, 1, 0, 0), (21, .if_icmp .ne 28, 3, 49, 0), (24, .aload_n 0, 1, 0, 0), (25, .getfield 25, 3, 10, 5), (28, .iload 4, 2, 0, 0), (30, .iaload, 1, 0, 0), (31, .iload_n 2, 1, 0, 0), (32, .if_icmp .gt 17, 3, 49, 0), (35, .aload_n 0, 1, 0, 0), (36, .getfield 28, 3, 10, 6), (39, .iload 4, 2, 0, 0), (41, .iaload, 1, 0, 0), (42, .iload_n 3, 1, 0, 0), (43, .if_icmp .gt 6, 3, 49, 0), (46, .iload 4, 2, 0, 0), (48, .ireturn, 1, 0, 0), (49, .iinc 4 (-1), 3, 0, 0), (52, .goto (-44), 3, 8, 0), (55, .iconst (-1), 1, 0, 0), (56, .ireturn, 1, 0, 0)]
def zM120 : aM := (10, ⟨"AcresPaid$Texts", "standing", "(III)I"⟩, prog_12_method_5_code, 5, (Option.some .int), 3, 0, zI120)
def zI121 : List aI := [(0, .aload_n 0, 1, 0, 0), (1, .iload_n 1, 1, 0, 0), (2, .aload_n 2, 1, 0, 0), (3, .invokevirtual 58, 3, 123, 0), (6, .iconst 0, 1, 0, 0), (7, .istore_n 3, 1, 0, 0), (8, .iload_n 3, 1, 0, 0), (9, .sipush 160, 3, 0, 0), (12, .if_icmp .ge 71, 3, 83, 0), (15, .aload_n 0, 1, 0, 0), (16, .iconst 0, 1, 0, 0), (17, .invokevirtual 62, 3, 128, 0), (20, .istore 4, 2, 0, 0), (22, .iconst 1, 1, 0, 0), (23, .istore 5, 2, 0, 0), (25, .aload_n 0, 1, 0, 0), (26, .bipush 63, 2, 0, 0), (28, .invokevirtual 65, 3, 125, 0), (31, .ifCond .eq 22, 3, 53, 0), (34, .iload 4, 2, 0, 0), (36, .ifCond .eq 7, 3, 43, 0), (39, .iconst 1, 1, 0, 0), (40, .goto 4, 3, 44, 0), (43, .iconst 0, 1, 0, 0), (44, .istore 5, 2, 0, 0), (46, .aload_n 0, 1, 0, 0), (47, .iconst 0, 1, 0, 0), (48, .invokevirtual 62, 3, 128, 0), (51, .istore 4, 2, 0, 0), (53, .iload 5, 2, 0, 0), (55, .ifCond .eq 11, 3, 66, 0), (58, .aload_n 0, 1, 0, 0), (59, .iload_n 3, 1, 0, 0), (60, .putfield 69, 3, 10, 14), (63, .iload 4, 2, 0, 0), (65, .ireturn, 1, 0, 0), (66, .aload_n 0, 1, 0, 0), (67, .bipush 59, 2, 0, 0), (69, .invokevirtual 65, 3, 125, 0), (72, .ifCond .ne 5, 3, 77, 0), (75, .iconst 0, 1, 0, 0), (76, .ireturn, 1, 0, 0), (77, .iinc 3 1, 3, 0, 0), (80, .goto (-72), 3, 8, 0), (83, .iconst 0, 1, 0, 0), (84, .ireturn, 1, 0, 0)]
def zM121 : aM := (10, ⟨"AcresPaid$Texts", "say", "(I[I)I"⟩, prog_12_method_6_code, 6, (Option.some .int), 2, 0, zI121)
def zI122 : List aI := [(0, .aload_n 0, 1, 0, 0), (1, .iload_n 1, 1, 0, 0), (2, .aload_n 0, 1, 0, 0), (3, .getfield 31, 3, 10, 8), (6, .invokevirtual 58, 3, 123, 0), (9, .iconst 1, 1, 0, 0), (10, .istore_n 2, 1, 0, 0), (11, .iconst 0, 1, 0, 0), (12, .istore_n 3, 1, 0, 0), (13, .iload_n 3, 1, 0, 0), (14, .sipush 160, 3, 0, 0), (17, .if_icmp .ge 41, 3, 58, 0), (20, .iload_n 2, 1, 0, 0), (21, .ifCond .eq 37, 3, 58, 0), (24, .aload_n 0, 1, 0, 0), (25, .iconst 0, 1, 0, 0), (26, .invokevirtual 62, 3, 128, 0), (29, .pop, 1, 0, 0), (30, .aload_n 0, 1, 0, 0), (31, .bipush 63, 2, 0, 0), (33, .invokevirtual 65, 3, 125, 0), (36, .ifCond .eq 9, 3, 45, 0), (39, .aload_n 0, 1, 0, 0), (40, .iconst 0, 1, 0, 0), (41, .invokevirtual 62, 3, 128, 0), (44, .pop, 1, 0, 0), (45, .aload_n 0, 1, 0, 0), (46, .bipush 59, 2, 0, 0), (48, .invokevirtual 65, 3, 125, 0), (51, .istore_n 2, 1, 0, 0), (52, .iinc 3 1, 3, 0, 0), (55, .goto (-42), 3, 13, 0), (58, .aload_n 0, 1, 0, 0), (59, .getfield 72, 3, 10, 12), (62, .iconst (-1), 1, 0, 0), (63, .if_icmp .ne 22, 3, 85, 0), (66, .aload_n 0, 1, 0, 0), (67, .getfield 75, 3, 10, 11), (70, .aload_n 0, 1, 0, 0), (71, .getfield 78, 3, 10, 10), (74, .if_icmp .ge 11, 3, 85, 0), (77, .aload_n 0, 1, 0, 0), (78, .aload_n 0, 1, 0, 0), (79, .getfield 75, 3, 10, 11), (82, .putfield 72, 3, 10, 12), (85, .aload_n 0, 1, 0, 0), (86, .getfield 72, 3, 10, 12), (89, .ireturn, 1, 0, 0)]
def zM122 : aM := (10, ⟨"AcresPaid$Texts", "faultOf", "(I)I"⟩, prog_12_method_7_code, 4, (Option.some .int), 1, 0, zI122)
def zI123 : List aI := [(0, .aload_n 0, 1, 0, 0), (1, .iload_n 1, 1, 0, 0), (2, .sipush 160, 3, 0, 0), (5, .imul, 1, 0, 0), (6, .putfield 81, 3, 10, 9), (9, .aload_n 0, 1, 0, 0), (10, .aload_n 0, 1, 0, 0), (11, .getfield 18, 3, 10, 3), (14, .iload_n 1, 1, 0, 0), (15, .iaload, 1, 0, 0), (16, .putfield 78, 3, 10, 10), (19, .aload_n 0, 1, 0, 0), (20, .iconst 0, 1, 0, 0), (21, .putfield 75, 3, 10, 11), (24, .aload_n 0, 1, 0, 0), (25, .iconst (-1), 1, 0, 0), (26, .putfield 72, 3, 10, 12), (29, .aload_n 0, 1, 0, 0), (30, .aload_n 2, 1, 0, 0), (31, .putfield 34, 3, 10, 13), (34, .aload_n 0, 1, 0, 0), (35, .iconst (-1), 1, 0, 0), (36, .putfield 69, 3, 10, 14), (39, .return_, 1, 0, 0)]
def zM123 : aM := (10, ⟨"AcresPaid$Texts", "open", "(I[I)V"⟩, prog_12_method_8_code, 3, none, 2, 0, zI123)
def zI124 : List aI := [(0, .aload_n 0, 1, 0, 0), (1, .getfield 72, 3, 10, 12), (4, .iconst (-1), 1, 0, 0), (5, .if_icmp .ne 35, 3, 40, 0), (8, .aload_n 0, 1, 0, 0), (9, .getfield 75, 3, 10, 11), (12, .aload_n 0, 1, 0, 0), (13, .getfield 78, 3, 10, 10), (16, .if_icmp .ge 24, 3, 40, 0), (19, .aload_n 0, 1, 0, 0), (20, .getfield 15, 3, 10, 2), (23, .aload_n 0, 1, 0, 0), (24, .getfield 81, 3, 10, 9), (27, .aload_n 0, 1, 0, 0), (28, .getfield 75, 3, 10, 11), (31, .iadd, 1, 0, 0), (32, .baload, 1, 0, 0), (33, .sipush 255, 3, 0, 0), (36, .iand, 1, 0, 0), (37, .goto 4, 3, 41, 0), (40, .iconst (-1), 1, 0, 0), (41, .ireturn, 1, 0, 0)]
def zM124 : aM := (10, ⟨"AcresPaid$Texts", "sign", "()I"⟩, prog_12_method_9_code, 1, (Option.some .int), 0, 0, zI124)
def zI125 : List aI := [(0, .aload_n 0, 1, 0, 0), (1, .invokevirtual 84, 3, 124, 0), (4, .iload_n 1, 1, 0, 0), (5, .if_icmp .ne 7, 3, 12, 0), (8, .iconst 1, 1, 0, 0), (9, .goto 4, 3, 13, 0), (12, .iconst 0, 1, 0, 0), (13, .istore_n 2, 1, 0, 0), (14, .aload_n 0, 1, 0, 0), (15, .dup, 1, 0, 0), (16, .getfield 75, 3, 10, 11), (19, .iload_n 2, 1, 0, 0), (20, .ifCond .eq 7, 3, 27, 0), (23, .iconst 1, 1, 0, 0), (24, .goto 4, 3, 28, 0), (27, .iconst 0, 1, 0, 0), (28, .iadd, 1, 0, 0), (29, .putfield 75, 3, 10, 11), (32, .iload_n 2, 1, 0, 0), (33, .ireturn, 1, 0, 0)]
def zM125 : aM := (10, ⟨"AcresPaid$Texts", "takes", "(C)Z"⟩, prog_12_method_10_code, 3, (Option.some .boolean), 1, 0, zI125)
def zI126 : List aI := [(0, .aload_n 0, 1, 0, 0), (1, .getfield 72, 3, 10, 12), (4, .iconst (-1), 1, 0, 0), (5, .if_icmp .ne 11, 3, 16, 0), (8, .aload_n 0, 1, 0, 0), (9, .aload_n 0, 1, 0, 0), (10, .getfield 75, 3, 10, 11), (13, .putfield 72, 3, 10, 12), (16, .return_, 1, 0, 0)]
def zM126 : aM := (10, ⟨"AcresPaid$Texts", "fail", "()V"⟩, prog_12_method_11_code, 1, none, 0, 0, zI126)
def zI127 : List aI := [(0, .iload_n 0, 1, 0, 0), (1, .ifCond .eq 7, 3, 8, 0), (4, .iconst 1, 1, 0, 0), (5, .goto 4, 3, 9, 0), (8, .iconst 0, 1, 0, 0), (9, .ireturn, 1, 0, 0)]
def zM127 : aM := (10, ⟨"AcresPaid$Texts", "truth", "(Z)I"⟩, prog_12_method_12_code, 1, (Option.some .int), 1, 1, zI127)
def zI128 : List aI := [(0, .aload_n 0, 1, 0, 0), (1, .iload_n 1, 1, 0, 0), (2, .invokevirtual 88, 3, 129, 0), (5, .istore_n 2, 1, 0, 0), (6, .iconst 0, 1, 0, 0), (7, .istore_n 3, 1, 0, 0), (8, .iload_n 3, 1, 0, 0), (9, .sipush 160, 3, 0, 0), (12, .if_icmp .ge 43, 3, 55, 0), (15, .aload_n 0, 1, 0, 0), (16, .bipush 124, 2, 0, 0), (18, .invokevirtual 65, 3, 125, 0), (21, .ifCond .eq 34, 3, 55, 0), (24, .aload_n 0, 1, 0, 0), (25, .iload_n 1, 1, 0, 0), (26, .invokevirtual 88, 3, 129, 0), (29, .istore 4, 2, 0, 0), (31, .iload_n 2, 1, 0, 0), (32, .ifCond .ne 8, 3, 40, 0), (35, .iload 4, 2, 0, 0), (37, .ifCond .eq 7, 3, 44, 0), (40, .iconst 1, 1, 0, 0), (41, .goto 4, 3, 45, 0), (44, .iconst 0, 1, 0, 0), (45, .invokestatic 91, 3, 127, 0), (48, .istore_n 2, 1, 0, 0), (49, .iinc 3 1, 3, 0, 0), (52, .goto (-44), 3, 8, 0), (55, .iload_n 2, 1, 0, 0), (56, .ireturn, 1, 0, 0)]
def zM128 : aM := (10, ⟨"AcresPaid$Texts", "either", "(I)I"⟩, prog_12_method_13_code, 5, (Option.some .int), 1, 0, zI128)
def zI129 : List aI := [(0, .aload_n 0, 1, 0, 0), (1, .iload_n 1, 1, 0, 0), (2, .invokevirtual 95, 3, 130, 0), (5, .istore_n 2, 1, 0, 0), (6, .iconst 0, 1, 0, 0), (7, .istore_n 3, 1, 0, 0), (8, .iload_n 3, 1, 0, 0), (9, .sipush 160, 3, 0, 0), (12, .if_icmp .ge 43, 3, 55, 0), (15, .aload_n 0, 1, 0, 0), (16, .bipush 38, 2, 0, 0), (18, .invokevirtual 65, 3, 125, 0), (21, .ifCond .eq 34, 3, 55, 0), (24, .aload_n 0, 1, 0, 0), (25, .iload_n 1, 1, 0, 0), (26, .invokevirtual 95, 3, 130, 0), (29, .istore 4, 2, 0, 0), (31, .iload_n 2, 1, 0, 0), (32, .ifCond .eq 12, 3, 44, 0), (35, .iload 4, 2, 0, 0), (37, .ifCond .eq 7, 3, 44, 0), (40, .iconst 1, 1, 0, 0), (41, .goto 4, 3, 45, 0), (44, .iconst 0, 1, 0, 0), (45, .invokestatic 91, 3, 127, 0), (48, .istore_n 2, 1, 0, 0), (49, .iinc 3 1, 3, 0, 0), (52, .goto (-44), 3, 8, 0), (55, .iload_n 2, 1, 0, 0), (56, .ireturn, 1, 0, 0)]
def zM129 : aM := (10, ⟨"AcresPaid$Texts", "both", "(I)I"⟩, prog_12_method_14_code, 5, (Option.some .int), 1, 0, zI129)
def zI130 : List aI := [(0, .aload_n 0, 1, 0, 0), (1, .iload_n 1, 1, 0, 0), (2, .invokevirtual 98, 3, 131, 0), (5, .istore_n 2, 1, 0, 0), (6, .aload_n 0, 1, 0, 0), (7, .bipush 60, 2, 0, 0), (9, .invokevirtual 65, 3, 125, 0), (12, .ifCond .eq 21, 3, 33, 0), (15, .iload_n 2, 1, 0, 0), (16, .aload_n 0, 1, 0, 0), (17, .iload_n 1, 1, 0, 0), (18, .invokevirtual 98, 3, 131, 0), (21, .if_icmp .ge 7, 3, 28, 0), (24, .iconst 1, 1, 0, 0), (25, .goto 4, 3, 29, 0), (28, .iconst 0, 1, 0, 0), (29, .invokestatic 91, 3, 127, 0), (32, .ireturn, 1, 0, 0), (33, .aload_n 0, 1, 0, 0), (34, .bipush 61, 2, 0, 0), (36, .invokevirtual 65, 3, 125, 0), (39, .ifCond .eq 21, 3, 60, 0), (42, .iload_n 2, 1, 0, 0), (43, .aload_n 0, 1, 0, 0), (44, .iload_n 1, 1, 0, 0), (45, .invokevirtual 98, 3, 131, 0), (48, .if_icmp .ne 7, 3, 55, 0), (51, .iconst 1, 1, 0, 0), (52, .goto 4, 3, 56, 0), (55, .iconst 0, 1, 0, 0), (56, .invokestatic 91, 3, 127, 0), (59, .ireturn, 1, 0, 0), (60, .aload_n 0, 1, 0, 0), (61, .bipush 62, 2, 0, 0), (63, .invokevirtual 65, 3, 125, 0), (66, .ifCond .eq 21, 3, 87, 0), (69, .iload_n 2, 1, 0, 0), (70, .aload_n 0, 1, 0, 0), (71, .iload_n 1, 1, 0, 0), (72, .invokevirtual 98, 3, 131, 0), (75, .if_icmp .le 7, 3, 82, 0), (78, .iconst 1, 1, 0, 0), (79, .goto 4, 3, 83, 0), (82, .iconst 0, 1, 0, 0), (83, .invokestatic 91, 3, 127, 0), (86, .ireturn, 1, 0, 0), (87, .iload_n 2, 1, 0, 0), (88, .ireturn, 1, 0, 0)]
def zM130 : aM := (10, ⟨"AcresPaid$Texts", "compared", "(I)I"⟩, prog_12_method_15_code, 3, (Option.some .int), 1, 0, zI130)
def zI131 : List aI := [(0, .aload_n 0, 1, 0, 0), (1, .iload_n 1, 1, 0, 0), (2, .invokevirtual 101, 3, 132, 0), (5, .istore_n 2, 1, 0, 0), (6, .iconst 0, 1, 0, 0), (7, .istore_n 3, 1, 0, 0), (8, .iload_n 3, 1, 0, 0), (9, .sipush 160, 3, 0, 0), (12, .if_icmp .ge 51, 3, 63, 0), (15, .aload_n 0, 1, 0, 0), (16, .bipush 43, 2, 0, 0), (18, .invokevirtual 65, 3, 125, 0), (21, .ifCond .eq 14, 3, 35, 0), (24, .iload_n 2, 1, 0, 0), (25, .aload_n 0, 1, 0, 0), (26, .iload_n 1, 1, 0, 0), (27, .invokevirtual 101, 3, 132, 0), (30, .iadd, 1, 0, 0), (31, .istore_n 2, 1, 0, 0), (32, .goto 25, 3, 57, 0), (35, .aload_n 0, 1, 0, 0), (36, .bipush 45, 2, 0, 0), (38, .invokevirtual 65, 3, 125, 0), (41, .ifCond .eq 14, 3, 55, 0), (44, .iload_n 2, 1, 0, 0), (45, .aload_n 0, 1, 0, 0), (46, .iload_n 1, 1, 0, 0), (47, .invokevirtual 101, 3, 132, 0), (50, .isub, 1, 0, 0), (51, .istore_n 2, 1, 0, 0), (52, .goto 5, 3, 57, 0), (55, .iload_n 2, 1, 0, 0), (56, .ireturn, 1, 0, 0), (57, .iinc 3 1, 3, 0, 0), (60, .goto (-52), 3, 8, 0), (63, .iload_n 2, 1, 0, 0), (64, .ireturn, 1, 0, 0)]
def zM131 : aM := (10, ⟨"AcresPaid$Texts", "sum", "(I)I"⟩, prog_12_method_16_code, 4, (Option.some .int), 1, 0, zI131)
def zI132 : List aI := [(0, .aload_n 0, 1, 0, 0), (1, .iload_n 1, 1, 0, 0), (2, .invokevirtual 104, 3, 133, 0), (5, .istore_n 2, 1, 0, 0), (6, .iconst 0, 1, 0, 0), (7, .istore_n 3, 1, 0, 0), (8, .iload_n 3, 1, 0, 0), (9, .sipush 160, 3, 0, 0), (12, .if_icmp .ge 97, 3, 109, 0), (15, .aload_n 0, 1, 0, 0), (16, .bipush 42, 2, 0, 0), (18, .invokevirtual 65, 3, 125, 0), (21, .ifCond .eq 14, 3, 35, 0), (24, .iload_n 2, 1, 0, 0), (25, .aload_n 0, 1, 0, 0), (26, .iload_n 1, 1, 0, 0), (27, .invokevirtual 104, 3, 133, 0), (30, .imul, 1, 0, 0), (31, .istore_n 2, 1, 0, 0), (32, .goto 71, 3, 103, 0), (35, .aload_n 0, 1, 0, 0), (36, .bipush 47, 2, 0, 0), (38, .invokevirtual 65, 3, 125, 0), (41, .ifCond .eq 27, 3, 68, 0), (44, .aload_n 0, 1, 0, 0), (45, .iload_n 1, 1, 0, 0), (46, .invokevirtual 104, 3, 133, 0), (49, .istore 4, 2, 0, 0), (51, .iload 4, 2, 0, 0), (53, .ifCond .ne 7, 3, 60, 0), (56, .iconst 0, 1, 0, 0), (57, .goto 7, 3, 64, 0), (60, .iload_n 2, 1, 0, 0), (61, .iload 4, 2, 0, 0), (63, .idiv, 1, 0, 0), (64, .istore_n 2, 1, 0, 0), (65, .goto 38, 3, 103, 0), (68, .aload_n 0, 1, 0, 0), (69, .bipush 37, 2, 0, 0), (71, .invokevirtual 65, 3, 125, 0), (74, .ifCond .eq 27, 3, 101, 0), (77, .aload_n 0, 1, 0, 0), (78, .iload_n 1, 1, 0, 0), (79, .invokevirtual 104, 3, 133, 0), (82, .istore 4, 2, 0, 0), (84, .iload 4, 2, 0, 0), (86, .ifCond .ne 7, 3, 93, 0), (89, .iconst 0, 1, 0, 0), (90, .goto 7, 3, 97, 0), (93, .iload_n 2, 1, 0, 0), (94, .iload 4, 2, 0, 0), (96, .irem, 1, 0, 0), (97, .istore_n 2, 1, 0, 0), (98, .goto 5, 3, 103, 0), (101, .iload_n 2, 1, 0, 0), (102, .ireturn, 1, 0, 0), (103, .iinc 3 1, 3, 0, 0), (106, .goto (-98), 3, 8, 0), (109, .iload_n 2, 1, 0, 0), (110, .ireturn, 1, 0, 0)]
def zM132 : aM := (10, ⟨"AcresPaid$Texts", "product", "(I)I"⟩, prog_12_method_17_code, 5, (Option.some .int), 1, 0, zI132)
def zI133 : List aI := [(0, .aload_n 0, 1, 0, 0), (1, .invokevirtual 84, 3, 124, 0), (4, .istore_n 2, 1, 0, 0), (5, .iload_n 2, 1, 0, 0), (6, .invokestatic 107, 3, 134, 0), (9, .ifCond .eq 8, 3, 17, 0), (12, .aload_n 0, 1, 0, 0), (13, .invokevirtual 111, 3, 135, 0), (16, .ireturn, 1, 0, 0), (17, .iload_n 2, 1, 0, 0), (18, .iconst (-1), 1, 0, 0), (19, .if_icmp .ne 7, 3, 26, 0), (22, .iconst (-1), 1, 0, 0), (23, .goto 10, 3, 33, 0), (28, .iload_n 2, 1, 0, 0), (29, .i2c, 1, 0, 0), (30, .invokevirtual 116, 3, 1001, 0), (33, .istore_n 3, 1, 0, 0), (34, .iload_n 3, 1, 0, 0), (35, .iconst (-1), 1, 0, 0), (36, .if_icmp .eq 20, 3, 56, 0), (39, .aload_n 0, 1, 0, 0), (40, .dup, 1, 0, 0), (41, .getfield 75, 3, 10, 11), (44, .iconst 1, 1, 0, 0), (45, .iadd, 1, 0, 0), (46, .putfield 75, 3, 10, 11), (49, .aload_n 0, 1, 0, 0), (50, .getfield 34, 3, 10, 13), (53, .iload_n 3, 1, 0, 0), (54, .iaload, 1, 0, 0), (55, .ireturn, 1, 0, 0), (56, .iload_n 1, 1, 0, 0), (57, .bipush 8, 2, 0, 0), (59, .if_icmp .lt 9, 3, 68, 0), (62, .aload_n 0, 1, 0, 0), (63, .invokevirtual 121, 3, 126, 0), (66, .iconst 0, 1, 0, 0), (67, .ireturn, 1, 0, 0), (68, .aload_n 0, 1, 0, 0), (69, .bipush 33, 2, 0, 0), (71, .invokevirtual 65, 3, 125, 0), (74, .ifCond .eq 22, 3, 96, 0), (77, .aload_n 0, 1, 0, 0), (78, .iload_n 1, 1, 0, 0), (79, .iconst 1, 1, 0, 0), (80, .iadd, 1, 0, 0), (81, .invokevirtual 104, 3, 133, 0), (84, .ifCond .ne 7, 3, 91, 0), (87, .iconst 1, 1, 0, 0), (88, .goto 4, 3, 92, 0), (91, .iconst 0, 1, 0, 0), (92, .invokestatic 91, 3, 127, 0), (95, .ireturn, 1, 0, 0), (96, .aload_n 0, 1, 0, 0), (97, .bipush 45, 2, 0, 0), (99, .invokevirtual 65, 3, 125, 0), (102, .ifCond .eq 12, 3, 114, 0), (105, .aload_n 0, 1, 0, 0), (106, .iload_n 1, 1, 0, 0), (107, .iconst 1, 1, 0, 0), (108, .iadd, 1, 0, 0), (109, .invokevirtual 104, 3, 133, 0), (112, .ineg, 1, 0, 0), (113, .ireturn, 1, 0, 0), (114, .aload_n 0, 1, 0, 0), (115, .bipush 40, 2, 0, 0), (117, .invokevirtual 65, 3, 125, 0), (120, .ifCond .ne 9, 3, 129, 0), (123, .aload_n 0, 1, 0, 0), (124, .invokevirtual 121, 3, 126, 0), (127, .iconst 0, 1, 0, 0), (128, .ireturn, 1, 0, 0), (129, .aload_n 0, 1, 0, 0), (130, .iload_n 1, 1, 0, 0), (131, .iconst 1, 1, 0, 0), (132, .iadd, 1, 0, 0), (133, .invokevirtual 62, 3, 128, 0), (136, .istore 4, 2, 0, 0), (138, .aload_n 0, 1, 0, 0), (139, .bipush 41, 2, 0, 0), (141, .invokevirtual 65, 3, 125, 0), (144, .ifCond .ne 7, 3, 151, 0), (147, .aload_n 0, 1, 0, 0), (148, .invokevirtual 121, 3, 126, 0), (151, .iload 4, 2, 0, 0), (153, .ireturn, 1, 0, 0)]
def zM133 : aM := (10, ⟨"AcresPaid$Texts", "operand", "(I)I"⟩, prog_12_method_18_code, 5, (Option.some .int), 1, 0, zI133)
def zI134 : List aI := [(0, .bipush 48, 2, 0, 0), (2, .iload_n 0, 1, 0, 0), (3, .if_icmp .gt 13, 3, 16, 0), (6, .iload_n 0, 1, 0, 0), (7, .bipush 57, 2, 0, 0), (9, .if_icmp .gt 7, 3, 16, 0), (12, .iconst 1, 1, 0, 0), (13, .goto 4, 3, 17, 0), (16, .iconst 0, 1, 0, 0), (17, .ireturn, 1, 0, 0)]
def zM134 : aM := (10, ⟨"AcresPaid$Texts", "isDigit", "(I)Z"⟩, prog_12_method_19_code, 1, (Option.some .boolean), 1, 1, zI134)
def zI135 : List aI := [(0, .iconst 0, 1, 0, 0), (1, .istore_n 1, 1, 0, 0), (2, .iconst 0, 1, 0, 0), (3, .istore_n 2, 1, 0, 0), (4, .iload_n 2, 1, 0, 0), (5, .bipush 6, 2, 0, 0), (7, .if_icmp .ge 42, 3, 49, 0), (10, .aload_n 0, 1, 0, 0), (11, .invokevirtual 84, 3, 124, 0), (14, .invokestatic 107, 3, 134, 0), (17, .ifCond .eq 32, 3, 49, 0), (20, .iload_n 1, 1, 0, 0), (21, .bipush 10, 2, 0, 0), (23, .imul, 1, 0, 0), (24, .aload_n 0, 1, 0, 0), (25, .invokevirtual 84, 3, 124, 0), (28, .iadd, 1, 0, 0), (29, .bipush 48, 2, 0, 0), (31, .isub, 1, 0, 0), (32, .istore_n 1, 1, 0, 0), (33, .aload_n 0, 1, 0, 0), (34, .dup, 1, 0, 0), (35, .getfield 75, 3, 10, 11), (38, .iconst 1, 1, 0, 0), (39, .iadd, 1, 0, 0), (40, .putfield 75, 3, 10, 11), (43, .iinc 2 1, 3, 0, 0), (46, .goto (-42), 3, 4, 0), (49, .iload_n 1, 1, 0, 0), (50, .ireturn, 1, 0, 0)]
def zM135 : aM := (10, ⟨"AcresPaid$Texts", "number", "()I"⟩, prog_12_method_20_code, 3, (Option.some .int), 0, 0, zI135)
def zI136 : List aI := [(0, .aload_n 0, 1, 0, 0), (1, .invokespecial 3, 3, 1000, 0), (4, .aload_n 0, 1, 0, 0), (5, .new 9, 3, 6, 0), (8, .dup, 1, 0, 0), (9, .invokespecial 11, 3, 70, 0), (12, .putfield 12, 3, 11, 0), (15, .aload_n 0, 1, 0, 0), (16, .new 16, 3, 7, 0), (19, .dup, 1, 0, 0), (20, .invokespecial 18, 3, 87, 0), (23, .putfield 19, 3, 11, 1), (26, .aload_n 0, 1, 0, 0), (27, .new 23, 3, 2, 0), (30, .dup, 1, 0, 0), (31, .aload_n 0, 1, 0, 0), (32, .getfield 12, 3, 11, 0), (35, .invokespecial 25, 3, 26, 0), (38, .putfield 28, 3, 11, 2), (41, .aload_n 0, 1, 0, 0), (42, .new 32, 3, 10, 0), (45, .dup, 1, 0, 0), (46, .invokespecial 34, 3, 116, 0), (49, .putfield 35, 3, 11, 3), (52, .aload_n 0, 1, 0, 0), (53, .new 39, 3, 0, 0), (56, .dup, 1, 0, 0), (57, .aload_n 0, 1, 0, 0), (58, .getfield 12, 3, 11, 0), (61, .aload_n 0, 1, 0, 0), (62, .getfield 28, 3, 11, 2), (65, .aload_n 0, 1, 0, 0), (66, .getfield 35, 3, 11, 3), (69, .invokespecial 41, 3, 0, 0), (72, .putfield 44, 3, 11, 4), (75, .aload_n 0, 1, 0, 0), (76, .new 48, 3, 5, 0), (79, .dup, 1, 0, 0), (80, .aload_n 0, 1, 0, 0), (81, .getfield 12, 3, 11, 0), (84, .aload_n 0, 1, 0, 0), (85, .getfield 28, 3, 11, 2), (88, .aload_n 0, 1, 0, 0), (89, .getfield 44, 3, 11, 4), (92, .invokespecial 50, 3, 52, 0), (95, .putfield 53, 3, 11, 5), (98, .aload_n 0, 1, 0, 0), (99, .new 57, 3, 4, 0), (102, .dup, 1, 0, 0), (103, .invokespecial 59, 3, 44, 0), (106, .putfield 60, 3, 11, 6), (109, .aload_n 0, 1, 0, 0), (110, .new 64, 3, 3, 0), (113, .dup, 1, 0, 0), (114, .invokespecial 66, 3, 39, 0), (117, .putfield 67, 3, 11, 7), (120, .aload_n 0, 1, 0, 0), (121, .new 71, 3, 1, 0), (124, .dup, 1, 0, 0), (125, .invokespecial 73, 3, 19, 0), (128, .putfield 74, 3, 11, 8), (131, .aload_n 0, 1, 0, 0), (132, .new 78, 3, 9, 0), (135, .dup, 1, 0, 0), (136, .invokespecial 80, 3, 106, 0), (139, .putfield 81, 3, 11, 9), (142, .return_, 1, 0, 0)]
def zM136 : aM := (11, ⟨"AcresPaid", "<init>", "()V"⟩, prog_1_method_1_code, 1, none, 0, 2, zI136)
def zI137 : List aI := [(0, .iload_n 1, 1, 0, 0), (1, .iload_n 0, 1, 0, 0), (2, .if_icmp .gt 12, 3, 14, 0), (5, .iload_n 0, 1, 0, 0), (6, .iload_n 2, 1, 0, 0), (7, .if_icmp .gt 7, 3, 14, 0), (10, .iconst 1, 1, 0, 0), (11, .goto 4, 3, 15, 0), (14, .iconst 0, 1, 0, 0), (15, .ireturn, 1, 0, 0)]
def zM137 : aM := (11, ⟨"AcresPaid", "within", "(III)Z"⟩, prog_1_method_2_code, 3, (Option.some .boolean), 3, 1, zI137)
def zI138 : List aI := [(0, .iload_n 0, 1, 0, 0), (1, .iconst 0, 1, 0, 0), (2, .sipush 3649, 3, 0, 0), (5, .invokestatic 85, 3, 137, 0), (8, .ireturn, 1, 0, 0)]
def zM138 : aM := (11, ⟨"AcresPaid", "isDay", "(I)Z"⟩, prog_1_method_3_code, 1, (Option.some .boolean), 1, 1, zI138)
def zI139 : List aI := [(0, .iload_n 0, 1, 0, 0), (1, .iconst 0, 1, 0, 0), (2, .bipush 9, 2, 0, 0), (4, .invokestatic 85, 3, 137, 0), (7, .ireturn, 1, 0, 0)]
def zM139 : aM := (11, ⟨"AcresPaid", "isYear", "(I)Z"⟩, prog_1_method_4_code, 1, (Option.some .boolean), 1, 1, zI139)
def zI140 : List aI := [(0, .iload_n 0, 1, 0, 0), (1, .iconst 0, 1, 0, 0), (2, .iconst 3, 1, 0, 0), (3, .invokestatic 85, 3, 137, 0), (6, .ireturn, 1, 0, 0)]
def zM140 : aM := (11, ⟨"AcresPaid", "isLand", "(I)Z"⟩, prog_1_method_5_code, 1, (Option.some .boolean), 1, 1, zI140)
def zI141 : List aI := [(0, .iload_n 0, 1, 0, 0), (1, .iconst 0, 1, 0, 0), (2, .bipush 7, 2, 0, 0), (4, .invokestatic 85, 3, 137, 0), (7, .ireturn, 1, 0, 0)]
def zM141 : aM := (11, ⟨"AcresPaid", "isCrop", "(I)Z"⟩, prog_1_method_6_code, 1, (Option.some .boolean), 1, 1, zI141)
def zI142 : List aI := [(0, .iload_n 0, 1, 0, 0), (1, .iconst 0, 1, 0, 0), (2, .iconst 5, 1, 0, 0), (3, .invokestatic 85, 3, 137, 0), (6, .ireturn, 1, 0, 0)]
def zM142 : aM := (11, ⟨"AcresPaid", "isShelf", "(I)Z"⟩, prog_1_method_7_code, 1, (Option.some .boolean), 1, 1, zI142)
def zI143 : List aI := [(0, .iload_n 0, 1, 0, 0), (1, .ifCond .lt 25, 3, 26, 0), (4, .iload_n 0, 1, 0, 0), (5, .bipush 10, 2, 0, 0), (7, .idiv, 1, 0, 0), (8, .invokestatic 89, 3, 140, 0), (11, .ifCond .eq 15, 3, 26, 0), (14, .iload_n 0, 1, 0, 0), (15, .bipush 10, 2, 0, 0), (17, .irem, 1, 0, 0), (18, .iconst 4, 1, 0, 0), (19, .if_icmp .ge 7, 3, 26, 0), (22, .iconst 1, 1, 0, 0), (23, .goto 4, 3, 27, 0), (26, .iconst 0, 1, 0, 0), (27, .ireturn, 1, 0, 0)]
def zM143 : aM := (11, ⟨"AcresPaid", "isUse", "(I)Z"⟩, prog_1_method_8_code, 1, (Option.some .boolean), 1, 1, zI143)
def zI144 : List aI := [(0, .iload_n 1, 1, 0, 0), (1, .iconst 1, 1, 0, 0), (2, .sipush 365, 3, 0, 0), (5, .invokestatic 85, 3, 137, 0), (8, .ifCond .eq 18, 3, 26, 0), (11, .aload_n 0, 1, 0, 0), (12, .getfield 12, 3, 11, 0), (15, .getfield 93, 3, 6, 0), (18, .iload_n 1, 1, 0, 0), (19, .iadd, 1, 0, 0), (20, .sipush 3649, 3, 0, 0), (23, .if_icmp .le 5, 3, 28, 0), (26, .iconst (-1), 1, 0, 0), (27, .ireturn, 1, 0, 0), (28, .aload_n 0, 1, 0, 0), (29, .getfield 12, 3, 11, 0), (32, .dup, 1, 0, 0), (33, .getfield 93, 3, 6, 0), (36, .iload_n 1, 1, 0, 0), (37, .iadd, 1, 0, 0), (38, .putfield 93, 3, 6, 0), (41, .aload_n 0, 1, 0, 0), (42, .getfield 12, 3, 11, 0), (45, .getfield 93, 3, 6, 0), (48, .ireturn, 1, 0, 0)]
def zM144 : aM := (11, ⟨"AcresPaid", "days", "(I)I"⟩, prog_1_method_9_code, 2, (Option.some .int), 1, 0, zI144)
def zI145 : List aI := [(0, .aload_n 0, 1, 0, 0), (1, .getfield 12, 3, 11, 0), (4, .invokevirtual 97, 3, 73, 0), (7, .ifCond .eq 8, 3, 15, 0), (10, .bipush (-3), 2, 0, 0), (12, .goto 13, 3, 25, 0), (15, .aload_n 0, 1, 0, 0), (16, .getfield 12, 3, 11, 0), (19, .iconst 0, 1, 0, 0), (20, .iconst 0, 1, 0, 0), (21, .iconst (-1), 1, 0, 0), (22, .invokevirtual 101, 3, 79, 0), (25, .ireturn, 1, 0, 0)]
def zM145 : aM := (11, ⟨"AcresPaid", "body", "()I"⟩, prog_1_method_10_code, 1, (Option.some .int), 0, 0, zI145)
def zI146 : List aI := [(0, .iload_n 1, 1, 0, 0), (1, .invokestatic 105, 3, 71, 0), (4, .ifCond .eq 10, 3, 14, 0), (7, .iload_n 2, 1, 0, 0), (8, .invokestatic 89, 3, 140, 0), (11, .ifCond .ne 5, 3, 16, 0), (14, .iconst (-1), 1, 0, 0), (15, .ireturn, 1, 0, 0), (16, .aload_n 0, 1, 0, 0), (17, .getfield 12, 3, 11, 0), (20, .invokevirtual 97, 3, 73, 0), (23, .ifCond .eq 8, 3, 31, 0), (26, .bipush (-3), 2, 0, 0), (28, .goto 13, 3, 41, 0), (31, .aload_n 0, 1, 0, 0), (32, .getfield 12, 3, 11, 0), (35, .iload_n 1, 1, 0, 0), (36, .iload_n 2, 1, 0, 0), (37, .iconst (-1), 1, 0, 0), (38, .invokevirtual 101, 3, 79, 0), (41, .ireturn, 1, 0, 0)]
def zM146 : aM := (11, ⟨"AcresPaid", "farm", "(II)I"⟩, prog_1_method_11_code, 3, (Option.some .int), 2, 0, zI146)
def zI147 : List aI := [(0, .iload_n 1, 1, 0, 0), (1, .iconst 0, 1, 0, 0), (2, .bipush 24, 2, 0, 0), (4, .invokestatic 85, 3, 137, 0), (7, .ifCond .eq 13, 3, 20, 0), (10, .iload_n 2, 1, 0, 0), (11, .iconst 0, 1, 0, 0), (12, .bipush 24, 2, 0, 0), (14, .invokestatic 85, 3, 137, 0), (17, .ifCond .ne 5, 3, 22, 0), (20, .iconst (-1), 1, 0, 0), (21, .ireturn, 1, 0, 0), (22, .aload_n 0, 1, 0, 0), (23, .getfield 19, 3, 11, 1), (26, .getfield 108, 3, 7, 2), (29, .bipush 12, 2, 0, 0), (31, .if_icmp .lt 8, 3, 39, 0), (34, .bipush (-3), 2, 0, 0), (36, .goto 12, 3, 48, 0), (39, .aload_n 0, 1, 0, 0), (40, .getfield 19, 3, 11, 1), (43, .iload_n 1, 1, 0, 0), (44, .iload_n 2, 1, 0, 0), (45, .invokevirtual 111, 3, 88, 0), (48, .ireturn, 1, 0, 0)]
def zM147 : aM := (11, ⟨"AcresPaid", "corner", "(II)I"⟩, prog_1_method_12_code, 3, (Option.some .int), 2, 0, zI147)
def zI148 : List aI := [(0, .aload_n 0, 1, 0, 0), (1, .getfield 19, 3, 11, 1), (4, .getfield 108, 3, 7, 2), (7, .istore_n 1, 1, 0, 0), (8, .aload_n 0, 1, 0, 0), (9, .getfield 19, 3, 11, 1), (12, .iconst 0, 1, 0, 0), (13, .putfield 108, 3, 7, 2), (16, .iload_n 1, 1, 0, 0), (17, .ireturn, 1, 0, 0)]
def zM148 : aM := (11, ⟨"AcresPaid", "uncorner", "()I"⟩, prog_1_method_13_code, 2, (Option.some .int), 0, 0, zI148)
def zI149 : List aI := [(0, .aload_n 0, 1, 0, 0), (1, .getfield 19, 3, 11, 1), (4, .invokevirtual 114, 3, 89, 0), (7, .ifCond .eq 13, 3, 20, 0), (10, .aload_n 0, 1, 0, 0), (11, .getfield 19, 3, 11, 1), (14, .invokevirtual 117, 3, 90, 0), (17, .goto 5, 3, 22, 0), (20, .bipush (-2), 2, 0, 0), (22, .ireturn, 1, 0, 0)]
def zM149 : aM := (11, ⟨"AcresPaid", "area", "()I"⟩, prog_1_method_14_code, 1, (Option.some .int), 0, 0, zI149)
def zI150 : List aI := [(0, .aload_n 0, 1, 0, 0), (1, .getfield 12, 3, 11, 0), (4, .iload_n 1, 1, 0, 0), (5, .invokevirtual 121, 3, 75, 0), (8, .ifCond .eq 12, 3, 20, 0), (11, .iload_n 2, 1, 0, 0), (12, .iconst 0, 1, 0, 0), (13, .iconst 1, 1, 0, 0), (14, .invokestatic 85, 3, 137, 0), (17, .ifCond .ne 5, 3, 22, 0), (20, .iconst (-1), 1, 0, 0), (21, .ireturn, 1, 0, 0), (22, .aload_n 0, 1, 0, 0), (23, .getfield 19, 3, 11, 1), (26, .invokevirtual 114, 3, 89, 0), (29, .ifCond .ne 6, 3, 35, 0), (32, .bipush (-2), 2, 0, 0), (34, .ireturn, 1, 0, 0), (35, .aload_n 0, 1, 0, 0), (36, .getfield 12, 3, 11, 0), (39, .invokevirtual 97, 3, 73, 0), (42, .ifCond .eq 6, 3, 48, 0), (45, .bipush (-3), 2, 0, 0), (47, .ireturn, 1, 0, 0), (48, .aload_n 0, 1, 0, 0), (49, .getfield 12, 3, 11, 0), (52, .iload_n 2, 1, 0, 0), (53, .iconst 1, 1, 0, 0), (54, .if_icmp .ne 7, 3, 61, 0), (57, .iconst 5, 1, 0, 0), (58, .goto 4, 3, 62, 0), (61, .iconst 4, 1, 0, 0), (62, .aload_n 0, 1, 0, 0), (63, .getfield 19, 3, 11, 1), (66, .invokevirtual 117, 3, 90, 0), (69, .iload_n 1, 1, 0, 0), (70, .invokevirtual 101, 3, 79, 0), (73, .istore_n 3, 1, 0, 0), (74, .aload_n 0, 1, 0, 0), (75, .getfield 12, 3, 11, 0), (78, .iload_n 3, 1, 0, 0), (79, .aload_n 0, 1, 0, 0), (80, .getfield 19, 3, 11, 1), (83, .invokevirtual 124, 3, 81, 0), (86, .aload_n 0, 1, 0, 0), (87, .getfield 19, 3, 11, 1), (90, .iconst 0, 1, 0, 0), (91, .putfield 108, 3, 7, 2), (94, .iload_n 3, 1, 0, 0), (95, .ireturn, 1, 0, 0)]
def zM150 : aM := (11, ⟨"AcresPaid", "field", "(II)I"⟩, prog_1_method_15_code, 4, (Option.some .int), 2, 0, zI150)
def zI151 : List aI := [(0, .iload_n 1, 1, 0, 0), (1, .iconst 1, 1, 0, 0), (2, .sipush 999, 3, 0, 0), (5, .invokestatic 85, 3, 137, 0), (8, .ifCond .ne 5, 3, 13, 0), (11, .iconst (-1), 1, 0, 0), (12, .ireturn, 1, 0, 0), (13, .aload_n 0, 1, 0, 0), (14, .getfield 12, 3, 11, 0), (17, .invokevirtual 97, 3, 73, 0), (20, .ifCond .eq 8, 3, 28, 0), (23, .bipush (-3), 2, 0, 0), (25, .goto 11, 3, 36, 0), (28, .aload_n 0, 1, 0, 0), (29, .getfield 12, 3, 11, 0), (32, .iload_n 1, 1, 0, 0), (33, .invokevirtual 128, 3, 80, 0), (36, .ireturn, 1, 0, 0)]
def zM151 : aM := (11, ⟨"AcresPaid", "permit", "(I)I"⟩, prog_1_method_16_code, 2, (Option.some .int), 1, 0, zI151)
def zI152 : List aI := [(0, .aload_n 0, 1, 0, 0), (1, .getfield 12, 3, 11, 0), (4, .iload_n 1, 1, 0, 0), (5, .invokevirtual 132, 3, 74, 0), (8, .ifCond .ne 6, 3, 14, 0), (11, .ldc 135, 2, 2294967296, 0), (13, .ireturn, 1, 0, 0), (14, .aload_n 0, 1, 0, 0), (15, .getfield 12, 3, 11, 0), (18, .iload_n 1, 1, 0, 0), (19, .invokevirtual 136, 3, 77, 0), (22, .istore_n 3, 1, 0, 0), (23, .aload_n 0, 1, 0, 0), (24, .getfield 12, 3, 11, 0), (27, .getfield 139, 3, 6, 7), (30, .iload_n 1, 1, 0, 0), (31, .iaload, 1, 0, 0), (32, .bipush 6, 2, 0, 0), (34, .if_icmp .ne 7, 3, 41, 0), (37, .iconst 1, 1, 0, 0), (38, .goto 4, 3, 42, 0), (41, .iconst 0, 1, 0, 0), (42, .istore 4, 2, 0, 0), (44, .iload_n 2, 1, 0, 0), (45, .tableswitch 147 0 4 #[35, 45, 72, 91, 110], 35, 0, 0), (80, .aload_n 0, 1, 0, 0), (81, .getfield 12, 3, 11, 0), (84, .getfield 139, 3, 6, 7), (87, .iload_n 1, 1, 0, 0), (88, .iaload, 1, 0, 0), (89, .ireturn, 1, 0, 0), (90, .aload_n 0, 1, 0, 0), (91, .getfield 12, 3, 11, 0), (94, .getfield 139, 3, 6, 7), (97, .iload_n 1, 1, 0, 0), (98, .iaload, 1, 0, 0), (99, .ifCond .ne 8, 3, 107, 0), (102, .ldc 135, 2, 2294967296, 0), (104, .goto 12, 3, 116, 0), (107, .aload_n 0, 1, 0, 0), (108, .getfield 12, 3, 11, 0), (111, .getfield 143, 3, 6, 8), (114, .iload_n 1, 1, 0, 0), (115, .iaload, 1, 0, 0), (116, .ireturn, 1, 0, 0), (117, .iload_n 3, 1, 0, 0), (118, .ifCond .eq 15, 3, 133, 0), (121, .aload_n 0, 1, 0, 0), (122, .getfield 12, 3, 11, 0), (125, .getfield 146, 3, 6, 9), (128, .iload_n 1, 1, 0, 0), (129, .iaload, 1, 0, 0), (130, .goto 5, 3, 135, 0), (133, .ldc 135, 2, 2294967296, 0), (135, .ireturn, 1, 0, 0), (136, .iload_n 3, 1, 0, 0), (137, .ifCond .eq 15, 3, 152, 0), (140, .aload_n 0, 1, 0, 0), (141, .getfield 12, 3, 11, 0), (144, .getfield 149, 3, 6, 10), (147, .iload_n 1, 1, 0, 0), (148, .iaload, 1, 0, 0), (149, .goto 5, 3, 154, 0), (152, .ldc 135, 2, 2294967296, 0), (154, .ireturn, 1, 0, 0), (155, .iload_n 3, 1, 0, 0), (156, .ifCond .ne 8, 3, 164, 0), (159, .iload 4, 2, 0, 0), (161, .ifCond .eq 28, 3, 189, 0), (164, .aload_n 0, 1, 0, 0), (165, .getfield 12, 3, 11, 0), (168, .iload_n 1, 1, 0, 0), (169, .aload_n 0, 1, 0, 0), (170, .getfield 12, 3, 11, 0), (173, .getfield 93, 3, 6, 0), (176, .aload_n 0, 1, 0, 0), (177, .getfield 12, 3, 11, 0), (180, .getfield 93, 3, 6, 0), (183, .invokevirtual 152, 3, 86, 0), (186, .goto 5, 3, 191, 0), (189, .ldc 135, 2, 2294967296, 0), (191, .ireturn, 1, 0, 0), (192, .ldc 135, 2, 2294967296, 0), (194, .ireturn, 1, 0, 0)]
def zM152 : aM := (11, ⟨"AcresPaid", "ofBody", "(II)I"⟩, prog_1_method_17_code, 5, (Option.some .int), 2, 0, zI152)
def zI153 : List aI := [(0, .aload_n 0, 1, 0, 0), (1, .getfield 12, 3, 11, 0), (4, .iload_n 1, 1, 0, 0), (5, .invokevirtual 136, 3, 77, 0), (8, .ifCond .eq 23, 3, 31, 0), (11, .iload_n 2, 1, 0, 0), (12, .iconst 0, 1, 0, 0), (13, .bipush 23, 2, 0, 0), (15, .invokestatic 85, 3, 137, 0), (18, .ifCond .eq 13, 3, 31, 0), (21, .iload_n 3, 1, 0, 0), (22, .iconst 0, 1, 0, 0), (23, .bipush 23, 2, 0, 0), (25, .invokestatic 85, 3, 137, 0), (28, .ifCond .ne 5, 3, 33, 0), (31, .iconst (-1), 1, 0, 0), (32, .ireturn, 1, 0, 0), (33, .aload_n 0, 1, 0, 0), (34, .getfield 12, 3, 11, 0), (37, .iload_n 1, 1, 0, 0), (38, .iload_n 3, 1, 0, 0), (39, .invokevirtual 155, 3, 82, 0), (42, .iload_n 2, 1, 0, 0), (43, .ishr, 1, 0, 0), (44, .iconst 1, 1, 0, 0), (45, .iand, 1, 0, 0), (46, .ireturn, 1, 0, 0)]
def zM153 : aM := (11, ⟨"AcresPaid", "has", "(III)I"⟩, prog_1_method_18_code, 4, (Option.some .int), 3, 0, zI153)
def zI154 : List aI := [(0, .aload_n 0, 1, 0, 0), (1, .getfield 12, 3, 11, 0), (4, .iload_n 1, 1, 0, 0), (5, .invokevirtual 136, 3, 77, 0), (8, .ifCond .ne 5, 3, 13, 0), (11, .iconst (-1), 1, 0, 0), (12, .ireturn, 1, 0, 0), (13, .aload_n 0, 1, 0, 0), (14, .getfield 12, 3, 11, 0), (17, .getfield 149, 3, 6, 10), (20, .iload_n 1, 1, 0, 0), (21, .iaload, 1, 0, 0), (22, .iconst (-1), 1, 0, 0), (23, .if_icmp .eq 6, 3, 29, 0), (26, .bipush (-2), 2, 0, 0), (28, .ireturn, 1, 0, 0), (29, .aload_n 0, 1, 0, 0), (30, .getfield 12, 3, 11, 0), (33, .getfield 149, 3, 6, 10), (36, .iload_n 1, 1, 0, 0), (37, .aload_n 0, 1, 0, 0), (38, .getfield 12, 3, 11, 0), (41, .getfield 93, 3, 6, 0), (44, .iastore, 1, 0, 0), (45, .aload_n 0, 1, 0, 0), (46, .getfield 12, 3, 11, 0), (49, .dup, 1, 0, 0), (50, .getfield 158, 3, 6, 5), (53, .iconst 1, 1, 0, 0), (54, .iadd, 1, 0, 0), (55, .putfield 158, 3, 6, 5), (58, .iconst 1, 1, 0, 0), (59, .ireturn, 1, 0, 0)]
def zM154 : aM := (11, ⟨"AcresPaid", "giveUp", "(I)I"⟩, prog_1_method_19_code, 2, (Option.some .int), 1, 0, zI154)
def zI155 : List aI := [(0, .aload_n 0, 1, 0, 0), (1, .getfield 12, 3, 11, 0), (4, .iload_n 1, 1, 0, 0), (5, .invokevirtual 161, 3, 78, 0), (8, .ifCond .eq 21, 3, 29, 0), (11, .aload_n 0, 1, 0, 0), (12, .getfield 12, 3, 11, 0), (15, .iload_n 2, 1, 0, 0), (16, .invokevirtual 121, 3, 75, 0), (19, .ifCond .eq 10, 3, 29, 0), (22, .iload_n 3, 1, 0, 0), (23, .invokestatic 164, 3, 138, 0), (26, .ifCond .ne 5, 3, 31, 0), (29, .iconst (-1), 1, 0, 0), (30, .ireturn, 1, 0, 0), (31, .aload_n 0, 1, 0, 0), (32, .getfield 12, 3, 11, 0), (35, .getfield 167, 3, 6, 6), (38, .sipush 200, 3, 0, 0), (41, .if_icmp .lt 8, 3, 49, 0), (44, .bipush (-3), 2, 0, 0), (46, .goto 13, 3, 59, 0), (49, .aload_n 0, 1, 0, 0), (50, .getfield 12, 3, 11, 0), (53, .iload_n 1, 1, 0, 0), (54, .iload_n 2, 1, 0, 0), (55, .iload_n 3, 1, 0, 0), (56, .invokevirtual 170, 3, 85, 0), (59, .ireturn, 1, 0, 0)]
def zM155 : aM := (11, ⟨"AcresPaid", "handOver", "(III)I"⟩, prog_1_method_20_code, 4, (Option.some .int), 3, 0, zI155)
def zI156 : List aI := [(0, .aload_n 0, 1, 0, 0), (1, .getfield 12, 3, 11, 0), (4, .iload_n 1, 1, 0, 0), (5, .invokevirtual 161, 3, 78, 0), (8, .ifCond .eq 17, 3, 25, 0), (11, .iload_n 2, 1, 0, 0), (12, .invokestatic 164, 3, 138, 0), (15, .ifCond .eq 10, 3, 25, 0), (18, .iload_n 3, 1, 0, 0), (19, .invokestatic 164, 3, 138, 0), (22, .ifCond .ne 5, 3, 27, 0), (25, .iconst (-1), 1, 0, 0), (26, .ireturn, 1, 0, 0), (27, .aload_n 0, 1, 0, 0), (28, .getfield 12, 3, 11, 0), (31, .iload_n 1, 1, 0, 0), (32, .iload_n 2, 1, 0, 0), (33, .iload_n 3, 1, 0, 0), (34, .invokevirtual 152, 3, 86, 0), (37, .istore 4, 2, 0, 0), (39, .iload 4, 2, 0, 0), (41, .iconst (-1), 1, 0, 0), (42, .if_icmp .ne 8, 3, 50, 0), (45, .bipush (-2), 2, 0, 0), (47, .goto 5, 3, 52, 0), (50, .iload 4, 2, 0, 0), (52, .ireturn, 1, 0, 0)]
def zM156 : aM := (11, ⟨"AcresPaid", "holder", "(III)I"⟩, prog_1_method_21_code, 5, (Option.some .int), 3, 0, zI156)
def zI157 : List aI := [(0, .aload_n 0, 1, 0, 0), (1, .getfield 12, 3, 11, 0), (4, .iload_n 1, 1, 0, 0), (5, .invokevirtual 121, 3, 75, 0), (8, .ifCond .eq 21, 3, 29, 0), (11, .aload_n 0, 1, 0, 0), (12, .getfield 12, 3, 11, 0), (15, .iload_n 2, 1, 0, 0), (16, .invokevirtual 136, 3, 77, 0), (19, .ifCond .eq 10, 3, 29, 0), (22, .iload_n 3, 1, 0, 0), (23, .invokestatic 173, 3, 141, 0), (26, .ifCond .ne 5, 3, 31, 0), (29, .iconst (-1), 1, 0, 0), (30, .ireturn, 1, 0, 0), (31, .aload_n 0, 1, 0, 0), (32, .getfield 12, 3, 11, 0), (35, .getfield 139, 3, 6, 7), (38, .iload_n 2, 1, 0, 0), (39, .iaload, 1, 0, 0), (40, .iconst 5, 1, 0, 0), (41, .if_icmp .ne 9, 3, 50, 0), (44, .iload_n 3, 1, 0, 0), (45, .ifCond .eq 5, 3, 50, 0), (48, .iconst (-1), 1, 0, 0), (49, .ireturn, 1, 0, 0), (50, .aload_n 0, 1, 0, 0), (51, .getfield 12, 3, 11, 0), (54, .iload_n 2, 1, 0, 0), (55, .aload_n 0, 1, 0, 0), (56, .getfield 12, 3, 11, 0), (59, .getfield 93, 3, 6, 0), (62, .aload_n 0, 1, 0, 0), (63, .getfield 12, 3, 11, 0), (66, .getfield 93, 3, 6, 0), (69, .invokevirtual 152, 3, 86, 0), (72, .iload_n 1, 1, 0, 0), (73, .if_icmp .ne 16, 3, 89, 0), (76, .aload_n 0, 1, 0, 0), (77, .getfield 12, 3, 11, 0), (80, .getfield 149, 3, 6, 10), (83, .iload_n 2, 1, 0, 0), (84, .iaload, 1, 0, 0), (85, .iconst (-1), 1, 0, 0), (86, .if_icmp .eq 6, 3, 92, 0), (89, .bipush (-2), 2, 0, 0), (91, .ireturn, 1, 0, 0), (92, .aload_n 0, 1, 0, 0), (93, .getfield 28, 3, 11, 2), (96, .getfield 176, 3, 2, 1), (99, .sipush 300, 3, 0, 0), (102, .if_icmp .lt 8, 3, 110, 0), (105, .bipush (-3), 2, 0, 0), (107, .goto 13, 3, 120, 0), (110, .aload_n 0, 1, 0, 0), (111, .getfield 28, 3, 11, 2), (114, .iload_n 1, 1, 0, 0), (115, .iload_n 2, 1, 0, 0), (116, .iload_n 3, 1, 0, 0), (117, .invokevirtual 177, 3, 27, 0), (120, .ireturn, 1, 0, 0)]
def zM157 : aM := (11, ⟨"AcresPaid", "claim", "(III)I"⟩, prog_1_method_22_code, 4, (Option.some .int), 3, 0, zI157)
def zI158 : List aI := [(0, .iload_n 1, 1, 0, 0), (1, .invokestatic 89, 3, 140, 0), (4, .ifCond .eq 14, 3, 18, 0), (7, .iload_n 2, 1, 0, 0), (8, .iconst 0, 1, 0, 0), (9, .sipush 364, 3, 0, 0), (12, .invokestatic 85, 3, 137, 0), (15, .ifCond .ne 5, 3, 20, 0), (18, .iconst (-1), 1, 0, 0), (19, .ireturn, 1, 0, 0), (20, .aload_n 0, 1, 0, 0), (21, .getfield 28, 3, 11, 2), (24, .getfield 178, 3, 2, 9), (27, .iload_n 1, 1, 0, 0), (28, .iaload, 1, 0, 0), (29, .istore_n 3, 1, 0, 0), (30, .aload_n 0, 1, 0, 0), (31, .getfield 28, 3, 11, 2), (34, .getfield 178, 3, 2, 9), (37, .iload_n 1, 1, 0, 0), (38, .iload_n 2, 1, 0, 0), (39, .iastore, 1, 0, 0), (40, .iload_n 3, 1, 0, 0), (41, .ireturn, 1, 0, 0)]
def zM158 : aM := (11, ⟨"AcresPaid", "close", "(II)I"⟩, prog_1_method_23_code, 4, (Option.some .int), 2, 0, zI158)
def zI159 : List aI := [(0, .iload_n 1, 1, 0, 0), (1, .ifCond .lt 14, 3, 15, 0), (4, .iload_n 2, 1, 0, 0), (5, .ifCond .lt 10, 3, 15, 0), (8, .iload_n 3, 1, 0, 0), (9, .invokestatic 164, 3, 138, 0), (12, .ifCond .ne 5, 3, 17, 0), (15, .iconst (-1), 1, 0, 0), (16, .ireturn, 1, 0, 0), (17, .iload_n 1, 1, 0, 0), (18, .bipush 100, 2, 0, 0), (20, .idiv, 1, 0, 0), (21, .istore 4, 2, 0, 0), (23, .iload_n 1, 1, 0, 0), (24, .bipush 100, 2, 0, 0), (26, .irem, 1, 0, 0), (27, .istore 5, 2, 0, 0), (29, .iload_n 2, 1, 0, 0), (30, .bipush 100, 2, 0, 0), (32, .idiv, 1, 0, 0), (33, .istore 6, 2, 0, 0), (35, .iload_n 2, 1, 0, 0), (36, .bipush 100, 2, 0, 0), (38, .irem, 1, 0, 0), (39, .istore 7, 2, 0, 0), (41, .iload 4, 2, 0, 0), (43, .iload 6, 2, 0, 0), (45, .if_icmp .gt 24, 3, 69, 0), (48, .iload 5, 2, 0, 0), (50, .iload 7, 2, 0, 0), (52, .if_icmp .gt 17, 3, 69, 0), (55, .iload 6, 2, 0, 0), (57, .bipush 24, 2, 0, 0), (59, .if_icmp .ge 10, 3, 69, 0), (62, .iload 7, 2, 0, 0), (64, .bipush 24, 2, 0, 0), (66, .if_icmp .lt 5, 3, 71, 0), (69, .iconst (-1), 1, 0, 0), (70, .ireturn, 1, 0, 0), (71, .aload_n 0, 1, 0, 0), (72, .getfield 28, 3, 11, 2), (75, .getfield 181, 3, 2, 2), (78, .bipush 40, 2, 0, 0), (80, .if_icmp .lt 8, 3, 88, 0), (83, .bipush (-3), 2, 0, 0), (85, .goto 13, 3, 98, 0), (88, .aload_n 0, 1, 0, 0), (89, .getfield 28, 3, 11, 2), (92, .iload_n 1, 1, 0, 0), (93, .iload_n 2, 1, 0, 0), (94, .iload_n 3, 1, 0, 0), (95, .invokevirtual 184, 3, 32, 0), (98, .ireturn, 1, 0, 0)]
def zM159 : aM := (11, ⟨"AcresPaid", "out", "(III)I"⟩, prog_1_method_24_code, 8, (Option.some .int), 3, 0, zI159)
def zI160 : List aI := [(0, .aload_n 0, 1, 0, 0), (1, .getfield 12, 3, 11, 0), (4, .iload_n 1, 1, 0, 0), (5, .invokevirtual 121, 3, 75, 0), (8, .ifCond .eq 39, 3, 47, 0), (11, .aload_n 0, 1, 0, 0), (12, .getfield 12, 3, 11, 0), (15, .iload_n 2, 1, 0, 0), (16, .invokevirtual 136, 3, 77, 0), (19, .ifCond .eq 28, 3, 47, 0), (22, .iload_n 3, 1, 0, 0), (23, .invokestatic 187, 3, 139, 0), (26, .ifCond .eq 21, 3, 47, 0), (29, .iload 4, 2, 0, 0), (31, .invokestatic 164, 3, 138, 0), (34, .ifCond .eq 13, 3, 47, 0), (37, .iload 5, 2, 0, 0), (39, .iconst 0, 1, 0, 0), (40, .iconst 4, 1, 0, 0), (41, .invokestatic 85, 3, 137, 0), (44, .ifCond .ne 5, 3, 49, 0), (47, .iconst (-1), 1, 0, 0), (48, .ireturn, 1, 0, 0), (49, .aload_n 0, 1, 0, 0), (50, .getfield 44, 3, 11, 4), (53, .iload_n 3, 1, 0, 0), (54, .iload 4, 2, 0, 0), (56, .invokevirtual 190, 3, 1, 0), (59, .astore 6, 2, 0, 0), (61, .aload 6, 2, 0, 0), (63, .iload_n 1, 1, 0, 0), (64, .iload_n 2, 1, 0, 0), (65, .invokevirtual 194, 3, 98, 0), (68, .istore 7, 2, 0, 0), (70, .iload 7, 2, 0, 0), (72, .iconst (-1), 1, 0, 0), (73, .if_icmp .ne 6, 3, 79, 0), (76, .bipush (-2), 2, 0, 0), (78, .ireturn, 1, 0, 0), (79, .iload 5, 2, 0, 0), (81, .tableswitch 89 0 3 #[31, 40, 58, 75], 31, 0, 0), (112, .aload 6, 2, 0, 0), (114, .getfield 199, 3, 8, 7), (117, .iload 7, 2, 0, 0), (119, .iaload, 1, 0, 0), (120, .ireturn, 1, 0, 0), (121, .aload 6, 2, 0, 0), (123, .getfield 199, 3, 8, 7), (126, .iload 7, 2, 0, 0), (128, .iaload, 1, 0, 0), (129, .aload 6, 2, 0, 0), (131, .getfield 202, 3, 8, 8), (134, .iload 7, 2, 0, 0), (136, .iaload, 1, 0, 0), (137, .isub, 1, 0, 0), (138, .ireturn, 1, 0, 0), (139, .aload_n 0, 1, 0, 0), (140, .getfield 28, 3, 11, 2), (143, .getfield 205, 3, 2, 6), (146, .aload 6, 2, 0, 0), (148, .getfield 208, 3, 8, 6), (151, .iload 7, 2, 0, 0), (153, .iaload, 1, 0, 0), (154, .iaload, 1, 0, 0), (155, .ireturn, 1, 0, 0), (156, .aload_n 0, 1, 0, 0), (157, .getfield 12, 3, 11, 0), (160, .iload_n 2, 1, 0, 0), (161, .aload 6, 2, 0, 0), (163, .getfield 211, 3, 8, 9), (166, .invokevirtual 214, 3, 83, 0), (169, .ireturn, 1, 0, 0), (170, .aload_n 0, 1, 0, 0), (171, .getfield 28, 3, 11, 2), (174, .aload 6, 2, 0, 0), (176, .getfield 208, 3, 8, 6), (179, .iload 7, 2, 0, 0), (181, .iaload, 1, 0, 0), (182, .invokevirtual 218, 3, 31, 0), (185, .ireturn, 1, 0, 0)]
def zM160 : aM := (11, ⟨"AcresPaid", "counted", "(IIIII)I"⟩, prog_1_method_25_code, 8, (Option.some .int), 5, 0, zI160)
def zI161 : List aI := [(0, .aload_n 0, 1, 0, 0), (1, .getfield 12, 3, 11, 0), (4, .iload_n 1, 1, 0, 0), (5, .invokevirtual 121, 3, 75, 0), (8, .ifCond .eq 33, 3, 41, 0), (11, .aload_n 0, 1, 0, 0), (12, .getfield 12, 3, 11, 0), (15, .iload_n 2, 1, 0, 0), (16, .invokevirtual 136, 3, 77, 0), (19, .ifCond .eq 22, 3, 41, 0), (22, .iload_n 3, 1, 0, 0), (23, .invokestatic 187, 3, 139, 0), (26, .ifCond .eq 15, 3, 41, 0), (29, .iload 4, 2, 0, 0), (31, .iconst 0, 1, 0, 0), (32, .sipush 576, 3, 0, 0), (35, .invokestatic 85, 3, 137, 0), (38, .ifCond .ne 5, 3, 43, 0), (41, .iconst (-1), 1, 0, 0), (42, .ireturn, 1, 0, 0), (43, .aload_n 0, 1, 0, 0), (44, .getfield 44, 3, 11, 4), (47, .iload_n 3, 1, 0, 0), (48, .aload_n 0, 1, 0, 0), (49, .getfield 12, 3, 11, 0), (52, .getfield 93, 3, 6, 0), (55, .invokevirtual 190, 3, 1, 0), (58, .iload_n 1, 1, 0, 0), (59, .iload_n 2, 1, 0, 0), (60, .invokevirtual 194, 3, 98, 0), (63, .iconst (-1), 1, 0, 0), (64, .if_icmp .ne 6, 3, 70, 0), (67, .bipush (-2), 2, 0, 0), (69, .ireturn, 1, 0, 0), (70, .aload_n 0, 1, 0, 0), (71, .getfield 28, 3, 11, 2), (74, .getfield 221, 3, 2, 3), (77, .sipush 200, 3, 0, 0), (80, .if_icmp .lt 8, 3, 88, 0), (83, .bipush (-3), 2, 0, 0), (85, .goto 15, 3, 100, 0), (88, .aload_n 0, 1, 0, 0), (89, .getfield 28, 3, 11, 2), (92, .iload_n 1, 1, 0, 0), (93, .iload_n 2, 1, 0, 0), (94, .iload_n 3, 1, 0, 0), (95, .iload 4, 2, 0, 0), (97, .invokevirtual 224, 3, 34, 0), (100, .ireturn, 1, 0, 0)]
def zM161 : aM := (11, ⟨"AcresPaid", "control", "(IIII)I"⟩, prog_1_method_26_code, 5, (Option.some .int), 4, 0, zI161)
def zI162 : List aI := [(0, .aload_n 0, 1, 0, 0), (1, .getfield 12, 3, 11, 0), (4, .iload_n 1, 1, 0, 0), (5, .invokevirtual 121, 3, 75, 0), (8, .ifCond .eq 10, 3, 18, 0), (11, .iload_n 2, 1, 0, 0), (12, .invokestatic 187, 3, 139, 0), (15, .ifCond .ne 5, 3, 20, 0), (18, .iconst (-1), 1, 0, 0), (19, .ireturn, 1, 0, 0), (20, .aload_n 0, 1, 0, 0), (21, .getfield 28, 3, 11, 2), (24, .iload_n 1, 1, 0, 0), (25, .iload_n 2, 1, 0, 0), (26, .invokevirtual 228, 3, 37, 0), (29, .ifCond .eq 7, 3, 36, 0), (32, .iconst 1, 1, 0, 0), (33, .goto 5, 3, 38, 0), (36, .bipush (-2), 2, 0, 0), (38, .ireturn, 1, 0, 0)]
def zM162 : aM := (11, ⟨"AcresPaid", "majeure", "(II)I"⟩, prog_1_method_27_code, 3, (Option.some .int), 2, 0, zI162)
def zI163 : List aI := [(0, .iload_n 1, 1, 0, 0), (1, .invokestatic 173, 3, 141, 0), (4, .ifCond .eq 22, 3, 26, 0), (7, .iload_n 2, 1, 0, 0), (8, .iconst 0, 1, 0, 0), (9, .iconst 5, 1, 0, 0), (10, .invokestatic 85, 3, 137, 0), (13, .ifCond .eq 13, 3, 26, 0), (16, .iload_n 3, 1, 0, 0), (17, .iconst 0, 1, 0, 0), (18, .bipush 99, 2, 0, 0), (20, .invokestatic 85, 3, 137, 0), (23, .ifCond .ne 5, 3, 28, 0), (26, .iconst (-1), 1, 0, 0), (27, .ireturn, 1, 0, 0), (28, .aload_n 0, 1, 0, 0), (29, .getfield 67, 3, 11, 7), (32, .iload_n 1, 1, 0, 0), (33, .iload_n 2, 1, 0, 0), (34, .iload_n 3, 1, 0, 0), (35, .invokevirtual 232, 3, 40, 0), (38, .ireturn, 1, 0, 0)]
def zM163 : aM := (11, ⟨"AcresPaid", "colour", "(III)I"⟩, prog_1_method_28_code, 4, (Option.some .int), 3, 0, zI163)
def zI164 : List aI := [(0, .aload_n 0, 1, 0, 0), (1, .getfield 12, 3, 11, 0), (4, .iload_n 1, 1, 0, 0), (5, .invokevirtual 136, 3, 77, 0), (8, .ifCond .eq 17, 3, 25, 0), (11, .iload_n 2, 1, 0, 0), (12, .invokestatic 187, 3, 139, 0), (15, .ifCond .eq 10, 3, 25, 0), (18, .iload_n 3, 1, 0, 0), (19, .invokestatic 235, 3, 142, 0), (22, .ifCond .ne 5, 3, 27, 0), (25, .iconst (-1), 1, 0, 0), (26, .ireturn, 1, 0, 0), (27, .aload_n 0, 1, 0, 0), (28, .getfield 81, 3, 11, 9), (31, .getfield 238, 3, 9, 0), (34, .iload_n 3, 1, 0, 0), (35, .iaload, 1, 0, 0), (36, .istore 5, 2, 0, 0), (38, .iload 5, 2, 0, 0), (40, .iconst (-1), 1, 0, 0), (41, .if_icmp .eq 11, 3, 52, 0), (44, .iload 5, 2, 0, 0), (46, .ifCond .eq 6, 3, 52, 0), (49, .bipush (-12), 2, 0, 0), (51, .ireturn, 1, 0, 0), (52, .aload_n 0, 1, 0, 0), (53, .getfield 67, 3, 11, 7), (56, .iload_n 1, 1, 0, 0), (57, .iload_n 2, 1, 0, 0), (58, .aload_n 0, 1, 0, 0), (59, .getfield 81, 3, 11, 9), (62, .iload_n 3, 1, 0, 0), (63, .iload 4, 2, 0, 0), (65, .invokevirtual 241, 3, 41, 0), (68, .ireturn, 1, 0, 0)]
def zM164 : aM := (11, ⟨"AcresPaid", "see", "(IIII)I"⟩, prog_1_method_29_code, 6, (Option.some .int), 4, 0, zI164)
def zI165 : List aI := [(0, .aload_n 0, 1, 0, 0), (1, .getfield 67, 3, 11, 7), (4, .getfield 245, 3, 3, 1), (7, .istore_n 2, 1, 0, 0), (8, .aload_n 0, 1, 0, 0), (9, .getfield 67, 3, 11, 7), (12, .iload_n 1, 1, 0, 0), (13, .putfield 245, 3, 3, 1), (16, .iload_n 2, 1, 0, 0), (17, .ireturn, 1, 0, 0)]
def zM165 : aM := (11, ⟨"AcresPaid", "blank", "(I)I"⟩, prog_1_method_30_code, 3, (Option.some .int), 1, 0, zI165)
def zI166 : List aI := [(0, .aload_n 0, 1, 0, 0), (1, .getfield 12, 3, 11, 0), (4, .iload_n 1, 1, 0, 0), (5, .invokevirtual 136, 3, 77, 0), (8, .ifCond .eq 19, 3, 27, 0), (11, .iload_n 2, 1, 0, 0), (12, .invokestatic 187, 3, 139, 0), (15, .ifCond .eq 12, 3, 27, 0), (18, .iload_n 3, 1, 0, 0), (19, .iconst 0, 1, 0, 0), (20, .iconst 1, 1, 0, 0), (21, .invokestatic 85, 3, 137, 0), (24, .ifCond .ne 5, 3, 29, 0), (27, .iconst (-1), 1, 0, 0), (28, .ireturn, 1, 0, 0), (29, .aload_n 0, 1, 0, 0), (30, .getfield 67, 3, 11, 7), (33, .iload_n 1, 1, 0, 0), (34, .iload_n 2, 1, 0, 0), (35, .iload_n 3, 1, 0, 0), (36, .invokevirtual 248, 3, 42, 0), (39, .ireturn, 1, 0, 0)]
def zM166 : aM := (11, ⟨"AcresPaid", "looks", "(III)I"⟩, prog_1_method_31_code, 4, (Option.some .int), 3, 0, zI166)
def zI167 : List aI := [(0, .iload_n 1, 1, 0, 0), (1, .iconst 1, 1, 0, 0), (2, .iconst 4, 1, 0, 0), (3, .invokestatic 85, 3, 137, 0), (6, .ifCond .ne 5, 3, 11, 0), (9, .iconst (-1), 1, 0, 0), (10, .ireturn, 1, 0, 0), (11, .aload_n 0, 1, 0, 0), (12, .getfield 35, 3, 11, 3), (15, .getfield 251, 3, 10, 1), (18, .iload_n 1, 1, 0, 0), (19, .iadd, 1, 0, 0), (20, .sipush 160, 3, 0, 0), (23, .if_icmp .le 8, 3, 31, 0), (26, .bipush (-3), 2, 0, 0), (28, .goto 12, 3, 40, 0), (31, .aload_n 0, 1, 0, 0), (32, .getfield 35, 3, 11, 3), (35, .iload_n 1, 1, 0, 0), (36, .iload_n 2, 1, 0, 0), (37, .invokevirtual 254, 3, 117, 0), (40, .ireturn, 1, 0, 0)]
def zM167 : aM := (11, ⟨"AcresPaid", "feed", "(II)I"⟩, prog_1_method_32_code, 3, (Option.some .int), 2, 0, zI167)
def zI168 : List aI := [(0, .iload_n 1, 1, 0, 0), (1, .invokestatic 257, 3, 143, 0), (4, .ifCond .eq 10, 3, 14, 0), (7, .iload_n 2, 1, 0, 0), (8, .invokestatic 187, 3, 139, 0), (11, .ifCond .ne 5, 3, 16, 0), (14, .iconst (-1), 1, 0, 0), (15, .ireturn, 1, 0, 0), (16, .aload_n 0, 1, 0, 0), (17, .getfield 35, 3, 11, 3), (20, .getfield 260, 3, 10, 7), (23, .bipush 16, 2, 0, 0), (25, .if_icmp .lt 8, 3, 33, 0), (28, .bipush (-3), 2, 0, 0), (30, .goto 19, 3, 49, 0), (33, .aload_n 0, 1, 0, 0), (34, .getfield 35, 3, 11, 3), (37, .iload_n 1, 1, 0, 0), (38, .iload_n 2, 1, 0, 0), (39, .aload_n 0, 1, 0, 0), (40, .getfield 12, 3, 11, 0), (43, .getfield 93, 3, 6, 0), (46, .invokevirtual 261, 3, 118, 0), (49, .ireturn, 1, 0, 0)]
def zM168 : aM := (11, ⟨"AcresPaid", "text", "(II)I"⟩, prog_1_method_33_code, 3, (Option.some .int), 2, 0, zI168)
def zI169 : List aI := [(0, .iload_n 1, 1, 0, 0), (1, .invokestatic 257, 3, 143, 0), (4, .ifCond .eq 17, 3, 21, 0), (7, .iload_n 2, 1, 0, 0), (8, .invokestatic 187, 3, 139, 0), (11, .ifCond .eq 10, 3, 21, 0), (14, .iload_n 3, 1, 0, 0), (15, .invokestatic 164, 3, 138, 0), (18, .ifCond .ne 5, 3, 23, 0), (21, .iconst (-1), 1, 0, 0), (22, .ireturn, 1, 0, 0), (23, .aload_n 0, 1, 0, 0), (24, .getfield 35, 3, 11, 3), (27, .iload_n 1, 1, 0, 0), (28, .iload_n 2, 1, 0, 0), (29, .iload_n 3, 1, 0, 0), (30, .invokevirtual 264, 3, 120, 0), (33, .istore 4, 2, 0, 0), (35, .iload 4, 2, 0, 0), (37, .iconst (-1), 1, 0, 0), (38, .if_icmp .ne 8, 3, 46, 0), (41, .bipush (-2), 2, 0, 0), (43, .goto 5, 3, 48, 0), (46, .iload 4, 2, 0, 0), (48, .ireturn, 1, 0, 0)]
def zM169 : aM := (11, ⟨"AcresPaid", "inForce", "(III)I"⟩, prog_1_method_34_code, 5, (Option.some .int), 3, 0, zI169)
def zI170 : List aI := [(0, .aload_n 0, 1, 0, 0), (1, .getfield 12, 3, 11, 0), (4, .iload_n 1, 1, 0, 0), (5, .invokevirtual 121, 3, 75, 0), (8, .ifCond .eq 28, 3, 36, 0), (11, .iload_n 2, 1, 0, 0), (12, .invokestatic 187, 3, 139, 0), (15, .ifCond .eq 21, 3, 36, 0), (18, .iload_n 3, 1, 0, 0), (19, .invokestatic 164, 3, 138, 0), (22, .ifCond .eq 14, 3, 36, 0), (25, .iload 4, 2, 0, 0), (27, .iconst 0, 1, 0, 0), (28, .bipush 12, 2, 0, 0), (30, .invokestatic 85, 3, 137, 0), (33, .ifCond .ne 5, 3, 38, 0), (36, .iconst (-1), 1, 0, 0), (37, .ireturn, 1, 0, 0), (38, .aload_n 0, 1, 0, 0), (39, .getfield 44, 3, 11, 4), (42, .iload_n 1, 1, 0, 0), (43, .iload_n 2, 1, 0, 0), (44, .iload_n 3, 1, 0, 0), (45, .invokevirtual 267, 3, 2, 0), (48, .aload_n 0, 1, 0, 0), (49, .getfield 44, 3, 11, 4), (52, .getfield 271, 3, 0, 4), (55, .iload 4, 2, 0, 0), (57, .iaload, 1, 0, 0), (58, .ireturn, 1, 0, 0)]
def zM170 : aM := (11, ⟨"AcresPaid", "named", "(IIII)I"⟩, prog_1_method_35_code, 5, (Option.some .int), 4, 0, zI170)
def zI171 : List aI := [(0, .aload_n 0, 1, 0, 0), (1, .getfield 12, 3, 11, 0), (4, .iload_n 1, 1, 0, 0), (5, .invokevirtual 121, 3, 75, 0), (8, .ifCond .eq 28, 3, 36, 0), (11, .iload_n 2, 1, 0, 0), (12, .invokestatic 187, 3, 139, 0), (15, .ifCond .eq 21, 3, 36, 0), (18, .iload_n 3, 1, 0, 0), (19, .invokestatic 164, 3, 138, 0), (22, .ifCond .eq 14, 3, 36, 0), (25, .iload 4, 2, 0, 0), (27, .iconst 0, 1, 0, 0), (28, .bipush 6, 2, 0, 0), (30, .invokestatic 85, 3, 137, 0), (33, .ifCond .ne 6, 3, 39, 0), (36, .ldc 135, 2, 2294967296, 0), (38, .ireturn, 1, 0, 0), (39, .aload_n 0, 1, 0, 0), (40, .getfield 44, 3, 11, 4), (43, .iload_n 1, 1, 0, 0), (44, .iload_n 2, 1, 0, 0), (45, .iload_n 3, 1, 0, 0), (46, .iconst (-1), 1, 0, 0), (47, .invokevirtual 274, 3, 8, 0), (50, .istore 5, 2, 0, 0), (52, .iload 4, 2, 0, 0), (54, .ifCond .ne 6, 3, 60, 0), (57, .iload 5, 2, 0, 0), (59, .ireturn, 1, 0, 0), (60, .iload 4, 2, 0, 0), (62, .bipush 6, 2, 0, 0), (64, .if_icmp .ne 13, 3, 77, 0), (67, .aload_n 0, 1, 0, 0), (68, .getfield 44, 3, 11, 4), (71, .getfield 277, 3, 0, 7), (74, .goto 13, 3, 87, 0), (77, .aload_n 0, 1, 0, 0), (78, .getfield 44, 3, 11, 4), (81, .getfield 280, 3, 0, 6), (84, .iload 4, 2, 0, 0), (86, .iaload, 1, 0, 0), (87, .ireturn, 1, 0, 0)]
def zM171 : aM := (11, ⟨"AcresPaid", "paid", "(IIII)I"⟩, prog_1_method_36_code, 6, (Option.some .int), 4, 0, zI171)
def zI172 : List aI := [(0, .aload_n 0, 1, 0, 0), (1, .getfield 12, 3, 11, 0), (4, .iload_n 1, 1, 0, 0), (5, .invokevirtual 121, 3, 75, 0), (8, .ifCond .eq 22, 3, 30, 0), (11, .iload_n 2, 1, 0, 0), (12, .iconst 0, 1, 0, 0), (13, .aload_n 0, 1, 0, 0), (14, .getfield 12, 3, 11, 0), (17, .getfield 93, 3, 6, 0), (20, .sipush 365, 3, 0, 0), (23, .idiv, 1, 0, 0), (24, .invokestatic 85, 3, 137, 0), (27, .ifCond .ne 5, 3, 32, 0), (30, .iconst (-1), 1, 0, 0), (31, .ireturn, 1, 0, 0), (32, .aload_n 0, 1, 0, 0), (33, .getfield 44, 3, 11, 4), (36, .iload_n 1, 1, 0, 0), (37, .iload_n 2, 1, 0, 0), (38, .invokevirtual 283, 3, 14, 0), (41, .ireturn, 1, 0, 0)]
def zM172 : aM := (11, ⟨"AcresPaid", "settle", "(II)I"⟩, prog_1_method_37_code, 3, (Option.some .int), 2, 0, zI172)
def zI173 : List aI := [(0, .aload_n 0, 1, 0, 0), (1, .getfield 12, 3, 11, 0), (4, .iload_n 1, 1, 0, 0), (5, .invokevirtual 121, 3, 75, 0), (8, .ifCond .eq 14, 3, 22, 0), (11, .aload_n 0, 1, 0, 0), (12, .getfield 44, 3, 11, 4), (15, .iload_n 1, 1, 0, 0), (16, .invokevirtual 286, 3, 15, 0), (19, .goto 5, 3, 24, 0), (22, .ldc 135, 2, 2294967296, 0), (24, .ireturn, 1, 0, 0)]
def zM173 : aM := (11, ⟨"AcresPaid", "back", "(I)I"⟩, prog_1_method_38_code, 2, (Option.some .int), 1, 0, zI173)
def zI174 : List aI := [(0, .aload_n 0, 1, 0, 0), (1, .getfield 12, 3, 11, 0), (4, .iload_n 1, 1, 0, 0), (5, .invokevirtual 121, 3, 75, 0), (8, .ifCond .eq 21, 3, 29, 0), (11, .iload_n 2, 1, 0, 0), (12, .invokestatic 187, 3, 139, 0), (15, .ifCond .eq 14, 3, 29, 0), (18, .iload_n 3, 1, 0, 0), (19, .iconst 0, 1, 0, 0), (20, .ldc_w 289, 3, 2000000000, 0), (23, .invokestatic 85, 3, 137, 0), (26, .ifCond .ne 5, 3, 31, 0), (29, .iconst (-1), 1, 0, 0), (30, .ireturn, 1, 0, 0), (31, .aload_n 0, 1, 0, 0), (32, .getfield 44, 3, 11, 4), (35, .iload_n 1, 1, 0, 0), (36, .iload_n 2, 1, 0, 0), (37, .iload_n 3, 1, 0, 0), (38, .invokevirtual 290, 3, 16, 0), (41, .ireturn, 1, 0, 0)]
def zM174 : aM := (11, ⟨"AcresPaid", "budget", "(III)I"⟩, prog_1_method_39_code, 4, (Option.some .int), 3, 0, zI174)
def zI175 : List aI := [(0, .iload_n 1, 1, 0, 0), (1, .invokestatic 187, 3, 139, 0), (4, .ifCond .eq 28, 3, 32, 0), (7, .aload_n 0, 1, 0, 0), (8, .getfield 53, 3, 11, 5), (11, .aload_n 0, 1, 0, 0), (12, .getfield 44, 3, 11, 4), (15, .iload_n 1, 1, 0, 0), (16, .aload_n 0, 1, 0, 0), (17, .getfield 12, 3, 11, 0), (20, .getfield 93, 3, 6, 0), (23, .invokevirtual 190, 3, 1, 0), (26, .invokevirtual 293, 3, 53, 0), (29, .goto 4, 3, 33, 0), (32, .iconst (-1), 1, 0, 0), (33, .ireturn, 1, 0, 0)]
def zM175 : aM := (11, ⟨"AcresPaid", "least", "(I)I"⟩, prog_1_method_40_code, 2, (Option.some .int), 1, 0, zI175)
def zI176 : List aI := [(0, .iload_n 1, 1, 0, 0), (1, .iconst 0, 1, 0, 0), (2, .aload_n 0, 1, 0, 0), (3, .getfield 53, 3, 11, 5), (6, .getfield 297, 3, 5, 4), (9, .iconst 1, 1, 0, 0), (10, .isub, 1, 0, 0), (11, .invokestatic 85, 3, 137, 0), (14, .ifCond .eq 15, 3, 29, 0), (17, .aload_n 0, 1, 0, 0), (18, .getfield 53, 3, 11, 5), (21, .getfield 300, 3, 5, 3), (24, .iload_n 1, 1, 0, 0), (25, .iaload, 1, 0, 0), (26, .goto 4, 3, 30, 0), (29, .iconst (-1), 1, 0, 0), (30, .ireturn, 1, 0, 0)]
def zM176 : aM := (11, ⟨"AcresPaid", "given", "(I)I"⟩, prog_1_method_41_code, 2, (Option.some .int), 1, 0, zI176)
def zI177 : List aI := [(0, .aload_n 0, 1, 0, 0), (1, .getfield 53, 3, 11, 5), (4, .iload_n 1, 1, 0, 0), (5, .putfield 303, 3, 5, 7), (8, .iconst 1, 1, 0, 0), (9, .ireturn, 1, 0, 0)]
def zM177 : aM := (11, ⟨"AcresPaid", "lots", "(I)I"⟩, prog_1_method_42_code, 2, (Option.some .int), 1, 0, zI177)
def zI178 : List aI := [(0, .iload_n 1, 1, 0, 0), (1, .invokestatic 89, 3, 140, 0), (4, .ifCond .eq 20, 3, 24, 0), (7, .iload_n 2, 1, 0, 0), (8, .invokestatic 187, 3, 139, 0), (11, .ifCond .eq 13, 3, 24, 0), (14, .iload_n 3, 1, 0, 0), (15, .iconst 1, 1, 0, 0), (16, .bipush 9, 2, 0, 0), (18, .invokestatic 85, 3, 137, 0), (21, .ifCond .ne 5, 3, 26, 0), (24, .iconst (-1), 1, 0, 0), (25, .ireturn, 1, 0, 0), (26, .aload_n 0, 1, 0, 0), (27, .getfield 53, 3, 11, 5), (30, .iload_n 1, 1, 0, 0), (31, .iload_n 2, 1, 0, 0), (32, .iload_n 3, 1, 0, 0), (33, .invokevirtual 306, 3, 61, 0), (36, .ireturn, 1, 0, 0)]
def zM178 : aM := (11, ⟨"AcresPaid", "draw", "(III)I"⟩, prog_1_method_43_code, 4, (Option.some .int), 3, 0, zI178)
def zI179 : List aI := [(0, .iload_n 1, 1, 0, 0), (1, .iconst 0, 1, 0, 0), (2, .aload_n 0, 1, 0, 0), (3, .getfield 53, 3, 11, 5), (6, .getfield 309, 3, 5, 9), (9, .iconst 1, 1, 0, 0), (10, .isub, 1, 0, 0), (11, .invokestatic 85, 3, 137, 0), (14, .ifCond .eq 15, 3, 29, 0), (17, .aload_n 0, 1, 0, 0), (18, .getfield 53, 3, 11, 5), (21, .getfield 312, 3, 5, 8), (24, .iload_n 1, 1, 0, 0), (25, .iaload, 1, 0, 0), (26, .goto 4, 3, 30, 0), (29, .iconst (-1), 1, 0, 0), (30, .ireturn, 1, 0, 0)]
def zM179 : aM := (11, ⟨"AcresPaid", "drawn", "(I)I"⟩, prog_1_method_44_code, 2, (Option.some .int), 1, 0, zI179)
def zI180 : List aI := [(0, .iload_n 1, 1, 0, 0), (1, .invokestatic 187, 3, 139, 0), (4, .ifCond .eq 12, 3, 16, 0), (7, .iload_n 2, 1, 0, 0), (8, .iconst 0, 1, 0, 0), (9, .iconst 2, 1, 0, 0), (10, .invokestatic 85, 3, 137, 0), (13, .ifCond .ne 5, 3, 18, 0), (16, .iconst (-1), 1, 0, 0), (17, .ireturn, 1, 0, 0), (18, .iload_n 2, 1, 0, 0), (19, .iconst 2, 1, 0, 0), (20, .if_icmp .ne 31, 3, 51, 0), (23, .iload_n 3, 1, 0, 0), (24, .bipush 100, 2, 0, 0), (26, .idiv, 1, 0, 0), (27, .iconst 1, 1, 0, 0), (28, .bipush 99, 2, 0, 0), (30, .invokestatic 85, 3, 137, 0), (33, .ifCond .eq 16, 3, 49, 0), (36, .iload_n 3, 1, 0, 0), (37, .bipush 100, 2, 0, 0), (39, .irem, 1, 0, 0), (40, .iconst 1, 1, 0, 0), (41, .bipush 49, 2, 0, 0), (43, .invokestatic 85, 3, 137, 0), (46, .ifCond .ne 5, 3, 51, 0), (49, .iconst (-1), 1, 0, 0), (50, .ireturn, 1, 0, 0), (51, .aload_n 0, 1, 0, 0), (52, .getfield 53, 3, 11, 5), (55, .iload_n 1, 1, 0, 0), (56, .invokevirtual 315, 3, 66, 0), (59, .iload_n 2, 1, 0, 0), (60, .lookupswitch 44 #[(0, 28), (1, 36)], 28, 0, 0), (88, .aload_n 0, 1, 0, 0), (89, .getfield 53, 3, 11, 5), (92, .getfield 318, 3, 5, 13), (95, .ireturn, 1, 0, 0), (96, .aload_n 0, 1, 0, 0), (97, .getfield 53, 3, 11, 5), (100, .getfield 321, 3, 5, 14), (103, .ireturn, 1, 0, 0), (104, .aload_n 0, 1, 0, 0), (105, .getfield 53, 3, 11, 5), (108, .iload_n 3, 1, 0, 0), (109, .bipush 100, 2, 0, 0), (111, .idiv, 1, 0, 0), (112, .iload_n 3, 1, 0, 0), (113, .bipush 100, 2, 0, 0), (115, .irem, 1, 0, 0), (116, .invokevirtual 324, 3, 67, 0), (119, .ireturn, 1, 0, 0)]
def zM180 : aM := (11, ⟨"AcresPaid", "rate", "(III)I"⟩, prog_1_method_45_code, 4, (Option.some .int), 3, 0, zI180)
def zI181 : List aI := [(0, .iload_n 1, 1, 0, 0), (1, .iconst 1, 1, 0, 0), (2, .sipush 576, 3, 0, 0), (5, .invokestatic 85, 3, 137, 0), (8, .ifCond .ne 5, 3, 13, 0), (11, .iconst (-1), 1, 0, 0), (12, .ireturn, 1, 0, 0), (13, .aload_n 0, 1, 0, 0), (14, .getfield 60, 3, 11, 6), (17, .getfield 327, 3, 4, 1), (20, .bipush 6, 2, 0, 0), (22, .if_icmp .lt 8, 3, 30, 0), (25, .bipush (-3), 2, 0, 0), (27, .goto 11, 3, 38, 0), (30, .aload_n 0, 1, 0, 0), (31, .getfield 60, 3, 11, 6), (34, .iload_n 1, 1, 0, 0), (35, .invokevirtual 328, 3, 45, 0), (38, .ireturn, 1, 0, 0)]
def zM181 : aM := (11, ⟨"AcresPaid", "plot", "(I)I"⟩, prog_1_method_46_code, 2, (Option.some .int), 1, 0, zI181)
def zI182 : List aI := [(0, .iload_n 1, 1, 0, 0), (1, .invokestatic 173, 3, 141, 0), (4, .ifCond .eq 13, 3, 17, 0), (7, .iload_n 2, 1, 0, 0), (8, .iconst 0, 1, 0, 0), (9, .bipush 99, 2, 0, 0), (11, .invokestatic 85, 3, 137, 0), (14, .ifCond .ne 5, 3, 19, 0), (17, .iconst (-1), 1, 0, 0), (18, .ireturn, 1, 0, 0), (19, .aload_n 0, 1, 0, 0), (20, .getfield 60, 3, 11, 6), (23, .getfield 330, 3, 4, 2), (26, .iload_n 1, 1, 0, 0), (27, .iaload, 1, 0, 0), (28, .istore_n 3, 1, 0, 0), (29, .aload_n 0, 1, 0, 0), (30, .getfield 60, 3, 11, 6), (33, .getfield 330, 3, 4, 2), (36, .iload_n 1, 1, 0, 0), (37, .iload_n 2, 1, 0, 0), (38, .iastore, 1, 0, 0), (39, .iload_n 3, 1, 0, 0), (40, .ireturn, 1, 0, 0)]
def zM182 : aM := (11, ⟨"AcresPaid", "worth", "(II)I"⟩, prog_1_method_47_code, 4, (Option.some .int), 2, 0, zI182)
def zI183 : List aI := [(0, .iload_n 1, 1, 0, 0), (1, .iconst 1, 1, 0, 0), (2, .bipush 100, 2, 0, 0), (4, .invokestatic 85, 3, 137, 0), (7, .ifCond .eq 22, 3, 29, 0), (10, .iload_n 2, 1, 0, 0), (11, .iconst 1, 1, 0, 0), (12, .iconst 3, 1, 0, 0), (13, .invokestatic 85, 3, 137, 0), (16, .ifCond .eq 13, 3, 29, 0), (19, .aload_n 0, 1, 0, 0), (20, .getfield 60, 3, 11, 6), (23, .getfield 327, 3, 4, 1), (26, .ifCond .ne 5, 3, 31, 0), (29, .iconst (-1), 1, 0, 0), (30, .ireturn, 1, 0, 0), (31, .aload_n 0, 1, 0, 0), (32, .getfield 60, 3, 11, 6), (35, .iload_n 1, 1, 0, 0), (36, .iload_n 2, 1, 0, 0), (37, .invokevirtual 333, 3, 46, 0), (40, .ireturn, 1, 0, 0)]
def zM183 : aM := (11, ⟨"AcresPaid", "mix", "(II)I"⟩, prog_1_method_48_code, 3, (Option.some .int), 2, 0, zI183)
def zI184 : List aI := [(0, .iload_n 1, 1, 0, 0), (1, .iconst 0, 1, 0, 0), (2, .aload_n 0, 1, 0, 0), (3, .getfield 60, 3, 11, 6), (6, .getfield 336, 3, 4, 4), (9, .iconst 1, 1, 0, 0), (10, .isub, 1, 0, 0), (11, .invokestatic 85, 3, 137, 0), (14, .ifCond .eq 15, 3, 29, 0), (17, .aload_n 0, 1, 0, 0), (18, .getfield 60, 3, 11, 6), (21, .getfield 339, 3, 4, 3), (24, .iload_n 1, 1, 0, 0), (25, .iaload, 1, 0, 0), (26, .goto 4, 3, 30, 0), (29, .iconst (-1), 1, 0, 0), (30, .ireturn, 1, 0, 0)]
def zM184 : aM := (11, ⟨"AcresPaid", "mixed", "(I)I"⟩, prog_1_method_49_code, 2, (Option.some .int), 1, 0, zI184)
def zI185 : List aI := [(0, .aload_n 0, 1, 0, 0), (1, .getfield 35, 3, 11, 3), (4, .iload_n 1, 1, 0, 0), (5, .invokevirtual 342, 3, 119, 0), (8, .ifCond .eq 27, 3, 35, 0), (11, .iload_n 2, 1, 0, 0), (12, .invokestatic 89, 3, 140, 0), (15, .ifCond .eq 20, 3, 35, 0), (18, .iload_n 3, 1, 0, 0), (19, .invokestatic 187, 3, 139, 0), (22, .ifCond .eq 13, 3, 35, 0), (25, .iload 4, 2, 0, 0), (27, .iconst 0, 1, 0, 0), (28, .iconst 1, 1, 0, 0), (29, .invokestatic 85, 3, 137, 0), (32, .ifCond .ne 5, 3, 37, 0), (35, .iconst (-1), 1, 0, 0), (36, .ireturn, 1, 0, 0), (37, .aload_n 0, 1, 0, 0), (38, .getfield 44, 3, 11, 4), (41, .iload_n 1, 1, 0, 0), (42, .iload_n 2, 1, 0, 0), (43, .iload_n 3, 1, 0, 0), (44, .iload 4, 2, 0, 0), (46, .ifCond .ne 7, 3, 53, 0), (49, .iconst 1, 1, 0, 0), (50, .goto 4, 3, 54, 0), (53, .iconst 0, 1, 0, 0), (54, .invokevirtual 345, 3, 18, 0), (57, .ireturn, 1, 0, 0)]
def zM185 : aM := (11, ⟨"AcresPaid", "tried", "(IIII)I"⟩, prog_1_method_50_code, 5, (Option.some .int), 4, 0, zI185)
def zI186 : List aI := [(0, .aload_n 0, 1, 0, 0), (1, .getfield 12, 3, 11, 0), (4, .iload_n 1, 1, 0, 0), (5, .invokevirtual 132, 3, 74, 0), (8, .ifCond .eq 12, 3, 20, 0), (11, .iload_n 2, 1, 0, 0), (12, .iconst 0, 1, 0, 0), (13, .iconst 3, 1, 0, 0), (14, .invokestatic 85, 3, 137, 0), (17, .ifCond .ne 13, 3, 30, 0), (20, .aload_n 0, 1, 0, 0), (21, .getfield 74, 3, 11, 8), (24, .iconst 0, 1, 0, 0), (25, .putfield 349, 3, 1, 1), (28, .iconst 0, 1, 0, 0), (29, .ireturn, 1, 0, 0), (30, .aload_n 0, 1, 0, 0), (31, .getfield 74, 3, 11, 8), (34, .iload_n 1, 1, 0, 0), (35, .aload_n 0, 1, 0, 0), (36, .getfield 12, 3, 11, 0), (39, .getfield 139, 3, 6, 7), (42, .iload_n 1, 1, 0, 0), (43, .iaload, 1, 0, 0), (44, .aload_n 0, 1, 0, 0), (45, .getfield 12, 3, 11, 0), (48, .getfield 143, 3, 6, 8), (51, .iload_n 1, 1, 0, 0), (52, .iaload, 1, 0, 0), (53, .iload_n 2, 1, 0, 0), (54, .iload_n 3, 1, 0, 0), (55, .invokevirtual 352, 3, 20, 0), (58, .ireturn, 1, 0, 0)]
def zM186 : aM := (11, ⟨"AcresPaid", "act", "(III)I"⟩, prog_1_method_51_code, 4, (Option.some .int), 3, 0, zI186)
def zI187 : List aI := [(0, .iload_n 1, 1, 0, 0), (1, .iconst 0, 1, 0, 0), (2, .aload_n 0, 1, 0, 0), (3, .getfield 74, 3, 11, 8), (6, .getfield 349, 3, 1, 1), (9, .bipush 24, 2, 0, 0), (11, .invokestatic 356, 3, 1011, 0), (14, .iconst 1, 1, 0, 0), (15, .isub, 1, 0, 0), (16, .invokestatic 85, 3, 137, 0), (19, .ifCond .eq 15, 3, 34, 0), (22, .aload_n 0, 1, 0, 0), (23, .getfield 74, 3, 11, 8), (26, .getfield 361, 3, 1, 0), (29, .iload_n 1, 1, 0, 0), (30, .iaload, 1, 0, 0), (31, .goto 4, 3, 35, 0), (34, .iconst (-1), 1, 0, 0), (35, .ireturn, 1, 0, 0)]
def zM187 : aM := (11, ⟨"AcresPaid", "trace", "(I)I"⟩, prog_1_method_52_code, 2, (Option.some .int), 1, 0, zI187)
def zI188 : List aI := [(0, .iload_n 1, 1, 0, 0), (1, .invokestatic 235, 3, 142, 0), (4, .ifCond .eq 19, 3, 23, 0), (7, .iload_n 2, 1, 0, 0), (8, .iconst (-1), 1, 0, 0), (9, .if_icmp .eq 16, 3, 25, 0), (12, .aload_n 0, 1, 0, 0), (13, .getfield 12, 3, 11, 0), (16, .iload_n 2, 1, 0, 0), (17, .invokevirtual 132, 3, 74, 0), (20, .ifCond .ne 5, 3, 25, 0), (23, .iconst (-1), 1, 0, 0), (24, .ireturn, 1, 0, 0), (25, .iload_n 2, 1, 0, 0), (26, .iconst (-1), 1, 0, 0), (27, .if_icmp .ne 14, 3, 41, 0), (30, .aload_n 0, 1, 0, 0), (31, .getfield 81, 3, 11, 9), (34, .iload_n 1, 1, 0, 0), (35, .invokevirtual 364, 3, 107, 0), (38, .goto 12, 3, 50, 0), (41, .aload_n 0, 1, 0, 0), (42, .getfield 81, 3, 11, 9), (45, .iload_n 1, 1, 0, 0), (46, .iload_n 2, 1, 0, 0), (47, .invokevirtual 367, 3, 108, 0), (50, .ireturn, 1, 0, 0)]
def zM188 : aM := (11, ⟨"AcresPaid", "keep", "(II)I"⟩, prog_1_method_53_code, 3, (Option.some .int), 2, 0, zI188)
def zI189 : List aI := [(0, .iload_n 1, 1, 0, 0), (1, .invokestatic 235, 3, 142, 0), (4, .ifCond .eq 18, 3, 22, 0), (7, .iload_n 2, 1, 0, 0), (8, .iconst 0, 1, 0, 0), (9, .iconst 4, 1, 0, 0), (10, .invokestatic 85, 3, 137, 0), (13, .ifCond .eq 9, 3, 22, 0), (16, .iload_n 3, 1, 0, 0), (17, .bipush 60, 2, 0, 0), (19, .if_icmp .le 5, 3, 24, 0), (22, .iconst (-1), 1, 0, 0), (23, .ireturn, 1, 0, 0), (24, .iload_n 3, 1, 0, 0), (25, .ifCond .ge 8, 3, 33, 0), (28, .bipush (-14), 2, 0, 0), (30, .goto 13, 3, 43, 0), (33, .aload_n 0, 1, 0, 0), (34, .getfield 81, 3, 11, 9), (37, .iload_n 1, 1, 0, 0), (38, .iload_n 2, 1, 0, 0), (39, .iload_n 3, 1, 0, 0), (40, .invokevirtual 370, 3, 109, 0), (43, .ireturn, 1, 0, 0)]
def zM189 : aM := (11, ⟨"AcresPaid", "row", "(III)I"⟩, prog_1_method_54_code, 4, (Option.some .int), 3, 0, zI189)
def zI190 : List aI := [(0, .iload_n 1, 1, 0, 0), (1, .invokestatic 235, 3, 142, 0), (4, .ifCond .eq 16, 3, 20, 0), (7, .aload_n 0, 1, 0, 0), (8, .getfield 81, 3, 11, 9), (11, .iload_n 1, 1, 0, 0), (12, .iload_n 2, 1, 0, 0), (13, .lload_n 3, 1, 0, 0), (14, .invokevirtual 373, 3, 112, 0), (17, .goto 4, 3, 21, 0), (20, .iconst (-1), 1, 0, 0), (21, .ireturn, 1, 0, 0)]
def zM190 : aM := (11, ⟨"AcresPaid", "put", "(IIJ)I"⟩, prog_1_method_55_code, 5, (Option.some .int), 3, 0, zI190)
def zI191 : List aI := [(0, .iload_n 1, 1, 0, 0), (1, .invokestatic 235, 3, 142, 0), (4, .ifCond .eq 15, 3, 19, 0), (7, .aload_n 0, 1, 0, 0), (8, .getfield 81, 3, 11, 9), (11, .iload_n 1, 1, 0, 0), (12, .iload_n 2, 1, 0, 0), (13, .invokevirtual 377, 3, 114, 0), (16, .goto 6, 3, 22, 0), (19, .ldc2_w 383, 3, 9223372036854775808, 0), (22, .lreturn, 1, 0, 0)]
def zM191 : aM := (11, ⟨"AcresPaid", "element", "(II)J"⟩, prog_1_method_56_code, 3, (Option.some .long), 2, 0, zI191)
def zI192 : List aI := [(0, .iload_n 1, 1, 0, 0), (1, .invokestatic 235, 3, 142, 0), (4, .ifCond .eq 27, 3, 31, 0), (7, .iload_n 3, 1, 0, 0), (8, .invokestatic 235, 3, 142, 0), (11, .ifCond .eq 20, 3, 31, 0), (14, .aload_n 0, 1, 0, 0), (15, .getfield 81, 3, 11, 9), (18, .iload_n 1, 1, 0, 0), (19, .iload_n 2, 1, 0, 0), (20, .iload_n 3, 1, 0, 0), (21, .iload 4, 2, 0, 0), (23, .iload 5, 2, 0, 0), (25, .invokevirtual 385, 3, 115, 0), (28, .goto 4, 3, 32, 0), (31, .iconst (-1), 1, 0, 0), (32, .ireturn, 1, 0, 0)]
def zM192 : aM := (11, ⟨"AcresPaid", "shift", "(IIIII)I"⟩, prog_1_method_57_code, 6, (Option.some .int), 5, 0, zI192)
def zI193 : List aI := [(0, .iload_n 1, 1, 0, 0), (1, .invokestatic 235, 3, 142, 0), (4, .ifCond .eq 13, 3, 17, 0), (7, .iload_n 2, 1, 0, 0), (8, .iconst 0, 1, 0, 0), (9, .bipush 7, 2, 0, 0), (11, .invokestatic 85, 3, 137, 0), (14, .ifCond .ne 5, 3, 19, 0), (17, .iconst (-1), 1, 0, 0), (18, .ireturn, 1, 0, 0), (19, .aload_n 0, 1, 0, 0), (20, .getfield 81, 3, 11, 9), (23, .getfield 238, 3, 9, 0), (26, .iload_n 1, 1, 0, 0), (27, .iaload, 1, 0, 0), (28, .istore_n 3, 1, 0, 0), (29, .iload_n 3, 1, 0, 0), (30, .iconst (-1), 1, 0, 0), (31, .if_icmp .ne 6, 3, 37, 0), (34, .bipush (-11), 2, 0, 0), (36, .ireturn, 1, 0, 0), (37, .iload_n 3, 1, 0, 0), (38, .iconst 5, 1, 0, 0), (39, .if_icmp .eq 6, 3, 45, 0), (42, .bipush (-12), 2, 0, 0), (44, .ireturn, 1, 0, 0), (45, .aload_n 0, 1, 0, 0), (46, .getfield 12, 3, 11, 0), (49, .getfield 139, 3, 6, 7), (52, .aload_n 0, 1, 0, 0), (53, .getfield 81, 3, 11, 9), (56, .getfield 388, 3, 9, 1), (59, .iload_n 1, 1, 0, 0), (60, .iaload, 1, 0, 0), (61, .iaload, 1, 0, 0), (62, .istore 4, 2, 0, 0), (64, .iload 4, 2, 0, 0), (66, .iload_n 2, 1, 0, 0), (67, .invokestatic 391, 3, 72, 0), (70, .ifCond .eq 8, 3, 78, 0), (73, .iload 4, 2, 0, 0), (75, .goto 5, 3, 80, 0), (78, .bipush (-12), 2, 0, 0), (80, .ireturn, 1, 0, 0)]
def zM193 : aM := (11, ⟨"AcresPaid", "taken", "(II)I"⟩, prog_1_method_58_code, 5, (Option.some .int), 2, 0, zI193)
def zI194 : List aI := [(0, .iload_n 1, 1, 0, 0), (1, .tableswitch 159 0 11 #[63, 71, 79, 87, 95, 103, 111, 119, 127, 135, 143, 151], 63, 0, 0), (64, .aload_n 0, 1, 0, 0), (65, .getfield 12, 3, 11, 0), (68, .getfield 394, 3, 6, 1), (71, .ireturn, 1, 0, 0), (72, .aload_n 0, 1, 0, 0), (73, .getfield 12, 3, 11, 0), (76, .getfield 395, 3, 6, 2), (79, .ireturn, 1, 0, 0), (80, .aload_n 0, 1, 0, 0), (81, .getfield 12, 3, 11, 0), (84, .getfield 398, 3, 6, 3), (87, .ireturn, 1, 0, 0), (88, .aload_n 0, 1, 0, 0), (89, .getfield 12, 3, 11, 0), (92, .getfield 401, 3, 6, 4), (95, .ireturn, 1, 0, 0), (96, .aload_n 0, 1, 0, 0), (97, .getfield 28, 3, 11, 2), (100, .getfield 176, 3, 2, 1), (103, .ireturn, 1, 0, 0), (104, .aload_n 0, 1, 0, 0), (105, .getfield 12, 3, 11, 0), (108, .getfield 167, 3, 6, 6), (111, .ireturn, 1, 0, 0), (112, .aload_n 0, 1, 0, 0), (113, .getfield 28, 3, 11, 2), (116, .getfield 221, 3, 2, 3), (119, .ireturn, 1, 0, 0), (120, .aload_n 0, 1, 0, 0), (121, .getfield 12, 3, 11, 0), (124, .getfield 93, 3, 6, 0), (127, .ireturn, 1, 0, 0), (128, .aload_n 0, 1, 0, 0), (129, .getfield 35, 3, 11, 3), (132, .getfield 260, 3, 10, 7), (135, .ireturn, 1, 0, 0), (136, .aload_n 0, 1, 0, 0), (137, .getfield 35, 3, 11, 3), (140, .getfield 251, 3, 10, 1), (143, .ireturn, 1, 0, 0), (144, .aload_n 0, 1, 0, 0), (145, .getfield 19, 3, 11, 1), (148, .getfield 108, 3, 7, 2), (151, .ireturn, 1, 0, 0), (152, .aload_n 0, 1, 0, 0), (153, .getfield 74, 3, 11, 8), (156, .getfield 349, 3, 1, 1), (159, .ireturn, 1, 0, 0), (160, .iconst (-1), 1, 0, 0), (161, .ireturn, 1, 0, 0)]
def zM194 : aM := (11, ⟨"AcresPaid", "count", "(I)I"⟩, prog_1_method_59_code, 2, (Option.some .int), 1, 0, zI194)
def zI195_0 : List aI := [(0, .aload_n 0, 1, 0, 0), (1, .invokespecial 1, 3, 1000, 0), (4, .aload_n 0, 1, 0, 0), (5, .sipush 150, 3, 0, 0), (8, .newarray .int, 2, 0, 0), (10, .putfield 7, 3, 12, 3), (13, .aload_n 0, 1, 0, 0), (14, .sipush 150, 3, 0, 0), (17, .newarray .int, 2, 0, 0), (19, .putfield 13, 3, 12, 4), (22, .aload_n 0, 1, 0, 0), (23, .sipush 150, 3, 0, 0), (26, .newarray .int, 2, 0, 0), (28, .putfield 16, 3, 12, 5), (31, .aload_n 0, 1, 0, 0), (32, .sipush 150, 3, 0, 0), (35, .newarray .int, 2, 0, 0), (37, .putfield 19, 3, 12, 6), (40, .aload_n 0, 1, 0, 0), (41, .sipush 150, 3, 0, 0), (44, .newarray .int, 2, 0, 0), (46, .putfield 22, 3, 12, 7), (49, .aload_n 0, 1, 0, 0), (50, .sipush 150, 3, 0, 0), (53, .newarray .int, 2, 0, 0), (55, .putfield 25, 3, 12, 8), (58, .aload_n 0, 1, 0, 0), (59, .sipush 150, 3, 0, 0), (62, .newarray .int, 2, 0, 0), (64, .putfield 28, 3, 12, 9), (67, .aload_n 0, 1, 0, 0), (68, .sipush 3600, 3, 0, 0), (71, .newarray .int, 2, 0, 0), (73, .putfield 31, 3, 12, 10), (76, .aload_n 0, 1, 0, 0), (77, .bipush 12, 2, 0, 0), (79, .newarray .int, 2, 0, 0), (81, .putfield 34, 3, 12, 12), (84, .aload_n 0, 1, 0, 0), (85, .bipush 12, 2, 0, 0), (87, .newarray .int, 2, 0, 0), (89, .putfield 37, 3, 12, 13), (92, .aload_n 0, 1, 0, 0), (93, .sipush 200, 3, 0, 0), (96, .newarray .int, 2, 0, 0), (98, .putfield 40, 3, 12, 15), (101, .aload_n 0, 1, 0, 0), (102, .sipush 200, 3, 0, 0), (105, .newarray .int, 2, 0, 0), (107, .putfield 43, 3, 12, 16), (110, .aload_n 0, 1, 0, 0), (111, .sipush 200, 3, 0, 0), (114, .newarray .int, 2, 0, 0), (116, .putfield 46, 3, 12, 17), (119, .aload_n 0, 1, 0, 0), (120, .sipush 200, 3, 0, 0), (123, .newarray .int, 2, 0, 0), (125, .putfield 49, 3, 12, 18), (128, .aload_n 0, 1, 0, 0), (129, .sipush 300, 3, 0, 0), (132, .newarray .int, 2, 0, 0), (134, .putfield 52, 3, 12, 20), (137, .aload_n 0, 1, 0, 0), (138, .sipush 300, 3, 0, 0), (141, .newarray .int, 2, 0, 0), (143, .putfield 55, 3, 12, 21), (146, .aload_n 0, 1, 0, 0), (147, .sipush 300, 3, 0, 0), (150, .newarray .int, 2, 0, 0), (152, .putfield 58, 3, 12, 22), (155, .aload_n 0, 1, 0, 0), (156, .sipush 300, 3, 0, 0), (159, .newarray .int, 2, 0, 0), (161, .putfield 61, 3, 12, 23), (164, .aload_n 0, 1, 0, 0), (165, .iconst 4, 1, 0, 0), (166, .newarray .int, 2, 0, 0), (168, .dup, 1, 0, 0), (169, .iconst 0, 1, 0, 0), (170, .sipush 135, 3, 0, 0), (173, .iastore, 1, 0, 0), (174, .dup, 1, 0, 0), (175, .iconst 1, 1, 0, 0), (176, .sipush 135, 3, 0, 0), (179, .iastore, 1, 0, 0), (180, .dup, 1, 0, 0), (181, .iconst 2, 1, 0, 0), (182, .sipush 135, 3, 0, 0), (185, .iastore, 1, 0, 0), (186, .dup, 1, 0, 0), (187, .iconst 3, 1, 0, 0), (188, .sipush 135, 3, 0, 0), (191, .iastore, 1, 0, 0), (192, .putfield 64, 3, 12, 24), (195, .aload_n 0, 1, 0, 0), (196, .bipush 40, 2, 0, 0), (198, .newarray .int, 2, 0, 0), (200, .putfield 67, 3, 12, 26), (203, .aload_n 0, 1, 0, 0), (204, .bipush 40, 2, 0, 0)]
def zI195_1 : List aI := [(206, .newarray .int, 2, 0, 0), (208, .putfield 70, 3, 12, 27), (211, .aload_n 0, 1, 0, 0), (212, .bipush 40, 2, 0, 0), (214, .newarray .int, 2, 0, 0), (216, .putfield 73, 3, 12, 28), (219, .aload_n 0, 1, 0, 0), (220, .bipush 40, 2, 0, 0), (222, .newarray .int, 2, 0, 0), (224, .putfield 76, 3, 12, 29), (227, .aload_n 0, 1, 0, 0), (228, .bipush 40, 2, 0, 0), (230, .newarray .int, 2, 0, 0), (232, .putfield 79, 3, 12, 30), (235, .aload_n 0, 1, 0, 0), (236, .bipush 40, 2, 0, 0), (238, .newarray .int, 2, 0, 0), (240, .putfield 82, 3, 12, 31), (243, .aload_n 0, 1, 0, 0), (244, .sipush 200, 3, 0, 0), (247, .newarray .int, 2, 0, 0), (249, .putfield 85, 3, 12, 33), (252, .aload_n 0, 1, 0, 0), (253, .sipush 200, 3, 0, 0), (256, .newarray .int, 2, 0, 0), (258, .putfield 88, 3, 12, 34), (261, .aload_n 0, 1, 0, 0), (262, .sipush 200, 3, 0, 0), (265, .newarray .int, 2, 0, 0), (267, .putfield 91, 3, 12, 35), (270, .aload_n 0, 1, 0, 0), (271, .sipush 200, 3, 0, 0), (274, .newarray .int, 2, 0, 0), (276, .putfield 94, 3, 12, 36), (279, .aload_n 0, 1, 0, 0), (280, .sipush 200, 3, 0, 0), (283, .newarray .int, 2, 0, 0), (285, .putfield 97, 3, 12, 37), (288, .aload_n 0, 1, 0, 0), (289, .iconst 1, 1, 0, 0), (290, .putfield 100, 3, 12, 38), (293, .aload_n 0, 1, 0, 0), (294, .iconst (-1), 1, 0, 0), (295, .putfield 104, 3, 12, 39), (298, .aload_n 0, 1, 0, 0), (299, .sipush 300, 3, 0, 0), (302, .newarray .boolean, 2, 2, 0), (304, .putfield 108, 3, 12, 40), (307, .aload_n 0, 1, 0, 0), (308, .sipush 300, 3, 0, 0), (311, .newarray .int, 2, 0, 0), (313, .putfield 112, 3, 12, 41), (316, .aload_n 0, 1, 0, 0), (317, .sipush 300, 3, 0, 0), (320, .newarray .int, 2, 0, 0), (322, .putfield 115, 3, 12, 42), (325, .aload_n 0, 1, 0, 0), (326, .sipush 300, 3, 0, 0), (329, .newarray .int, 2, 0, 0), (331, .putfield 118, 3, 12, 43), (334, .aload_n 0, 1, 0, 0), (335, .sipush 576, 3, 0, 0), (338, .newarray .int, 2, 0, 0), (340, .putfield 121, 3, 12, 44), (343, .aload_n 0, 1, 0, 0), (344, .sipush 576, 3, 0, 0), (347, .newarray .boolean, 2, 2, 0), (349, .putfield 124, 3, 12, 45), (352, .aload_n 0, 1, 0, 0), (353, .sipush 576, 3, 0, 0), (356, .newarray .boolean, 2, 2, 0), (358, .putfield 127, 3, 12, 46), (361, .aload_n 0, 1, 0, 0), (362, .sipush 576, 3, 0, 0), (365, .newarray .boolean, 2, 2, 0), (367, .putfield 130, 3, 12, 47), (370, .aload_n 0, 1, 0, 0), (371, .sipush 1500, 3, 0, 0), (374, .newarray .int, 2, 0, 0), (376, .putfield 133, 3, 12, 48), (379, .aload_n 0, 1, 0, 0), (380, .bipush 48, 2, 0, 0), (382, .newarray .int, 2, 0, 0), (384, .putfield 136, 3, 12, 49), (387, .aload_n 0, 1, 0, 0), (388, .sipush 9000, 3, 0, 0), (391, .newarray .int, 2, 0, 0), (393, .putfield 139, 3, 12, 50), (396, .aload_n 0, 1, 0, 0), (397, .sipush 9000, 3, 0, 0), (400, .newarray .boolean, 2, 2, 0), (402, .putfield 142, 3, 12, 51), (405, .aload_n 0, 1, 0, 0), (406, .iconst (-1), 1, 0, 0), (407, .putfield 145, 3, 12, 52), (410, .aload_n 0, 1, 0, 0), (411, .sipush 160, 3, 0, 0), (414, .newarray .byte, 2, 3, 0), (416, .putfield 148, 3, 12, 53), (419, .aload_n 0, 1, 0, 0)]
def zI195_2 : List aI := [(420, .bipush 16, 2, 0, 0), (422, .newarray .int, 2, 0, 0), (424, .putfield 152, 3, 12, 56), (427, .aload_n 0, 1, 0, 0), (428, .bipush 16, 2, 0, 0), (430, .newarray .int, 2, 0, 0), (432, .putfield 155, 3, 12, 57), (435, .aload_n 0, 1, 0, 0), (436, .bipush 16, 2, 0, 0), (438, .newarray .int, 2, 0, 0), (440, .putfield 158, 3, 12, 58), (443, .aload_n 0, 1, 0, 0), (444, .bipush 17, 2, 0, 0), (446, .newarray .int, 2, 0, 0), (448, .putfield 161, 3, 12, 59), (451, .aload_n 0, 1, 0, 0), (452, .sipush 1530, 3, 0, 0), (455, .newarray .int, 2, 0, 0), (457, .putfield 164, 3, 12, 60), (460, .aload_n 0, 1, 0, 0), (461, .sipush 1530, 3, 0, 0), (464, .newarray .int, 2, 0, 0), (466, .putfield 167, 3, 12, 61), (469, .aload_n 0, 1, 0, 0), (470, .sipush 2890, 3, 0, 0), (473, .newarray .int, 2, 0, 0), (475, .putfield 170, 3, 12, 62), (478, .aload_n 0, 1, 0, 0), (479, .sipush 2890, 3, 0, 0), (482, .newarray .int, 2, 0, 0), (484, .putfield 173, 3, 12, 63), (487, .aload_n 0, 1, 0, 0), (488, .bipush 13, 2, 0, 0), (490, .newarray .int, 2, 0, 0), (492, .putfield 176, 3, 12, 69), (495, .aload_n 0, 1, 0, 0), (496, .sipush 170, 3, 0, 0), (499, .newarray .int, 2, 0, 0), (501, .putfield 179, 3, 12, 70), (504, .aload_n 0, 1, 0, 0), (505, .bipush 8, 2, 0, 0), (507, .newarray .int, 2, 0, 0), (509, .putfield 182, 3, 12, 72), (512, .aload_n 0, 1, 0, 0), (513, .sipush 150, 3, 0, 0), (516, .newarray .boolean, 2, 2, 0), (518, .putfield 185, 3, 12, 73), (521, .aload_n 0, 1, 0, 0), (522, .bipush 6, 2, 0, 0), (524, .newarray .int, 2, 0, 0), (526, .putfield 188, 3, 12, 74), (529, .aload_n 0, 1, 0, 0), (530, .sipush 1500, 3, 0, 0), (533, .newarray .int, 2, 0, 0), (535, .putfield 191, 3, 12, 76), (538, .aload_n 0, 1, 0, 0), (539, .sipush 150, 3, 0, 0), (542, .newarray .long, 2, 1, 0), (544, .putfield 194, 3, 12, 77), (547, .aload_n 0, 1, 0, 0), (548, .sipush 150, 3, 0, 0), (551, .newarray .long, 2, 1, 0), (553, .putfield 198, 3, 12, 78), (556, .aload_n 0, 1, 0, 0), (557, .bipush 10, 2, 0, 0), (559, .newarray .int, 2, 0, 0), (561, .putfield 201, 3, 12, 80), (564, .aload_n 0, 1, 0, 0), (565, .iconst (-1), 1, 0, 0), (566, .putfield 204, 3, 12, 81), (569, .aload_n 0, 1, 0, 0), (570, .bipush 10, 2, 0, 0), (572, .newarray .int, 2, 0, 0), (574, .putfield 207, 3, 12, 82), (577, .aload_n 0, 1, 0, 0), (578, .iconst 1, 1, 0, 0), (579, .putfield 210, 3, 12, 83), (582, .aload_n 0, 1, 0, 0), (583, .iconst (-1), 1, 0, 0), (584, .putfield 213, 3, 12, 84), (587, .aload_n 0, 1, 0, 0), (588, .bipush 9, 2, 0, 0), (590, .newarray .int, 2, 0, 0), (592, .putfield 216, 3, 12, 85), (595, .aload_n 0, 1, 0, 0), (596, .sipush 150, 3, 0, 0), (599, .newarray .boolean, 2, 2, 0), (601, .putfield 219, 3, 12, 86), (604, .aload_n 0, 1, 0, 0), (605, .bipush 6, 2, 0, 0), (607, .newarray .int, 2, 0, 0), (609, .putfield 222, 3, 12, 88), (612, .aload_n 0, 1, 0, 0), (613, .bipush 8, 2, 0, 0), (615, .newarray .int, 2, 0, 0), (617, .putfield 225, 3, 12, 89), (620, .aload_n 0, 1, 0, 0), (621, .bipush 6, 2, 0, 0), (623, .newarray .int, 2, 0, 0), (625, .putfield 228, 3, 12, 90)]
def zI195_3 : List aI := [(628, .aload_n 0, 1, 0, 0), (629, .bipush 6, 2, 0, 0), (631, .newarray .int, 2, 0, 0), (633, .putfield 231, 3, 12, 91), (636, .aload_n 0, 1, 0, 0), (637, .bipush 8, 2, 0, 0), (639, .newarray .int, 2, 0, 0), (641, .putfield 234, 3, 12, 92), (644, .aload_n 0, 1, 0, 0), (645, .iconst (-1), 1, 0, 0), (646, .putfield 237, 3, 12, 93), (649, .aload_n 0, 1, 0, 0), (650, .bipush 24, 2, 0, 0), (652, .newarray .int, 2, 0, 0), (654, .putfield 240, 3, 12, 96), (657, .aload_n 0, 1, 0, 0), (658, .bipush 6, 2, 0, 0), (660, .newarray .int, 2, 0, 0), (662, .dup, 1, 0, 0), (663, .iconst 0, 1, 0, 0), (664, .iconst (-1), 1, 0, 0), (665, .iastore, 1, 0, 0), (666, .dup, 1, 0, 0), (667, .iconst 1, 1, 0, 0), (668, .iconst (-1), 1, 0, 0), (669, .iastore, 1, 0, 0), (670, .dup, 1, 0, 0), (671, .iconst 2, 1, 0, 0), (672, .iconst (-1), 1, 0, 0), (673, .iastore, 1, 0, 0), (674, .dup, 1, 0, 0), (675, .iconst 3, 1, 0, 0), (676, .iconst (-1), 1, 0, 0), (677, .iastore, 1, 0, 0), (678, .dup, 1, 0, 0), (679, .iconst 4, 1, 0, 0), (680, .iconst (-1), 1, 0, 0), (681, .iastore, 1, 0, 0), (682, .dup, 1, 0, 0), (683, .iconst 5, 1, 0, 0), (684, .iconst (-1), 1, 0, 0), (685, .iastore, 1, 0, 0), (686, .putfield 243, 3, 12, 97), (689, .aload_n 0, 1, 0, 0), (690, .bipush 6, 2, 0, 0), (692, .newarray .int, 2, 0, 0), (694, .putfield 246, 3, 12, 98), (697, .aload_n 0, 1, 0, 0), (698, .sipush 360, 3, 0, 0), (701, .newarray .long, 2, 1, 0), (703, .putfield 249, 3, 12, 99), (706, .aload_n 0, 1, 0, 0), (707, .bipush 60, 2, 0, 0), (709, .newarray .long, 2, 1, 0), (711, .putfield 252, 3, 12, 100), (714, .return_, 1, 0, 0)]
def zI195 : List aI := zI195_0 ++ (zI195_1 ++ (zI195_2 ++ (zI195_3)))
def zM195 : aM := (12, ⟨"AcresPaidModel", "<init>", "()V"⟩, prog_14_method_1_code, 1, none, 0, 2, zI195)
def zI196 : List aI := [(0, .iload_n 0, 1, 0, 0), (1, .iload_n 1, 1, 0, 0), (2, .if_icmp .lt 12, 3, 14, 0), (5, .iload_n 0, 1, 0, 0), (6, .iload_n 2, 1, 0, 0), (7, .if_icmp .gt 7, 3, 14, 0), (10, .iconst 1, 1, 0, 0), (11, .goto 4, 3, 15, 0), (14, .iconst 0, 1, 0, 0), (15, .ireturn, 1, 0, 0)]
def zM196 : aM := (12, ⟨"AcresPaidModel", "in", "(III)Z"⟩, prog_14_method_3_code, 3, (Option.some .boolean), 3, 1, zI196)
def zI197 : List aI := [(0, .iload_n 0, 1, 0, 0), (1, .iconst 0, 1, 0, 0), (2, .sipush 3649, 3, 0, 0), (5, .invokestatic 258, 3, 196, 0), (8, .ireturn, 1, 0, 0)]
def zM197 : aM := (12, ⟨"AcresPaidModel", "isDay", "(I)Z"⟩, prog_14_method_4_code, 1, (Option.some .boolean), 1, 1, zI197)
def zI198 : List aI := [(0, .iload_n 0, 1, 0, 0), (1, .iconst 0, 1, 0, 0), (2, .bipush 9, 2, 0, 0), (4, .invokestatic 258, 3, 196, 0), (7, .ireturn, 1, 0, 0)]
def zM198 : aM := (12, ⟨"AcresPaidModel", "isYear", "(I)Z"⟩, prog_14_method_5_code, 1, (Option.some .boolean), 1, 1, zI198)
def zI199 : List aI := [(0, .iload_n 1, 1, 0, 0), (1, .iconst 1, 1, 0, 0), (2, .sipush 365, 3, 0, 0), (5, .invokestatic 258, 3, 196, 0), (8, .ifCond .eq 15, 3, 23, 0), (11, .aload_n 0, 1, 0, 0), (12, .getfield 262, 3, 12, 1), (15, .iload_n 1, 1, 0, 0), (16, .iadd, 1, 0, 0), (17, .sipush 3649, 3, 0, 0), (20, .if_icmp .le 5, 3, 25, 0), (23, .iconst (-1), 1, 0, 0), (24, .ireturn, 1, 0, 0), (25, .aload_n 0, 1, 0, 0), (26, .dup, 1, 0, 0), (27, .getfield 262, 3, 12, 1), (30, .iload_n 1, 1, 0, 0), (31, .iadd, 1, 0, 0), (32, .putfield 262, 3, 12, 1), (35, .aload_n 0, 1, 0, 0), (36, .getfield 262, 3, 12, 1), (39, .ireturn, 1, 0, 0)]
def zM199 : aM := (12, ⟨"AcresPaidModel", "days", "(I)I"⟩, prog_14_method_6_code, 2, (Option.some .int), 1, 0, zI199)
def zI200 : List aI := [(0, .iload_n 1, 1, 0, 0), (1, .iconst 0, 1, 0, 0), (2, .aload_n 0, 1, 0, 0), (3, .getfield 265, 3, 12, 2), (6, .iconst 1, 1, 0, 0), (7, .isub, 1, 0, 0), (8, .invokestatic 258, 3, 196, 0), (11, .ireturn, 1, 0, 0)]
def zM200 : aM := (12, ⟨"AcresPaidModel", "isBody", "(I)Z"⟩, prog_14_method_7_code, 2, (Option.some .boolean), 1, 0, zI200)
def zI201 : List aI := [(0, .iload_n 1, 1, 0, 0), (1, .ifCond .eq 8, 3, 9, 0), (4, .iload_n 0, 1, 0, 0), (5, .iload_n 1, 1, 0, 0), (6, .if_icmp .ne 5, 3, 11, 0), (9, .iconst 1, 1, 0, 0), (10, .ireturn, 1, 0, 0), (11, .iload_n 1, 1, 0, 0), (12, .iconst 1, 1, 0, 0), (13, .if_icmp .ne 25, 3, 38, 0), (16, .iload_n 0, 1, 0, 0), (17, .iconst 2, 1, 0, 0), (18, .if_icmp .eq 14, 3, 32, 0), (21, .iload_n 0, 1, 0, 0), (22, .iconst 3, 1, 0, 0), (23, .if_icmp .eq 9, 3, 32, 0), (26, .iload_n 0, 1, 0, 0), (27, .bipush 7, 2, 0, 0), (29, .if_icmp .ne 7, 3, 36, 0), (32, .iconst 1, 1, 0, 0), (33, .goto 4, 3, 37, 0), (36, .iconst 0, 1, 0, 0), (37, .ireturn, 1, 0, 0), (38, .iload_n 1, 1, 0, 0), (39, .iconst 2, 1, 0, 0), (40, .if_icmp .ne 15, 3, 55, 0), (43, .iload_n 0, 1, 0, 0), (44, .bipush 7, 2, 0, 0), (46, .if_icmp .ne 7, 3, 53, 0), (49, .iconst 1, 1, 0, 0), (50, .goto 4, 3, 54, 0), (53, .iconst 0, 1, 0, 0), (54, .ireturn, 1, 0, 0), (55, .iload_n 1, 1, 0, 0), (56, .iconst 4, 1, 0, 0), (57, .if_icmp .ne 12, 3, 69, 0), (60, .iload_n 0, 1, 0, 0), (61, .iconst 5, 1, 0, 0), (62, .if_icmp .ne 7, 3, 69, 0), (65, .iconst 1, 1, 0, 0), (66, .goto 4, 3, 70, 0), (69, .iconst 0, 1, 0, 0), (70, .ireturn, 1, 0, 0)]
def zM201 : aM := (12, ⟨"AcresPaidModel", "isUnder", "(II)Z"⟩, prog_14_method_8_code, 2, (Option.some .boolean), 2, 1, zI201)
def zI202 : List aI := [(0, .aload_n 0, 1, 0, 0), (1, .iload_n 1, 1, 0, 0), (2, .invokevirtual 268, 3, 200, 0), (5, .ifCond .eq 20, 3, 25, 0), (8, .aload_n 0, 1, 0, 0), (9, .getfield 7, 3, 12, 3), (12, .iload_n 1, 1, 0, 0), (13, .iaload, 1, 0, 0), (14, .iconst 1, 1, 0, 0), (15, .invokestatic 272, 3, 201, 0), (18, .ifCond .eq 7, 3, 25, 0), (21, .iconst 1, 1, 0, 0), (22, .goto 4, 3, 26, 0), (25, .iconst 0, 1, 0, 0), (26, .ireturn, 1, 0, 0)]
def zM202 : aM := (12, ⟨"AcresPaidModel", "isFarm", "(I)Z"⟩, prog_14_method_9_code, 2, (Option.some .boolean), 1, 0, zI202)
def zI203 : List aI := [(0, .aload_n 0, 1, 0, 0), (1, .iload_n 1, 1, 0, 0), (2, .invokevirtual 268, 3, 200, 0), (5, .ifCond .eq 20, 3, 25, 0), (8, .aload_n 0, 1, 0, 0), (9, .getfield 7, 3, 12, 3), (12, .iload_n 1, 1, 0, 0), (13, .iaload, 1, 0, 0), (14, .iconst 4, 1, 0, 0), (15, .invokestatic 272, 3, 201, 0), (18, .ifCond .eq 7, 3, 25, 0), (21, .iconst 1, 1, 0, 0), (22, .goto 4, 3, 26, 0), (25, .iconst 0, 1, 0, 0), (26, .ireturn, 1, 0, 0)]
def zM203 : aM := (12, ⟨"AcresPaidModel", "isField", "(I)Z"⟩, prog_14_method_10_code, 2, (Option.some .boolean), 1, 0, zI203)
def zI204 : List aI := [(0, .aload_n 0, 1, 0, 0), (1, .getfield 7, 3, 12, 3), (4, .aload_n 0, 1, 0, 0), (5, .getfield 265, 3, 12, 2), (8, .iload_n 1, 1, 0, 0), (9, .iastore, 1, 0, 0), (10, .aload_n 0, 1, 0, 0), (11, .getfield 16, 3, 12, 5), (14, .aload_n 0, 1, 0, 0), (15, .getfield 265, 3, 12, 2), (18, .iconst (-1), 1, 0, 0), (19, .iastore, 1, 0, 0), (20, .aload_n 0, 1, 0, 0), (21, .getfield 19, 3, 12, 6), (24, .aload_n 0, 1, 0, 0), (25, .getfield 265, 3, 12, 2), (28, .aload_n 0, 1, 0, 0), (29, .getfield 262, 3, 12, 1), (32, .iastore, 1, 0, 0), (33, .aload_n 0, 1, 0, 0), (34, .getfield 22, 3, 12, 7), (37, .aload_n 0, 1, 0, 0), (38, .getfield 265, 3, 12, 2), (41, .iconst (-1), 1, 0, 0), (42, .iastore, 1, 0, 0), (43, .aload_n 0, 1, 0, 0), (44, .dup, 1, 0, 0), (45, .getfield 265, 3, 12, 2), (48, .iconst 1, 1, 0, 0), (49, .iadd, 1, 0, 0), (50, .putfield 265, 3, 12, 2), (53, .aload_n 0, 1, 0, 0), (54, .getfield 265, 3, 12, 2), (57, .iconst 1, 1, 0, 0), (58, .isub, 1, 0, 0), (59, .ireturn, 1, 0, 0)]
def zM204 : aM := (12, ⟨"AcresPaidModel", "add", "(I)I"⟩, prog_14_method_11_code, 2, (Option.some .int), 1, 0, zI204)
def zI205 : List aI := [(0, .aload_n 0, 1, 0, 0), (1, .getfield 265, 3, 12, 2), (4, .sipush 150, 3, 0, 0), (7, .if_icmp .ne 8, 3, 15, 0), (10, .bipush (-3), 2, 0, 0), (12, .goto 8, 3, 20, 0), (15, .aload_n 0, 1, 0, 0), (16, .iconst 0, 1, 0, 0), (17, .invokevirtual 276, 3, 204, 0), (20, .ireturn, 1, 0, 0)]
def zM205 : aM := (12, ⟨"AcresPaidModel", "body", "()I"⟩, prog_14_method_12_code, 1, (Option.some .int), 0, 0, zI205)
def zI206 : List aI := [(0, .iload_n 0, 1, 0, 0), (1, .iconst 0, 1, 0, 0), (2, .iconst 3, 1, 0, 0), (3, .invokestatic 258, 3, 196, 0), (6, .ireturn, 1, 0, 0)]
def zM206 : aM := (12, ⟨"AcresPaidModel", "isLand", "(I)Z"⟩, prog_14_method_13_code, 1, (Option.some .boolean), 1, 1, zI206)
def zI207 : List aI := [(0, .iload_n 1, 1, 0, 0), (1, .iconst 1, 1, 0, 0), (2, .invokestatic 272, 3, 201, 0), (5, .ifCond .eq 20, 3, 25, 0), (8, .iload_n 1, 1, 0, 0), (9, .iconst 0, 1, 0, 0), (10, .bipush 7, 2, 0, 0), (12, .invokestatic 258, 3, 196, 0), (15, .ifCond .eq 10, 3, 25, 0), (18, .iload_n 2, 1, 0, 0), (19, .invokestatic 280, 3, 206, 0), (22, .ifCond .ne 5, 3, 27, 0), (25, .iconst (-1), 1, 0, 0), (26, .ireturn, 1, 0, 0), (27, .aload_n 0, 1, 0, 0), (28, .getfield 265, 3, 12, 2), (31, .sipush 150, 3, 0, 0), (34, .if_icmp .ne 6, 3, 40, 0), (37, .bipush (-3), 2, 0, 0), (39, .ireturn, 1, 0, 0), (40, .aload_n 0, 1, 0, 0), (41, .iload_n 1, 1, 0, 0), (42, .invokevirtual 276, 3, 204, 0), (45, .istore_n 3, 1, 0, 0), (46, .aload_n 0, 1, 0, 0), (47, .getfield 13, 3, 12, 4), (50, .iload_n 3, 1, 0, 0), (51, .iload_n 2, 1, 0, 0), (52, .iastore, 1, 0, 0), (53, .iload_n 3, 1, 0, 0), (54, .ireturn, 1, 0, 0)]
def zM207 : aM := (12, ⟨"AcresPaidModel", "farm", "(II)I"⟩, prog_14_method_14_code, 4, (Option.some .int), 2, 0, zI207)
def zI208 : List aI := [(0, .iload_n 1, 1, 0, 0), (1, .iconst 1, 1, 0, 0), (2, .sipush 999, 3, 0, 0), (5, .invokestatic 258, 3, 196, 0), (8, .ifCond .ne 5, 3, 13, 0), (11, .iconst (-1), 1, 0, 0), (12, .ireturn, 1, 0, 0), (13, .aload_n 0, 1, 0, 0), (14, .getfield 265, 3, 12, 2), (17, .sipush 150, 3, 0, 0), (20, .if_icmp .ne 6, 3, 26, 0), (23, .bipush (-3), 2, 0, 0), (25, .ireturn, 1, 0, 0), (26, .aload_n 0, 1, 0, 0), (27, .bipush 6, 2, 0, 0), (29, .invokevirtual 276, 3, 204, 0), (32, .istore_n 2, 1, 0, 0), (33, .aload_n 0, 1, 0, 0), (34, .getfield 28, 3, 12, 9), (37, .iload_n 2, 1, 0, 0), (38, .iload_n 1, 1, 0, 0), (39, .iastore, 1, 0, 0), (40, .iload_n 2, 1, 0, 0), (41, .ireturn, 1, 0, 0)]
def zM208 : aM := (12, ⟨"AcresPaidModel", "permit", "(I)I"⟩, prog_14_method_15_code, 3, (Option.some .int), 1, 0, zI208)
def zI209 : List aI := [(0, .iload_n 1, 1, 0, 0), (1, .iconst 0, 1, 0, 0), (2, .bipush 24, 2, 0, 0), (4, .invokestatic 258, 3, 196, 0), (7, .ifCond .eq 13, 3, 20, 0), (10, .iload_n 2, 1, 0, 0), (11, .iconst 0, 1, 0, 0), (12, .bipush 24, 2, 0, 0), (14, .invokestatic 258, 3, 196, 0), (17, .ifCond .ne 5, 3, 22, 0), (20, .iconst (-1), 1, 0, 0), (21, .ireturn, 1, 0, 0), (22, .aload_n 0, 1, 0, 0), (23, .getfield 283, 3, 12, 11), (26, .bipush 12, 2, 0, 0), (28, .if_icmp .ne 6, 3, 34, 0), (31, .bipush (-3), 2, 0, 0), (33, .ireturn, 1, 0, 0), (34, .aload_n 0, 1, 0, 0), (35, .getfield 34, 3, 12, 12), (38, .aload_n 0, 1, 0, 0), (39, .getfield 283, 3, 12, 11), (42, .iload_n 1, 1, 0, 0), (43, .iastore, 1, 0, 0), (44, .aload_n 0, 1, 0, 0), (45, .getfield 37, 3, 12, 13), (48, .aload_n 0, 1, 0, 0), (49, .getfield 283, 3, 12, 11), (52, .iload_n 2, 1, 0, 0), (53, .iastore, 1, 0, 0), (54, .aload_n 0, 1, 0, 0), (55, .dup, 1, 0, 0), (56, .getfield 283, 3, 12, 11), (59, .iconst 1, 1, 0, 0), (60, .iadd, 1, 0, 0), (61, .putfield 283, 3, 12, 11), (64, .aload_n 0, 1, 0, 0), (65, .getfield 283, 3, 12, 11), (68, .ireturn, 1, 0, 0)]
def zM209 : aM := (12, ⟨"AcresPaidModel", "corner", "(II)I"⟩, prog_14_method_16_code, 3, (Option.some .int), 2, 0, zI209)
def zI210 : List aI := [(0, .aload_n 0, 1, 0, 0), (1, .getfield 283, 3, 12, 11), (4, .istore_n 1, 1, 0, 0), (5, .aload_n 0, 1, 0, 0), (6, .iconst 0, 1, 0, 0), (7, .putfield 283, 3, 12, 11), (10, .iload_n 1, 1, 0, 0), (11, .ireturn, 1, 0, 0)]
def zM210 : aM := (12, ⟨"AcresPaidModel", "uncorner", "()I"⟩, prog_14_method_17_code, 2, (Option.some .int), 0, 0, zI210)
def zI211 : List aI := [(0, .iload_n 0, 1, 0, 0), (1, .iload_n 1, 1, 0, 0), (2, .if_icmp .ge 7, 3, 9, 0), (5, .iload_n 0, 1, 0, 0), (6, .goto 4, 3, 10, 0), (9, .iload_n 1, 1, 0, 0), (10, .ireturn, 1, 0, 0)]
def zM211 : aM := (12, ⟨"AcresPaidModel", "lesser", "(II)I"⟩, prog_14_method_18_code, 2, (Option.some .int), 2, 1, zI211)
def zI212 : List aI := [(0, .iload_n 0, 1, 0, 0), (1, .iload_n 1, 1, 0, 0), (2, .if_icmp .le 7, 3, 9, 0), (5, .iload_n 0, 1, 0, 0), (6, .goto 4, 3, 10, 0), (9, .iload_n 1, 1, 0, 0), (10, .ireturn, 1, 0, 0)]
def zM212 : aM := (12, ⟨"AcresPaidModel", "greater", "(II)I"⟩, prog_14_method_19_code, 2, (Option.some .int), 2, 1, zI212)
def zI213 : List aI := [(0, .iload_n 1, 1, 0, 0), (1, .iconst 1, 1, 0, 0), (2, .iadd, 1, 0, 0), (3, .aload_n 0, 1, 0, 0), (4, .getfield 283, 3, 12, 11), (7, .irem, 1, 0, 0), (8, .ireturn, 1, 0, 0)]
def zM213 : aM := (12, ⟨"AcresPaidModel", "behind", "(I)I"⟩, prog_14_method_20_code, 2, (Option.some .int), 1, 0, zI213)
def zI214 : List aI := [(0, .aload_n 0, 1, 0, 0), (1, .getfield 34, 3, 12, 12), (4, .iload_n 1, 1, 0, 0), (5, .iaload, 1, 0, 0), (6, .aload_n 0, 1, 0, 0), (7, .getfield 34, 3, 12, 12), (10, .aload_n 0, 1, 0, 0), (11, .iload_n 1, 1, 0, 0), (12, .invokevirtual 286, 3, 213, 0), (15, .iaload, 1, 0, 0), (16, .invokestatic 289, 3, 211, 0), (19, .ireturn, 1, 0, 0)]
def zM214 : aM := (12, ⟨"AcresPaidModel", "lowX", "(I)I"⟩, prog_14_method_21_code, 2, (Option.some .int), 1, 0, zI214)
def zI215 : List aI := [(0, .aload_n 0, 1, 0, 0), (1, .getfield 34, 3, 12, 12), (4, .iload_n 1, 1, 0, 0), (5, .iaload, 1, 0, 0), (6, .aload_n 0, 1, 0, 0), (7, .getfield 34, 3, 12, 12), (10, .aload_n 0, 1, 0, 0), (11, .iload_n 1, 1, 0, 0), (12, .invokevirtual 286, 3, 213, 0), (15, .iaload, 1, 0, 0), (16, .invokestatic 293, 3, 212, 0), (19, .ireturn, 1, 0, 0)]
def zM215 : aM := (12, ⟨"AcresPaidModel", "highX", "(I)I"⟩, prog_14_method_22_code, 2, (Option.some .int), 1, 0, zI215)
def zI216 : List aI := [(0, .aload_n 0, 1, 0, 0), (1, .getfield 37, 3, 12, 13), (4, .iload_n 1, 1, 0, 0), (5, .iaload, 1, 0, 0), (6, .aload_n 0, 1, 0, 0), (7, .getfield 37, 3, 12, 13), (10, .aload_n 0, 1, 0, 0), (11, .iload_n 1, 1, 0, 0), (12, .invokevirtual 286, 3, 213, 0), (15, .iaload, 1, 0, 0), (16, .invokestatic 289, 3, 211, 0), (19, .ireturn, 1, 0, 0)]
def zM216 : aM := (12, ⟨"AcresPaidModel", "lowY", "(I)I"⟩, prog_14_method_23_code, 2, (Option.some .int), 1, 0, zI216)
def zI217 : List aI := [(0, .aload_n 0, 1, 0, 0), (1, .getfield 37, 3, 12, 13), (4, .iload_n 1, 1, 0, 0), (5, .iaload, 1, 0, 0), (6, .aload_n 0, 1, 0, 0), (7, .getfield 37, 3, 12, 13), (10, .aload_n 0, 1, 0, 0), (11, .iload_n 1, 1, 0, 0), (12, .invokevirtual 286, 3, 213, 0), (15, .iaload, 1, 0, 0), (16, .invokestatic 293, 3, 212, 0), (19, .ireturn, 1, 0, 0)]
def zM217 : aM := (12, ⟨"AcresPaidModel", "highY", "(I)I"⟩, prog_14_method_24_code, 2, (Option.some .int), 1, 0, zI217)
def zI218_0 : List aI := [(0, .aload_n 0, 1, 0, 0), (1, .getfield 283, 3, 12, 11), (4, .iconst 4, 1, 0, 0), (5, .if_icmp .lt 13, 3, 18, 0), (8, .aload_n 0, 1, 0, 0), (9, .getfield 283, 3, 12, 11), (12, .iconst 2, 1, 0, 0), (13, .irem, 1, 0, 0), (14, .iconst 1, 1, 0, 0), (15, .if_icmp .ne 5, 3, 20, 0), (18, .iconst 0, 1, 0, 0), (19, .ireturn, 1, 0, 0), (20, .iconst 0, 1, 0, 0), (21, .istore_n 1, 1, 0, 0), (22, .iload_n 1, 1, 0, 0), (23, .aload_n 0, 1, 0, 0), (24, .getfield 283, 3, 12, 11), (27, .if_icmp .ge 92, 3, 119, 0), (30, .aload_n 0, 1, 0, 0), (31, .iload_n 1, 1, 0, 0), (32, .invokevirtual 296, 3, 216, 0), (35, .aload_n 0, 1, 0, 0), (36, .iload_n 1, 1, 0, 0), (37, .invokevirtual 299, 3, 217, 0), (40, .if_icmp .ne 20, 3, 60, 0), (43, .aload_n 0, 1, 0, 0), (44, .iload_n 1, 1, 0, 0), (45, .invokevirtual 302, 3, 214, 0), (48, .aload_n 0, 1, 0, 0), (49, .iload_n 1, 1, 0, 0), (50, .invokevirtual 305, 3, 215, 0), (53, .if_icmp .ge 7, 3, 60, 0), (56, .iconst 1, 1, 0, 0), (57, .goto 4, 3, 61, 0), (60, .iconst 0, 1, 0, 0), (61, .istore_n 2, 1, 0, 0), (62, .aload_n 0, 1, 0, 0), (63, .iload_n 1, 1, 0, 0), (64, .invokevirtual 302, 3, 214, 0), (67, .aload_n 0, 1, 0, 0), (68, .iload_n 1, 1, 0, 0), (69, .invokevirtual 305, 3, 215, 0), (72, .if_icmp .ne 20, 3, 92, 0), (75, .aload_n 0, 1, 0, 0), (76, .iload_n 1, 1, 0, 0), (77, .invokevirtual 296, 3, 216, 0), (80, .aload_n 0, 1, 0, 0), (81, .iload_n 1, 1, 0, 0), (82, .invokevirtual 299, 3, 217, 0), (85, .if_icmp .ge 7, 3, 92, 0), (88, .iconst 1, 1, 0, 0), (89, .goto 4, 3, 93, 0), (92, .iconst 0, 1, 0, 0), (93, .istore_n 3, 1, 0, 0), (94, .iload_n 1, 1, 0, 0), (95, .iconst 2, 1, 0, 0), (96, .irem, 1, 0, 0), (97, .ifCond .ne 10, 3, 107, 0), (100, .iload_n 2, 1, 0, 0), (101, .ifCond .ne 12, 3, 113, 0), (104, .goto 7, 3, 111, 0), (107, .iload_n 3, 1, 0, 0), (108, .ifCond .ne 5, 3, 113, 0), (111, .iconst 0, 1, 0, 0), (112, .ireturn, 1, 0, 0), (113, .iinc 1 1, 3, 0, 0), (116, .goto (-94), 3, 22, 0), (119, .iconst 0, 1, 0, 0), (120, .istore_n 1, 1, 0, 0), (121, .iload_n 1, 1, 0, 0), (122, .aload_n 0, 1, 0, 0), (123, .getfield 283, 3, 12, 11), (126, .if_icmp .ge 98, 3, 224, 0), (129, .iload_n 1, 1, 0, 0), (130, .iconst 2, 1, 0, 0), (131, .iadd, 1, 0, 0), (132, .istore_n 2, 1, 0, 0), (133, .iload_n 2, 1, 0, 0), (134, .aload_n 0, 1, 0, 0), (135, .getfield 283, 3, 12, 11), (138, .if_icmp .ge 80, 3, 218, 0), (141, .iload_n 1, 1, 0, 0), (142, .ifCond .ne 16, 3, 158, 0), (145, .iload_n 2, 1, 0, 0), (146, .aload_n 0, 1, 0, 0), (147, .getfield 283, 3, 12, 11), (150, .iconst 1, 1, 0, 0), (151, .isub, 1, 0, 0), (152, .if_icmp .ne 6, 3, 158, 0), (155, .goto 57, 3, 212, 0), (158, .aload_n 0, 1, 0, 0), (159, .iload_n 1, 1, 0, 0), (160, .invokevirtual 302, 3, 214, 0), (163, .aload_n 0, 1, 0, 0), (164, .iload_n 2, 1, 0, 0), (165, .invokevirtual 305, 3, 215, 0), (168, .if_icmp .gt 44, 3, 212, 0), (171, .aload_n 0, 1, 0, 0), (172, .iload_n 2, 1, 0, 0), (173, .invokevirtual 302, 3, 214, 0)]
def zI218_1 : List aI := [(176, .aload_n 0, 1, 0, 0), (177, .iload_n 1, 1, 0, 0), (178, .invokevirtual 305, 3, 215, 0), (181, .if_icmp .gt 31, 3, 212, 0), (184, .aload_n 0, 1, 0, 0), (185, .iload_n 1, 1, 0, 0), (186, .invokevirtual 296, 3, 216, 0), (189, .aload_n 0, 1, 0, 0), (190, .iload_n 2, 1, 0, 0), (191, .invokevirtual 299, 3, 217, 0), (194, .if_icmp .gt 18, 3, 212, 0), (197, .aload_n 0, 1, 0, 0), (198, .iload_n 2, 1, 0, 0), (199, .invokevirtual 296, 3, 216, 0), (202, .aload_n 0, 1, 0, 0), (203, .iload_n 1, 1, 0, 0), (204, .invokevirtual 299, 3, 217, 0), (207, .if_icmp .gt 5, 3, 212, 0), (210, .iconst 0, 1, 0, 0), (211, .ireturn, 1, 0, 0), (212, .iinc 2 1, 3, 0, 0), (215, .goto (-82), 3, 133, 0), (218, .iinc 1 1, 3, 0, 0), (221, .goto (-100), 3, 121, 0), (224, .iconst 1, 1, 0, 0), (225, .ireturn, 1, 0, 0)]
def zI218 : List aI := zI218_0 ++ (zI218_1)
def zM218 : aM := (12, ⟨"AcresPaidModel", "isSound", "()Z"⟩, prog_14_method_25_code, 4, (Option.some .boolean), 0, 0, zI218)
def zI219 : List aI := [(0, .iconst 0, 1, 0, 0), (1, .istore_n 1, 1, 0, 0), (2, .iconst 0, 1, 0, 0), (3, .istore_n 2, 1, 0, 0), (4, .iload_n 2, 1, 0, 0), (5, .aload_n 0, 1, 0, 0), (6, .getfield 283, 3, 12, 11), (9, .if_icmp .ge 47, 3, 56, 0), (12, .iload_n 1, 1, 0, 0), (13, .aload_n 0, 1, 0, 0), (14, .getfield 34, 3, 12, 12), (17, .iload_n 2, 1, 0, 0), (18, .iaload, 1, 0, 0), (19, .aload_n 0, 1, 0, 0), (20, .getfield 37, 3, 12, 13), (23, .aload_n 0, 1, 0, 0), (24, .iload_n 2, 1, 0, 0), (25, .invokevirtual 286, 3, 213, 0), (28, .iaload, 1, 0, 0), (29, .imul, 1, 0, 0), (30, .aload_n 0, 1, 0, 0), (31, .getfield 34, 3, 12, 12), (34, .aload_n 0, 1, 0, 0), (35, .iload_n 2, 1, 0, 0), (36, .invokevirtual 286, 3, 213, 0), (39, .iaload, 1, 0, 0), (40, .aload_n 0, 1, 0, 0), (41, .getfield 37, 3, 12, 13), (44, .iload_n 2, 1, 0, 0), (45, .iaload, 1, 0, 0), (46, .imul, 1, 0, 0), (47, .isub, 1, 0, 0), (48, .iadd, 1, 0, 0), (49, .istore_n 1, 1, 0, 0), (50, .iinc 2 1, 3, 0, 0), (53, .goto (-49), 3, 4, 0), (56, .iload_n 1, 1, 0, 0), (57, .ifCond .ge 8, 3, 65, 0), (60, .iload_n 1, 1, 0, 0), (61, .ineg, 1, 0, 0), (62, .goto 4, 3, 66, 0), (65, .iload_n 1, 1, 0, 0), (66, .iconst 2, 1, 0, 0), (67, .idiv, 1, 0, 0), (68, .ireturn, 1, 0, 0)]
def zM219 : aM := (12, ⟨"AcresPaidModel", "ringArea", "()I"⟩, prog_14_method_26_code, 3, (Option.some .int), 0, 0, zI219)
def zI220 : List aI := [(0, .aload_n 0, 1, 0, 0), (1, .invokevirtual 308, 3, 218, 0), (4, .ifCond .eq 10, 3, 14, 0), (7, .aload_n 0, 1, 0, 0), (8, .invokevirtual 312, 3, 219, 0), (11, .goto 5, 3, 16, 0), (14, .bipush (-2), 2, 0, 0), (16, .ireturn, 1, 0, 0)]
def zM220 : aM := (12, ⟨"AcresPaidModel", "area", "()I"⟩, prog_14_method_27_code, 1, (Option.some .int), 0, 0, zI220)
def zI221 : List aI := [(0, .iconst 0, 1, 0, 0), (1, .istore_n 3, 1, 0, 0), (2, .iconst 1, 1, 0, 0), (3, .istore 4, 2, 0, 0), (5, .iload 4, 2, 0, 0), (7, .aload_n 0, 1, 0, 0), (8, .getfield 283, 3, 12, 11), (11, .if_icmp .ge 51, 3, 62, 0), (14, .aload_n 0, 1, 0, 0), (15, .getfield 34, 3, 12, 12), (18, .iload 4, 2, 0, 0), (20, .iaload, 1, 0, 0), (21, .iload_n 1, 1, 0, 0), (22, .if_icmp .le 34, 3, 56, 0), (25, .iload_n 2, 1, 0, 0), (26, .aload_n 0, 1, 0, 0), (27, .iload 4, 2, 0, 0), (29, .invokevirtual 296, 3, 216, 0), (32, .aload_n 0, 1, 0, 0), (33, .iload 4, 2, 0, 0), (35, .invokevirtual 299, 3, 217, 0), (38, .iconst 1, 1, 0, 0), (39, .isub, 1, 0, 0), (40, .invokestatic 258, 3, 196, 0), (43, .ifCond .eq 13, 3, 56, 0), (46, .iload_n 3, 1, 0, 0), (47, .ifCond .ne 7, 3, 54, 0), (50, .iconst 1, 1, 0, 0), (51, .goto 4, 3, 55, 0), (54, .iconst 0, 1, 0, 0), (55, .istore_n 3, 1, 0, 0), (56, .iinc 4 2, 3, 0, 0), (59, .goto (-54), 3, 5, 0), (62, .iload_n 3, 1, 0, 0), (63, .ireturn, 1, 0, 0)]
def zM221 : aM := (12, ⟨"AcresPaidModel", "isInRing", "(II)Z"⟩, prog_14_method_28_code, 5, (Option.some .boolean), 2, 0, zI221)
def zI222 : List aI := [(0, .aload_n 0, 1, 0, 0), (1, .iload_n 1, 1, 0, 0), (2, .invokevirtual 316, 3, 202, 0), (5, .ifCond .eq 12, 3, 17, 0), (8, .iload_n 2, 1, 0, 0), (9, .iconst 0, 1, 0, 0), (10, .iconst 1, 1, 0, 0), (11, .invokestatic 258, 3, 196, 0), (14, .ifCond .ne 5, 3, 19, 0), (17, .iconst (-1), 1, 0, 0), (18, .ireturn, 1, 0, 0), (19, .aload_n 0, 1, 0, 0), (20, .invokevirtual 308, 3, 218, 0), (23, .ifCond .ne 6, 3, 29, 0), (26, .bipush (-2), 2, 0, 0), (28, .ireturn, 1, 0, 0), (29, .aload_n 0, 1, 0, 0), (30, .getfield 265, 3, 12, 2), (33, .sipush 150, 3, 0, 0), (36, .if_icmp .ne 6, 3, 42, 0), (39, .bipush (-3), 2, 0, 0), (41, .ireturn, 1, 0, 0), (42, .aload_n 0, 1, 0, 0), (43, .iload_n 2, 1, 0, 0), (44, .iconst 1, 1, 0, 0), (45, .if_icmp .ne 7, 3, 52, 0), (48, .iconst 5, 1, 0, 0), (49, .goto 4, 3, 53, 0), (52, .iconst 4, 1, 0, 0), (53, .invokevirtual 276, 3, 204, 0), (56, .istore_n 3, 1, 0, 0), (57, .aload_n 0, 1, 0, 0), (58, .getfield 16, 3, 12, 5), (61, .iload_n 3, 1, 0, 0), (62, .iload_n 1, 1, 0, 0), (63, .iastore, 1, 0, 0), (64, .aload_n 0, 1, 0, 0), (65, .getfield 25, 3, 12, 8), (68, .iload_n 3, 1, 0, 0), (69, .aload_n 0, 1, 0, 0), (70, .invokevirtual 312, 3, 219, 0), (73, .iastore, 1, 0, 0), (74, .iconst 0, 1, 0, 0), (75, .istore 4, 2, 0, 0), (77, .iload 4, 2, 0, 0), (79, .bipush 24, 2, 0, 0), (81, .if_icmp .ge 66, 3, 147, 0), (84, .iconst 0, 1, 0, 0), (85, .istore 5, 2, 0, 0), (87, .iconst 0, 1, 0, 0), (88, .istore 6, 2, 0, 0), (90, .iload 6, 2, 0, 0), (92, .bipush 24, 2, 0, 0), (94, .if_icmp .ge 33, 3, 127, 0), (97, .iload 5, 2, 0, 0), (99, .aload_n 0, 1, 0, 0), (100, .iload 6, 2, 0, 0), (102, .iload 4, 2, 0, 0), (104, .invokevirtual 319, 3, 221, 0), (107, .ifCond .eq 10, 3, 117, 0), (110, .iconst 1, 1, 0, 0), (111, .iload 6, 2, 0, 0), (113, .ishl, 1, 0, 0), (114, .goto 4, 3, 118, 0), (117, .iconst 0, 1, 0, 0), (118, .ior, 1, 0, 0), (119, .istore 5, 2, 0, 0), (121, .iinc 6 1, 3, 0, 0), (124, .goto (-34), 3, 90, 0), (127, .aload_n 0, 1, 0, 0), (128, .getfield 31, 3, 12, 10), (131, .bipush 24, 2, 0, 0), (133, .iload_n 3, 1, 0, 0), (134, .imul, 1, 0, 0), (135, .iload 4, 2, 0, 0), (137, .iadd, 1, 0, 0), (138, .iload 5, 2, 0, 0), (140, .iastore, 1, 0, 0), (141, .iinc 4 1, 3, 0, 0), (144, .goto (-67), 3, 77, 0), (147, .aload_n 0, 1, 0, 0), (148, .iconst 0, 1, 0, 0), (149, .putfield 283, 3, 12, 11), (152, .iload_n 3, 1, 0, 0), (153, .ireturn, 1, 0, 0)]
def zM222 : aM := (12, ⟨"AcresPaidModel", "field", "(II)I"⟩, prog_14_method_29_code, 7, (Option.some .int), 2, 0, zI222)
def zI223 : List aI := [(0, .aload_n 0, 1, 0, 0), (1, .iload_n 1, 1, 0, 0), (2, .invokevirtual 322, 3, 203, 0), (5, .ifCond .eq 23, 3, 28, 0), (8, .iload_n 2, 1, 0, 0), (9, .iconst 0, 1, 0, 0), (10, .bipush 23, 2, 0, 0), (12, .invokestatic 258, 3, 196, 0), (15, .ifCond .eq 13, 3, 28, 0), (18, .iload_n 3, 1, 0, 0), (19, .iconst 0, 1, 0, 0), (20, .bipush 23, 2, 0, 0), (22, .invokestatic 258, 3, 196, 0), (25, .ifCond .ne 7, 3, 32, 0), (28, .iconst (-1), 1, 0, 0), (29, .goto 18, 3, 47, 0), (32, .aload_n 0, 1, 0, 0), (33, .getfield 31, 3, 12, 10), (36, .bipush 24, 2, 0, 0), (38, .iload_n 1, 1, 0, 0), (39, .imul, 1, 0, 0), (40, .iload_n 3, 1, 0, 0), (41, .iadd, 1, 0, 0), (42, .iaload, 1, 0, 0), (43, .iload_n 2, 1, 0, 0), (44, .ishr, 1, 0, 0), (45, .iconst 1, 1, 0, 0), (46, .iand, 1, 0, 0), (47, .ireturn, 1, 0, 0)]
def zM223 : aM := (12, ⟨"AcresPaidModel", "has", "(III)I"⟩, prog_14_method_30_code, 4, (Option.some .int), 3, 0, zI223)
def zI224 : List aI := [(0, .aload_n 0, 1, 0, 0), (1, .iload_n 1, 1, 0, 0), (2, .invokevirtual 322, 3, 203, 0), (5, .ifCond .ne 5, 3, 10, 0), (8, .iconst (-1), 1, 0, 0), (9, .ireturn, 1, 0, 0), (10, .aload_n 0, 1, 0, 0), (11, .getfield 22, 3, 12, 7), (14, .iload_n 1, 1, 0, 0), (15, .iaload, 1, 0, 0), (16, .ifCond .lt 6, 3, 22, 0), (19, .bipush (-2), 2, 0, 0), (21, .ireturn, 1, 0, 0), (22, .aload_n 0, 1, 0, 0), (23, .getfield 22, 3, 12, 7), (26, .iload_n 1, 1, 0, 0), (27, .aload_n 0, 1, 0, 0), (28, .getfield 262, 3, 12, 1), (31, .iastore, 1, 0, 0), (32, .aload_n 0, 1, 0, 0), (33, .iconst 1, 1, 0, 0), (34, .putfield 100, 3, 12, 38), (37, .iconst 1, 1, 0, 0), (38, .ireturn, 1, 0, 0)]
def zM224 : aM := (12, ⟨"AcresPaidModel", "giveUp", "(I)I"⟩, prog_14_method_31_code, 2, (Option.some .int), 1, 0, zI224)
def zI225 : List aI := [(0, .aload_n 0, 1, 0, 0), (1, .iload_n 1, 1, 0, 0), (2, .invokevirtual 268, 3, 200, 0), (5, .ifCond .eq 37, 3, 42, 0), (8, .aload_n 0, 1, 0, 0), (9, .iload_n 1, 1, 0, 0), (10, .invokevirtual 322, 3, 203, 0), (13, .ifCond .ne 14, 3, 27, 0), (16, .aload_n 0, 1, 0, 0), (17, .getfield 7, 3, 12, 3), (20, .iload_n 1, 1, 0, 0), (21, .iaload, 1, 0, 0), (22, .bipush 6, 2, 0, 0), (24, .if_icmp .ne 18, 3, 42, 0), (27, .aload_n 0, 1, 0, 0), (28, .iload_n 2, 1, 0, 0), (29, .invokevirtual 316, 3, 202, 0), (32, .ifCond .eq 10, 3, 42, 0), (35, .iload_n 3, 1, 0, 0), (36, .invokestatic 325, 3, 197, 0), (39, .ifCond .ne 5, 3, 44, 0), (42, .iconst (-1), 1, 0, 0), (43, .ireturn, 1, 0, 0), (44, .aload_n 0, 1, 0, 0), (45, .getfield 328, 3, 12, 14), (48, .sipush 200, 3, 0, 0), (51, .if_icmp .ne 6, 3, 57, 0), (54, .bipush (-3), 2, 0, 0), (56, .ireturn, 1, 0, 0), (57, .aload_n 0, 1, 0, 0), (58, .getfield 40, 3, 12, 15), (61, .aload_n 0, 1, 0, 0), (62, .getfield 328, 3, 12, 14), (65, .iload_n 1, 1, 0, 0), (66, .iastore, 1, 0, 0), (67, .aload_n 0, 1, 0, 0), (68, .getfield 43, 3, 12, 16), (71, .aload_n 0, 1, 0, 0), (72, .getfield 328, 3, 12, 14), (75, .iload_n 2, 1, 0, 0), (76, .iastore, 1, 0, 0), (77, .aload_n 0, 1, 0, 0), (78, .getfield 46, 3, 12, 17), (81, .aload_n 0, 1, 0, 0), (82, .getfield 328, 3, 12, 14), (85, .iload_n 3, 1, 0, 0), (86, .iastore, 1, 0, 0), (87, .aload_n 0, 1, 0, 0), (88, .getfield 49, 3, 12, 18), (91, .aload_n 0, 1, 0, 0), (92, .getfield 328, 3, 12, 14), (95, .aload_n 0, 1, 0, 0), (96, .getfield 262, 3, 12, 1), (99, .iastore, 1, 0, 0), (100, .aload_n 0, 1, 0, 0), (101, .dup, 1, 0, 0), (102, .getfield 328, 3, 12, 14), (105, .iconst 1, 1, 0, 0), (106, .iadd, 1, 0, 0), (107, .putfield 328, 3, 12, 14), (110, .aload_n 0, 1, 0, 0), (111, .getfield 328, 3, 12, 14), (114, .ireturn, 1, 0, 0)]
def zM225 : aM := (12, ⟨"AcresPaidModel", "handOver", "(III)I"⟩, prog_14_method_32_code, 4, (Option.some .int), 3, 0, zI225)
def zI226 : List aI := [(0, .iconst (-1), 1, 0, 0), (1, .istore 4, 2, 0, 0), (3, .iconst 0, 1, 0, 0), (4, .istore 5, 2, 0, 0), (6, .iload 5, 2, 0, 0), (8, .aload_n 0, 1, 0, 0), (9, .getfield 328, 3, 12, 14), (12, .if_icmp .ge 68, 3, 80, 0), (15, .aload_n 0, 1, 0, 0), (16, .getfield 40, 3, 12, 15), (19, .iload 5, 2, 0, 0), (21, .iaload, 1, 0, 0), (22, .iload_n 1, 1, 0, 0), (23, .if_icmp .ne 51, 3, 74, 0), (26, .aload_n 0, 1, 0, 0), (27, .getfield 49, 3, 12, 18), (30, .iload 5, 2, 0, 0), (32, .iaload, 1, 0, 0), (33, .iload_n 3, 1, 0, 0), (34, .if_icmp .gt 40, 3, 74, 0), (37, .aload_n 0, 1, 0, 0), (38, .getfield 46, 3, 12, 17), (41, .iload 5, 2, 0, 0), (43, .iaload, 1, 0, 0), (44, .iload_n 2, 1, 0, 0), (45, .if_icmp .gt 29, 3, 74, 0), (48, .iload 4, 2, 0, 0), (50, .ifCond .lt 20, 3, 70, 0), (53, .aload_n 0, 1, 0, 0), (54, .getfield 46, 3, 12, 17), (57, .iload 5, 2, 0, 0), (59, .iaload, 1, 0, 0), (60, .aload_n 0, 1, 0, 0), (61, .getfield 46, 3, 12, 17), (64, .iload 4, 2, 0, 0), (66, .iaload, 1, 0, 0), (67, .if_icmp .lt 7, 3, 74, 0), (70, .iload 5, 2, 0, 0), (72, .istore 4, 2, 0, 0), (74, .iinc 5 1, 3, 0, 0), (77, .goto (-71), 3, 6, 0), (80, .iload 4, 2, 0, 0), (82, .ifCond .ge 12, 3, 94, 0), (85, .aload_n 0, 1, 0, 0), (86, .getfield 16, 3, 12, 5), (89, .iload_n 1, 1, 0, 0), (90, .iaload, 1, 0, 0), (91, .goto 10, 3, 101, 0), (94, .aload_n 0, 1, 0, 0), (95, .getfield 43, 3, 12, 16), (98, .iload 4, 2, 0, 0), (100, .iaload, 1, 0, 0), (101, .ireturn, 1, 0, 0)]
def zM226 : aM := (12, ⟨"AcresPaidModel", "holderOn", "(III)I"⟩, prog_14_method_33_code, 6, (Option.some .int), 3, 0, zI226)
def zI227 : List aI := [(0, .aload_n 0, 1, 0, 0), (1, .iload_n 1, 1, 0, 0), (2, .invokevirtual 268, 3, 200, 0), (5, .ifCond .eq 36, 3, 41, 0), (8, .aload_n 0, 1, 0, 0), (9, .iload_n 1, 1, 0, 0), (10, .invokevirtual 322, 3, 203, 0), (13, .ifCond .ne 14, 3, 27, 0), (16, .aload_n 0, 1, 0, 0), (17, .getfield 7, 3, 12, 3), (20, .iload_n 1, 1, 0, 0), (21, .iaload, 1, 0, 0), (22, .bipush 6, 2, 0, 0), (24, .if_icmp .ne 17, 3, 41, 0), (27, .iload_n 2, 1, 0, 0), (28, .invokestatic 325, 3, 197, 0), (31, .ifCond .eq 10, 3, 41, 0), (34, .iload_n 3, 1, 0, 0), (35, .invokestatic 325, 3, 197, 0), (38, .ifCond .ne 5, 3, 43, 0), (41, .iconst (-1), 1, 0, 0), (42, .ireturn, 1, 0, 0), (43, .aload_n 0, 1, 0, 0), (44, .iload_n 1, 1, 0, 0), (45, .iload_n 2, 1, 0, 0), (46, .iload_n 3, 1, 0, 0), (47, .invokevirtual 331, 3, 226, 0), (50, .istore 4, 2, 0, 0), (52, .iload 4, 2, 0, 0), (54, .ifCond .ge 8, 3, 62, 0), (57, .bipush (-2), 2, 0, 0), (59, .goto 5, 3, 64, 0), (62, .iload 4, 2, 0, 0), (64, .ireturn, 1, 0, 0)]
def zM227 : aM := (12, ⟨"AcresPaidModel", "holder", "(III)I"⟩, prog_14_method_34_code, 5, (Option.some .int), 3, 0, zI227)
def zI228 : List aI := [(0, .aload_n 0, 1, 0, 0), (1, .iload_n 1, 1, 0, 0), (2, .invokevirtual 268, 3, 200, 0), (5, .ifCond .ne 7, 3, 12, 0), (8, .ldc_w 335, 3, 2294967296, 0), (11, .ireturn, 1, 0, 0), (12, .iload_n 2, 1, 0, 0), (13, .ifCond .ne 10, 3, 23, 0), (16, .aload_n 0, 1, 0, 0), (17, .getfield 7, 3, 12, 3), (20, .iload_n 1, 1, 0, 0), (21, .iaload, 1, 0, 0), (22, .ireturn, 1, 0, 0), (23, .aload_n 0, 1, 0, 0), (24, .iload_n 1, 1, 0, 0), (25, .invokevirtual 316, 3, 202, 0), (28, .ifCond .eq 21, 3, 49, 0), (31, .iload_n 2, 1, 0, 0), (32, .iconst 1, 1, 0, 0), (33, .if_icmp .ne 12, 3, 45, 0), (36, .aload_n 0, 1, 0, 0), (37, .getfield 13, 3, 12, 4), (40, .iload_n 1, 1, 0, 0), (41, .iaload, 1, 0, 0), (42, .goto 6, 3, 48, 0), (45, .ldc_w 335, 3, 2294967296, 0), (48, .ireturn, 1, 0, 0), (49, .aload_n 0, 1, 0, 0), (50, .iload_n 1, 1, 0, 0), (51, .invokevirtual 322, 3, 203, 0), (54, .ifCond .eq 70, 3, 124, 0), (57, .iload_n 2, 1, 0, 0), (58, .iconst 1, 1, 0, 0), (59, .if_icmp .ne 12, 3, 71, 0), (62, .aload_n 0, 1, 0, 0), (63, .getfield 25, 3, 12, 8), (66, .iload_n 1, 1, 0, 0), (67, .iaload, 1, 0, 0), (68, .goto 55, 3, 123, 0), (71, .iload_n 2, 1, 0, 0), (72, .iconst 2, 1, 0, 0), (73, .if_icmp .ne 12, 3, 85, 0), (76, .aload_n 0, 1, 0, 0), (77, .getfield 19, 3, 12, 6), (80, .iload_n 1, 1, 0, 0), (81, .iaload, 1, 0, 0), (82, .goto 41, 3, 123, 0), (85, .iload_n 2, 1, 0, 0), (86, .iconst 3, 1, 0, 0), (87, .if_icmp .ne 12, 3, 99, 0), (90, .aload_n 0, 1, 0, 0), (91, .getfield 22, 3, 12, 7), (94, .iload_n 1, 1, 0, 0), (95, .iaload, 1, 0, 0), (96, .goto 27, 3, 123, 0), (99, .iload_n 2, 1, 0, 0), (100, .iconst 4, 1, 0, 0), (101, .if_icmp .ne 19, 3, 120, 0), (104, .aload_n 0, 1, 0, 0), (105, .iload_n 1, 1, 0, 0), (106, .aload_n 0, 1, 0, 0), (107, .getfield 262, 3, 12, 1), (110, .aload_n 0, 1, 0, 0), (111, .getfield 262, 3, 12, 1), (114, .invokevirtual 331, 3, 226, 0), (117, .goto 6, 3, 123, 0), (120, .ldc_w 335, 3, 2294967296, 0), (123, .ireturn, 1, 0, 0), (124, .aload_n 0, 1, 0, 0), (125, .getfield 7, 3, 12, 3), (128, .iload_n 1, 1, 0, 0), (129, .iaload, 1, 0, 0), (130, .bipush 6, 2, 0, 0), (132, .if_icmp .eq 7, 3, 139, 0), (135, .ldc_w 335, 3, 2294967296, 0), (138, .ireturn, 1, 0, 0), (139, .iload_n 2, 1, 0, 0), (140, .iconst 1, 1, 0, 0), (141, .if_icmp .ne 12, 3, 153, 0), (144, .aload_n 0, 1, 0, 0), (145, .getfield 28, 3, 12, 9), (148, .iload_n 1, 1, 0, 0), (149, .iaload, 1, 0, 0), (150, .goto 27, 3, 177, 0), (153, .iload_n 2, 1, 0, 0), (154, .iconst 4, 1, 0, 0), (155, .if_icmp .ne 19, 3, 174, 0), (158, .aload_n 0, 1, 0, 0), (159, .iload_n 1, 1, 0, 0), (160, .aload_n 0, 1, 0, 0), (161, .getfield 262, 3, 12, 1), (164, .aload_n 0, 1, 0, 0), (165, .getfield 262, 3, 12, 1), (168, .invokevirtual 331, 3, 226, 0), (171, .goto 6, 3, 177, 0), (174, .ldc_w 335, 3, 2294967296, 0), (177, .ireturn, 1, 0, 0)]
def zM228 : aM := (12, ⟨"AcresPaidModel", "ofBody", "(II)I"⟩, prog_14_method_35_code, 3, (Option.some .int), 2, 0, zI228)
def zI229 : List aI := [(0, .aload_n 0, 1, 0, 0), (1, .getfield 61, 3, 12, 23), (4, .iload_n 1, 1, 0, 0), (5, .iaload, 1, 0, 0), (6, .sipush 365, 3, 0, 0), (9, .idiv, 1, 0, 0), (10, .ireturn, 1, 0, 0)]
def zM229 : aM := (12, ⟨"AcresPaidModel", "yearOf", "(I)I"⟩, prog_14_method_36_code, 2, (Option.some .int), 1, 0, zI229)
def zI230 : List aI := [(0, .aload_n 0, 1, 0, 0), (1, .iload_n 1, 1, 0, 0), (2, .invokevirtual 316, 3, 202, 0), (5, .ifCond .eq 35, 3, 40, 0), (8, .aload_n 0, 1, 0, 0), (9, .iload_n 2, 1, 0, 0), (10, .invokevirtual 322, 3, 203, 0), (13, .ifCond .eq 27, 3, 40, 0), (16, .iload_n 3, 1, 0, 0), (17, .iconst 0, 1, 0, 0), (18, .bipush 7, 2, 0, 0), (20, .invokestatic 258, 3, 196, 0), (23, .ifCond .eq 17, 3, 40, 0), (26, .aload_n 0, 1, 0, 0), (27, .getfield 7, 3, 12, 3), (30, .iload_n 2, 1, 0, 0), (31, .iaload, 1, 0, 0), (32, .iconst 5, 1, 0, 0), (33, .if_icmp .ne 9, 3, 42, 0), (36, .iload_n 3, 1, 0, 0), (37, .ifCond .eq 5, 3, 42, 0), (40, .iconst (-1), 1, 0, 0), (41, .ireturn, 1, 0, 0), (42, .aload_n 0, 1, 0, 0), (43, .getfield 22, 3, 12, 7), (46, .iload_n 2, 1, 0, 0), (47, .iaload, 1, 0, 0), (48, .ifCond .ge 20, 3, 68, 0), (51, .aload_n 0, 1, 0, 0), (52, .iload_n 2, 1, 0, 0), (53, .aload_n 0, 1, 0, 0), (54, .getfield 262, 3, 12, 1), (57, .aload_n 0, 1, 0, 0), (58, .getfield 262, 3, 12, 1), (61, .invokevirtual 331, 3, 226, 0), (64, .iload_n 1, 1, 0, 0), (65, .if_icmp .eq 6, 3, 71, 0), (68, .bipush (-2), 2, 0, 0), (70, .ireturn, 1, 0, 0), (71, .aload_n 0, 1, 0, 0), (72, .getfield 336, 3, 12, 19), (75, .sipush 300, 3, 0, 0), (78, .if_icmp .ne 6, 3, 84, 0), (81, .bipush (-3), 2, 0, 0), (83, .ireturn, 1, 0, 0), (84, .aload_n 0, 1, 0, 0), (85, .getfield 52, 3, 12, 20), (88, .aload_n 0, 1, 0, 0), (89, .getfield 336, 3, 12, 19), (92, .iload_n 1, 1, 0, 0), (93, .iastore, 1, 0, 0), (94, .aload_n 0, 1, 0, 0), (95, .getfield 55, 3, 12, 21), (98, .aload_n 0, 1, 0, 0), (99, .getfield 336, 3, 12, 19), (102, .iload_n 2, 1, 0, 0), (103, .iastore, 1, 0, 0), (104, .aload_n 0, 1, 0, 0), (105, .getfield 58, 3, 12, 22), (108, .aload_n 0, 1, 0, 0), (109, .getfield 336, 3, 12, 19), (112, .iload_n 3, 1, 0, 0), (113, .iastore, 1, 0, 0), (114, .aload_n 0, 1, 0, 0), (115, .getfield 61, 3, 12, 23), (118, .aload_n 0, 1, 0, 0), (119, .getfield 336, 3, 12, 19), (122, .aload_n 0, 1, 0, 0), (123, .getfield 262, 3, 12, 1), (126, .iastore, 1, 0, 0), (127, .aload_n 0, 1, 0, 0), (128, .dup, 1, 0, 0), (129, .getfield 336, 3, 12, 19), (132, .iconst 1, 1, 0, 0), (133, .iadd, 1, 0, 0), (134, .putfield 336, 3, 12, 19), (137, .aload_n 0, 1, 0, 0), (138, .iconst 1, 1, 0, 0), (139, .putfield 100, 3, 12, 38), (142, .aload_n 0, 1, 0, 0), (143, .getfield 336, 3, 12, 19), (146, .ireturn, 1, 0, 0)]
def zM230 : aM := (12, ⟨"AcresPaidModel", "claim", "(III)I"⟩, prog_14_method_37_code, 4, (Option.some .int), 3, 0, zI230)
def zI231 : List aI := [(0, .iload_n 1, 1, 0, 0), (1, .invokestatic 280, 3, 206, 0), (4, .ifCond .eq 14, 3, 18, 0), (7, .iload_n 2, 1, 0, 0), (8, .iconst 0, 1, 0, 0), (9, .sipush 364, 3, 0, 0), (12, .invokestatic 258, 3, 196, 0), (15, .ifCond .ne 5, 3, 20, 0), (18, .iconst (-1), 1, 0, 0), (19, .ireturn, 1, 0, 0), (20, .aload_n 0, 1, 0, 0), (21, .getfield 64, 3, 12, 24), (24, .iload_n 1, 1, 0, 0), (25, .iaload, 1, 0, 0), (26, .istore_n 3, 1, 0, 0), (27, .aload_n 0, 1, 0, 0), (28, .getfield 64, 3, 12, 24), (31, .iload_n 1, 1, 0, 0), (32, .iload_n 2, 1, 0, 0), (33, .iastore, 1, 0, 0), (34, .iload_n 3, 1, 0, 0), (35, .ireturn, 1, 0, 0)]
def zM231 : aM := (12, ⟨"AcresPaidModel", "close", "(II)I"⟩, prog_14_method_38_code, 4, (Option.some .int), 2, 0, zI231)
def zI232 : List aI := [(0, .iload_n 1, 1, 0, 0), (1, .ifCond .lt 72, 3, 73, 0), (4, .iload_n 2, 1, 0, 0), (5, .ifCond .lt 68, 3, 73, 0), (8, .iload_n 1, 1, 0, 0), (9, .bipush 100, 2, 0, 0), (11, .idiv, 1, 0, 0), (12, .iconst 0, 1, 0, 0), (13, .bipush 23, 2, 0, 0), (15, .invokestatic 258, 3, 196, 0), (18, .ifCond .eq 55, 3, 73, 0), (21, .iload_n 1, 1, 0, 0), (22, .bipush 100, 2, 0, 0), (24, .irem, 1, 0, 0), (25, .iconst 0, 1, 0, 0), (26, .bipush 23, 2, 0, 0), (28, .invokestatic 258, 3, 196, 0), (31, .ifCond .eq 42, 3, 73, 0), (34, .iload_n 2, 1, 0, 0), (35, .bipush 100, 2, 0, 0), (37, .idiv, 1, 0, 0), (38, .iload_n 1, 1, 0, 0), (39, .bipush 100, 2, 0, 0), (41, .idiv, 1, 0, 0), (42, .bipush 23, 2, 0, 0), (44, .invokestatic 258, 3, 196, 0), (47, .ifCond .eq 26, 3, 73, 0), (50, .iload_n 2, 1, 0, 0), (51, .bipush 100, 2, 0, 0), (53, .irem, 1, 0, 0), (54, .iload_n 1, 1, 0, 0), (55, .bipush 100, 2, 0, 0), (57, .irem, 1, 0, 0), (58, .bipush 23, 2, 0, 0), (60, .invokestatic 258, 3, 196, 0), (63, .ifCond .eq 10, 3, 73, 0), (66, .iload_n 3, 1, 0, 0), (67, .invokestatic 325, 3, 197, 0), (70, .ifCond .ne 5, 3, 75, 0), (73, .iconst (-1), 1, 0, 0), (74, .ireturn, 1, 0, 0), (75, .aload_n 0, 1, 0, 0), (76, .getfield 339, 3, 12, 25), (79, .bipush 40, 2, 0, 0), (81, .if_icmp .ne 6, 3, 87, 0), (84, .bipush (-3), 2, 0, 0), (86, .ireturn, 1, 0, 0), (87, .aload_n 0, 1, 0, 0), (88, .getfield 67, 3, 12, 26), (91, .aload_n 0, 1, 0, 0), (92, .getfield 339, 3, 12, 25), (95, .iload_n 1, 1, 0, 0), (96, .bipush 100, 2, 0, 0), (98, .idiv, 1, 0, 0), (99, .iastore, 1, 0, 0), (100, .aload_n 0, 1, 0, 0), (101, .getfield 70, 3, 12, 27), (104, .aload_n 0, 1, 0, 0), (105, .getfield 339, 3, 12, 25), (108, .iload_n 1, 1, 0, 0), (109, .bipush 100, 2, 0, 0), (111, .irem, 1, 0, 0), (112, .iastore, 1, 0, 0), (113, .aload_n 0, 1, 0, 0), (114, .getfield 73, 3, 12, 28), (117, .aload_n 0, 1, 0, 0), (118, .getfield 339, 3, 12, 25), (121, .iload_n 2, 1, 0, 0), (122, .bipush 100, 2, 0, 0), (124, .idiv, 1, 0, 0), (125, .iastore, 1, 0, 0), (126, .aload_n 0, 1, 0, 0), (127, .getfield 76, 3, 12, 29), (130, .aload_n 0, 1, 0, 0), (131, .getfield 339, 3, 12, 25), (134, .iload_n 2, 1, 0, 0), (135, .bipush 100, 2, 0, 0), (137, .irem, 1, 0, 0), (138, .iastore, 1, 0, 0), (139, .aload_n 0, 1, 0, 0), (140, .getfield 79, 3, 12, 30), (143, .aload_n 0, 1, 0, 0), (144, .getfield 339, 3, 12, 25), (147, .iload_n 3, 1, 0, 0), (148, .iastore, 1, 0, 0), (149, .aload_n 0, 1, 0, 0), (150, .getfield 82, 3, 12, 31), (153, .aload_n 0, 1, 0, 0), (154, .getfield 339, 3, 12, 25), (157, .aload_n 0, 1, 0, 0), (158, .getfield 262, 3, 12, 1), (161, .iastore, 1, 0, 0), (162, .aload_n 0, 1, 0, 0), (163, .dup, 1, 0, 0), (164, .getfield 339, 3, 12, 25), (167, .iconst 1, 1, 0, 0), (168, .iadd, 1, 0, 0), (169, .putfield 339, 3, 12, 25), (172, .aload_n 0, 1, 0, 0), (173, .iconst 1, 1, 0, 0), (174, .putfield 100, 3, 12, 38), (177, .aload_n 0, 1, 0, 0), (178, .getfield 339, 3, 12, 25), (181, .ireturn, 1, 0, 0)]
def zM232 : aM := (12, ⟨"AcresPaidModel", "out", "(III)I"⟩, prog_14_method_39_code, 4, (Option.some .int), 3, 0, zI232)
def zI233 : List aI := [(0, .iconst 0, 1, 0, 0), (1, .istore 5, 2, 0, 0), (3, .iload 5, 2, 0, 0), (5, .aload_n 0, 1, 0, 0), (6, .getfield 339, 3, 12, 25), (9, .if_icmp .ge 80, 3, 89, 0), (12, .aload_n 0, 1, 0, 0), (13, .getfield 82, 3, 12, 31), (16, .iload 5, 2, 0, 0), (18, .iaload, 1, 0, 0), (19, .iload 4, 2, 0, 0), (21, .if_icmp .gt 62, 3, 83, 0), (24, .aload_n 0, 1, 0, 0), (25, .getfield 79, 3, 12, 30), (28, .iload 5, 2, 0, 0), (30, .iaload, 1, 0, 0), (31, .sipush 365, 3, 0, 0), (34, .iload_n 3, 1, 0, 0), (35, .imul, 1, 0, 0), (36, .if_icmp .gt 47, 3, 83, 0), (39, .iload_n 1, 1, 0, 0), (40, .aload_n 0, 1, 0, 0), (41, .getfield 67, 3, 12, 26), (44, .iload 5, 2, 0, 0), (46, .iaload, 1, 0, 0), (47, .aload_n 0, 1, 0, 0), (48, .getfield 73, 3, 12, 28), (51, .iload 5, 2, 0, 0), (53, .iaload, 1, 0, 0), (54, .invokestatic 258, 3, 196, 0), (57, .ifCond .eq 26, 3, 83, 0), (60, .iload_n 2, 1, 0, 0), (61, .aload_n 0, 1, 0, 0), (62, .getfield 70, 3, 12, 27), (65, .iload 5, 2, 0, 0), (67, .iaload, 1, 0, 0), (68, .aload_n 0, 1, 0, 0), (69, .getfield 76, 3, 12, 29), (72, .iload 5, 2, 0, 0), (74, .iaload, 1, 0, 0), (75, .invokestatic 258, 3, 196, 0), (78, .ifCond .eq 5, 3, 83, 0), (81, .iconst 1, 1, 0, 0), (82, .ireturn, 1, 0, 0), (83, .iinc 5 1, 3, 0, 0), (86, .goto (-83), 3, 3, 0), (89, .iconst 0, 1, 0, 0), (90, .ireturn, 1, 0, 0)]
def zM233 : aM := (12, ⟨"AcresPaidModel", "isOut", "(IIII)Z"⟩, prog_14_method_40_code, 6, (Option.some .boolean), 4, 0, zI233)
def zI234 : List aI := [(0, .aload_n 0, 1, 0, 0), (1, .getfield 61, 3, 12, 23), (4, .iload_n 1, 1, 0, 0), (5, .iaload, 1, 0, 0), (6, .iload_n 2, 1, 0, 0), (7, .if_icmp .gt 32, 3, 39, 0), (10, .aload_n 0, 1, 0, 0), (11, .getfield 22, 3, 12, 7), (14, .aload_n 0, 1, 0, 0), (15, .getfield 55, 3, 12, 21), (18, .iload_n 1, 1, 0, 0), (19, .iaload, 1, 0, 0), (20, .iaload, 1, 0, 0), (21, .ifCond .lt 20, 3, 41, 0), (24, .aload_n 0, 1, 0, 0), (25, .getfield 22, 3, 12, 7), (28, .aload_n 0, 1, 0, 0), (29, .getfield 55, 3, 12, 21), (32, .iload_n 1, 1, 0, 0), (33, .iaload, 1, 0, 0), (34, .iaload, 1, 0, 0), (35, .iload_n 2, 1, 0, 0), (36, .if_icmp .gt 5, 3, 41, 0), (39, .iconst 0, 1, 0, 0), (40, .ireturn, 1, 0, 0), (41, .iload_n 1, 1, 0, 0), (42, .iconst 1, 1, 0, 0), (43, .iadd, 1, 0, 0), (44, .istore_n 3, 1, 0, 0), (45, .iload_n 3, 1, 0, 0), (46, .aload_n 0, 1, 0, 0), (47, .getfield 336, 3, 12, 19), (50, .if_icmp .ge 64, 3, 114, 0), (53, .aload_n 0, 1, 0, 0), (54, .getfield 61, 3, 12, 23), (57, .iload_n 3, 1, 0, 0), (58, .iaload, 1, 0, 0), (59, .iload_n 2, 1, 0, 0), (60, .if_icmp .gt 48, 3, 108, 0), (63, .aload_n 0, 1, 0, 0), (64, .getfield 52, 3, 12, 20), (67, .iload_n 3, 1, 0, 0), (68, .iaload, 1, 0, 0), (69, .aload_n 0, 1, 0, 0), (70, .getfield 52, 3, 12, 20), (73, .iload_n 1, 1, 0, 0), (74, .iaload, 1, 0, 0), (75, .if_icmp .ne 33, 3, 108, 0), (78, .aload_n 0, 1, 0, 0), (79, .getfield 55, 3, 12, 21), (82, .iload_n 3, 1, 0, 0), (83, .iaload, 1, 0, 0), (84, .aload_n 0, 1, 0, 0), (85, .getfield 55, 3, 12, 21), (88, .iload_n 1, 1, 0, 0), (89, .iaload, 1, 0, 0), (90, .if_icmp .ne 18, 3, 108, 0), (93, .aload_n 0, 1, 0, 0), (94, .iload_n 3, 1, 0, 0), (95, .invokevirtual 342, 3, 229, 0), (98, .aload_n 0, 1, 0, 0), (99, .iload_n 1, 1, 0, 0), (100, .invokevirtual 342, 3, 229, 0), (103, .if_icmp .ne 5, 3, 108, 0), (106, .iconst 0, 1, 0, 0), (107, .ireturn, 1, 0, 0), (108, .iinc 3 1, 3, 0, 0), (111, .goto (-66), 3, 45, 0), (114, .iconst 1, 1, 0, 0), (115, .ireturn, 1, 0, 0)]
def zM234 : aM := (12, ⟨"AcresPaidModel", "counts", "(II)Z"⟩, prog_14_method_41_code, 4, (Option.some .boolean), 2, 0, zI234)
def zI235 : List aI := [(0, .aload_n 0, 1, 0, 0), (1, .getfield 31, 3, 12, 10), (4, .bipush 24, 2, 0, 0), (6, .iload_n 1, 1, 0, 0), (7, .imul, 1, 0, 0), (8, .iload_n 2, 1, 0, 0), (9, .bipush 24, 2, 0, 0), (11, .idiv, 1, 0, 0), (12, .iadd, 1, 0, 0), (13, .iaload, 1, 0, 0), (14, .iload_n 2, 1, 0, 0), (15, .bipush 24, 2, 0, 0), (17, .irem, 1, 0, 0), (18, .ishr, 1, 0, 0), (19, .iconst 1, 1, 0, 0), (20, .iand, 1, 0, 0), (21, .iconst 1, 1, 0, 0), (22, .if_icmp .ne 7, 3, 29, 0), (25, .iconst 1, 1, 0, 0), (26, .goto 4, 3, 30, 0), (29, .iconst 0, 1, 0, 0), (30, .ireturn, 1, 0, 0)]
def zM235 : aM := (12, ⟨"AcresPaidModel", "isIn", "(II)Z"⟩, prog_14_method_42_code, 3, (Option.some .boolean), 2, 0, zI235)
def zI236 : List aI := [(0, .iconst 0, 1, 0, 0), (1, .istore_n 3, 1, 0, 0), (2, .iload_n 3, 1, 0, 0), (3, .sipush 576, 3, 0, 0), (6, .if_icmp .ge 43, 3, 49, 0), (9, .aload_n 0, 1, 0, 0), (10, .getfield 121, 3, 12, 44), (13, .iload_n 3, 1, 0, 0), (14, .iconst (-1), 1, 0, 0), (15, .iastore, 1, 0, 0), (16, .aload_n 0, 1, 0, 0), (17, .getfield 124, 3, 12, 45), (20, .iload_n 3, 1, 0, 0), (21, .iconst 0, 1, 0, 0), (22, .bastore, 1, 0, 0), (23, .aload_n 0, 1, 0, 0), (24, .getfield 127, 3, 12, 46), (27, .iload_n 3, 1, 0, 0), (28, .aload_n 0, 1, 0, 0), (29, .iload_n 3, 1, 0, 0), (30, .bipush 24, 2, 0, 0), (32, .irem, 1, 0, 0), (33, .iload_n 3, 1, 0, 0), (34, .bipush 24, 2, 0, 0), (36, .idiv, 1, 0, 0), (37, .iload_n 1, 1, 0, 0), (38, .iload_n 2, 1, 0, 0), (39, .invokevirtual 345, 3, 233, 0), (42, .bastore, 1, 0, 0), (43, .iinc 3 1, 3, 0, 0), (46, .goto (-44), 3, 2, 0), (49, .iconst 0, 1, 0, 0), (50, .istore_n 3, 1, 0, 0), (51, .iload_n 3, 1, 0, 0), (52, .aload_n 0, 1, 0, 0), (53, .getfield 336, 3, 12, 19), (56, .if_icmp .ge 115, 3, 171, 0), (59, .aload_n 0, 1, 0, 0), (60, .getfield 108, 3, 12, 40), (63, .iload_n 3, 1, 0, 0), (64, .baload, 1, 0, 0), (65, .ifCond .eq 100, 3, 165, 0), (68, .aload_n 0, 1, 0, 0), (69, .iload_n 3, 1, 0, 0), (70, .invokevirtual 342, 3, 229, 0), (73, .iload_n 1, 1, 0, 0), (74, .if_icmp .eq 6, 3, 80, 0), (77, .goto 88, 3, 165, 0), (80, .iconst 0, 1, 0, 0), (81, .istore 4, 2, 0, 0), (83, .iload 4, 2, 0, 0), (85, .sipush 576, 3, 0, 0), (88, .if_icmp .ge 77, 3, 165, 0), (91, .aload_n 0, 1, 0, 0), (92, .aload_n 0, 1, 0, 0), (93, .getfield 55, 3, 12, 21), (96, .iload_n 3, 1, 0, 0), (97, .iaload, 1, 0, 0), (98, .iload 4, 2, 0, 0), (100, .invokevirtual 349, 3, 235, 0), (103, .ifCond .ne 6, 3, 109, 0), (106, .goto 53, 3, 159, 0), (109, .aload_n 0, 1, 0, 0), (110, .getfield 121, 3, 12, 44), (113, .iload 4, 2, 0, 0), (115, .iaload, 1, 0, 0), (116, .ifCond .ge 19, 3, 135, 0), (119, .aload_n 0, 1, 0, 0), (120, .getfield 121, 3, 12, 44), (123, .iload 4, 2, 0, 0), (125, .aload_n 0, 1, 0, 0), (126, .getfield 52, 3, 12, 20), (129, .iload_n 3, 1, 0, 0), (130, .iaload, 1, 0, 0), (131, .iastore, 1, 0, 0), (132, .goto 27, 3, 159, 0), (135, .aload_n 0, 1, 0, 0), (136, .getfield 121, 3, 12, 44), (139, .iload 4, 2, 0, 0), (141, .iaload, 1, 0, 0), (142, .aload_n 0, 1, 0, 0), (143, .getfield 52, 3, 12, 20), (146, .iload_n 3, 1, 0, 0), (147, .iaload, 1, 0, 0), (148, .if_icmp .eq 11, 3, 159, 0), (151, .aload_n 0, 1, 0, 0), (152, .getfield 124, 3, 12, 45), (155, .iload 4, 2, 0, 0), (157, .iconst 1, 1, 0, 0), (158, .bastore, 1, 0, 0), (159, .iinc 4 1, 3, 0, 0), (162, .goto (-79), 3, 83, 0), (165, .iinc 3 1, 3, 0, 0), (168, .goto (-117), 3, 51, 0), (171, .return_, 1, 0, 0)]
def zM236 : aM := (12, ⟨"AcresPaidModel", "findFaults", "(II)V"⟩, prog_14_method_43_code, 5, none, 2, 0, zI236)
def zI237 : List aI := [(0, .aload_n 0, 1, 0, 0), (1, .getfield 352, 3, 12, 32), (4, .iconst 1, 1, 0, 0), (5, .isub, 1, 0, 0), (6, .istore_n 3, 1, 0, 0), (7, .iload_n 3, 1, 0, 0), (8, .ifCond .lt 70, 3, 78, 0), (11, .aload_n 0, 1, 0, 0), (12, .getfield 97, 3, 12, 37), (15, .iload_n 3, 1, 0, 0), (16, .iaload, 1, 0, 0), (17, .iload_n 2, 1, 0, 0), (18, .if_icmp .gt 54, 3, 72, 0), (21, .aload_n 0, 1, 0, 0), (22, .getfield 85, 3, 12, 33), (25, .iload_n 3, 1, 0, 0), (26, .iaload, 1, 0, 0), (27, .aload_n 0, 1, 0, 0), (28, .getfield 52, 3, 12, 20), (31, .iload_n 1, 1, 0, 0), (32, .iaload, 1, 0, 0), (33, .if_icmp .ne 39, 3, 72, 0), (36, .aload_n 0, 1, 0, 0), (37, .getfield 88, 3, 12, 34), (40, .iload_n 3, 1, 0, 0), (41, .iaload, 1, 0, 0), (42, .aload_n 0, 1, 0, 0), (43, .getfield 55, 3, 12, 21), (46, .iload_n 1, 1, 0, 0), (47, .iaload, 1, 0, 0), (48, .if_icmp .ne 24, 3, 72, 0), (51, .aload_n 0, 1, 0, 0), (52, .getfield 91, 3, 12, 35), (55, .iload_n 3, 1, 0, 0), (56, .iaload, 1, 0, 0), (57, .aload_n 0, 1, 0, 0), (58, .iload_n 1, 1, 0, 0), (59, .invokevirtual 342, 3, 229, 0), (62, .if_icmp .ne 10, 3, 72, 0), (65, .aload_n 0, 1, 0, 0), (66, .getfield 94, 3, 12, 36), (69, .iload_n 3, 1, 0, 0), (70, .iaload, 1, 0, 0), (71, .ireturn, 1, 0, 0), (72, .iinc 3 (-1), 3, 0, 0), (75, .goto (-68), 3, 7, 0), (78, .iconst 0, 1, 0, 0), (79, .ireturn, 1, 0, 0)]
def zM237 : aM := (12, ⟨"AcresPaidModel", "missingOf", "(II)I"⟩, prog_14_method_44_code, 4, (Option.some .int), 2, 0, zI237)
def zI238_0 : List aI := [(0, .iconst 0, 1, 0, 0), (1, .istore_n 3, 1, 0, 0), (2, .iload_n 3, 1, 0, 0), (3, .sipush 576, 3, 0, 0), (6, .if_icmp .ge 16, 3, 22, 0), (9, .aload_n 0, 1, 0, 0), (10, .getfield 130, 3, 12, 47), (13, .iload_n 3, 1, 0, 0), (14, .iconst 0, 1, 0, 0), (15, .bastore, 1, 0, 0), (16, .iinc 3 1, 3, 0, 0), (19, .goto (-17), 3, 2, 0), (22, .iconst 0, 1, 0, 0), (23, .istore_n 3, 1, 0, 0), (24, .iload_n 3, 1, 0, 0), (25, .aload_n 0, 1, 0, 0), (26, .getfield 336, 3, 12, 19), (29, .if_icmp .ge 114, 3, 143, 0), (32, .aload_n 0, 1, 0, 0), (33, .getfield 108, 3, 12, 40), (36, .iload_n 3, 1, 0, 0), (37, .baload, 1, 0, 0), (38, .ifCond .eq 99, 3, 137, 0), (41, .aload_n 0, 1, 0, 0), (42, .iload_n 3, 1, 0, 0), (43, .invokevirtual 342, 3, 229, 0), (46, .iload_n 2, 1, 0, 0), (47, .if_icmp .ne 90, 3, 137, 0), (50, .aload_n 0, 1, 0, 0), (51, .getfield 52, 3, 12, 20), (54, .iload_n 3, 1, 0, 0), (55, .iaload, 1, 0, 0), (56, .aload_n 0, 1, 0, 0), (57, .getfield 52, 3, 12, 20), (60, .iload_n 1, 1, 0, 0), (61, .iaload, 1, 0, 0), (62, .if_icmp .ne 75, 3, 137, 0), (65, .aload_n 0, 1, 0, 0), (66, .getfield 55, 3, 12, 21), (69, .iload_n 3, 1, 0, 0), (70, .iaload, 1, 0, 0), (71, .aload_n 0, 1, 0, 0), (72, .getfield 55, 3, 12, 21), (75, .iload_n 1, 1, 0, 0), (76, .iaload, 1, 0, 0), (77, .if_icmp .lt 6, 3, 83, 0), (80, .goto 57, 3, 137, 0), (83, .iconst 0, 1, 0, 0), (84, .istore 4, 2, 0, 0), (86, .iload 4, 2, 0, 0), (88, .sipush 576, 3, 0, 0), (91, .if_icmp .ge 46, 3, 137, 0), (94, .aload_n 0, 1, 0, 0), (95, .getfield 130, 3, 12, 47), (98, .iload 4, 2, 0, 0), (100, .aload_n 0, 1, 0, 0), (101, .getfield 130, 3, 12, 47), (104, .iload 4, 2, 0, 0), (106, .baload, 1, 0, 0), (107, .ifCond .ne 18, 3, 125, 0), (110, .aload_n 0, 1, 0, 0), (111, .aload_n 0, 1, 0, 0), (112, .getfield 55, 3, 12, 21), (115, .iload_n 3, 1, 0, 0), (116, .iaload, 1, 0, 0), (117, .iload 4, 2, 0, 0), (119, .invokevirtual 349, 3, 235, 0), (122, .ifCond .eq 7, 3, 129, 0), (125, .iconst 1, 1, 0, 0), (126, .goto 4, 3, 130, 0), (129, .iconst 0, 1, 0, 0), (130, .bastore, 1, 0, 0), (131, .iinc 4 1, 3, 0, 0), (134, .goto (-48), 3, 86, 0), (137, .iinc 3 1, 3, 0, 0), (140, .goto (-116), 3, 24, 0), (143, .iconst 0, 1, 0, 0), (144, .istore_n 3, 1, 0, 0), (145, .iconst 0, 1, 0, 0), (146, .istore 4, 2, 0, 0), (148, .iconst 0, 1, 0, 0), (149, .istore 5, 2, 0, 0), (151, .iload 5, 2, 0, 0), (153, .sipush 576, 3, 0, 0), (156, .if_icmp .ge 85, 3, 241, 0), (159, .aload_n 0, 1, 0, 0), (160, .aload_n 0, 1, 0, 0), (161, .getfield 55, 3, 12, 21), (164, .iload_n 1, 1, 0, 0), (165, .iaload, 1, 0, 0), (166, .iload 5, 2, 0, 0), (168, .invokevirtual 349, 3, 235, 0), (171, .ifCond .ne 6, 3, 177, 0), (174, .goto 61, 3, 235, 0), (177, .iload 4, 2, 0, 0), (179, .aload_n 0, 1, 0, 0), (180, .getfield 124, 3, 12, 45), (183, .iload 5, 2, 0, 0), (185, .baload, 1, 0, 0), (186, .ifCond .eq 7, 3, 193, 0)]
def zI238_1 : List aI := [(189, .iconst 1, 1, 0, 0), (190, .goto 4, 3, 194, 0), (193, .iconst 0, 1, 0, 0), (194, .iadd, 1, 0, 0), (195, .istore 4, 2, 0, 0), (197, .iload_n 3, 1, 0, 0), (198, .aload_n 0, 1, 0, 0), (199, .getfield 124, 3, 12, 45), (202, .iload 5, 2, 0, 0), (204, .baload, 1, 0, 0), (205, .ifCond .ne 23, 3, 228, 0), (208, .aload_n 0, 1, 0, 0), (209, .getfield 127, 3, 12, 46), (212, .iload 5, 2, 0, 0), (214, .baload, 1, 0, 0), (215, .ifCond .ne 13, 3, 228, 0), (218, .aload_n 0, 1, 0, 0), (219, .getfield 130, 3, 12, 47), (222, .iload 5, 2, 0, 0), (224, .baload, 1, 0, 0), (225, .ifCond .eq 7, 3, 232, 0), (228, .iconst 0, 1, 0, 0), (229, .goto 4, 3, 233, 0), (232, .iconst 1, 1, 0, 0), (233, .iadd, 1, 0, 0), (234, .istore_n 3, 1, 0, 0), (235, .iinc 5 1, 3, 0, 0), (238, .goto (-87), 3, 151, 0), (241, .aload_n 0, 1, 0, 0), (242, .getfield 112, 3, 12, 41), (245, .iload_n 1, 1, 0, 0), (246, .iload_n 3, 1, 0, 0), (247, .iastore, 1, 0, 0), (248, .aload_n 0, 1, 0, 0), (249, .getfield 118, 3, 12, 43), (252, .iload_n 1, 1, 0, 0), (253, .iload 4, 2, 0, 0), (255, .iastore, 1, 0, 0), (256, .return_, 1, 0, 0)]
def zI238 : List aI := zI238_0 ++ (zI238_1)
def zM238 : aM := (12, ⟨"AcresPaidModel", "findCounted", "(II)V"⟩, prog_14_method_45_code, 6, none, 2, 0, zI238)
def zI239 : List aI := [(0, .aload_n 0, 1, 0, 0), (1, .getfield 100, 3, 12, 38), (4, .ifCond .ne 12, 3, 16, 0), (7, .aload_n 0, 1, 0, 0), (8, .getfield 104, 3, 12, 39), (11, .iload_n 1, 1, 0, 0), (12, .if_icmp .ne 4, 3, 16, 0), (15, .return_, 1, 0, 0), (16, .aload_n 0, 1, 0, 0), (17, .iconst 0, 1, 0, 0), (18, .putfield 100, 3, 12, 38), (21, .aload_n 0, 1, 0, 0), (22, .iload_n 1, 1, 0, 0), (23, .putfield 104, 3, 12, 39), (26, .iconst 0, 1, 0, 0), (27, .istore_n 2, 1, 0, 0), (28, .iload_n 2, 1, 0, 0), (29, .aload_n 0, 1, 0, 0), (30, .getfield 336, 3, 12, 19), (33, .if_icmp .ge 21, 3, 54, 0), (36, .aload_n 0, 1, 0, 0), (37, .getfield 108, 3, 12, 40), (40, .iload_n 2, 1, 0, 0), (41, .aload_n 0, 1, 0, 0), (42, .iload_n 2, 1, 0, 0), (43, .iload_n 1, 1, 0, 0), (44, .invokevirtual 355, 3, 234, 0), (47, .bastore, 1, 0, 0), (48, .iinc 2 1, 3, 0, 0), (51, .goto (-23), 3, 28, 0), (54, .iconst 0, 1, 0, 0), (55, .istore_n 2, 1, 0, 0), (56, .iload_n 2, 1, 0, 0), (57, .bipush 10, 2, 0, 0), (59, .if_icmp .ge 90, 3, 149, 0), (62, .aload_n 0, 1, 0, 0), (63, .iload_n 2, 1, 0, 0), (64, .iload_n 1, 1, 0, 0), (65, .invokevirtual 358, 3, 236, 0), (68, .iconst 0, 1, 0, 0), (69, .istore_n 3, 1, 0, 0), (70, .iload_n 3, 1, 0, 0), (71, .aload_n 0, 1, 0, 0), (72, .getfield 336, 3, 12, 19), (75, .if_icmp .ge 68, 3, 143, 0), (78, .aload_n 0, 1, 0, 0), (79, .getfield 108, 3, 12, 40), (82, .iload_n 3, 1, 0, 0), (83, .baload, 1, 0, 0), (84, .ifCond .eq 53, 3, 137, 0), (87, .aload_n 0, 1, 0, 0), (88, .iload_n 3, 1, 0, 0), (89, .invokevirtual 342, 3, 229, 0), (92, .iload_n 2, 1, 0, 0), (93, .if_icmp .eq 6, 3, 99, 0), (96, .goto 41, 3, 137, 0), (99, .aload_n 0, 1, 0, 0), (100, .iload_n 3, 1, 0, 0), (101, .iload_n 2, 1, 0, 0), (102, .invokevirtual 362, 3, 238, 0), (105, .aload_n 0, 1, 0, 0), (106, .getfield 112, 3, 12, 41), (109, .iload_n 3, 1, 0, 0), (110, .iaload, 1, 0, 0), (111, .aload_n 0, 1, 0, 0), (112, .iload_n 3, 1, 0, 0), (113, .iload_n 1, 1, 0, 0), (114, .invokevirtual 365, 3, 237, 0), (117, .isub, 1, 0, 0), (118, .istore 4, 2, 0, 0), (120, .aload_n 0, 1, 0, 0), (121, .getfield 115, 3, 12, 42), (124, .iload_n 3, 1, 0, 0), (125, .iload 4, 2, 0, 0), (127, .ifCond .ge 7, 3, 134, 0), (130, .iconst 0, 1, 0, 0), (131, .goto 5, 3, 136, 0), (134, .iload 4, 2, 0, 0), (136, .iastore, 1, 0, 0), (137, .iinc 3 1, 3, 0, 0), (140, .goto (-70), 3, 70, 0), (143, .iinc 2 1, 3, 0, 0), (146, .goto (-90), 3, 56, 0), (149, .return_, 1, 0, 0)]
def zM239 : aM := (12, ⟨"AcresPaidModel", "reckon", "(I)V"⟩, prog_14_method_46_code, 5, none, 1, 0, zI239)
def zI240 : List aI := [(0, .aload_n 0, 1, 0, 0), (1, .getfield 61, 3, 12, 23), (4, .iload_n 1, 1, 0, 0), (5, .iaload, 1, 0, 0), (6, .sipush 365, 3, 0, 0), (9, .irem, 1, 0, 0), (10, .aload_n 0, 1, 0, 0), (11, .getfield 64, 3, 12, 24), (14, .aload_n 0, 1, 0, 0), (15, .getfield 13, 3, 12, 4), (18, .aload_n 0, 1, 0, 0), (19, .getfield 52, 3, 12, 20), (22, .iload_n 1, 1, 0, 0), (23, .iaload, 1, 0, 0), (24, .iaload, 1, 0, 0), (25, .iaload, 1, 0, 0), (26, .isub, 1, 0, 0), (27, .istore_n 2, 1, 0, 0), (28, .iload_n 2, 1, 0, 0), (29, .ifCond .ge 7, 3, 36, 0), (32, .iconst 0, 1, 0, 0), (33, .goto 4, 3, 37, 0), (36, .iload_n 2, 1, 0, 0), (37, .ireturn, 1, 0, 0)]
def zM240 : aM := (12, ⟨"AcresPaidModel", "lateOf", "(I)I"⟩, prog_14_method_47_code, 3, (Option.some .int), 1, 0, zI240)
def zI241 : List aI := [(0, .aload_n 0, 1, 0, 0), (1, .iload 4, 2, 0, 0), (3, .invokevirtual 368, 3, 239, 0), (6, .iconst 0, 1, 0, 0), (7, .istore 5, 2, 0, 0), (9, .iload 5, 2, 0, 0), (11, .aload_n 0, 1, 0, 0), (12, .getfield 336, 3, 12, 19), (15, .if_icmp .ge 54, 3, 69, 0), (18, .aload_n 0, 1, 0, 0), (19, .getfield 108, 3, 12, 40), (22, .iload 5, 2, 0, 0), (24, .baload, 1, 0, 0), (25, .ifCond .eq 38, 3, 63, 0), (28, .aload_n 0, 1, 0, 0), (29, .getfield 52, 3, 12, 20), (32, .iload 5, 2, 0, 0), (34, .iaload, 1, 0, 0), (35, .iload_n 1, 1, 0, 0), (36, .if_icmp .ne 27, 3, 63, 0), (39, .aload_n 0, 1, 0, 0), (40, .getfield 55, 3, 12, 21), (43, .iload 5, 2, 0, 0), (45, .iaload, 1, 0, 0), (46, .iload_n 2, 1, 0, 0), (47, .if_icmp .ne 16, 3, 63, 0), (50, .aload_n 0, 1, 0, 0), (51, .iload 5, 2, 0, 0), (53, .invokevirtual 342, 3, 229, 0), (56, .iload_n 3, 1, 0, 0), (57, .if_icmp .ne 6, 3, 63, 0), (60, .iload 5, 2, 0, 0), (62, .ireturn, 1, 0, 0), (63, .iinc 5 1, 3, 0, 0), (66, .goto (-57), 3, 9, 0), (69, .iconst (-1), 1, 0, 0), (70, .ireturn, 1, 0, 0)]
def zM241 : aM := (12, ⟨"AcresPaidModel", "claimOf", "(IIII)I"⟩, prog_14_method_48_code, 6, (Option.some .int), 4, 0, zI241)
def zI242 : List aI := [(0, .aload_n 0, 1, 0, 0), (1, .iload_n 1, 1, 0, 0), (2, .invokevirtual 316, 3, 202, 0), (5, .ifCond .eq 36, 3, 41, 0), (8, .aload_n 0, 1, 0, 0), (9, .iload_n 2, 1, 0, 0), (10, .invokevirtual 322, 3, 203, 0), (13, .ifCond .eq 28, 3, 41, 0), (16, .iload_n 3, 1, 0, 0), (17, .invokestatic 372, 3, 198, 0), (20, .ifCond .eq 21, 3, 41, 0), (23, .iload 4, 2, 0, 0), (25, .invokestatic 325, 3, 197, 0), (28, .ifCond .eq 13, 3, 41, 0), (31, .iload 5, 2, 0, 0), (33, .iconst 0, 1, 0, 0), (34, .iconst 4, 1, 0, 0), (35, .invokestatic 258, 3, 196, 0), (38, .ifCond .ne 5, 3, 43, 0), (41, .iconst (-1), 1, 0, 0), (42, .ireturn, 1, 0, 0), (43, .aload_n 0, 1, 0, 0), (44, .iload_n 1, 1, 0, 0), (45, .iload_n 2, 1, 0, 0), (46, .iload_n 3, 1, 0, 0), (47, .iload 4, 2, 0, 0), (49, .invokevirtual 375, 3, 241, 0), (52, .istore 6, 2, 0, 0), (54, .iload 6, 2, 0, 0), (56, .ifCond .ge 6, 3, 62, 0), (59, .bipush (-2), 2, 0, 0), (61, .ireturn, 1, 0, 0), (62, .iload 5, 2, 0, 0), (64, .ifCond .ne 13, 3, 77, 0), (67, .aload_n 0, 1, 0, 0), (68, .getfield 112, 3, 12, 41), (71, .iload 6, 2, 0, 0), (73, .iaload, 1, 0, 0), (74, .goto 57, 3, 131, 0), (77, .iload 5, 2, 0, 0), (79, .iconst 1, 1, 0, 0), (80, .if_icmp .ne 13, 3, 93, 0), (83, .aload_n 0, 1, 0, 0), (84, .getfield 115, 3, 12, 42), (87, .iload 6, 2, 0, 0), (89, .iaload, 1, 0, 0), (90, .goto 41, 3, 131, 0), (93, .iload 5, 2, 0, 0), (95, .iconst 2, 1, 0, 0), (96, .if_icmp .ne 13, 3, 109, 0), (99, .aload_n 0, 1, 0, 0), (100, .getfield 58, 3, 12, 22), (103, .iload 6, 2, 0, 0), (105, .iaload, 1, 0, 0), (106, .goto 25, 3, 131, 0), (109, .iload 5, 2, 0, 0), (111, .iconst 3, 1, 0, 0), (112, .if_icmp .ne 13, 3, 125, 0), (115, .aload_n 0, 1, 0, 0), (116, .getfield 118, 3, 12, 43), (119, .iload 6, 2, 0, 0), (121, .iaload, 1, 0, 0), (122, .goto 9, 3, 131, 0), (125, .aload_n 0, 1, 0, 0), (126, .iload 6, 2, 0, 0), (128, .invokevirtual 379, 3, 240, 0), (131, .ireturn, 1, 0, 0)]
def zM242 : aM := (12, ⟨"AcresPaidModel", "counted", "(IIIII)I"⟩, prog_14_method_49_code, 7, (Option.some .int), 5, 0, zI242)
def zI243 : List aI := [(0, .aload_n 0, 1, 0, 0), (1, .iload_n 1, 1, 0, 0), (2, .invokevirtual 316, 3, 202, 0), (5, .ifCond .eq 30, 3, 35, 0), (8, .aload_n 0, 1, 0, 0), (9, .iload_n 2, 1, 0, 0), (10, .invokevirtual 322, 3, 203, 0), (13, .ifCond .eq 22, 3, 35, 0), (16, .iload_n 3, 1, 0, 0), (17, .invokestatic 372, 3, 198, 0), (20, .ifCond .eq 15, 3, 35, 0), (23, .iload 4, 2, 0, 0), (25, .iconst 0, 1, 0, 0), (26, .sipush 576, 3, 0, 0), (29, .invokestatic 258, 3, 196, 0), (32, .ifCond .ne 5, 3, 37, 0), (35, .iconst (-1), 1, 0, 0), (36, .ireturn, 1, 0, 0), (37, .aload_n 0, 1, 0, 0), (38, .iload_n 1, 1, 0, 0), (39, .iload_n 2, 1, 0, 0), (40, .iload_n 3, 1, 0, 0), (41, .aload_n 0, 1, 0, 0), (42, .getfield 262, 3, 12, 1), (45, .invokevirtual 375, 3, 241, 0), (48, .ifCond .ge 6, 3, 54, 0), (51, .bipush (-2), 2, 0, 0), (53, .ireturn, 1, 0, 0), (54, .aload_n 0, 1, 0, 0), (55, .getfield 352, 3, 12, 32), (58, .sipush 200, 3, 0, 0), (61, .if_icmp .ne 6, 3, 67, 0), (64, .bipush (-3), 2, 0, 0), (66, .ireturn, 1, 0, 0), (67, .aload_n 0, 1, 0, 0), (68, .getfield 85, 3, 12, 33), (71, .aload_n 0, 1, 0, 0), (72, .getfield 352, 3, 12, 32), (75, .iload_n 1, 1, 0, 0), (76, .iastore, 1, 0, 0), (77, .aload_n 0, 1, 0, 0), (78, .getfield 88, 3, 12, 34), (81, .aload_n 0, 1, 0, 0), (82, .getfield 352, 3, 12, 32), (85, .iload_n 2, 1, 0, 0), (86, .iastore, 1, 0, 0), (87, .aload_n 0, 1, 0, 0), (88, .getfield 91, 3, 12, 35), (91, .aload_n 0, 1, 0, 0), (92, .getfield 352, 3, 12, 32), (95, .iload_n 3, 1, 0, 0), (96, .iastore, 1, 0, 0), (97, .aload_n 0, 1, 0, 0), (98, .getfield 94, 3, 12, 36), (101, .aload_n 0, 1, 0, 0), (102, .getfield 352, 3, 12, 32), (105, .iload 4, 2, 0, 0), (107, .iastore, 1, 0, 0), (108, .aload_n 0, 1, 0, 0), (109, .getfield 97, 3, 12, 37), (112, .aload_n 0, 1, 0, 0), (113, .getfield 352, 3, 12, 32), (116, .aload_n 0, 1, 0, 0), (117, .getfield 262, 3, 12, 1), (120, .iastore, 1, 0, 0), (121, .aload_n 0, 1, 0, 0), (122, .dup, 1, 0, 0), (123, .getfield 352, 3, 12, 32), (126, .iconst 1, 1, 0, 0), (127, .iadd, 1, 0, 0), (128, .putfield 352, 3, 12, 32), (131, .aload_n 0, 1, 0, 0), (132, .iconst 1, 1, 0, 0), (133, .putfield 100, 3, 12, 38), (136, .aload_n 0, 1, 0, 0), (137, .getfield 352, 3, 12, 32), (140, .ireturn, 1, 0, 0)]
def zM243 : aM := (12, ⟨"AcresPaidModel", "control", "(IIII)I"⟩, prog_14_method_50_code, 5, (Option.some .int), 4, 0, zI243)
def zI244 : List aI := [(0, .aload_n 0, 1, 0, 0), (1, .iload_n 1, 1, 0, 0), (2, .invokevirtual 316, 3, 202, 0), (5, .ifCond .eq 10, 3, 15, 0), (8, .iload_n 2, 1, 0, 0), (9, .invokestatic 372, 3, 198, 0), (12, .ifCond .ne 5, 3, 17, 0), (15, .iconst (-1), 1, 0, 0), (16, .ireturn, 1, 0, 0), (17, .aload_n 0, 1, 0, 0), (18, .getfield 133, 3, 12, 48), (21, .bipush 10, 2, 0, 0), (23, .iload_n 1, 1, 0, 0), (24, .imul, 1, 0, 0), (25, .iload_n 2, 1, 0, 0), (26, .iadd, 1, 0, 0), (27, .iaload, 1, 0, 0), (28, .ifCond .le 6, 3, 34, 0), (31, .bipush (-2), 2, 0, 0), (33, .ireturn, 1, 0, 0), (34, .aload_n 0, 1, 0, 0), (35, .getfield 133, 3, 12, 48), (38, .bipush 10, 2, 0, 0), (40, .iload_n 1, 1, 0, 0), (41, .imul, 1, 0, 0), (42, .iload_n 2, 1, 0, 0), (43, .iadd, 1, 0, 0), (44, .aload_n 0, 1, 0, 0), (45, .getfield 262, 3, 12, 1), (48, .iconst 1, 1, 0, 0), (49, .iadd, 1, 0, 0), (50, .iastore, 1, 0, 0), (51, .iconst 1, 1, 0, 0), (52, .ireturn, 1, 0, 0)]
def zM244 : aM := (12, ⟨"AcresPaidModel", "majeure", "(II)I"⟩, prog_14_method_51_code, 3, (Option.some .int), 2, 0, zI244)
def zI245 : List aI := [(0, .iload_n 1, 1, 0, 0), (1, .iconst 0, 1, 0, 0), (2, .bipush 7, 2, 0, 0), (4, .invokestatic 258, 3, 196, 0), (7, .ifCond .eq 22, 3, 29, 0), (10, .iload_n 2, 1, 0, 0), (11, .iconst 0, 1, 0, 0), (12, .iconst 5, 1, 0, 0), (13, .invokestatic 258, 3, 196, 0), (16, .ifCond .eq 13, 3, 29, 0), (19, .iload_n 3, 1, 0, 0), (20, .iconst 0, 1, 0, 0), (21, .bipush 99, 2, 0, 0), (23, .invokestatic 258, 3, 196, 0), (26, .ifCond .ne 5, 3, 31, 0), (29, .iconst (-1), 1, 0, 0), (30, .ireturn, 1, 0, 0), (31, .aload_n 0, 1, 0, 0), (32, .getfield 136, 3, 12, 49), (35, .bipush 6, 2, 0, 0), (37, .iload_n 1, 1, 0, 0), (38, .imul, 1, 0, 0), (39, .iload_n 2, 1, 0, 0), (40, .iadd, 1, 0, 0), (41, .iaload, 1, 0, 0), (42, .istore 4, 2, 0, 0), (44, .aload_n 0, 1, 0, 0), (45, .getfield 136, 3, 12, 49), (48, .bipush 6, 2, 0, 0), (50, .iload_n 1, 1, 0, 0), (51, .imul, 1, 0, 0), (52, .iload_n 2, 1, 0, 0), (53, .iadd, 1, 0, 0), (54, .iload_n 3, 1, 0, 0), (55, .iastore, 1, 0, 0), (56, .iload 4, 2, 0, 0), (58, .ireturn, 1, 0, 0)]
def zM245 : aM := (12, ⟨"AcresPaidModel", "colour", "(III)I"⟩, prog_14_method_52_code, 5, (Option.some .int), 3, 0, zI245)
def zI246 : List aI := [(0, .aload_n 0, 1, 0, 0), (1, .getfield 145, 3, 12, 52), (4, .istore_n 2, 1, 0, 0), (5, .aload_n 0, 1, 0, 0), (6, .iload_n 1, 1, 0, 0), (7, .putfield 145, 3, 12, 52), (10, .iload_n 2, 1, 0, 0), (11, .ireturn, 1, 0, 0)]
def zM246 : aM := (12, ⟨"AcresPaidModel", "blank", "(I)I"⟩, prog_14_method_53_code, 3, (Option.some .int), 1, 0, zI246)
def zI247_0 : List aI := [(0, .aload_n 0, 1, 0, 0), (1, .iload_n 1, 1, 0, 0), (2, .invokevirtual 322, 3, 203, 0), (5, .ifCond .eq 17, 3, 22, 0), (8, .iload_n 2, 1, 0, 0), (9, .invokestatic 372, 3, 198, 0), (12, .ifCond .eq 10, 3, 22, 0), (15, .iload_n 3, 1, 0, 0), (16, .invokestatic 382, 3, 318, 0), (19, .ifCond .ne 5, 3, 24, 0), (22, .iconst (-1), 1, 0, 0), (23, .ireturn, 1, 0, 0), (24, .aload_n 0, 1, 0, 0), (25, .getfield 243, 3, 12, 97), (28, .iload_n 3, 1, 0, 0), (29, .iaload, 1, 0, 0), (30, .iconst (-1), 1, 0, 0), (31, .if_icmp .eq 17, 3, 48, 0), (34, .aload_n 0, 1, 0, 0), (35, .getfield 243, 3, 12, 97), (38, .iload_n 3, 1, 0, 0), (39, .iaload, 1, 0, 0), (40, .bipush (-2), 2, 0, 0), (42, .if_icmp .eq 6, 3, 48, 0), (45, .bipush (-12), 2, 0, 0), (47, .ireturn, 1, 0, 0), (48, .iconst 0, 1, 0, 0), (49, .istore 5, 2, 0, 0), (51, .aload_n 0, 1, 0, 0), (52, .getfield 243, 3, 12, 97), (55, .iload_n 3, 1, 0, 0), (56, .iaload, 1, 0, 0), (57, .iconst (-1), 1, 0, 0), (58, .if_icmp .ne 7, 3, 65, 0), (61, .iconst 1, 1, 0, 0), (62, .goto 4, 3, 66, 0), (65, .iconst 0, 1, 0, 0), (66, .istore 6, 2, 0, 0), (68, .iconst 0, 1, 0, 0), (69, .istore 7, 2, 0, 0), (71, .iload 7, 2, 0, 0), (73, .bipush 6, 2, 0, 0), (75, .if_icmp .ge 140, 3, 215, 0), (78, .bipush 60, 2, 0, 0), (80, .iload_n 1, 1, 0, 0), (81, .imul, 1, 0, 0), (82, .bipush 6, 2, 0, 0), (84, .iload_n 2, 1, 0, 0), (85, .imul, 1, 0, 0), (86, .iadd, 1, 0, 0), (87, .iload 7, 2, 0, 0), (89, .iadd, 1, 0, 0), (90, .istore 8, 2, 0, 0), (92, .iload 4, 2, 0, 0), (94, .i2l, 1, 0, 0), (95, .iload 7, 2, 0, 0), (97, .i2l, 1, 0, 0), (98, .ladd, 1, 0, 0), (99, .lstore 9, 2, 0, 0), (101, .iload 6, 2, 0, 0), (103, .ifCond .ne 23, 3, 126, 0), (106, .lload 9, 2, 0, 0), (108, .lconst 0, 1, 0, 0), (109, .lcmp, 1, 0, 0), (110, .ifCond .lt 16, 3, 126, 0), (113, .lload 9, 2, 0, 0), (115, .aload_n 0, 1, 0, 0), (116, .getfield 246, 3, 12, 98), (119, .iload_n 3, 1, 0, 0), (120, .iaload, 1, 0, 0), (121, .i2l, 1, 0, 0), (122, .lcmp, 1, 0, 0), (123, .ifCond .lt 7, 3, 130, 0), (126, .iconst 1, 1, 0, 0), (127, .goto 4, 3, 131, 0), (130, .iconst 0, 1, 0, 0), (131, .istore 6, 2, 0, 0), (133, .aload_n 0, 1, 0, 0), (134, .getfield 142, 3, 12, 51), (137, .iload 8, 2, 0, 0), (139, .iload 6, 2, 0, 0), (141, .ifCond .ne 29, 3, 170, 0), (144, .aload_n 0, 1, 0, 0), (145, .getfield 249, 3, 12, 99), (148, .bipush 60, 2, 0, 0), (150, .iload_n 3, 1, 0, 0), (151, .imul, 1, 0, 0), (152, .lload 9, 2, 0, 0), (154, .l2i, 1, 0, 0), (155, .iadd, 1, 0, 0), (156, .laload, 1, 0, 0), (157, .aload_n 0, 1, 0, 0), (158, .getfield 145, 3, 12, 52), (161, .i2l, 1, 0, 0), (162, .lcmp, 1, 0, 0), (163, .ifCond .eq 7, 3, 170, 0), (166, .iconst 1, 1, 0, 0), (167, .goto 4, 3, 171, 0), (170, .iconst 0, 1, 0, 0), (171, .bastore, 1, 0, 0)]
def zI247_1 : List aI := [(172, .aload_n 0, 1, 0, 0), (173, .getfield 142, 3, 12, 51), (176, .iload 8, 2, 0, 0), (178, .baload, 1, 0, 0), (179, .ifCond .ne 6, 3, 185, 0), (182, .goto 27, 3, 209, 0), (185, .aload_n 0, 1, 0, 0), (186, .getfield 139, 3, 12, 50), (189, .iload 8, 2, 0, 0), (191, .aload_n 0, 1, 0, 0), (192, .getfield 249, 3, 12, 99), (195, .bipush 60, 2, 0, 0), (197, .iload_n 3, 1, 0, 0), (198, .imul, 1, 0, 0), (199, .lload 9, 2, 0, 0), (201, .l2i, 1, 0, 0), (202, .iadd, 1, 0, 0), (203, .laload, 1, 0, 0), (204, .l2i, 1, 0, 0), (205, .iastore, 1, 0, 0), (206, .iinc 5 1, 3, 0, 0), (209, .iinc 7 1, 3, 0, 0), (212, .goto (-141), 3, 71, 0), (215, .iload 5, 2, 0, 0), (217, .ireturn, 1, 0, 0)]
def zI247 : List aI := zI247_0 ++ (zI247_1)
def zM247 : aM := (12, ⟨"AcresPaidModel", "see", "(IIII)I"⟩, prog_14_method_54_code, 11, (Option.some .int), 4, 0, zI247)
def zI248 : List aI := [(0, .iconst 0, 1, 0, 0), (1, .istore 4, 2, 0, 0), (3, .iconst 0, 1, 0, 0), (4, .istore 5, 2, 0, 0), (6, .iload 5, 2, 0, 0), (8, .bipush 6, 2, 0, 0), (10, .if_icmp .ge 77, 3, 87, 0), (13, .bipush 60, 2, 0, 0), (15, .iload_n 1, 1, 0, 0), (16, .imul, 1, 0, 0), (17, .bipush 6, 2, 0, 0), (19, .iload_n 2, 1, 0, 0), (20, .imul, 1, 0, 0), (21, .iadd, 1, 0, 0), (22, .iload 5, 2, 0, 0), (24, .iadd, 1, 0, 0), (25, .istore 6, 2, 0, 0), (27, .aload_n 0, 1, 0, 0), (28, .getfield 142, 3, 12, 51), (31, .iload 6, 2, 0, 0), (33, .baload, 1, 0, 0), (34, .ifCond .eq 26, 3, 60, 0), (37, .aload_n 0, 1, 0, 0), (38, .getfield 139, 3, 12, 50), (41, .iload 6, 2, 0, 0), (43, .iaload, 1, 0, 0), (44, .aload_n 0, 1, 0, 0), (45, .getfield 136, 3, 12, 49), (48, .bipush 6, 2, 0, 0), (50, .iload_n 3, 1, 0, 0), (51, .imul, 1, 0, 0), (52, .iload 5, 2, 0, 0), (54, .iadd, 1, 0, 0), (55, .iaload, 1, 0, 0), (56, .isub, 1, 0, 0), (57, .goto 4, 3, 61, 0), (60, .iconst 0, 1, 0, 0), (61, .istore 7, 2, 0, 0), (63, .iload 4, 2, 0, 0), (65, .iload 7, 2, 0, 0), (67, .ifCond .ge 9, 3, 76, 0), (70, .iload 7, 2, 0, 0), (72, .ineg, 1, 0, 0), (73, .goto 5, 3, 78, 0), (76, .iload 7, 2, 0, 0), (78, .iadd, 1, 0, 0), (79, .istore 4, 2, 0, 0), (81, .iinc 5 1, 3, 0, 0), (84, .goto (-78), 3, 6, 0), (87, .iload 4, 2, 0, 0), (89, .ireturn, 1, 0, 0)]
def zM248 : aM := (12, ⟨"AcresPaidModel", "apartOf", "(III)I"⟩, prog_14_method_55_code, 8, (Option.some .int), 3, 0, zI248)
def zI249 : List aI := [(0, .aload_n 0, 1, 0, 0), (1, .iload_n 1, 1, 0, 0), (2, .invokevirtual 322, 3, 203, 0), (5, .ifCond .eq 19, 3, 24, 0), (8, .iload_n 2, 1, 0, 0), (9, .invokestatic 372, 3, 198, 0), (12, .ifCond .eq 12, 3, 24, 0), (15, .iload_n 3, 1, 0, 0), (16, .iconst 0, 1, 0, 0), (17, .iconst 1, 1, 0, 0), (18, .invokestatic 258, 3, 196, 0), (21, .ifCond .ne 5, 3, 26, 0), (24, .iconst (-1), 1, 0, 0), (25, .ireturn, 1, 0, 0), (26, .iconst 0, 1, 0, 0), (27, .istore 4, 2, 0, 0), (29, .iconst 0, 1, 0, 0), (30, .istore 5, 2, 0, 0), (32, .iload 5, 2, 0, 0), (34, .bipush 6, 2, 0, 0), (36, .if_icmp .ge 41, 3, 77, 0), (39, .iload 4, 2, 0, 0), (41, .ifCond .ne 23, 3, 64, 0), (44, .aload_n 0, 1, 0, 0), (45, .getfield 142, 3, 12, 51), (48, .bipush 60, 2, 0, 0), (50, .iload_n 1, 1, 0, 0), (51, .imul, 1, 0, 0), (52, .bipush 6, 2, 0, 0), (54, .iload_n 2, 1, 0, 0), (55, .imul, 1, 0, 0), (56, .iadd, 1, 0, 0), (57, .iload 5, 2, 0, 0), (59, .iadd, 1, 0, 0), (60, .baload, 1, 0, 0), (61, .ifCond .eq 7, 3, 68, 0), (64, .iconst 1, 1, 0, 0), (65, .goto 4, 3, 69, 0), (68, .iconst 0, 1, 0, 0), (69, .istore 4, 2, 0, 0), (71, .iinc 5 1, 3, 0, 0), (74, .goto (-42), 3, 32, 0), (77, .iload 4, 2, 0, 0), (79, .ifCond .ne 6, 3, 85, 0), (82, .bipush (-2), 2, 0, 0), (84, .ireturn, 1, 0, 0), (85, .iconst 0, 1, 0, 0), (86, .istore 5, 2, 0, 0), (88, .iconst 1, 1, 0, 0), (89, .istore 6, 2, 0, 0), (91, .iload 6, 2, 0, 0), (93, .bipush 8, 2, 0, 0), (95, .if_icmp .ge 32, 3, 127, 0), (98, .aload_n 0, 1, 0, 0), (99, .iload_n 1, 1, 0, 0), (100, .iload_n 2, 1, 0, 0), (101, .iload 6, 2, 0, 0), (103, .invokevirtual 385, 3, 248, 0), (106, .aload_n 0, 1, 0, 0), (107, .iload_n 1, 1, 0, 0), (108, .iload_n 2, 1, 0, 0), (109, .iload 5, 2, 0, 0), (111, .invokevirtual 385, 3, 248, 0), (114, .if_icmp .ge 7, 3, 121, 0), (117, .iload 6, 2, 0, 0), (119, .istore 5, 2, 0, 0), (121, .iinc 6 1, 3, 0, 0), (124, .goto (-33), 3, 91, 0), (127, .iload_n 3, 1, 0, 0), (128, .ifCond .ne 6, 3, 134, 0), (131, .iload 5, 2, 0, 0), (133, .ireturn, 1, 0, 0), (134, .ldc_w 390, 3, 2147483647, 0), (137, .istore 6, 2, 0, 0), (139, .iconst 0, 1, 0, 0), (140, .istore 7, 2, 0, 0), (142, .iload 7, 2, 0, 0), (144, .bipush 8, 2, 0, 0), (146, .if_icmp .ge 31, 3, 177, 0), (149, .iload 7, 2, 0, 0), (151, .iload 5, 2, 0, 0), (153, .if_icmp .eq 18, 3, 171, 0), (156, .iload 6, 2, 0, 0), (158, .aload_n 0, 1, 0, 0), (159, .iload_n 1, 1, 0, 0), (160, .iload_n 2, 1, 0, 0), (161, .iload 7, 2, 0, 0), (163, .invokevirtual 385, 3, 248, 0), (166, .invokestatic 289, 3, 211, 0), (169, .istore 6, 2, 0, 0), (171, .iinc 7 1, 3, 0, 0), (174, .goto (-32), 3, 142, 0), (177, .iload 6, 2, 0, 0), (179, .aload_n 0, 1, 0, 0), (180, .iload_n 1, 1, 0, 0), (181, .iload_n 2, 1, 0, 0), (182, .iload 5, 2, 0, 0), (184, .invokevirtual 385, 3, 248, 0), (187, .isub, 1, 0, 0), (188, .ireturn, 1, 0, 0)]
def zM249 : aM := (12, ⟨"AcresPaidModel", "looks", "(III)I"⟩, prog_14_method_56_code, 8, (Option.some .int), 3, 0, zI249)
def zI250 : List aI := [(0, .iload_n 1, 1, 0, 0), (1, .iconst 1, 1, 0, 0), (2, .iconst 4, 1, 0, 0), (3, .invokestatic 258, 3, 196, 0), (6, .ifCond .ne 5, 3, 11, 0), (9, .iconst (-1), 1, 0, 0), (10, .ireturn, 1, 0, 0), (11, .aload_n 0, 1, 0, 0), (12, .getfield 391, 3, 12, 54), (15, .iload_n 1, 1, 0, 0), (16, .iadd, 1, 0, 0), (17, .sipush 160, 3, 0, 0), (20, .if_icmp .le 6, 3, 26, 0), (23, .bipush (-3), 2, 0, 0), (25, .ireturn, 1, 0, 0), (26, .iconst 0, 1, 0, 0), (27, .istore_n 3, 1, 0, 0), (28, .iload_n 3, 1, 0, 0), (29, .iload_n 1, 1, 0, 0), (30, .if_icmp .ge 35, 3, 65, 0), (33, .aload_n 0, 1, 0, 0), (34, .getfield 148, 3, 12, 53), (37, .aload_n 0, 1, 0, 0), (38, .getfield 391, 3, 12, 54), (41, .iload_n 2, 1, 0, 0), (42, .bipush 8, 2, 0, 0), (44, .iload_n 3, 1, 0, 0), (45, .imul, 1, 0, 0), (46, .ishr, 1, 0, 0), (47, .i2b, 1, 0, 0), (48, .bastore, 1, 0, 0), (49, .aload_n 0, 1, 0, 0), (50, .dup, 1, 0, 0), (51, .getfield 391, 3, 12, 54), (54, .iconst 1, 1, 0, 0), (55, .iadd, 1, 0, 0), (56, .putfield 391, 3, 12, 54), (59, .iinc 3 1, 3, 0, 0), (62, .goto (-34), 3, 28, 0), (65, .aload_n 0, 1, 0, 0), (66, .getfield 391, 3, 12, 54), (69, .ireturn, 1, 0, 0)]
def zM250 : aM := (12, ⟨"AcresPaidModel", "feed", "(II)I"⟩, prog_14_method_57_code, 4, (Option.some .int), 2, 0, zI250)
def zI251 : List aI := [(0, .aload_n 0, 1, 0, 0), (1, .getfield 394, 3, 12, 64), (4, .aload_n 0, 1, 0, 0), (5, .getfield 391, 3, 12, 54), (8, .if_icmp .ge 15, 3, 23, 0), (11, .aload_n 0, 1, 0, 0), (12, .getfield 148, 3, 12, 53), (15, .aload_n 0, 1, 0, 0), (16, .getfield 394, 3, 12, 64), (19, .baload, 1, 0, 0), (20, .goto 4, 3, 24, 0), (23, .iconst (-1), 1, 0, 0), (24, .ireturn, 1, 0, 0)]
def zM251 : aM := (12, ⟨"AcresPaidModel", "look", "()I"⟩, prog_14_method_58_code, 1, (Option.some .int), 0, 0, zI251)
def zI252 : List aI := [(0, .aload_n 0, 1, 0, 0), (1, .getfield 397, 3, 12, 65), (4, .ifCond .ge 11, 3, 15, 0), (7, .aload_n 0, 1, 0, 0), (8, .aload_n 0, 1, 0, 0), (9, .getfield 394, 3, 12, 64), (12, .putfield 397, 3, 12, 65), (15, .return_, 1, 0, 0)]
def zM252 : aM := (12, ⟨"AcresPaidModel", "wrong", "()V"⟩, prog_14_method_59_code, 1, none, 0, 0, zI252)
def zI253 : List aI := [(0, .aload_n 0, 1, 0, 0), (1, .getfield 170, 3, 12, 62), (4, .sipush 170, 3, 0, 0), (7, .aload_n 0, 1, 0, 0), (8, .getfield 400, 3, 12, 67), (11, .imul, 1, 0, 0), (12, .aload_n 0, 1, 0, 0), (13, .getfield 403, 3, 12, 68), (16, .iadd, 1, 0, 0), (17, .iload_n 1, 1, 0, 0), (18, .iastore, 1, 0, 0), (19, .aload_n 0, 1, 0, 0), (20, .getfield 173, 3, 12, 63), (23, .sipush 170, 3, 0, 0), (26, .aload_n 0, 1, 0, 0), (27, .getfield 400, 3, 12, 67), (30, .imul, 1, 0, 0), (31, .aload_n 0, 1, 0, 0), (32, .getfield 403, 3, 12, 68), (35, .iadd, 1, 0, 0), (36, .iload_n 2, 1, 0, 0), (37, .iastore, 1, 0, 0), (38, .aload_n 0, 1, 0, 0), (39, .dup, 1, 0, 0), (40, .getfield 403, 3, 12, 68), (43, .iconst 1, 1, 0, 0), (44, .iadd, 1, 0, 0), (45, .putfield 403, 3, 12, 68), (48, .return_, 1, 0, 0)]
def zM253 : aM := (12, ⟨"AcresPaidModel", "lay", "(II)V"⟩, prog_14_method_60_code, 3, none, 2, 0, zI253)
def zI254 : List aI := [(0, .aload_n 0, 1, 0, 0), (1, .getfield 406, 3, 12, 66), (4, .bipush 8, 2, 0, 0), (6, .if_icmp .ne 9, 3, 15, 0), (9, .aload_n 0, 1, 0, 0), (10, .invokevirtual 409, 3, 252, 0), (13, .iconst 0, 1, 0, 0), (14, .ireturn, 1, 0, 0), (15, .aload_n 0, 1, 0, 0), (16, .dup, 1, 0, 0), (17, .getfield 406, 3, 12, 66), (20, .iconst 1, 1, 0, 0), (21, .iadd, 1, 0, 0), (22, .putfield 406, 3, 12, 66), (25, .aload_n 0, 1, 0, 0), (26, .dup, 1, 0, 0), (27, .getfield 394, 3, 12, 64), (30, .iconst 1, 1, 0, 0), (31, .iadd, 1, 0, 0), (32, .putfield 394, 3, 12, 64), (35, .iconst 1, 1, 0, 0), (36, .ireturn, 1, 0, 0)]
def zM254 : aM := (12, ⟨"AcresPaidModel", "opens", "()Z"⟩, prog_14_method_61_code, 1, (Option.some .boolean), 0, 0, zI254)
def zI255 : List aI := [(0, .iload_n 0, 1, 0, 0), (1, .tableswitch 144 98 121 #[141, 121, 144, 129, 117, 119, 144, 144, 138, 113, 126, 135, 144, 144, 132, 144, 144, 115, 123, 144, 144, 144, 144, 111], 111, 0, 0), (112, .iconst 0, 1, 0, 0), (113, .ireturn, 1, 0, 0), (114, .iconst 1, 1, 0, 0), (115, .ireturn, 1, 0, 0), (116, .iconst 2, 1, 0, 0), (117, .ireturn, 1, 0, 0), (118, .iconst 3, 1, 0, 0), (119, .ireturn, 1, 0, 0), (120, .iconst 4, 1, 0, 0), (121, .ireturn, 1, 0, 0), (122, .iconst 5, 1, 0, 0), (123, .ireturn, 1, 0, 0), (124, .bipush 6, 2, 0, 0), (126, .ireturn, 1, 0, 0), (127, .bipush 7, 2, 0, 0), (129, .ireturn, 1, 0, 0), (130, .bipush 8, 2, 0, 0), (132, .ireturn, 1, 0, 0), (133, .bipush 9, 2, 0, 0), (135, .ireturn, 1, 0, 0), (136, .bipush 10, 2, 0, 0), (138, .ireturn, 1, 0, 0), (139, .bipush 11, 2, 0, 0), (141, .ireturn, 1, 0, 0), (142, .bipush 12, 2, 0, 0), (144, .ireturn, 1, 0, 0), (145, .iconst (-1), 1, 0, 0), (146, .ireturn, 1, 0, 0)]
def zM255 : aM := (12, ⟨"AcresPaidModel", "nameOf", "(I)I"⟩, prog_14_method_62_code, 1, (Option.some .int), 1, 1, zI255)
def zI256_0 : List aI := [(0, .aload_n 0, 1, 0, 0), (1, .invokevirtual 412, 3, 251, 0), (4, .istore_n 1, 1, 0, 0), (5, .iload_n 1, 1, 0, 0), (6, .invokestatic 415, 3, 255, 0), (9, .ifCond .lt 23, 3, 32, 0), (12, .aload_n 0, 1, 0, 0), (13, .iconst 2, 1, 0, 0), (14, .iload_n 1, 1, 0, 0), (15, .invokestatic 415, 3, 255, 0), (18, .invokevirtual 418, 3, 253, 0), (21, .aload_n 0, 1, 0, 0), (22, .dup, 1, 0, 0), (23, .getfield 394, 3, 12, 64), (26, .iconst 1, 1, 0, 0), (27, .iadd, 1, 0, 0), (28, .putfield 394, 3, 12, 64), (31, .return_, 1, 0, 0), (32, .iload_n 1, 1, 0, 0), (33, .bipush 33, 2, 0, 0), (35, .if_icmp .eq 9, 3, 44, 0), (38, .iload_n 1, 1, 0, 0), (39, .bipush 45, 2, 0, 0), (41, .if_icmp .ne 42, 3, 83, 0), (44, .aload_n 0, 1, 0, 0), (45, .invokevirtual 421, 3, 254, 0), (48, .ifCond .ne 4, 3, 52, 0), (51, .return_, 1, 0, 0), (52, .aload_n 0, 1, 0, 0), (53, .invokevirtual 424, 3, 256, 0), (56, .aload_n 0, 1, 0, 0), (57, .dup, 1, 0, 0), (58, .getfield 406, 3, 12, 66), (61, .iconst 1, 1, 0, 0), (62, .isub, 1, 0, 0), (63, .putfield 406, 3, 12, 66), (66, .aload_n 0, 1, 0, 0), (67, .iload_n 1, 1, 0, 0), (68, .bipush 33, 2, 0, 0), (70, .if_icmp .ne 7, 3, 77, 0), (73, .iconst 3, 1, 0, 0), (74, .goto 4, 3, 78, 0), (77, .iconst 4, 1, 0, 0), (78, .iconst 0, 1, 0, 0), (79, .invokevirtual 418, 3, 253, 0), (82, .return_, 1, 0, 0), (83, .iload_n 1, 1, 0, 0), (84, .bipush 40, 2, 0, 0), (86, .if_icmp .ne 58, 3, 144, 0), (89, .aload_n 0, 1, 0, 0), (90, .invokevirtual 421, 3, 254, 0), (93, .ifCond .ne 4, 3, 97, 0), (96, .return_, 1, 0, 0), (97, .aload_n 0, 1, 0, 0), (98, .invokevirtual 427, 3, 261, 0), (101, .aload_n 0, 1, 0, 0), (102, .getfield 397, 3, 12, 65), (105, .ifCond .lt 4, 3, 109, 0), (108, .return_, 1, 0, 0), (109, .aload_n 0, 1, 0, 0), (110, .invokevirtual 412, 3, 251, 0), (113, .bipush 41, 2, 0, 0), (115, .if_icmp .eq 8, 3, 123, 0), (118, .aload_n 0, 1, 0, 0), (119, .invokevirtual 409, 3, 252, 0), (122, .return_, 1, 0, 0), (123, .aload_n 0, 1, 0, 0), (124, .dup, 1, 0, 0), (125, .getfield 406, 3, 12, 66), (128, .iconst 1, 1, 0, 0), (129, .isub, 1, 0, 0), (130, .putfield 406, 3, 12, 66), (133, .aload_n 0, 1, 0, 0), (134, .dup, 1, 0, 0), (135, .getfield 394, 3, 12, 64), (138, .iconst 1, 1, 0, 0), (139, .iadd, 1, 0, 0), (140, .putfield 394, 3, 12, 64), (143, .return_, 1, 0, 0), (144, .iconst 0, 1, 0, 0), (145, .istore_n 2, 1, 0, 0), (146, .iconst 0, 1, 0, 0), (147, .istore_n 3, 1, 0, 0), (148, .iload_n 2, 1, 0, 0), (149, .bipush 6, 2, 0, 0), (151, .if_icmp .ge 46, 3, 197, 0), (154, .aload_n 0, 1, 0, 0), (155, .invokevirtual 412, 3, 251, 0), (158, .bipush 48, 2, 0, 0), (160, .bipush 57, 2, 0, 0), (162, .invokestatic 258, 3, 196, 0), (165, .ifCond .eq 32, 3, 197, 0), (168, .bipush 10, 2, 0, 0), (170, .iload_n 3, 1, 0, 0), (171, .imul, 1, 0, 0), (172, .aload_n 0, 1, 0, 0), (173, .invokevirtual 412, 3, 251, 0), (176, .iadd, 1, 0, 0), (177, .bipush 48, 2, 0, 0), (179, .isub, 1, 0, 0)]
def zI256_1 : List aI := [(180, .istore_n 3, 1, 0, 0), (181, .iinc 2 1, 3, 0, 0), (184, .aload_n 0, 1, 0, 0), (185, .dup, 1, 0, 0), (186, .getfield 394, 3, 12, 64), (189, .iconst 1, 1, 0, 0), (190, .iadd, 1, 0, 0), (191, .putfield 394, 3, 12, 64), (194, .goto (-46), 3, 148, 0), (197, .iload_n 2, 1, 0, 0), (198, .ifCond .eq 17, 3, 215, 0), (201, .aload_n 0, 1, 0, 0), (202, .invokevirtual 412, 3, 251, 0), (205, .bipush 48, 2, 0, 0), (207, .bipush 57, 2, 0, 0), (209, .invokestatic 258, 3, 196, 0), (212, .ifCond .eq 10, 3, 222, 0), (215, .aload_n 0, 1, 0, 0), (216, .invokevirtual 409, 3, 252, 0), (219, .goto 9, 3, 228, 0), (222, .aload_n 0, 1, 0, 0), (223, .iconst 1, 1, 0, 0), (224, .iload_n 3, 1, 0, 0), (225, .invokevirtual 418, 3, 253, 0), (228, .return_, 1, 0, 0)]
def zI256 : List aI := zI256_0 ++ (zI256_1)
def zM256 : aM := (12, ⟨"AcresPaidModel", "operand", "()V"⟩, prog_14_method_63_code, 4, none, 0, 0, zI256)
def zI257 : List aI := [(0, .aload_n 0, 1, 0, 0), (1, .invokevirtual 424, 3, 256, 0), (4, .aload_n 0, 1, 0, 0), (5, .getfield 397, 3, 12, 65), (8, .ifCond .ge 58, 3, 66, 0), (11, .aload_n 0, 1, 0, 0), (12, .invokevirtual 412, 3, 251, 0), (15, .bipush 42, 2, 0, 0), (17, .if_icmp .eq 21, 3, 38, 0), (20, .aload_n 0, 1, 0, 0), (21, .invokevirtual 412, 3, 251, 0), (24, .bipush 47, 2, 0, 0), (26, .if_icmp .eq 12, 3, 38, 0), (29, .aload_n 0, 1, 0, 0), (30, .invokevirtual 412, 3, 251, 0), (33, .bipush 37, 2, 0, 0), (35, .if_icmp .ne 31, 3, 66, 0), (38, .aload_n 0, 1, 0, 0), (39, .invokevirtual 412, 3, 251, 0), (42, .istore_n 1, 1, 0, 0), (43, .aload_n 0, 1, 0, 0), (44, .dup, 1, 0, 0), (45, .getfield 394, 3, 12, 64), (48, .iconst 1, 1, 0, 0), (49, .iadd, 1, 0, 0), (50, .putfield 394, 3, 12, 64), (53, .aload_n 0, 1, 0, 0), (54, .invokevirtual 424, 3, 256, 0), (57, .aload_n 0, 1, 0, 0), (58, .iload_n 1, 1, 0, 0), (59, .iconst 0, 1, 0, 0), (60, .invokevirtual 418, 3, 253, 0), (63, .goto (-59), 3, 4, 0), (66, .return_, 1, 0, 0)]
def zM257 : aM := (12, ⟨"AcresPaidModel", "product", "()V"⟩, prog_14_method_64_code, 2, none, 0, 0, zI257)
def zI258 : List aI := [(0, .aload_n 0, 1, 0, 0), (1, .invokevirtual 430, 3, 257, 0), (4, .aload_n 0, 1, 0, 0), (5, .getfield 397, 3, 12, 65), (8, .ifCond .ge 49, 3, 57, 0), (11, .aload_n 0, 1, 0, 0), (12, .invokevirtual 412, 3, 251, 0), (15, .bipush 43, 2, 0, 0), (17, .if_icmp .eq 12, 3, 29, 0), (20, .aload_n 0, 1, 0, 0), (21, .invokevirtual 412, 3, 251, 0), (24, .bipush 45, 2, 0, 0), (26, .if_icmp .ne 31, 3, 57, 0), (29, .aload_n 0, 1, 0, 0), (30, .invokevirtual 412, 3, 251, 0), (33, .istore_n 1, 1, 0, 0), (34, .aload_n 0, 1, 0, 0), (35, .dup, 1, 0, 0), (36, .getfield 394, 3, 12, 64), (39, .iconst 1, 1, 0, 0), (40, .iadd, 1, 0, 0), (41, .putfield 394, 3, 12, 64), (44, .aload_n 0, 1, 0, 0), (45, .invokevirtual 430, 3, 257, 0), (48, .aload_n 0, 1, 0, 0), (49, .iload_n 1, 1, 0, 0), (50, .iconst 0, 1, 0, 0), (51, .invokevirtual 418, 3, 253, 0), (54, .goto (-50), 3, 4, 0), (57, .return_, 1, 0, 0)]
def zM258 : aM := (12, ⟨"AcresPaidModel", "sum", "()V"⟩, prog_14_method_65_code, 2, none, 0, 0, zI258)
def zI259 : List aI := [(0, .aload_n 0, 1, 0, 0), (1, .invokevirtual 433, 3, 258, 0), (4, .aload_n 0, 1, 0, 0), (5, .invokevirtual 412, 3, 251, 0), (8, .istore_n 1, 1, 0, 0), (9, .aload_n 0, 1, 0, 0), (10, .getfield 397, 3, 12, 65), (13, .ifCond .ge 21, 3, 34, 0), (16, .iload_n 1, 1, 0, 0), (17, .bipush 60, 2, 0, 0), (19, .if_icmp .eq 16, 3, 35, 0), (22, .iload_n 1, 1, 0, 0), (23, .bipush 61, 2, 0, 0), (25, .if_icmp .eq 10, 3, 35, 0), (28, .iload_n 1, 1, 0, 0), (29, .bipush 62, 2, 0, 0), (31, .if_icmp .eq 4, 3, 35, 0), (34, .return_, 1, 0, 0), (35, .aload_n 0, 1, 0, 0), (36, .dup, 1, 0, 0), (37, .getfield 394, 3, 12, 64), (40, .iconst 1, 1, 0, 0), (41, .iadd, 1, 0, 0), (42, .putfield 394, 3, 12, 64), (45, .aload_n 0, 1, 0, 0), (46, .invokevirtual 433, 3, 258, 0), (49, .aload_n 0, 1, 0, 0), (50, .iload_n 1, 1, 0, 0), (51, .iconst 0, 1, 0, 0), (52, .invokevirtual 418, 3, 253, 0), (55, .return_, 1, 0, 0)]
def zM259 : aM := (12, ⟨"AcresPaidModel", "compared", "()V"⟩, prog_14_method_66_code, 2, none, 0, 0, zI259)
def zI260 : List aI := [(0, .aload_n 0, 1, 0, 0), (1, .invokevirtual 436, 3, 259, 0), (4, .aload_n 0, 1, 0, 0), (5, .getfield 397, 3, 12, 65), (8, .ifCond .ge 36, 3, 44, 0), (11, .aload_n 0, 1, 0, 0), (12, .invokevirtual 412, 3, 251, 0), (15, .bipush 38, 2, 0, 0), (17, .if_icmp .ne 27, 3, 44, 0), (20, .aload_n 0, 1, 0, 0), (21, .dup, 1, 0, 0), (22, .getfield 394, 3, 12, 64), (25, .iconst 1, 1, 0, 0), (26, .iadd, 1, 0, 0), (27, .putfield 394, 3, 12, 64), (30, .aload_n 0, 1, 0, 0), (31, .invokevirtual 436, 3, 259, 0), (34, .aload_n 0, 1, 0, 0), (35, .bipush 38, 2, 0, 0), (37, .iconst 0, 1, 0, 0), (38, .invokevirtual 418, 3, 253, 0), (41, .goto (-37), 3, 4, 0), (44, .return_, 1, 0, 0)]
def zM260 : aM := (12, ⟨"AcresPaidModel", "all", "()V"⟩, prog_14_method_67_code, 1, none, 0, 0, zI260)
def zI261 : List aI := [(0, .aload_n 0, 1, 0, 0), (1, .invokevirtual 439, 3, 260, 0), (4, .aload_n 0, 1, 0, 0), (5, .getfield 397, 3, 12, 65), (8, .ifCond .ge 36, 3, 44, 0), (11, .aload_n 0, 1, 0, 0), (12, .invokevirtual 412, 3, 251, 0), (15, .bipush 124, 2, 0, 0), (17, .if_icmp .ne 27, 3, 44, 0), (20, .aload_n 0, 1, 0, 0), (21, .dup, 1, 0, 0), (22, .getfield 394, 3, 12, 64), (25, .iconst 1, 1, 0, 0), (26, .iadd, 1, 0, 0), (27, .putfield 394, 3, 12, 64), (30, .aload_n 0, 1, 0, 0), (31, .invokevirtual 439, 3, 260, 0), (34, .aload_n 0, 1, 0, 0), (35, .bipush 124, 2, 0, 0), (37, .iconst 0, 1, 0, 0), (38, .invokevirtual 418, 3, 253, 0), (41, .goto (-37), 3, 4, 0), (44, .return_, 1, 0, 0)]
def zM261 : aM := (12, ⟨"AcresPaidModel", "either", "()V"⟩, prog_14_method_68_code, 1, none, 0, 0, zI261)
def zI262 : List aI := [(0, .bipush 90, 2, 0, 0), (2, .aload_n 0, 1, 0, 0), (3, .getfield 400, 3, 12, 67), (6, .imul, 1, 0, 0), (7, .aload_n 0, 1, 0, 0), (8, .getfield 161, 3, 12, 59), (11, .aload_n 0, 1, 0, 0), (12, .getfield 400, 3, 12, 67), (15, .iaload, 1, 0, 0), (16, .iadd, 1, 0, 0), (17, .istore_n 1, 1, 0, 0), (18, .aload_n 0, 1, 0, 0), (19, .getfield 403, 3, 12, 68), (22, .istore_n 2, 1, 0, 0), (23, .aload_n 0, 1, 0, 0), (24, .invokevirtual 427, 3, 261, 0), (27, .aload_n 0, 1, 0, 0), (28, .getfield 164, 3, 12, 60), (31, .iload_n 1, 1, 0, 0), (32, .iload_n 2, 1, 0, 0), (33, .iastore, 1, 0, 0), (34, .aload_n 0, 1, 0, 0), (35, .getfield 397, 3, 12, 65), (38, .ifCond .ge 36, 3, 74, 0), (41, .aload_n 0, 1, 0, 0), (42, .invokevirtual 412, 3, 251, 0), (45, .bipush 63, 2, 0, 0), (47, .if_icmp .ne 27, 3, 74, 0), (50, .aload_n 0, 1, 0, 0), (51, .dup, 1, 0, 0), (52, .getfield 394, 3, 12, 64), (55, .iconst 1, 1, 0, 0), (56, .iadd, 1, 0, 0), (57, .putfield 394, 3, 12, 64), (60, .aload_n 0, 1, 0, 0), (61, .getfield 164, 3, 12, 60), (64, .iload_n 1, 1, 0, 0), (65, .aload_n 0, 1, 0, 0), (66, .getfield 403, 3, 12, 68), (69, .iastore, 1, 0, 0), (70, .aload_n 0, 1, 0, 0), (71, .invokevirtual 427, 3, 261, 0), (74, .aload_n 0, 1, 0, 0), (75, .getfield 167, 3, 12, 61), (78, .iload_n 1, 1, 0, 0), (79, .aload_n 0, 1, 0, 0), (80, .getfield 403, 3, 12, 68), (83, .iastore, 1, 0, 0), (84, .aload_n 0, 1, 0, 0), (85, .getfield 161, 3, 12, 59), (88, .aload_n 0, 1, 0, 0), (89, .getfield 400, 3, 12, 67), (92, .dup2, 1, 0, 0), (93, .iaload, 1, 0, 0), (94, .iconst 1, 1, 0, 0), (95, .iadd, 1, 0, 0), (96, .iastore, 1, 0, 0), (97, .return_, 1, 0, 0)]
def zM262 : aM := (12, ⟨"AcresPaidModel", "readLine", "()V"⟩, prog_14_method_69_code, 3, none, 0, 0, zI262)
def zI263 : List aI := [(0, .iload_n 0, 1, 0, 0), (1, .iconst 0, 1, 0, 0), (2, .bipush 33, 2, 0, 0), (4, .invokestatic 258, 3, 196, 0), (7, .ifCond .eq 15, 3, 22, 0), (10, .iload_n 0, 1, 0, 0), (11, .bipush 10, 2, 0, 0), (13, .irem, 1, 0, 0), (14, .iconst 3, 1, 0, 0), (15, .if_icmp .gt 7, 3, 22, 0), (18, .iconst 1, 1, 0, 0), (19, .goto 4, 3, 23, 0), (22, .iconst 0, 1, 0, 0), (23, .ireturn, 1, 0, 0)]
def zM263 : aM := (12, ⟨"AcresPaidModel", "isWhat", "(I)Z"⟩, prog_14_method_70_code, 1, (Option.some .boolean), 1, 1, zI263)
def zI264 : List aI := [(0, .iload_n 1, 1, 0, 0), (1, .invokestatic 442, 3, 263, 0), (4, .ifCond .eq 10, 3, 14, 0), (7, .iload_n 2, 1, 0, 0), (8, .invokestatic 372, 3, 198, 0), (11, .ifCond .ne 5, 3, 16, 0), (14, .iconst (-1), 1, 0, 0), (15, .ireturn, 1, 0, 0), (16, .aload_n 0, 1, 0, 0), (17, .getfield 445, 3, 12, 55), (20, .bipush 16, 2, 0, 0), (22, .if_icmp .ne 6, 3, 28, 0), (25, .bipush (-3), 2, 0, 0), (27, .ireturn, 1, 0, 0), (28, .aload_n 0, 1, 0, 0), (29, .aload_n 0, 1, 0, 0), (30, .getfield 445, 3, 12, 55), (33, .putfield 400, 3, 12, 67), (36, .aload_n 0, 1, 0, 0), (37, .getfield 161, 3, 12, 59), (40, .aload_n 0, 1, 0, 0), (41, .getfield 400, 3, 12, 67), (44, .iconst 0, 1, 0, 0), (45, .iastore, 1, 0, 0), (46, .aload_n 0, 1, 0, 0), (47, .iconst 0, 1, 0, 0), (48, .putfield 403, 3, 12, 68), (51, .aload_n 0, 1, 0, 0), (52, .iconst 0, 1, 0, 0), (53, .putfield 394, 3, 12, 64), (56, .aload_n 0, 1, 0, 0), (57, .iconst (-1), 1, 0, 0), (58, .putfield 397, 3, 12, 65), (61, .aload_n 0, 1, 0, 0), (62, .iconst 0, 1, 0, 0), (63, .putfield 406, 3, 12, 66), (66, .aload_n 0, 1, 0, 0), (67, .invokevirtual 448, 3, 262, 0), (70, .aload_n 0, 1, 0, 0), (71, .getfield 397, 3, 12, 65), (74, .ifCond .ge 29, 3, 103, 0), (77, .aload_n 0, 1, 0, 0), (78, .invokevirtual 412, 3, 251, 0), (81, .bipush 59, 2, 0, 0), (83, .if_icmp .ne 20, 3, 103, 0), (86, .aload_n 0, 1, 0, 0), (87, .dup, 1, 0, 0), (88, .getfield 394, 3, 12, 64), (91, .iconst 1, 1, 0, 0), (92, .iadd, 1, 0, 0), (93, .putfield 394, 3, 12, 64), (96, .aload_n 0, 1, 0, 0), (97, .invokevirtual 448, 3, 262, 0), (100, .goto (-30), 3, 70, 0), (103, .aload_n 0, 1, 0, 0), (104, .getfield 397, 3, 12, 65), (107, .ifCond .ge 18, 3, 125, 0), (110, .aload_n 0, 1, 0, 0), (111, .getfield 394, 3, 12, 64), (114, .aload_n 0, 1, 0, 0), (115, .getfield 391, 3, 12, 54), (118, .if_icmp .ge 7, 3, 125, 0), (121, .aload_n 0, 1, 0, 0), (122, .invokevirtual 409, 3, 252, 0), (125, .aload_n 0, 1, 0, 0), (126, .iconst 0, 1, 0, 0), (127, .putfield 391, 3, 12, 54), (130, .aload_n 0, 1, 0, 0), (131, .getfield 397, 3, 12, 65), (134, .ifCond .lt 11, 3, 145, 0), (137, .bipush (-100), 2, 0, 0), (139, .aload_n 0, 1, 0, 0), (140, .getfield 397, 3, 12, 65), (143, .isub, 1, 0, 0), (144, .ireturn, 1, 0, 0), (145, .aload_n 0, 1, 0, 0), (146, .getfield 152, 3, 12, 56), (149, .aload_n 0, 1, 0, 0), (150, .getfield 445, 3, 12, 55), (153, .iload_n 1, 1, 0, 0), (154, .iastore, 1, 0, 0), (155, .aload_n 0, 1, 0, 0), (156, .getfield 155, 3, 12, 57), (159, .aload_n 0, 1, 0, 0), (160, .getfield 445, 3, 12, 55), (163, .aload_n 0, 1, 0, 0), (164, .getfield 262, 3, 12, 1), (167, .iastore, 1, 0, 0), (168, .aload_n 0, 1, 0, 0), (169, .getfield 158, 3, 12, 58), (172, .aload_n 0, 1, 0, 0), (173, .getfield 445, 3, 12, 55), (176, .iload_n 2, 1, 0, 0), (177, .iastore, 1, 0, 0), (178, .aload_n 0, 1, 0, 0), (179, .dup, 1, 0, 0), (180, .getfield 445, 3, 12, 55), (183, .iconst 1, 1, 0, 0), (184, .iadd, 1, 0, 0), (185, .putfield 445, 3, 12, 55), (188, .aload_n 0, 1, 0, 0), (189, .getfield 445, 3, 12, 55), (192, .iconst 1, 1, 0, 0), (193, .isub, 1, 0, 0), (194, .ireturn, 1, 0, 0)]
def zM264 : aM := (12, ⟨"AcresPaidModel", "text", "(II)I"⟩, prog_14_method_71_code, 3, (Option.some .int), 2, 0, zI264)
def zI265 : List aI := [(0, .aload_n 0, 1, 0, 0), (1, .getfield 445, 3, 12, 55), (4, .iconst 1, 1, 0, 0), (5, .isub, 1, 0, 0), (6, .istore 4, 2, 0, 0), (8, .iload 4, 2, 0, 0), (10, .ifCond .lt 45, 3, 55, 0), (13, .aload_n 0, 1, 0, 0), (14, .getfield 152, 3, 12, 56), (17, .iload 4, 2, 0, 0), (19, .iaload, 1, 0, 0), (20, .iload_n 1, 1, 0, 0), (21, .if_icmp .ne 28, 3, 49, 0), (24, .aload_n 0, 1, 0, 0), (25, .getfield 155, 3, 12, 57), (28, .iload 4, 2, 0, 0), (30, .iaload, 1, 0, 0), (31, .iload_n 3, 1, 0, 0), (32, .if_icmp .gt 17, 3, 49, 0), (35, .aload_n 0, 1, 0, 0), (36, .getfield 158, 3, 12, 58), (39, .iload 4, 2, 0, 0), (41, .iaload, 1, 0, 0), (42, .iload_n 2, 1, 0, 0), (43, .if_icmp .gt 6, 3, 49, 0), (46, .iload 4, 2, 0, 0), (48, .ireturn, 1, 0, 0), (49, .iinc 4 (-1), 3, 0, 0), (52, .goto (-44), 3, 8, 0), (55, .bipush (-2), 2, 0, 0), (57, .ireturn, 1, 0, 0)]
def zM265 : aM := (12, ⟨"AcresPaidModel", "forceOf", "(III)I"⟩, prog_14_method_72_code, 5, (Option.some .int), 3, 0, zI265)
def zI266 : List aI := [(0, .iload_n 1, 1, 0, 0), (1, .invokestatic 442, 3, 263, 0), (4, .ifCond .eq 27, 3, 31, 0), (7, .iload_n 2, 1, 0, 0), (8, .invokestatic 372, 3, 198, 0), (11, .ifCond .eq 20, 3, 31, 0), (14, .iload_n 3, 1, 0, 0), (15, .invokestatic 325, 3, 197, 0), (18, .ifCond .eq 13, 3, 31, 0), (21, .aload_n 0, 1, 0, 0), (22, .iload_n 1, 1, 0, 0), (23, .iload_n 2, 1, 0, 0), (24, .iload_n 3, 1, 0, 0), (25, .invokevirtual 451, 3, 265, 0), (28, .goto 4, 3, 32, 0), (31, .iconst (-1), 1, 0, 0), (32, .ireturn, 1, 0, 0)]
def zM266 : aM := (12, ⟨"AcresPaidModel", "inForce", "(III)I"⟩, prog_14_method_73_code, 4, (Option.some .int), 3, 0, zI266)
def zI267 : List aI := [(0, .iload_n 0, 1, 0, 0), (1, .tableswitch 217 37 62 #[153, 203, 217, 217, 217, 127, 119, 217, 123, 217, 131, 217, 217, 217, 217, 217, 217, 217, 217, 217, 217, 217, 217, 170, 181, 192], 119, 0, 0), (120, .iload_n 1, 1, 0, 0), (121, .iload_n 2, 1, 0, 0), (122, .iadd, 1, 0, 0), (123, .ireturn, 1, 0, 0), (124, .iload_n 1, 1, 0, 0), (125, .iload_n 2, 1, 0, 0), (126, .isub, 1, 0, 0), (127, .ireturn, 1, 0, 0), (128, .iload_n 1, 1, 0, 0), (129, .iload_n 2, 1, 0, 0), (130, .imul, 1, 0, 0), (131, .ireturn, 1, 0, 0), (132, .iload_n 2, 1, 0, 0), (133, .ifCond .ne 7, 3, 140, 0), (136, .iconst 0, 1, 0, 0), (137, .goto 16, 3, 153, 0), (140, .iload_n 2, 1, 0, 0), (141, .iconst (-1), 1, 0, 0), (142, .if_icmp .ne 8, 3, 150, 0), (145, .iload_n 1, 1, 0, 0), (146, .ineg, 1, 0, 0), (147, .goto 6, 3, 153, 0), (150, .iload_n 1, 1, 0, 0), (151, .iload_n 2, 1, 0, 0), (152, .idiv, 1, 0, 0), (153, .ireturn, 1, 0, 0), (154, .iload_n 2, 1, 0, 0), (155, .ifCond .eq 8, 3, 163, 0), (158, .iload_n 2, 1, 0, 0), (159, .iconst (-1), 1, 0, 0), (160, .if_icmp .ne 7, 3, 167, 0), (163, .iconst 0, 1, 0, 0), (164, .goto 6, 3, 170, 0), (167, .iload_n 1, 1, 0, 0), (168, .iload_n 2, 1, 0, 0), (169, .irem, 1, 0, 0), (170, .ireturn, 1, 0, 0), (171, .iload_n 1, 1, 0, 0), (172, .iload_n 2, 1, 0, 0), (173, .if_icmp .ge 7, 3, 180, 0), (176, .iconst 1, 1, 0, 0), (177, .goto 4, 3, 181, 0), (180, .iconst 0, 1, 0, 0), (181, .ireturn, 1, 0, 0), (182, .iload_n 1, 1, 0, 0), (183, .iload_n 2, 1, 0, 0), (184, .if_icmp .ne 7, 3, 191, 0), (187, .iconst 1, 1, 0, 0), (188, .goto 4, 3, 192, 0), (191, .iconst 0, 1, 0, 0), (192, .ireturn, 1, 0, 0), (193, .iload_n 1, 1, 0, 0), (194, .iload_n 2, 1, 0, 0), (195, .if_icmp .le 7, 3, 202, 0), (198, .iconst 1, 1, 0, 0), (199, .goto 4, 3, 203, 0), (202, .iconst 0, 1, 0, 0), (203, .ireturn, 1, 0, 0), (204, .iload_n 1, 1, 0, 0), (205, .ifCond .eq 11, 3, 216, 0), (208, .iload_n 2, 1, 0, 0), (209, .ifCond .eq 7, 3, 216, 0), (212, .iconst 1, 1, 0, 0), (213, .goto 4, 3, 217, 0), (216, .iconst 0, 1, 0, 0), (217, .ireturn, 1, 0, 0), (218, .iload_n 1, 1, 0, 0), (219, .ifCond .ne 7, 3, 226, 0), (222, .iload_n 2, 1, 0, 0), (223, .ifCond .eq 7, 3, 230, 0), (226, .iconst 1, 1, 0, 0), (227, .goto 4, 3, 231, 0), (230, .iconst 0, 1, 0, 0), (231, .ireturn, 1, 0, 0)]
def zM267 : aM := (12, ⟨"AcresPaidModel", "both", "(III)I"⟩, prog_14_method_74_code, 3, (Option.some .int), 3, 1, zI267)
def zI268 : List aI := [(0, .iconst 0, 1, 0, 0), (1, .istore 4, 2, 0, 0), (3, .sipush 170, 3, 0, 0), (6, .iload_n 1, 1, 0, 0), (7, .imul, 1, 0, 0), (8, .iload_n 2, 1, 0, 0), (9, .iadd, 1, 0, 0), (10, .istore 5, 2, 0, 0), (12, .iload 5, 2, 0, 0), (14, .sipush 170, 3, 0, 0), (17, .iload_n 1, 1, 0, 0), (18, .imul, 1, 0, 0), (19, .iload_n 3, 1, 0, 0), (20, .iadd, 1, 0, 0), (21, .if_icmp .ge 167, 3, 188, 0), (24, .aload_n 0, 1, 0, 0), (25, .getfield 170, 3, 12, 62), (28, .iload 5, 2, 0, 0), (30, .iaload, 1, 0, 0), (31, .istore 6, 2, 0, 0), (33, .iload 6, 2, 0, 0), (35, .iconst 1, 1, 0, 0), (36, .if_icmp .eq 9, 3, 45, 0), (39, .iload 6, 2, 0, 0), (41, .iconst 2, 1, 0, 0), (42, .if_icmp .ne 44, 3, 86, 0), (45, .aload_n 0, 1, 0, 0), (46, .getfield 179, 3, 12, 70), (49, .iload 4, 2, 0, 0), (51, .iload 6, 2, 0, 0), (53, .iconst 1, 1, 0, 0), (54, .if_icmp .ne 13, 3, 67, 0), (57, .aload_n 0, 1, 0, 0), (58, .getfield 173, 3, 12, 63), (61, .iload 5, 2, 0, 0), (63, .iaload, 1, 0, 0), (64, .goto 15, 3, 79, 0), (67, .aload_n 0, 1, 0, 0), (68, .getfield 176, 3, 12, 69), (71, .aload_n 0, 1, 0, 0), (72, .getfield 173, 3, 12, 63), (75, .iload 5, 2, 0, 0), (77, .iaload, 1, 0, 0), (78, .iaload, 1, 0, 0), (79, .iastore, 1, 0, 0), (80, .iinc 4 1, 3, 0, 0), (83, .goto 99, 3, 182, 0), (86, .iload 6, 2, 0, 0), (88, .iconst 3, 1, 0, 0), (89, .if_icmp .ne 32, 3, 121, 0), (92, .aload_n 0, 1, 0, 0), (93, .getfield 179, 3, 12, 70), (96, .iload 4, 2, 0, 0), (98, .iconst 1, 1, 0, 0), (99, .isub, 1, 0, 0), (100, .aload_n 0, 1, 0, 0), (101, .getfield 179, 3, 12, 70), (104, .iload 4, 2, 0, 0), (106, .iconst 1, 1, 0, 0), (107, .isub, 1, 0, 0), (108, .iaload, 1, 0, 0), (109, .ifCond .ne 7, 3, 116, 0), (112, .iconst 1, 1, 0, 0), (113, .goto 4, 3, 117, 0), (116, .iconst 0, 1, 0, 0), (117, .iastore, 1, 0, 0), (118, .goto 64, 3, 182, 0), (121, .iload 6, 2, 0, 0), (123, .iconst 4, 1, 0, 0), (124, .if_icmp .ne 25, 3, 149, 0), (127, .aload_n 0, 1, 0, 0), (128, .getfield 179, 3, 12, 70), (131, .iload 4, 2, 0, 0), (133, .iconst 1, 1, 0, 0), (134, .isub, 1, 0, 0), (135, .aload_n 0, 1, 0, 0), (136, .getfield 179, 3, 12, 70), (139, .iload 4, 2, 0, 0), (141, .iconst 1, 1, 0, 0), (142, .isub, 1, 0, 0), (143, .iaload, 1, 0, 0), (144, .ineg, 1, 0, 0), (145, .iastore, 1, 0, 0), (146, .goto 36, 3, 182, 0), (149, .iinc 4 (-1), 3, 0, 0), (152, .aload_n 0, 1, 0, 0), (153, .getfield 179, 3, 12, 70), (156, .iload 4, 2, 0, 0), (158, .iconst 1, 1, 0, 0), (159, .isub, 1, 0, 0), (160, .iload 6, 2, 0, 0), (162, .aload_n 0, 1, 0, 0), (163, .getfield 179, 3, 12, 70), (166, .iload 4, 2, 0, 0), (168, .iconst 1, 1, 0, 0), (169, .isub, 1, 0, 0), (170, .iaload, 1, 0, 0), (171, .aload_n 0, 1, 0, 0), (172, .getfield 179, 3, 12, 70), (175, .iload 4, 2, 0, 0), (177, .iaload, 1, 0, 0), (178, .invokestatic 454, 3, 267, 0), (181, .iastore, 1, 0, 0), (182, .iinc 5 1, 3, 0, 0), (185, .goto (-173), 3, 12, 0), (188, .aload_n 0, 1, 0, 0), (189, .getfield 179, 3, 12, 70), (192, .iconst 0, 1, 0, 0), (193, .iaload, 1, 0, 0), (194, .ireturn, 1, 0, 0)]
def zM268 : aM := (12, ⟨"AcresPaidModel", "worked", "(III)I"⟩, prog_14_method_75_code, 7, (Option.some .int), 3, 0, zI268)
def zI269 : List aI := [(0, .iconst 0, 1, 0, 0), (1, .istore_n 2, 1, 0, 0), (2, .iconst 0, 1, 0, 0), (3, .istore_n 3, 1, 0, 0), (4, .iload_n 3, 1, 0, 0), (5, .aload_n 0, 1, 0, 0), (6, .getfield 161, 3, 12, 59), (9, .iload_n 1, 1, 0, 0), (10, .iaload, 1, 0, 0), (11, .if_icmp .ge 77, 3, 88, 0), (14, .bipush 90, 2, 0, 0), (16, .iload_n 1, 1, 0, 0), (17, .imul, 1, 0, 0), (18, .iload_n 3, 1, 0, 0), (19, .iadd, 1, 0, 0), (20, .istore 4, 2, 0, 0), (22, .aload_n 0, 1, 0, 0), (23, .getfield 164, 3, 12, 60), (26, .iload 4, 2, 0, 0), (28, .iaload, 1, 0, 0), (29, .iload_n 2, 1, 0, 0), (30, .if_icmp .eq 19, 3, 49, 0), (33, .aload_n 0, 1, 0, 0), (34, .iload_n 1, 1, 0, 0), (35, .iload_n 2, 1, 0, 0), (36, .aload_n 0, 1, 0, 0), (37, .getfield 164, 3, 12, 60), (40, .iload 4, 2, 0, 0), (42, .iaload, 1, 0, 0), (43, .invokevirtual 457, 3, 268, 0), (46, .ifCond .eq 28, 3, 74, 0), (49, .aload_n 0, 1, 0, 0), (50, .iload_n 3, 1, 0, 0), (51, .putfield 460, 3, 12, 71), (54, .aload_n 0, 1, 0, 0), (55, .iload_n 1, 1, 0, 0), (56, .aload_n 0, 1, 0, 0), (57, .getfield 164, 3, 12, 60), (60, .iload 4, 2, 0, 0), (62, .iaload, 1, 0, 0), (63, .aload_n 0, 1, 0, 0), (64, .getfield 167, 3, 12, 61), (67, .iload 4, 2, 0, 0), (69, .iaload, 1, 0, 0), (70, .invokevirtual 457, 3, 268, 0), (73, .ireturn, 1, 0, 0), (74, .aload_n 0, 1, 0, 0), (75, .getfield 167, 3, 12, 61), (78, .iload 4, 2, 0, 0), (80, .iaload, 1, 0, 0), (81, .istore_n 2, 1, 0, 0), (82, .iinc 3 1, 3, 0, 0), (85, .goto (-81), 3, 4, 0), (88, .aload_n 0, 1, 0, 0), (89, .iconst (-1), 1, 0, 0), (90, .putfield 460, 3, 12, 71), (93, .iconst 0, 1, 0, 0), (94, .ireturn, 1, 0, 0)]
def zM269 : aM := (12, ⟨"AcresPaidModel", "gives", "(I)I"⟩, prog_14_method_76_code, 5, (Option.some .int), 1, 0, zI269)
def zI270 : List aI := [(0, .iconst 0, 1, 0, 0), (1, .istore 4, 2, 0, 0), (3, .iconst 0, 1, 0, 0), (4, .istore 5, 2, 0, 0), (6, .iload 5, 2, 0, 0), (8, .aload_n 0, 1, 0, 0), (9, .getfield 336, 3, 12, 19), (12, .if_icmp .ge 66, 3, 78, 0), (15, .aload_n 0, 1, 0, 0), (16, .getfield 108, 3, 12, 40), (19, .iload 5, 2, 0, 0), (21, .baload, 1, 0, 0), (22, .ifCond .eq 50, 3, 72, 0), (25, .aload_n 0, 1, 0, 0), (26, .getfield 52, 3, 12, 20), (29, .iload 5, 2, 0, 0), (31, .iaload, 1, 0, 0), (32, .iload_n 1, 1, 0, 0), (33, .if_icmp .ne 39, 3, 72, 0), (36, .aload_n 0, 1, 0, 0), (37, .iload 5, 2, 0, 0), (39, .invokevirtual 342, 3, 229, 0), (42, .iload_n 2, 1, 0, 0), (43, .if_icmp .ne 29, 3, 72, 0), (46, .iload 4, 2, 0, 0), (48, .iload_n 3, 1, 0, 0), (49, .ifCond .eq 13, 3, 62, 0), (52, .aload_n 0, 1, 0, 0), (53, .getfield 115, 3, 12, 42), (56, .iload 5, 2, 0, 0), (58, .iaload, 1, 0, 0), (59, .goto 10, 3, 69, 0), (62, .aload_n 0, 1, 0, 0), (63, .getfield 112, 3, 12, 41), (66, .iload 5, 2, 0, 0), (68, .iaload, 1, 0, 0), (69, .iadd, 1, 0, 0), (70, .istore 4, 2, 0, 0), (72, .iinc 5 1, 3, 0, 0), (75, .goto (-69), 3, 6, 0), (78, .iload 4, 2, 0, 0), (80, .ireturn, 1, 0, 0)]
def zM270 : aM := (12, ⟨"AcresPaidModel", "sumOf", "(IIZ)I"⟩, prog_14_method_77_code, 6, (Option.some .int), 3, 0, zI270)
def zI271 : List aI := [(0, .aload_n 0, 1, 0, 0), (1, .iload_n 1, 1, 0, 0), (2, .iload_n 2, 1, 0, 0), (3, .iconst 0, 1, 0, 0), (4, .invokevirtual 463, 3, 270, 0), (7, .istore_n 3, 1, 0, 0), (8, .aload_n 0, 1, 0, 0), (9, .iload_n 1, 1, 0, 0), (10, .iload_n 2, 1, 0, 0), (11, .iconst 1, 1, 0, 0), (12, .invokevirtual 463, 3, 270, 0), (15, .istore 4, 2, 0, 0), (17, .iload 4, 2, 0, 0), (19, .ifCond .ne 15, 3, 34, 0), (22, .iload_n 3, 1, 0, 0), (23, .ifCond .ne 7, 3, 30, 0), (26, .iconst 0, 1, 0, 0), (27, .goto 6, 3, 33, 0), (30, .sipush 999, 3, 0, 0), (33, .ireturn, 1, 0, 0), (34, .sipush 999, 3, 0, 0), (37, .bipush 100, 2, 0, 0), (39, .iload_n 3, 1, 0, 0), (40, .iload 4, 2, 0, 0), (42, .isub, 1, 0, 0), (43, .imul, 1, 0, 0), (44, .iload 4, 2, 0, 0), (46, .idiv, 1, 0, 0), (47, .invokestatic 289, 3, 211, 0), (50, .ireturn, 1, 0, 0)]
def zM271 : aM := (12, ⟨"AcresPaidModel", "errorsOf", "(II)I"⟩, prog_14_method_78_code, 5, (Option.some .int), 2, 0, zI271)
def zI272_0 : List aI := [(0, .aload_n 0, 1, 0, 0), (1, .iload_n 3, 1, 0, 0), (2, .invokevirtual 368, 3, 239, 0), (5, .aload_n 0, 1, 0, 0), (6, .iload_n 1, 1, 0, 0), (7, .iload_n 2, 1, 0, 0), (8, .iconst 0, 1, 0, 0), (9, .invokevirtual 463, 3, 270, 0), (12, .istore 4, 2, 0, 0), (14, .iconst 0, 1, 0, 0), (15, .istore 5, 2, 0, 0), (17, .iconst (-1), 1, 0, 0), (18, .istore 6, 2, 0, 0), (20, .iconst 0, 1, 0, 0), (21, .istore 7, 2, 0, 0), (23, .iload 7, 2, 0, 0), (25, .bipush 8, 2, 0, 0), (27, .if_icmp .ge 17, 3, 44, 0), (30, .aload_n 0, 1, 0, 0), (31, .getfield 182, 3, 12, 72), (34, .iload 7, 2, 0, 0), (36, .iconst 0, 1, 0, 0), (37, .iastore, 1, 0, 0), (38, .iinc 7 1, 3, 0, 0), (41, .goto (-18), 3, 23, 0), (44, .iconst 0, 1, 0, 0), (45, .istore 7, 2, 0, 0), (47, .iload 7, 2, 0, 0), (49, .aload_n 0, 1, 0, 0), (50, .getfield 336, 3, 12, 19), (53, .if_icmp .ge 101, 3, 154, 0), (56, .aload_n 0, 1, 0, 0), (57, .getfield 108, 3, 12, 40), (60, .iload 7, 2, 0, 0), (62, .baload, 1, 0, 0), (63, .ifCond .eq 85, 3, 148, 0), (66, .aload_n 0, 1, 0, 0), (67, .getfield 52, 3, 12, 20), (70, .iload 7, 2, 0, 0), (72, .iaload, 1, 0, 0), (73, .iload_n 1, 1, 0, 0), (74, .if_icmp .ne 74, 3, 148, 0), (77, .aload_n 0, 1, 0, 0), (78, .iload 7, 2, 0, 0), (80, .invokevirtual 342, 3, 229, 0), (83, .iload_n 2, 1, 0, 0), (84, .if_icmp .eq 6, 3, 90, 0), (87, .goto 61, 3, 148, 0), (90, .aload_n 0, 1, 0, 0), (91, .getfield 182, 3, 12, 72), (94, .aload_n 0, 1, 0, 0), (95, .getfield 58, 3, 12, 22), (98, .iload 7, 2, 0, 0), (100, .iaload, 1, 0, 0), (101, .dup2, 1, 0, 0), (102, .iaload, 1, 0, 0), (103, .aload_n 0, 1, 0, 0), (104, .getfield 112, 3, 12, 41), (107, .iload 7, 2, 0, 0), (109, .iaload, 1, 0, 0), (110, .iadd, 1, 0, 0), (111, .iastore, 1, 0, 0), (112, .iload 5, 2, 0, 0), (114, .aload_n 0, 1, 0, 0), (115, .getfield 7, 3, 12, 3), (118, .aload_n 0, 1, 0, 0), (119, .getfield 55, 3, 12, 21), (122, .iload 7, 2, 0, 0), (124, .iaload, 1, 0, 0), (125, .iaload, 1, 0, 0), (126, .iconst 5, 1, 0, 0), (127, .if_icmp .ne 13, 3, 140, 0), (130, .aload_n 0, 1, 0, 0), (131, .getfield 112, 3, 12, 41), (134, .iload 7, 2, 0, 0), (136, .iaload, 1, 0, 0), (137, .goto 4, 3, 141, 0), (140, .iconst 0, 1, 0, 0), (141, .iadd, 1, 0, 0), (142, .istore 5, 2, 0, 0), (144, .iload 7, 2, 0, 0), (146, .istore 6, 2, 0, 0), (148, .iinc 7 1, 3, 0, 0), (151, .goto (-104), 3, 47, 0), (154, .iconst 0, 1, 0, 0), (155, .istore 7, 2, 0, 0), (157, .iconst 0, 1, 0, 0), (158, .istore 8, 2, 0, 0), (160, .iconst 0, 1, 0, 0), (161, .istore 9, 2, 0, 0), (163, .iload 9, 2, 0, 0), (165, .bipush 8, 2, 0, 0), (167, .if_icmp .ge 43, 3, 210, 0), (170, .iload 7, 2, 0, 0), (172, .aload_n 0, 1, 0, 0), (173, .getfield 182, 3, 12, 72), (176, .iload 9, 2, 0, 0), (178, .iaload, 1, 0, 0), (179, .ifCond .le 7, 3, 186, 0), (182, .iconst 1, 1, 0, 0)]
def zI272_1 : List aI := [(183, .goto 4, 3, 187, 0), (186, .iconst 0, 1, 0, 0), (187, .iadd, 1, 0, 0), (188, .istore 7, 2, 0, 0), (190, .iload 8, 2, 0, 0), (192, .aload_n 0, 1, 0, 0), (193, .getfield 182, 3, 12, 72), (196, .iload 9, 2, 0, 0), (198, .iaload, 1, 0, 0), (199, .invokestatic 293, 3, 212, 0), (202, .istore 8, 2, 0, 0), (204, .iinc 9 1, 3, 0, 0), (207, .goto (-44), 3, 163, 0), (210, .iconst 0, 1, 0, 0), (211, .istore 9, 2, 0, 0), (213, .iconst 0, 1, 0, 0), (214, .istore 10, 2, 0, 0), (216, .iload 10, 2, 0, 0), (218, .iload_n 2, 1, 0, 0), (219, .if_icmp .ge 38, 3, 257, 0), (222, .iload 9, 2, 0, 0), (224, .aload_n 0, 1, 0, 0), (225, .iload_n 1, 1, 0, 0), (226, .iload 10, 2, 0, 0), (228, .iconst 0, 1, 0, 0), (229, .invokevirtual 463, 3, 270, 0), (232, .aload_n 0, 1, 0, 0), (233, .iload_n 1, 1, 0, 0), (234, .iload 10, 2, 0, 0), (236, .iconst 1, 1, 0, 0), (237, .invokevirtual 463, 3, 270, 0), (240, .if_icmp .le 7, 3, 247, 0), (243, .iconst 1, 1, 0, 0), (244, .goto 4, 3, 248, 0), (247, .iconst 0, 1, 0, 0), (248, .iadd, 1, 0, 0), (249, .istore 9, 2, 0, 0), (251, .iinc 10 1, 3, 0, 0), (254, .goto (-38), 3, 216, 0), (257, .iconst 0, 1, 0, 0), (258, .istore 10, 2, 0, 0), (260, .iconst 0, 1, 0, 0), (261, .istore 11, 2, 0, 0), (263, .iload 11, 2, 0, 0), (265, .aload_n 0, 1, 0, 0), (266, .getfield 265, 3, 12, 2), (269, .if_icmp .ge 53, 3, 322, 0), (272, .iload 10, 2, 0, 0), (274, .aload_n 0, 1, 0, 0), (275, .getfield 7, 3, 12, 3), (278, .iload 11, 2, 0, 0), (280, .iaload, 1, 0, 0), (281, .bipush 6, 2, 0, 0), (283, .if_icmp .ne 29, 3, 312, 0), (286, .aload_n 0, 1, 0, 0), (287, .iload 11, 2, 0, 0), (289, .sipush 365, 3, 0, 0), (292, .iload_n 2, 1, 0, 0), (293, .imul, 1, 0, 0), (294, .sipush 365, 3, 0, 0), (297, .iadd, 1, 0, 0), (298, .iconst 1, 1, 0, 0), (299, .isub, 1, 0, 0), (300, .iload_n 3, 1, 0, 0), (301, .invokevirtual 331, 3, 226, 0), (304, .iload_n 1, 1, 0, 0), (305, .if_icmp .ne 7, 3, 312, 0), (308, .iconst 1, 1, 0, 0), (309, .goto 4, 3, 313, 0), (312, .iconst 0, 1, 0, 0), (313, .iadd, 1, 0, 0), (314, .istore 10, 2, 0, 0), (316, .iinc 11 1, 3, 0, 0), (319, .goto (-56), 3, 263, 0), (322, .aload_n 0, 1, 0, 0), (323, .getfield 176, 3, 12, 69), (326, .iconst 0, 1, 0, 0), (327, .iload_n 2, 1, 0, 0), (328, .iastore, 1, 0, 0), (329, .aload_n 0, 1, 0, 0), (330, .getfield 176, 3, 12, 69), (333, .iconst 1, 1, 0, 0), (334, .aload_n 0, 1, 0, 0), (335, .getfield 7, 3, 12, 3), (338, .iload_n 1, 1, 0, 0), (339, .iaload, 1, 0, 0), (340, .iastore, 1, 0, 0), (341, .aload_n 0, 1, 0, 0), (342, .getfield 176, 3, 12, 69), (345, .iconst 2, 1, 0, 0), (346, .iload 4, 2, 0, 0), (348, .iastore, 1, 0, 0), (349, .aload_n 0, 1, 0, 0), (350, .getfield 176, 3, 12, 69), (353, .iconst 3, 1, 0, 0), (354, .aload_n 0, 1, 0, 0), (355, .iload_n 1, 1, 0, 0), (356, .iload_n 2, 1, 0, 0), (357, .iconst 1, 1, 0, 0), (358, .invokevirtual 463, 3, 270, 0)]
def zI272_2 : List aI := [(361, .iastore, 1, 0, 0), (362, .aload_n 0, 1, 0, 0), (363, .getfield 176, 3, 12, 69), (366, .iconst 4, 1, 0, 0), (367, .iload 4, 2, 0, 0), (369, .ifCond .ne 7, 3, 376, 0), (372, .iconst 0, 1, 0, 0), (373, .goto 11, 3, 384, 0), (376, .bipush 100, 2, 0, 0), (378, .iload 5, 2, 0, 0), (380, .imul, 1, 0, 0), (381, .iload 4, 2, 0, 0), (383, .idiv, 1, 0, 0), (384, .iastore, 1, 0, 0), (385, .aload_n 0, 1, 0, 0), (386, .getfield 176, 3, 12, 69), (389, .iconst 5, 1, 0, 0), (390, .iload 7, 2, 0, 0), (392, .iastore, 1, 0, 0), (393, .aload_n 0, 1, 0, 0), (394, .getfield 176, 3, 12, 69), (397, .bipush 6, 2, 0, 0), (399, .iload 4, 2, 0, 0), (401, .ifCond .ne 7, 3, 408, 0), (404, .iconst 0, 1, 0, 0), (405, .goto 11, 3, 416, 0), (408, .bipush 100, 2, 0, 0), (410, .iload 8, 2, 0, 0), (412, .imul, 1, 0, 0), (413, .iload 4, 2, 0, 0), (415, .idiv, 1, 0, 0), (416, .iastore, 1, 0, 0), (417, .aload_n 0, 1, 0, 0), (418, .getfield 176, 3, 12, 69), (421, .bipush 7, 2, 0, 0), (423, .iload 6, 2, 0, 0), (425, .ifCond .ge 7, 3, 432, 0), (428, .iconst 0, 1, 0, 0), (429, .goto 9, 3, 438, 0), (432, .aload_n 0, 1, 0, 0), (433, .iload 6, 2, 0, 0), (435, .invokevirtual 379, 3, 240, 0), (438, .iastore, 1, 0, 0), (439, .aload_n 0, 1, 0, 0), (440, .getfield 176, 3, 12, 69), (443, .bipush 8, 2, 0, 0), (445, .aload_n 0, 1, 0, 0), (446, .iload_n 1, 1, 0, 0), (447, .iload_n 2, 1, 0, 0), (448, .invokevirtual 467, 3, 271, 0), (451, .iastore, 1, 0, 0), (452, .aload_n 0, 1, 0, 0), (453, .getfield 176, 3, 12, 69), (456, .bipush 9, 2, 0, 0), (458, .iload 10, 2, 0, 0), (460, .iastore, 1, 0, 0), (461, .aload_n 0, 1, 0, 0), (462, .getfield 176, 3, 12, 69), (465, .bipush 10, 2, 0, 0), (467, .iconst 0, 1, 0, 0), (468, .iastore, 1, 0, 0), (469, .aload_n 0, 1, 0, 0), (470, .getfield 176, 3, 12, 69), (473, .bipush 11, 2, 0, 0), (475, .aload_n 0, 1, 0, 0), (476, .iload_n 1, 1, 0, 0), (477, .iload_n 2, 1, 0, 0), (478, .iload_n 3, 1, 0, 0), (479, .invokevirtual 470, 3, 273, 0), (482, .ifCond .eq 7, 3, 489, 0), (485, .iconst 1, 1, 0, 0), (486, .goto 4, 3, 490, 0), (489, .iconst 0, 1, 0, 0), (490, .iastore, 1, 0, 0), (491, .aload_n 0, 1, 0, 0), (492, .getfield 176, 3, 12, 69), (495, .bipush 12, 2, 0, 0), (497, .iload 9, 2, 0, 0), (499, .iastore, 1, 0, 0), (500, .return_, 1, 0, 0)]
def zI272 : List aI := zI272_0 ++ (zI272_1 ++ (zI272_2))
def zM272 : aM := (12, ⟨"AcresPaidModel", "findFacts", "(III)V"⟩, prog_14_method_79_code, 12, none, 3, 0, zI272)
def zI273 : List aI := [(0, .aload_n 0, 1, 0, 0), (1, .getfield 133, 3, 12, 48), (4, .bipush 10, 2, 0, 0), (6, .iload_n 1, 1, 0, 0), (7, .imul, 1, 0, 0), (8, .iload_n 2, 1, 0, 0), (9, .iadd, 1, 0, 0), (10, .iaload, 1, 0, 0), (11, .ifCond .le 24, 3, 35, 0), (14, .aload_n 0, 1, 0, 0), (15, .getfield 133, 3, 12, 48), (18, .bipush 10, 2, 0, 0), (20, .iload_n 1, 1, 0, 0), (21, .imul, 1, 0, 0), (22, .iload_n 2, 1, 0, 0), (23, .iadd, 1, 0, 0), (24, .iaload, 1, 0, 0), (25, .iconst 1, 1, 0, 0), (26, .isub, 1, 0, 0), (27, .iload_n 3, 1, 0, 0), (28, .if_icmp .gt 7, 3, 35, 0), (31, .iconst 1, 1, 0, 0), (32, .goto 4, 3, 36, 0), (35, .iconst 0, 1, 0, 0), (36, .ireturn, 1, 0, 0)]
def zM273 : aM := (12, ⟨"AcresPaidModel", "isProved", "(III)Z"⟩, prog_14_method_80_code, 4, (Option.some .boolean), 3, 0, zI273)
def zI274 : List aI := [(0, .aload_n 0, 1, 0, 0), (1, .iload_n 1, 1, 0, 0), (2, .invokevirtual 316, 3, 202, 0), (5, .ifCond .eq 28, 3, 33, 0), (8, .iload_n 2, 1, 0, 0), (9, .invokestatic 372, 3, 198, 0), (12, .ifCond .eq 21, 3, 33, 0), (15, .iload_n 3, 1, 0, 0), (16, .invokestatic 325, 3, 197, 0), (19, .ifCond .eq 14, 3, 33, 0), (22, .iload 4, 2, 0, 0), (24, .iconst 0, 1, 0, 0), (25, .bipush 12, 2, 0, 0), (27, .invokestatic 258, 3, 196, 0), (30, .ifCond .ne 5, 3, 35, 0), (33, .iconst (-1), 1, 0, 0), (34, .ireturn, 1, 0, 0), (35, .aload_n 0, 1, 0, 0), (36, .iload_n 1, 1, 0, 0), (37, .iload_n 2, 1, 0, 0), (38, .iload_n 3, 1, 0, 0), (39, .invokevirtual 473, 3, 272, 0), (42, .aload_n 0, 1, 0, 0), (43, .getfield 176, 3, 12, 69), (46, .iload 4, 2, 0, 0), (48, .iaload, 1, 0, 0), (49, .ireturn, 1, 0, 0)]
def zM274 : aM := (12, ⟨"AcresPaidModel", "named", "(IIII)I"⟩, prog_14_method_81_code, 5, (Option.some .int), 4, 0, zI274)
def zI275 : List aI := [(0, .iconst 0, 1, 0, 0), (1, .istore 5, 2, 0, 0), (3, .iload 5, 2, 0, 0), (5, .aload_n 0, 1, 0, 0), (6, .getfield 265, 3, 12, 2), (9, .if_icmp .ge 55, 3, 64, 0), (12, .aload_n 0, 1, 0, 0), (13, .getfield 185, 3, 12, 73), (16, .iload 5, 2, 0, 0), (18, .aload_n 0, 1, 0, 0), (19, .getfield 7, 3, 12, 3), (22, .iload 5, 2, 0, 0), (24, .iaload, 1, 0, 0), (25, .bipush 6, 2, 0, 0), (27, .if_icmp .ne 25, 3, 52, 0), (30, .aload_n 0, 1, 0, 0), (31, .iload 5, 2, 0, 0), (33, .sipush 365, 3, 0, 0), (36, .iload_n 2, 1, 0, 0), (37, .imul, 1, 0, 0), (38, .sipush 365, 3, 0, 0), (41, .iadd, 1, 0, 0), (42, .iconst 1, 1, 0, 0), (43, .isub, 1, 0, 0), (44, .iload_n 3, 1, 0, 0), (45, .invokevirtual 331, 3, 226, 0), (48, .iload_n 1, 1, 0, 0), (49, .if_icmp .eq 7, 3, 56, 0), (52, .iconst 1, 1, 0, 0), (53, .goto 4, 3, 57, 0), (56, .iconst 0, 1, 0, 0), (57, .bastore, 1, 0, 0), (58, .iinc 5 1, 3, 0, 0), (61, .goto (-58), 3, 3, 0), (64, .lconst 0, 1, 0, 0), (65, .lstore 5, 2, 0, 0), (67, .iload 4, 2, 0, 0), (69, .istore 7, 2, 0, 0), (71, .iload 7, 2, 0, 0), (73, .ifCond .le 96, 3, 169, 0), (76, .iconst (-1), 1, 0, 0), (77, .istore 8, 2, 0, 0), (79, .iconst 0, 1, 0, 0), (80, .istore 9, 2, 0, 0), (82, .iload 9, 2, 0, 0), (84, .aload_n 0, 1, 0, 0), (85, .getfield 265, 3, 12, 2), (88, .if_icmp .ge 45, 3, 133, 0), (91, .aload_n 0, 1, 0, 0), (92, .getfield 185, 3, 12, 73), (95, .iload 9, 2, 0, 0), (97, .baload, 1, 0, 0), (98, .ifCond .ne 29, 3, 127, 0), (101, .iload 8, 2, 0, 0), (103, .ifCond .lt 20, 3, 123, 0), (106, .aload_n 0, 1, 0, 0), (107, .getfield 28, 3, 12, 9), (110, .iload 9, 2, 0, 0), (112, .iaload, 1, 0, 0), (113, .aload_n 0, 1, 0, 0), (114, .getfield 28, 3, 12, 9), (117, .iload 8, 2, 0, 0), (119, .iaload, 1, 0, 0), (120, .if_icmp .le 7, 3, 127, 0), (123, .iload 9, 2, 0, 0), (125, .istore 8, 2, 0, 0), (127, .iinc 9 1, 3, 0, 0), (130, .goto (-48), 3, 82, 0), (133, .aload_n 0, 1, 0, 0), (134, .getfield 185, 3, 12, 73), (137, .iload 8, 2, 0, 0), (139, .iconst 1, 1, 0, 0), (140, .bastore, 1, 0, 0), (141, .lload 5, 2, 0, 0), (143, .aload_n 0, 1, 0, 0), (144, .getfield 28, 3, 12, 9), (147, .iload 8, 2, 0, 0), (149, .iaload, 1, 0, 0), (150, .i2l, 1, 0, 0), (151, .bipush 10, 2, 0, 0), (153, .iload 7, 2, 0, 0), (155, .invokestatic 289, 3, 211, 0), (158, .i2l, 1, 0, 0), (159, .lmul, 1, 0, 0), (160, .ladd, 1, 0, 0), (161, .lstore 5, 2, 0, 0), (163, .iinc 7 (-10), 3, 0, 0), (166, .goto (-95), 3, 71, 0), (169, .lload 5, 2, 0, 0), (171, .lreturn, 1, 0, 0)]
def zM275 : aM := (12, ⟨"AcresPaidModel", "valuesOf", "(IIII)J"⟩, prog_14_method_82_code, 10, (Option.some .long), 4, 0, zI275)
def zI276 : List aI := [(0, .lload_n 0, 1, 0, 0), (1, .lconst 0, 1, 0, 0), (2, .lcmp, 1, 0, 0), (3, .ifCond .ge 7, 3, 10, 0), (6, .iconst 0, 1, 0, 0), (7, .goto 19, 3, 26, 0), (10, .lload_n 0, 1, 0, 0), (11, .ldc2_w 477, 3, 2000000000, 0), (14, .lcmp, 1, 0, 0), (15, .ifCond .le 9, 3, 24, 0), (18, .ldc_w 479, 3, 2000000000, 0), (21, .goto 5, 3, 26, 0), (24, .lload_n 0, 1, 0, 0), (25, .l2i, 1, 0, 0), (26, .ireturn, 1, 0, 0)]
def zM276 : aM := (12, ⟨"AcresPaidModel", "held", "(J)I"⟩, prog_14_method_83_code, 2, (Option.some .int), 1, 1, zI276)
def zI277_0 : List aI := [(0, .aload_n 0, 1, 0, 0), (1, .iload_n 1, 1, 0, 0), (2, .iload_n 2, 1, 0, 0), (3, .iload_n 3, 1, 0, 0), (4, .invokevirtual 473, 3, 272, 0), (7, .bipush 10, 2, 0, 0), (9, .aload_n 0, 1, 0, 0), (10, .getfield 13, 3, 12, 4), (13, .iload_n 1, 1, 0, 0), (14, .iaload, 1, 0, 0), (15, .imul, 1, 0, 0), (16, .istore 5, 2, 0, 0), (18, .aload_n 0, 1, 0, 0), (19, .getfield 176, 3, 12, 69), (22, .iconst 3, 1, 0, 0), (23, .iaload, 1, 0, 0), (24, .bipush 10, 2, 0, 0), (26, .aload_n 0, 1, 0, 0), (27, .getfield 176, 3, 12, 69), (30, .bipush 9, 2, 0, 0), (32, .iaload, 1, 0, 0), (33, .imul, 1, 0, 0), (34, .invokestatic 289, 3, 211, 0), (37, .istore 6, 2, 0, 0), (39, .iload 4, 2, 0, 0), (41, .ifCond .lt 8, 3, 49, 0), (44, .iload 4, 2, 0, 0), (46, .goto 11, 3, 57, 0), (49, .aload_n 0, 1, 0, 0), (50, .iload 5, 2, 0, 0), (52, .iload_n 2, 1, 0, 0), (53, .iload_n 3, 1, 0, 0), (54, .invokevirtual 451, 3, 265, 0), (57, .istore 7, 2, 0, 0), (59, .iload 7, 2, 0, 0), (61, .ifCond .ge 7, 3, 68, 0), (64, .lconst 1, 1, 0, 0), (65, .goto 10, 3, 75, 0), (68, .aload_n 0, 1, 0, 0), (69, .iload 7, 2, 0, 0), (71, .invokevirtual 480, 3, 269, 0), (74, .i2l, 1, 0, 0), (75, .lstore 8, 2, 0, 0), (77, .lload 8, 2, 0, 0), (79, .iload 6, 2, 0, 0), (81, .i2l, 1, 0, 0), (82, .lmul, 1, 0, 0), (83, .aload_n 0, 1, 0, 0), (84, .iload_n 1, 1, 0, 0), (85, .iload_n 2, 1, 0, 0), (86, .iload_n 3, 1, 0, 0), (87, .iload 6, 2, 0, 0), (89, .invokevirtual 483, 3, 275, 0), (92, .ladd, 1, 0, 0), (93, .invokestatic 487, 3, 276, 0), (96, .istore 10, 2, 0, 0), (98, .aload_n 0, 1, 0, 0), (99, .getfield 188, 3, 12, 74), (102, .iconst 1, 1, 0, 0), (103, .iload 10, 2, 0, 0), (105, .iastore, 1, 0, 0), (106, .aload_n 0, 1, 0, 0), (107, .iload 5, 2, 0, 0), (109, .iconst 1, 1, 0, 0), (110, .iadd, 1, 0, 0), (111, .iload_n 2, 1, 0, 0), (112, .iload_n 3, 1, 0, 0), (113, .invokevirtual 451, 3, 265, 0), (116, .istore 7, 2, 0, 0), (118, .iload 7, 2, 0, 0), (120, .ifCond .lt 12, 3, 132, 0), (123, .aload_n 0, 1, 0, 0), (124, .iload 7, 2, 0, 0), (126, .invokevirtual 480, 3, 269, 0), (129, .ifCond .eq 23, 3, 152, 0), (132, .iload 10, 2, 0, 0), (134, .i2l, 1, 0, 0), (135, .ldc2_w 491, 3, 3, 0), (138, .iload 10, 2, 0, 0), (140, .i2l, 1, 0, 0), (141, .lmul, 1, 0, 0), (142, .ldc2_w 493, 3, 10, 0), (145, .ldiv, 1, 0, 0), (146, .ladd, 1, 0, 0), (147, .invokestatic 487, 3, 276, 0), (150, .istore 10, 2, 0, 0), (152, .aload_n 0, 1, 0, 0), (153, .getfield 188, 3, 12, 74), (156, .iconst 2, 1, 0, 0), (157, .iload 10, 2, 0, 0), (159, .iastore, 1, 0, 0), (160, .aload_n 0, 1, 0, 0), (161, .iload 5, 2, 0, 0), (163, .iconst 2, 1, 0, 0), (164, .iadd, 1, 0, 0), (165, .iload_n 2, 1, 0, 0), (166, .iload_n 3, 1, 0, 0), (167, .invokevirtual 451, 3, 265, 0), (170, .istore 7, 2, 0, 0), (172, .aload_n 0, 1, 0, 0)]
def zI277_1 : List aI := [(173, .getfield 176, 3, 12, 69), (176, .bipush 10, 2, 0, 0), (178, .iload 10, 2, 0, 0), (180, .iastore, 1, 0, 0), (181, .iload 7, 2, 0, 0), (183, .ifCond .lt 29, 3, 212, 0), (186, .aload_n 0, 1, 0, 0), (187, .iload 7, 2, 0, 0), (189, .invokevirtual 480, 3, 269, 0), (192, .istore 11, 2, 0, 0), (194, .iload 11, 2, 0, 0), (196, .ifCond .ge 7, 3, 203, 0), (199, .iconst 0, 1, 0, 0), (200, .goto 10, 3, 210, 0), (203, .iload 11, 2, 0, 0), (205, .iload 10, 2, 0, 0), (207, .invokestatic 289, 3, 211, 0), (210, .istore 10, 2, 0, 0), (212, .aload_n 0, 1, 0, 0), (213, .getfield 176, 3, 12, 69), (216, .bipush 10, 2, 0, 0), (218, .iconst 0, 1, 0, 0), (219, .iastore, 1, 0, 0), (220, .aload_n 0, 1, 0, 0), (221, .getfield 188, 3, 12, 74), (224, .iconst 3, 1, 0, 0), (225, .iload 10, 2, 0, 0), (227, .iastore, 1, 0, 0), (228, .aload_n 0, 1, 0, 0), (229, .iload 5, 2, 0, 0), (231, .iconst 3, 1, 0, 0), (232, .iadd, 1, 0, 0), (233, .iload_n 2, 1, 0, 0), (234, .iload_n 3, 1, 0, 0), (235, .invokevirtual 451, 3, 265, 0), (238, .istore 7, 2, 0, 0), (240, .iconst 0, 1, 0, 0), (241, .istore 11, 2, 0, 0), (243, .aload_n 0, 1, 0, 0), (244, .iconst (-1), 1, 0, 0), (245, .putfield 495, 3, 12, 75), (248, .iload 7, 2, 0, 0), (250, .ifCond .lt 37, 3, 287, 0), (253, .aload_n 0, 1, 0, 0), (254, .iload 7, 2, 0, 0), (256, .invokevirtual 480, 3, 269, 0), (259, .istore 12, 2, 0, 0), (261, .aload_n 0, 1, 0, 0), (262, .aload_n 0, 1, 0, 0), (263, .getfield 460, 3, 12, 71), (266, .putfield 495, 3, 12, 75), (269, .iload 12, 2, 0, 0), (271, .ifCond .ge 7, 3, 278, 0), (274, .iconst 0, 1, 0, 0), (275, .goto 10, 3, 285, 0), (278, .iload 12, 2, 0, 0), (280, .bipush 100, 2, 0, 0), (282, .invokestatic 289, 3, 211, 0), (285, .istore 11, 2, 0, 0), (287, .aload_n 0, 1, 0, 0), (288, .getfield 176, 3, 12, 69), (291, .bipush 11, 2, 0, 0), (293, .iaload, 1, 0, 0), (294, .ifCond .ne 24, 3, 318, 0), (297, .iload 10, 2, 0, 0), (299, .iload 10, 2, 0, 0), (301, .i2l, 1, 0, 0), (302, .iload 11, 2, 0, 0), (304, .i2l, 1, 0, 0), (305, .lmul, 1, 0, 0), (306, .ldc2_w 498, 3, 99, 0), (309, .ladd, 1, 0, 0), (310, .ldc2_w 500, 3, 100, 0), (313, .ldiv, 1, 0, 0), (314, .l2i, 1, 0, 0), (315, .isub, 1, 0, 0), (316, .istore 10, 2, 0, 0), (318, .aload_n 0, 1, 0, 0), (319, .getfield 188, 3, 12, 74), (322, .iconst 4, 1, 0, 0), (323, .iload 10, 2, 0, 0), (325, .iastore, 1, 0, 0), (326, .iload 10, 2, 0, 0), (328, .iload 10, 2, 0, 0), (330, .i2l, 1, 0, 0), (331, .bipush 100, 2, 0, 0), (333, .aload_n 0, 1, 0, 0), (334, .getfield 176, 3, 12, 69), (337, .bipush 7, 2, 0, 0), (339, .iaload, 1, 0, 0), (340, .invokestatic 289, 3, 211, 0), (343, .i2l, 1, 0, 0), (344, .lmul, 1, 0, 0), (345, .ldc2_w 500, 3, 100, 0), (348, .ldiv, 1, 0, 0), (349, .l2i, 1, 0, 0), (350, .isub, 1, 0, 0), (351, .istore 10, 2, 0, 0), (353, .aload_n 0, 1, 0, 0), (354, .getfield 188, 3, 12, 74)]
def zI277_2 : List aI := [(357, .iconst 5, 1, 0, 0), (358, .iload 10, 2, 0, 0), (360, .iastore, 1, 0, 0), (361, .aload_n 0, 1, 0, 0), (362, .getfield 188, 3, 12, 74), (365, .iconst 0, 1, 0, 0), (366, .iload 10, 2, 0, 0), (368, .iastore, 1, 0, 0), (369, .iload 10, 2, 0, 0), (371, .ireturn, 1, 0, 0)]
def zI277 : List aI := zI277_0 ++ (zI277_1 ++ (zI277_2))
def zM277 : aM := (12, ⟨"AcresPaidModel", "payBy", "(IIII)I"⟩, prog_14_method_84_code, 13, (Option.some .int), 4, 0, zI277)
def zI278 : List aI := [(0, .aload_n 0, 1, 0, 0), (1, .iload_n 1, 1, 0, 0), (2, .invokevirtual 316, 3, 202, 0), (5, .ifCond .eq 28, 3, 33, 0), (8, .iload_n 2, 1, 0, 0), (9, .invokestatic 372, 3, 198, 0), (12, .ifCond .eq 21, 3, 33, 0), (15, .iload_n 3, 1, 0, 0), (16, .invokestatic 325, 3, 197, 0), (19, .ifCond .eq 14, 3, 33, 0), (22, .iload 4, 2, 0, 0), (24, .iconst 0, 1, 0, 0), (25, .bipush 6, 2, 0, 0), (27, .invokestatic 258, 3, 196, 0), (30, .ifCond .ne 7, 3, 37, 0), (33, .ldc_w 335, 3, 2294967296, 0), (36, .ireturn, 1, 0, 0), (37, .aload_n 0, 1, 0, 0), (38, .iload_n 1, 1, 0, 0), (39, .iload_n 2, 1, 0, 0), (40, .iload_n 3, 1, 0, 0), (41, .iconst (-1), 1, 0, 0), (42, .invokevirtual 502, 3, 277, 0), (45, .pop, 1, 0, 0), (46, .iload 4, 2, 0, 0), (48, .bipush 6, 2, 0, 0), (50, .if_icmp .ne 10, 3, 60, 0), (53, .aload_n 0, 1, 0, 0), (54, .getfield 495, 3, 12, 75), (57, .goto 10, 3, 67, 0), (60, .aload_n 0, 1, 0, 0), (61, .getfield 188, 3, 12, 74), (64, .iload 4, 2, 0, 0), (66, .iaload, 1, 0, 0), (67, .ireturn, 1, 0, 0)]
def zM278 : aM := (12, ⟨"AcresPaidModel", "paid", "(IIII)I"⟩, prog_14_method_85_code, 5, (Option.some .int), 4, 0, zI278)
def zI279 : List aI := [(0, .aload_n 0, 1, 0, 0), (1, .iload_n 1, 1, 0, 0), (2, .invokevirtual 316, 3, 202, 0), (5, .ifCond .eq 19, 3, 24, 0), (8, .iload_n 2, 1, 0, 0), (9, .iconst 0, 1, 0, 0), (10, .aload_n 0, 1, 0, 0), (11, .getfield 262, 3, 12, 1), (14, .sipush 365, 3, 0, 0), (17, .idiv, 1, 0, 0), (18, .invokestatic 258, 3, 196, 0), (21, .ifCond .ne 5, 3, 26, 0), (24, .iconst (-1), 1, 0, 0), (25, .ireturn, 1, 0, 0), (26, .aload_n 0, 1, 0, 0), (27, .getfield 191, 3, 12, 76), (30, .bipush 10, 2, 0, 0), (32, .iload_n 1, 1, 0, 0), (33, .imul, 1, 0, 0), (34, .iload_n 2, 1, 0, 0), (35, .iadd, 1, 0, 0), (36, .aload_n 0, 1, 0, 0), (37, .iload_n 1, 1, 0, 0), (38, .iload_n 2, 1, 0, 0), (39, .aload_n 0, 1, 0, 0), (40, .getfield 262, 3, 12, 1), (43, .iconst (-1), 1, 0, 0), (44, .invokevirtual 502, 3, 277, 0), (47, .iastore, 1, 0, 0), (48, .aload_n 0, 1, 0, 0), (49, .getfield 191, 3, 12, 76), (52, .bipush 10, 2, 0, 0), (54, .iload_n 1, 1, 0, 0), (55, .imul, 1, 0, 0), (56, .iload_n 2, 1, 0, 0), (57, .iadd, 1, 0, 0), (58, .iaload, 1, 0, 0), (59, .ireturn, 1, 0, 0)]
def zM279 : aM := (12, ⟨"AcresPaidModel", "settle", "(II)I"⟩, prog_14_method_86_code, 3, (Option.some .int), 2, 0, zI279)
def zI280 : List aI := [(0, .aload_n 0, 1, 0, 0), (1, .iload_n 1, 1, 0, 0), (2, .invokevirtual 316, 3, 202, 0), (5, .ifCond .ne 7, 3, 12, 0), (8, .ldc_w 335, 3, 2294967296, 0), (11, .ireturn, 1, 0, 0), (12, .lconst 0, 1, 0, 0), (13, .lstore_n 2, 1, 0, 0), (14, .iconst 0, 1, 0, 0), (15, .istore 4, 2, 0, 0), (17, .iload 4, 2, 0, 0), (19, .aload_n 0, 1, 0, 0), (20, .getfield 262, 3, 12, 1), (23, .sipush 365, 3, 0, 0), (26, .idiv, 1, 0, 0), (27, .if_icmp .ge 39, 3, 66, 0), (30, .lload_n 2, 1, 0, 0), (31, .aload_n 0, 1, 0, 0), (32, .iload_n 1, 1, 0, 0), (33, .iload 4, 2, 0, 0), (35, .aload_n 0, 1, 0, 0), (36, .getfield 262, 3, 12, 1), (39, .iconst (-1), 1, 0, 0), (40, .invokevirtual 502, 3, 277, 0), (43, .i2l, 1, 0, 0), (44, .aload_n 0, 1, 0, 0), (45, .getfield 191, 3, 12, 76), (48, .bipush 10, 2, 0, 0), (50, .iload_n 1, 1, 0, 0), (51, .imul, 1, 0, 0), (52, .iload 4, 2, 0, 0), (54, .iadd, 1, 0, 0), (55, .iaload, 1, 0, 0), (56, .i2l, 1, 0, 0), (57, .lsub, 1, 0, 0), (58, .ladd, 1, 0, 0), (59, .lstore_n 2, 1, 0, 0), (60, .iinc 4 1, 3, 0, 0), (63, .goto (-46), 3, 17, 0), (66, .lload_n 2, 1, 0, 0), (67, .ldc2_w 505, 3, 18446744071709551617, 0), (70, .lcmp, 1, 0, 0), (71, .ifCond .ge 9, 3, 80, 0), (74, .ldc_w 507, 3, 2294967297, 0), (77, .goto 19, 3, 96, 0), (80, .lload_n 2, 1, 0, 0), (81, .ldc2_w 477, 3, 2000000000, 0), (84, .lcmp, 1, 0, 0), (85, .ifCond .le 9, 3, 94, 0), (88, .ldc_w 479, 3, 2000000000, 0), (91, .goto 5, 3, 96, 0), (94, .lload_n 2, 1, 0, 0), (95, .l2i, 1, 0, 0), (96, .ireturn, 1, 0, 0)]
def zM280 : aM := (12, ⟨"AcresPaidModel", "back", "(I)I"⟩, prog_14_method_87_code, 5, (Option.some .int), 1, 0, zI280)
def zI281_0 : List aI := [(0, .aload_n 0, 1, 0, 0), (1, .iload_n 1, 1, 0, 0), (2, .invokevirtual 316, 3, 202, 0), (5, .ifCond .eq 21, 3, 26, 0), (8, .iload_n 2, 1, 0, 0), (9, .invokestatic 372, 3, 198, 0), (12, .ifCond .eq 14, 3, 26, 0), (15, .iload_n 3, 1, 0, 0), (16, .iconst 0, 1, 0, 0), (17, .ldc_w 479, 3, 2000000000, 0), (20, .invokestatic 258, 3, 196, 0), (23, .ifCond .ne 5, 3, 28, 0), (26, .iconst (-1), 1, 0, 0), (27, .ireturn, 1, 0, 0), (28, .lconst 0, 1, 0, 0), (29, .lstore 4, 2, 0, 0), (31, .iconst 0, 1, 0, 0), (32, .istore 6, 2, 0, 0), (34, .iload 6, 2, 0, 0), (36, .aload_n 0, 1, 0, 0), (37, .getfield 265, 3, 12, 2), (40, .if_icmp .ge 70, 3, 110, 0), (43, .aload_n 0, 1, 0, 0), (44, .getfield 194, 3, 12, 77), (47, .iload 6, 2, 0, 0), (49, .aload_n 0, 1, 0, 0), (50, .iload 6, 2, 0, 0), (52, .invokevirtual 316, 3, 202, 0), (55, .ifCond .eq 35, 3, 90, 0), (58, .aload_n 0, 1, 0, 0), (59, .getfield 13, 3, 12, 4), (62, .iload 6, 2, 0, 0), (64, .iaload, 1, 0, 0), (65, .aload_n 0, 1, 0, 0), (66, .getfield 13, 3, 12, 4), (69, .iload_n 1, 1, 0, 0), (70, .iaload, 1, 0, 0), (71, .if_icmp .ne 19, 3, 90, 0), (74, .aload_n 0, 1, 0, 0), (75, .iload 6, 2, 0, 0), (77, .iload_n 2, 1, 0, 0), (78, .aload_n 0, 1, 0, 0), (79, .getfield 262, 3, 12, 1), (82, .iconst (-1), 1, 0, 0), (83, .invokevirtual 502, 3, 277, 0), (86, .i2l, 1, 0, 0), (87, .goto 4, 3, 91, 0), (90, .lconst 0, 1, 0, 0), (91, .lastore, 1, 0, 0), (92, .lload 4, 2, 0, 0), (94, .aload_n 0, 1, 0, 0), (95, .getfield 194, 3, 12, 77), (98, .iload 6, 2, 0, 0), (100, .laload, 1, 0, 0), (101, .ladd, 1, 0, 0), (102, .lstore 4, 2, 0, 0), (104, .iinc 6 1, 3, 0, 0), (107, .goto (-73), 3, 34, 0), (110, .lload 4, 2, 0, 0), (112, .iload_n 3, 1, 0, 0), (113, .i2l, 1, 0, 0), (114, .lcmp, 1, 0, 0), (115, .ifCond .gt 11, 3, 126, 0), (118, .aload_n 0, 1, 0, 0), (119, .getfield 194, 3, 12, 77), (122, .iload_n 1, 1, 0, 0), (123, .laload, 1, 0, 0), (124, .l2i, 1, 0, 0), (125, .ireturn, 1, 0, 0), (126, .iload_n 3, 1, 0, 0), (127, .i2l, 1, 0, 0), (128, .lstore 6, 2, 0, 0), (130, .iconst 0, 1, 0, 0), (131, .istore 8, 2, 0, 0), (133, .iload 8, 2, 0, 0), (135, .aload_n 0, 1, 0, 0), (136, .getfield 265, 3, 12, 2), (139, .if_icmp .ge 41, 3, 180, 0), (142, .aload_n 0, 1, 0, 0), (143, .getfield 198, 3, 12, 78), (146, .iload 8, 2, 0, 0), (148, .iload_n 3, 1, 0, 0), (149, .i2l, 1, 0, 0), (150, .aload_n 0, 1, 0, 0), (151, .getfield 194, 3, 12, 77), (154, .iload 8, 2, 0, 0), (156, .laload, 1, 0, 0), (157, .lmul, 1, 0, 0), (158, .lload 4, 2, 0, 0), (160, .ldiv, 1, 0, 0), (161, .lastore, 1, 0, 0), (162, .lload 6, 2, 0, 0), (164, .aload_n 0, 1, 0, 0), (165, .getfield 198, 3, 12, 78), (168, .iload 8, 2, 0, 0), (170, .laload, 1, 0, 0), (171, .lsub, 1, 0, 0), (172, .lstore 6, 2, 0, 0), (174, .iinc 8 1, 3, 0, 0), (177, .goto (-44), 3, 133, 0)]
def zI281_1 : List aI := [(180, .lload 6, 2, 0, 0), (182, .lconst 0, 1, 0, 0), (183, .lcmp, 1, 0, 0), (184, .ifCond .le 122, 3, 306, 0), (187, .iconst (-1), 1, 0, 0), (188, .istore 8, 2, 0, 0), (190, .iconst 0, 1, 0, 0), (191, .istore 9, 2, 0, 0), (193, .iload 9, 2, 0, 0), (195, .aload_n 0, 1, 0, 0), (196, .getfield 265, 3, 12, 2), (199, .if_icmp .ge 87, 3, 286, 0), (202, .aload_n 0, 1, 0, 0), (203, .getfield 194, 3, 12, 77), (206, .iload 9, 2, 0, 0), (208, .laload, 1, 0, 0), (209, .lconst 0, 1, 0, 0), (210, .lcmp, 1, 0, 0), (211, .ifCond .eq 69, 3, 280, 0), (214, .aload_n 0, 1, 0, 0), (215, .getfield 198, 3, 12, 78), (218, .iload 9, 2, 0, 0), (220, .laload, 1, 0, 0), (221, .iload_n 3, 1, 0, 0), (222, .i2l, 1, 0, 0), (223, .aload_n 0, 1, 0, 0), (224, .getfield 194, 3, 12, 77), (227, .iload 9, 2, 0, 0), (229, .laload, 1, 0, 0), (230, .lmul, 1, 0, 0), (231, .lload 4, 2, 0, 0), (233, .ldiv, 1, 0, 0), (234, .lcmp, 1, 0, 0), (235, .ifCond .le 6, 3, 241, 0), (238, .goto 42, 3, 280, 0), (241, .iload 8, 2, 0, 0), (243, .ifCond .lt 33, 3, 276, 0), (246, .iload_n 3, 1, 0, 0), (247, .i2l, 1, 0, 0), (248, .aload_n 0, 1, 0, 0), (249, .getfield 194, 3, 12, 77), (252, .iload 9, 2, 0, 0), (254, .laload, 1, 0, 0), (255, .lmul, 1, 0, 0), (256, .lload 4, 2, 0, 0), (258, .lrem, 1, 0, 0), (259, .iload_n 3, 1, 0, 0), (260, .i2l, 1, 0, 0), (261, .aload_n 0, 1, 0, 0), (262, .getfield 194, 3, 12, 77), (265, .iload 8, 2, 0, 0), (267, .laload, 1, 0, 0), (268, .lmul, 1, 0, 0), (269, .lload 4, 2, 0, 0), (271, .lrem, 1, 0, 0), (272, .lcmp, 1, 0, 0), (273, .ifCond .le 7, 3, 280, 0), (276, .iload 9, 2, 0, 0), (278, .istore 8, 2, 0, 0), (280, .iinc 9 1, 3, 0, 0), (283, .goto (-90), 3, 193, 0), (286, .aload_n 0, 1, 0, 0), (287, .getfield 198, 3, 12, 78), (290, .iload 8, 2, 0, 0), (292, .dup2, 1, 0, 0), (293, .laload, 1, 0, 0), (294, .lconst 1, 1, 0, 0), (295, .ladd, 1, 0, 0), (296, .lastore, 1, 0, 0), (297, .lload 6, 2, 0, 0), (299, .lconst 1, 1, 0, 0), (300, .lsub, 1, 0, 0), (301, .lstore 6, 2, 0, 0), (303, .goto (-123), 3, 180, 0), (306, .aload_n 0, 1, 0, 0), (307, .getfield 198, 3, 12, 78), (310, .iload_n 1, 1, 0, 0), (311, .laload, 1, 0, 0), (312, .l2i, 1, 0, 0), (313, .ireturn, 1, 0, 0)]
def zI281 : List aI := zI281_0 ++ (zI281_1)
def zM281 : aM := (12, ⟨"AcresPaidModel", "budget", "(III)I"⟩, prog_14_method_88_code, 10, (Option.some .int), 3, 0, zI281)
def zI282 : List aI := [(0, .iconst 0, 1, 0, 0), (1, .istore_n 3, 1, 0, 0), (2, .iload_n 3, 1, 0, 0), (3, .bipush 24, 2, 0, 0), (5, .if_icmp .ge 37, 3, 42, 0), (8, .aload_n 0, 1, 0, 0), (9, .getfield 31, 3, 12, 10), (12, .bipush 24, 2, 0, 0), (14, .iload_n 1, 1, 0, 0), (15, .imul, 1, 0, 0), (16, .iload_n 3, 1, 0, 0), (17, .iadd, 1, 0, 0), (18, .iaload, 1, 0, 0), (19, .aload_n 0, 1, 0, 0), (20, .getfield 31, 3, 12, 10), (23, .bipush 24, 2, 0, 0), (25, .iload_n 2, 1, 0, 0), (26, .imul, 1, 0, 0), (27, .iload_n 3, 1, 0, 0), (28, .iadd, 1, 0, 0), (29, .iaload, 1, 0, 0), (30, .iand, 1, 0, 0), (31, .ifCond .eq 5, 3, 36, 0), (34, .iconst 1, 1, 0, 0), (35, .ireturn, 1, 0, 0), (36, .iinc 3 1, 3, 0, 0), (39, .goto (-37), 3, 2, 0), (42, .iconst 0, 1, 0, 0), (43, .ireturn, 1, 0, 0)]
def zM282 : aM := (12, ⟨"AcresPaidModel", "doMeet", "(II)Z"⟩, prog_14_method_89_code, 4, (Option.some .boolean), 2, 0, zI282)
def zI283 : List aI := [(0, .aload_n 0, 1, 0, 0), (1, .getfield 52, 3, 12, 20), (4, .iload_n 1, 1, 0, 0), (5, .iaload, 1, 0, 0), (6, .aload_n 0, 1, 0, 0), (7, .getfield 52, 3, 12, 20), (10, .iload_n 2, 1, 0, 0), (11, .iaload, 1, 0, 0), (12, .if_icmp .eq 26, 3, 38, 0), (15, .aload_n 0, 1, 0, 0), (16, .aload_n 0, 1, 0, 0), (17, .getfield 55, 3, 12, 21), (20, .iload_n 1, 1, 0, 0), (21, .iaload, 1, 0, 0), (22, .aload_n 0, 1, 0, 0), (23, .getfield 55, 3, 12, 21), (26, .iload_n 2, 1, 0, 0), (27, .iaload, 1, 0, 0), (28, .invokevirtual 508, 3, 282, 0), (31, .ifCond .eq 7, 3, 38, 0), (34, .iconst 1, 1, 0, 0), (35, .goto 4, 3, 39, 0), (38, .iconst 0, 1, 0, 0), (39, .ireturn, 1, 0, 0)]
def zM283 : aM := (12, ⟨"AcresPaidModel", "isTrouble", "(II)Z"⟩, prog_14_method_90_code, 3, (Option.some .boolean), 2, 0, zI283)
def zI284 : List aI := [(0, .iconst 0, 1, 0, 0), (1, .istore_n 3, 1, 0, 0), (2, .iload_n 3, 1, 0, 0), (3, .aload_n 0, 1, 0, 0), (4, .getfield 336, 3, 12, 19), (7, .if_icmp .ge 90, 3, 97, 0), (10, .aload_n 0, 1, 0, 0), (11, .getfield 108, 3, 12, 40), (14, .iload_n 3, 1, 0, 0), (15, .baload, 1, 0, 0), (16, .ifCond .eq 75, 3, 91, 0), (19, .aload_n 0, 1, 0, 0), (20, .iload_n 3, 1, 0, 0), (21, .invokevirtual 342, 3, 229, 0), (24, .iload_n 2, 1, 0, 0), (25, .if_icmp .ne 66, 3, 91, 0), (28, .aload_n 0, 1, 0, 0), (29, .getfield 55, 3, 12, 21), (32, .iload_n 3, 1, 0, 0), (33, .iaload, 1, 0, 0), (34, .iload_n 1, 1, 0, 0), (35, .if_icmp .eq 6, 3, 41, 0), (38, .goto 53, 3, 91, 0), (41, .iconst 0, 1, 0, 0), (42, .istore 4, 2, 0, 0), (44, .iload 4, 2, 0, 0), (46, .aload_n 0, 1, 0, 0), (47, .getfield 336, 3, 12, 19), (50, .if_icmp .ge 41, 3, 91, 0), (53, .aload_n 0, 1, 0, 0), (54, .getfield 108, 3, 12, 40), (57, .iload 4, 2, 0, 0), (59, .baload, 1, 0, 0), (60, .ifCond .eq 25, 3, 85, 0), (63, .aload_n 0, 1, 0, 0), (64, .iload 4, 2, 0, 0), (66, .invokevirtual 342, 3, 229, 0), (69, .iload_n 2, 1, 0, 0), (70, .if_icmp .ne 15, 3, 85, 0), (73, .aload_n 0, 1, 0, 0), (74, .iload_n 3, 1, 0, 0), (75, .iload 4, 2, 0, 0), (77, .invokevirtual 511, 3, 283, 0), (80, .ifCond .eq 5, 3, 85, 0), (83, .iconst 1, 1, 0, 0), (84, .ireturn, 1, 0, 0), (85, .iinc 4 1, 3, 0, 0), (88, .goto (-44), 3, 44, 0), (91, .iinc 3 1, 3, 0, 0), (94, .goto (-92), 3, 2, 0), (97, .iconst 0, 1, 0, 0), (98, .ireturn, 1, 0, 0)]
def zM284 : aM := (12, ⟨"AcresPaidModel", "hasTrouble", "(II)Z"⟩, prog_14_method_91_code, 5, (Option.some .boolean), 2, 0, zI284)
def zI285 : List aI := [(0, .iconst 0, 1, 0, 0), (1, .istore_n 3, 1, 0, 0), (2, .iload_n 3, 1, 0, 0), (3, .aload_n 0, 1, 0, 0), (4, .getfield 514, 3, 12, 79), (7, .if_icmp .ge 30, 3, 37, 0), (10, .iload_n 2, 1, 0, 0), (11, .iload_n 3, 1, 0, 0), (12, .ishr, 1, 0, 0), (13, .iconst 1, 1, 0, 0), (14, .iand, 1, 0, 0), (15, .iconst 1, 1, 0, 0), (16, .if_icmp .ne 15, 3, 31, 0), (19, .aload_n 0, 1, 0, 0), (20, .getfield 201, 3, 12, 80), (23, .iload_n 3, 1, 0, 0), (24, .iaload, 1, 0, 0), (25, .iload_n 1, 1, 0, 0), (26, .if_icmp .ne 5, 3, 31, 0), (29, .iconst 1, 1, 0, 0), (30, .ireturn, 1, 0, 0), (31, .iinc 3 1, 3, 0, 0), (34, .goto (-32), 3, 2, 0), (37, .iconst 0, 1, 0, 0), (38, .ireturn, 1, 0, 0)]
def zM285 : aM := (12, ⟨"AcresPaidModel", "isAway", "(II)Z"⟩, prog_14_method_92_code, 4, (Option.some .boolean), 2, 0, zI285)
def zI286 : List aI := [(0, .iconst 0, 1, 0, 0), (1, .istore_n 3, 1, 0, 0), (2, .iload_n 3, 1, 0, 0), (3, .aload_n 0, 1, 0, 0), (4, .getfield 336, 3, 12, 19), (7, .if_icmp .ge 111, 3, 118, 0), (10, .aload_n 0, 1, 0, 0), (11, .getfield 108, 3, 12, 40), (14, .iload_n 3, 1, 0, 0), (15, .baload, 1, 0, 0), (16, .ifCond .eq 96, 3, 112, 0), (19, .aload_n 0, 1, 0, 0), (20, .iload_n 3, 1, 0, 0), (21, .invokevirtual 342, 3, 229, 0), (24, .iload_n 2, 1, 0, 0), (25, .if_icmp .ne 87, 3, 112, 0), (28, .aload_n 0, 1, 0, 0), (29, .aload_n 0, 1, 0, 0), (30, .getfield 55, 3, 12, 21), (33, .iload_n 3, 1, 0, 0), (34, .iaload, 1, 0, 0), (35, .iload_n 1, 1, 0, 0), (36, .invokevirtual 517, 3, 285, 0), (39, .ifCond .eq 6, 3, 45, 0), (42, .goto 70, 3, 112, 0), (45, .iload_n 3, 1, 0, 0), (46, .iconst 1, 1, 0, 0), (47, .iadd, 1, 0, 0), (48, .istore 4, 2, 0, 0), (50, .iload 4, 2, 0, 0), (52, .aload_n 0, 1, 0, 0), (53, .getfield 336, 3, 12, 19), (56, .if_icmp .ge 56, 3, 112, 0), (59, .aload_n 0, 1, 0, 0), (60, .getfield 108, 3, 12, 40), (63, .iload 4, 2, 0, 0), (65, .baload, 1, 0, 0), (66, .ifCond .eq 40, 3, 106, 0), (69, .aload_n 0, 1, 0, 0), (70, .iload 4, 2, 0, 0), (72, .invokevirtual 342, 3, 229, 0), (75, .iload_n 2, 1, 0, 0), (76, .if_icmp .ne 30, 3, 106, 0), (79, .aload_n 0, 1, 0, 0), (80, .aload_n 0, 1, 0, 0), (81, .getfield 55, 3, 12, 21), (84, .iload 4, 2, 0, 0), (86, .iaload, 1, 0, 0), (87, .iload_n 1, 1, 0, 0), (88, .invokevirtual 517, 3, 285, 0), (91, .ifCond .ne 15, 3, 106, 0), (94, .aload_n 0, 1, 0, 0), (95, .iload_n 3, 1, 0, 0), (96, .iload 4, 2, 0, 0), (98, .invokevirtual 511, 3, 283, 0), (101, .ifCond .eq 5, 3, 106, 0), (104, .iconst 0, 1, 0, 0), (105, .ireturn, 1, 0, 0), (106, .iinc 4 1, 3, 0, 0), (109, .goto (-59), 3, 50, 0), (112, .iinc 3 1, 3, 0, 0), (115, .goto (-113), 3, 2, 0), (118, .iconst 1, 1, 0, 0), (119, .ireturn, 1, 0, 0)]
def zM286 : aM := (12, ⟨"AcresPaidModel", "isCured", "(II)Z"⟩, prog_14_method_93_code, 5, (Option.some .boolean), 2, 0, zI286)
def zI287 : List aI := [(0, .iconst 0, 1, 0, 0), (1, .istore_n 1, 1, 0, 0), (2, .iload_n 0, 1, 0, 0), (3, .istore_n 2, 1, 0, 0), (4, .iload_n 2, 1, 0, 0), (5, .ifCond .eq 15, 3, 20, 0), (8, .iinc 1 1, 3, 0, 0), (11, .iload_n 2, 1, 0, 0), (12, .iload_n 2, 1, 0, 0), (13, .iconst 1, 1, 0, 0), (14, .isub, 1, 0, 0), (15, .iand, 1, 0, 0), (16, .istore_n 2, 1, 0, 0), (17, .goto (-13), 3, 4, 0), (20, .iload_n 1, 1, 0, 0), (21, .ireturn, 1, 0, 0)]
def zM287 : aM := (12, ⟨"AcresPaidModel", "bitsOf", "(I)I"⟩, prog_14_method_94_code, 3, (Option.some .int), 1, 1, zI287)
def zI288_0 : List aI := [(0, .iload_n 1, 1, 0, 0), (1, .invokestatic 372, 3, 198, 0), (4, .ifCond .ne 5, 3, 9, 0), (7, .iconst (-1), 1, 0, 0), (8, .ireturn, 1, 0, 0), (9, .aload_n 0, 1, 0, 0), (10, .aload_n 0, 1, 0, 0), (11, .getfield 262, 3, 12, 1), (14, .invokevirtual 368, 3, 239, 0), (17, .iconst 0, 1, 0, 0), (18, .istore_n 2, 1, 0, 0), (19, .iconst 0, 1, 0, 0), (20, .istore_n 3, 1, 0, 0), (21, .iload_n 3, 1, 0, 0), (22, .aload_n 0, 1, 0, 0), (23, .getfield 265, 3, 12, 2), (26, .if_icmp .ge 34, 3, 60, 0), (29, .iload_n 2, 1, 0, 0), (30, .aload_n 0, 1, 0, 0), (31, .iload_n 3, 1, 0, 0), (32, .invokevirtual 322, 3, 203, 0), (35, .ifCond .eq 16, 3, 51, 0), (38, .aload_n 0, 1, 0, 0), (39, .iload_n 3, 1, 0, 0), (40, .iload_n 1, 1, 0, 0), (41, .invokevirtual 520, 3, 284, 0), (44, .ifCond .eq 7, 3, 51, 0), (47, .iconst 1, 1, 0, 0), (48, .goto 4, 3, 52, 0), (51, .iconst 0, 1, 0, 0), (52, .iadd, 1, 0, 0), (53, .istore_n 2, 1, 0, 0), (54, .iinc 3 1, 3, 0, 0), (57, .goto (-36), 3, 21, 0), (60, .iload_n 2, 1, 0, 0), (61, .bipush 10, 2, 0, 0), (63, .if_icmp .le 6, 3, 69, 0), (66, .bipush (-4), 2, 0, 0), (68, .ireturn, 1, 0, 0), (69, .aload_n 0, 1, 0, 0), (70, .iconst 0, 1, 0, 0), (71, .putfield 514, 3, 12, 79), (74, .iconst 0, 1, 0, 0), (75, .istore_n 3, 1, 0, 0), (76, .iload_n 3, 1, 0, 0), (77, .aload_n 0, 1, 0, 0), (78, .getfield 265, 3, 12, 2), (81, .if_icmp .ge 49, 3, 130, 0), (84, .aload_n 0, 1, 0, 0), (85, .iload_n 3, 1, 0, 0), (86, .invokevirtual 322, 3, 203, 0), (89, .ifCond .eq 35, 3, 124, 0), (92, .aload_n 0, 1, 0, 0), (93, .iload_n 3, 1, 0, 0), (94, .iload_n 1, 1, 0, 0), (95, .invokevirtual 520, 3, 284, 0), (98, .ifCond .ne 6, 3, 104, 0), (101, .goto 23, 3, 124, 0), (104, .aload_n 0, 1, 0, 0), (105, .getfield 201, 3, 12, 80), (108, .aload_n 0, 1, 0, 0), (109, .getfield 514, 3, 12, 79), (112, .iload_n 3, 1, 0, 0), (113, .iastore, 1, 0, 0), (114, .aload_n 0, 1, 0, 0), (115, .dup, 1, 0, 0), (116, .getfield 514, 3, 12, 79), (119, .iconst 1, 1, 0, 0), (120, .iadd, 1, 0, 0), (121, .putfield 514, 3, 12, 79), (124, .iinc 3 1, 3, 0, 0), (127, .goto (-51), 3, 76, 0), (130, .iconst (-1), 1, 0, 0), (131, .istore_n 3, 1, 0, 0), (132, .iconst 0, 1, 0, 0), (133, .istore 4, 2, 0, 0), (135, .iconst 0, 1, 0, 0), (136, .istore 5, 2, 0, 0), (138, .iload 5, 2, 0, 0), (140, .iconst 1, 1, 0, 0), (141, .aload_n 0, 1, 0, 0), (142, .getfield 514, 3, 12, 79), (145, .ishl, 1, 0, 0), (146, .if_icmp .ge 112, 3, 258, 0), (149, .iconst 0, 1, 0, 0), (150, .istore 6, 2, 0, 0), (152, .iconst 0, 1, 0, 0), (153, .istore 7, 2, 0, 0), (155, .iload 7, 2, 0, 0), (157, .aload_n 0, 1, 0, 0), (158, .getfield 514, 3, 12, 79), (161, .if_icmp .ge 41, 3, 202, 0), (164, .iload 6, 2, 0, 0), (166, .iload 5, 2, 0, 0), (168, .iload 7, 2, 0, 0), (170, .ishr, 1, 0, 0), (171, .iconst 1, 1, 0, 0), (172, .iand, 1, 0, 0), (173, .iconst 1, 1, 0, 0), (174, .if_icmp .ne 18, 3, 192, 0)]
def zI288_1 : List aI := [(177, .aload_n 0, 1, 0, 0), (178, .getfield 25, 3, 12, 8), (181, .aload_n 0, 1, 0, 0), (182, .getfield 201, 3, 12, 80), (185, .iload 7, 2, 0, 0), (187, .iaload, 1, 0, 0), (188, .iaload, 1, 0, 0), (189, .goto 4, 3, 193, 0), (192, .iconst 0, 1, 0, 0), (193, .iadd, 1, 0, 0), (194, .istore 6, 2, 0, 0), (196, .iinc 7 1, 3, 0, 0), (199, .goto (-44), 3, 155, 0), (202, .iload_n 3, 1, 0, 0), (203, .ifCond .lt 29, 3, 232, 0), (206, .iload 6, 2, 0, 0), (208, .iload 4, 2, 0, 0), (210, .if_icmp .gt 42, 3, 252, 0), (213, .iload 6, 2, 0, 0), (215, .iload 4, 2, 0, 0), (217, .if_icmp .ne 15, 3, 232, 0), (220, .iload 5, 2, 0, 0), (222, .invokestatic 523, 3, 287, 0), (225, .iload_n 3, 1, 0, 0), (226, .invokestatic 523, 3, 287, 0), (229, .if_icmp .ge 23, 3, 252, 0), (232, .aload_n 0, 1, 0, 0), (233, .iload 5, 2, 0, 0), (235, .iload_n 1, 1, 0, 0), (236, .invokevirtual 526, 3, 286, 0), (239, .ifCond .ne 6, 3, 245, 0), (242, .goto 10, 3, 252, 0), (245, .iload 5, 2, 0, 0), (247, .istore_n 3, 1, 0, 0), (248, .iload 6, 2, 0, 0), (250, .istore 4, 2, 0, 0), (252, .iinc 5 1, 3, 0, 0), (255, .goto (-117), 3, 138, 0), (258, .aload_n 0, 1, 0, 0), (259, .iconst 0, 1, 0, 0), (260, .putfield 204, 3, 12, 81), (263, .iconst 0, 1, 0, 0), (264, .istore 5, 2, 0, 0), (266, .iload 5, 2, 0, 0), (268, .aload_n 0, 1, 0, 0), (269, .getfield 514, 3, 12, 79), (272, .if_icmp .ge 47, 3, 319, 0), (275, .iload_n 3, 1, 0, 0), (276, .iload 5, 2, 0, 0), (278, .ishr, 1, 0, 0), (279, .iconst 1, 1, 0, 0), (280, .iand, 1, 0, 0), (281, .ifCond .ne 6, 3, 287, 0), (284, .goto 29, 3, 313, 0), (287, .aload_n 0, 1, 0, 0), (288, .getfield 207, 3, 12, 82), (291, .aload_n 0, 1, 0, 0), (292, .getfield 204, 3, 12, 81), (295, .aload_n 0, 1, 0, 0), (296, .getfield 201, 3, 12, 80), (299, .iload 5, 2, 0, 0), (301, .iaload, 1, 0, 0), (302, .iastore, 1, 0, 0), (303, .aload_n 0, 1, 0, 0), (304, .dup, 1, 0, 0), (305, .getfield 204, 3, 12, 81), (308, .iconst 1, 1, 0, 0), (309, .iadd, 1, 0, 0), (310, .putfield 204, 3, 12, 81), (313, .iinc 5 1, 3, 0, 0), (316, .goto (-50), 3, 266, 0), (319, .iload 4, 2, 0, 0), (321, .ireturn, 1, 0, 0)]
def zI288 : List aI := zI288_0 ++ (zI288_1)
def zM288 : aM := (12, ⟨"AcresPaidModel", "least", "(I)I"⟩, prog_14_method_95_code, 8, (Option.some .int), 1, 0, zI288)
def zI289 : List aI := [(0, .iload_n 1, 1, 0, 0), (1, .iconst 0, 1, 0, 0), (2, .aload_n 0, 1, 0, 0), (3, .getfield 204, 3, 12, 81), (6, .iconst 1, 1, 0, 0), (7, .isub, 1, 0, 0), (8, .invokestatic 258, 3, 196, 0), (11, .ifCond .eq 12, 3, 23, 0), (14, .aload_n 0, 1, 0, 0), (15, .getfield 207, 3, 12, 82), (18, .iload_n 1, 1, 0, 0), (19, .iaload, 1, 0, 0), (20, .goto 4, 3, 24, 0), (23, .iconst (-1), 1, 0, 0), (24, .ireturn, 1, 0, 0)]
def zM289 : aM := (12, ⟨"AcresPaidModel", "given", "(I)I"⟩, prog_14_method_96_code, 2, (Option.some .int), 1, 0, zI289)
def zI290 : List aI := [(0, .aload_n 0, 1, 0, 0), (1, .iload_n 1, 1, 0, 0), (2, .putfield 210, 3, 12, 83), (5, .iconst 1, 1, 0, 0), (6, .ireturn, 1, 0, 0)]
def zM290 : aM := (12, ⟨"AcresPaidModel", "lots", "(I)I"⟩, prog_14_method_97_code, 2, (Option.some .int), 1, 0, zI290)
def zI291 : List aI := [(0, .iconst 0, 1, 0, 0), (1, .istore_n 3, 1, 0, 0), (2, .iload_n 3, 1, 0, 0), (3, .aload_n 0, 1, 0, 0), (4, .getfield 336, 3, 12, 19), (7, .if_icmp .ge 39, 3, 46, 0), (10, .aload_n 0, 1, 0, 0), (11, .getfield 108, 3, 12, 40), (14, .iload_n 3, 1, 0, 0), (15, .baload, 1, 0, 0), (16, .ifCond .eq 24, 3, 40, 0), (19, .aload_n 0, 1, 0, 0), (20, .getfield 52, 3, 12, 20), (23, .iload_n 3, 1, 0, 0), (24, .iaload, 1, 0, 0), (25, .iload_n 1, 1, 0, 0), (26, .if_icmp .ne 14, 3, 40, 0), (29, .aload_n 0, 1, 0, 0), (30, .iload_n 3, 1, 0, 0), (31, .invokevirtual 342, 3, 229, 0), (34, .iload_n 2, 1, 0, 0), (35, .if_icmp .ne 5, 3, 40, 0), (38, .iconst 1, 1, 0, 0), (39, .ireturn, 1, 0, 0), (40, .iinc 3 1, 3, 0, 0), (43, .goto (-41), 3, 2, 0), (46, .iconst 0, 1, 0, 0), (47, .ireturn, 1, 0, 0)]
def zM291 : aM := (12, ⟨"AcresPaidModel", "claimsIn", "(II)Z"⟩, prog_14_method_98_code, 4, (Option.some .boolean), 2, 0, zI291)
def zI292_0 : List aI := [(0, .iload_n 1, 1, 0, 0), (1, .invokestatic 280, 3, 206, 0), (4, .ifCond .eq 20, 3, 24, 0), (7, .iload_n 2, 1, 0, 0), (8, .invokestatic 372, 3, 198, 0), (11, .ifCond .eq 13, 3, 24, 0), (14, .iload_n 3, 1, 0, 0), (15, .iconst 1, 1, 0, 0), (16, .bipush 9, 2, 0, 0), (18, .invokestatic 258, 3, 196, 0), (21, .ifCond .ne 5, 3, 26, 0), (24, .iconst (-1), 1, 0, 0), (25, .ireturn, 1, 0, 0), (26, .aload_n 0, 1, 0, 0), (27, .aload_n 0, 1, 0, 0), (28, .getfield 262, 3, 12, 1), (31, .invokevirtual 368, 3, 239, 0), (34, .iconst 0, 1, 0, 0), (35, .istore 4, 2, 0, 0), (37, .iconst 0, 1, 0, 0), (38, .istore 5, 2, 0, 0), (40, .iload 5, 2, 0, 0), (42, .aload_n 0, 1, 0, 0), (43, .getfield 265, 3, 12, 2), (46, .if_icmp .ge 71, 3, 117, 0), (49, .aload_n 0, 1, 0, 0), (50, .getfield 219, 3, 12, 86), (53, .iload 5, 2, 0, 0), (55, .aload_n 0, 1, 0, 0), (56, .iload 5, 2, 0, 0), (58, .invokevirtual 316, 3, 202, 0), (61, .ifCond .eq 28, 3, 89, 0), (64, .aload_n 0, 1, 0, 0), (65, .getfield 13, 3, 12, 4), (68, .iload 5, 2, 0, 0), (70, .iaload, 1, 0, 0), (71, .iload_n 1, 1, 0, 0), (72, .if_icmp .ne 17, 3, 89, 0), (75, .aload_n 0, 1, 0, 0), (76, .iload 5, 2, 0, 0), (78, .iload_n 2, 1, 0, 0), (79, .invokevirtual 529, 3, 291, 0), (82, .ifCond .eq 7, 3, 89, 0), (85, .iconst 1, 1, 0, 0), (86, .goto 4, 3, 90, 0), (89, .iconst 0, 1, 0, 0), (90, .bastore, 1, 0, 0), (91, .iload 4, 2, 0, 0), (93, .aload_n 0, 1, 0, 0), (94, .getfield 219, 3, 12, 86), (97, .iload 5, 2, 0, 0), (99, .baload, 1, 0, 0), (100, .ifCond .eq 7, 3, 107, 0), (103, .iconst 1, 1, 0, 0), (104, .goto 4, 3, 108, 0), (107, .iconst 0, 1, 0, 0), (108, .iadd, 1, 0, 0), (109, .istore 4, 2, 0, 0), (111, .iinc 5 1, 3, 0, 0), (114, .goto (-74), 3, 40, 0), (117, .iload_n 3, 1, 0, 0), (118, .iload 4, 2, 0, 0), (120, .invokestatic 289, 3, 211, 0), (123, .istore 5, 2, 0, 0), (125, .iconst 0, 1, 0, 0), (126, .istore 6, 2, 0, 0), (128, .iload 6, 2, 0, 0), (130, .iload 5, 2, 0, 0), (132, .if_icmp .ge 176, 3, 308, 0), (135, .iconst (-1), 1, 0, 0), (136, .istore 7, 2, 0, 0), (138, .iload 6, 2, 0, 0), (140, .iload 5, 2, 0, 0), (142, .iconst 1, 1, 0, 0), (143, .iadd, 1, 0, 0), (144, .iconst 2, 1, 0, 0), (145, .idiv, 1, 0, 0), (146, .if_icmp .ge 60, 3, 206, 0), (149, .iconst 0, 1, 0, 0), (150, .istore 8, 2, 0, 0), (152, .iload 8, 2, 0, 0), (154, .aload_n 0, 1, 0, 0), (155, .getfield 265, 3, 12, 2), (158, .if_icmp .ge 45, 3, 203, 0), (161, .aload_n 0, 1, 0, 0), (162, .getfield 219, 3, 12, 86), (165, .iload 8, 2, 0, 0), (167, .baload, 1, 0, 0), (168, .ifCond .eq 29, 3, 197, 0), (171, .iload 7, 2, 0, 0), (173, .ifCond .lt 20, 3, 193, 0), (176, .aload_n 0, 1, 0, 0), (177, .iload 8, 2, 0, 0), (179, .iload_n 2, 1, 0, 0), (180, .invokevirtual 532, 3, 293, 0), (183, .aload_n 0, 1, 0, 0), (184, .iload 7, 2, 0, 0), (186, .iload_n 2, 1, 0, 0), (187, .invokevirtual 532, 3, 293, 0), (190, .if_icmp .le 7, 3, 197, 0)]
def zI292_1 : List aI := [(193, .iload 8, 2, 0, 0), (195, .istore 7, 2, 0, 0), (197, .iinc 8 1, 3, 0, 0), (200, .goto (-48), 3, 152, 0), (203, .goto 82, 3, 285, 0), (206, .aload_n 0, 1, 0, 0), (207, .aload_n 0, 1, 0, 0), (208, .getfield 210, 3, 12, 83), (211, .ldc_w 535, 3, 1103515245, 0), (214, .imul, 1, 0, 0), (215, .sipush 12345, 3, 0, 0), (218, .iadd, 1, 0, 0), (219, .putfield 210, 3, 12, 83), (222, .aload_n 0, 1, 0, 0), (223, .getfield 210, 3, 12, 83), (226, .bipush 8, 2, 0, 0), (228, .iushr, 1, 0, 0), (229, .iload 4, 2, 0, 0), (231, .iload 6, 2, 0, 0), (233, .isub, 1, 0, 0), (234, .irem, 1, 0, 0), (235, .istore 8, 2, 0, 0), (237, .iconst 0, 1, 0, 0), (238, .istore 9, 2, 0, 0), (240, .iload 9, 2, 0, 0), (242, .aload_n 0, 1, 0, 0), (243, .getfield 265, 3, 12, 2), (246, .if_icmp .ge 39, 3, 285, 0), (249, .iload 7, 2, 0, 0), (251, .ifCond .ge 34, 3, 285, 0), (254, .aload_n 0, 1, 0, 0), (255, .getfield 219, 3, 12, 86), (258, .iload 9, 2, 0, 0), (260, .baload, 1, 0, 0), (261, .ifCond .ne 6, 3, 267, 0), (264, .goto 15, 3, 279, 0), (267, .iload 8, 2, 0, 0), (269, .ifCond .ne 7, 3, 276, 0), (272, .iload 9, 2, 0, 0), (274, .istore 7, 2, 0, 0), (276, .iinc 8 (-1), 3, 0, 0), (279, .iinc 9 1, 3, 0, 0), (282, .goto (-42), 3, 240, 0), (285, .aload_n 0, 1, 0, 0), (286, .getfield 219, 3, 12, 86), (289, .iload 7, 2, 0, 0), (291, .iconst 0, 1, 0, 0), (292, .bastore, 1, 0, 0), (293, .aload_n 0, 1, 0, 0), (294, .getfield 216, 3, 12, 85), (297, .iload 6, 2, 0, 0), (299, .iload 7, 2, 0, 0), (301, .iastore, 1, 0, 0), (302, .iinc 6 1, 3, 0, 0), (305, .goto (-177), 3, 128, 0), (308, .aload_n 0, 1, 0, 0), (309, .iload 5, 2, 0, 0), (311, .putfield 213, 3, 12, 84), (314, .iload 5, 2, 0, 0), (316, .ireturn, 1, 0, 0)]
def zI292 : List aI := zI292_0 ++ (zI292_1)
def zM292 : aM := (12, ⟨"AcresPaidModel", "draw", "(III)I"⟩, prog_14_method_99_code, 10, (Option.some .int), 3, 0, zI292)
def zI293 : List aI := [(0, .iload_n 2, 1, 0, 0), (1, .ifCond .ne 7, 3, 8, 0), (4, .iconst 0, 1, 0, 0), (5, .goto 11, 3, 16, 0), (8, .aload_n 0, 1, 0, 0), (9, .iload_n 1, 1, 0, 0), (10, .iload_n 2, 1, 0, 0), (11, .iconst 1, 1, 0, 0), (12, .isub, 1, 0, 0), (13, .invokevirtual 467, 3, 271, 0), (16, .ireturn, 1, 0, 0)]
def zM293 : aM := (12, ⟨"AcresPaidModel", "riskOf", "(II)I"⟩, prog_14_method_100_code, 3, (Option.some .int), 2, 0, zI293)
def zI294 : List aI := [(0, .iload_n 1, 1, 0, 0), (1, .iconst 0, 1, 0, 0), (2, .aload_n 0, 1, 0, 0), (3, .getfield 213, 3, 12, 84), (6, .iconst 1, 1, 0, 0), (7, .isub, 1, 0, 0), (8, .invokestatic 258, 3, 196, 0), (11, .ifCond .eq 12, 3, 23, 0), (14, .aload_n 0, 1, 0, 0), (15, .getfield 216, 3, 12, 85), (18, .iload_n 1, 1, 0, 0), (19, .iaload, 1, 0, 0), (20, .goto 4, 3, 24, 0), (23, .iconst (-1), 1, 0, 0), (24, .ireturn, 1, 0, 0)]
def zM294 : aM := (12, ⟨"AcresPaidModel", "drawn", "(I)I"⟩, prog_14_method_101_code, 2, (Option.some .int), 1, 0, zI294)
def zI295 : List aI := [(0, .iconst 0, 1, 0, 0), (1, .istore_n 3, 1, 0, 0), (2, .iload_n 3, 1, 0, 0), (3, .aload_n 0, 1, 0, 0), (4, .getfield 352, 3, 12, 32), (7, .if_icmp .ge 31, 3, 38, 0), (10, .aload_n 0, 1, 0, 0), (11, .getfield 85, 3, 12, 33), (14, .iload_n 3, 1, 0, 0), (15, .iaload, 1, 0, 0), (16, .iload_n 1, 1, 0, 0), (17, .if_icmp .ne 15, 3, 32, 0), (20, .aload_n 0, 1, 0, 0), (21, .getfield 91, 3, 12, 35), (24, .iload_n 3, 1, 0, 0), (25, .iaload, 1, 0, 0), (26, .iload_n 2, 1, 0, 0), (27, .if_icmp .ne 5, 3, 32, 0), (30, .iconst 1, 1, 0, 0), (31, .ireturn, 1, 0, 0), (32, .iinc 3 1, 3, 0, 0), (35, .goto (-33), 3, 2, 0), (38, .iconst 0, 1, 0, 0), (39, .ireturn, 1, 0, 0)]
def zM295 : aM := (12, ⟨"AcresPaidModel", "isControlled", "(II)Z"⟩, prog_14_method_102_code, 4, (Option.some .boolean), 2, 0, zI295)
def zI296 : List aI := [(0, .lconst 1, 1, 0, 0), (1, .lstore_n 3, 1, 0, 0), (2, .iconst 0, 1, 0, 0), (3, .istore 5, 2, 0, 0), (5, .iload 5, 2, 0, 0), (7, .iload_n 2, 1, 0, 0), (8, .if_icmp .ge 13, 3, 21, 0), (11, .lload_n 3, 1, 0, 0), (12, .lload_n 0, 1, 0, 0), (13, .lmul, 1, 0, 0), (14, .lstore_n 3, 1, 0, 0), (15, .iinc 5 1, 3, 0, 0), (18, .goto (-13), 3, 5, 0), (21, .lload_n 3, 1, 0, 0), (22, .lreturn, 1, 0, 0)]
def zM296 : aM := (12, ⟨"AcresPaidModel", "power", "(JI)J"⟩, prog_14_method_103_code, 6, (Option.some .long), 2, 1, zI296)
def zI297 : List aI := [(0, .lconst 0, 1, 0, 0), (1, .lstore 4, 2, 0, 0), (3, .iload_n 1, 1, 0, 0), (4, .istore 6, 2, 0, 0), (6, .iload 6, 2, 0, 0), (8, .iload_n 2, 1, 0, 0), (9, .if_icmp .gt 73, 3, 82, 0), (12, .lconst 1, 1, 0, 0), (13, .lstore 7, 2, 0, 0), (15, .iconst 1, 1, 0, 0), (16, .istore 9, 2, 0, 0), (18, .iload 9, 2, 0, 0), (20, .iload 6, 2, 0, 0), (22, .if_icmp .gt 26, 3, 48, 0), (25, .lload 7, 2, 0, 0), (27, .iload_n 0, 1, 0, 0), (28, .iload 6, 2, 0, 0), (30, .isub, 1, 0, 0), (31, .iload 9, 2, 0, 0), (33, .iadd, 1, 0, 0), (34, .i2l, 1, 0, 0), (35, .lmul, 1, 0, 0), (36, .iload 9, 2, 0, 0), (38, .i2l, 1, 0, 0), (39, .ldiv, 1, 0, 0), (40, .lstore 7, 2, 0, 0), (42, .iinc 9 1, 3, 0, 0), (45, .goto (-27), 3, 18, 0), (48, .lload 4, 2, 0, 0), (50, .lload 7, 2, 0, 0), (52, .iload_n 3, 1, 0, 0), (53, .i2l, 1, 0, 0), (54, .iload 6, 2, 0, 0), (56, .invokestatic 536, 3, 296, 0), (59, .lmul, 1, 0, 0), (60, .bipush 100, 2, 0, 0), (62, .iload_n 3, 1, 0, 0), (63, .isub, 1, 0, 0), (64, .i2l, 1, 0, 0), (65, .iload_n 0, 1, 0, 0), (66, .iload 6, 2, 0, 0), (68, .isub, 1, 0, 0), (69, .invokestatic 536, 3, 296, 0), (72, .lmul, 1, 0, 0), (73, .ladd, 1, 0, 0), (74, .lstore 4, 2, 0, 0), (76, .iinc 6 1, 3, 0, 0), (79, .goto (-73), 3, 6, 0), (82, .lload 4, 2, 0, 0), (84, .lreturn, 1, 0, 0)]
def zM297 : aM := (12, ⟨"AcresPaidModel", "chance", "(IIII)J"⟩, prog_14_method_104_code, 10, (Option.some .long), 4, 1, zI297)
def zI298_0 : List aI := [(0, .iload_n 1, 1, 0, 0), (1, .invokestatic 372, 3, 198, 0), (4, .ifCond .eq 42, 3, 46, 0), (7, .iload_n 2, 1, 0, 0), (8, .iconst 0, 1, 0, 0), (9, .iconst 2, 1, 0, 0), (10, .invokestatic 258, 3, 196, 0), (13, .ifCond .eq 33, 3, 46, 0), (16, .iload_n 2, 1, 0, 0), (17, .iconst 2, 1, 0, 0), (18, .if_icmp .ne 30, 3, 48, 0), (21, .iload_n 3, 1, 0, 0), (22, .bipush 100, 2, 0, 0), (24, .sipush 9949, 3, 0, 0), (27, .invokestatic 258, 3, 196, 0), (30, .ifCond .eq 16, 3, 46, 0), (33, .iload_n 3, 1, 0, 0), (34, .bipush 100, 2, 0, 0), (36, .irem, 1, 0, 0), (37, .iconst 1, 1, 0, 0), (38, .bipush 49, 2, 0, 0), (40, .invokestatic 258, 3, 196, 0), (43, .ifCond .ne 5, 3, 48, 0), (46, .iconst (-1), 1, 0, 0), (47, .ireturn, 1, 0, 0), (48, .aload_n 0, 1, 0, 0), (49, .aload_n 0, 1, 0, 0), (50, .getfield 262, 3, 12, 1), (53, .invokevirtual 368, 3, 239, 0), (56, .iconst 0, 1, 0, 0), (57, .istore 4, 2, 0, 0), (59, .iconst 0, 1, 0, 0), (60, .istore 5, 2, 0, 0), (62, .iconst 0, 1, 0, 0), (63, .istore 6, 2, 0, 0), (65, .iconst 0, 1, 0, 0), (66, .istore 7, 2, 0, 0), (68, .iconst 0, 1, 0, 0), (69, .istore 8, 2, 0, 0), (71, .iload 8, 2, 0, 0), (73, .aload_n 0, 1, 0, 0), (74, .getfield 265, 3, 12, 2), (77, .if_icmp .ge 92, 3, 169, 0), (80, .aload_n 0, 1, 0, 0), (81, .iload 8, 2, 0, 0), (83, .invokevirtual 316, 3, 202, 0), (86, .ifCond .eq 77, 3, 163, 0), (89, .aload_n 0, 1, 0, 0), (90, .iload 8, 2, 0, 0), (92, .iload_n 1, 1, 0, 0), (93, .invokevirtual 540, 3, 295, 0), (96, .ifCond .ne 6, 3, 102, 0), (99, .goto 64, 3, 163, 0), (102, .aload_n 0, 1, 0, 0), (103, .iload 8, 2, 0, 0), (105, .iload_n 1, 1, 0, 0), (106, .invokevirtual 467, 3, 271, 0), (109, .iconst 2, 1, 0, 0), (110, .if_icmp .le 7, 3, 117, 0), (113, .iconst 1, 1, 0, 0), (114, .goto 4, 3, 118, 0), (117, .iconst 0, 1, 0, 0), (118, .istore 9, 2, 0, 0), (120, .iload 4, 2, 0, 0), (122, .bipush 8, 2, 0, 0), (124, .if_icmp .ge 21, 3, 145, 0), (127, .iinc 6 1, 3, 0, 0), (130, .iload 7, 2, 0, 0), (132, .iload 9, 2, 0, 0), (134, .ifCond .eq 7, 3, 141, 0), (137, .iconst 1, 1, 0, 0), (138, .goto 4, 3, 142, 0), (141, .iconst 0, 1, 0, 0), (142, .iadd, 1, 0, 0), (143, .istore 7, 2, 0, 0), (145, .iinc 4 1, 3, 0, 0), (148, .iload 5, 2, 0, 0), (150, .iload 9, 2, 0, 0), (152, .ifCond .eq 7, 3, 159, 0), (155, .iconst 1, 1, 0, 0), (156, .goto 4, 3, 160, 0), (159, .iconst 0, 1, 0, 0), (160, .iadd, 1, 0, 0), (161, .istore 5, 2, 0, 0), (163, .iinc 8 1, 3, 0, 0), (166, .goto (-95), 3, 71, 0), (169, .iload_n 2, 1, 0, 0), (170, .iconst 2, 1, 0, 0), (171, .if_icmp .ge 15, 3, 186, 0), (174, .iload_n 2, 1, 0, 0), (175, .ifCond .ne 8, 3, 183, 0), (178, .iload 4, 2, 0, 0), (180, .goto 5, 3, 185, 0), (183, .iload 5, 2, 0, 0), (185, .ireturn, 1, 0, 0), (186, .iload_n 3, 1, 0, 0), (187, .bipush 100, 2, 0, 0), (189, .irem, 1, 0, 0), (190, .i2l, 1, 0, 0), (191, .ldc2_w 500, 3, 100, 0)]
def zI298_1 : List aI := [(194, .iload 6, 2, 0, 0), (196, .invokestatic 536, 3, 296, 0), (199, .lmul, 1, 0, 0), (200, .lstore 8, 2, 0, 0), (202, .ldc2_w 500, 3, 100, 0), (205, .iload 6, 2, 0, 0), (207, .iload 7, 2, 0, 0), (209, .iload 6, 2, 0, 0), (211, .iload_n 3, 1, 0, 0), (212, .bipush 100, 2, 0, 0), (214, .idiv, 1, 0, 0), (215, .invokestatic 543, 3, 297, 0), (218, .lmul, 1, 0, 0), (219, .lload 8, 2, 0, 0), (221, .lcmp, 1, 0, 0), (222, .ifCond .ge 5, 3, 227, 0), (225, .iconst 1, 1, 0, 0), (226, .ireturn, 1, 0, 0), (227, .ldc2_w 500, 3, 100, 0), (230, .iload 6, 2, 0, 0), (232, .iconst 0, 1, 0, 0), (233, .iload 7, 2, 0, 0), (235, .iload_n 3, 1, 0, 0), (236, .bipush 100, 2, 0, 0), (238, .idiv, 1, 0, 0), (239, .invokestatic 543, 3, 297, 0), (242, .lmul, 1, 0, 0), (243, .lload 8, 2, 0, 0), (245, .lcmp, 1, 0, 0), (246, .ifCond .ge 7, 3, 253, 0), (249, .iconst 2, 1, 0, 0), (250, .goto 4, 3, 254, 0), (253, .iconst 0, 1, 0, 0), (254, .ireturn, 1, 0, 0)]
def zI298 : List aI := zI298_0 ++ (zI298_1)
def zM298 : aM := (12, ⟨"AcresPaidModel", "rate", "(III)I"⟩, prog_14_method_105_code, 10, (Option.some .int), 3, 0, zI298)
def zI299 : List aI := [(0, .iload_n 1, 1, 0, 0), (1, .iconst 1, 1, 0, 0), (2, .sipush 576, 3, 0, 0), (5, .invokestatic 258, 3, 196, 0), (8, .ifCond .ne 5, 3, 13, 0), (11, .iconst (-1), 1, 0, 0), (12, .ireturn, 1, 0, 0), (13, .aload_n 0, 1, 0, 0), (14, .getfield 546, 3, 12, 87), (17, .bipush 6, 2, 0, 0), (19, .if_icmp .ne 6, 3, 25, 0), (22, .bipush (-3), 2, 0, 0), (24, .ireturn, 1, 0, 0), (25, .aload_n 0, 1, 0, 0), (26, .getfield 222, 3, 12, 88), (29, .aload_n 0, 1, 0, 0), (30, .getfield 546, 3, 12, 87), (33, .iload_n 1, 1, 0, 0), (34, .iastore, 1, 0, 0), (35, .aload_n 0, 1, 0, 0), (36, .dup, 1, 0, 0), (37, .getfield 546, 3, 12, 87), (40, .iconst 1, 1, 0, 0), (41, .iadd, 1, 0, 0), (42, .putfield 546, 3, 12, 87), (45, .aload_n 0, 1, 0, 0), (46, .getfield 546, 3, 12, 87), (49, .ireturn, 1, 0, 0)]
def zM299 : aM := (12, ⟨"AcresPaidModel", "plot", "(I)I"⟩, prog_14_method_106_code, 2, (Option.some .int), 1, 0, zI299)
def zI300 : List aI := [(0, .iload_n 1, 1, 0, 0), (1, .iconst 0, 1, 0, 0), (2, .bipush 7, 2, 0, 0), (4, .invokestatic 258, 3, 196, 0), (7, .ifCond .eq 13, 3, 20, 0), (10, .iload_n 2, 1, 0, 0), (11, .iconst 0, 1, 0, 0), (12, .bipush 99, 2, 0, 0), (14, .invokestatic 258, 3, 196, 0), (17, .ifCond .ne 5, 3, 22, 0), (20, .iconst (-1), 1, 0, 0), (21, .ireturn, 1, 0, 0), (22, .aload_n 0, 1, 0, 0), (23, .getfield 225, 3, 12, 89), (26, .iload_n 1, 1, 0, 0), (27, .iaload, 1, 0, 0), (28, .istore_n 3, 1, 0, 0), (29, .aload_n 0, 1, 0, 0), (30, .getfield 225, 3, 12, 89), (33, .iload_n 1, 1, 0, 0), (34, .iload_n 2, 1, 0, 0), (35, .iastore, 1, 0, 0), (36, .iload_n 3, 1, 0, 0), (37, .ireturn, 1, 0, 0)]
def zM300 : aM := (12, ⟨"AcresPaidModel", "worth", "(II)I"⟩, prog_14_method_107_code, 4, (Option.some .int), 2, 0, zI300)
def zI301 : List aI := [(0, .iload_n 1, 1, 0, 0), (1, .aload_n 0, 1, 0, 0), (2, .getfield 546, 3, 12, 87), (5, .if_icmp .ne 96, 3, 101, 0), (8, .iconst 0, 1, 0, 0), (9, .istore 5, 2, 0, 0), (11, .iconst 0, 1, 0, 0), (12, .istore 6, 2, 0, 0), (14, .iload 6, 2, 0, 0), (16, .bipush 8, 2, 0, 0), (18, .if_icmp .ge 29, 3, 47, 0), (21, .iload 5, 2, 0, 0), (23, .aload_n 0, 1, 0, 0), (24, .getfield 234, 3, 12, 92), (27, .iload 6, 2, 0, 0), (29, .iaload, 1, 0, 0), (30, .ifCond .le 7, 3, 37, 0), (33, .iconst 1, 1, 0, 0), (34, .goto 4, 3, 38, 0), (37, .iconst 0, 1, 0, 0), (38, .iadd, 1, 0, 0), (39, .istore 5, 2, 0, 0), (41, .iinc 6 1, 3, 0, 0), (44, .goto (-30), 3, 14, 0), (47, .iload 5, 2, 0, 0), (49, .iload 4, 2, 0, 0), (51, .if_icmp .lt 11, 3, 62, 0), (54, .iload_n 2, 1, 0, 0), (55, .aload_n 0, 1, 0, 0), (56, .getfield 549, 3, 12, 94), (59, .if_icmp .gt 4, 3, 63, 0), (62, .return_, 1, 0, 0), (63, .aload_n 0, 1, 0, 0), (64, .iload_n 2, 1, 0, 0), (65, .putfield 549, 3, 12, 94), (68, .iconst 0, 1, 0, 0), (69, .istore 6, 2, 0, 0), (71, .iload 6, 2, 0, 0), (73, .aload_n 0, 1, 0, 0), (74, .getfield 546, 3, 12, 87), (77, .if_icmp .ge 23, 3, 100, 0), (80, .aload_n 0, 1, 0, 0), (81, .getfield 231, 3, 12, 91), (84, .iload 6, 2, 0, 0), (86, .aload_n 0, 1, 0, 0), (87, .getfield 228, 3, 12, 90), (90, .iload 6, 2, 0, 0), (92, .iaload, 1, 0, 0), (93, .iastore, 1, 0, 0), (94, .iinc 6 1, 3, 0, 0), (97, .goto (-26), 3, 71, 0), (100, .return_, 1, 0, 0), (101, .iconst 0, 1, 0, 0), (102, .istore 5, 2, 0, 0), (104, .iload 5, 2, 0, 0), (106, .bipush 8, 2, 0, 0), (108, .if_icmp .ge 99, 3, 207, 0), (111, .bipush 100, 2, 0, 0), (113, .aload_n 0, 1, 0, 0), (114, .getfield 234, 3, 12, 92), (117, .iload 5, 2, 0, 0), (119, .iaload, 1, 0, 0), (120, .aload_n 0, 1, 0, 0), (121, .getfield 222, 3, 12, 88), (124, .iload_n 1, 1, 0, 0), (125, .iaload, 1, 0, 0), (126, .iadd, 1, 0, 0), (127, .imul, 1, 0, 0), (128, .iload_n 3, 1, 0, 0), (129, .if_icmp .le 6, 3, 135, 0), (132, .goto 69, 3, 201, 0), (135, .aload_n 0, 1, 0, 0), (136, .getfield 228, 3, 12, 90), (139, .iload_n 1, 1, 0, 0), (140, .iload 5, 2, 0, 0), (142, .iastore, 1, 0, 0), (143, .aload_n 0, 1, 0, 0), (144, .getfield 234, 3, 12, 92), (147, .iload 5, 2, 0, 0), (149, .dup2, 1, 0, 0), (150, .iaload, 1, 0, 0), (151, .aload_n 0, 1, 0, 0), (152, .getfield 222, 3, 12, 88), (155, .iload_n 1, 1, 0, 0), (156, .iaload, 1, 0, 0), (157, .iadd, 1, 0, 0), (158, .iastore, 1, 0, 0), (159, .aload_n 0, 1, 0, 0), (160, .iload_n 1, 1, 0, 0), (161, .iconst 1, 1, 0, 0), (162, .iadd, 1, 0, 0), (163, .iload_n 2, 1, 0, 0), (164, .aload_n 0, 1, 0, 0), (165, .getfield 222, 3, 12, 88), (168, .iload_n 1, 1, 0, 0), (169, .iaload, 1, 0, 0), (170, .aload_n 0, 1, 0, 0), (171, .getfield 225, 3, 12, 89), (174, .iload 5, 2, 0, 0), (176, .iaload, 1, 0, 0), (177, .imul, 1, 0, 0), (178, .iadd, 1, 0, 0), (179, .iload_n 3, 1, 0, 0), (180, .iload 4, 2, 0, 0), (182, .invokevirtual 552, 3, 301, 0), (185, .aload_n 0, 1, 0, 0), (186, .getfield 234, 3, 12, 92), (189, .iload 5, 2, 0, 0), (191, .dup2, 1, 0, 0), (192, .iaload, 1, 0, 0), (193, .aload_n 0, 1, 0, 0), (194, .getfield 222, 3, 12, 88), (197, .iload_n 1, 1, 0, 0), (198, .iaload, 1, 0, 0), (199, .isub, 1, 0, 0), (200, .iastore, 1, 0, 0), (201, .iinc 5 1, 3, 0, 0), (204, .goto (-100), 3, 104, 0), (207, .return_, 1, 0, 0)]
def zM301 : aM := (12, ⟨"AcresPaidModel", "mixOn", "(IIII)V"⟩, prog_14_method_108_code, 7, none, 4, 0, zI301)
def zI302 : List aI := [(0, .aload_n 0, 1, 0, 0), (1, .getfield 546, 3, 12, 87), (4, .ifCond .eq 22, 3, 26, 0), (7, .iload_n 1, 1, 0, 0), (8, .iconst 1, 1, 0, 0), (9, .bipush 100, 2, 0, 0), (11, .invokestatic 258, 3, 196, 0), (14, .ifCond .eq 12, 3, 26, 0), (17, .iload_n 2, 1, 0, 0), (18, .iconst 1, 1, 0, 0), (19, .iconst 3, 1, 0, 0), (20, .invokestatic 258, 3, 196, 0), (23, .ifCond .ne 5, 3, 28, 0), (26, .iconst (-1), 1, 0, 0), (27, .ireturn, 1, 0, 0), (28, .iconst 0, 1, 0, 0), (29, .istore_n 3, 1, 0, 0), (30, .iconst 0, 1, 0, 0), (31, .istore 4, 2, 0, 0), (33, .iload 4, 2, 0, 0), (35, .aload_n 0, 1, 0, 0), (36, .getfield 546, 3, 12, 87), (39, .if_icmp .ge 19, 3, 58, 0), (42, .iload_n 3, 1, 0, 0), (43, .aload_n 0, 1, 0, 0), (44, .getfield 222, 3, 12, 88), (47, .iload 4, 2, 0, 0), (49, .iaload, 1, 0, 0), (50, .iadd, 1, 0, 0), (51, .istore_n 3, 1, 0, 0), (52, .iinc 4 1, 3, 0, 0), (55, .goto (-22), 3, 33, 0), (58, .iconst 0, 1, 0, 0), (59, .istore 4, 2, 0, 0), (61, .iload 4, 2, 0, 0), (63, .bipush 8, 2, 0, 0), (65, .if_icmp .ge 17, 3, 82, 0), (68, .aload_n 0, 1, 0, 0), (69, .getfield 234, 3, 12, 92), (72, .iload 4, 2, 0, 0), (74, .iconst 0, 1, 0, 0), (75, .iastore, 1, 0, 0), (76, .iinc 4 1, 3, 0, 0), (79, .goto (-18), 3, 61, 0), (82, .aload_n 0, 1, 0, 0), (83, .iconst (-1), 1, 0, 0), (84, .putfield 549, 3, 12, 94), (87, .aload_n 0, 1, 0, 0), (88, .iconst 0, 1, 0, 0), (89, .iconst 0, 1, 0, 0), (90, .iload_n 1, 1, 0, 0), (91, .iload_n 3, 1, 0, 0), (92, .imul, 1, 0, 0), (93, .iload_n 2, 1, 0, 0), (94, .invokevirtual 552, 3, 301, 0), (97, .aload_n 0, 1, 0, 0), (98, .getfield 546, 3, 12, 87), (101, .istore 4, 2, 0, 0), (103, .aload_n 0, 1, 0, 0), (104, .iconst 0, 1, 0, 0), (105, .putfield 546, 3, 12, 87), (108, .aload_n 0, 1, 0, 0), (109, .getfield 549, 3, 12, 94), (112, .ifCond .ge 6, 3, 118, 0), (115, .bipush (-2), 2, 0, 0), (117, .ireturn, 1, 0, 0), (118, .aload_n 0, 1, 0, 0), (119, .iload 4, 2, 0, 0), (121, .putfield 237, 3, 12, 93), (124, .aload_n 0, 1, 0, 0), (125, .getfield 549, 3, 12, 94), (128, .ireturn, 1, 0, 0)]
def zM302 : aM := (12, ⟨"AcresPaidModel", "mix", "(II)I"⟩, prog_14_method_109_code, 5, (Option.some .int), 2, 0, zI302)
def zI303 : List aI := [(0, .iload_n 1, 1, 0, 0), (1, .iconst 0, 1, 0, 0), (2, .aload_n 0, 1, 0, 0), (3, .getfield 237, 3, 12, 93), (6, .iconst 1, 1, 0, 0), (7, .isub, 1, 0, 0), (8, .invokestatic 258, 3, 196, 0), (11, .ifCond .eq 12, 3, 23, 0), (14, .aload_n 0, 1, 0, 0), (15, .getfield 231, 3, 12, 91), (18, .iload_n 1, 1, 0, 0), (19, .iaload, 1, 0, 0), (20, .goto 4, 3, 24, 0), (23, .iconst (-1), 1, 0, 0), (24, .ireturn, 1, 0, 0)]
def zM303 : aM := (12, ⟨"AcresPaidModel", "mixed", "(I)I"⟩, prog_14_method_110_code, 2, (Option.some .int), 1, 0, zI303)
def zI304 : List aI := [(0, .iload_n 1, 1, 0, 0), (1, .iconst 0, 1, 0, 0), (2, .aload_n 0, 1, 0, 0), (3, .getfield 445, 3, 12, 55), (6, .iconst 1, 1, 0, 0), (7, .isub, 1, 0, 0), (8, .invokestatic 258, 3, 196, 0), (11, .ifCond .eq 39, 3, 50, 0), (14, .aload_n 0, 1, 0, 0), (15, .getfield 152, 3, 12, 56), (18, .iload_n 1, 1, 0, 0), (19, .iaload, 1, 0, 0), (20, .bipush 10, 2, 0, 0), (22, .irem, 1, 0, 0), (23, .ifCond .ne 27, 3, 50, 0), (26, .iload_n 2, 1, 0, 0), (27, .invokestatic 280, 3, 206, 0), (30, .ifCond .eq 20, 3, 50, 0), (33, .iload_n 3, 1, 0, 0), (34, .invokestatic 372, 3, 198, 0), (37, .ifCond .eq 13, 3, 50, 0), (40, .iload 4, 2, 0, 0), (42, .iconst 0, 1, 0, 0), (43, .iconst 1, 1, 0, 0), (44, .invokestatic 258, 3, 196, 0), (47, .ifCond .ne 5, 3, 52, 0), (50, .iconst (-1), 1, 0, 0), (51, .ireturn, 1, 0, 0), (52, .iconst 0, 1, 0, 0), (53, .istore 5, 2, 0, 0), (55, .iconst 0, 1, 0, 0), (56, .istore 6, 2, 0, 0), (58, .iload 6, 2, 0, 0), (60, .aload_n 0, 1, 0, 0), (61, .getfield 265, 3, 12, 2), (64, .if_icmp .ge 97, 3, 161, 0), (67, .aload_n 0, 1, 0, 0), (68, .iload 6, 2, 0, 0), (70, .invokevirtual 316, 3, 202, 0), (73, .ifCond .eq 82, 3, 155, 0), (76, .aload_n 0, 1, 0, 0), (77, .getfield 13, 3, 12, 4), (80, .iload 6, 2, 0, 0), (82, .iaload, 1, 0, 0), (83, .iload_n 2, 1, 0, 0), (84, .if_icmp .eq 6, 3, 90, 0), (87, .goto 68, 3, 155, 0), (90, .aload_n 0, 1, 0, 0), (91, .iload 6, 2, 0, 0), (93, .iload_n 3, 1, 0, 0), (94, .aload_n 0, 1, 0, 0), (95, .getfield 262, 3, 12, 1), (98, .iconst (-1), 1, 0, 0), (99, .invokevirtual 502, 3, 277, 0), (102, .istore 7, 2, 0, 0), (104, .aload_n 0, 1, 0, 0), (105, .iload 6, 2, 0, 0), (107, .iload_n 3, 1, 0, 0), (108, .aload_n 0, 1, 0, 0), (109, .getfield 262, 3, 12, 1), (112, .iload_n 1, 1, 0, 0), (113, .invokevirtual 502, 3, 277, 0), (116, .istore 8, 2, 0, 0), (118, .iload 5, 2, 0, 0), (120, .iload 4, 2, 0, 0), (122, .ifCond .ne 18, 3, 140, 0), (125, .iload 8, 2, 0, 0), (127, .iload 7, 2, 0, 0), (129, .if_icmp .le 7, 3, 136, 0), (132, .iconst 1, 1, 0, 0), (133, .goto 19, 3, 152, 0), (136, .iconst 0, 1, 0, 0), (137, .goto 15, 3, 152, 0), (140, .iload 8, 2, 0, 0), (142, .iload 7, 2, 0, 0), (144, .if_icmp .ge 7, 3, 151, 0), (147, .iconst 1, 1, 0, 0), (148, .goto 4, 3, 152, 0), (151, .iconst 0, 1, 0, 0), (152, .iadd, 1, 0, 0), (153, .istore 5, 2, 0, 0), (155, .iinc 6 1, 3, 0, 0), (158, .goto (-100), 3, 58, 0), (161, .iload 5, 2, 0, 0), (163, .ireturn, 1, 0, 0)]
def zM304 : aM := (12, ⟨"AcresPaidModel", "tried", "(IIII)I"⟩, prog_14_method_111_code, 9, (Option.some .int), 4, 0, zI304)
def zI305 : List aI := [(0, .aload_n 0, 1, 0, 0), (1, .getfield 556, 3, 12, 95), (4, .bipush 24, 2, 0, 0), (6, .if_icmp .ge 13, 3, 19, 0), (9, .aload_n 0, 1, 0, 0), (10, .getfield 240, 3, 12, 96), (13, .aload_n 0, 1, 0, 0), (14, .getfield 556, 3, 12, 95), (17, .iload_n 1, 1, 0, 0), (18, .iastore, 1, 0, 0), (19, .aload_n 0, 1, 0, 0), (20, .dup, 1, 0, 0), (21, .getfield 556, 3, 12, 95), (24, .iconst 1, 1, 0, 0), (25, .iadd, 1, 0, 0), (26, .putfield 556, 3, 12, 95), (29, .return_, 1, 0, 0)]
def zM305 : aM := (12, ⟨"AcresPaidModel", "ran", "(I)V"⟩, prog_14_method_112_code, 2, none, 1, 0, zI305)
def zI306 : List aI := [(0, .aload_n 0, 1, 0, 0), (1, .iconst 1, 1, 0, 0), (2, .invokevirtual 559, 3, 305, 0), (5, .iload_n 2, 1, 0, 0), (6, .iconst 2, 1, 0, 0), (7, .imul, 1, 0, 0), (8, .iload_n 1, 1, 0, 0), (9, .isub, 1, 0, 0), (10, .ireturn, 1, 0, 0)]
def zM306 : aM := (12, ⟨"AcresPaidModel", "plainYields", "(II)I"⟩, prog_14_method_113_code, 3, (Option.some .int), 2, 0, zI306)
def zI307 : List aI := [(0, .aload_n 0, 1, 0, 0), (1, .bipush 20, 2, 0, 0), (3, .invokevirtual 559, 3, 305, 0), (6, .aload_n 0, 1, 0, 0), (7, .iload_n 1, 1, 0, 0), (8, .iload_n 2, 1, 0, 0), (9, .invokevirtual 562, 3, 306, 0), (12, .aload_n 0, 1, 0, 0), (13, .getfield 13, 3, 12, 4), (16, .iload_n 1, 1, 0, 0), (17, .iaload, 1, 0, 0), (18, .iadd, 1, 0, 0), (19, .ireturn, 1, 0, 0)]
def zM307 : aM := (12, ⟨"AcresPaidModel", "farmYields", "(II)I"⟩, prog_14_method_114_code, 3, (Option.some .int), 2, 0, zI307)
def zI308 : List aI := [(0, .aload_n 0, 1, 0, 0), (1, .getfield 7, 3, 12, 3), (4, .iload_n 1, 1, 0, 0), (5, .iaload, 1, 0, 0), (6, .iconst 3, 1, 0, 0), (7, .if_icmp .ne 17, 3, 24, 0), (10, .aload_n 0, 1, 0, 0), (11, .bipush 40, 2, 0, 0), (13, .invokevirtual 559, 3, 305, 0), (16, .aload_n 0, 1, 0, 0), (17, .iload_n 1, 1, 0, 0), (18, .iload_n 2, 1, 0, 0), (19, .invokevirtual 565, 3, 307, 0), (22, .ineg, 1, 0, 0), (23, .ireturn, 1, 0, 0), (24, .aload_n 0, 1, 0, 0), (25, .getfield 7, 3, 12, 3), (28, .iload_n 1, 1, 0, 0), (29, .iaload, 1, 0, 0), (30, .bipush 7, 2, 0, 0), (32, .if_icmp .ne 18, 3, 50, 0), (35, .aload_n 0, 1, 0, 0), (36, .bipush 80, 2, 0, 0), (38, .invokevirtual 559, 3, 305, 0), (41, .aload_n 0, 1, 0, 0), (42, .iload_n 1, 1, 0, 0), (43, .iload_n 2, 1, 0, 0), (44, .invokevirtual 565, 3, 307, 0), (47, .iconst 3, 1, 0, 0), (48, .ixor, 1, 0, 0), (49, .ireturn, 1, 0, 0), (50, .aload_n 0, 1, 0, 0), (51, .getfield 7, 3, 12, 3), (54, .iload_n 1, 1, 0, 0), (55, .iaload, 1, 0, 0), (56, .iconst 1, 1, 0, 0), (57, .invokestatic 272, 3, 201, 0), (60, .ifCond .eq 12, 3, 72, 0), (63, .aload_n 0, 1, 0, 0), (64, .iload_n 1, 1, 0, 0), (65, .iload_n 2, 1, 0, 0), (66, .invokevirtual 565, 3, 307, 0), (69, .goto 9, 3, 78, 0), (72, .aload_n 0, 1, 0, 0), (73, .iload_n 1, 1, 0, 0), (74, .iload_n 2, 1, 0, 0), (75, .invokevirtual 562, 3, 306, 0), (78, .ireturn, 1, 0, 0)]
def zM308 : aM := (12, ⟨"AcresPaidModel", "yields", "(II)I"⟩, prog_14_method_115_code, 3, (Option.some .int), 2, 0, zI308)
def zI309 : List aI := [(0, .aload_n 0, 1, 0, 0), (1, .bipush 10, 2, 0, 0), (3, .invokevirtual 559, 3, 305, 0), (6, .aload_n 0, 1, 0, 0), (7, .iload_n 1, 1, 0, 0), (8, .iload_n 2, 1, 0, 0), (9, .invokevirtual 568, 3, 308, 0), (12, .iconst 1, 1, 0, 0), (13, .iadd, 1, 0, 0), (14, .ireturn, 1, 0, 0)]
def zM309 : aM := (12, ⟨"AcresPaidModel", "plainClaims", "(II)I"⟩, prog_14_method_116_code, 3, (Option.some .int), 2, 0, zI309)
def zI310 : List aI := [(0, .aload_n 0, 1, 0, 0), (1, .bipush 30, 2, 0, 0), (3, .invokevirtual 559, 3, 305, 0), (6, .aload_n 0, 1, 0, 0), (7, .iload_n 1, 1, 0, 0), (8, .iload_n 2, 1, 0, 0), (9, .invokevirtual 571, 3, 309, 0), (12, .iconst 2, 1, 0, 0), (13, .imul, 1, 0, 0), (14, .ireturn, 1, 0, 0)]
def zM310 : aM := (12, ⟨"AcresPaidModel", "youngClaims", "(II)I"⟩, prog_14_method_117_code, 3, (Option.some .int), 2, 0, zI310)
def zI311 : List aI := [(0, .aload_n 0, 1, 0, 0), (1, .getfield 7, 3, 12, 3), (4, .iload_n 1, 1, 0, 0), (5, .iaload, 1, 0, 0), (6, .bipush 7, 2, 0, 0), (8, .if_icmp .ne 25, 3, 33, 0), (11, .aload_n 0, 1, 0, 0), (12, .bipush 81, 2, 0, 0), (14, .invokevirtual 559, 3, 305, 0), (17, .aload_n 0, 1, 0, 0), (18, .iload_n 1, 1, 0, 0), (19, .iload_n 2, 1, 0, 0), (20, .invokevirtual 574, 3, 310, 0), (23, .istore_n 3, 1, 0, 0), (24, .iload_n 3, 1, 0, 0), (25, .aload_n 0, 1, 0, 0), (26, .iload_n 1, 1, 0, 0), (27, .iload_n 2, 1, 0, 0), (28, .invokevirtual 565, 3, 307, 0), (31, .iadd, 1, 0, 0), (32, .ireturn, 1, 0, 0), (33, .aload_n 0, 1, 0, 0), (34, .getfield 7, 3, 12, 3), (37, .iload_n 1, 1, 0, 0), (38, .iaload, 1, 0, 0), (39, .iconst 2, 1, 0, 0), (40, .if_icmp .ne 10, 3, 50, 0), (43, .aload_n 0, 1, 0, 0), (44, .iload_n 1, 1, 0, 0), (45, .iload_n 2, 1, 0, 0), (46, .invokevirtual 574, 3, 310, 0), (49, .ireturn, 1, 0, 0), (50, .aload_n 0, 1, 0, 0), (51, .getfield 7, 3, 12, 3), (54, .iload_n 1, 1, 0, 0), (55, .iaload, 1, 0, 0), (56, .iconst 5, 1, 0, 0), (57, .if_icmp .ne 25, 3, 82, 0), (60, .aload_n 0, 1, 0, 0), (61, .bipush 60, 2, 0, 0), (63, .invokevirtual 559, 3, 305, 0), (66, .aload_n 0, 1, 0, 0), (67, .iload_n 1, 1, 0, 0), (68, .iload_n 2, 1, 0, 0), (69, .invokevirtual 571, 3, 309, 0), (72, .istore_n 3, 1, 0, 0), (73, .iload_n 3, 1, 0, 0), (74, .aload_n 0, 1, 0, 0), (75, .iload_n 1, 1, 0, 0), (76, .iconst 2, 1, 0, 0), (77, .invokevirtual 577, 3, 313, 0), (80, .isub, 1, 0, 0), (81, .ireturn, 1, 0, 0), (82, .aload_n 0, 1, 0, 0), (83, .iload_n 1, 1, 0, 0), (84, .iload_n 2, 1, 0, 0), (85, .invokevirtual 571, 3, 309, 0), (88, .ireturn, 1, 0, 0)]
def zM311 : aM := (12, ⟨"AcresPaidModel", "claimsBy", "(II)I"⟩, prog_14_method_118_code, 4, (Option.some .int), 2, 0, zI311)
def zI312 : List aI := [(0, .aload_n 0, 1, 0, 0), (1, .bipush 11, 2, 0, 0), (3, .invokevirtual 559, 3, 305, 0), (6, .iload_n 2, 1, 0, 0), (7, .iload_n 1, 1, 0, 0), (8, .ixor, 1, 0, 0), (9, .ireturn, 1, 0, 0)]
def zM312 : aM := (12, ⟨"AcresPaidModel", "plainHolds", "(II)I"⟩, prog_14_method_119_code, 3, (Option.some .int), 2, 0, zI312)
def zI313 : List aI := [(0, .aload_n 0, 1, 0, 0), (1, .getfield 7, 3, 12, 3), (4, .iload_n 1, 1, 0, 0), (5, .iaload, 1, 0, 0), (6, .iconst 4, 1, 0, 0), (7, .invokestatic 272, 3, 201, 0), (10, .ifCond .eq 23, 3, 33, 0), (13, .aload_n 0, 1, 0, 0), (14, .bipush 50, 2, 0, 0), (16, .invokevirtual 559, 3, 305, 0), (19, .aload_n 0, 1, 0, 0), (20, .iload_n 1, 1, 0, 0), (21, .iload_n 2, 1, 0, 0), (22, .invokevirtual 580, 3, 312, 0), (25, .aload_n 0, 1, 0, 0), (26, .getfield 25, 3, 12, 8), (29, .iload_n 1, 1, 0, 0), (30, .iaload, 1, 0, 0), (31, .iadd, 1, 0, 0), (32, .ireturn, 1, 0, 0), (33, .aload_n 0, 1, 0, 0), (34, .iload_n 1, 1, 0, 0), (35, .iload_n 2, 1, 0, 0), (36, .invokevirtual 580, 3, 312, 0), (39, .ireturn, 1, 0, 0)]
def zM313 : aM := (12, ⟨"AcresPaidModel", "holdsBy", "(II)I"⟩, prog_14_method_120_code, 3, (Option.some .int), 2, 0, zI313)
def zI314 : List aI := [(0, .aload_n 0, 1, 0, 0), (1, .iconst 2, 1, 0, 0), (2, .invokevirtual 559, 3, 305, 0), (5, .aload_n 0, 1, 0, 0), (6, .iload_n 1, 1, 0, 0), (7, .iload_n 2, 1, 0, 0), (8, .invokevirtual 583, 3, 311, 0), (11, .istore_n 3, 1, 0, 0), (12, .aload_n 0, 1, 0, 0), (13, .iload_n 1, 1, 0, 0), (14, .iload_n 3, 1, 0, 0), (15, .invokevirtual 577, 3, 313, 0), (18, .ireturn, 1, 0, 0)]
def zM314 : aM := (12, ⟨"AcresPaidModel", "plainTells", "(II)I"⟩, prog_14_method_121_code, 4, (Option.some .int), 2, 0, zI314)
def zI315 : List aI := [(0, .aload_n 0, 1, 0, 0), (1, .getfield 7, 3, 12, 3), (4, .iload_n 1, 1, 0, 0), (5, .iaload, 1, 0, 0), (6, .iconst 3, 1, 0, 0), (7, .if_icmp .ne 25, 3, 32, 0), (10, .aload_n 0, 1, 0, 0), (11, .bipush 41, 2, 0, 0), (13, .invokevirtual 559, 3, 305, 0), (16, .aload_n 0, 1, 0, 0), (17, .iload_n 1, 1, 0, 0), (18, .iload_n 2, 1, 0, 0), (19, .invokevirtual 586, 3, 314, 0), (22, .istore_n 3, 1, 0, 0), (23, .iload_n 3, 1, 0, 0), (24, .aload_n 0, 1, 0, 0), (25, .iload_n 1, 1, 0, 0), (26, .iconst 1, 1, 0, 0), (27, .invokevirtual 568, 3, 308, 0), (30, .iadd, 1, 0, 0), (31, .ireturn, 1, 0, 0), (32, .aload_n 0, 1, 0, 0), (33, .getfield 7, 3, 12, 3), (36, .iload_n 1, 1, 0, 0), (37, .iaload, 1, 0, 0), (38, .bipush 6, 2, 0, 0), (40, .if_icmp .ne 18, 3, 58, 0), (43, .aload_n 0, 1, 0, 0), (44, .bipush 70, 2, 0, 0), (46, .invokevirtual 559, 3, 305, 0), (49, .aload_n 0, 1, 0, 0), (50, .iload_n 1, 1, 0, 0), (51, .iload_n 2, 1, 0, 0), (52, .iconst 1, 1, 0, 0), (53, .iadd, 1, 0, 0), (54, .invokevirtual 586, 3, 314, 0), (57, .ireturn, 1, 0, 0), (58, .aload_n 0, 1, 0, 0), (59, .iload_n 1, 1, 0, 0), (60, .iload_n 2, 1, 0, 0), (61, .invokevirtual 586, 3, 314, 0), (64, .ireturn, 1, 0, 0)]
def zM315 : aM := (12, ⟨"AcresPaidModel", "tells", "(II)I"⟩, prog_14_method_122_code, 4, (Option.some .int), 2, 0, zI315)
def zI316 : List aI := [(0, .aload_n 0, 1, 0, 0), (1, .iconst 0, 1, 0, 0), (2, .putfield 556, 3, 12, 95), (5, .aload_n 0, 1, 0, 0), (6, .iload_n 1, 1, 0, 0), (7, .invokevirtual 268, 3, 200, 0), (10, .ifCond .eq 12, 3, 22, 0), (13, .iload_n 2, 1, 0, 0), (14, .iconst 0, 1, 0, 0), (15, .iconst 3, 1, 0, 0), (16, .invokestatic 258, 3, 196, 0), (19, .ifCond .ne 5, 3, 24, 0), (22, .iconst 0, 1, 0, 0), (23, .ireturn, 1, 0, 0), (24, .iload_n 2, 1, 0, 0), (25, .ifCond .ne 12, 3, 37, 0), (28, .aload_n 0, 1, 0, 0), (29, .iload_n 1, 1, 0, 0), (30, .iload_n 3, 1, 0, 0), (31, .invokevirtual 568, 3, 308, 0), (34, .goto 37, 3, 71, 0), (37, .iload_n 2, 1, 0, 0), (38, .iconst 1, 1, 0, 0), (39, .if_icmp .ne 12, 3, 51, 0), (42, .aload_n 0, 1, 0, 0), (43, .iload_n 1, 1, 0, 0), (44, .iload_n 3, 1, 0, 0), (45, .invokevirtual 583, 3, 311, 0), (48, .goto 23, 3, 71, 0), (51, .iload_n 2, 1, 0, 0), (52, .iconst 2, 1, 0, 0), (53, .if_icmp .ne 12, 3, 65, 0), (56, .aload_n 0, 1, 0, 0), (57, .iload_n 1, 1, 0, 0), (58, .iload_n 3, 1, 0, 0), (59, .invokevirtual 577, 3, 313, 0), (62, .goto 9, 3, 71, 0), (65, .aload_n 0, 1, 0, 0), (66, .iload_n 1, 1, 0, 0), (67, .iload_n 3, 1, 0, 0), (68, .invokevirtual 589, 3, 315, 0), (71, .ireturn, 1, 0, 0)]
def zM316 : aM := (12, ⟨"AcresPaidModel", "act", "(III)I"⟩, prog_14_method_123_code, 4, (Option.some .int), 3, 0, zI316)
def zI317 : List aI := [(0, .iload_n 1, 1, 0, 0), (1, .ifCond .lt 26, 3, 27, 0), (4, .iload_n 1, 1, 0, 0), (5, .aload_n 0, 1, 0, 0), (6, .getfield 556, 3, 12, 95), (9, .if_icmp .ge 18, 3, 27, 0), (12, .iload_n 1, 1, 0, 0), (13, .bipush 24, 2, 0, 0), (15, .if_icmp .ge 12, 3, 27, 0), (18, .aload_n 0, 1, 0, 0), (19, .getfield 240, 3, 12, 96), (22, .iload_n 1, 1, 0, 0), (23, .iaload, 1, 0, 0), (24, .goto 4, 3, 28, 0), (27, .iconst (-1), 1, 0, 0), (28, .ireturn, 1, 0, 0)]
def zM317 : aM := (12, ⟨"AcresPaidModel", "trace", "(I)I"⟩, prog_14_method_124_code, 2, (Option.some .int), 1, 0, zI317)
def zI318 : List aI := [(0, .iload_n 0, 1, 0, 0), (1, .iconst 0, 1, 0, 0), (2, .iconst 5, 1, 0, 0), (3, .invokestatic 258, 3, 196, 0), (6, .ireturn, 1, 0, 0)]
def zM318 : aM := (12, ⟨"AcresPaidModel", "isShelf", "(I)Z"⟩, prog_14_method_125_code, 1, (Option.some .boolean), 1, 1, zI318)
def zI319 : List aI := [(0, .iload_n 1, 1, 0, 0), (1, .invokestatic 382, 3, 318, 0), (4, .ifCond .eq 16, 3, 20, 0), (7, .iload_n 2, 1, 0, 0), (8, .iconst (-1), 1, 0, 0), (9, .if_icmp .eq 13, 3, 22, 0), (12, .aload_n 0, 1, 0, 0), (13, .iload_n 2, 1, 0, 0), (14, .invokevirtual 268, 3, 200, 0), (17, .ifCond .ne 5, 3, 22, 0), (20, .iconst (-1), 1, 0, 0), (21, .ireturn, 1, 0, 0), (22, .aload_n 0, 1, 0, 0), (23, .getfield 243, 3, 12, 97), (26, .iload_n 1, 1, 0, 0), (27, .iload_n 2, 1, 0, 0), (28, .iastore, 1, 0, 0), (29, .iconst 1, 1, 0, 0), (30, .ireturn, 1, 0, 0)]
def zM319 : aM := (12, ⟨"AcresPaidModel", "keep", "(II)I"⟩, prog_14_method_126_code, 3, (Option.some .int), 2, 0, zI319)
def zI320 : List aI := [(0, .iload_n 1, 1, 0, 0), (1, .invokestatic 382, 3, 318, 0), (4, .ifCond .eq 18, 3, 22, 0), (7, .iload_n 2, 1, 0, 0), (8, .iconst 0, 1, 0, 0), (9, .iconst 4, 1, 0, 0), (10, .invokestatic 258, 3, 196, 0), (13, .ifCond .eq 9, 3, 22, 0), (16, .iload_n 3, 1, 0, 0), (17, .bipush 60, 2, 0, 0), (19, .if_icmp .le 5, 3, 24, 0), (22, .iconst (-1), 1, 0, 0), (23, .ireturn, 1, 0, 0), (24, .iload_n 3, 1, 0, 0), (25, .ifCond .ge 6, 3, 31, 0), (28, .bipush (-14), 2, 0, 0), (30, .ireturn, 1, 0, 0), (31, .aload_n 0, 1, 0, 0), (32, .getfield 243, 3, 12, 97), (35, .iload_n 1, 1, 0, 0), (36, .bipush (-2), 2, 0, 0), (38, .iload_n 2, 1, 0, 0), (39, .isub, 1, 0, 0), (40, .iastore, 1, 0, 0), (41, .aload_n 0, 1, 0, 0), (42, .getfield 246, 3, 12, 98), (45, .iload_n 1, 1, 0, 0), (46, .iload_n 3, 1, 0, 0), (47, .iastore, 1, 0, 0), (48, .bipush 60, 2, 0, 0), (50, .iload_n 1, 1, 0, 0), (51, .imul, 1, 0, 0), (52, .istore 4, 2, 0, 0), (54, .iload 4, 2, 0, 0), (56, .bipush 60, 2, 0, 0), (58, .iload_n 1, 1, 0, 0), (59, .imul, 1, 0, 0), (60, .bipush 60, 2, 0, 0), (62, .iadd, 1, 0, 0), (63, .if_icmp .ge 17, 3, 80, 0), (66, .aload_n 0, 1, 0, 0), (67, .getfield 249, 3, 12, 99), (70, .iload 4, 2, 0, 0), (72, .lconst 0, 1, 0, 0), (73, .lastore, 1, 0, 0), (74, .iinc 4 1, 3, 0, 0), (77, .goto (-23), 3, 54, 0), (80, .iconst 1, 1, 0, 0), (81, .ireturn, 1, 0, 0)]
def zM320 : aM := (12, ⟨"AcresPaidModel", "row", "(III)I"⟩, prog_14_method_127_code, 5, (Option.some .int), 3, 0, zI320)
def zI321 : List aI := [(0, .iload_n 1, 1, 0, 0), (1, .invokestatic 382, 3, 318, 0), (4, .ifCond .ne 5, 3, 9, 0), (7, .iconst (-1), 1, 0, 0), (8, .ireturn, 1, 0, 0), (9, .aload_n 0, 1, 0, 0), (10, .getfield 243, 3, 12, 97), (13, .iload_n 1, 1, 0, 0), (14, .iaload, 1, 0, 0), (15, .iconst (-1), 1, 0, 0), (16, .if_icmp .ne 6, 3, 22, 0), (19, .bipush (-11), 2, 0, 0), (21, .ireturn, 1, 0, 0), (22, .aload_n 0, 1, 0, 0), (23, .getfield 243, 3, 12, 97), (26, .iload_n 1, 1, 0, 0), (27, .iaload, 1, 0, 0), (28, .ifCond .lt 6, 3, 34, 0), (31, .bipush (-12), 2, 0, 0), (33, .ireturn, 1, 0, 0), (34, .iload_n 2, 1, 0, 0), (35, .iconst 0, 1, 0, 0), (36, .aload_n 0, 1, 0, 0), (37, .getfield 246, 3, 12, 98), (40, .iload_n 1, 1, 0, 0), (41, .iaload, 1, 0, 0), (42, .iconst 1, 1, 0, 0), (43, .isub, 1, 0, 0), (44, .invokestatic 258, 3, 196, 0), (47, .ifCond .eq 7, 3, 54, 0), (50, .iconst 0, 1, 0, 0), (51, .goto 5, 3, 56, 0), (54, .bipush (-13), 2, 0, 0), (56, .ireturn, 1, 0, 0)]
def zM321 : aM := (12, ⟨"AcresPaidModel", "whyNoPlace", "(II)I"⟩, prog_14_method_128_code, 3, (Option.some .int), 2, 0, zI321)
def zI322 : List aI := [(0, .aload_n 0, 1, 0, 0), (1, .iload_n 1, 1, 0, 0), (2, .iload_n 2, 1, 0, 0), (3, .invokevirtual 592, 3, 321, 0), (6, .istore 5, 2, 0, 0), (8, .iload 5, 2, 0, 0), (10, .ifCond .ge 6, 3, 16, 0), (13, .iload 5, 2, 0, 0), (15, .ireturn, 1, 0, 0), (16, .bipush (-2), 2, 0, 0), (18, .aload_n 0, 1, 0, 0), (19, .getfield 243, 3, 12, 97), (22, .iload_n 1, 1, 0, 0), (23, .iaload, 1, 0, 0), (24, .isub, 1, 0, 0), (25, .istore 6, 2, 0, 0), (27, .aload_n 0, 1, 0, 0), (28, .getfield 249, 3, 12, 99), (31, .bipush 60, 2, 0, 0), (33, .iload_n 1, 1, 0, 0), (34, .imul, 1, 0, 0), (35, .iload_n 2, 1, 0, 0), (36, .iadd, 1, 0, 0), (37, .iload 6, 2, 0, 0), (39, .ifCond .ne 10, 3, 49, 0), (42, .lload_n 3, 1, 0, 0), (43, .l2i, 1, 0, 0), (44, .i2b, 1, 0, 0), (45, .i2l, 1, 0, 0), (46, .goto 49, 3, 95, 0), (49, .iload 6, 2, 0, 0), (51, .iconst 1, 1, 0, 0), (52, .if_icmp .ne 10, 3, 62, 0), (55, .lload_n 3, 1, 0, 0), (56, .l2i, 1, 0, 0), (57, .i2s, 1, 0, 0), (58, .i2l, 1, 0, 0), (59, .goto 36, 3, 95, 0), (62, .iload 6, 2, 0, 0), (64, .iconst 2, 1, 0, 0), (65, .if_icmp .ne 9, 3, 74, 0), (68, .lload_n 3, 1, 0, 0), (69, .l2i, 1, 0, 0), (70, .i2l, 1, 0, 0), (71, .goto 24, 3, 95, 0), (74, .iload 6, 2, 0, 0), (76, .iconst 3, 1, 0, 0), (77, .if_icmp .ne 7, 3, 84, 0), (80, .lload_n 3, 1, 0, 0), (81, .goto 14, 3, 95, 0), (84, .lload_n 3, 1, 0, 0), (85, .lconst 0, 1, 0, 0), (86, .lcmp, 1, 0, 0), (87, .ifCond .eq 7, 3, 94, 0), (90, .lconst 1, 1, 0, 0), (91, .goto 4, 3, 95, 0), (94, .lconst 0, 1, 0, 0), (95, .lastore, 1, 0, 0), (96, .iconst 1, 1, 0, 0), (97, .ireturn, 1, 0, 0)]
def zM322 : aM := (12, ⟨"AcresPaidModel", "put", "(IIJ)I"⟩, prog_14_method_129_code, 7, (Option.some .int), 3, 0, zI322)
def zI323 : List aI := [(0, .aload_n 0, 1, 0, 0), (1, .iload_n 1, 1, 0, 0), (2, .iload_n 2, 1, 0, 0), (3, .invokevirtual 592, 3, 321, 0), (6, .ifCond .ge 9, 3, 15, 0), (9, .ldc2_w 597, 3, 9223372036854775808, 0), (12, .goto 14, 3, 26, 0), (15, .aload_n 0, 1, 0, 0), (16, .getfield 249, 3, 12, 99), (19, .bipush 60, 2, 0, 0), (21, .iload_n 1, 1, 0, 0), (22, .imul, 1, 0, 0), (23, .iload_n 2, 1, 0, 0), (24, .iadd, 1, 0, 0), (25, .laload, 1, 0, 0), (26, .lreturn, 1, 0, 0)]
def zM323 : aM := (12, ⟨"AcresPaidModel", "element", "(II)J"⟩, prog_14_method_130_code, 3, (Option.some .long), 2, 0, zI323)
def zI324 : List aI := [(0, .iload_n 1, 1, 0, 0), (1, .invokestatic 382, 3, 318, 0), (4, .ifCond .eq 10, 3, 14, 0), (7, .iload_n 3, 1, 0, 0), (8, .invokestatic 382, 3, 318, 0), (11, .ifCond .ne 5, 3, 16, 0), (14, .iconst (-1), 1, 0, 0), (15, .ireturn, 1, 0, 0), (16, .aload_n 0, 1, 0, 0), (17, .getfield 243, 3, 12, 97), (20, .iload_n 1, 1, 0, 0), (21, .iaload, 1, 0, 0), (22, .iconst (-1), 1, 0, 0), (23, .if_icmp .eq 13, 3, 36, 0), (26, .aload_n 0, 1, 0, 0), (27, .getfield 243, 3, 12, 97), (30, .iload_n 3, 1, 0, 0), (31, .iaload, 1, 0, 0), (32, .iconst (-1), 1, 0, 0), (33, .if_icmp .ne 6, 3, 39, 0), (36, .bipush (-11), 2, 0, 0), (38, .ireturn, 1, 0, 0), (39, .aload_n 0, 1, 0, 0), (40, .getfield 243, 3, 12, 97), (43, .iload_n 1, 1, 0, 0), (44, .iaload, 1, 0, 0), (45, .ifCond .ge 18, 3, 63, 0), (48, .aload_n 0, 1, 0, 0), (49, .getfield 243, 3, 12, 97), (52, .iload_n 1, 1, 0, 0), (53, .iaload, 1, 0, 0), (54, .aload_n 0, 1, 0, 0), (55, .getfield 243, 3, 12, 97), (58, .iload_n 3, 1, 0, 0), (59, .iaload, 1, 0, 0), (60, .if_icmp .eq 6, 3, 66, 0), (63, .bipush (-12), 2, 0, 0), (65, .ireturn, 1, 0, 0), (66, .iload 5, 2, 0, 0), (68, .ifCond .lt 39, 3, 107, 0), (71, .iload_n 2, 1, 0, 0), (72, .ifCond .lt 35, 3, 107, 0), (75, .iload 4, 2, 0, 0), (77, .ifCond .lt 30, 3, 107, 0), (80, .iload_n 2, 1, 0, 0), (81, .aload_n 0, 1, 0, 0), (82, .getfield 246, 3, 12, 98), (85, .iload_n 1, 1, 0, 0), (86, .iaload, 1, 0, 0), (87, .iload 5, 2, 0, 0), (89, .isub, 1, 0, 0), (90, .if_icmp .gt 17, 3, 107, 0), (93, .iload 4, 2, 0, 0), (95, .aload_n 0, 1, 0, 0), (96, .getfield 246, 3, 12, 98), (99, .iload_n 3, 1, 0, 0), (100, .iaload, 1, 0, 0), (101, .iload 5, 2, 0, 0), (103, .isub, 1, 0, 0), (104, .if_icmp .le 6, 3, 110, 0), (107, .bipush (-13), 2, 0, 0), (109, .ireturn, 1, 0, 0), (110, .iconst 0, 1, 0, 0), (111, .istore 6, 2, 0, 0), (113, .iload 6, 2, 0, 0), (115, .iload 5, 2, 0, 0), (117, .if_icmp .ge 30, 3, 147, 0), (120, .aload_n 0, 1, 0, 0), (121, .getfield 252, 3, 12, 100), (124, .iload 6, 2, 0, 0), (126, .aload_n 0, 1, 0, 0), (127, .getfield 249, 3, 12, 99), (130, .bipush 60, 2, 0, 0), (132, .iload_n 1, 1, 0, 0), (133, .imul, 1, 0, 0), (134, .iload_n 2, 1, 0, 0), (135, .iadd, 1, 0, 0), (136, .iload 6, 2, 0, 0), (138, .iadd, 1, 0, 0), (139, .laload, 1, 0, 0), (140, .lastore, 1, 0, 0), (141, .iinc 6 1, 3, 0, 0), (144, .goto (-31), 3, 113, 0), (147, .iconst 0, 1, 0, 0), (148, .istore 6, 2, 0, 0), (150, .iload 6, 2, 0, 0), (152, .iload 5, 2, 0, 0), (154, .if_icmp .ge 31, 3, 185, 0), (157, .aload_n 0, 1, 0, 0), (158, .getfield 249, 3, 12, 99), (161, .bipush 60, 2, 0, 0), (163, .iload_n 3, 1, 0, 0), (164, .imul, 1, 0, 0), (165, .iload 4, 2, 0, 0), (167, .iadd, 1, 0, 0), (168, .iload 6, 2, 0, 0), (170, .iadd, 1, 0, 0), (171, .aload_n 0, 1, 0, 0), (172, .getfield 252, 3, 12, 100), (175, .iload 6, 2, 0, 0), (177, .laload, 1, 0, 0), (178, .lastore, 1, 0, 0), (179, .iinc 6 1, 3, 0, 0), (182, .goto (-32), 3, 150, 0), (185, .iload 5, 2, 0, 0), (187, .ireturn, 1, 0, 0)]
def zM324 : aM := (12, ⟨"AcresPaidModel", "shift", "(IIIII)I"⟩, prog_14_method_131_code, 7, (Option.some .int), 5, 0, zI324)
def zI325 : List aI := [(0, .iload_n 1, 1, 0, 0), (1, .invokestatic 382, 3, 318, 0), (4, .ifCond .eq 13, 3, 17, 0), (7, .iload_n 2, 1, 0, 0), (8, .iconst 0, 1, 0, 0), (9, .bipush 7, 2, 0, 0), (11, .invokestatic 258, 3, 196, 0), (14, .ifCond .ne 5, 3, 19, 0), (17, .iconst (-1), 1, 0, 0), (18, .ireturn, 1, 0, 0), (19, .aload_n 0, 1, 0, 0), (20, .getfield 243, 3, 12, 97), (23, .iload_n 1, 1, 0, 0), (24, .iaload, 1, 0, 0), (25, .iconst (-1), 1, 0, 0), (26, .if_icmp .ne 6, 3, 32, 0), (29, .bipush (-11), 2, 0, 0), (31, .ireturn, 1, 0, 0), (32, .aload_n 0, 1, 0, 0), (33, .getfield 243, 3, 12, 97), (36, .iload_n 1, 1, 0, 0), (37, .iaload, 1, 0, 0), (38, .ifCond .lt 35, 3, 73, 0), (41, .aload_n 0, 1, 0, 0), (42, .getfield 7, 3, 12, 3), (45, .aload_n 0, 1, 0, 0), (46, .getfield 243, 3, 12, 97), (49, .iload_n 1, 1, 0, 0), (50, .iaload, 1, 0, 0), (51, .iaload, 1, 0, 0), (52, .iload_n 2, 1, 0, 0), (53, .invokestatic 272, 3, 201, 0), (56, .ifCond .eq 17, 3, 73, 0), (59, .aload_n 0, 1, 0, 0), (60, .getfield 7, 3, 12, 3), (63, .aload_n 0, 1, 0, 0), (64, .getfield 243, 3, 12, 97), (67, .iload_n 1, 1, 0, 0), (68, .iaload, 1, 0, 0), (69, .iaload, 1, 0, 0), (70, .goto 5, 3, 75, 0), (73, .bipush (-12), 2, 0, 0), (75, .ireturn, 1, 0, 0)]
def zM325 : aM := (12, ⟨"AcresPaidModel", "taken", "(II)I"⟩, prog_14_method_132_code, 3, (Option.some .int), 2, 0, zI325)
def zI326 : List aI := [(0, .iconst 0, 1, 0, 0), (1, .istore_n 2, 1, 0, 0), (2, .iconst 0, 1, 0, 0), (3, .istore_n 3, 1, 0, 0), (4, .iload_n 3, 1, 0, 0), (5, .aload_n 0, 1, 0, 0), (6, .getfield 265, 3, 12, 2), (9, .if_icmp .ge 30, 3, 39, 0), (12, .iload_n 2, 1, 0, 0), (13, .aload_n 0, 1, 0, 0), (14, .getfield 7, 3, 12, 3), (17, .iload_n 3, 1, 0, 0), (18, .iaload, 1, 0, 0), (19, .iload_n 1, 1, 0, 0), (20, .invokestatic 272, 3, 201, 0), (23, .ifCond .eq 7, 3, 30, 0), (26, .iconst 1, 1, 0, 0), (27, .goto 4, 3, 31, 0), (30, .iconst 0, 1, 0, 0), (31, .iadd, 1, 0, 0), (32, .istore_n 2, 1, 0, 0), (33, .iinc 3 1, 3, 0, 0), (36, .goto (-32), 3, 4, 0), (39, .iload_n 2, 1, 0, 0), (40, .ireturn, 1, 0, 0)]
def zM326 : aM := (12, ⟨"AcresPaidModel", "countOf", "(I)I"⟩, prog_14_method_133_code, 4, (Option.some .int), 1, 0, zI326)
def zI327 : List aI := [(0, .iload_n 1, 1, 0, 0), (1, .tableswitch 127 0 11 #[63, 68, 74, 80, 87, 92, 97, 102, 107, 112, 117, 122], 63, 0, 0), (64, .aload_n 0, 1, 0, 0), (65, .getfield 265, 3, 12, 2), (68, .ireturn, 1, 0, 0), (69, .aload_n 0, 1, 0, 0), (70, .iconst 1, 1, 0, 0), (71, .invokevirtual 599, 3, 326, 0), (74, .ireturn, 1, 0, 0), (75, .aload_n 0, 1, 0, 0), (76, .iconst 4, 1, 0, 0), (77, .invokevirtual 599, 3, 326, 0), (80, .ireturn, 1, 0, 0), (81, .aload_n 0, 1, 0, 0), (82, .bipush 6, 2, 0, 0), (84, .invokevirtual 599, 3, 326, 0), (87, .ireturn, 1, 0, 0), (88, .aload_n 0, 1, 0, 0), (89, .getfield 336, 3, 12, 19), (92, .ireturn, 1, 0, 0), (93, .aload_n 0, 1, 0, 0), (94, .getfield 328, 3, 12, 14), (97, .ireturn, 1, 0, 0), (98, .aload_n 0, 1, 0, 0), (99, .getfield 352, 3, 12, 32), (102, .ireturn, 1, 0, 0), (103, .aload_n 0, 1, 0, 0), (104, .getfield 262, 3, 12, 1), (107, .ireturn, 1, 0, 0), (108, .aload_n 0, 1, 0, 0), (109, .getfield 445, 3, 12, 55), (112, .ireturn, 1, 0, 0), (113, .aload_n 0, 1, 0, 0), (114, .getfield 391, 3, 12, 54), (117, .ireturn, 1, 0, 0), (118, .aload_n 0, 1, 0, 0), (119, .getfield 283, 3, 12, 11), (122, .ireturn, 1, 0, 0), (123, .aload_n 0, 1, 0, 0), (124, .getfield 556, 3, 12, 95), (127, .ireturn, 1, 0, 0), (128, .iconst (-1), 1, 0, 0), (129, .ireturn, 1, 0, 0)]
def zM327 : aM := (12, ⟨"AcresPaidModel", "count", "(I)I"⟩, prog_14_method_134_code, 2, (Option.some .int), 1, 0, zI327)
def zI328 : List aI := [(0, .iload_n 0, 1, 0, 0), (1, .iload_n 1, 1, 0, 0), (2, .if_icmp .ge 7, 3, 9, 0), (5, .iconst (-1), 1, 0, 0), (6, .goto 13, 3, 19, 0), (9, .iload_n 0, 1, 0, 0), (10, .iload_n 1, 1, 0, 0), (11, .if_icmp .ne 7, 3, 18, 0), (14, .iconst 0, 1, 0, 0), (15, .goto 4, 3, 19, 0), (18, .iconst 1, 1, 0, 0), (19, .ireturn, 1, 0, 0)]
def zM328 : aM := (15, ⟨"java/lang/Integer", "compare", "(II)I"⟩, prog_16_method_40_code, 2, (Option.some .int), 2, 1, zI328)
def zI329 : List aI := [(0, .iload_n 0, 1, 0, 0), (1, .iload_n 0, 1, 0, 0), (2, .iconst 1, 1, 0, 0), (3, .iushr, 1, 0, 0), (4, .ldc_w 265, 3, 1431655765, 0), (7, .iand, 1, 0, 0), (8, .isub, 1, 0, 0), (9, .istore_n 0, 1, 0, 0), (10, .iload_n 0, 1, 0, 0), (11, .ldc_w 266, 3, 858993459, 0), (14, .iand, 1, 0, 0), (15, .iload_n 0, 1, 0, 0), (16, .iconst 2, 1, 0, 0), (17, .iushr, 1, 0, 0), (18, .ldc_w 266, 3, 858993459, 0), (21, .iand, 1, 0, 0), (22, .iadd, 1, 0, 0), (23, .istore_n 0, 1, 0, 0), (24, .iload_n 0, 1, 0, 0), (25, .iload_n 0, 1, 0, 0), (26, .iconst 4, 1, 0, 0), (27, .iushr, 1, 0, 0), (28, .iadd, 1, 0, 0), (29, .ldc_w 267, 3, 252645135, 0), (32, .iand, 1, 0, 0), (33, .istore_n 0, 1, 0, 0), (34, .iload_n 0, 1, 0, 0), (35, .iload_n 0, 1, 0, 0), (36, .bipush 8, 2, 0, 0), (38, .iushr, 1, 0, 0), (39, .iadd, 1, 0, 0), (40, .istore_n 0, 1, 0, 0), (41, .iload_n 0, 1, 0, 0), (42, .iload_n 0, 1, 0, 0), (43, .bipush 16, 2, 0, 0), (45, .iushr, 1, 0, 0), (46, .iadd, 1, 0, 0), (47, .istore_n 0, 1, 0, 0), (48, .iload_n 0, 1, 0, 0), (49, .bipush 63, 2, 0, 0), (51, .iand, 1, 0, 0), (52, .ireturn, 1, 0, 0)]
def zM329 : aM := (15, ⟨"java/lang/Integer", "bitCount", "(I)I"⟩, prog_16_method_49_code, 1, (Option.some .int), 1, 1, zI329)
def zI330 : List aI := [(0, .iload_n 1, 1, 0, 0), (1, .iload_n 2, 1, 0, 0), (2, .if_icmp .le 44, 3, 46, 0), (8, .dup, 1, 0, 0), (12, .dup, 1, 0, 0), (21, .iload_n 1, 1, 0, 0), (30, .iload_n 2, 1, 0, 0), (45, .athrow, 1, 0, 0), (46, .iload_n 1, 1, 0, 0), (47, .ifCond .ge 12, 3, 59, 0), (53, .dup, 1, 0, 0), (54, .iload_n 1, 1, 0, 0), (58, .athrow, 1, 0, 0), (59, .iload_n 2, 1, 0, 0), (60, .iload_n 0, 1, 0, 0), (61, .if_icmp .le 12, 3, 73, 0), (67, .dup, 1, 0, 0), (68, .iload_n 2, 1, 0, 0), (72, .athrow, 1, 0, 0), (73, .return_, 1, 0, 0)]
def zM330 : aM := (21, ⟨"java/util/Arrays", "rangeCheck", "(III)V"⟩, prog_22_method_30_code, 3, none, 3, 1, zI330)
def zI331 : List aI := [(0, .aload_n 0, 1, 0, 0), (1, .arraylength, 1, 0, 0), (2, .iload_n 1, 1, 0, 0), (3, .iload_n 2, 1, 0, 0), (4, .invokestatic 13, 3, 330, 0), (7, .iload_n 1, 1, 0, 0), (8, .istore 5, 2, 0, 0), (10, .iload 5, 2, 0, 0), (12, .iload_n 2, 1, 0, 0), (13, .if_icmp .ge 14, 3, 27, 0), (16, .aload_n 0, 1, 0, 0), (17, .iload 5, 2, 0, 0), (19, .lload_n 3, 1, 0, 0), (20, .lastore, 1, 0, 0), (21, .iinc 5 1, 3, 0, 0), (24, .goto (-14), 3, 10, 0), (27, .return_, 1, 0, 0)]
def zM331 : aM := (21, ⟨"java/util/Arrays", "fill", "([JIIJ)V"⟩, prog_22_method_102_code, 6, none, 4, 1, zI331)
def zI332 : List aI := [(0, .iconst 0, 1, 0, 0), (1, .istore_n 2, 1, 0, 0), (2, .aload_n 0, 1, 0, 0), (3, .arraylength, 1, 0, 0), (4, .istore_n 3, 1, 0, 0), (5, .iload_n 2, 1, 0, 0), (6, .iload_n 3, 1, 0, 0), (7, .if_icmp .ge 13, 3, 20, 0), (10, .aload_n 0, 1, 0, 0), (11, .iload_n 2, 1, 0, 0), (12, .iload_n 1, 1, 0, 0), (13, .iastore, 1, 0, 0), (14, .iinc 2 1, 3, 0, 0), (17, .goto (-12), 3, 5, 0), (20, .return_, 1, 0, 0)]
def zM332 : aM := (21, ⟨"java/util/Arrays", "fill", "([II)V"⟩, prog_22_method_103_code, 4, none, 2, 1, zI332)
def zI333_0 : List aI := [(0, .new 7, 3, 11, 0), (3, .dup, 1, 0, 0), (4, .invokespecial 9, 3, 136, 0), (7, .astore_n 1, 1, 0, 0), (8, .new 10, 3, 12, 0), (11, .dup, 1, 0, 0), (12, .invokespecial 12, 3, 195, 0), (15, .astore_n 2, 1, 0, 0), (16, .iconst 0, 1, 0, 0), (17, .istore_n 3, 1, 0, 0), (18, .iload_n 3, 1, 0, 0), (19, .aload_n 0, 1, 0, 0), (20, .arraylength, 1, 0, 0), (21, .bipush 6, 2, 0, 0), (23, .isub, 1, 0, 0), (24, .if_icmp .gt 2057, 3, 2081, 0), (27, .aload_n 0, 1, 0, 0), (28, .iload_n 3, 1, 0, 0), (29, .iaload, 1, 0, 0), (30, .bipush 63, 2, 0, 0), (32, .iand, 1, 0, 0), (33, .tableswitch 2042 0 50 #[219, 242, 255, 288, 321, 334, 347, 380, 403, 436, 479, 502, 545, 588, 631, 664, 707, 770, 823, 856, 899, 952, 975, 1018, 1051, 1084, 1127, 1180, 1233, 1266, 1289, 1332, 1355, 1378, 1401, 1444, 1467, 1510, 1533, 1566, 1599, 1622, 1675, 1718, 1741, 1774, 1817, 1890, 1923, 1986, 2019], 219, 0, 0), (252, .aload_n 1, 1, 0, 0), (253, .aload_n 0, 1, 0, 0), (254, .iload_n 3, 1, 0, 0), (255, .iconst 1, 1, 0, 0), (256, .iadd, 1, 0, 0), (257, .iaload, 1, 0, 0), (258, .invokevirtual 13, 3, 144, 0), (261, .aload_n 2, 1, 0, 0), (262, .aload_n 0, 1, 0, 0), (263, .iload_n 3, 1, 0, 0), (264, .iconst 1, 1, 0, 0), (265, .iadd, 1, 0, 0), (266, .iaload, 1, 0, 0), (267, .invokevirtual 17, 3, 199, 0), (270, .if_icmp .eq 1805, 3, 2075, 0), (273, .iconst 0, 1, 0, 0), (274, .ireturn, 1, 0, 0), (275, .aload_n 1, 1, 0, 0), (276, .invokevirtual 18, 3, 145, 0), (279, .pop, 1, 0, 0), (280, .aload_n 2, 1, 0, 0), (281, .invokevirtual 22, 3, 205, 0), (284, .pop, 1, 0, 0), (285, .goto 1790, 3, 2075, 0), (288, .aload_n 1, 1, 0, 0), (289, .aload_n 0, 1, 0, 0), (290, .iload_n 3, 1, 0, 0), (291, .iconst 1, 1, 0, 0), (292, .iadd, 1, 0, 0), (293, .iaload, 1, 0, 0), (294, .aload_n 0, 1, 0, 0), (295, .iload_n 3, 1, 0, 0), (296, .iconst 2, 1, 0, 0), (297, .iadd, 1, 0, 0), (298, .iaload, 1, 0, 0), (299, .invokevirtual 23, 3, 146, 0), (302, .pop, 1, 0, 0), (303, .aload_n 2, 1, 0, 0), (304, .aload_n 0, 1, 0, 0), (305, .iload_n 3, 1, 0, 0), (306, .iconst 1, 1, 0, 0), (307, .iadd, 1, 0, 0), (308, .iaload, 1, 0, 0), (309, .aload_n 0, 1, 0, 0), (310, .iload_n 3, 1, 0, 0), (311, .iconst 2, 1, 0, 0), (312, .iadd, 1, 0, 0), (313, .iaload, 1, 0, 0), (314, .invokevirtual 27, 3, 207, 0), (317, .pop, 1, 0, 0), (318, .goto 1757, 3, 2075, 0), (321, .aload_n 1, 1, 0, 0), (322, .aload_n 0, 1, 0, 0), (323, .iload_n 3, 1, 0, 0), (324, .iconst 1, 1, 0, 0), (325, .iadd, 1, 0, 0), (326, .iaload, 1, 0, 0), (327, .aload_n 0, 1, 0, 0), (328, .iload_n 3, 1, 0, 0), (329, .iconst 2, 1, 0, 0), (330, .iadd, 1, 0, 0), (331, .iaload, 1, 0, 0), (332, .invokevirtual 28, 3, 147, 0), (335, .pop, 1, 0, 0), (336, .aload_n 2, 1, 0, 0), (337, .aload_n 0, 1, 0, 0), (338, .iload_n 3, 1, 0, 0), (339, .iconst 1, 1, 0, 0), (340, .iadd, 1, 0, 0), (341, .iaload, 1, 0, 0), (342, .aload_n 0, 1, 0, 0), (343, .iload_n 3, 1, 0, 0), (344, .iconst 2, 1, 0, 0), (345, .iadd, 1, 0, 0), (346, .iaload, 1, 0, 0), (347, .invokevirtual 31, 3, 209, 0), (350, .pop, 1, 0, 0), (351, .goto 1724, 3, 2075, 0)]
def zI333_1 : List aI := [(354, .aload_n 1, 1, 0, 0), (355, .invokevirtual 32, 3, 148, 0), (358, .pop, 1, 0, 0), (359, .aload_n 2, 1, 0, 0), (360, .invokevirtual 35, 3, 210, 0), (363, .pop, 1, 0, 0), (364, .goto 1711, 3, 2075, 0), (367, .aload_n 1, 1, 0, 0), (368, .invokevirtual 36, 3, 149, 0), (371, .pop, 1, 0, 0), (372, .aload_n 2, 1, 0, 0), (373, .invokevirtual 39, 3, 220, 0), (376, .pop, 1, 0, 0), (377, .goto 1698, 3, 2075, 0), (380, .aload_n 1, 1, 0, 0), (381, .aload_n 0, 1, 0, 0), (382, .iload_n 3, 1, 0, 0), (383, .iconst 1, 1, 0, 0), (384, .iadd, 1, 0, 0), (385, .iaload, 1, 0, 0), (386, .aload_n 0, 1, 0, 0), (387, .iload_n 3, 1, 0, 0), (388, .iconst 2, 1, 0, 0), (389, .iadd, 1, 0, 0), (390, .iaload, 1, 0, 0), (391, .invokevirtual 40, 3, 150, 0), (394, .pop, 1, 0, 0), (395, .aload_n 2, 1, 0, 0), (396, .aload_n 0, 1, 0, 0), (397, .iload_n 3, 1, 0, 0), (398, .iconst 1, 1, 0, 0), (399, .iadd, 1, 0, 0), (400, .iaload, 1, 0, 0), (401, .aload_n 0, 1, 0, 0), (402, .iload_n 3, 1, 0, 0), (403, .iconst 2, 1, 0, 0), (404, .iadd, 1, 0, 0), (405, .iaload, 1, 0, 0), (406, .invokevirtual 43, 3, 222, 0), (409, .pop, 1, 0, 0), (410, .goto 1665, 3, 2075, 0), (413, .aload_n 1, 1, 0, 0), (414, .aload_n 0, 1, 0, 0), (415, .iload_n 3, 1, 0, 0), (416, .iconst 1, 1, 0, 0), (417, .iadd, 1, 0, 0), (418, .iaload, 1, 0, 0), (419, .invokevirtual 44, 3, 151, 0), (422, .pop, 1, 0, 0), (423, .aload_n 2, 1, 0, 0), (424, .aload_n 0, 1, 0, 0), (425, .iload_n 3, 1, 0, 0), (426, .iconst 1, 1, 0, 0), (427, .iadd, 1, 0, 0), (428, .iaload, 1, 0, 0), (429, .invokevirtual 47, 3, 208, 0), (432, .pop, 1, 0, 0), (433, .goto 1642, 3, 2075, 0), (436, .aload_n 1, 1, 0, 0), (437, .aload_n 0, 1, 0, 0), (438, .iload_n 3, 1, 0, 0), (439, .iconst 1, 1, 0, 0), (440, .iadd, 1, 0, 0), (441, .iaload, 1, 0, 0), (442, .aload_n 0, 1, 0, 0), (443, .iload_n 3, 1, 0, 0), (444, .iconst 2, 1, 0, 0), (445, .iadd, 1, 0, 0), (446, .iaload, 1, 0, 0), (447, .invokevirtual 48, 3, 152, 0), (450, .pop, 1, 0, 0), (451, .aload_n 2, 1, 0, 0), (452, .aload_n 0, 1, 0, 0), (453, .iload_n 3, 1, 0, 0), (454, .iconst 1, 1, 0, 0), (455, .iadd, 1, 0, 0), (456, .iaload, 1, 0, 0), (457, .aload_n 0, 1, 0, 0), (458, .iload_n 3, 1, 0, 0), (459, .iconst 2, 1, 0, 0), (460, .iadd, 1, 0, 0), (461, .iaload, 1, 0, 0), (462, .invokevirtual 51, 3, 228, 0), (465, .pop, 1, 0, 0), (466, .goto 1609, 3, 2075, 0), (469, .aload_n 1, 1, 0, 0), (470, .aload_n 0, 1, 0, 0), (471, .iload_n 3, 1, 0, 0), (472, .iconst 1, 1, 0, 0), (473, .iadd, 1, 0, 0), (474, .iaload, 1, 0, 0), (475, .aload_n 0, 1, 0, 0), (476, .iload_n 3, 1, 0, 0), (477, .iconst 2, 1, 0, 0), (478, .iadd, 1, 0, 0), (479, .iaload, 1, 0, 0), (480, .aload_n 0, 1, 0, 0), (481, .iload_n 3, 1, 0, 0), (482, .iconst 3, 1, 0, 0), (483, .iadd, 1, 0, 0)]
def zI333_2 : List aI := [(484, .iaload, 1, 0, 0), (485, .invokevirtual 52, 3, 153, 0), (488, .pop, 1, 0, 0), (489, .aload_n 2, 1, 0, 0), (490, .aload_n 0, 1, 0, 0), (491, .iload_n 3, 1, 0, 0), (492, .iconst 1, 1, 0, 0), (493, .iadd, 1, 0, 0), (494, .iaload, 1, 0, 0), (495, .aload_n 0, 1, 0, 0), (496, .iload_n 3, 1, 0, 0), (497, .iconst 2, 1, 0, 0), (498, .iadd, 1, 0, 0), (499, .iaload, 1, 0, 0), (500, .aload_n 0, 1, 0, 0), (501, .iload_n 3, 1, 0, 0), (502, .iconst 3, 1, 0, 0), (503, .iadd, 1, 0, 0), (504, .iaload, 1, 0, 0), (505, .invokevirtual 56, 3, 223, 0), (508, .pop, 1, 0, 0), (509, .goto 1566, 3, 2075, 0), (512, .aload_n 1, 1, 0, 0), (513, .aload_n 0, 1, 0, 0), (514, .iload_n 3, 1, 0, 0), (515, .iconst 1, 1, 0, 0), (516, .iadd, 1, 0, 0), (517, .iaload, 1, 0, 0), (518, .invokevirtual 57, 3, 154, 0), (521, .pop, 1, 0, 0), (522, .aload_n 2, 1, 0, 0), (523, .aload_n 0, 1, 0, 0), (524, .iload_n 3, 1, 0, 0), (525, .iconst 1, 1, 0, 0), (526, .iadd, 1, 0, 0), (527, .iaload, 1, 0, 0), (528, .invokevirtual 60, 3, 224, 0), (531, .pop, 1, 0, 0), (532, .goto 1543, 3, 2075, 0), (535, .aload_n 1, 1, 0, 0), (536, .aload_n 0, 1, 0, 0), (537, .iload_n 3, 1, 0, 0), (538, .iconst 1, 1, 0, 0), (539, .iadd, 1, 0, 0), (540, .iaload, 1, 0, 0), (541, .aload_n 0, 1, 0, 0), (542, .iload_n 3, 1, 0, 0), (543, .iconst 2, 1, 0, 0), (544, .iadd, 1, 0, 0), (545, .iaload, 1, 0, 0), (546, .aload_n 0, 1, 0, 0), (547, .iload_n 3, 1, 0, 0), (548, .iconst 3, 1, 0, 0), (549, .iadd, 1, 0, 0), (550, .iaload, 1, 0, 0), (551, .invokevirtual 61, 3, 155, 0), (554, .pop, 1, 0, 0), (555, .aload_n 2, 1, 0, 0), (556, .aload_n 0, 1, 0, 0), (557, .iload_n 3, 1, 0, 0), (558, .iconst 1, 1, 0, 0), (559, .iadd, 1, 0, 0), (560, .iaload, 1, 0, 0), (561, .aload_n 0, 1, 0, 0), (562, .iload_n 3, 1, 0, 0), (563, .iconst 2, 1, 0, 0), (564, .iadd, 1, 0, 0), (565, .iaload, 1, 0, 0), (566, .aload_n 0, 1, 0, 0), (567, .iload_n 3, 1, 0, 0), (568, .iconst 3, 1, 0, 0), (569, .iadd, 1, 0, 0), (570, .iaload, 1, 0, 0), (571, .invokevirtual 64, 3, 225, 0), (574, .pop, 1, 0, 0), (575, .goto 1500, 3, 2075, 0), (578, .aload_n 1, 1, 0, 0), (579, .aload_n 0, 1, 0, 0), (580, .iload_n 3, 1, 0, 0), (581, .iconst 1, 1, 0, 0), (582, .iadd, 1, 0, 0), (583, .iaload, 1, 0, 0), (584, .aload_n 0, 1, 0, 0), (585, .iload_n 3, 1, 0, 0), (586, .iconst 2, 1, 0, 0), (587, .iadd, 1, 0, 0), (588, .iaload, 1, 0, 0), (589, .aload_n 0, 1, 0, 0), (590, .iload_n 3, 1, 0, 0), (591, .iconst 3, 1, 0, 0), (592, .iadd, 1, 0, 0), (593, .iaload, 1, 0, 0), (594, .invokevirtual 65, 3, 156, 0), (597, .pop, 1, 0, 0), (598, .aload_n 2, 1, 0, 0), (599, .aload_n 0, 1, 0, 0), (600, .iload_n 3, 1, 0, 0), (601, .iconst 1, 1, 0, 0), (602, .iadd, 1, 0, 0), (603, .iaload, 1, 0, 0)]
def zI333_3 : List aI := [(604, .aload_n 0, 1, 0, 0), (605, .iload_n 3, 1, 0, 0), (606, .iconst 2, 1, 0, 0), (607, .iadd, 1, 0, 0), (608, .iaload, 1, 0, 0), (609, .aload_n 0, 1, 0, 0), (610, .iload_n 3, 1, 0, 0), (611, .iconst 3, 1, 0, 0), (612, .iadd, 1, 0, 0), (613, .iaload, 1, 0, 0), (614, .invokevirtual 68, 3, 227, 0), (617, .pop, 1, 0, 0), (618, .goto 1457, 3, 2075, 0), (621, .aload_n 1, 1, 0, 0), (622, .aload_n 0, 1, 0, 0), (623, .iload_n 3, 1, 0, 0), (624, .iconst 1, 1, 0, 0), (625, .iadd, 1, 0, 0), (626, .iaload, 1, 0, 0), (627, .aload_n 0, 1, 0, 0), (628, .iload_n 3, 1, 0, 0), (629, .iconst 2, 1, 0, 0), (630, .iadd, 1, 0, 0), (631, .iaload, 1, 0, 0), (632, .aload_n 0, 1, 0, 0), (633, .iload_n 3, 1, 0, 0), (634, .iconst 3, 1, 0, 0), (635, .iadd, 1, 0, 0), (636, .iaload, 1, 0, 0), (637, .invokevirtual 69, 3, 157, 0), (640, .pop, 1, 0, 0), (641, .aload_n 2, 1, 0, 0), (642, .aload_n 0, 1, 0, 0), (643, .iload_n 3, 1, 0, 0), (644, .iconst 1, 1, 0, 0), (645, .iadd, 1, 0, 0), (646, .iaload, 1, 0, 0), (647, .aload_n 0, 1, 0, 0), (648, .iload_n 3, 1, 0, 0), (649, .iconst 2, 1, 0, 0), (650, .iadd, 1, 0, 0), (651, .iaload, 1, 0, 0), (652, .aload_n 0, 1, 0, 0), (653, .iload_n 3, 1, 0, 0), (654, .iconst 3, 1, 0, 0), (655, .iadd, 1, 0, 0), (656, .iaload, 1, 0, 0), (657, .invokevirtual 72, 3, 230, 0), (660, .pop, 1, 0, 0), (661, .goto 1414, 3, 2075, 0), (664, .aload_n 1, 1, 0, 0), (665, .aload_n 0, 1, 0, 0), (666, .iload_n 3, 1, 0, 0), (667, .iconst 1, 1, 0, 0), (668, .iadd, 1, 0, 0), (669, .iaload, 1, 0, 0), (670, .aload_n 0, 1, 0, 0), (671, .iload_n 3, 1, 0, 0), (672, .iconst 2, 1, 0, 0), (673, .iadd, 1, 0, 0), (674, .iaload, 1, 0, 0), (675, .invokevirtual 73, 3, 158, 0), (678, .pop, 1, 0, 0), (679, .aload_n 2, 1, 0, 0), (680, .aload_n 0, 1, 0, 0), (681, .iload_n 3, 1, 0, 0), (682, .iconst 1, 1, 0, 0), (683, .iadd, 1, 0, 0), (684, .iaload, 1, 0, 0), (685, .aload_n 0, 1, 0, 0), (686, .iload_n 3, 1, 0, 0), (687, .iconst 2, 1, 0, 0), (688, .iadd, 1, 0, 0), (689, .iaload, 1, 0, 0), (690, .invokevirtual 76, 3, 231, 0), (693, .pop, 1, 0, 0), (694, .goto 1381, 3, 2075, 0), (697, .aload_n 1, 1, 0, 0), (698, .aload_n 0, 1, 0, 0), (699, .iload_n 3, 1, 0, 0), (700, .iconst 1, 1, 0, 0), (701, .iadd, 1, 0, 0), (702, .iaload, 1, 0, 0), (703, .aload_n 0, 1, 0, 0), (704, .iload_n 3, 1, 0, 0), (705, .iconst 2, 1, 0, 0), (706, .iadd, 1, 0, 0), (707, .iaload, 1, 0, 0), (708, .aload_n 0, 1, 0, 0), (709, .iload_n 3, 1, 0, 0), (710, .iconst 3, 1, 0, 0), (711, .iadd, 1, 0, 0), (712, .iaload, 1, 0, 0), (713, .invokevirtual 77, 3, 159, 0), (716, .pop, 1, 0, 0), (717, .aload_n 2, 1, 0, 0), (718, .aload_n 0, 1, 0, 0), (719, .iload_n 3, 1, 0, 0), (720, .iconst 1, 1, 0, 0), (721, .iadd, 1, 0, 0)]
def zI333_4 : List aI := [(722, .iaload, 1, 0, 0), (723, .aload_n 0, 1, 0, 0), (724, .iload_n 3, 1, 0, 0), (725, .iconst 2, 1, 0, 0), (726, .iadd, 1, 0, 0), (727, .iaload, 1, 0, 0), (728, .aload_n 0, 1, 0, 0), (729, .iload_n 3, 1, 0, 0), (730, .iconst 3, 1, 0, 0), (731, .iadd, 1, 0, 0), (732, .iaload, 1, 0, 0), (733, .invokevirtual 80, 3, 232, 0), (736, .pop, 1, 0, 0), (737, .goto 1338, 3, 2075, 0), (740, .aload_n 1, 1, 0, 0), (741, .aload_n 0, 1, 0, 0), (742, .iload_n 3, 1, 0, 0), (743, .iconst 1, 1, 0, 0), (744, .iadd, 1, 0, 0), (745, .iaload, 1, 0, 0), (746, .aload_n 0, 1, 0, 0), (747, .iload_n 3, 1, 0, 0), (748, .iconst 2, 1, 0, 0), (749, .iadd, 1, 0, 0), (750, .iaload, 1, 0, 0), (751, .aload_n 0, 1, 0, 0), (752, .iload_n 3, 1, 0, 0), (753, .iconst 3, 1, 0, 0), (754, .iadd, 1, 0, 0), (755, .iaload, 1, 0, 0), (756, .aload_n 0, 1, 0, 0), (757, .iload_n 3, 1, 0, 0), (758, .iconst 4, 1, 0, 0), (759, .iadd, 1, 0, 0), (760, .iaload, 1, 0, 0), (761, .aload_n 0, 1, 0, 0), (762, .iload_n 3, 1, 0, 0), (763, .iconst 5, 1, 0, 0), (764, .iadd, 1, 0, 0), (765, .iaload, 1, 0, 0), (766, .invokevirtual 81, 3, 160, 0), (769, .pop, 1, 0, 0), (770, .aload_n 2, 1, 0, 0), (771, .aload_n 0, 1, 0, 0), (772, .iload_n 3, 1, 0, 0), (773, .iconst 1, 1, 0, 0), (774, .iadd, 1, 0, 0), (775, .iaload, 1, 0, 0), (776, .aload_n 0, 1, 0, 0), (777, .iload_n 3, 1, 0, 0), (778, .iconst 2, 1, 0, 0), (779, .iadd, 1, 0, 0), (780, .iaload, 1, 0, 0), (781, .aload_n 0, 1, 0, 0), (782, .iload_n 3, 1, 0, 0), (783, .iconst 3, 1, 0, 0), (784, .iadd, 1, 0, 0), (785, .iaload, 1, 0, 0), (786, .aload_n 0, 1, 0, 0), (787, .iload_n 3, 1, 0, 0), (788, .iconst 4, 1, 0, 0), (789, .iadd, 1, 0, 0), (790, .iaload, 1, 0, 0), (791, .aload_n 0, 1, 0, 0), (792, .iload_n 3, 1, 0, 0), (793, .iconst 5, 1, 0, 0), (794, .iadd, 1, 0, 0), (795, .iaload, 1, 0, 0), (796, .invokevirtual 85, 3, 242, 0), (799, .pop, 1, 0, 0), (800, .goto 1275, 3, 2075, 0), (803, .aload_n 1, 1, 0, 0), (804, .aload_n 0, 1, 0, 0), (805, .iload_n 3, 1, 0, 0), (806, .iconst 1, 1, 0, 0), (807, .iadd, 1, 0, 0), (808, .iaload, 1, 0, 0), (809, .aload_n 0, 1, 0, 0), (810, .iload_n 3, 1, 0, 0), (811, .iconst 2, 1, 0, 0), (812, .iadd, 1, 0, 0), (813, .iaload, 1, 0, 0), (814, .aload_n 0, 1, 0, 0), (815, .iload_n 3, 1, 0, 0), (816, .iconst 3, 1, 0, 0), (817, .iadd, 1, 0, 0), (818, .iaload, 1, 0, 0), (819, .aload_n 0, 1, 0, 0), (820, .iload_n 3, 1, 0, 0), (821, .iconst 4, 1, 0, 0), (822, .iadd, 1, 0, 0), (823, .iaload, 1, 0, 0), (824, .invokevirtual 86, 3, 161, 0), (827, .pop, 1, 0, 0), (828, .aload_n 2, 1, 0, 0), (829, .aload_n 0, 1, 0, 0), (830, .iload_n 3, 1, 0, 0), (831, .iconst 1, 1, 0, 0), (832, .iadd, 1, 0, 0), (833, .iaload, 1, 0, 0)]
def zI333_5 : List aI := [(834, .aload_n 0, 1, 0, 0), (835, .iload_n 3, 1, 0, 0), (836, .iconst 2, 1, 0, 0), (837, .iadd, 1, 0, 0), (838, .iaload, 1, 0, 0), (839, .aload_n 0, 1, 0, 0), (840, .iload_n 3, 1, 0, 0), (841, .iconst 3, 1, 0, 0), (842, .iadd, 1, 0, 0), (843, .iaload, 1, 0, 0), (844, .aload_n 0, 1, 0, 0), (845, .iload_n 3, 1, 0, 0), (846, .iconst 4, 1, 0, 0), (847, .iadd, 1, 0, 0), (848, .iaload, 1, 0, 0), (849, .invokevirtual 90, 3, 243, 0), (852, .pop, 1, 0, 0), (853, .goto 1222, 3, 2075, 0), (856, .aload_n 1, 1, 0, 0), (857, .aload_n 0, 1, 0, 0), (858, .iload_n 3, 1, 0, 0), (859, .iconst 1, 1, 0, 0), (860, .iadd, 1, 0, 0), (861, .iaload, 1, 0, 0), (862, .aload_n 0, 1, 0, 0), (863, .iload_n 3, 1, 0, 0), (864, .iconst 2, 1, 0, 0), (865, .iadd, 1, 0, 0), (866, .iaload, 1, 0, 0), (867, .invokevirtual 91, 3, 162, 0), (870, .pop, 1, 0, 0), (871, .aload_n 2, 1, 0, 0), (872, .aload_n 0, 1, 0, 0), (873, .iload_n 3, 1, 0, 0), (874, .iconst 1, 1, 0, 0), (875, .iadd, 1, 0, 0), (876, .iaload, 1, 0, 0), (877, .aload_n 0, 1, 0, 0), (878, .iload_n 3, 1, 0, 0), (879, .iconst 2, 1, 0, 0), (880, .iadd, 1, 0, 0), (881, .iaload, 1, 0, 0), (882, .invokevirtual 94, 3, 244, 0), (885, .pop, 1, 0, 0), (886, .goto 1189, 3, 2075, 0), (889, .aload_n 1, 1, 0, 0), (890, .aload_n 0, 1, 0, 0), (891, .iload_n 3, 1, 0, 0), (892, .iconst 1, 1, 0, 0), (893, .iadd, 1, 0, 0), (894, .iaload, 1, 0, 0), (895, .aload_n 0, 1, 0, 0), (896, .iload_n 3, 1, 0, 0), (897, .iconst 2, 1, 0, 0), (898, .iadd, 1, 0, 0), (899, .iaload, 1, 0, 0), (900, .aload_n 0, 1, 0, 0), (901, .iload_n 3, 1, 0, 0), (902, .iconst 3, 1, 0, 0), (903, .iadd, 1, 0, 0), (904, .iaload, 1, 0, 0), (905, .invokevirtual 95, 3, 163, 0), (908, .pop, 1, 0, 0), (909, .aload_n 2, 1, 0, 0), (910, .aload_n 0, 1, 0, 0), (911, .iload_n 3, 1, 0, 0), (912, .iconst 1, 1, 0, 0), (913, .iadd, 1, 0, 0), (914, .iaload, 1, 0, 0), (915, .aload_n 0, 1, 0, 0), (916, .iload_n 3, 1, 0, 0), (917, .iconst 2, 1, 0, 0), (918, .iadd, 1, 0, 0), (919, .iaload, 1, 0, 0), (920, .aload_n 0, 1, 0, 0), (921, .iload_n 3, 1, 0, 0), (922, .iconst 3, 1, 0, 0), (923, .iadd, 1, 0, 0), (924, .iaload, 1, 0, 0), (925, .invokevirtual 98, 3, 245, 0), (928, .pop, 1, 0, 0), (929, .goto 1146, 3, 2075, 0), (932, .aload_n 1, 1, 0, 0), (933, .aload_n 0, 1, 0, 0), (934, .iload_n 3, 1, 0, 0), (935, .iconst 1, 1, 0, 0), (936, .iadd, 1, 0, 0), (937, .iaload, 1, 0, 0), (938, .aload_n 0, 1, 0, 0), (939, .iload_n 3, 1, 0, 0), (940, .iconst 2, 1, 0, 0), (941, .iadd, 1, 0, 0), (942, .iaload, 1, 0, 0), (943, .aload_n 0, 1, 0, 0), (944, .iload_n 3, 1, 0, 0), (945, .iconst 3, 1, 0, 0), (946, .iadd, 1, 0, 0), (947, .iaload, 1, 0, 0), (948, .aload_n 0, 1, 0, 0), (949, .iload_n 3, 1, 0, 0)]
def zI333_6 : List aI := [(950, .iconst 4, 1, 0, 0), (951, .iadd, 1, 0, 0), (952, .iaload, 1, 0, 0), (953, .invokevirtual 99, 3, 164, 0), (956, .pop, 1, 0, 0), (957, .aload_n 2, 1, 0, 0), (958, .aload_n 0, 1, 0, 0), (959, .iload_n 3, 1, 0, 0), (960, .iconst 1, 1, 0, 0), (961, .iadd, 1, 0, 0), (962, .iaload, 1, 0, 0), (963, .aload_n 0, 1, 0, 0), (964, .iload_n 3, 1, 0, 0), (965, .iconst 2, 1, 0, 0), (966, .iadd, 1, 0, 0), (967, .iaload, 1, 0, 0), (968, .aload_n 0, 1, 0, 0), (969, .iload_n 3, 1, 0, 0), (970, .iconst 3, 1, 0, 0), (971, .iadd, 1, 0, 0), (972, .iaload, 1, 0, 0), (973, .aload_n 0, 1, 0, 0), (974, .iload_n 3, 1, 0, 0), (975, .iconst 4, 1, 0, 0), (976, .iadd, 1, 0, 0), (977, .iaload, 1, 0, 0), (978, .invokevirtual 102, 3, 247, 0), (981, .pop, 1, 0, 0), (982, .goto 1093, 3, 2075, 0), (985, .aload_n 1, 1, 0, 0), (986, .aload_n 0, 1, 0, 0), (987, .iload_n 3, 1, 0, 0), (988, .iconst 1, 1, 0, 0), (989, .iadd, 1, 0, 0), (990, .iaload, 1, 0, 0), (991, .invokevirtual 103, 3, 165, 0), (994, .pop, 1, 0, 0), (995, .aload_n 2, 1, 0, 0), (996, .aload_n 0, 1, 0, 0), (997, .iload_n 3, 1, 0, 0), (998, .iconst 1, 1, 0, 0), (999, .iadd, 1, 0, 0), (1000, .iaload, 1, 0, 0), (1001, .invokevirtual 106, 3, 246, 0), (1004, .pop, 1, 0, 0), (1005, .goto 1070, 3, 2075, 0), (1008, .aload_n 1, 1, 0, 0), (1009, .aload_n 0, 1, 0, 0), (1010, .iload_n 3, 1, 0, 0), (1011, .iconst 1, 1, 0, 0), (1012, .iadd, 1, 0, 0), (1013, .iaload, 1, 0, 0), (1014, .aload_n 0, 1, 0, 0), (1015, .iload_n 3, 1, 0, 0), (1016, .iconst 2, 1, 0, 0), (1017, .iadd, 1, 0, 0), (1018, .iaload, 1, 0, 0), (1019, .aload_n 0, 1, 0, 0), (1020, .iload_n 3, 1, 0, 0), (1021, .iconst 3, 1, 0, 0), (1022, .iadd, 1, 0, 0), (1023, .iaload, 1, 0, 0), (1024, .invokevirtual 107, 3, 166, 0), (1027, .pop, 1, 0, 0), (1028, .aload_n 2, 1, 0, 0), (1029, .aload_n 0, 1, 0, 0), (1030, .iload_n 3, 1, 0, 0), (1031, .iconst 1, 1, 0, 0), (1032, .iadd, 1, 0, 0), (1033, .iaload, 1, 0, 0), (1034, .aload_n 0, 1, 0, 0), (1035, .iload_n 3, 1, 0, 0), (1036, .iconst 2, 1, 0, 0), (1037, .iadd, 1, 0, 0), (1038, .iaload, 1, 0, 0), (1039, .aload_n 0, 1, 0, 0), (1040, .iload_n 3, 1, 0, 0), (1041, .iconst 3, 1, 0, 0), (1042, .iadd, 1, 0, 0), (1043, .iaload, 1, 0, 0), (1044, .invokevirtual 110, 3, 249, 0), (1047, .pop, 1, 0, 0), (1048, .goto 1027, 3, 2075, 0), (1051, .aload_n 1, 1, 0, 0), (1052, .aload_n 0, 1, 0, 0), (1053, .iload_n 3, 1, 0, 0), (1054, .iconst 1, 1, 0, 0), (1055, .iadd, 1, 0, 0), (1056, .iaload, 1, 0, 0), (1057, .aload_n 0, 1, 0, 0), (1058, .iload_n 3, 1, 0, 0), (1059, .iconst 2, 1, 0, 0), (1060, .iadd, 1, 0, 0), (1061, .iaload, 1, 0, 0), (1062, .invokevirtual 111, 3, 167, 0), (1065, .pop, 1, 0, 0), (1066, .aload_n 2, 1, 0, 0), (1067, .aload_n 0, 1, 0, 0), (1068, .iload_n 3, 1, 0, 0), (1069, .iconst 1, 1, 0, 0)]
def zI333_7 : List aI := [(1070, .iadd, 1, 0, 0), (1071, .iaload, 1, 0, 0), (1072, .aload_n 0, 1, 0, 0), (1073, .iload_n 3, 1, 0, 0), (1074, .iconst 2, 1, 0, 0), (1075, .iadd, 1, 0, 0), (1076, .iaload, 1, 0, 0), (1077, .invokevirtual 114, 3, 250, 0), (1080, .pop, 1, 0, 0), (1081, .goto 994, 3, 2075, 0), (1084, .aload_n 1, 1, 0, 0), (1085, .aload_n 0, 1, 0, 0), (1086, .iload_n 3, 1, 0, 0), (1087, .iconst 1, 1, 0, 0), (1088, .iadd, 1, 0, 0), (1089, .iaload, 1, 0, 0), (1090, .aload_n 0, 1, 0, 0), (1091, .iload_n 3, 1, 0, 0), (1092, .iconst 2, 1, 0, 0), (1093, .iadd, 1, 0, 0), (1094, .iaload, 1, 0, 0), (1095, .invokevirtual 115, 3, 168, 0), (1098, .pop, 1, 0, 0), (1099, .aload_n 2, 1, 0, 0), (1100, .aload_n 0, 1, 0, 0), (1101, .iload_n 3, 1, 0, 0), (1102, .iconst 1, 1, 0, 0), (1103, .iadd, 1, 0, 0), (1104, .iaload, 1, 0, 0), (1105, .aload_n 0, 1, 0, 0), (1106, .iload_n 3, 1, 0, 0), (1107, .iconst 2, 1, 0, 0), (1108, .iadd, 1, 0, 0), (1109, .iaload, 1, 0, 0), (1110, .invokevirtual 118, 3, 264, 0), (1113, .pop, 1, 0, 0), (1114, .goto 961, 3, 2075, 0), (1117, .aload_n 1, 1, 0, 0), (1118, .aload_n 0, 1, 0, 0), (1119, .iload_n 3, 1, 0, 0), (1120, .iconst 1, 1, 0, 0), (1121, .iadd, 1, 0, 0), (1122, .iaload, 1, 0, 0), (1123, .aload_n 0, 1, 0, 0), (1124, .iload_n 3, 1, 0, 0), (1125, .iconst 2, 1, 0, 0), (1126, .iadd, 1, 0, 0), (1127, .iaload, 1, 0, 0), (1128, .aload_n 0, 1, 0, 0), (1129, .iload_n 3, 1, 0, 0), (1130, .iconst 3, 1, 0, 0), (1131, .iadd, 1, 0, 0), (1132, .iaload, 1, 0, 0), (1133, .invokevirtual 119, 3, 169, 0), (1136, .pop, 1, 0, 0), (1137, .aload_n 2, 1, 0, 0), (1138, .aload_n 0, 1, 0, 0), (1139, .iload_n 3, 1, 0, 0), (1140, .iconst 1, 1, 0, 0), (1141, .iadd, 1, 0, 0), (1142, .iaload, 1, 0, 0), (1143, .aload_n 0, 1, 0, 0), (1144, .iload_n 3, 1, 0, 0), (1145, .iconst 2, 1, 0, 0), (1146, .iadd, 1, 0, 0), (1147, .iaload, 1, 0, 0), (1148, .aload_n 0, 1, 0, 0), (1149, .iload_n 3, 1, 0, 0), (1150, .iconst 3, 1, 0, 0), (1151, .iadd, 1, 0, 0), (1152, .iaload, 1, 0, 0), (1153, .invokevirtual 122, 3, 266, 0), (1156, .pop, 1, 0, 0), (1157, .goto 918, 3, 2075, 0), (1160, .aload_n 1, 1, 0, 0), (1161, .aload_n 0, 1, 0, 0), (1162, .iload_n 3, 1, 0, 0), (1163, .iconst 1, 1, 0, 0), (1164, .iadd, 1, 0, 0), (1165, .iaload, 1, 0, 0), (1166, .aload_n 0, 1, 0, 0), (1167, .iload_n 3, 1, 0, 0), (1168, .iconst 2, 1, 0, 0), (1169, .iadd, 1, 0, 0), (1170, .iaload, 1, 0, 0), (1171, .aload_n 0, 1, 0, 0), (1172, .iload_n 3, 1, 0, 0), (1173, .iconst 3, 1, 0, 0), (1174, .iadd, 1, 0, 0), (1175, .iaload, 1, 0, 0), (1176, .aload_n 0, 1, 0, 0), (1177, .iload_n 3, 1, 0, 0), (1178, .iconst 4, 1, 0, 0), (1179, .iadd, 1, 0, 0), (1180, .iaload, 1, 0, 0), (1181, .invokevirtual 123, 3, 170, 0), (1184, .pop, 1, 0, 0), (1185, .aload_n 2, 1, 0, 0), (1186, .aload_n 0, 1, 0, 0), (1187, .iload_n 3, 1, 0, 0)]
def zI333_8 : List aI := [(1188, .iconst 1, 1, 0, 0), (1189, .iadd, 1, 0, 0), (1190, .iaload, 1, 0, 0), (1191, .aload_n 0, 1, 0, 0), (1192, .iload_n 3, 1, 0, 0), (1193, .iconst 2, 1, 0, 0), (1194, .iadd, 1, 0, 0), (1195, .iaload, 1, 0, 0), (1196, .aload_n 0, 1, 0, 0), (1197, .iload_n 3, 1, 0, 0), (1198, .iconst 3, 1, 0, 0), (1199, .iadd, 1, 0, 0), (1200, .iaload, 1, 0, 0), (1201, .aload_n 0, 1, 0, 0), (1202, .iload_n 3, 1, 0, 0), (1203, .iconst 4, 1, 0, 0), (1204, .iadd, 1, 0, 0), (1205, .iaload, 1, 0, 0), (1206, .invokevirtual 126, 3, 274, 0), (1209, .pop, 1, 0, 0), (1210, .goto 865, 3, 2075, 0), (1213, .aload_n 1, 1, 0, 0), (1214, .aload_n 0, 1, 0, 0), (1215, .iload_n 3, 1, 0, 0), (1216, .iconst 1, 1, 0, 0), (1217, .iadd, 1, 0, 0), (1218, .iaload, 1, 0, 0), (1219, .aload_n 0, 1, 0, 0), (1220, .iload_n 3, 1, 0, 0), (1221, .iconst 2, 1, 0, 0), (1222, .iadd, 1, 0, 0), (1223, .iaload, 1, 0, 0), (1224, .aload_n 0, 1, 0, 0), (1225, .iload_n 3, 1, 0, 0), (1226, .iconst 3, 1, 0, 0), (1227, .iadd, 1, 0, 0), (1228, .iaload, 1, 0, 0), (1229, .aload_n 0, 1, 0, 0), (1230, .iload_n 3, 1, 0, 0), (1231, .iconst 4, 1, 0, 0), (1232, .iadd, 1, 0, 0), (1233, .iaload, 1, 0, 0), (1234, .invokevirtual 127, 3, 171, 0), (1237, .pop, 1, 0, 0), (1238, .aload_n 2, 1, 0, 0), (1239, .aload_n 0, 1, 0, 0), (1240, .iload_n 3, 1, 0, 0), (1241, .iconst 1, 1, 0, 0), (1242, .iadd, 1, 0, 0), (1243, .iaload, 1, 0, 0), (1244, .aload_n 0, 1, 0, 0), (1245, .iload_n 3, 1, 0, 0), (1246, .iconst 2, 1, 0, 0), (1247, .iadd, 1, 0, 0), (1248, .iaload, 1, 0, 0), (1249, .aload_n 0, 1, 0, 0), (1250, .iload_n 3, 1, 0, 0), (1251, .iconst 3, 1, 0, 0), (1252, .iadd, 1, 0, 0), (1253, .iaload, 1, 0, 0), (1254, .aload_n 0, 1, 0, 0), (1255, .iload_n 3, 1, 0, 0), (1256, .iconst 4, 1, 0, 0), (1257, .iadd, 1, 0, 0), (1258, .iaload, 1, 0, 0), (1259, .invokevirtual 130, 3, 278, 0), (1262, .pop, 1, 0, 0), (1263, .goto 812, 3, 2075, 0), (1266, .aload_n 1, 1, 0, 0), (1267, .aload_n 0, 1, 0, 0), (1268, .iload_n 3, 1, 0, 0), (1269, .iconst 1, 1, 0, 0), (1270, .iadd, 1, 0, 0), (1271, .iaload, 1, 0, 0), (1272, .aload_n 0, 1, 0, 0), (1273, .iload_n 3, 1, 0, 0), (1274, .iconst 2, 1, 0, 0), (1275, .iadd, 1, 0, 0), (1276, .iaload, 1, 0, 0), (1277, .invokevirtual 131, 3, 172, 0), (1280, .pop, 1, 0, 0), (1281, .aload_n 2, 1, 0, 0), (1282, .aload_n 0, 1, 0, 0), (1283, .iload_n 3, 1, 0, 0), (1284, .iconst 1, 1, 0, 0), (1285, .iadd, 1, 0, 0), (1286, .iaload, 1, 0, 0), (1287, .aload_n 0, 1, 0, 0), (1288, .iload_n 3, 1, 0, 0), (1289, .iconst 2, 1, 0, 0), (1290, .iadd, 1, 0, 0), (1291, .iaload, 1, 0, 0), (1292, .invokevirtual 134, 3, 279, 0), (1295, .pop, 1, 0, 0), (1296, .goto 779, 3, 2075, 0), (1299, .aload_n 1, 1, 0, 0), (1300, .aload_n 0, 1, 0, 0), (1301, .iload_n 3, 1, 0, 0), (1302, .iconst 1, 1, 0, 0), (1303, .iadd, 1, 0, 0)]
def zI333_9 : List aI := [(1304, .iaload, 1, 0, 0), (1305, .invokevirtual 135, 3, 173, 0), (1308, .pop, 1, 0, 0), (1309, .aload_n 2, 1, 0, 0), (1310, .aload_n 0, 1, 0, 0), (1311, .iload_n 3, 1, 0, 0), (1312, .iconst 1, 1, 0, 0), (1313, .iadd, 1, 0, 0), (1314, .iaload, 1, 0, 0), (1315, .invokevirtual 138, 3, 280, 0), (1318, .pop, 1, 0, 0), (1319, .goto 756, 3, 2075, 0), (1322, .aload_n 1, 1, 0, 0), (1323, .aload_n 0, 1, 0, 0), (1324, .iload_n 3, 1, 0, 0), (1325, .iconst 1, 1, 0, 0), (1326, .iadd, 1, 0, 0), (1327, .iaload, 1, 0, 0), (1328, .aload_n 0, 1, 0, 0), (1329, .iload_n 3, 1, 0, 0), (1330, .iconst 2, 1, 0, 0), (1331, .iadd, 1, 0, 0), (1332, .iaload, 1, 0, 0), (1333, .aload_n 0, 1, 0, 0), (1334, .iload_n 3, 1, 0, 0), (1335, .iconst 3, 1, 0, 0), (1336, .iadd, 1, 0, 0), (1337, .iaload, 1, 0, 0), (1338, .invokevirtual 139, 3, 174, 0), (1341, .pop, 1, 0, 0), (1342, .aload_n 2, 1, 0, 0), (1343, .aload_n 0, 1, 0, 0), (1344, .iload_n 3, 1, 0, 0), (1345, .iconst 1, 1, 0, 0), (1346, .iadd, 1, 0, 0), (1347, .iaload, 1, 0, 0), (1348, .aload_n 0, 1, 0, 0), (1349, .iload_n 3, 1, 0, 0), (1350, .iconst 2, 1, 0, 0), (1351, .iadd, 1, 0, 0), (1352, .iaload, 1, 0, 0), (1353, .aload_n 0, 1, 0, 0), (1354, .iload_n 3, 1, 0, 0), (1355, .iconst 3, 1, 0, 0), (1356, .iadd, 1, 0, 0), (1357, .iaload, 1, 0, 0), (1358, .invokevirtual 142, 3, 281, 0), (1361, .pop, 1, 0, 0), (1362, .goto 713, 3, 2075, 0), (1365, .aload_n 1, 1, 0, 0), (1366, .aload_n 0, 1, 0, 0), (1367, .iload_n 3, 1, 0, 0), (1368, .iconst 1, 1, 0, 0), (1369, .iadd, 1, 0, 0), (1370, .iaload, 1, 0, 0), (1371, .invokevirtual 143, 3, 175, 0), (1374, .pop, 1, 0, 0), (1375, .aload_n 2, 1, 0, 0), (1376, .aload_n 0, 1, 0, 0), (1377, .iload_n 3, 1, 0, 0), (1378, .iconst 1, 1, 0, 0), (1379, .iadd, 1, 0, 0), (1380, .iaload, 1, 0, 0), (1381, .invokevirtual 146, 3, 288, 0), (1384, .pop, 1, 0, 0), (1385, .goto 690, 3, 2075, 0), (1388, .aload_n 1, 1, 0, 0), (1389, .aload_n 0, 1, 0, 0), (1390, .iload_n 3, 1, 0, 0), (1391, .iconst 1, 1, 0, 0), (1392, .iadd, 1, 0, 0), (1393, .iaload, 1, 0, 0), (1394, .invokevirtual 147, 3, 176, 0), (1397, .pop, 1, 0, 0), (1398, .aload_n 2, 1, 0, 0), (1399, .aload_n 0, 1, 0, 0), (1400, .iload_n 3, 1, 0, 0), (1401, .iconst 1, 1, 0, 0), (1402, .iadd, 1, 0, 0), (1403, .iaload, 1, 0, 0), (1404, .invokevirtual 150, 3, 289, 0), (1407, .pop, 1, 0, 0), (1408, .goto 667, 3, 2075, 0), (1411, .aload_n 1, 1, 0, 0), (1412, .aload_n 0, 1, 0, 0), (1413, .iload_n 3, 1, 0, 0), (1414, .iconst 1, 1, 0, 0), (1415, .iadd, 1, 0, 0), (1416, .iaload, 1, 0, 0), (1417, .invokevirtual 151, 3, 177, 0), (1420, .pop, 1, 0, 0), (1421, .aload_n 2, 1, 0, 0), (1422, .aload_n 0, 1, 0, 0), (1423, .iload_n 3, 1, 0, 0), (1424, .iconst 1, 1, 0, 0), (1425, .iadd, 1, 0, 0), (1426, .iaload, 1, 0, 0), (1427, .invokevirtual 154, 3, 290, 0), (1430, .pop, 1, 0, 0), (1431, .goto 644, 3, 2075, 0)]
def zI333_10 : List aI := [(1434, .aload_n 1, 1, 0, 0), (1435, .aload_n 0, 1, 0, 0), (1436, .iload_n 3, 1, 0, 0), (1437, .iconst 1, 1, 0, 0), (1438, .iadd, 1, 0, 0), (1439, .iaload, 1, 0, 0), (1440, .aload_n 0, 1, 0, 0), (1441, .iload_n 3, 1, 0, 0), (1442, .iconst 2, 1, 0, 0), (1443, .iadd, 1, 0, 0), (1444, .iaload, 1, 0, 0), (1445, .aload_n 0, 1, 0, 0), (1446, .iload_n 3, 1, 0, 0), (1447, .iconst 3, 1, 0, 0), (1448, .iadd, 1, 0, 0), (1449, .iaload, 1, 0, 0), (1450, .invokevirtual 155, 3, 178, 0), (1453, .pop, 1, 0, 0), (1454, .aload_n 2, 1, 0, 0), (1455, .aload_n 0, 1, 0, 0), (1456, .iload_n 3, 1, 0, 0), (1457, .iconst 1, 1, 0, 0), (1458, .iadd, 1, 0, 0), (1459, .iaload, 1, 0, 0), (1460, .aload_n 0, 1, 0, 0), (1461, .iload_n 3, 1, 0, 0), (1462, .iconst 2, 1, 0, 0), (1463, .iadd, 1, 0, 0), (1464, .iaload, 1, 0, 0), (1465, .aload_n 0, 1, 0, 0), (1466, .iload_n 3, 1, 0, 0), (1467, .iconst 3, 1, 0, 0), (1468, .iadd, 1, 0, 0), (1469, .iaload, 1, 0, 0), (1470, .invokevirtual 158, 3, 292, 0), (1473, .pop, 1, 0, 0), (1474, .goto 601, 3, 2075, 0), (1477, .aload_n 1, 1, 0, 0), (1478, .aload_n 0, 1, 0, 0), (1479, .iload_n 3, 1, 0, 0), (1480, .iconst 1, 1, 0, 0), (1481, .iadd, 1, 0, 0), (1482, .iaload, 1, 0, 0), (1483, .invokevirtual 159, 3, 179, 0), (1486, .pop, 1, 0, 0), (1487, .aload_n 2, 1, 0, 0), (1488, .aload_n 0, 1, 0, 0), (1489, .iload_n 3, 1, 0, 0), (1490, .iconst 1, 1, 0, 0), (1491, .iadd, 1, 0, 0), (1492, .iaload, 1, 0, 0), (1493, .invokevirtual 162, 3, 294, 0), (1496, .pop, 1, 0, 0), (1497, .goto 578, 3, 2075, 0), (1500, .aload_n 1, 1, 0, 0), (1501, .aload_n 0, 1, 0, 0), (1502, .iload_n 3, 1, 0, 0), (1503, .iconst 1, 1, 0, 0), (1504, .iadd, 1, 0, 0), (1505, .iaload, 1, 0, 0), (1506, .aload_n 0, 1, 0, 0), (1507, .iload_n 3, 1, 0, 0), (1508, .iconst 2, 1, 0, 0), (1509, .iadd, 1, 0, 0), (1510, .iaload, 1, 0, 0), (1511, .aload_n 0, 1, 0, 0), (1512, .iload_n 3, 1, 0, 0), (1513, .iconst 3, 1, 0, 0), (1514, .iadd, 1, 0, 0), (1515, .iaload, 1, 0, 0), (1516, .invokevirtual 163, 3, 180, 0), (1519, .pop, 1, 0, 0), (1520, .aload_n 2, 1, 0, 0), (1521, .aload_n 0, 1, 0, 0), (1522, .iload_n 3, 1, 0, 0), (1523, .iconst 1, 1, 0, 0), (1524, .iadd, 1, 0, 0), (1525, .iaload, 1, 0, 0), (1526, .aload_n 0, 1, 0, 0), (1527, .iload_n 3, 1, 0, 0), (1528, .iconst 2, 1, 0, 0), (1529, .iadd, 1, 0, 0), (1530, .iaload, 1, 0, 0), (1531, .aload_n 0, 1, 0, 0), (1532, .iload_n 3, 1, 0, 0), (1533, .iconst 3, 1, 0, 0), (1534, .iadd, 1, 0, 0), (1535, .iaload, 1, 0, 0), (1536, .invokevirtual 166, 3, 298, 0), (1539, .pop, 1, 0, 0), (1540, .goto 535, 3, 2075, 0), (1543, .aload_n 1, 1, 0, 0), (1544, .aload_n 0, 1, 0, 0), (1545, .iload_n 3, 1, 0, 0), (1546, .iconst 1, 1, 0, 0), (1547, .iadd, 1, 0, 0), (1548, .iaload, 1, 0, 0), (1549, .invokevirtual 167, 3, 181, 0), (1552, .pop, 1, 0, 0), (1553, .aload_n 2, 1, 0, 0)]
def zI333_11 : List aI := [(1554, .aload_n 0, 1, 0, 0), (1555, .iload_n 3, 1, 0, 0), (1556, .iconst 1, 1, 0, 0), (1557, .iadd, 1, 0, 0), (1558, .iaload, 1, 0, 0), (1559, .invokevirtual 170, 3, 299, 0), (1562, .pop, 1, 0, 0), (1563, .goto 512, 3, 2075, 0), (1566, .aload_n 1, 1, 0, 0), (1567, .aload_n 0, 1, 0, 0), (1568, .iload_n 3, 1, 0, 0), (1569, .iconst 1, 1, 0, 0), (1570, .iadd, 1, 0, 0), (1571, .iaload, 1, 0, 0), (1572, .aload_n 0, 1, 0, 0), (1573, .iload_n 3, 1, 0, 0), (1574, .iconst 2, 1, 0, 0), (1575, .iadd, 1, 0, 0), (1576, .iaload, 1, 0, 0), (1577, .invokevirtual 171, 3, 182, 0), (1580, .pop, 1, 0, 0), (1581, .aload_n 2, 1, 0, 0), (1582, .aload_n 0, 1, 0, 0), (1583, .iload_n 3, 1, 0, 0), (1584, .iconst 1, 1, 0, 0), (1585, .iadd, 1, 0, 0), (1586, .iaload, 1, 0, 0), (1587, .aload_n 0, 1, 0, 0), (1588, .iload_n 3, 1, 0, 0), (1589, .iconst 2, 1, 0, 0), (1590, .iadd, 1, 0, 0), (1591, .iaload, 1, 0, 0), (1592, .invokevirtual 174, 3, 300, 0), (1595, .pop, 1, 0, 0), (1596, .goto 479, 3, 2075, 0), (1599, .aload_n 1, 1, 0, 0), (1600, .aload_n 0, 1, 0, 0), (1601, .iload_n 3, 1, 0, 0), (1602, .iconst 1, 1, 0, 0), (1603, .iadd, 1, 0, 0), (1604, .iaload, 1, 0, 0), (1605, .aload_n 0, 1, 0, 0), (1606, .iload_n 3, 1, 0, 0), (1607, .iconst 2, 1, 0, 0), (1608, .iadd, 1, 0, 0), (1609, .iaload, 1, 0, 0), (1610, .invokevirtual 175, 3, 183, 0), (1613, .pop, 1, 0, 0), (1614, .aload_n 2, 1, 0, 0), (1615, .aload_n 0, 1, 0, 0), (1616, .iload_n 3, 1, 0, 0), (1617, .iconst 1, 1, 0, 0), (1618, .iadd, 1, 0, 0), (1619, .iaload, 1, 0, 0), (1620, .aload_n 0, 1, 0, 0), (1621, .iload_n 3, 1, 0, 0), (1622, .iconst 2, 1, 0, 0), (1623, .iadd, 1, 0, 0), (1624, .iaload, 1, 0, 0), (1625, .invokevirtual 178, 3, 302, 0), (1628, .pop, 1, 0, 0), (1629, .goto 446, 3, 2075, 0), (1632, .aload_n 1, 1, 0, 0), (1633, .aload_n 0, 1, 0, 0), (1634, .iload_n 3, 1, 0, 0), (1635, .iconst 1, 1, 0, 0), (1636, .iadd, 1, 0, 0), (1637, .iaload, 1, 0, 0), (1638, .invokevirtual 179, 3, 184, 0), (1641, .pop, 1, 0, 0), (1642, .aload_n 2, 1, 0, 0), (1643, .aload_n 0, 1, 0, 0), (1644, .iload_n 3, 1, 0, 0), (1645, .iconst 1, 1, 0, 0), (1646, .iadd, 1, 0, 0), (1647, .iaload, 1, 0, 0), (1648, .invokevirtual 182, 3, 303, 0), (1651, .pop, 1, 0, 0), (1652, .goto 423, 3, 2075, 0), (1655, .aload_n 1, 1, 0, 0), (1656, .aload_n 0, 1, 0, 0), (1657, .iload_n 3, 1, 0, 0), (1658, .iconst 1, 1, 0, 0), (1659, .iadd, 1, 0, 0), (1660, .iaload, 1, 0, 0), (1661, .aload_n 0, 1, 0, 0), (1662, .iload_n 3, 1, 0, 0), (1663, .iconst 2, 1, 0, 0), (1664, .iadd, 1, 0, 0), (1665, .iaload, 1, 0, 0), (1666, .aload_n 0, 1, 0, 0), (1667, .iload_n 3, 1, 0, 0), (1668, .iconst 3, 1, 0, 0), (1669, .iadd, 1, 0, 0), (1670, .iaload, 1, 0, 0), (1671, .aload_n 0, 1, 0, 0), (1672, .iload_n 3, 1, 0, 0), (1673, .iconst 4, 1, 0, 0), (1674, .iadd, 1, 0, 0), (1675, .iaload, 1, 0, 0)]
def zI333_12 : List aI := [(1676, .invokevirtual 183, 3, 185, 0), (1679, .pop, 1, 0, 0), (1680, .aload_n 2, 1, 0, 0), (1681, .aload_n 0, 1, 0, 0), (1682, .iload_n 3, 1, 0, 0), (1683, .iconst 1, 1, 0, 0), (1684, .iadd, 1, 0, 0), (1685, .iaload, 1, 0, 0), (1686, .aload_n 0, 1, 0, 0), (1687, .iload_n 3, 1, 0, 0), (1688, .iconst 2, 1, 0, 0), (1689, .iadd, 1, 0, 0), (1690, .iaload, 1, 0, 0), (1691, .aload_n 0, 1, 0, 0), (1692, .iload_n 3, 1, 0, 0), (1693, .iconst 3, 1, 0, 0), (1694, .iadd, 1, 0, 0), (1695, .iaload, 1, 0, 0), (1696, .aload_n 0, 1, 0, 0), (1697, .iload_n 3, 1, 0, 0), (1698, .iconst 4, 1, 0, 0), (1699, .iadd, 1, 0, 0), (1700, .iaload, 1, 0, 0), (1701, .invokevirtual 186, 3, 304, 0), (1704, .pop, 1, 0, 0), (1705, .goto 370, 3, 2075, 0), (1708, .aload_n 1, 1, 0, 0), (1709, .aload_n 0, 1, 0, 0), (1710, .iload_n 3, 1, 0, 0), (1711, .iconst 1, 1, 0, 0), (1712, .iadd, 1, 0, 0), (1713, .iaload, 1, 0, 0), (1714, .aload_n 0, 1, 0, 0), (1715, .iload_n 3, 1, 0, 0), (1716, .iconst 2, 1, 0, 0), (1717, .iadd, 1, 0, 0), (1718, .iaload, 1, 0, 0), (1719, .aload_n 0, 1, 0, 0), (1720, .iload_n 3, 1, 0, 0), (1721, .iconst 3, 1, 0, 0), (1722, .iadd, 1, 0, 0), (1723, .iaload, 1, 0, 0), (1724, .invokevirtual 187, 3, 186, 0), (1727, .pop, 1, 0, 0), (1728, .aload_n 2, 1, 0, 0), (1729, .aload_n 0, 1, 0, 0), (1730, .iload_n 3, 1, 0, 0), (1731, .iconst 1, 1, 0, 0), (1732, .iadd, 1, 0, 0), (1733, .iaload, 1, 0, 0), (1734, .aload_n 0, 1, 0, 0), (1735, .iload_n 3, 1, 0, 0), (1736, .iconst 2, 1, 0, 0), (1737, .iadd, 1, 0, 0), (1738, .iaload, 1, 0, 0), (1739, .aload_n 0, 1, 0, 0), (1740, .iload_n 3, 1, 0, 0), (1741, .iconst 3, 1, 0, 0), (1742, .iadd, 1, 0, 0), (1743, .iaload, 1, 0, 0), (1744, .invokevirtual 190, 3, 316, 0), (1747, .pop, 1, 0, 0), (1748, .goto 327, 3, 2075, 0), (1751, .aload_n 1, 1, 0, 0), (1752, .aload_n 0, 1, 0, 0), (1753, .iload_n 3, 1, 0, 0), (1754, .iconst 1, 1, 0, 0), (1755, .iadd, 1, 0, 0), (1756, .iaload, 1, 0, 0), (1757, .invokevirtual 191, 3, 187, 0), (1760, .pop, 1, 0, 0), (1761, .aload_n 2, 1, 0, 0), (1762, .aload_n 0, 1, 0, 0), (1763, .iload_n 3, 1, 0, 0), (1764, .iconst 1, 1, 0, 0), (1765, .iadd, 1, 0, 0), (1766, .iaload, 1, 0, 0), (1767, .invokevirtual 194, 3, 317, 0), (1770, .pop, 1, 0, 0), (1771, .goto 304, 3, 2075, 0), (1774, .aload_n 1, 1, 0, 0), (1775, .aload_n 0, 1, 0, 0), (1776, .iload_n 3, 1, 0, 0), (1777, .iconst 1, 1, 0, 0), (1778, .iadd, 1, 0, 0), (1779, .iaload, 1, 0, 0), (1780, .aload_n 0, 1, 0, 0), (1781, .iload_n 3, 1, 0, 0), (1782, .iconst 2, 1, 0, 0), (1783, .iadd, 1, 0, 0), (1784, .iaload, 1, 0, 0), (1785, .invokevirtual 195, 3, 188, 0), (1788, .pop, 1, 0, 0), (1789, .aload_n 2, 1, 0, 0), (1790, .aload_n 0, 1, 0, 0), (1791, .iload_n 3, 1, 0, 0), (1792, .iconst 1, 1, 0, 0), (1793, .iadd, 1, 0, 0), (1794, .iaload, 1, 0, 0), (1795, .aload_n 0, 1, 0, 0)]
def zI333_13 : List aI := [(1796, .iload_n 3, 1, 0, 0), (1797, .iconst 2, 1, 0, 0), (1798, .iadd, 1, 0, 0), (1799, .iaload, 1, 0, 0), (1800, .invokevirtual 198, 3, 319, 0), (1803, .pop, 1, 0, 0), (1804, .goto 271, 3, 2075, 0), (1807, .aload_n 1, 1, 0, 0), (1808, .aload_n 0, 1, 0, 0), (1809, .iload_n 3, 1, 0, 0), (1810, .iconst 1, 1, 0, 0), (1811, .iadd, 1, 0, 0), (1812, .iaload, 1, 0, 0), (1813, .aload_n 0, 1, 0, 0), (1814, .iload_n 3, 1, 0, 0), (1815, .iconst 2, 1, 0, 0), (1816, .iadd, 1, 0, 0), (1817, .iaload, 1, 0, 0), (1818, .aload_n 0, 1, 0, 0), (1819, .iload_n 3, 1, 0, 0), (1820, .iconst 3, 1, 0, 0), (1821, .iadd, 1, 0, 0), (1822, .iaload, 1, 0, 0), (1823, .invokevirtual 199, 3, 189, 0), (1826, .pop, 1, 0, 0), (1827, .aload_n 2, 1, 0, 0), (1828, .aload_n 0, 1, 0, 0), (1829, .iload_n 3, 1, 0, 0), (1830, .iconst 1, 1, 0, 0), (1831, .iadd, 1, 0, 0), (1832, .iaload, 1, 0, 0), (1833, .aload_n 0, 1, 0, 0), (1834, .iload_n 3, 1, 0, 0), (1835, .iconst 2, 1, 0, 0), (1836, .iadd, 1, 0, 0), (1837, .iaload, 1, 0, 0), (1838, .aload_n 0, 1, 0, 0), (1839, .iload_n 3, 1, 0, 0), (1840, .iconst 3, 1, 0, 0), (1841, .iadd, 1, 0, 0), (1842, .iaload, 1, 0, 0), (1843, .invokevirtual 202, 3, 320, 0), (1846, .pop, 1, 0, 0), (1847, .goto 228, 3, 2075, 0), (1850, .aload_n 1, 1, 0, 0), (1851, .aload_n 0, 1, 0, 0), (1852, .iload_n 3, 1, 0, 0), (1853, .iconst 1, 1, 0, 0), (1854, .iadd, 1, 0, 0), (1855, .iaload, 1, 0, 0), (1856, .aload_n 0, 1, 0, 0), (1857, .iload_n 3, 1, 0, 0), (1858, .iconst 2, 1, 0, 0), (1859, .iadd, 1, 0, 0), (1860, .iaload, 1, 0, 0), (1861, .aload_n 0, 1, 0, 0), (1862, .iload_n 3, 1, 0, 0), (1863, .iconst 3, 1, 0, 0), (1864, .iadd, 1, 0, 0), (1865, .iaload, 1, 0, 0), (1866, .i2l, 1, 0, 0), (1867, .bipush 32, 2, 0, 0), (1869, .lshl, 1, 0, 0), (1870, .aload_n 0, 1, 0, 0), (1871, .iload_n 3, 1, 0, 0), (1872, .iconst 4, 1, 0, 0), (1873, .iadd, 1, 0, 0), (1874, .iaload, 1, 0, 0), (1875, .i2l, 1, 0, 0), (1876, .ldc2_w 203, 3, 4294967295, 0), (1879, .land, 1, 0, 0), (1880, .lor, 1, 0, 0), (1881, .invokevirtual 205, 3, 190, 0), (1884, .pop, 1, 0, 0), (1885, .aload_n 2, 1, 0, 0), (1886, .aload_n 0, 1, 0, 0), (1887, .iload_n 3, 1, 0, 0), (1888, .iconst 1, 1, 0, 0), (1889, .iadd, 1, 0, 0), (1890, .iaload, 1, 0, 0), (1891, .aload_n 0, 1, 0, 0), (1892, .iload_n 3, 1, 0, 0), (1893, .iconst 2, 1, 0, 0), (1894, .iadd, 1, 0, 0), (1895, .iaload, 1, 0, 0), (1896, .aload_n 0, 1, 0, 0), (1897, .iload_n 3, 1, 0, 0), (1898, .iconst 3, 1, 0, 0), (1899, .iadd, 1, 0, 0), (1900, .iaload, 1, 0, 0), (1901, .i2l, 1, 0, 0), (1902, .bipush 32, 2, 0, 0), (1904, .lshl, 1, 0, 0), (1905, .aload_n 0, 1, 0, 0), (1906, .iload_n 3, 1, 0, 0), (1907, .iconst 4, 1, 0, 0), (1908, .iadd, 1, 0, 0), (1909, .iaload, 1, 0, 0), (1910, .i2l, 1, 0, 0), (1911, .ldc2_w 203, 3, 4294967295, 0)]
def zI333_14 : List aI := [(1914, .land, 1, 0, 0), (1915, .lor, 1, 0, 0), (1916, .invokevirtual 209, 3, 322, 0), (1919, .pop, 1, 0, 0), (1920, .goto 155, 3, 2075, 0), (1923, .aload_n 1, 1, 0, 0), (1924, .aload_n 0, 1, 0, 0), (1925, .iload_n 3, 1, 0, 0), (1926, .iconst 1, 1, 0, 0), (1927, .iadd, 1, 0, 0), (1928, .iaload, 1, 0, 0), (1929, .aload_n 0, 1, 0, 0), (1930, .iload_n 3, 1, 0, 0), (1931, .iconst 2, 1, 0, 0), (1932, .iadd, 1, 0, 0), (1933, .iaload, 1, 0, 0), (1934, .invokevirtual 210, 3, 191, 0), (1937, .pop2, 1, 0, 0), (1938, .aload_n 2, 1, 0, 0), (1939, .aload_n 0, 1, 0, 0), (1940, .iload_n 3, 1, 0, 0), (1941, .iconst 1, 1, 0, 0), (1942, .iadd, 1, 0, 0), (1943, .iaload, 1, 0, 0), (1944, .aload_n 0, 1, 0, 0), (1945, .iload_n 3, 1, 0, 0), (1946, .iconst 2, 1, 0, 0), (1947, .iadd, 1, 0, 0), (1948, .iaload, 1, 0, 0), (1949, .invokevirtual 214, 3, 323, 0), (1952, .pop2, 1, 0, 0), (1953, .goto 122, 3, 2075, 0), (1956, .aload_n 1, 1, 0, 0), (1957, .aload_n 0, 1, 0, 0), (1958, .iload_n 3, 1, 0, 0), (1959, .iconst 1, 1, 0, 0), (1960, .iadd, 1, 0, 0), (1961, .iaload, 1, 0, 0), (1962, .aload_n 0, 1, 0, 0), (1963, .iload_n 3, 1, 0, 0), (1964, .iconst 2, 1, 0, 0), (1965, .iadd, 1, 0, 0), (1966, .iaload, 1, 0, 0), (1967, .aload_n 0, 1, 0, 0), (1968, .iload_n 3, 1, 0, 0), (1969, .iconst 3, 1, 0, 0), (1970, .iadd, 1, 0, 0), (1971, .iaload, 1, 0, 0), (1972, .aload_n 0, 1, 0, 0), (1973, .iload_n 3, 1, 0, 0), (1974, .iconst 4, 1, 0, 0), (1975, .iadd, 1, 0, 0), (1976, .iaload, 1, 0, 0), (1977, .aload_n 0, 1, 0, 0), (1978, .iload_n 3, 1, 0, 0), (1979, .iconst 5, 1, 0, 0), (1980, .iadd, 1, 0, 0), (1981, .iaload, 1, 0, 0), (1982, .invokevirtual 215, 3, 192, 0), (1985, .pop, 1, 0, 0), (1986, .aload_n 2, 1, 0, 0), (1987, .aload_n 0, 1, 0, 0), (1988, .iload_n 3, 1, 0, 0), (1989, .iconst 1, 1, 0, 0), (1990, .iadd, 1, 0, 0), (1991, .iaload, 1, 0, 0), (1992, .aload_n 0, 1, 0, 0), (1993, .iload_n 3, 1, 0, 0), (1994, .iconst 2, 1, 0, 0), (1995, .iadd, 1, 0, 0), (1996, .iaload, 1, 0, 0), (1997, .aload_n 0, 1, 0, 0), (1998, .iload_n 3, 1, 0, 0), (1999, .iconst 3, 1, 0, 0), (2000, .iadd, 1, 0, 0), (2001, .iaload, 1, 0, 0), (2002, .aload_n 0, 1, 0, 0), (2003, .iload_n 3, 1, 0, 0), (2004, .iconst 4, 1, 0, 0), (2005, .iadd, 1, 0, 0), (2006, .iaload, 1, 0, 0), (2007, .aload_n 0, 1, 0, 0), (2008, .iload_n 3, 1, 0, 0), (2009, .iconst 5, 1, 0, 0), (2010, .iadd, 1, 0, 0), (2011, .iaload, 1, 0, 0), (2012, .invokevirtual 218, 3, 324, 0), (2015, .pop, 1, 0, 0), (2016, .goto 59, 3, 2075, 0), (2019, .aload_n 1, 1, 0, 0), (2020, .aload_n 0, 1, 0, 0), (2021, .iload_n 3, 1, 0, 0), (2022, .iconst 1, 1, 0, 0), (2023, .iadd, 1, 0, 0), (2024, .iaload, 1, 0, 0), (2025, .aload_n 0, 1, 0, 0), (2026, .iload_n 3, 1, 0, 0), (2027, .iconst 2, 1, 0, 0), (2028, .iadd, 1, 0, 0), (2029, .iaload, 1, 0, 0)]
def zI333_15 : List aI := [(2030, .invokevirtual 219, 3, 193, 0), (2033, .pop, 1, 0, 0), (2034, .aload_n 2, 1, 0, 0), (2035, .aload_n 0, 1, 0, 0), (2036, .iload_n 3, 1, 0, 0), (2037, .iconst 1, 1, 0, 0), (2038, .iadd, 1, 0, 0), (2039, .iaload, 1, 0, 0), (2040, .aload_n 0, 1, 0, 0), (2041, .iload_n 3, 1, 0, 0), (2042, .iconst 2, 1, 0, 0), (2043, .iadd, 1, 0, 0), (2044, .iaload, 1, 0, 0), (2045, .invokevirtual 222, 3, 325, 0), (2048, .pop, 1, 0, 0), (2049, .goto 26, 3, 2075, 0), (2052, .aload_n 1, 1, 0, 0), (2053, .aload_n 0, 1, 0, 0), (2054, .iload_n 3, 1, 0, 0), (2055, .iconst 1, 1, 0, 0), (2056, .iadd, 1, 0, 0), (2057, .iaload, 1, 0, 0), (2058, .invokevirtual 223, 3, 194, 0), (2061, .pop, 1, 0, 0), (2062, .aload_n 2, 1, 0, 0), (2063, .aload_n 0, 1, 0, 0), (2064, .iload_n 3, 1, 0, 0), (2065, .iconst 1, 1, 0, 0), (2066, .iadd, 1, 0, 0), (2067, .iaload, 1, 0, 0), (2068, .invokevirtual 226, 3, 327, 0), (2071, .pop, 1, 0, 0), (2072, .goto 3, 3, 2075, 0), (2075, .iinc 3 6, 3, 0, 0), (2078, .goto (-2060), 3, 18, 0), (2081, .iconst 1, 1, 0, 0), (2082, .ireturn, 1, 0, 0)]
def zI333 : List aI := zI333_0 ++ (zI333_1 ++ (zI333_2 ++ (zI333_3 ++ (zI333_4 ++ (zI333_5 ++ (zI333_6 ++ (zI333_7 ++ (zI333_8 ++ (zI333_9 ++ (zI333_10 ++ (zI333_11 ++ (zI333_12 ++ (zI333_13 ++ (zI333_14 ++ (zI333_15)))))))))))))))
def zM333 : aM := (13, ⟨"AcresPaidLaw", "law", "([I)Z"⟩, code, 4, (some .boolean), 1, 1, zI333)
def zmt_0 : List aM := [zM0, zM1, zM2, zM3, zM4, zM5, zM6, zM7, zM8, zM9, zM10, zM11, zM12, zM13, zM14, zM15, zM16, zM17, zM18, zM19]
def zmt_1 : List aM := [zM20, zM21, zM22, zM23, zM24, zM25, zM26, zM27, zM28, zM29, zM30, zM31, zM32, zM33, zM34, zM35, zM36, zM37, zM38, zM39]
def zmt_2 : List aM := [zM40, zM41, zM42, zM43, zM44, zM45, zM46, zM47, zM48, zM49, zM50, zM51, zM52, zM53, zM54, zM55, zM56, zM57, zM58, zM59]
def zmt_3 : List aM := [zM60, zM61, zM62, zM63, zM64, zM65, zM66, zM67, zM68, zM69, zM70, zM71, zM72, zM73, zM74, zM75, zM76, zM77, zM78, zM79]
def zmt_4 : List aM := [zM80, zM81, zM82, zM83, zM84, zM85, zM86, zM87, zM88, zM89, zM90, zM91, zM92, zM93, zM94, zM95, zM96, zM97, zM98, zM99]
def zmt_5 : List aM := [zM100, zM101, zM102, zM103, zM104, zM105, zM106, zM107, zM108, zM109, zM110, zM111, zM112, zM113, zM114, zM115, zM116, zM117, zM118, zM119]
def zmt_6 : List aM := [zM120, zM121, zM122, zM123, zM124, zM125, zM126, zM127, zM128, zM129, zM130, zM131, zM132, zM133, zM134, zM135, zM136, zM137, zM138, zM139]
def zmt_7 : List aM := [zM140, zM141, zM142, zM143, zM144, zM145, zM146, zM147, zM148, zM149, zM150, zM151, zM152, zM153, zM154, zM155, zM156, zM157, zM158, zM159]
def zmt_8 : List aM := [zM160, zM161, zM162, zM163, zM164, zM165, zM166, zM167, zM168, zM169, zM170, zM171, zM172, zM173, zM174, zM175, zM176, zM177, zM178, zM179]
def zmt_9 : List aM := [zM180, zM181, zM182, zM183, zM184, zM185, zM186, zM187, zM188, zM189, zM190, zM191, zM192, zM193, zM194, zM195, zM196, zM197, zM198, zM199]
def zmt_10 : List aM := [zM200, zM201, zM202, zM203, zM204, zM205, zM206, zM207, zM208, zM209, zM210, zM211, zM212, zM213, zM214, zM215, zM216, zM217, zM218, zM219]
def zmt_11 : List aM := [zM220, zM221, zM222, zM223, zM224, zM225, zM226, zM227, zM228, zM229, zM230, zM231, zM232, zM233, zM234, zM235, zM236, zM237, zM238, zM239]
def zmt_12 : List aM := [zM240, zM241, zM242, zM243, zM244, zM245, zM246, zM247, zM248, zM249, zM250, zM251, zM252, zM253, zM254, zM255, zM256, zM257, zM258, zM259]
def zmt_13 : List aM := [zM260, zM261, zM262, zM263, zM264, zM265, zM266, zM267, zM268, zM269, zM270, zM271, zM272, zM273, zM274, zM275, zM276, zM277, zM278, zM279]
def zmt_14 : List aM := [zM280, zM281, zM282, zM283, zM284, zM285, zM286, zM287, zM288, zM289, zM290, zM291, zM292, zM293, zM294, zM295, zM296, zM297, zM298, zM299]
def zmt_15 : List aM := [zM300, zM301, zM302, zM303, zM304, zM305, zM306, zM307, zM308, zM309, zM310, zM311, zM312, zM313, zM314, zM315, zM316, zM317, zM318, zM319]
def zmt_16 : List aM := [zM320, zM321, zM322, zM323, zM324, zM325, zM326, zM327, zM328, zM329, zM330, zM331, zM332]
def zmt : List aM := zmt_0 ++ (zmt_1 ++ (zmt_2 ++ (zmt_3 ++ (zmt_4 ++ (zmt_5 ++ (zmt_6 ++ (zmt_7 ++ (zmt_8 ++ (zmt_9 ++ (zmt_10 ++ (zmt_11 ++ (zmt_12 ++ (zmt_13 ++ (zmt_14 ++ (zmt_15 ++ (zmt_16))))))))))))))))
def zmf : List (Nat × Nat × Nat × Nat × Nat) := [(0, 392, 125, 391, 0), (1, 827, 125, 825, 826), (2, 1199, 125, 1197, 1198), (3, 1204, 125, 1203, 22), (4, 1211, 125, 1210, 23), (5, 1215, 125, 1214, 24), (6, 1225, 125, 1224, 25), (7, 1229, 125, 1228, 26), (8, 1243, 125, 1241, 1242), (9, 1257, 125, 1256, 0), (10, 1254, 125, 1253, 27), (11, 1268, 125, 1267, 28), (12, 1274, 125, 1273, 29), (13, 1278, 125, 1277, 30), (14, 1288, 125, 1286, 1287), (15, 1297, 125, 1295, 1296), (16, 1307, 125, 1305, 1306), (17, 1316, 125, 1315, 31), (18, 1495, 125, 1493, 1494), (19, 565, 129, 564, 0), (20, 1503, 129, 1501, 1502), (21, 1511, 129, 1510, 49), (22, 1507, 129, 1506, 48), (23, 1515, 129, 1514, 50), (24, 1519, 129, 1518, 51), (25, 1523, 129, 1522, 52), (26, 256, 123, 255, 0), (27, 800, 123, 798, 799), (28, 804, 123, 803, 3), (29, 895, 123, 893, 894), (30, 899, 123, 898, 4), (31, 953, 123, 951, 952), (32, 816, 123, 814, 815), (33, 923, 123, 921, 922), (34, 963, 123, 961, 962), (35, 937, 123, 935, 936), (36, 1421, 123, 1419, 1420), (37, 971, 123, 969, 970), (38, 1234, 123, 1232, 1233), (39, 546, 128, 545, 0), (40, 979, 128, 977, 978), (41, 990, 128, 988, 989), (42, 1017, 128, 1015, 1016), (43, 1021, 128, 1020, 9), (44, 499, 127, 498, 0), (45, 1442, 127, 1440, 1441), (46, 1454, 127, 1452, 1453), (47, 1459, 127, 1458, 43), (48, 1464, 127, 1463, 44), (49, 1468, 127, 1467, 45), (50, 1478, 127, 1477, 47), (51, 1472, 127, 1471, 46), (52, 434, 126, 433, 0), (53, 1324, 126, 1322, 1323), (54, 1334, 126, 1333, 32), (55, 1341, 126, 1340, 0), (56, 1347, 126, 1346, 33), (57, 1351, 126, 1350, 34), (58, 1355, 126, 1354, 35), (59, 1359, 126, 1358, 36), (60, 1367, 126, 1366, 37), (61, 1383, 126, 1381, 1382), (62, 1387, 126, 1386, 38), (63, 1395, 126, 1394, 39), (64, 1399, 126, 1398, 40), (65, 1404, 126, 1403, 41), (66, 1416, 126, 1414, 1415), (67, 1425, 126, 1423, 1424), (68, 1433, 126, 1432, 42), (69, 1429, 126, 1428, 0), (70, 154, 121, 153, 0), (71, 657, 121, 656, 0), (72, 1587, 121, 1586, 0), (73, 649, 121, 647, 648), (74, 726, 121, 724, 725), (75, 722, 121, 720, 721), (76, 1311, 121, 1309, 1310), (77, 754, 121, 752, 753), (78, 778, 121, 776, 777), (79, 653, 121, 651, 652), (80, 743, 121, 741, 742), (81, 730, 121, 728, 729), (82, 766, 121, 764, 765), (83, 947, 121, 945, 946), (84, 1338, 121, 1336, 1337), (85, 785, 121, 783, 784), (86, 758, 121, 756, 757), (87, 239, 122, 238, 0), (88, 674, 122, 672, 673), (89, 686, 122, 684, 685), (90, 711, 122, 709, 710), (91, 734, 122, 732, 733), (92, 694, 122, 693, 1), (93, 690, 122, 689, 0), (94, 698, 122, 697, 2), (95, 701, 122, 700, 0), (96, 831, 133, 830, 0), (97, 891, 133, 889, 890), (98, 943, 133, 941, 942), (99, 1329, 133, 1327, 1328), (100, 910, 133, 908, 909), (101, 914, 133, 912, 913), (102, 1221, 133, 1219, 1220), (103, 906, 133, 905, 5), (104, 919, 133, 918, 6), (105, 933, 133, 932, 7), (106, 589, 130, 588, 0), (107, 1536, 130, 1534, 1535), (108, 1540, 130, 1538, 1539), (109, 1548, 130, 1546, 1547), (110, 999, 130, 998, 8), (111, 995, 130, 993, 994), (112, 1562, 130, 1560, 1561), (113, 1565, 130, 1564, 0), (114, 1003, 130, 1001, 1002), (115, 1579, 130, 1577, 1578), (116, 336, 124, 335, 0), (117, 1032, 124, 1030, 1031), (118, 1043, 124, 1041, 1042), (119, 1490, 124, 1488, 1489), (120, 1191, 124, 1189, 1190), (121, 1250, 124, 1248, 1249), (122, 1050, 124, 1049, 10), (123, 1054, 124, 1053, 11), (124, 1082, 124, 1081, 18), (125, 1180, 124, 1179, 21), (126, 1176, 124, 1175, 20), (127, 1183, 124, 1182, 0), (128, 1058, 124, 1057, 12), (129, 1062, 124, 1061, 13), (130, 1066, 124, 1065, 14), (131, 1070, 124, 1069, 15), (132, 1074, 124, 1073, 16), (133, 1078, 124, 1077, 17), (134, 1085, 124, 1084, 0), (135, 1089, 124, 1088, 19), (136, 146, 120, 145, 0), (137, 641, 120, 640, 0), (138, 781, 120, 780, 0), (139, 823, 120, 822, 0), (140, 666, 120, 665, 0), (141, 796, 120, 795, 0), (142, 986, 120, 985, 0), (143, 1039, 120, 1038, 0), (144, 638, 120, 636, 637), (145, 645, 120, 643, 644), (146, 662, 120, 660, 661), (147, 670, 120, 668, 669), (148, 678, 120, 676, 677), (149, 682, 120, 680, 681), (150, 718, 120, 716, 717), (151, 739, 120, 737, 738), (152, 748, 120, 746, 747), (153, 762, 120, 760, 761), (154, 770, 120, 768, 769), (155, 774, 120, 772, 773), (156, 789, 120, 787, 788), (157, 793, 120, 791, 792), (158, 808, 120, 806, 807), (159, 812, 120, 810, 811), (160, 820, 120, 818, 819), (161, 959, 120, 957, 958), (162, 967, 120, 965, 966), (163, 975, 120, 973, 974), (164, 983, 120, 981, 982), (165, 1009, 120, 1007, 1008), (166, 1013, 120, 1011, 1012), (167, 1028, 120, 1026, 1027), (168, 1036, 120, 1034, 1035), (169, 1187, 120, 1185, 1186), (170, 1195, 120, 1193, 1194), (171, 1239, 120, 1237, 1238), (172, 1284, 120, 1282, 1283), (173, 1293, 120, 1291, 1292), (174, 1302, 120, 1300, 1301), (175, 1320, 120, 1318, 1319), (176, 1371, 120, 1369, 1370), (177, 1375, 120, 1373, 1374), (178, 1379, 120, 1377, 1378), (179, 1408, 120, 1406, 1407), (180, 1412, 120, 1410, 1411), (181, 1438, 120, 1436, 1437), (182, 1446, 120, 1444, 1445), (183, 1450, 120, 1448, 1449), (184, 1482, 120, 1480, 1481), (185, 1486, 120, 1484, 1485), (186, 1499, 120, 1497, 1498), (187, 1527, 120, 1525, 1526), (188, 1532, 120, 1530, 1531), (189, 1544, 120, 1542, 1543), (190, 1558, 120, 1556, 1557), (191, 1569, 120, 1567, 1568), (192, 1575, 120, 1573, 1574), (193, 1584, 120, 1582, 1583), (194, 1593, 120, 1591, 1592), (195, 1598, 131, 1597, 0), (196, 1910, 131, 1909, 0), (197, 2013, 131, 2012, 0), (198, 2045, 131, 2044, 0), (199, 1907, 131, 1905, 1906), (200, 1990, 131, 1989, 62), (201, 1925, 131, 1924, 0), (202, 1986, 131, 1985, 61), (203, 2002, 131, 2001, 64), (204, 1918, 131, 1917, 53), (205, 1914, 131, 1912, 1913), (206, 1928, 131, 1927, 0), (207, 1922, 131, 1920, 1921), (208, 1932, 131, 1930, 1931), (209, 1936, 131, 1934, 1935), (210, 1940, 131, 1938, 1939), (211, 1959, 131, 1958, 0), (212, 1966, 131, 1965, 0), (213, 1956, 131, 1955, 56), (214, 1970, 131, 1969, 58), (215, 1974, 131, 1973, 59), (216, 1952, 131, 1951, 55), (217, 1963, 131, 1962, 57), (218, 1948, 131, 1947, 54), (219, 1978, 131, 1977, 60), (220, 1944, 131, 1942, 1943), (221, 1994, 131, 1993, 63), (222, 1982, 131, 1980, 1981), (223, 1998, 131, 1996, 1997), (224, 2006, 131, 2004, 2005), (225, 2010, 131, 2008, 2009), (226, 2021, 131, 2020, 65), (227, 2017, 131, 2015, 2016), (228, 2025, 131, 2023, 2024), (229, 2061, 131, 2060, 69), (230, 2030, 131, 2028, 2029), (231, 2034, 131, 2032, 2033), (232, 2038, 131, 2036, 2037), (233, 2069, 131, 2068, 71), (234, 2057, 131, 2056, 68), (235, 2073, 131, 2072, 72), (236, 2065, 131, 2064, 70), (237, 2081, 131, 2080, 74), (238, 2077, 131, 2076, 73), (239, 2053, 131, 2052, 67), (240, 2085, 131, 2084, 75), (241, 2049, 131, 2048, 66), (242, 2042, 131, 2040, 2041), (243, 2089, 131, 2087, 2088), (244, 2093, 131, 2091, 2092), (245, 2097, 131, 2095, 2096), (246, 2101, 131, 2099, 2100), (247, 2105, 131, 2103, 2104), (248, 2116, 131, 2115, 76), (249, 2112, 131, 2110, 2111), (250, 2121, 131, 2119, 2120), (251, 2160, 131, 2159, 84), (252, 2175, 131, 2174, 87), (253, 2167, 131, 2166, 85), (254, 2171, 131, 2170, 86), (255, 2163, 131, 2162, 0), (256, 2156, 131, 2155, 83), (257, 2152, 131, 2151, 82), (258, 2148, 131, 2147, 81), (259, 2144, 131, 2143, 80), (260, 2140, 131, 2139, 79), (261, 2136, 131, 2135, 78), (262, 2132, 131, 2131, 77), (263, 2128, 131, 2127, 0), (264, 2125, 131, 2123, 2124), (265, 2183, 131, 2182, 88), (266, 2179, 131, 2177, 2178), (267, 2222, 131, 2221, 0), (268, 2219, 131, 2218, 95), (269, 2215, 131, 2214, 94), (270, 2195, 131, 2194, 90), (271, 2199, 131, 2198, 91), (272, 2191, 131, 2190, 89), (273, 2203, 131, 2202, 92), (274, 2187, 131, 2185, 2186), (275, 2226, 131, 2225, 96), (276, 2229, 131, 2228, 0), (277, 2211, 131, 2210, 93), (278, 2207, 131, 2205, 2206), (279, 2239, 131, 2237, 2238), (280, 2243, 131, 2241, 2242), (281, 2249, 131, 2247, 2248), (282, 2265, 131, 2264, 99), (283, 2261, 131, 2260, 98), (284, 2257, 131, 2256, 97), (285, 2276, 131, 2275, 101), (286, 2272, 131, 2271, 100), (287, 2268, 131, 2267, 0), (288, 2253, 131, 2251, 2252), (289, 2280, 131, 2278, 2279), (290, 2284, 131, 2282, 2283), (291, 2292, 131, 2291, 102), (292, 2288, 131, 2286, 2287), (293, 2296, 131, 2295, 103), (294, 2301, 131, 2299, 2300), (295, 2309, 131, 2308, 104), (296, 2312, 131, 2311, 0), (297, 2315, 131, 2314, 0), (298, 2305, 131, 2303, 2304), (299, 2319, 131, 2317, 2318), (300, 2323, 131, 2321, 2322), (301, 2331, 131, 2330, 105), (302, 2327, 131, 2325, 2326), (303, 2335, 131, 2333, 2334), (304, 2339, 131, 2337, 2338), (305, 2351, 131, 2350, 107), (306, 2359, 131, 2358, 109), (307, 2355, 131, 2354, 108), (308, 2347, 131, 2346, 106), (309, 2371, 131, 2370, 112), (310, 2367, 131, 2366, 111), (311, 2363, 131, 2362, 110), (312, 2379, 131, 2378, 114), (313, 2375, 131, 2374, 113), (314, 2387, 131, 2386, 116), (315, 2383, 131, 2382, 115), (316, 2343, 131, 2341, 2342), (317, 2391, 131, 2389, 2390), (318, 2108, 131, 2107, 0), (319, 2395, 131, 2393, 2394), (320, 2399, 131, 2397, 2398), (321, 2407, 131, 2406, 117), (322, 2403, 131, 2401, 2402), (323, 2411, 131, 2409, 2410), (324, 2416, 131, 2414, 2415), (325, 2420, 131, 2418, 2419), (326, 2428, 131, 2427, 118), (327, 2424, 131, 2422, 2423), (328, 1363, 135, 1362, 0), (329, 926, 135, 925, 0), (330, 1554, 134, 1553, 0), (331, 1551, 134, 1550, 0), (332, 902, 134, 901, 0)]
end
section
-- ===== the tables are the Statement's: each word at its place, each instruction as it is decoded (by program) =====
def zW : List Cond := lw_tbl.filter goodWord
theorem zW_in : ∀ w ∈ zW, w ∈ lw_tbl := fun w h => (List.mem_filter.mp h).1
theorem zW_of {w : Cond} (h : w ∈ lw_tbl) (g : goodWord w = true) : w ∈ zW := List.mem_filter.mpr ⟨h, g⟩
theorem zW_good : ∀ w ∈ zW, goodWord w = true := fun w h => (List.mem_filter.mp h).2
theorem zsub_1 {w : Cond} (h : w ∈ tables_1_1) : w ∈ lw_tbl := List.mem_append_right _ (show w ∈ tables_1 from List.mem_append_left _ h)
theorem zsub_2 {w : Cond} (h : w ∈ tables_1_2) : w ∈ lw_tbl := List.mem_append_right _ (show w ∈ tables_1 from List.mem_append_right _ (List.mem_append_left _ h))
theorem zsub_3 {w : Cond} (h : w ∈ tables_1_3) : w ∈ lw_tbl := List.mem_append_right _ (show w ∈ tables_1 from List.mem_append_right _ (List.mem_append_right _ (List.mem_append_left _ h)))
theorem zsub_4 {w : Cond} (h : w ∈ tables_1_4) : w ∈ lw_tbl := List.mem_append_right _ (show w ∈ tables_1 from List.mem_append_right _ (List.mem_append_right _ (List.mem_append_right _ (List.mem_append_left _ h))))
theorem zsub_5 {w : Cond} (h : w ∈ tables_1_5) : w ∈ lw_tbl := List.mem_append_right _ (show w ∈ tables_1 from List.mem_append_right _ (List.mem_append_right _ (List.mem_append_right _ (List.mem_append_right _ (List.mem_append_left _ h)))))
theorem zsub_6 {w : Cond} (h : w ∈ tables_1_6) : w ∈ lw_tbl := List.mem_append_right _ (show w ∈ tables_1 from List.mem_append_right _ (List.mem_append_right _ (List.mem_append_right _ (List.mem_append_right _ (List.mem_append_right _ (List.mem_append_left _ h))))))
theorem zsub_7 {w : Cond} (h : w ∈ tables_1_7) : w ∈ lw_tbl := List.mem_append_right _ (show w ∈ tables_1 from List.mem_append_right _ (List.mem_append_right _ (List.mem_append_right _ (List.mem_append_right _ (List.mem_append_right _ (List.mem_append_right _ (List.mem_append_left _ h)))))))
theorem zsub_8 {w : Cond} (h : w ∈ tables_1_8) : w ∈ lw_tbl := List.mem_append_right _ (show w ∈ tables_1 from List.mem_append_right _ (List.mem_append_right _ (List.mem_append_right _ (List.mem_append_right _ (List.mem_append_right _ (List.mem_append_right _ (List.mem_append_right _ (List.mem_append_left _ h))))))))
theorem zsub_9 {w : Cond} (h : w ∈ tables_1_9) : w ∈ lw_tbl := List.mem_append_right _ (show w ∈ tables_1 from List.mem_append_right _ (List.mem_append_right _ (List.mem_append_right _ (List.mem_append_right _ (List.mem_append_right _ (List.mem_append_right _ (List.mem_append_right _ (List.mem_append_right _ (List.mem_append_left _ h)))))))))
theorem zsub_10 {w : Cond} (h : w ∈ tables_1_10) : w ∈ lw_tbl := List.mem_append_right _ (show w ∈ tables_1 from List.mem_append_right _ (List.mem_append_right _ (List.mem_append_right _ (List.mem_append_right _ (List.mem_append_right _ (List.mem_append_right _ (List.mem_append_right _ (List.mem_append_right _ (List.mem_append_right _ (h))))))))))
def zTab (p : Nat) (w : Cond) : Bool := decide (lw_tbl[p]? = some w) && goodWord w
theorem zTab_mem {p : Nat} {w : Cond} (h : zTab p w = true) : w ∈ zW := by
  have h2 := (Bool.and_eq_true _ _).mp h
  exact zW_of (List.mem_of_getElem? (of_decide_eq_true h2.1)) h2.2
def zwF (o ix a b : Nat) : Cond := .fieldLink (zCN o) ix (zT a b).1 (zT a b).2.1 (zT a b).2.2.1
theorem zfcp_ok : zfcp.all (fun q => decide (q.2.2.1 < 13) && decide (q.2.2.2.1 < zN q.2.2.1) && zTab (q.2.2.2.2 + 119) (zwF q.1 q.2.1 q.2.2.1 q.2.2.2.1)) = true := by decide +kernel
def zmm (a : Nat) : Option MethodName := match a with
  | 1010 => some Lib.Math.max.name
  | 1011 => some Lib.Math.min.name
  | 1012 => some Lib.Math.abs.name
  | 1013 => some Lib.MathLoose.max_long.x
  | 1014 => some Lib.MathLoose.min_long.x
  | _ => none
def zyn (a : Nat) : MethodName := match zmt[a]? with
  | some M => M.2.1
  | none => (match zmm a with
    | some y => y
    | none => objectInit)
theorem zmc_1010 : Cond.code Lib.Math.max.name Lib.Math.max.code 2 (some .int) ∈ zW := zW_of (zsub_3 (List.mem_of_getElem? (show tables_1_3[108]? = some (.code Lib.Math.max.name Lib.Math.max.code 2 (some .int)) from rfl))) rfl
theorem zms_1010 : Cond.static Lib.Math.max.name ∈ zW := zTab_mem (p := 706) (by decide +kernel)
theorem zmc_1011 : Cond.code Lib.Math.min.name Lib.Math.min.code 2 (some .int) ∈ zW := zW_of (zsub_3 (List.mem_of_getElem? (show tables_1_3[105]? = some (.code Lib.Math.min.name Lib.Math.min.code 2 (some .int)) from rfl))) rfl
theorem zms_1011 : Cond.static Lib.Math.min.name ∈ zW := zTab_mem (p := 703) (by decide +kernel)
theorem zmc_1012 : Cond.code Lib.Math.abs.name Lib.Math.abs.code 1 (some .int) ∈ zW := zW_of (zsub_3 (List.mem_of_getElem? (show tables_1_3[115]? = some (.code Lib.Math.abs.name Lib.Math.abs.code 1 (some .int)) from rfl))) rfl
theorem zms_1012 : Cond.static Lib.Math.abs.name ∈ zW := zTab_mem (p := 713) (by decide +kernel)
theorem zmc_1013 : Cond.code Lib.MathLoose.max_long.x Lib.MathLoose.max_long.code 4 (some .long) ∈ zW := zW_of (zsub_5 (List.mem_of_getElem? (show tables_1_5[185]? = some (.code Lib.MathLoose.max_long.x Lib.MathLoose.max_long.code 4 (some .long)) from rfl))) rfl
theorem zms_1013 : Cond.static Lib.MathLoose.max_long.x ∈ zW := zTab_mem (p := 1263) (by decide +kernel)
theorem zmc_1014 : Cond.code Lib.MathLoose.min_long.x Lib.MathLoose.min_long.code 4 (some .long) ∈ zW := zW_of (zsub_5 (List.mem_of_getElem? (show tables_1_5[182]? = some (.code Lib.MathLoose.min_long.x Lib.MathLoose.min_long.code 4 (some .long)) from rfl))) rfl
theorem zms_1014 : Cond.static Lib.MathLoose.min_long.x ∈ zW := zTab_mem (p := 1260) (by decide +kernel)
theorem zmi : Cond.initialized "java/lang/Math" ∈ zW := zTab_mem (p := 132) (by decide +kernel)
def zmcpW (q : Nat × Nat × Nat × Nat × Nat) : Bool := (Nat.beq q.2.2.1 1001 || Nat.beq q.2.2.1 1002) || (if q.2.2.2.1 = 0 then zTab (q.2.2.2.2 + 119) (.methodLink (zCN q.1) q.2.1 (zyn q.2.2.1)) else decide (lw_tbl[q.2.2.2.2 + 119]? = some (.methodLinkNest (zCN q.1) q.2.1 (zyn q.2.2.1) "AcresPaid")))
theorem zmcp_ok_0 : zmcp_0.all zmcpW = true := by decide +kernel
theorem zmcp_ok_1 : zmcp_1.all zmcpW = true := by decide +kernel
theorem zmcp_ok_2 : zmcp_2.all zmcpW = true := by decide +kernel
theorem zmcp_ok_3 : zmcp_3.all zmcpW = true := by decide +kernel
theorem zmcp_ok_4 : zmcp_4.all zmcpW = true := by decide +kernel
theorem zmcp_ok_5 : zmcp_5.all zmcpW = true := by decide +kernel
theorem zmcp_ok_6 : zmcp_6.all zmcpW = true := by decide +kernel
theorem zmcp_ok_7 : zmcp_7.all zmcpW = true := by decide +kernel
theorem zmcp_ok_8 : zmcp_8.all zmcpW = true := by decide +kernel
theorem zall_app {α : Type} {f : α → Bool} {x y : List α} (h1 : x.all f = true) (h2 : y.all f = true) : (x ++ y).all f = true := by
  rw [List.all_append, h1, h2]
  rfl
theorem zmcp_ok : zmcp.all zmcpW = true := zall_app zmcp_ok_0 (zall_app zmcp_ok_1 (zall_app zmcp_ok_2 (zall_app zmcp_ok_3 (zall_app zmcp_ok_4 (zall_app zmcp_ok_5 (zall_app zmcp_ok_6 (zall_app zmcp_ok_7 (zmcp_ok_8))))))))
theorem zccp_ok : zccp.all (fun q => decide (q.2.2.1 < 13) && zTab (q.2.2.2 + 119) (.classLink (zCN q.1) q.2.1 (zCN q.2.2.1))) = true := by decide +kernel
theorem zkcp_ok : zkcp.all (fun q => zTab (q.2.2.2 + 119) (.constant (zCN q.1) q.2.1 (Int32.ofNat q.2.2.1))) = true := by decide +kernel
theorem zlcp_ok : zlcp.all (fun q => zTab (q.2.2.2 + 119) (.constantLong (zCN q.1) q.2.1 (Int64.ofNat q.2.2.1))) = true := by decide +kernel
theorem zFP_ok : (List.range 13).all (fun c => (List.range (zN c)).all (fun k => zTab (((zFP.getD c []).getD k 0) + 119) (u_lay (zCN c) (zT c) k))) = true := by decide +kernel
/-- a code entry is in order: its target, its link -/
def zTy (a : Nat) : Option ArrayType := match a with
  | 0 => some .int
  | 1 => some .long
  | 2 => some .boolean
  | 3 => some .byte
  | _ => none
def zchkI (own : Nat) (i : aI) : Bool := match i.2.1 with
  | .getfield ix => zfcp.any (fun q => Nat.beq q.1 own && Nat.beq q.2.1 ix && Nat.beq q.2.2.1 i.2.2.2.1 && Nat.beq q.2.2.2.1 i.2.2.2.2)
  | .putfield ix => zfcp.any (fun q => Nat.beq q.1 own && Nat.beq q.2.1 ix && Nat.beq q.2.2.1 i.2.2.2.1 && Nat.beq q.2.2.2.1 i.2.2.2.2)
  | .invokevirtual ix => zmcp.any (fun q => Nat.beq q.1 own && Nat.beq q.2.1 ix && Nat.beq q.2.2.1 i.2.2.2.1 && Nat.beq q.2.2.2.1 0)
  | .invokestatic ix => zmcp.any (fun q => Nat.beq q.1 own && Nat.beq q.2.1 ix && Nat.beq q.2.2.1 i.2.2.2.1)
  | .invokespecial ix => zmcp.any (fun q => Nat.beq q.1 own && Nat.beq q.2.1 ix && Nat.beq q.2.2.1 i.2.2.2.1)
  | .new ix => zccp.any (fun q => Nat.beq q.1 own && Nat.beq q.2.1 ix && Nat.beq q.2.2.1 i.2.2.2.1)
  | .anewarray ix => (Nat.beq i.2.2.2.1 4 && Nat.beq own 0 && Nat.beq ix 9) || (Nat.beq i.2.2.2.1 5 && Nat.beq own 3 && Nat.beq ix 19)
  | .ldc ix => zkcp.any (fun q => Nat.beq q.1 own && Nat.beq q.2.1 ix && Nat.beq q.2.2.1 i.2.2.2.1)
  | .ldc_w ix => zkcp.any (fun q => Nat.beq q.1 own && Nat.beq q.2.1 ix && Nat.beq q.2.2.1 i.2.2.2.1)
  | .ldc2_w ix => zlcp.any (fun q => Nat.beq q.1 own && Nat.beq q.2.1 ix && Nat.beq q.2.2.1 i.2.2.2.1)
  | .goto off => decide ((i.1 : Int) + off = (i.2.2.2.1 : Int))
  | .ifCond _ off => decide ((i.1 : Int) + off = (i.2.2.2.1 : Int))
  | .if_icmp _ off => decide ((i.1 : Int) + off = (i.2.2.2.1 : Int))
  | .ifnull off => decide ((i.1 : Int) + off = (i.2.2.2.1 : Int))
  | .ifnonnull off => decide ((i.1 : Int) + off = (i.2.2.2.1 : Int))
  | .tableswitch dflt lo hi offs => decide (-2147483648 ≤ lo) && decide (hi < 2147483648) && decide (lo + offs.toList.length = hi + 1) && decide (0 ≤ (i.1 : Int) + dflt) && offs.toList.all (fun o => decide (0 ≤ (i.1 : Int) + o))
  | .lookupswitch dflt ps => decide (0 ≤ (i.1 : Int) + dflt) && ps.toList.all (fun o => decide (0 ≤ (i.1 : Int) + o.2) && decide (-2147483648 ≤ o.1) && decide (o.1 < 2147483648)) && (ps.toList.zip (ps.toList.drop 1)).all (fun (a, next) => decide (a.1 < next.1))
  | .newarray t => decide (zTy i.2.2.2.1 = some t)
  | .getstatic ix => Nat.beq own 6 && Nat.beq ix 49
  | _ => true
def zlen (i : Instr) (d : Nat) : Nat := match i with
  | .bipush _ => 2
  | .sipush _ => 3
  | .ldc _ => 2
  | .ldc_w _ => 3
  | .ldc2_w _ => 3
  | .iload _ => 2
  | .lload _ => 2
  | .aload _ => 2
  | .istore _ => 2
  | .lstore _ => 2
  | .astore _ => 2
  | .iinc _ _ => 3
  | .goto _ => 3
  | .ifCond _ _ => 3
  | .if_icmp _ _ => 3
  | .ifnull _ => 3
  | .ifnonnull _ => 3
  | .getfield _ => 3
  | .putfield _ => 3
  | .getstatic _ => 3
  | .invokevirtual _ => 3
  | .invokestatic _ => 3
  | .invokespecial _ => 3
  | .new _ => 3
  | .anewarray _ => 3
  | .newarray _ => 2
  | .tableswitch _ _ _ _ => d
  | .lookupswitch _ _ => d
  | _ => 1
def zchk (own : Nat) (bytes : ByteArray) (il : List aI) : Bool := il.all (fun i => decide (decode bytes i.1 = .ok (i.2.1, zlen i.2.1 i.2.2.1)) && zchkI own i)
/-- a method is in order -/
def zMok (M : aM) : Prop := zchk M.1 M.2.2.1 M.2.2.2.2.2.2.2 = true ∧ Cond.code M.2.1 M.2.2.1 M.2.2.2.1 M.2.2.2.2.1 ∈ zW ∧ Cond.initialized M.2.1.cls ∈ zW ∧
  (if M.2.2.2.2.2.2.1 = 1 then Cond.static M.2.1 ∈ zW else Cond.instanceMethod M.2.1 ∈ zW) ∧ (M.2.2.2.2.2.2.1 = 0 → Cond.selects M.2.1.cls M.2.1 M.2.1 ∈ zW) ∧
  (plainName M.2.1.cls && decide (M.2.1.cls ≠ "java/lang/invoke/MethodHandle") && decide (M.2.1.cls ≠ "java/lang/invoke/VarHandle") && decide ((parseMethodDescriptor M.2.1.desc).map (fun d => d.parameters.length) = some M.2.2.2.2.2.1) && decide (zCN M.1 = M.2.1.cls) && decide (M.2.2.2.1 ≤ 22) && decide (M.2.2.2.2.2.2.1 = 2 → M.2.1.name = "<init>" ∧ M.2.2.2.2.1 = none)) = true
end
section
-- ===== methods 0 to 54 are in order (by program) =====
theorem zo0 : zMok zM0 := ⟨by decide +kernel, zW_of (zsub_2 (List.mem_of_getElem? (show tables_1_2[33]? = some (.code zM0.2.1 zM0.2.2.1 zM0.2.2.2.1 zM0.2.2.2.2.1) from rfl))) rfl, zTab_mem (p := 125) (by decide +kernel), (show Cond.instanceMethod zM0.2.1 ∈ zW from zTab_mem (p := 391) (by decide +kernel)), fun h => absurd h (by decide), by decide +kernel⟩
theorem zo1 : zMok zM1 := ⟨by decide +kernel, zW_of (zsub_3 (List.mem_of_getElem? (show tables_1_3[228]? = some (.code zM1.2.1 zM1.2.2.1 zM1.2.2.2.1 zM1.2.2.2.2.1) from rfl))) rfl, zTab_mem (p := 125) (by decide +kernel), (show Cond.instanceMethod zM1.2.1 ∈ zW from zTab_mem (p := 825) (by decide +kernel)), fun _ => zTab_mem (p := 826) (by decide +kernel), by decide +kernel⟩
theorem zo2 : zMok zM2 := ⟨by decide +kernel, zW_of (zsub_5 (List.mem_of_getElem? (show tables_1_5[120]? = some (.code zM2.2.1 zM2.2.2.1 zM2.2.2.2.1 zM2.2.2.2.2.1) from rfl))) rfl, zTab_mem (p := 125) (by decide +kernel), (show Cond.instanceMethod zM2.2.1 ∈ zW from zTab_mem (p := 1197) (by decide +kernel)), fun _ => zTab_mem (p := 1198) (by decide +kernel), by decide +kernel⟩
theorem zo3 : zMok zM3 := ⟨by decide +kernel, zW_of (zsub_5 (List.mem_of_getElem? (show tables_1_5[125]? = some (.code zM3.2.1 zM3.2.2.1 zM3.2.2.2.1 zM3.2.2.2.2.1) from rfl))) rfl, zTab_mem (p := 125) (by decide +kernel), (show Cond.instanceMethod zM3.2.1 ∈ zW from zTab_mem (p := 1203) (by decide +kernel)), fun _ => zTab_mem (p := 22) (by decide +kernel), by decide +kernel⟩
theorem zo4 : zMok zM4 := ⟨by decide +kernel, zW_of (zsub_5 (List.mem_of_getElem? (show tables_1_5[132]? = some (.code zM4.2.1 zM4.2.2.1 zM4.2.2.2.1 zM4.2.2.2.2.1) from rfl))) rfl, zTab_mem (p := 125) (by decide +kernel), (show Cond.instanceMethod zM4.2.1 ∈ zW from zTab_mem (p := 1210) (by decide +kernel)), fun _ => zTab_mem (p := 23) (by decide +kernel), by decide +kernel⟩
theorem zo5 : zMok zM5 := ⟨by decide +kernel, zW_of (zsub_5 (List.mem_of_getElem? (show tables_1_5[136]? = some (.code zM5.2.1 zM5.2.2.1 zM5.2.2.2.1 zM5.2.2.2.2.1) from rfl))) rfl, zTab_mem (p := 125) (by decide +kernel), (show Cond.instanceMethod zM5.2.1 ∈ zW from zTab_mem (p := 1214) (by decide +kernel)), fun _ => zTab_mem (p := 24) (by decide +kernel), by decide +kernel⟩
theorem zo6 : zMok zM6 := ⟨by decide +kernel, zW_of (zsub_5 (List.mem_of_getElem? (show tables_1_5[146]? = some (.code zM6.2.1 zM6.2.2.1 zM6.2.2.2.1 zM6.2.2.2.2.1) from rfl))) rfl, zTab_mem (p := 125) (by decide +kernel), (show Cond.instanceMethod zM6.2.1 ∈ zW from zTab_mem (p := 1224) (by decide +kernel)), fun _ => zTab_mem (p := 25) (by decide +kernel), by decide +kernel⟩
theorem zo7 : zMok zM7 := ⟨by decide +kernel, zW_of (zsub_5 (List.mem_of_getElem? (show tables_1_5[150]? = some (.code zM7.2.1 zM7.2.2.1 zM7.2.2.2.1 zM7.2.2.2.2.1) from rfl))) rfl, zTab_mem (p := 125) (by decide +kernel), (show Cond.instanceMethod zM7.2.1 ∈ zW from zTab_mem (p := 1228) (by decide +kernel)), fun _ => zTab_mem (p := 26) (by decide +kernel), by decide +kernel⟩
theorem zo8 : zMok zM8 := ⟨by decide +kernel, zW_of (zsub_5 (List.mem_of_getElem? (show tables_1_5[164]? = some (.code zM8.2.1 zM8.2.2.1 zM8.2.2.2.1 zM8.2.2.2.2.1) from rfl))) rfl, zTab_mem (p := 125) (by decide +kernel), (show Cond.instanceMethod zM8.2.1 ∈ zW from zTab_mem (p := 1241) (by decide +kernel)), fun _ => zTab_mem (p := 1242) (by decide +kernel), by decide +kernel⟩
theorem zo9 : zMok zM9 := ⟨by decide +kernel, zW_of (zsub_5 (List.mem_of_getElem? (show tables_1_5[178]? = some (.code zM9.2.1 zM9.2.2.1 zM9.2.2.2.1 zM9.2.2.2.2.1) from rfl))) rfl, zTab_mem (p := 125) (by decide +kernel), (show Cond.static zM9.2.1 ∈ zW from zTab_mem (p := 1256) (by decide +kernel)), fun h => absurd h (by decide), by decide +kernel⟩
theorem zo10 : zMok zM10 := ⟨by decide +kernel, zW_of (zsub_5 (List.mem_of_getElem? (show tables_1_5[175]? = some (.code zM10.2.1 zM10.2.2.1 zM10.2.2.2.1 zM10.2.2.2.2.1) from rfl))) rfl, zTab_mem (p := 125) (by decide +kernel), (show Cond.instanceMethod zM10.2.1 ∈ zW from zTab_mem (p := 1253) (by decide +kernel)), fun _ => zTab_mem (p := 27) (by decide +kernel), by decide +kernel⟩
theorem zo11 : zMok zM11 := ⟨by decide +kernel, zW_of (zsub_5 (List.mem_of_getElem? (show tables_1_5[189]? = some (.code zM11.2.1 zM11.2.2.1 zM11.2.2.2.1 zM11.2.2.2.2.1) from rfl))) rfl, zTab_mem (p := 125) (by decide +kernel), (show Cond.instanceMethod zM11.2.1 ∈ zW from zTab_mem (p := 1267) (by decide +kernel)), fun _ => zTab_mem (p := 28) (by decide +kernel), by decide +kernel⟩
theorem zo12 : zMok zM12 := ⟨by decide +kernel, zW_of (zsub_5 (List.mem_of_getElem? (show tables_1_5[195]? = some (.code zM12.2.1 zM12.2.2.1 zM12.2.2.2.1 zM12.2.2.2.2.1) from rfl))) rfl, zTab_mem (p := 125) (by decide +kernel), (show Cond.instanceMethod zM12.2.1 ∈ zW from zTab_mem (p := 1273) (by decide +kernel)), fun _ => zTab_mem (p := 29) (by decide +kernel), by decide +kernel⟩
theorem zo13 : zMok zM13 := ⟨by decide +kernel, zW_of (zsub_5 (List.mem_of_getElem? (show tables_1_5[199]? = some (.code zM13.2.1 zM13.2.2.1 zM13.2.2.2.1 zM13.2.2.2.2.1) from rfl))) rfl, zTab_mem (p := 125) (by decide +kernel), (show Cond.instanceMethod zM13.2.1 ∈ zW from zTab_mem (p := 1277) (by decide +kernel)), fun _ => zTab_mem (p := 30) (by decide +kernel), by decide +kernel⟩
theorem zo14 : zMok zM14 := ⟨by decide +kernel, zW_of (zsub_5 (List.mem_of_getElem? (show tables_1_5[209]? = some (.code zM14.2.1 zM14.2.2.1 zM14.2.2.2.1 zM14.2.2.2.2.1) from rfl))) rfl, zTab_mem (p := 125) (by decide +kernel), (show Cond.instanceMethod zM14.2.1 ∈ zW from zTab_mem (p := 1286) (by decide +kernel)), fun _ => zTab_mem (p := 1287) (by decide +kernel), by decide +kernel⟩
theorem zo15 : zMok zM15 := ⟨by decide +kernel, zW_of (zsub_5 (List.mem_of_getElem? (show tables_1_5[218]? = some (.code zM15.2.1 zM15.2.2.1 zM15.2.2.2.1 zM15.2.2.2.2.1) from rfl))) rfl, zTab_mem (p := 125) (by decide +kernel), (show Cond.instanceMethod zM15.2.1 ∈ zW from zTab_mem (p := 1295) (by decide +kernel)), fun _ => zTab_mem (p := 1296) (by decide +kernel), by decide +kernel⟩
theorem zo16 : zMok zM16 := ⟨by decide +kernel, zW_of (zsub_5 (List.mem_of_getElem? (show tables_1_5[228]? = some (.code zM16.2.1 zM16.2.2.1 zM16.2.2.2.1 zM16.2.2.2.2.1) from rfl))) rfl, zTab_mem (p := 125) (by decide +kernel), (show Cond.instanceMethod zM16.2.1 ∈ zW from zTab_mem (p := 1305) (by decide +kernel)), fun _ => zTab_mem (p := 1306) (by decide +kernel), by decide +kernel⟩
theorem zo17 : zMok zM17 := ⟨by decide +kernel, zW_of (zsub_5 (List.mem_of_getElem? (show tables_1_5[237]? = some (.code zM17.2.1 zM17.2.2.1 zM17.2.2.2.1 zM17.2.2.2.2.1) from rfl))) rfl, zTab_mem (p := 125) (by decide +kernel), (show Cond.instanceMethod zM17.2.1 ∈ zW from zTab_mem (p := 1315) (by decide +kernel)), fun _ => zTab_mem (p := 31) (by decide +kernel), by decide +kernel⟩
theorem zo18 : zMok zM18 := ⟨by decide +kernel, zW_of (zsub_6 (List.mem_of_getElem? (show tables_1_6[176]? = some (.code zM18.2.1 zM18.2.2.1 zM18.2.2.2.1 zM18.2.2.2.2.1) from rfl))) rfl, zTab_mem (p := 125) (by decide +kernel), (show Cond.instanceMethod zM18.2.1 ∈ zW from zTab_mem (p := 1493) (by decide +kernel)), fun _ => zTab_mem (p := 1494) (by decide +kernel), by decide +kernel⟩
theorem zo19 : zMok zM19 := ⟨by decide +kernel, zW_of (zsub_2 (List.mem_of_getElem? (show tables_1_2[206]? = some (.code zM19.2.1 zM19.2.2.1 zM19.2.2.2.1 zM19.2.2.2.2.1) from rfl))) rfl, zTab_mem (p := 129) (by decide +kernel), (show Cond.instanceMethod zM19.2.1 ∈ zW from zTab_mem (p := 564) (by decide +kernel)), fun h => absurd h (by decide), by decide +kernel⟩
theorem zo20 : zMok zM20 := ⟨by decide +kernel, zW_of (zsub_6 (List.mem_of_getElem? (show tables_1_6[184]? = some (.code zM20.2.1 zM20.2.2.1 zM20.2.2.2.1 zM20.2.2.2.2.1) from rfl))) rfl, zTab_mem (p := 129) (by decide +kernel), (show Cond.instanceMethod zM20.2.1 ∈ zW from zTab_mem (p := 1501) (by decide +kernel)), fun _ => zTab_mem (p := 1502) (by decide +kernel), by decide +kernel⟩
theorem zo21 : zMok zM21 := ⟨by decide +kernel, zW_of (zsub_6 (List.mem_of_getElem? (show tables_1_6[192]? = some (.code zM21.2.1 zM21.2.2.1 zM21.2.2.2.1 zM21.2.2.2.2.1) from rfl))) rfl, zTab_mem (p := 129) (by decide +kernel), (show Cond.instanceMethod zM21.2.1 ∈ zW from zTab_mem (p := 1510) (by decide +kernel)), fun _ => zTab_mem (p := 49) (by decide +kernel), by decide +kernel⟩
theorem zo22 : zMok zM22 := ⟨by decide +kernel, zW_of (zsub_6 (List.mem_of_getElem? (show tables_1_6[188]? = some (.code zM22.2.1 zM22.2.2.1 zM22.2.2.2.1 zM22.2.2.2.2.1) from rfl))) rfl, zTab_mem (p := 129) (by decide +kernel), (show Cond.instanceMethod zM22.2.1 ∈ zW from zTab_mem (p := 1506) (by decide +kernel)), fun _ => zTab_mem (p := 48) (by decide +kernel), by decide +kernel⟩
theorem zo23 : zMok zM23 := ⟨by decide +kernel, zW_of (zsub_6 (List.mem_of_getElem? (show tables_1_6[196]? = some (.code zM23.2.1 zM23.2.2.1 zM23.2.2.2.1 zM23.2.2.2.2.1) from rfl))) rfl, zTab_mem (p := 129) (by decide +kernel), (show Cond.instanceMethod zM23.2.1 ∈ zW from zTab_mem (p := 1514) (by decide +kernel)), fun _ => zTab_mem (p := 50) (by decide +kernel), by decide +kernel⟩
theorem zo24 : zMok zM24 := ⟨by decide +kernel, zW_of (zsub_6 (List.mem_of_getElem? (show tables_1_6[200]? = some (.code zM24.2.1 zM24.2.2.1 zM24.2.2.2.1 zM24.2.2.2.2.1) from rfl))) rfl, zTab_mem (p := 129) (by decide +kernel), (show Cond.instanceMethod zM24.2.1 ∈ zW from zTab_mem (p := 1518) (by decide +kernel)), fun _ => zTab_mem (p := 51) (by decide +kernel), by decide +kernel⟩
theorem zo25 : zMok zM25 := ⟨by decide +kernel, zW_of (zsub_6 (List.mem_of_getElem? (show tables_1_6[204]? = some (.code zM25.2.1 zM25.2.2.1 zM25.2.2.2.1 zM25.2.2.2.2.1) from rfl))) rfl, zTab_mem (p := 129) (by decide +kernel), (show Cond.instanceMethod zM25.2.1 ∈ zW from zTab_mem (p := 1522) (by decide +kernel)), fun _ => zTab_mem (p := 52) (by decide +kernel), by decide +kernel⟩
theorem zo26 : zMok zM26 := ⟨by decide +kernel, zW_of (zsub_1 (List.mem_of_getElem? (show tables_1_1[137]? = some (.code zM26.2.1 zM26.2.2.1 zM26.2.2.2.1 zM26.2.2.2.2.1) from rfl))) rfl, zTab_mem (p := 123) (by decide +kernel), (show Cond.instanceMethod zM26.2.1 ∈ zW from zTab_mem (p := 255) (by decide +kernel)), fun h => absurd h (by decide), by decide +kernel⟩
theorem zo27 : zMok zM27 := ⟨by decide +kernel, zW_of (zsub_3 (List.mem_of_getElem? (show tables_1_3[201]? = some (.code zM27.2.1 zM27.2.2.1 zM27.2.2.2.1 zM27.2.2.2.2.1) from rfl))) rfl, zTab_mem (p := 123) (by decide +kernel), (show Cond.instanceMethod zM27.2.1 ∈ zW from zTab_mem (p := 798) (by decide +kernel)), fun _ => zTab_mem (p := 799) (by decide +kernel), by decide +kernel⟩
theorem zo28 : zMok zM28 := ⟨by decide +kernel, zW_of (zsub_3 (List.mem_of_getElem? (show tables_1_3[205]? = some (.code zM28.2.1 zM28.2.2.1 zM28.2.2.2.1 zM28.2.2.2.2.1) from rfl))) rfl, zTab_mem (p := 123) (by decide +kernel), (show Cond.instanceMethod zM28.2.1 ∈ zW from zTab_mem (p := 803) (by decide +kernel)), fun _ => zTab_mem (p := 3) (by decide +kernel), by decide +kernel⟩
theorem zo29 : zMok zM29 := ⟨by decide +kernel, zW_of (zsub_4 (List.mem_of_getElem? (show tables_1_4[56]? = some (.code zM29.2.1 zM29.2.2.1 zM29.2.2.2.1 zM29.2.2.2.2.1) from rfl))) rfl, zTab_mem (p := 123) (by decide +kernel), (show Cond.instanceMethod zM29.2.1 ∈ zW from zTab_mem (p := 893) (by decide +kernel)), fun _ => zTab_mem (p := 894) (by decide +kernel), by decide +kernel⟩
theorem zo30 : zMok zM30 := ⟨by decide +kernel, zW_of (zsub_4 (List.mem_of_getElem? (show tables_1_4[60]? = some (.code zM30.2.1 zM30.2.2.1 zM30.2.2.2.1 zM30.2.2.2.2.1) from rfl))) rfl, zTab_mem (p := 123) (by decide +kernel), (show Cond.instanceMethod zM30.2.1 ∈ zW from zTab_mem (p := 898) (by decide +kernel)), fun _ => zTab_mem (p := 4) (by decide +kernel), by decide +kernel⟩
theorem zo31 : zMok zM31 := ⟨by decide +kernel, zW_of (zsub_4 (List.mem_of_getElem? (show tables_1_4[114]? = some (.code zM31.2.1 zM31.2.2.1 zM31.2.2.2.1 zM31.2.2.2.2.1) from rfl))) rfl, zTab_mem (p := 123) (by decide +kernel), (show Cond.instanceMethod zM31.2.1 ∈ zW from zTab_mem (p := 951) (by decide +kernel)), fun _ => zTab_mem (p := 952) (by decide +kernel), by decide +kernel⟩
theorem zo32 : zMok zM32 := ⟨by decide +kernel, zW_of (zsub_3 (List.mem_of_getElem? (show tables_1_3[217]? = some (.code zM32.2.1 zM32.2.2.1 zM32.2.2.2.1 zM32.2.2.2.2.1) from rfl))) rfl, zTab_mem (p := 123) (by decide +kernel), (show Cond.instanceMethod zM32.2.1 ∈ zW from zTab_mem (p := 814) (by decide +kernel)), fun _ => zTab_mem (p := 815) (by decide +kernel), by decide +kernel⟩
theorem zo33 : zMok zM33 := ⟨by decide +kernel, zW_of (zsub_4 (List.mem_of_getElem? (show tables_1_4[84]? = some (.code zM33.2.1 zM33.2.2.1 zM33.2.2.2.1 zM33.2.2.2.2.1) from rfl))) rfl, zTab_mem (p := 123) (by decide +kernel), (show Cond.instanceMethod zM33.2.1 ∈ zW from zTab_mem (p := 921) (by decide +kernel)), fun _ => zTab_mem (p := 922) (by decide +kernel), by decide +kernel⟩
theorem zo34 : zMok zM34 := ⟨by decide +kernel, zW_of (zsub_4 (List.mem_of_getElem? (show tables_1_4[124]? = some (.code zM34.2.1 zM34.2.2.1 zM34.2.2.2.1 zM34.2.2.2.2.1) from rfl))) rfl, zTab_mem (p := 123) (by decide +kernel), (show Cond.instanceMethod zM34.2.1 ∈ zW from zTab_mem (p := 961) (by decide +kernel)), fun _ => zTab_mem (p := 962) (by decide +kernel), by decide +kernel⟩
theorem zo35 : zMok zM35 := ⟨by decide +kernel, zW_of (zsub_4 (List.mem_of_getElem? (show tables_1_4[98]? = some (.code zM35.2.1 zM35.2.2.1 zM35.2.2.2.1 zM35.2.2.2.2.1) from rfl))) rfl, zTab_mem (p := 123) (by decide +kernel), (show Cond.instanceMethod zM35.2.1 ∈ zW from zTab_mem (p := 935) (by decide +kernel)), fun _ => zTab_mem (p := 936) (by decide +kernel), by decide +kernel⟩
theorem zo36 : zMok zM36 := ⟨by decide +kernel, zW_of (zsub_6 (List.mem_of_getElem? (show tables_1_6[102]? = some (.code zM36.2.1 zM36.2.2.1 zM36.2.2.2.1 zM36.2.2.2.2.1) from rfl))) rfl, zTab_mem (p := 123) (by decide +kernel), (show Cond.instanceMethod zM36.2.1 ∈ zW from zTab_mem (p := 1419) (by decide +kernel)), fun _ => zTab_mem (p := 1420) (by decide +kernel), by decide +kernel⟩
theorem zo37 : zMok zM37 := ⟨by decide +kernel, zW_of (zsub_4 (List.mem_of_getElem? (show tables_1_4[132]? = some (.code zM37.2.1 zM37.2.2.1 zM37.2.2.2.1 zM37.2.2.2.2.1) from rfl))) rfl, zTab_mem (p := 123) (by decide +kernel), (show Cond.instanceMethod zM37.2.1 ∈ zW from zTab_mem (p := 969) (by decide +kernel)), fun _ => zTab_mem (p := 970) (by decide +kernel), by decide +kernel⟩
theorem zo38 : zMok zM38 := ⟨by decide +kernel, zW_of (zsub_5 (List.mem_of_getElem? (show tables_1_5[155]? = some (.code zM38.2.1 zM38.2.2.1 zM38.2.2.2.1 zM38.2.2.2.2.1) from rfl))) rfl, zTab_mem (p := 123) (by decide +kernel), (show Cond.instanceMethod zM38.2.1 ∈ zW from zTab_mem (p := 1232) (by decide +kernel)), fun _ => zTab_mem (p := 1233) (by decide +kernel), by decide +kernel⟩
theorem zo39 : zMok zM39 := ⟨by decide +kernel, zW_of (zsub_2 (List.mem_of_getElem? (show tables_1_2[187]? = some (.code zM39.2.1 zM39.2.2.1 zM39.2.2.2.1 zM39.2.2.2.2.1) from rfl))) rfl, zTab_mem (p := 128) (by decide +kernel), (show Cond.instanceMethod zM39.2.1 ∈ zW from zTab_mem (p := 545) (by decide +kernel)), fun h => absurd h (by decide), by decide +kernel⟩
theorem zo40 : zMok zM40 := ⟨by decide +kernel, zW_of (zsub_4 (List.mem_of_getElem? (show tables_1_4[140]? = some (.code zM40.2.1 zM40.2.2.1 zM40.2.2.2.1 zM40.2.2.2.2.1) from rfl))) rfl, zTab_mem (p := 128) (by decide +kernel), (show Cond.instanceMethod zM40.2.1 ∈ zW from zTab_mem (p := 977) (by decide +kernel)), fun _ => zTab_mem (p := 978) (by decide +kernel), by decide +kernel⟩
theorem zo41 : zMok zM41 := ⟨by decide +kernel, zW_of (zsub_4 (List.mem_of_getElem? (show tables_1_4[151]? = some (.code zM41.2.1 zM41.2.2.1 zM41.2.2.2.1 zM41.2.2.2.2.1) from rfl))) rfl, zTab_mem (p := 128) (by decide +kernel), (show Cond.instanceMethod zM41.2.1 ∈ zW from zTab_mem (p := 988) (by decide +kernel)), fun _ => zTab_mem (p := 989) (by decide +kernel), by decide +kernel⟩
theorem zo42 : zMok zM42 := ⟨by decide +kernel, zW_of (zsub_4 (List.mem_of_getElem? (show tables_1_4[178]? = some (.code zM42.2.1 zM42.2.2.1 zM42.2.2.2.1 zM42.2.2.2.2.1) from rfl))) rfl, zTab_mem (p := 128) (by decide +kernel), (show Cond.instanceMethod zM42.2.1 ∈ zW from zTab_mem (p := 1015) (by decide +kernel)), fun _ => zTab_mem (p := 1016) (by decide +kernel), by decide +kernel⟩
theorem zo43 : zMok zM43 := ⟨by decide +kernel, zW_of (zsub_4 (List.mem_of_getElem? (show tables_1_4[182]? = some (.code zM43.2.1 zM43.2.2.1 zM43.2.2.2.1 zM43.2.2.2.2.1) from rfl))) rfl, zTab_mem (p := 128) (by decide +kernel), (show Cond.instanceMethod zM43.2.1 ∈ zW from zTab_mem (p := 1020) (by decide +kernel)), fun _ => zTab_mem (p := 9) (by decide +kernel), by decide +kernel⟩
theorem zo44 : zMok zM44 := ⟨by decide +kernel, zW_of (zsub_2 (List.mem_of_getElem? (show tables_1_2[140]? = some (.code zM44.2.1 zM44.2.2.1 zM44.2.2.2.1 zM44.2.2.2.2.1) from rfl))) rfl, zTab_mem (p := 127) (by decide +kernel), (show Cond.instanceMethod zM44.2.1 ∈ zW from zTab_mem (p := 498) (by decide +kernel)), fun h => absurd h (by decide), by decide +kernel⟩
theorem zo45 : zMok zM45 := ⟨by decide +kernel, zW_of (zsub_6 (List.mem_of_getElem? (show tables_1_6[123]? = some (.code zM45.2.1 zM45.2.2.1 zM45.2.2.2.1 zM45.2.2.2.2.1) from rfl))) rfl, zTab_mem (p := 127) (by decide +kernel), (show Cond.instanceMethod zM45.2.1 ∈ zW from zTab_mem (p := 1440) (by decide +kernel)), fun _ => zTab_mem (p := 1441) (by decide +kernel), by decide +kernel⟩
theorem zo46 : zMok zM46 := ⟨by decide +kernel, zW_of (zsub_6 (List.mem_of_getElem? (show tables_1_6[135]? = some (.code zM46.2.1 zM46.2.2.1 zM46.2.2.2.1 zM46.2.2.2.2.1) from rfl))) rfl, zTab_mem (p := 127) (by decide +kernel), (show Cond.instanceMethod zM46.2.1 ∈ zW from zTab_mem (p := 1452) (by decide +kernel)), fun _ => zTab_mem (p := 1453) (by decide +kernel), by decide +kernel⟩
theorem zo47 : zMok zM47 := ⟨by decide +kernel, zW_of (zsub_6 (List.mem_of_getElem? (show tables_1_6[140]? = some (.code zM47.2.1 zM47.2.2.1 zM47.2.2.2.1 zM47.2.2.2.2.1) from rfl))) rfl, zTab_mem (p := 127) (by decide +kernel), (show Cond.instanceMethod zM47.2.1 ∈ zW from zTab_mem (p := 1458) (by decide +kernel)), fun _ => zTab_mem (p := 43) (by decide +kernel), by decide +kernel⟩
theorem zo48 : zMok zM48 := ⟨by decide +kernel, zW_of (zsub_6 (List.mem_of_getElem? (show tables_1_6[145]? = some (.code zM48.2.1 zM48.2.2.1 zM48.2.2.2.1 zM48.2.2.2.2.1) from rfl))) rfl, zTab_mem (p := 127) (by decide +kernel), (show Cond.instanceMethod zM48.2.1 ∈ zW from zTab_mem (p := 1463) (by decide +kernel)), fun _ => zTab_mem (p := 44) (by decide +kernel), by decide +kernel⟩
theorem zo49 : zMok zM49 := ⟨by decide +kernel, zW_of (zsub_6 (List.mem_of_getElem? (show tables_1_6[149]? = some (.code zM49.2.1 zM49.2.2.1 zM49.2.2.2.1 zM49.2.2.2.2.1) from rfl))) rfl, zTab_mem (p := 127) (by decide +kernel), (show Cond.instanceMethod zM49.2.1 ∈ zW from zTab_mem (p := 1467) (by decide +kernel)), fun _ => zTab_mem (p := 45) (by decide +kernel), by decide +kernel⟩
theorem zo50 : zMok zM50 := ⟨by decide +kernel, zW_of (zsub_6 (List.mem_of_getElem? (show tables_1_6[159]? = some (.code zM50.2.1 zM50.2.2.1 zM50.2.2.2.1 zM50.2.2.2.2.1) from rfl))) rfl, zTab_mem (p := 127) (by decide +kernel), (show Cond.instanceMethod zM50.2.1 ∈ zW from zTab_mem (p := 1477) (by decide +kernel)), fun _ => zTab_mem (p := 47) (by decide +kernel), by decide +kernel⟩
theorem zo51 : zMok zM51 := ⟨by decide +kernel, zW_of (zsub_6 (List.mem_of_getElem? (show tables_1_6[153]? = some (.code zM51.2.1 zM51.2.2.1 zM51.2.2.2.1 zM51.2.2.2.2.1) from rfl))) rfl, zTab_mem (p := 127) (by decide +kernel), (show Cond.instanceMethod zM51.2.1 ∈ zW from zTab_mem (p := 1471) (by decide +kernel)), fun _ => zTab_mem (p := 46) (by decide +kernel), by decide +kernel⟩
theorem zo52 : zMok zM52 := ⟨by decide +kernel, zW_of (zsub_2 (List.mem_of_getElem? (show tables_1_2[75]? = some (.code zM52.2.1 zM52.2.2.1 zM52.2.2.2.1 zM52.2.2.2.2.1) from rfl))) rfl, zTab_mem (p := 126) (by decide +kernel), (show Cond.instanceMethod zM52.2.1 ∈ zW from zTab_mem (p := 433) (by decide +kernel)), fun h => absurd h (by decide), by decide +kernel⟩
theorem zo53 : zMok zM53 := ⟨by decide +kernel, zW_of (zsub_6 (List.mem_of_getElem? (show tables_1_6[5]? = some (.code zM53.2.1 zM53.2.2.1 zM53.2.2.2.1 zM53.2.2.2.2.1) from rfl))) rfl, zTab_mem (p := 126) (by decide +kernel), (show Cond.instanceMethod zM53.2.1 ∈ zW from zTab_mem (p := 1322) (by decide +kernel)), fun _ => zTab_mem (p := 1323) (by decide +kernel), by decide +kernel⟩
theorem zo54 : zMok zM54 := ⟨by decide +kernel, zW_of (zsub_6 (List.mem_of_getElem? (show tables_1_6[15]? = some (.code zM54.2.1 zM54.2.2.1 zM54.2.2.2.1 zM54.2.2.2.2.1) from rfl))) rfl, zTab_mem (p := 126) (by decide +kernel), (show Cond.instanceMethod zM54.2.1 ∈ zW from zTab_mem (p := 1333) (by decide +kernel)), fun _ => zTab_mem (p := 32) (by decide +kernel), by decide +kernel⟩
end
section
-- ===== methods 55 to 114 are in order (by program) =====
theorem zo55 : zMok zM55 := ⟨by decide +kernel, zW_of (zsub_6 (List.mem_of_getElem? (show tables_1_6[22]? = some (.code zM55.2.1 zM55.2.2.1 zM55.2.2.2.1 zM55.2.2.2.2.1) from rfl))) rfl, zTab_mem (p := 126) (by decide +kernel), (show Cond.static zM55.2.1 ∈ zW from zTab_mem (p := 1340) (by decide +kernel)), fun h => absurd h (by decide), by decide +kernel⟩
theorem zo56 : zMok zM56 := ⟨by decide +kernel, zW_of (zsub_6 (List.mem_of_getElem? (show tables_1_6[28]? = some (.code zM56.2.1 zM56.2.2.1 zM56.2.2.2.1 zM56.2.2.2.2.1) from rfl))) rfl, zTab_mem (p := 126) (by decide +kernel), (show Cond.instanceMethod zM56.2.1 ∈ zW from zTab_mem (p := 1346) (by decide +kernel)), fun _ => zTab_mem (p := 33) (by decide +kernel), by decide +kernel⟩
theorem zo57 : zMok zM57 := ⟨by decide +kernel, zW_of (zsub_6 (List.mem_of_getElem? (show tables_1_6[32]? = some (.code zM57.2.1 zM57.2.2.1 zM57.2.2.2.1 zM57.2.2.2.2.1) from rfl))) rfl, zTab_mem (p := 126) (by decide +kernel), (show Cond.instanceMethod zM57.2.1 ∈ zW from zTab_mem (p := 1350) (by decide +kernel)), fun _ => zTab_mem (p := 34) (by decide +kernel), by decide +kernel⟩
theorem zo58 : zMok zM58 := ⟨by decide +kernel, zW_of (zsub_6 (List.mem_of_getElem? (show tables_1_6[36]? = some (.code zM58.2.1 zM58.2.2.1 zM58.2.2.2.1 zM58.2.2.2.2.1) from rfl))) rfl, zTab_mem (p := 126) (by decide +kernel), (show Cond.instanceMethod zM58.2.1 ∈ zW from zTab_mem (p := 1354) (by decide +kernel)), fun _ => zTab_mem (p := 35) (by decide +kernel), by decide +kernel⟩
theorem zo59 : zMok zM59 := ⟨by decide +kernel, zW_of (zsub_6 (List.mem_of_getElem? (show tables_1_6[40]? = some (.code zM59.2.1 zM59.2.2.1 zM59.2.2.2.1 zM59.2.2.2.2.1) from rfl))) rfl, zTab_mem (p := 126) (by decide +kernel), (show Cond.instanceMethod zM59.2.1 ∈ zW from zTab_mem (p := 1358) (by decide +kernel)), fun _ => zTab_mem (p := 36) (by decide +kernel), by decide +kernel⟩
theorem zo60 : zMok zM60 := ⟨by decide +kernel, zW_of (zsub_6 (List.mem_of_getElem? (show tables_1_6[48]? = some (.code zM60.2.1 zM60.2.2.1 zM60.2.2.2.1 zM60.2.2.2.2.1) from rfl))) rfl, zTab_mem (p := 126) (by decide +kernel), (show Cond.instanceMethod zM60.2.1 ∈ zW from zTab_mem (p := 1366) (by decide +kernel)), fun _ => zTab_mem (p := 37) (by decide +kernel), by decide +kernel⟩
theorem zo61 : zMok zM61 := ⟨by decide +kernel, zW_of (zsub_6 (List.mem_of_getElem? (show tables_1_6[64]? = some (.code zM61.2.1 zM61.2.2.1 zM61.2.2.2.1 zM61.2.2.2.2.1) from rfl))) rfl, zTab_mem (p := 126) (by decide +kernel), (show Cond.instanceMethod zM61.2.1 ∈ zW from zTab_mem (p := 1381) (by decide +kernel)), fun _ => zTab_mem (p := 1382) (by decide +kernel), by decide +kernel⟩
theorem zo62 : zMok zM62 := ⟨by decide +kernel, zW_of (zsub_6 (List.mem_of_getElem? (show tables_1_6[68]? = some (.code zM62.2.1 zM62.2.2.1 zM62.2.2.2.1 zM62.2.2.2.2.1) from rfl))) rfl, zTab_mem (p := 126) (by decide +kernel), (show Cond.instanceMethod zM62.2.1 ∈ zW from zTab_mem (p := 1386) (by decide +kernel)), fun _ => zTab_mem (p := 38) (by decide +kernel), by decide +kernel⟩
theorem zo63 : zMok zM63 := ⟨by decide +kernel, zW_of (zsub_6 (List.mem_of_getElem? (show tables_1_6[76]? = some (.code zM63.2.1 zM63.2.2.1 zM63.2.2.2.1 zM63.2.2.2.2.1) from rfl))) rfl, zTab_mem (p := 126) (by decide +kernel), (show Cond.instanceMethod zM63.2.1 ∈ zW from zTab_mem (p := 1394) (by decide +kernel)), fun _ => zTab_mem (p := 39) (by decide +kernel), by decide +kernel⟩
theorem zo64 : zMok zM64 := ⟨by decide +kernel, zW_of (zsub_6 (List.mem_of_getElem? (show tables_1_6[80]? = some (.code zM64.2.1 zM64.2.2.1 zM64.2.2.2.1 zM64.2.2.2.2.1) from rfl))) rfl, zTab_mem (p := 126) (by decide +kernel), (show Cond.instanceMethod zM64.2.1 ∈ zW from zTab_mem (p := 1398) (by decide +kernel)), fun _ => zTab_mem (p := 40) (by decide +kernel), by decide +kernel⟩
theorem zo65 : zMok zM65 := ⟨by decide +kernel, zW_of (zsub_6 (List.mem_of_getElem? (show tables_1_6[85]? = some (.code zM65.2.1 zM65.2.2.1 zM65.2.2.2.1 zM65.2.2.2.2.1) from rfl))) rfl, zTab_mem (p := 126) (by decide +kernel), (show Cond.instanceMethod zM65.2.1 ∈ zW from zTab_mem (p := 1403) (by decide +kernel)), fun _ => zTab_mem (p := 41) (by decide +kernel), by decide +kernel⟩
theorem zo66 : zMok zM66 := ⟨by decide +kernel, zW_of (zsub_6 (List.mem_of_getElem? (show tables_1_6[97]? = some (.code zM66.2.1 zM66.2.2.1 zM66.2.2.2.1 zM66.2.2.2.2.1) from rfl))) rfl, zTab_mem (p := 126) (by decide +kernel), (show Cond.instanceMethod zM66.2.1 ∈ zW from zTab_mem (p := 1414) (by decide +kernel)), fun _ => zTab_mem (p := 1415) (by decide +kernel), by decide +kernel⟩
theorem zo67 : zMok zM67 := ⟨by decide +kernel, zW_of (zsub_6 (List.mem_of_getElem? (show tables_1_6[106]? = some (.code zM67.2.1 zM67.2.2.1 zM67.2.2.2.1 zM67.2.2.2.2.1) from rfl))) rfl, zTab_mem (p := 126) (by decide +kernel), (show Cond.instanceMethod zM67.2.1 ∈ zW from zTab_mem (p := 1423) (by decide +kernel)), fun _ => zTab_mem (p := 1424) (by decide +kernel), by decide +kernel⟩
theorem zo68 : zMok zM68 := ⟨by decide +kernel, zW_of (zsub_6 (List.mem_of_getElem? (show tables_1_6[114]? = some (.code zM68.2.1 zM68.2.2.1 zM68.2.2.2.1 zM68.2.2.2.2.1) from rfl))) rfl, zTab_mem (p := 126) (by decide +kernel), (show Cond.instanceMethod zM68.2.1 ∈ zW from zTab_mem (p := 1432) (by decide +kernel)), fun _ => zTab_mem (p := 42) (by decide +kernel), by decide +kernel⟩
theorem zo69 : zMok zM69 := ⟨by decide +kernel, zW_of (zsub_6 (List.mem_of_getElem? (show tables_1_6[110]? = some (.code zM69.2.1 zM69.2.2.1 zM69.2.2.2.1 zM69.2.2.2.2.1) from rfl))) rfl, zTab_mem (p := 126) (by decide +kernel), (show Cond.static zM69.2.1 ∈ zW from zTab_mem (p := 1428) (by decide +kernel)), fun h => absurd h (by decide), by decide +kernel⟩
theorem zo70 : zMok zM70 := ⟨by decide +kernel, zW_of (zsub_1 (List.mem_of_getElem? (show tables_1_1[35]? = some (.code zM70.2.1 zM70.2.2.1 zM70.2.2.2.1 zM70.2.2.2.2.1) from rfl))) rfl, zTab_mem (p := 121) (by decide +kernel), (show Cond.instanceMethod zM70.2.1 ∈ zW from zTab_mem (p := 153) (by decide +kernel)), fun h => absurd h (by decide), by decide +kernel⟩
theorem zo71 : zMok zM71 := ⟨by decide +kernel, zW_of (zsub_3 (List.mem_of_getElem? (show tables_1_3[58]? = some (.code zM71.2.1 zM71.2.2.1 zM71.2.2.2.1 zM71.2.2.2.2.1) from rfl))) rfl, zTab_mem (p := 121) (by decide +kernel), (show Cond.static zM71.2.1 ∈ zW from zTab_mem (p := 656) (by decide +kernel)), fun h => absurd h (by decide), by decide +kernel⟩
theorem zo72 : zMok zM72 := ⟨by decide +kernel, zW_of (zsub_7 (List.mem_of_getElem? (show tables_1_7[28]? = some (.code zM72.2.1 zM72.2.2.1 zM72.2.2.2.1 zM72.2.2.2.2.1) from rfl))) rfl, zTab_mem (p := 121) (by decide +kernel), (show Cond.static zM72.2.1 ∈ zW from zTab_mem (p := 1586) (by decide +kernel)), fun h => absurd h (by decide), by decide +kernel⟩
theorem zo73 : zMok zM73 := ⟨by decide +kernel, zW_of (zsub_3 (List.mem_of_getElem? (show tables_1_3[50]? = some (.code zM73.2.1 zM73.2.2.1 zM73.2.2.2.1 zM73.2.2.2.2.1) from rfl))) rfl, zTab_mem (p := 121) (by decide +kernel), (show Cond.instanceMethod zM73.2.1 ∈ zW from zTab_mem (p := 647) (by decide +kernel)), fun _ => zTab_mem (p := 648) (by decide +kernel), by decide +kernel⟩
theorem zo74 : zMok zM74 := ⟨by decide +kernel, zW_of (zsub_3 (List.mem_of_getElem? (show tables_1_3[127]? = some (.code zM74.2.1 zM74.2.2.1 zM74.2.2.2.1 zM74.2.2.2.2.1) from rfl))) rfl, zTab_mem (p := 121) (by decide +kernel), (show Cond.instanceMethod zM74.2.1 ∈ zW from zTab_mem (p := 724) (by decide +kernel)), fun _ => zTab_mem (p := 725) (by decide +kernel), by decide +kernel⟩
theorem zo75 : zMok zM75 := ⟨by decide +kernel, zW_of (zsub_3 (List.mem_of_getElem? (show tables_1_3[123]? = some (.code zM75.2.1 zM75.2.2.1 zM75.2.2.2.1 zM75.2.2.2.2.1) from rfl))) rfl, zTab_mem (p := 121) (by decide +kernel), (show Cond.instanceMethod zM75.2.1 ∈ zW from zTab_mem (p := 720) (by decide +kernel)), fun _ => zTab_mem (p := 721) (by decide +kernel), by decide +kernel⟩
theorem zo76 : zMok zM76 := ⟨by decide +kernel, zW_of (zsub_5 (List.mem_of_getElem? (show tables_1_5[232]? = some (.code zM76.2.1 zM76.2.2.1 zM76.2.2.2.1 zM76.2.2.2.2.1) from rfl))) rfl, zTab_mem (p := 121) (by decide +kernel), (show Cond.instanceMethod zM76.2.1 ∈ zW from zTab_mem (p := 1309) (by decide +kernel)), fun _ => zTab_mem (p := 1310) (by decide +kernel), by decide +kernel⟩
theorem zo77 : zMok zM77 := ⟨by decide +kernel, zW_of (zsub_3 (List.mem_of_getElem? (show tables_1_3[155]? = some (.code zM77.2.1 zM77.2.2.1 zM77.2.2.2.1 zM77.2.2.2.2.1) from rfl))) rfl, zTab_mem (p := 121) (by decide +kernel), (show Cond.instanceMethod zM77.2.1 ∈ zW from zTab_mem (p := 752) (by decide +kernel)), fun _ => zTab_mem (p := 753) (by decide +kernel), by decide +kernel⟩
theorem zo78 : zMok zM78 := ⟨by decide +kernel, zW_of (zsub_3 (List.mem_of_getElem? (show tables_1_3[179]? = some (.code zM78.2.1 zM78.2.2.1 zM78.2.2.2.1 zM78.2.2.2.2.1) from rfl))) rfl, zTab_mem (p := 121) (by decide +kernel), (show Cond.instanceMethod zM78.2.1 ∈ zW from zTab_mem (p := 776) (by decide +kernel)), fun _ => zTab_mem (p := 777) (by decide +kernel), by decide +kernel⟩
theorem zo79 : zMok zM79 := ⟨by decide +kernel, zW_of (zsub_3 (List.mem_of_getElem? (show tables_1_3[54]? = some (.code zM79.2.1 zM79.2.2.1 zM79.2.2.2.1 zM79.2.2.2.2.1) from rfl))) rfl, zTab_mem (p := 121) (by decide +kernel), (show Cond.instanceMethod zM79.2.1 ∈ zW from zTab_mem (p := 651) (by decide +kernel)), fun _ => zTab_mem (p := 652) (by decide +kernel), by decide +kernel⟩
theorem zo80 : zMok zM80 := ⟨by decide +kernel, zW_of (zsub_3 (List.mem_of_getElem? (show tables_1_3[144]? = some (.code zM80.2.1 zM80.2.2.1 zM80.2.2.2.1 zM80.2.2.2.2.1) from rfl))) rfl, zTab_mem (p := 121) (by decide +kernel), (show Cond.instanceMethod zM80.2.1 ∈ zW from zTab_mem (p := 741) (by decide +kernel)), fun _ => zTab_mem (p := 742) (by decide +kernel), by decide +kernel⟩
theorem zo81 : zMok zM81 := ⟨by decide +kernel, zW_of (zsub_3 (List.mem_of_getElem? (show tables_1_3[131]? = some (.code zM81.2.1 zM81.2.2.1 zM81.2.2.2.1 zM81.2.2.2.2.1) from rfl))) rfl, zTab_mem (p := 121) (by decide +kernel), (show Cond.instanceMethod zM81.2.1 ∈ zW from zTab_mem (p := 728) (by decide +kernel)), fun _ => zTab_mem (p := 729) (by decide +kernel), by decide +kernel⟩
theorem zo82 : zMok zM82 := ⟨by decide +kernel, zW_of (zsub_3 (List.mem_of_getElem? (show tables_1_3[167]? = some (.code zM82.2.1 zM82.2.2.1 zM82.2.2.2.1 zM82.2.2.2.2.1) from rfl))) rfl, zTab_mem (p := 121) (by decide +kernel), (show Cond.instanceMethod zM82.2.1 ∈ zW from zTab_mem (p := 764) (by decide +kernel)), fun _ => zTab_mem (p := 765) (by decide +kernel), by decide +kernel⟩
theorem zo83 : zMok zM83 := ⟨by decide +kernel, zW_of (zsub_4 (List.mem_of_getElem? (show tables_1_4[108]? = some (.code zM83.2.1 zM83.2.2.1 zM83.2.2.2.1 zM83.2.2.2.2.1) from rfl))) rfl, zTab_mem (p := 121) (by decide +kernel), (show Cond.instanceMethod zM83.2.1 ∈ zW from zTab_mem (p := 945) (by decide +kernel)), fun _ => zTab_mem (p := 946) (by decide +kernel), by decide +kernel⟩
theorem zo84 : zMok zM84 := ⟨by decide +kernel, zW_of (zsub_6 (List.mem_of_getElem? (show tables_1_6[19]? = some (.code zM84.2.1 zM84.2.2.1 zM84.2.2.2.1 zM84.2.2.2.2.1) from rfl))) rfl, zTab_mem (p := 121) (by decide +kernel), (show Cond.instanceMethod zM84.2.1 ∈ zW from zTab_mem (p := 1336) (by decide +kernel)), fun _ => zTab_mem (p := 1337) (by decide +kernel), by decide +kernel⟩
theorem zo85 : zMok zM85 := ⟨by decide +kernel, zW_of (zsub_3 (List.mem_of_getElem? (show tables_1_3[186]? = some (.code zM85.2.1 zM85.2.2.1 zM85.2.2.2.1 zM85.2.2.2.2.1) from rfl))) rfl, zTab_mem (p := 121) (by decide +kernel), (show Cond.instanceMethod zM85.2.1 ∈ zW from zTab_mem (p := 783) (by decide +kernel)), fun _ => zTab_mem (p := 784) (by decide +kernel), by decide +kernel⟩
theorem zo86 : zMok zM86 := ⟨by decide +kernel, zW_of (zsub_3 (List.mem_of_getElem? (show tables_1_3[159]? = some (.code zM86.2.1 zM86.2.2.1 zM86.2.2.2.1 zM86.2.2.2.2.1) from rfl))) rfl, zTab_mem (p := 121) (by decide +kernel), (show Cond.instanceMethod zM86.2.1 ∈ zW from zTab_mem (p := 756) (by decide +kernel)), fun _ => zTab_mem (p := 757) (by decide +kernel), by decide +kernel⟩
theorem zo87 : zMok zM87 := ⟨by decide +kernel, zW_of (zsub_1 (List.mem_of_getElem? (show tables_1_1[120]? = some (.code zM87.2.1 zM87.2.2.1 zM87.2.2.2.1 zM87.2.2.2.2.1) from rfl))) rfl, zTab_mem (p := 122) (by decide +kernel), (show Cond.instanceMethod zM87.2.1 ∈ zW from zTab_mem (p := 238) (by decide +kernel)), fun h => absurd h (by decide), by decide +kernel⟩
theorem zo88 : zMok zM88 := ⟨by decide +kernel, zW_of (zsub_3 (List.mem_of_getElem? (show tables_1_3[75]? = some (.code zM88.2.1 zM88.2.2.1 zM88.2.2.2.1 zM88.2.2.2.2.1) from rfl))) rfl, zTab_mem (p := 122) (by decide +kernel), (show Cond.instanceMethod zM88.2.1 ∈ zW from zTab_mem (p := 672) (by decide +kernel)), fun _ => zTab_mem (p := 673) (by decide +kernel), by decide +kernel⟩
theorem zo89 : zMok zM89 := ⟨by decide +kernel, zW_of (zsub_3 (List.mem_of_getElem? (show tables_1_3[87]? = some (.code zM89.2.1 zM89.2.2.1 zM89.2.2.2.1 zM89.2.2.2.2.1) from rfl))) rfl, zTab_mem (p := 122) (by decide +kernel), (show Cond.instanceMethod zM89.2.1 ∈ zW from zTab_mem (p := 684) (by decide +kernel)), fun _ => zTab_mem (p := 685) (by decide +kernel), by decide +kernel⟩
theorem zo90 : zMok zM90 := ⟨by decide +kernel, zW_of (zsub_3 (List.mem_of_getElem? (show tables_1_3[112]? = some (.code zM90.2.1 zM90.2.2.1 zM90.2.2.2.1 zM90.2.2.2.2.1) from rfl))) rfl, zTab_mem (p := 122) (by decide +kernel), (show Cond.instanceMethod zM90.2.1 ∈ zW from zTab_mem (p := 709) (by decide +kernel)), fun _ => zTab_mem (p := 710) (by decide +kernel), by decide +kernel⟩
theorem zo91 : zMok zM91 := ⟨by decide +kernel, zW_of (zsub_3 (List.mem_of_getElem? (show tables_1_3[135]? = some (.code zM91.2.1 zM91.2.2.1 zM91.2.2.2.1 zM91.2.2.2.2.1) from rfl))) rfl, zTab_mem (p := 122) (by decide +kernel), (show Cond.instanceMethod zM91.2.1 ∈ zW from zTab_mem (p := 732) (by decide +kernel)), fun _ => zTab_mem (p := 733) (by decide +kernel), by decide +kernel⟩
theorem zo92 : zMok zM92 := ⟨by decide +kernel, zW_of (zsub_3 (List.mem_of_getElem? (show tables_1_3[95]? = some (.code zM92.2.1 zM92.2.2.1 zM92.2.2.2.1 zM92.2.2.2.2.1) from rfl))) rfl, zTab_mem (p := 122) (by decide +kernel), (show Cond.instanceMethod zM92.2.1 ∈ zW from zTab_mem (p := 693) (by decide +kernel)), fun _ => zTab_mem (p := 1) (by decide +kernel), by decide +kernel⟩
theorem zo93 : zMok zM93 := ⟨by decide +kernel, zW_of (zsub_3 (List.mem_of_getElem? (show tables_1_3[91]? = some (.code zM93.2.1 zM93.2.2.1 zM93.2.2.2.1 zM93.2.2.2.2.1) from rfl))) rfl, zTab_mem (p := 122) (by decide +kernel), (show Cond.instanceMethod zM93.2.1 ∈ zW from zTab_mem (p := 689) (by decide +kernel)), fun _ => zTab_mem (p := 0) (by decide +kernel), by decide +kernel⟩
theorem zo94 : zMok zM94 := ⟨by decide +kernel, zW_of (zsub_3 (List.mem_of_getElem? (show tables_1_3[99]? = some (.code zM94.2.1 zM94.2.2.1 zM94.2.2.2.1 zM94.2.2.2.2.1) from rfl))) rfl, zTab_mem (p := 122) (by decide +kernel), (show Cond.instanceMethod zM94.2.1 ∈ zW from zTab_mem (p := 697) (by decide +kernel)), fun _ => zTab_mem (p := 2) (by decide +kernel), by decide +kernel⟩
theorem zo95 : zMok zM95 := ⟨by decide +kernel, zW_of (zsub_3 (List.mem_of_getElem? (show tables_1_3[102]? = some (.code zM95.2.1 zM95.2.2.1 zM95.2.2.2.1 zM95.2.2.2.2.1) from rfl))) rfl, zTab_mem (p := 122) (by decide +kernel), (show Cond.static zM95.2.1 ∈ zW from zTab_mem (p := 700) (by decide +kernel)), fun h => absurd h (by decide), by decide +kernel⟩
theorem zo96 : zMok zM96 := ⟨by decide +kernel, zW_of (zsub_3 (List.mem_of_getElem? (show tables_1_3[232]? = some (.code zM96.2.1 zM96.2.2.1 zM96.2.2.2.1 zM96.2.2.2.2.1) from rfl))) rfl, zTab_mem (p := 133) (by decide +kernel), (show Cond.instanceMethod zM96.2.1 ∈ zW from zTab_mem (p := 830) (by decide +kernel)), fun h => absurd h (by decide), by decide +kernel⟩
theorem zo97 : zMok zM97 := ⟨by decide +kernel, zW_of (zsub_4 (List.mem_of_getElem? (show tables_1_4[52]? = some (.code zM97.2.1 zM97.2.2.1 zM97.2.2.2.1 zM97.2.2.2.2.1) from rfl))) rfl, zTab_mem (p := 133) (by decide +kernel), (show Cond.instanceMethod zM97.2.1 ∈ zW from zTab_mem (p := 889) (by decide +kernel)), fun _ => zTab_mem (p := 890) (by decide +kernel), by decide +kernel⟩
theorem zo98 : zMok zM98 := ⟨by decide +kernel, zW_of (zsub_4 (List.mem_of_getElem? (show tables_1_4[104]? = some (.code zM98.2.1 zM98.2.2.1 zM98.2.2.2.1 zM98.2.2.2.2.1) from rfl))) rfl, zTab_mem (p := 133) (by decide +kernel), (show Cond.instanceMethod zM98.2.1 ∈ zW from zTab_mem (p := 941) (by decide +kernel)), fun _ => zTab_mem (p := 942) (by decide +kernel), by decide +kernel⟩
theorem zo99 : zMok zM99 := ⟨by decide +kernel, zW_of (zsub_6 (List.mem_of_getElem? (show tables_1_6[10]? = some (.code zM99.2.1 zM99.2.2.1 zM99.2.2.2.1 zM99.2.2.2.2.1) from rfl))) rfl, zTab_mem (p := 133) (by decide +kernel), (show Cond.instanceMethod zM99.2.1 ∈ zW from zTab_mem (p := 1327) (by decide +kernel)), fun _ => zTab_mem (p := 1328) (by decide +kernel), by decide +kernel⟩
theorem zo100 : zMok zM100 := ⟨by decide +kernel, zW_of (zsub_4 (List.mem_of_getElem? (show tables_1_4[71]? = some (.code zM100.2.1 zM100.2.2.1 zM100.2.2.2.1 zM100.2.2.2.2.1) from rfl))) rfl, zTab_mem (p := 133) (by decide +kernel), (show Cond.instanceMethod zM100.2.1 ∈ zW from zTab_mem (p := 908) (by decide +kernel)), fun _ => zTab_mem (p := 909) (by decide +kernel), by decide +kernel⟩
theorem zo101 : zMok zM101 := ⟨by decide +kernel, zW_of (zsub_4 (List.mem_of_getElem? (show tables_1_4[75]? = some (.code zM101.2.1 zM101.2.2.1 zM101.2.2.2.1 zM101.2.2.2.2.1) from rfl))) rfl, zTab_mem (p := 133) (by decide +kernel), (show Cond.instanceMethod zM101.2.1 ∈ zW from zTab_mem (p := 912) (by decide +kernel)), fun _ => zTab_mem (p := 913) (by decide +kernel), by decide +kernel⟩
theorem zo102 : zMok zM102 := ⟨by decide +kernel, zW_of (zsub_5 (List.mem_of_getElem? (show tables_1_5[142]? = some (.code zM102.2.1 zM102.2.2.1 zM102.2.2.2.1 zM102.2.2.2.2.1) from rfl))) rfl, zTab_mem (p := 133) (by decide +kernel), (show Cond.instanceMethod zM102.2.1 ∈ zW from zTab_mem (p := 1219) (by decide +kernel)), fun _ => zTab_mem (p := 1220) (by decide +kernel), by decide +kernel⟩
theorem zo103 : zMok zM103 := ⟨by decide +kernel, zW_of (zsub_4 (List.mem_of_getElem? (show tables_1_4[67]? = some (.code zM103.2.1 zM103.2.2.1 zM103.2.2.2.1 zM103.2.2.2.2.1) from rfl))) rfl, zTab_mem (p := 133) (by decide +kernel), (show Cond.instanceMethod zM103.2.1 ∈ zW from zTab_mem (p := 905) (by decide +kernel)), fun _ => zTab_mem (p := 5) (by decide +kernel), by decide +kernel⟩
theorem zo104 : zMok zM104 := ⟨by decide +kernel, zW_of (zsub_4 (List.mem_of_getElem? (show tables_1_4[80]? = some (.code zM104.2.1 zM104.2.2.1 zM104.2.2.2.1 zM104.2.2.2.2.1) from rfl))) rfl, zTab_mem (p := 133) (by decide +kernel), (show Cond.instanceMethod zM104.2.1 ∈ zW from zTab_mem (p := 918) (by decide +kernel)), fun _ => zTab_mem (p := 6) (by decide +kernel), by decide +kernel⟩
theorem zo105 : zMok zM105 := ⟨by decide +kernel, zW_of (zsub_4 (List.mem_of_getElem? (show tables_1_4[94]? = some (.code zM105.2.1 zM105.2.2.1 zM105.2.2.2.1 zM105.2.2.2.2.1) from rfl))) rfl, zTab_mem (p := 133) (by decide +kernel), (show Cond.instanceMethod zM105.2.1 ∈ zW from zTab_mem (p := 932) (by decide +kernel)), fun _ => zTab_mem (p := 7) (by decide +kernel), by decide +kernel⟩
theorem zo106 : zMok zM106 := ⟨by decide +kernel, zW_of (zsub_2 (List.mem_of_getElem? (show tables_1_2[230]? = some (.code zM106.2.1 zM106.2.2.1 zM106.2.2.2.1 zM106.2.2.2.2.1) from rfl))) rfl, zTab_mem (p := 130) (by decide +kernel), (show Cond.instanceMethod zM106.2.1 ∈ zW from zTab_mem (p := 588) (by decide +kernel)), fun h => absurd h (by decide), by decide +kernel⟩
theorem zo107 : zMok zM107 := ⟨by decide +kernel, zW_of (zsub_6 (List.mem_of_getElem? (show tables_1_6[217]? = some (.code zM107.2.1 zM107.2.2.1 zM107.2.2.2.1 zM107.2.2.2.2.1) from rfl))) rfl, zTab_mem (p := 130) (by decide +kernel), (show Cond.instanceMethod zM107.2.1 ∈ zW from zTab_mem (p := 1534) (by decide +kernel)), fun _ => zTab_mem (p := 1535) (by decide +kernel), by decide +kernel⟩
theorem zo108 : zMok zM108 := ⟨by decide +kernel, zW_of (zsub_6 (List.mem_of_getElem? (show tables_1_6[221]? = some (.code zM108.2.1 zM108.2.2.1 zM108.2.2.2.1 zM108.2.2.2.2.1) from rfl))) rfl, zTab_mem (p := 130) (by decide +kernel), (show Cond.instanceMethod zM108.2.1 ∈ zW from zTab_mem (p := 1538) (by decide +kernel)), fun _ => zTab_mem (p := 1539) (by decide +kernel), by decide +kernel⟩
theorem zo109 : zMok zM109 := ⟨by decide +kernel, zW_of (zsub_6 (List.mem_of_getElem? (show tables_1_6[229]? = some (.code zM109.2.1 zM109.2.2.1 zM109.2.2.2.1 zM109.2.2.2.2.1) from rfl))) rfl, zTab_mem (p := 130) (by decide +kernel), (show Cond.instanceMethod zM109.2.1 ∈ zW from zTab_mem (p := 1546) (by decide +kernel)), fun _ => zTab_mem (p := 1547) (by decide +kernel), by decide +kernel⟩
theorem zo110 : zMok zM110 := ⟨by decide +kernel, zW_of (zsub_4 (List.mem_of_getElem? (show tables_1_4[160]? = some (.code zM110.2.1 zM110.2.2.1 zM110.2.2.2.1 zM110.2.2.2.2.1) from rfl))) rfl, zTab_mem (p := 130) (by decide +kernel), (show Cond.instanceMethod zM110.2.1 ∈ zW from zTab_mem (p := 998) (by decide +kernel)), fun _ => zTab_mem (p := 8) (by decide +kernel), by decide +kernel⟩
theorem zo111 : zMok zM111 := ⟨by decide +kernel, zW_of (zsub_4 (List.mem_of_getElem? (show tables_1_4[156]? = some (.code zM111.2.1 zM111.2.2.1 zM111.2.2.2.1 zM111.2.2.2.2.1) from rfl))) rfl, zTab_mem (p := 130) (by decide +kernel), (show Cond.instanceMethod zM111.2.1 ∈ zW from zTab_mem (p := 993) (by decide +kernel)), fun _ => zTab_mem (p := 994) (by decide +kernel), by decide +kernel⟩
theorem zo112 : zMok zM112 := ⟨by decide +kernel, zW_of (zsub_7 (List.mem_of_getElem? (show tables_1_7[3]? = some (.code zM112.2.1 zM112.2.2.1 zM112.2.2.2.1 zM112.2.2.2.2.1) from rfl))) rfl, zTab_mem (p := 130) (by decide +kernel), (show Cond.instanceMethod zM112.2.1 ∈ zW from zTab_mem (p := 1560) (by decide +kernel)), fun _ => zTab_mem (p := 1561) (by decide +kernel), by decide +kernel⟩
theorem zo113 : zMok zM113 := ⟨by decide +kernel, zW_of (zsub_7 (List.mem_of_getElem? (show tables_1_7[6]? = some (.code zM113.2.1 zM113.2.2.1 zM113.2.2.2.1 zM113.2.2.2.2.1) from rfl))) rfl, zTab_mem (p := 130) (by decide +kernel), (show Cond.static zM113.2.1 ∈ zW from zTab_mem (p := 1564) (by decide +kernel)), fun h => absurd h (by decide), by decide +kernel⟩
theorem zo114 : zMok zM114 := ⟨by decide +kernel, zW_of (zsub_4 (List.mem_of_getElem? (show tables_1_4[164]? = some (.code zM114.2.1 zM114.2.2.1 zM114.2.2.2.1 zM114.2.2.2.2.1) from rfl))) rfl, zTab_mem (p := 130) (by decide +kernel), (show Cond.instanceMethod zM114.2.1 ∈ zW from zTab_mem (p := 1001) (by decide +kernel)), fun _ => zTab_mem (p := 1002) (by decide +kernel), by decide +kernel⟩
end
section
-- ===== methods 115 to 174 are in order (by program) =====
theorem zo115 : zMok zM115 := ⟨by decide +kernel, zW_of (zsub_7 (List.mem_of_getElem? (show tables_1_7[20]? = some (.code zM115.2.1 zM115.2.2.1 zM115.2.2.2.1 zM115.2.2.2.2.1) from rfl))) rfl, zTab_mem (p := 130) (by decide +kernel), (show Cond.instanceMethod zM115.2.1 ∈ zW from zTab_mem (p := 1577) (by decide +kernel)), fun _ => zTab_mem (p := 1578) (by decide +kernel), by decide +kernel⟩
theorem zo116 : zMok zM116 := ⟨by decide +kernel, zW_of (zsub_1 (List.mem_of_getElem? (show tables_1_1[217]? = some (.code zM116.2.1 zM116.2.2.1 zM116.2.2.2.1 zM116.2.2.2.2.1) from rfl))) rfl, zTab_mem (p := 124) (by decide +kernel), (show Cond.instanceMethod zM116.2.1 ∈ zW from zTab_mem (p := 335) (by decide +kernel)), fun h => absurd h (by decide), by decide +kernel⟩
theorem zo117 : zMok zM117 := ⟨by decide +kernel, zW_of (zsub_4 (List.mem_of_getElem? (show tables_1_4[193]? = some (.code zM117.2.1 zM117.2.2.1 zM117.2.2.2.1 zM117.2.2.2.2.1) from rfl))) rfl, zTab_mem (p := 124) (by decide +kernel), (show Cond.instanceMethod zM117.2.1 ∈ zW from zTab_mem (p := 1030) (by decide +kernel)), fun _ => zTab_mem (p := 1031) (by decide +kernel), by decide +kernel⟩
theorem zo118 : zMok zM118 := ⟨by decide +kernel, zW_of (zsub_4 (List.mem_of_getElem? (show tables_1_4[204]? = some (.code zM118.2.1 zM118.2.2.1 zM118.2.2.2.1 zM118.2.2.2.2.1) from rfl))) rfl, zTab_mem (p := 124) (by decide +kernel), (show Cond.instanceMethod zM118.2.1 ∈ zW from zTab_mem (p := 1041) (by decide +kernel)), fun _ => zTab_mem (p := 1042) (by decide +kernel), by decide +kernel⟩
theorem zo119 : zMok zM119 := ⟨by decide +kernel, zW_of (zsub_6 (List.mem_of_getElem? (show tables_1_6[171]? = some (.code zM119.2.1 zM119.2.2.1 zM119.2.2.2.1 zM119.2.2.2.2.1) from rfl))) rfl, zTab_mem (p := 124) (by decide +kernel), (show Cond.instanceMethod zM119.2.1 ∈ zW from zTab_mem (p := 1488) (by decide +kernel)), fun _ => zTab_mem (p := 1489) (by decide +kernel), by decide +kernel⟩
theorem zo120 : zMok zM120 := ⟨by decide +kernel, zW_of (zsub_5 (List.mem_of_getElem? (show tables_1_5[112]? = some (.code zM120.2.1 zM120.2.2.1 zM120.2.2.2.1 zM120.2.2.2.2.1) from rfl))) rfl, zTab_mem (p := 124) (by decide +kernel), (show Cond.instanceMethod zM120.2.1 ∈ zW from zTab_mem (p := 1189) (by decide +kernel)), fun _ => zTab_mem (p := 1190) (by decide +kernel), by decide +kernel⟩
theorem zo121 : zMok zM121 := ⟨by decide +kernel, zW_of (zsub_5 (List.mem_of_getElem? (show tables_1_5[171]? = some (.code zM121.2.1 zM121.2.2.1 zM121.2.2.2.1 zM121.2.2.2.2.1) from rfl))) rfl, zTab_mem (p := 124) (by decide +kernel), (show Cond.instanceMethod zM121.2.1 ∈ zW from zTab_mem (p := 1248) (by decide +kernel)), fun _ => zTab_mem (p := 1249) (by decide +kernel), by decide +kernel⟩
theorem zo122 : zMok zM122 := ⟨by decide +kernel, zW_of (zsub_4 (List.mem_of_getElem? (show tables_1_4[211]? = some (.code zM122.2.1 zM122.2.2.1 zM122.2.2.2.1 zM122.2.2.2.2.1) from rfl))) rfl, zTab_mem (p := 124) (by decide +kernel), (show Cond.instanceMethod zM122.2.1 ∈ zW from zTab_mem (p := 1049) (by decide +kernel)), fun _ => zTab_mem (p := 10) (by decide +kernel), by decide +kernel⟩
theorem zo123 : zMok zM123 := ⟨by decide +kernel, zW_of (zsub_4 (List.mem_of_getElem? (show tables_1_4[215]? = some (.code zM123.2.1 zM123.2.2.1 zM123.2.2.2.1 zM123.2.2.2.2.1) from rfl))) rfl, zTab_mem (p := 124) (by decide +kernel), (show Cond.instanceMethod zM123.2.1 ∈ zW from zTab_mem (p := 1053) (by decide +kernel)), fun _ => zTab_mem (p := 11) (by decide +kernel), by decide +kernel⟩
theorem zo124 : zMok zM124 := ⟨by decide +kernel, zW_of (zsub_5 (List.mem_of_getElem? (show tables_1_5[3]? = some (.code zM124.2.1 zM124.2.2.1 zM124.2.2.2.1 zM124.2.2.2.2.1) from rfl))) rfl, zTab_mem (p := 124) (by decide +kernel), (show Cond.instanceMethod zM124.2.1 ∈ zW from zTab_mem (p := 1081) (by decide +kernel)), fun _ => zTab_mem (p := 18) (by decide +kernel), by decide +kernel⟩
theorem zo125 : zMok zM125 := ⟨by decide +kernel, zW_of (zsub_5 (List.mem_of_getElem? (show tables_1_5[101]? = some (.code zM125.2.1 zM125.2.2.1 zM125.2.2.2.1 zM125.2.2.2.2.1) from rfl))) rfl, zTab_mem (p := 124) (by decide +kernel), (show Cond.instanceMethod zM125.2.1 ∈ zW from zTab_mem (p := 1179) (by decide +kernel)), fun _ => zTab_mem (p := 21) (by decide +kernel), by decide +kernel⟩
theorem zo126 : zMok zM126 := ⟨by decide +kernel, zW_of (zsub_5 (List.mem_of_getElem? (show tables_1_5[97]? = some (.code zM126.2.1 zM126.2.2.1 zM126.2.2.2.1 zM126.2.2.2.2.1) from rfl))) rfl, zTab_mem (p := 124) (by decide +kernel), (show Cond.instanceMethod zM126.2.1 ∈ zW from zTab_mem (p := 1175) (by decide +kernel)), fun _ => zTab_mem (p := 20) (by decide +kernel), by decide +kernel⟩
theorem zo127 : zMok zM127 := ⟨by decide +kernel, zW_of (zsub_5 (List.mem_of_getElem? (show tables_1_5[104]? = some (.code zM127.2.1 zM127.2.2.1 zM127.2.2.2.1 zM127.2.2.2.2.1) from rfl))) rfl, zTab_mem (p := 124) (by decide +kernel), (show Cond.static zM127.2.1 ∈ zW from zTab_mem (p := 1182) (by decide +kernel)), fun h => absurd h (by decide), by decide +kernel⟩
theorem zo128 : zMok zM128 := ⟨by decide +kernel, zW_of (zsub_4 (List.mem_of_getElem? (show tables_1_4[219]? = some (.code zM128.2.1 zM128.2.2.1 zM128.2.2.2.1 zM128.2.2.2.2.1) from rfl))) rfl, zTab_mem (p := 124) (by decide +kernel), (show Cond.instanceMethod zM128.2.1 ∈ zW from zTab_mem (p := 1057) (by decide +kernel)), fun _ => zTab_mem (p := 12) (by decide +kernel), by decide +kernel⟩
theorem zo129 : zMok zM129 := ⟨by decide +kernel, zW_of (zsub_4 (List.mem_of_getElem? (show tables_1_4[223]? = some (.code zM129.2.1 zM129.2.2.1 zM129.2.2.2.1 zM129.2.2.2.2.1) from rfl))) rfl, zTab_mem (p := 124) (by decide +kernel), (show Cond.instanceMethod zM129.2.1 ∈ zW from zTab_mem (p := 1061) (by decide +kernel)), fun _ => zTab_mem (p := 13) (by decide +kernel), by decide +kernel⟩
theorem zo130 : zMok zM130 := ⟨by decide +kernel, zW_of (zsub_4 (List.mem_of_getElem? (show tables_1_4[227]? = some (.code zM130.2.1 zM130.2.2.1 zM130.2.2.2.1 zM130.2.2.2.2.1) from rfl))) rfl, zTab_mem (p := 124) (by decide +kernel), (show Cond.instanceMethod zM130.2.1 ∈ zW from zTab_mem (p := 1065) (by decide +kernel)), fun _ => zTab_mem (p := 14) (by decide +kernel), by decide +kernel⟩
theorem zo131 : zMok zM131 := ⟨by decide +kernel, zW_of (zsub_4 (List.mem_of_getElem? (show tables_1_4[231]? = some (.code zM131.2.1 zM131.2.2.1 zM131.2.2.2.1 zM131.2.2.2.2.1) from rfl))) rfl, zTab_mem (p := 124) (by decide +kernel), (show Cond.instanceMethod zM131.2.1 ∈ zW from zTab_mem (p := 1069) (by decide +kernel)), fun _ => zTab_mem (p := 15) (by decide +kernel), by decide +kernel⟩
theorem zo132 : zMok zM132 := ⟨by decide +kernel, zW_of (zsub_4 (List.mem_of_getElem? (show tables_1_4[235]? = some (.code zM132.2.1 zM132.2.2.1 zM132.2.2.2.1 zM132.2.2.2.2.1) from rfl))) rfl, zTab_mem (p := 124) (by decide +kernel), (show Cond.instanceMethod zM132.2.1 ∈ zW from zTab_mem (p := 1073) (by decide +kernel)), fun _ => zTab_mem (p := 16) (by decide +kernel), by decide +kernel⟩
theorem zo133 : zMok zM133 := ⟨by decide +kernel, zW_of (zsub_4 (List.mem_of_getElem? (show tables_1_4[239]? = some (.code zM133.2.1 zM133.2.2.1 zM133.2.2.2.1 zM133.2.2.2.2.1) from rfl))) rfl, zTab_mem (p := 124) (by decide +kernel), (show Cond.instanceMethod zM133.2.1 ∈ zW from zTab_mem (p := 1077) (by decide +kernel)), fun _ => zTab_mem (p := 17) (by decide +kernel), by decide +kernel⟩
theorem zo134 : zMok zM134 := ⟨by decide +kernel, zW_of (zsub_5 (List.mem_of_getElem? (show tables_1_5[6]? = some (.code zM134.2.1 zM134.2.2.1 zM134.2.2.2.1 zM134.2.2.2.2.1) from rfl))) rfl, zTab_mem (p := 124) (by decide +kernel), (show Cond.static zM134.2.1 ∈ zW from zTab_mem (p := 1084) (by decide +kernel)), fun h => absurd h (by decide), by decide +kernel⟩
theorem zo135 : zMok zM135 := ⟨by decide +kernel, zW_of (zsub_5 (List.mem_of_getElem? (show tables_1_5[10]? = some (.code zM135.2.1 zM135.2.2.1 zM135.2.2.2.1 zM135.2.2.2.2.1) from rfl))) rfl, zTab_mem (p := 124) (by decide +kernel), (show Cond.instanceMethod zM135.2.1 ∈ zW from zTab_mem (p := 1088) (by decide +kernel)), fun _ => zTab_mem (p := 19) (by decide +kernel), by decide +kernel⟩
theorem zo136 : zMok zM136 := ⟨by decide +kernel, zW_of (zsub_1 (List.mem_of_getElem? (show tables_1_1[27]? = some (.code zM136.2.1 zM136.2.2.1 zM136.2.2.2.1 zM136.2.2.2.2.1) from rfl))) rfl, zTab_mem (p := 120) (by decide +kernel), (show Cond.instanceMethod zM136.2.1 ∈ zW from zTab_mem (p := 145) (by decide +kernel)), fun h => absurd h (by decide), by decide +kernel⟩
theorem zo137 : zMok zM137 := ⟨by decide +kernel, zW_of (zsub_3 (List.mem_of_getElem? (show tables_1_3[42]? = some (.code zM137.2.1 zM137.2.2.1 zM137.2.2.2.1 zM137.2.2.2.2.1) from rfl))) rfl, zTab_mem (p := 120) (by decide +kernel), (show Cond.static zM137.2.1 ∈ zW from zTab_mem (p := 640) (by decide +kernel)), fun h => absurd h (by decide), by decide +kernel⟩
theorem zo138 : zMok zM138 := ⟨by decide +kernel, zW_of (zsub_3 (List.mem_of_getElem? (show tables_1_3[182]? = some (.code zM138.2.1 zM138.2.2.1 zM138.2.2.2.1 zM138.2.2.2.2.1) from rfl))) rfl, zTab_mem (p := 120) (by decide +kernel), (show Cond.static zM138.2.1 ∈ zW from zTab_mem (p := 780) (by decide +kernel)), fun h => absurd h (by decide), by decide +kernel⟩
theorem zo139 : zMok zM139 := ⟨by decide +kernel, zW_of (zsub_3 (List.mem_of_getElem? (show tables_1_3[224]? = some (.code zM139.2.1 zM139.2.2.1 zM139.2.2.2.1 zM139.2.2.2.2.1) from rfl))) rfl, zTab_mem (p := 120) (by decide +kernel), (show Cond.static zM139.2.1 ∈ zW from zTab_mem (p := 822) (by decide +kernel)), fun h => absurd h (by decide), by decide +kernel⟩
theorem zo140 : zMok zM140 := ⟨by decide +kernel, zW_of (zsub_3 (List.mem_of_getElem? (show tables_1_3[67]? = some (.code zM140.2.1 zM140.2.2.1 zM140.2.2.2.1 zM140.2.2.2.2.1) from rfl))) rfl, zTab_mem (p := 120) (by decide +kernel), (show Cond.static zM140.2.1 ∈ zW from zTab_mem (p := 665) (by decide +kernel)), fun h => absurd h (by decide), by decide +kernel⟩
theorem zo141 : zMok zM141 := ⟨by decide +kernel, zW_of (zsub_3 (List.mem_of_getElem? (show tables_1_3[197]? = some (.code zM141.2.1 zM141.2.2.1 zM141.2.2.2.1 zM141.2.2.2.2.1) from rfl))) rfl, zTab_mem (p := 120) (by decide +kernel), (show Cond.static zM141.2.1 ∈ zW from zTab_mem (p := 795) (by decide +kernel)), fun h => absurd h (by decide), by decide +kernel⟩
theorem zo142 : zMok zM142 := ⟨by decide +kernel, zW_of (zsub_4 (List.mem_of_getElem? (show tables_1_4[147]? = some (.code zM142.2.1 zM142.2.2.1 zM142.2.2.2.1 zM142.2.2.2.2.1) from rfl))) rfl, zTab_mem (p := 120) (by decide +kernel), (show Cond.static zM142.2.1 ∈ zW from zTab_mem (p := 985) (by decide +kernel)), fun h => absurd h (by decide), by decide +kernel⟩
theorem zo143 : zMok zM143 := ⟨by decide +kernel, zW_of (zsub_4 (List.mem_of_getElem? (show tables_1_4[200]? = some (.code zM143.2.1 zM143.2.2.1 zM143.2.2.2.1 zM143.2.2.2.2.1) from rfl))) rfl, zTab_mem (p := 120) (by decide +kernel), (show Cond.static zM143.2.1 ∈ zW from zTab_mem (p := 1038) (by decide +kernel)), fun h => absurd h (by decide), by decide +kernel⟩
theorem zo144 : zMok zM144 := ⟨by decide +kernel, zW_of (zsub_3 (List.mem_of_getElem? (show tables_1_3[39]? = some (.code zM144.2.1 zM144.2.2.1 zM144.2.2.2.1 zM144.2.2.2.2.1) from rfl))) rfl, zTab_mem (p := 120) (by decide +kernel), (show Cond.instanceMethod zM144.2.1 ∈ zW from zTab_mem (p := 636) (by decide +kernel)), fun _ => zTab_mem (p := 637) (by decide +kernel), by decide +kernel⟩
theorem zo145 : zMok zM145 := ⟨by decide +kernel, zW_of (zsub_3 (List.mem_of_getElem? (show tables_1_3[46]? = some (.code zM145.2.1 zM145.2.2.1 zM145.2.2.2.1 zM145.2.2.2.2.1) from rfl))) rfl, zTab_mem (p := 120) (by decide +kernel), (show Cond.instanceMethod zM145.2.1 ∈ zW from zTab_mem (p := 643) (by decide +kernel)), fun _ => zTab_mem (p := 644) (by decide +kernel), by decide +kernel⟩
theorem zo146 : zMok zM146 := ⟨by decide +kernel, zW_of (zsub_3 (List.mem_of_getElem? (show tables_1_3[63]? = some (.code zM146.2.1 zM146.2.2.1 zM146.2.2.2.1 zM146.2.2.2.2.1) from rfl))) rfl, zTab_mem (p := 120) (by decide +kernel), (show Cond.instanceMethod zM146.2.1 ∈ zW from zTab_mem (p := 660) (by decide +kernel)), fun _ => zTab_mem (p := 661) (by decide +kernel), by decide +kernel⟩
theorem zo147 : zMok zM147 := ⟨by decide +kernel, zW_of (zsub_3 (List.mem_of_getElem? (show tables_1_3[71]? = some (.code zM147.2.1 zM147.2.2.1 zM147.2.2.2.1 zM147.2.2.2.2.1) from rfl))) rfl, zTab_mem (p := 120) (by decide +kernel), (show Cond.instanceMethod zM147.2.1 ∈ zW from zTab_mem (p := 668) (by decide +kernel)), fun _ => zTab_mem (p := 669) (by decide +kernel), by decide +kernel⟩
theorem zo148 : zMok zM148 := ⟨by decide +kernel, zW_of (zsub_3 (List.mem_of_getElem? (show tables_1_3[79]? = some (.code zM148.2.1 zM148.2.2.1 zM148.2.2.2.1 zM148.2.2.2.2.1) from rfl))) rfl, zTab_mem (p := 120) (by decide +kernel), (show Cond.instanceMethod zM148.2.1 ∈ zW from zTab_mem (p := 676) (by decide +kernel)), fun _ => zTab_mem (p := 677) (by decide +kernel), by decide +kernel⟩
theorem zo149 : zMok zM149 := ⟨by decide +kernel, zW_of (zsub_3 (List.mem_of_getElem? (show tables_1_3[83]? = some (.code zM149.2.1 zM149.2.2.1 zM149.2.2.2.1 zM149.2.2.2.2.1) from rfl))) rfl, zTab_mem (p := 120) (by decide +kernel), (show Cond.instanceMethod zM149.2.1 ∈ zW from zTab_mem (p := 680) (by decide +kernel)), fun _ => zTab_mem (p := 681) (by decide +kernel), by decide +kernel⟩
theorem zo150 : zMok zM150 := ⟨by decide +kernel, zW_of (zsub_3 (List.mem_of_getElem? (show tables_1_3[119]? = some (.code zM150.2.1 zM150.2.2.1 zM150.2.2.2.1 zM150.2.2.2.2.1) from rfl))) rfl, zTab_mem (p := 120) (by decide +kernel), (show Cond.instanceMethod zM150.2.1 ∈ zW from zTab_mem (p := 716) (by decide +kernel)), fun _ => zTab_mem (p := 717) (by decide +kernel), by decide +kernel⟩
theorem zo151 : zMok zM151 := ⟨by decide +kernel, zW_of (zsub_3 (List.mem_of_getElem? (show tables_1_3[140]? = some (.code zM151.2.1 zM151.2.2.1 zM151.2.2.2.1 zM151.2.2.2.2.1) from rfl))) rfl, zTab_mem (p := 120) (by decide +kernel), (show Cond.instanceMethod zM151.2.1 ∈ zW from zTab_mem (p := 737) (by decide +kernel)), fun _ => zTab_mem (p := 738) (by decide +kernel), by decide +kernel⟩
theorem zo152 : zMok zM152 := ⟨by decide +kernel, zW_of (zsub_3 (List.mem_of_getElem? (show tables_1_3[149]? = some (.code zM152.2.1 zM152.2.2.1 zM152.2.2.2.1 zM152.2.2.2.2.1) from rfl))) rfl, zTab_mem (p := 120) (by decide +kernel), (show Cond.instanceMethod zM152.2.1 ∈ zW from zTab_mem (p := 746) (by decide +kernel)), fun _ => zTab_mem (p := 747) (by decide +kernel), by decide +kernel⟩
theorem zo153 : zMok zM153 := ⟨by decide +kernel, zW_of (zsub_3 (List.mem_of_getElem? (show tables_1_3[163]? = some (.code zM153.2.1 zM153.2.2.1 zM153.2.2.2.1 zM153.2.2.2.2.1) from rfl))) rfl, zTab_mem (p := 120) (by decide +kernel), (show Cond.instanceMethod zM153.2.1 ∈ zW from zTab_mem (p := 760) (by decide +kernel)), fun _ => zTab_mem (p := 761) (by decide +kernel), by decide +kernel⟩
theorem zo154 : zMok zM154 := ⟨by decide +kernel, zW_of (zsub_3 (List.mem_of_getElem? (show tables_1_3[171]? = some (.code zM154.2.1 zM154.2.2.1 zM154.2.2.2.1 zM154.2.2.2.2.1) from rfl))) rfl, zTab_mem (p := 120) (by decide +kernel), (show Cond.instanceMethod zM154.2.1 ∈ zW from zTab_mem (p := 768) (by decide +kernel)), fun _ => zTab_mem (p := 769) (by decide +kernel), by decide +kernel⟩
theorem zo155 : zMok zM155 := ⟨by decide +kernel, zW_of (zsub_3 (List.mem_of_getElem? (show tables_1_3[175]? = some (.code zM155.2.1 zM155.2.2.1 zM155.2.2.2.1 zM155.2.2.2.2.1) from rfl))) rfl, zTab_mem (p := 120) (by decide +kernel), (show Cond.instanceMethod zM155.2.1 ∈ zW from zTab_mem (p := 772) (by decide +kernel)), fun _ => zTab_mem (p := 773) (by decide +kernel), by decide +kernel⟩
theorem zo156 : zMok zM156 := ⟨by decide +kernel, zW_of (zsub_3 (List.mem_of_getElem? (show tables_1_3[190]? = some (.code zM156.2.1 zM156.2.2.1 zM156.2.2.2.1 zM156.2.2.2.2.1) from rfl))) rfl, zTab_mem (p := 120) (by decide +kernel), (show Cond.instanceMethod zM156.2.1 ∈ zW from zTab_mem (p := 787) (by decide +kernel)), fun _ => zTab_mem (p := 788) (by decide +kernel), by decide +kernel⟩
theorem zo157 : zMok zM157 := ⟨by decide +kernel, zW_of (zsub_3 (List.mem_of_getElem? (show tables_1_3[194]? = some (.code zM157.2.1 zM157.2.2.1 zM157.2.2.2.1 zM157.2.2.2.2.1) from rfl))) rfl, zTab_mem (p := 120) (by decide +kernel), (show Cond.instanceMethod zM157.2.1 ∈ zW from zTab_mem (p := 791) (by decide +kernel)), fun _ => zTab_mem (p := 792) (by decide +kernel), by decide +kernel⟩
theorem zo158 : zMok zM158 := ⟨by decide +kernel, zW_of (zsub_3 (List.mem_of_getElem? (show tables_1_3[209]? = some (.code zM158.2.1 zM158.2.2.1 zM158.2.2.2.1 zM158.2.2.2.2.1) from rfl))) rfl, zTab_mem (p := 120) (by decide +kernel), (show Cond.instanceMethod zM158.2.1 ∈ zW from zTab_mem (p := 806) (by decide +kernel)), fun _ => zTab_mem (p := 807) (by decide +kernel), by decide +kernel⟩
theorem zo159 : zMok zM159 := ⟨by decide +kernel, zW_of (zsub_3 (List.mem_of_getElem? (show tables_1_3[213]? = some (.code zM159.2.1 zM159.2.2.1 zM159.2.2.2.1 zM159.2.2.2.2.1) from rfl))) rfl, zTab_mem (p := 120) (by decide +kernel), (show Cond.instanceMethod zM159.2.1 ∈ zW from zTab_mem (p := 810) (by decide +kernel)), fun _ => zTab_mem (p := 811) (by decide +kernel), by decide +kernel⟩
theorem zo160 : zMok zM160 := ⟨by decide +kernel, zW_of (zsub_3 (List.mem_of_getElem? (show tables_1_3[221]? = some (.code zM160.2.1 zM160.2.2.1 zM160.2.2.2.1 zM160.2.2.2.2.1) from rfl))) rfl, zTab_mem (p := 120) (by decide +kernel), (show Cond.instanceMethod zM160.2.1 ∈ zW from zTab_mem (p := 818) (by decide +kernel)), fun _ => zTab_mem (p := 819) (by decide +kernel), by decide +kernel⟩
theorem zo161 : zMok zM161 := ⟨by decide +kernel, zW_of (zsub_4 (List.mem_of_getElem? (show tables_1_4[120]? = some (.code zM161.2.1 zM161.2.2.1 zM161.2.2.2.1 zM161.2.2.2.2.1) from rfl))) rfl, zTab_mem (p := 120) (by decide +kernel), (show Cond.instanceMethod zM161.2.1 ∈ zW from zTab_mem (p := 957) (by decide +kernel)), fun _ => zTab_mem (p := 958) (by decide +kernel), by decide +kernel⟩
theorem zo162 : zMok zM162 := ⟨by decide +kernel, zW_of (zsub_4 (List.mem_of_getElem? (show tables_1_4[128]? = some (.code zM162.2.1 zM162.2.2.1 zM162.2.2.2.1 zM162.2.2.2.2.1) from rfl))) rfl, zTab_mem (p := 120) (by decide +kernel), (show Cond.instanceMethod zM162.2.1 ∈ zW from zTab_mem (p := 965) (by decide +kernel)), fun _ => zTab_mem (p := 966) (by decide +kernel), by decide +kernel⟩
theorem zo163 : zMok zM163 := ⟨by decide +kernel, zW_of (zsub_4 (List.mem_of_getElem? (show tables_1_4[136]? = some (.code zM163.2.1 zM163.2.2.1 zM163.2.2.2.1 zM163.2.2.2.2.1) from rfl))) rfl, zTab_mem (p := 120) (by decide +kernel), (show Cond.instanceMethod zM163.2.1 ∈ zW from zTab_mem (p := 973) (by decide +kernel)), fun _ => zTab_mem (p := 974) (by decide +kernel), by decide +kernel⟩
theorem zo164 : zMok zM164 := ⟨by decide +kernel, zW_of (zsub_4 (List.mem_of_getElem? (show tables_1_4[144]? = some (.code zM164.2.1 zM164.2.2.1 zM164.2.2.2.1 zM164.2.2.2.2.1) from rfl))) rfl, zTab_mem (p := 120) (by decide +kernel), (show Cond.instanceMethod zM164.2.1 ∈ zW from zTab_mem (p := 981) (by decide +kernel)), fun _ => zTab_mem (p := 982) (by decide +kernel), by decide +kernel⟩
theorem zo165 : zMok zM165 := ⟨by decide +kernel, zW_of (zsub_4 (List.mem_of_getElem? (show tables_1_4[170]? = some (.code zM165.2.1 zM165.2.2.1 zM165.2.2.2.1 zM165.2.2.2.2.1) from rfl))) rfl, zTab_mem (p := 120) (by decide +kernel), (show Cond.instanceMethod zM165.2.1 ∈ zW from zTab_mem (p := 1007) (by decide +kernel)), fun _ => zTab_mem (p := 1008) (by decide +kernel), by decide +kernel⟩
theorem zo166 : zMok zM166 := ⟨by decide +kernel, zW_of (zsub_4 (List.mem_of_getElem? (show tables_1_4[174]? = some (.code zM166.2.1 zM166.2.2.1 zM166.2.2.2.1 zM166.2.2.2.2.1) from rfl))) rfl, zTab_mem (p := 120) (by decide +kernel), (show Cond.instanceMethod zM166.2.1 ∈ zW from zTab_mem (p := 1011) (by decide +kernel)), fun _ => zTab_mem (p := 1012) (by decide +kernel), by decide +kernel⟩
theorem zo167 : zMok zM167 := ⟨by decide +kernel, zW_of (zsub_4 (List.mem_of_getElem? (show tables_1_4[189]? = some (.code zM167.2.1 zM167.2.2.1 zM167.2.2.2.1 zM167.2.2.2.2.1) from rfl))) rfl, zTab_mem (p := 120) (by decide +kernel), (show Cond.instanceMethod zM167.2.1 ∈ zW from zTab_mem (p := 1026) (by decide +kernel)), fun _ => zTab_mem (p := 1027) (by decide +kernel), by decide +kernel⟩
theorem zo168 : zMok zM168 := ⟨by decide +kernel, zW_of (zsub_4 (List.mem_of_getElem? (show tables_1_4[197]? = some (.code zM168.2.1 zM168.2.2.1 zM168.2.2.2.1 zM168.2.2.2.2.1) from rfl))) rfl, zTab_mem (p := 120) (by decide +kernel), (show Cond.instanceMethod zM168.2.1 ∈ zW from zTab_mem (p := 1034) (by decide +kernel)), fun _ => zTab_mem (p := 1035) (by decide +kernel), by decide +kernel⟩
theorem zo169 : zMok zM169 := ⟨by decide +kernel, zW_of (zsub_5 (List.mem_of_getElem? (show tables_1_5[108]? = some (.code zM169.2.1 zM169.2.2.1 zM169.2.2.2.1 zM169.2.2.2.2.1) from rfl))) rfl, zTab_mem (p := 120) (by decide +kernel), (show Cond.instanceMethod zM169.2.1 ∈ zW from zTab_mem (p := 1185) (by decide +kernel)), fun _ => zTab_mem (p := 1186) (by decide +kernel), by decide +kernel⟩
theorem zo170 : zMok zM170 := ⟨by decide +kernel, zW_of (zsub_5 (List.mem_of_getElem? (show tables_1_5[116]? = some (.code zM170.2.1 zM170.2.2.1 zM170.2.2.2.1 zM170.2.2.2.2.1) from rfl))) rfl, zTab_mem (p := 120) (by decide +kernel), (show Cond.instanceMethod zM170.2.1 ∈ zW from zTab_mem (p := 1193) (by decide +kernel)), fun _ => zTab_mem (p := 1194) (by decide +kernel), by decide +kernel⟩
theorem zo171 : zMok zM171 := ⟨by decide +kernel, zW_of (zsub_5 (List.mem_of_getElem? (show tables_1_5[160]? = some (.code zM171.2.1 zM171.2.2.1 zM171.2.2.2.1 zM171.2.2.2.2.1) from rfl))) rfl, zTab_mem (p := 120) (by decide +kernel), (show Cond.instanceMethod zM171.2.1 ∈ zW from zTab_mem (p := 1237) (by decide +kernel)), fun _ => zTab_mem (p := 1238) (by decide +kernel), by decide +kernel⟩
theorem zo172 : zMok zM172 := ⟨by decide +kernel, zW_of (zsub_5 (List.mem_of_getElem? (show tables_1_5[205]? = some (.code zM172.2.1 zM172.2.2.1 zM172.2.2.2.1 zM172.2.2.2.2.1) from rfl))) rfl, zTab_mem (p := 120) (by decide +kernel), (show Cond.instanceMethod zM172.2.1 ∈ zW from zTab_mem (p := 1282) (by decide +kernel)), fun _ => zTab_mem (p := 1283) (by decide +kernel), by decide +kernel⟩
theorem zo173 : zMok zM173 := ⟨by decide +kernel, zW_of (zsub_5 (List.mem_of_getElem? (show tables_1_5[214]? = some (.code zM173.2.1 zM173.2.2.1 zM173.2.2.2.1 zM173.2.2.2.2.1) from rfl))) rfl, zTab_mem (p := 120) (by decide +kernel), (show Cond.instanceMethod zM173.2.1 ∈ zW from zTab_mem (p := 1291) (by decide +kernel)), fun _ => zTab_mem (p := 1292) (by decide +kernel), by decide +kernel⟩
theorem zo174 : zMok zM174 := ⟨by decide +kernel, zW_of (zsub_5 (List.mem_of_getElem? (show tables_1_5[223]? = some (.code zM174.2.1 zM174.2.2.1 zM174.2.2.2.1 zM174.2.2.2.2.1) from rfl))) rfl, zTab_mem (p := 120) (by decide +kernel), (show Cond.instanceMethod zM174.2.1 ∈ zW from zTab_mem (p := 1300) (by decide +kernel)), fun _ => zTab_mem (p := 1301) (by decide +kernel), by decide +kernel⟩
end
section
-- ===== methods 175 to 224 are in order (by program) =====
theorem zo175 : zMok zM175 := ⟨by decide +kernel, zW_of (zsub_6 (List.mem_of_getElem? (show tables_1_6[1]? = some (.code zM175.2.1 zM175.2.2.1 zM175.2.2.2.1 zM175.2.2.2.2.1) from rfl))) rfl, zTab_mem (p := 120) (by decide +kernel), (show Cond.instanceMethod zM175.2.1 ∈ zW from zTab_mem (p := 1318) (by decide +kernel)), fun _ => zTab_mem (p := 1319) (by decide +kernel), by decide +kernel⟩
theorem zo176 : zMok zM176 := ⟨by decide +kernel, zW_of (zsub_6 (List.mem_of_getElem? (show tables_1_6[52]? = some (.code zM176.2.1 zM176.2.2.1 zM176.2.2.2.1 zM176.2.2.2.2.1) from rfl))) rfl, zTab_mem (p := 120) (by decide +kernel), (show Cond.instanceMethod zM176.2.1 ∈ zW from zTab_mem (p := 1369) (by decide +kernel)), fun _ => zTab_mem (p := 1370) (by decide +kernel), by decide +kernel⟩
theorem zo177 : zMok zM177 := ⟨by decide +kernel, zW_of (zsub_6 (List.mem_of_getElem? (show tables_1_6[56]? = some (.code zM177.2.1 zM177.2.2.1 zM177.2.2.2.1 zM177.2.2.2.2.1) from rfl))) rfl, zTab_mem (p := 120) (by decide +kernel), (show Cond.instanceMethod zM177.2.1 ∈ zW from zTab_mem (p := 1373) (by decide +kernel)), fun _ => zTab_mem (p := 1374) (by decide +kernel), by decide +kernel⟩
theorem zo178 : zMok zM178 := ⟨by decide +kernel, zW_of (zsub_6 (List.mem_of_getElem? (show tables_1_6[60]? = some (.code zM178.2.1 zM178.2.2.1 zM178.2.2.2.1 zM178.2.2.2.2.1) from rfl))) rfl, zTab_mem (p := 120) (by decide +kernel), (show Cond.instanceMethod zM178.2.1 ∈ zW from zTab_mem (p := 1377) (by decide +kernel)), fun _ => zTab_mem (p := 1378) (by decide +kernel), by decide +kernel⟩
theorem zo179 : zMok zM179 := ⟨by decide +kernel, zW_of (zsub_6 (List.mem_of_getElem? (show tables_1_6[89]? = some (.code zM179.2.1 zM179.2.2.1 zM179.2.2.2.1 zM179.2.2.2.2.1) from rfl))) rfl, zTab_mem (p := 120) (by decide +kernel), (show Cond.instanceMethod zM179.2.1 ∈ zW from zTab_mem (p := 1406) (by decide +kernel)), fun _ => zTab_mem (p := 1407) (by decide +kernel), by decide +kernel⟩
theorem zo180 : zMok zM180 := ⟨by decide +kernel, zW_of (zsub_6 (List.mem_of_getElem? (show tables_1_6[93]? = some (.code zM180.2.1 zM180.2.2.1 zM180.2.2.2.1 zM180.2.2.2.2.1) from rfl))) rfl, zTab_mem (p := 120) (by decide +kernel), (show Cond.instanceMethod zM180.2.1 ∈ zW from zTab_mem (p := 1410) (by decide +kernel)), fun _ => zTab_mem (p := 1411) (by decide +kernel), by decide +kernel⟩
theorem zo181 : zMok zM181 := ⟨by decide +kernel, zW_of (zsub_6 (List.mem_of_getElem? (show tables_1_6[119]? = some (.code zM181.2.1 zM181.2.2.1 zM181.2.2.2.1 zM181.2.2.2.2.1) from rfl))) rfl, zTab_mem (p := 120) (by decide +kernel), (show Cond.instanceMethod zM181.2.1 ∈ zW from zTab_mem (p := 1436) (by decide +kernel)), fun _ => zTab_mem (p := 1437) (by decide +kernel), by decide +kernel⟩
theorem zo182 : zMok zM182 := ⟨by decide +kernel, zW_of (zsub_6 (List.mem_of_getElem? (show tables_1_6[127]? = some (.code zM182.2.1 zM182.2.2.1 zM182.2.2.2.1 zM182.2.2.2.2.1) from rfl))) rfl, zTab_mem (p := 120) (by decide +kernel), (show Cond.instanceMethod zM182.2.1 ∈ zW from zTab_mem (p := 1444) (by decide +kernel)), fun _ => zTab_mem (p := 1445) (by decide +kernel), by decide +kernel⟩
theorem zo183 : zMok zM183 := ⟨by decide +kernel, zW_of (zsub_6 (List.mem_of_getElem? (show tables_1_6[131]? = some (.code zM183.2.1 zM183.2.2.1 zM183.2.2.2.1 zM183.2.2.2.2.1) from rfl))) rfl, zTab_mem (p := 120) (by decide +kernel), (show Cond.instanceMethod zM183.2.1 ∈ zW from zTab_mem (p := 1448) (by decide +kernel)), fun _ => zTab_mem (p := 1449) (by decide +kernel), by decide +kernel⟩
theorem zo184 : zMok zM184 := ⟨by decide +kernel, zW_of (zsub_6 (List.mem_of_getElem? (show tables_1_6[163]? = some (.code zM184.2.1 zM184.2.2.1 zM184.2.2.2.1 zM184.2.2.2.2.1) from rfl))) rfl, zTab_mem (p := 120) (by decide +kernel), (show Cond.instanceMethod zM184.2.1 ∈ zW from zTab_mem (p := 1480) (by decide +kernel)), fun _ => zTab_mem (p := 1481) (by decide +kernel), by decide +kernel⟩
theorem zo185 : zMok zM185 := ⟨by decide +kernel, zW_of (zsub_6 (List.mem_of_getElem? (show tables_1_6[167]? = some (.code zM185.2.1 zM185.2.2.1 zM185.2.2.2.1 zM185.2.2.2.2.1) from rfl))) rfl, zTab_mem (p := 120) (by decide +kernel), (show Cond.instanceMethod zM185.2.1 ∈ zW from zTab_mem (p := 1484) (by decide +kernel)), fun _ => zTab_mem (p := 1485) (by decide +kernel), by decide +kernel⟩
theorem zo186 : zMok zM186 := ⟨by decide +kernel, zW_of (zsub_6 (List.mem_of_getElem? (show tables_1_6[180]? = some (.code zM186.2.1 zM186.2.2.1 zM186.2.2.2.1 zM186.2.2.2.2.1) from rfl))) rfl, zTab_mem (p := 120) (by decide +kernel), (show Cond.instanceMethod zM186.2.1 ∈ zW from zTab_mem (p := 1497) (by decide +kernel)), fun _ => zTab_mem (p := 1498) (by decide +kernel), by decide +kernel⟩
theorem zo187 : zMok zM187 := ⟨by decide +kernel, zW_of (zsub_6 (List.mem_of_getElem? (show tables_1_6[208]? = some (.code zM187.2.1 zM187.2.2.1 zM187.2.2.2.1 zM187.2.2.2.2.1) from rfl))) rfl, zTab_mem (p := 120) (by decide +kernel), (show Cond.instanceMethod zM187.2.1 ∈ zW from zTab_mem (p := 1525) (by decide +kernel)), fun _ => zTab_mem (p := 1526) (by decide +kernel), by decide +kernel⟩
theorem zo188 : zMok zM188 := ⟨by decide +kernel, zW_of (zsub_6 (List.mem_of_getElem? (show tables_1_6[213]? = some (.code zM188.2.1 zM188.2.2.1 zM188.2.2.2.1 zM188.2.2.2.2.1) from rfl))) rfl, zTab_mem (p := 120) (by decide +kernel), (show Cond.instanceMethod zM188.2.1 ∈ zW from zTab_mem (p := 1530) (by decide +kernel)), fun _ => zTab_mem (p := 1531) (by decide +kernel), by decide +kernel⟩
theorem zo189 : zMok zM189 := ⟨by decide +kernel, zW_of (zsub_6 (List.mem_of_getElem? (show tables_1_6[225]? = some (.code zM189.2.1 zM189.2.2.1 zM189.2.2.2.1 zM189.2.2.2.2.1) from rfl))) rfl, zTab_mem (p := 120) (by decide +kernel), (show Cond.instanceMethod zM189.2.1 ∈ zW from zTab_mem (p := 1542) (by decide +kernel)), fun _ => zTab_mem (p := 1543) (by decide +kernel), by decide +kernel⟩
theorem zo190 : zMok zM190 := ⟨by decide +kernel, zW_of (zsub_6 (List.mem_of_getElem? (show tables_1_6[239]? = some (.code zM190.2.1 zM190.2.2.1 zM190.2.2.2.1 zM190.2.2.2.2.1) from rfl))) rfl, zTab_mem (p := 120) (by decide +kernel), (show Cond.instanceMethod zM190.2.1 ∈ zW from zTab_mem (p := 1556) (by decide +kernel)), fun _ => zTab_mem (p := 1557) (by decide +kernel), by decide +kernel⟩
theorem zo191 : zMok zM191 := ⟨by decide +kernel, zW_of (zsub_7 (List.mem_of_getElem? (show tables_1_7[10]? = some (.code zM191.2.1 zM191.2.2.1 zM191.2.2.2.1 zM191.2.2.2.2.1) from rfl))) rfl, zTab_mem (p := 120) (by decide +kernel), (show Cond.instanceMethod zM191.2.1 ∈ zW from zTab_mem (p := 1567) (by decide +kernel)), fun _ => zTab_mem (p := 1568) (by decide +kernel), by decide +kernel⟩
theorem zo192 : zMok zM192 := ⟨by decide +kernel, zW_of (zsub_7 (List.mem_of_getElem? (show tables_1_7[16]? = some (.code zM192.2.1 zM192.2.2.1 zM192.2.2.2.1 zM192.2.2.2.2.1) from rfl))) rfl, zTab_mem (p := 120) (by decide +kernel), (show Cond.instanceMethod zM192.2.1 ∈ zW from zTab_mem (p := 1573) (by decide +kernel)), fun _ => zTab_mem (p := 1574) (by decide +kernel), by decide +kernel⟩
theorem zo193 : zMok zM193 := ⟨by decide +kernel, zW_of (zsub_7 (List.mem_of_getElem? (show tables_1_7[25]? = some (.code zM193.2.1 zM193.2.2.1 zM193.2.2.2.1 zM193.2.2.2.2.1) from rfl))) rfl, zTab_mem (p := 120) (by decide +kernel), (show Cond.instanceMethod zM193.2.1 ∈ zW from zTab_mem (p := 1582) (by decide +kernel)), fun _ => zTab_mem (p := 1583) (by decide +kernel), by decide +kernel⟩
theorem zo194 : zMok zM194 := ⟨by decide +kernel, zW_of (zsub_7 (List.mem_of_getElem? (show tables_1_7[34]? = some (.code zM194.2.1 zM194.2.2.1 zM194.2.2.2.1 zM194.2.2.2.2.1) from rfl))) rfl, zTab_mem (p := 120) (by decide +kernel), (show Cond.instanceMethod zM194.2.1 ∈ zW from zTab_mem (p := 1591) (by decide +kernel)), fun _ => zTab_mem (p := 1592) (by decide +kernel), by decide +kernel⟩
theorem zo195 : zMok zM195 := ⟨by decide +kernel, zW_of (zsub_7 (List.mem_of_getElem? (show tables_1_7[39]? = some (.code zM195.2.1 zM195.2.2.1 zM195.2.2.2.1 zM195.2.2.2.2.1) from rfl))) rfl, zTab_mem (p := 131) (by decide +kernel), (show Cond.instanceMethod zM195.2.1 ∈ zW from zTab_mem (p := 1597) (by decide +kernel)), fun h => absurd h (by decide), by decide +kernel⟩
theorem zo196 : zMok zM196 := ⟨by decide +kernel, zW_of (zsub_8 (List.mem_of_getElem? (show tables_1_8[111]? = some (.code zM196.2.1 zM196.2.2.1 zM196.2.2.2.1 zM196.2.2.2.2.1) from rfl))) rfl, zTab_mem (p := 131) (by decide +kernel), (show Cond.static zM196.2.1 ∈ zW from zTab_mem (p := 1909) (by decide +kernel)), fun h => absurd h (by decide), by decide +kernel⟩
theorem zo197 : zMok zM197 := ⟨by decide +kernel, zW_of (zsub_8 (List.mem_of_getElem? (show tables_1_8[214]? = some (.code zM197.2.1 zM197.2.2.1 zM197.2.2.2.1 zM197.2.2.2.2.1) from rfl))) rfl, zTab_mem (p := 131) (by decide +kernel), (show Cond.static zM197.2.1 ∈ zW from zTab_mem (p := 2012) (by decide +kernel)), fun h => absurd h (by decide), by decide +kernel⟩
theorem zo198 : zMok zM198 := ⟨by decide +kernel, zW_of (zsub_9 (List.mem_of_getElem? (show tables_1_9[6]? = some (.code zM198.2.1 zM198.2.2.1 zM198.2.2.2.1 zM198.2.2.2.2.1) from rfl))) rfl, zTab_mem (p := 131) (by decide +kernel), (show Cond.static zM198.2.1 ∈ zW from zTab_mem (p := 2044) (by decide +kernel)), fun h => absurd h (by decide), by decide +kernel⟩
theorem zo199 : zMok zM199 := ⟨by decide +kernel, zW_of (zsub_8 (List.mem_of_getElem? (show tables_1_8[108]? = some (.code zM199.2.1 zM199.2.2.1 zM199.2.2.2.1 zM199.2.2.2.2.1) from rfl))) rfl, zTab_mem (p := 131) (by decide +kernel), (show Cond.instanceMethod zM199.2.1 ∈ zW from zTab_mem (p := 1905) (by decide +kernel)), fun _ => zTab_mem (p := 1906) (by decide +kernel), by decide +kernel⟩
theorem zo200 : zMok zM200 := ⟨by decide +kernel, zW_of (zsub_8 (List.mem_of_getElem? (show tables_1_8[191]? = some (.code zM200.2.1 zM200.2.2.1 zM200.2.2.2.1 zM200.2.2.2.2.1) from rfl))) rfl, zTab_mem (p := 131) (by decide +kernel), (show Cond.instanceMethod zM200.2.1 ∈ zW from zTab_mem (p := 1989) (by decide +kernel)), fun _ => zTab_mem (p := 62) (by decide +kernel), by decide +kernel⟩
theorem zo201 : zMok zM201 := ⟨by decide +kernel, zW_of (zsub_8 (List.mem_of_getElem? (show tables_1_8[126]? = some (.code zM201.2.1 zM201.2.2.1 zM201.2.2.2.1 zM201.2.2.2.2.1) from rfl))) rfl, zTab_mem (p := 131) (by decide +kernel), (show Cond.static zM201.2.1 ∈ zW from zTab_mem (p := 1924) (by decide +kernel)), fun h => absurd h (by decide), by decide +kernel⟩
theorem zo202 : zMok zM202 := ⟨by decide +kernel, zW_of (zsub_8 (List.mem_of_getElem? (show tables_1_8[187]? = some (.code zM202.2.1 zM202.2.2.1 zM202.2.2.2.1 zM202.2.2.2.2.1) from rfl))) rfl, zTab_mem (p := 131) (by decide +kernel), (show Cond.instanceMethod zM202.2.1 ∈ zW from zTab_mem (p := 1985) (by decide +kernel)), fun _ => zTab_mem (p := 61) (by decide +kernel), by decide +kernel⟩
theorem zo203 : zMok zM203 := ⟨by decide +kernel, zW_of (zsub_8 (List.mem_of_getElem? (show tables_1_8[203]? = some (.code zM203.2.1 zM203.2.2.1 zM203.2.2.2.1 zM203.2.2.2.2.1) from rfl))) rfl, zTab_mem (p := 131) (by decide +kernel), (show Cond.instanceMethod zM203.2.1 ∈ zW from zTab_mem (p := 2001) (by decide +kernel)), fun _ => zTab_mem (p := 64) (by decide +kernel), by decide +kernel⟩
theorem zo204 : zMok zM204 := ⟨by decide +kernel, zW_of (zsub_8 (List.mem_of_getElem? (show tables_1_8[119]? = some (.code zM204.2.1 zM204.2.2.1 zM204.2.2.2.1 zM204.2.2.2.2.1) from rfl))) rfl, zTab_mem (p := 131) (by decide +kernel), (show Cond.instanceMethod zM204.2.1 ∈ zW from zTab_mem (p := 1917) (by decide +kernel)), fun _ => zTab_mem (p := 53) (by decide +kernel), by decide +kernel⟩
theorem zo205 : zMok zM205 := ⟨by decide +kernel, zW_of (zsub_8 (List.mem_of_getElem? (show tables_1_8[115]? = some (.code zM205.2.1 zM205.2.2.1 zM205.2.2.2.1 zM205.2.2.2.2.1) from rfl))) rfl, zTab_mem (p := 131) (by decide +kernel), (show Cond.instanceMethod zM205.2.1 ∈ zW from zTab_mem (p := 1912) (by decide +kernel)), fun _ => zTab_mem (p := 1913) (by decide +kernel), by decide +kernel⟩
theorem zo206 : zMok zM206 := ⟨by decide +kernel, zW_of (zsub_8 (List.mem_of_getElem? (show tables_1_8[129]? = some (.code zM206.2.1 zM206.2.2.1 zM206.2.2.2.1 zM206.2.2.2.2.1) from rfl))) rfl, zTab_mem (p := 131) (by decide +kernel), (show Cond.static zM206.2.1 ∈ zW from zTab_mem (p := 1927) (by decide +kernel)), fun h => absurd h (by decide), by decide +kernel⟩
theorem zo207 : zMok zM207 := ⟨by decide +kernel, zW_of (zsub_8 (List.mem_of_getElem? (show tables_1_8[123]? = some (.code zM207.2.1 zM207.2.2.1 zM207.2.2.2.1 zM207.2.2.2.2.1) from rfl))) rfl, zTab_mem (p := 131) (by decide +kernel), (show Cond.instanceMethod zM207.2.1 ∈ zW from zTab_mem (p := 1920) (by decide +kernel)), fun _ => zTab_mem (p := 1921) (by decide +kernel), by decide +kernel⟩
theorem zo208 : zMok zM208 := ⟨by decide +kernel, zW_of (zsub_8 (List.mem_of_getElem? (show tables_1_8[133]? = some (.code zM208.2.1 zM208.2.2.1 zM208.2.2.2.1 zM208.2.2.2.2.1) from rfl))) rfl, zTab_mem (p := 131) (by decide +kernel), (show Cond.instanceMethod zM208.2.1 ∈ zW from zTab_mem (p := 1930) (by decide +kernel)), fun _ => zTab_mem (p := 1931) (by decide +kernel), by decide +kernel⟩
theorem zo209 : zMok zM209 := ⟨by decide +kernel, zW_of (zsub_8 (List.mem_of_getElem? (show tables_1_8[137]? = some (.code zM209.2.1 zM209.2.2.1 zM209.2.2.2.1 zM209.2.2.2.2.1) from rfl))) rfl, zTab_mem (p := 131) (by decide +kernel), (show Cond.instanceMethod zM209.2.1 ∈ zW from zTab_mem (p := 1934) (by decide +kernel)), fun _ => zTab_mem (p := 1935) (by decide +kernel), by decide +kernel⟩
theorem zo210 : zMok zM210 := ⟨by decide +kernel, zW_of (zsub_8 (List.mem_of_getElem? (show tables_1_8[141]? = some (.code zM210.2.1 zM210.2.2.1 zM210.2.2.2.1 zM210.2.2.2.2.1) from rfl))) rfl, zTab_mem (p := 131) (by decide +kernel), (show Cond.instanceMethod zM210.2.1 ∈ zW from zTab_mem (p := 1938) (by decide +kernel)), fun _ => zTab_mem (p := 1939) (by decide +kernel), by decide +kernel⟩
theorem zo211 : zMok zM211 := ⟨by decide +kernel, zW_of (zsub_8 (List.mem_of_getElem? (show tables_1_8[160]? = some (.code zM211.2.1 zM211.2.2.1 zM211.2.2.2.1 zM211.2.2.2.2.1) from rfl))) rfl, zTab_mem (p := 131) (by decide +kernel), (show Cond.static zM211.2.1 ∈ zW from zTab_mem (p := 1958) (by decide +kernel)), fun h => absurd h (by decide), by decide +kernel⟩
theorem zo212 : zMok zM212 := ⟨by decide +kernel, zW_of (zsub_8 (List.mem_of_getElem? (show tables_1_8[167]? = some (.code zM212.2.1 zM212.2.2.1 zM212.2.2.2.1 zM212.2.2.2.2.1) from rfl))) rfl, zTab_mem (p := 131) (by decide +kernel), (show Cond.static zM212.2.1 ∈ zW from zTab_mem (p := 1965) (by decide +kernel)), fun h => absurd h (by decide), by decide +kernel⟩
theorem zo213 : zMok zM213 := ⟨by decide +kernel, zW_of (zsub_8 (List.mem_of_getElem? (show tables_1_8[157]? = some (.code zM213.2.1 zM213.2.2.1 zM213.2.2.2.1 zM213.2.2.2.2.1) from rfl))) rfl, zTab_mem (p := 131) (by decide +kernel), (show Cond.instanceMethod zM213.2.1 ∈ zW from zTab_mem (p := 1955) (by decide +kernel)), fun _ => zTab_mem (p := 56) (by decide +kernel), by decide +kernel⟩
theorem zo214 : zMok zM214 := ⟨by decide +kernel, zW_of (zsub_8 (List.mem_of_getElem? (show tables_1_8[171]? = some (.code zM214.2.1 zM214.2.2.1 zM214.2.2.2.1 zM214.2.2.2.2.1) from rfl))) rfl, zTab_mem (p := 131) (by decide +kernel), (show Cond.instanceMethod zM214.2.1 ∈ zW from zTab_mem (p := 1969) (by decide +kernel)), fun _ => zTab_mem (p := 58) (by decide +kernel), by decide +kernel⟩
theorem zo215 : zMok zM215 := ⟨by decide +kernel, zW_of (zsub_8 (List.mem_of_getElem? (show tables_1_8[175]? = some (.code zM215.2.1 zM215.2.2.1 zM215.2.2.2.1 zM215.2.2.2.2.1) from rfl))) rfl, zTab_mem (p := 131) (by decide +kernel), (show Cond.instanceMethod zM215.2.1 ∈ zW from zTab_mem (p := 1973) (by decide +kernel)), fun _ => zTab_mem (p := 59) (by decide +kernel), by decide +kernel⟩
theorem zo216 : zMok zM216 := ⟨by decide +kernel, zW_of (zsub_8 (List.mem_of_getElem? (show tables_1_8[153]? = some (.code zM216.2.1 zM216.2.2.1 zM216.2.2.2.1 zM216.2.2.2.2.1) from rfl))) rfl, zTab_mem (p := 131) (by decide +kernel), (show Cond.instanceMethod zM216.2.1 ∈ zW from zTab_mem (p := 1951) (by decide +kernel)), fun _ => zTab_mem (p := 55) (by decide +kernel), by decide +kernel⟩
theorem zo217 : zMok zM217 := ⟨by decide +kernel, zW_of (zsub_8 (List.mem_of_getElem? (show tables_1_8[164]? = some (.code zM217.2.1 zM217.2.2.1 zM217.2.2.2.1 zM217.2.2.2.2.1) from rfl))) rfl, zTab_mem (p := 131) (by decide +kernel), (show Cond.instanceMethod zM217.2.1 ∈ zW from zTab_mem (p := 1962) (by decide +kernel)), fun _ => zTab_mem (p := 57) (by decide +kernel), by decide +kernel⟩
theorem zo218 : zMok zM218 := ⟨by decide +kernel, zW_of (zsub_8 (List.mem_of_getElem? (show tables_1_8[149]? = some (.code zM218.2.1 zM218.2.2.1 zM218.2.2.2.1 zM218.2.2.2.2.1) from rfl))) rfl, zTab_mem (p := 131) (by decide +kernel), (show Cond.instanceMethod zM218.2.1 ∈ zW from zTab_mem (p := 1947) (by decide +kernel)), fun _ => zTab_mem (p := 54) (by decide +kernel), by decide +kernel⟩
theorem zo219 : zMok zM219 := ⟨by decide +kernel, zW_of (zsub_8 (List.mem_of_getElem? (show tables_1_8[179]? = some (.code zM219.2.1 zM219.2.2.1 zM219.2.2.2.1 zM219.2.2.2.2.1) from rfl))) rfl, zTab_mem (p := 131) (by decide +kernel), (show Cond.instanceMethod zM219.2.1 ∈ zW from zTab_mem (p := 1977) (by decide +kernel)), fun _ => zTab_mem (p := 60) (by decide +kernel), by decide +kernel⟩
theorem zo220 : zMok zM220 := ⟨by decide +kernel, zW_of (zsub_8 (List.mem_of_getElem? (show tables_1_8[145]? = some (.code zM220.2.1 zM220.2.2.1 zM220.2.2.2.1 zM220.2.2.2.2.1) from rfl))) rfl, zTab_mem (p := 131) (by decide +kernel), (show Cond.instanceMethod zM220.2.1 ∈ zW from zTab_mem (p := 1942) (by decide +kernel)), fun _ => zTab_mem (p := 1943) (by decide +kernel), by decide +kernel⟩
theorem zo221 : zMok zM221 := ⟨by decide +kernel, zW_of (zsub_8 (List.mem_of_getElem? (show tables_1_8[195]? = some (.code zM221.2.1 zM221.2.2.1 zM221.2.2.2.1 zM221.2.2.2.2.1) from rfl))) rfl, zTab_mem (p := 131) (by decide +kernel), (show Cond.instanceMethod zM221.2.1 ∈ zW from zTab_mem (p := 1993) (by decide +kernel)), fun _ => zTab_mem (p := 63) (by decide +kernel), by decide +kernel⟩
theorem zo222 : zMok zM222 := ⟨by decide +kernel, zW_of (zsub_8 (List.mem_of_getElem? (show tables_1_8[183]? = some (.code zM222.2.1 zM222.2.2.1 zM222.2.2.2.1 zM222.2.2.2.2.1) from rfl))) rfl, zTab_mem (p := 131) (by decide +kernel), (show Cond.instanceMethod zM222.2.1 ∈ zW from zTab_mem (p := 1980) (by decide +kernel)), fun _ => zTab_mem (p := 1981) (by decide +kernel), by decide +kernel⟩
theorem zo223 : zMok zM223 := ⟨by decide +kernel, zW_of (zsub_8 (List.mem_of_getElem? (show tables_1_8[199]? = some (.code zM223.2.1 zM223.2.2.1 zM223.2.2.2.1 zM223.2.2.2.2.1) from rfl))) rfl, zTab_mem (p := 131) (by decide +kernel), (show Cond.instanceMethod zM223.2.1 ∈ zW from zTab_mem (p := 1996) (by decide +kernel)), fun _ => zTab_mem (p := 1997) (by decide +kernel), by decide +kernel⟩
theorem zo224 : zMok zM224 := ⟨by decide +kernel, zW_of (zsub_8 (List.mem_of_getElem? (show tables_1_8[207]? = some (.code zM224.2.1 zM224.2.2.1 zM224.2.2.2.1 zM224.2.2.2.2.1) from rfl))) rfl, zTab_mem (p := 131) (by decide +kernel), (show Cond.instanceMethod zM224.2.1 ∈ zW from zTab_mem (p := 2004) (by decide +kernel)), fun _ => zTab_mem (p := 2005) (by decide +kernel), by decide +kernel⟩
end
section
-- ===== methods 225 to 279 are in order (by program) =====
theorem zo225 : zMok zM225 := ⟨by decide +kernel, zW_of (zsub_8 (List.mem_of_getElem? (show tables_1_8[211]? = some (.code zM225.2.1 zM225.2.2.1 zM225.2.2.2.1 zM225.2.2.2.2.1) from rfl))) rfl, zTab_mem (p := 131) (by decide +kernel), (show Cond.instanceMethod zM225.2.1 ∈ zW from zTab_mem (p := 2008) (by decide +kernel)), fun _ => zTab_mem (p := 2009) (by decide +kernel), by decide +kernel⟩
theorem zo226 : zMok zM226 := ⟨by decide +kernel, zW_of (zsub_8 (List.mem_of_getElem? (show tables_1_8[222]? = some (.code zM226.2.1 zM226.2.2.1 zM226.2.2.2.1 zM226.2.2.2.2.1) from rfl))) rfl, zTab_mem (p := 131) (by decide +kernel), (show Cond.instanceMethod zM226.2.1 ∈ zW from zTab_mem (p := 2020) (by decide +kernel)), fun _ => zTab_mem (p := 65) (by decide +kernel), by decide +kernel⟩
theorem zo227 : zMok zM227 := ⟨by decide +kernel, zW_of (zsub_8 (List.mem_of_getElem? (show tables_1_8[218]? = some (.code zM227.2.1 zM227.2.2.1 zM227.2.2.2.1 zM227.2.2.2.2.1) from rfl))) rfl, zTab_mem (p := 131) (by decide +kernel), (show Cond.instanceMethod zM227.2.1 ∈ zW from zTab_mem (p := 2015) (by decide +kernel)), fun _ => zTab_mem (p := 2016) (by decide +kernel), by decide +kernel⟩
theorem zo228 : zMok zM228 := ⟨by decide +kernel, zW_of (zsub_8 (List.mem_of_getElem? (show tables_1_8[226]? = some (.code zM228.2.1 zM228.2.2.1 zM228.2.2.2.1 zM228.2.2.2.2.1) from rfl))) rfl, zTab_mem (p := 131) (by decide +kernel), (show Cond.instanceMethod zM228.2.1 ∈ zW from zTab_mem (p := 2023) (by decide +kernel)), fun _ => zTab_mem (p := 2024) (by decide +kernel), by decide +kernel⟩
theorem zo229 : zMok zM229 := ⟨by decide +kernel, zW_of (zsub_9 (List.mem_of_getElem? (show tables_1_9[22]? = some (.code zM229.2.1 zM229.2.2.1 zM229.2.2.2.1 zM229.2.2.2.2.1) from rfl))) rfl, zTab_mem (p := 131) (by decide +kernel), (show Cond.instanceMethod zM229.2.1 ∈ zW from zTab_mem (p := 2060) (by decide +kernel)), fun _ => zTab_mem (p := 69) (by decide +kernel), by decide +kernel⟩
theorem zo230 : zMok zM230 := ⟨by decide +kernel, zW_of (zsub_8 (List.mem_of_getElem? (show tables_1_8[231]? = some (.code zM230.2.1 zM230.2.2.1 zM230.2.2.2.1 zM230.2.2.2.2.1) from rfl))) rfl, zTab_mem (p := 131) (by decide +kernel), (show Cond.instanceMethod zM230.2.1 ∈ zW from zTab_mem (p := 2028) (by decide +kernel)), fun _ => zTab_mem (p := 2029) (by decide +kernel), by decide +kernel⟩
theorem zo231 : zMok zM231 := ⟨by decide +kernel, zW_of (zsub_8 (List.mem_of_getElem? (show tables_1_8[235]? = some (.code zM231.2.1 zM231.2.2.1 zM231.2.2.2.1 zM231.2.2.2.2.1) from rfl))) rfl, zTab_mem (p := 131) (by decide +kernel), (show Cond.instanceMethod zM231.2.1 ∈ zW from zTab_mem (p := 2032) (by decide +kernel)), fun _ => zTab_mem (p := 2033) (by decide +kernel), by decide +kernel⟩
theorem zo232 : zMok zM232 := ⟨by decide +kernel, zW_of (zsub_8 (List.mem_of_getElem? (show tables_1_8[239]? = some (.code zM232.2.1 zM232.2.2.1 zM232.2.2.2.1 zM232.2.2.2.2.1) from rfl))) rfl, zTab_mem (p := 131) (by decide +kernel), (show Cond.instanceMethod zM232.2.1 ∈ zW from zTab_mem (p := 2036) (by decide +kernel)), fun _ => zTab_mem (p := 2037) (by decide +kernel), by decide +kernel⟩
theorem zo233 : zMok zM233 := ⟨by decide +kernel, zW_of (zsub_9 (List.mem_of_getElem? (show tables_1_9[30]? = some (.code zM233.2.1 zM233.2.2.1 zM233.2.2.2.1 zM233.2.2.2.2.1) from rfl))) rfl, zTab_mem (p := 131) (by decide +kernel), (show Cond.instanceMethod zM233.2.1 ∈ zW from zTab_mem (p := 2068) (by decide +kernel)), fun _ => zTab_mem (p := 71) (by decide +kernel), by decide +kernel⟩
theorem zo234 : zMok zM234 := ⟨by decide +kernel, zW_of (zsub_9 (List.mem_of_getElem? (show tables_1_9[18]? = some (.code zM234.2.1 zM234.2.2.1 zM234.2.2.2.1 zM234.2.2.2.2.1) from rfl))) rfl, zTab_mem (p := 131) (by decide +kernel), (show Cond.instanceMethod zM234.2.1 ∈ zW from zTab_mem (p := 2056) (by decide +kernel)), fun _ => zTab_mem (p := 68) (by decide +kernel), by decide +kernel⟩
theorem zo235 : zMok zM235 := ⟨by decide +kernel, zW_of (zsub_9 (List.mem_of_getElem? (show tables_1_9[34]? = some (.code zM235.2.1 zM235.2.2.1 zM235.2.2.2.1 zM235.2.2.2.2.1) from rfl))) rfl, zTab_mem (p := 131) (by decide +kernel), (show Cond.instanceMethod zM235.2.1 ∈ zW from zTab_mem (p := 2072) (by decide +kernel)), fun _ => zTab_mem (p := 72) (by decide +kernel), by decide +kernel⟩
theorem zo236 : zMok zM236 := ⟨by decide +kernel, zW_of (zsub_9 (List.mem_of_getElem? (show tables_1_9[26]? = some (.code zM236.2.1 zM236.2.2.1 zM236.2.2.2.1 zM236.2.2.2.2.1) from rfl))) rfl, zTab_mem (p := 131) (by decide +kernel), (show Cond.instanceMethod zM236.2.1 ∈ zW from zTab_mem (p := 2064) (by decide +kernel)), fun _ => zTab_mem (p := 70) (by decide +kernel), by decide +kernel⟩
theorem zo237 : zMok zM237 := ⟨by decide +kernel, zW_of (zsub_9 (List.mem_of_getElem? (show tables_1_9[42]? = some (.code zM237.2.1 zM237.2.2.1 zM237.2.2.2.1 zM237.2.2.2.2.1) from rfl))) rfl, zTab_mem (p := 131) (by decide +kernel), (show Cond.instanceMethod zM237.2.1 ∈ zW from zTab_mem (p := 2080) (by decide +kernel)), fun _ => zTab_mem (p := 74) (by decide +kernel), by decide +kernel⟩
theorem zo238 : zMok zM238 := ⟨by decide +kernel, zW_of (zsub_9 (List.mem_of_getElem? (show tables_1_9[38]? = some (.code zM238.2.1 zM238.2.2.1 zM238.2.2.2.1 zM238.2.2.2.2.1) from rfl))) rfl, zTab_mem (p := 131) (by decide +kernel), (show Cond.instanceMethod zM238.2.1 ∈ zW from zTab_mem (p := 2076) (by decide +kernel)), fun _ => zTab_mem (p := 73) (by decide +kernel), by decide +kernel⟩
theorem zo239 : zMok zM239 := ⟨by decide +kernel, zW_of (zsub_9 (List.mem_of_getElem? (show tables_1_9[14]? = some (.code zM239.2.1 zM239.2.2.1 zM239.2.2.2.1 zM239.2.2.2.2.1) from rfl))) rfl, zTab_mem (p := 131) (by decide +kernel), (show Cond.instanceMethod zM239.2.1 ∈ zW from zTab_mem (p := 2052) (by decide +kernel)), fun _ => zTab_mem (p := 67) (by decide +kernel), by decide +kernel⟩
theorem zo240 : zMok zM240 := ⟨by decide +kernel, zW_of (zsub_9 (List.mem_of_getElem? (show tables_1_9[46]? = some (.code zM240.2.1 zM240.2.2.1 zM240.2.2.2.1 zM240.2.2.2.2.1) from rfl))) rfl, zTab_mem (p := 131) (by decide +kernel), (show Cond.instanceMethod zM240.2.1 ∈ zW from zTab_mem (p := 2084) (by decide +kernel)), fun _ => zTab_mem (p := 75) (by decide +kernel), by decide +kernel⟩
theorem zo241 : zMok zM241 := ⟨by decide +kernel, zW_of (zsub_9 (List.mem_of_getElem? (show tables_1_9[10]? = some (.code zM241.2.1 zM241.2.2.1 zM241.2.2.2.1 zM241.2.2.2.2.1) from rfl))) rfl, zTab_mem (p := 131) (by decide +kernel), (show Cond.instanceMethod zM241.2.1 ∈ zW from zTab_mem (p := 2048) (by decide +kernel)), fun _ => zTab_mem (p := 66) (by decide +kernel), by decide +kernel⟩
theorem zo242 : zMok zM242 := ⟨by decide +kernel, zW_of (zsub_9 (List.mem_of_getElem? (show tables_1_9[3]? = some (.code zM242.2.1 zM242.2.2.1 zM242.2.2.2.1 zM242.2.2.2.2.1) from rfl))) rfl, zTab_mem (p := 131) (by decide +kernel), (show Cond.instanceMethod zM242.2.1 ∈ zW from zTab_mem (p := 2040) (by decide +kernel)), fun _ => zTab_mem (p := 2041) (by decide +kernel), by decide +kernel⟩
theorem zo243 : zMok zM243 := ⟨by decide +kernel, zW_of (zsub_9 (List.mem_of_getElem? (show tables_1_9[50]? = some (.code zM243.2.1 zM243.2.2.1 zM243.2.2.2.1 zM243.2.2.2.2.1) from rfl))) rfl, zTab_mem (p := 131) (by decide +kernel), (show Cond.instanceMethod zM243.2.1 ∈ zW from zTab_mem (p := 2087) (by decide +kernel)), fun _ => zTab_mem (p := 2088) (by decide +kernel), by decide +kernel⟩
theorem zo244 : zMok zM244 := ⟨by decide +kernel, zW_of (zsub_9 (List.mem_of_getElem? (show tables_1_9[54]? = some (.code zM244.2.1 zM244.2.2.1 zM244.2.2.2.1 zM244.2.2.2.2.1) from rfl))) rfl, zTab_mem (p := 131) (by decide +kernel), (show Cond.instanceMethod zM244.2.1 ∈ zW from zTab_mem (p := 2091) (by decide +kernel)), fun _ => zTab_mem (p := 2092) (by decide +kernel), by decide +kernel⟩
theorem zo245 : zMok zM245 := ⟨by decide +kernel, zW_of (zsub_9 (List.mem_of_getElem? (show tables_1_9[58]? = some (.code zM245.2.1 zM245.2.2.1 zM245.2.2.2.1 zM245.2.2.2.2.1) from rfl))) rfl, zTab_mem (p := 131) (by decide +kernel), (show Cond.instanceMethod zM245.2.1 ∈ zW from zTab_mem (p := 2095) (by decide +kernel)), fun _ => zTab_mem (p := 2096) (by decide +kernel), by decide +kernel⟩
theorem zo246 : zMok zM246 := ⟨by decide +kernel, zW_of (zsub_9 (List.mem_of_getElem? (show tables_1_9[62]? = some (.code zM246.2.1 zM246.2.2.1 zM246.2.2.2.1 zM246.2.2.2.2.1) from rfl))) rfl, zTab_mem (p := 131) (by decide +kernel), (show Cond.instanceMethod zM246.2.1 ∈ zW from zTab_mem (p := 2099) (by decide +kernel)), fun _ => zTab_mem (p := 2100) (by decide +kernel), by decide +kernel⟩
theorem zo247 : zMok zM247 := ⟨by decide +kernel, zW_of (zsub_9 (List.mem_of_getElem? (show tables_1_9[66]? = some (.code zM247.2.1 zM247.2.2.1 zM247.2.2.2.1 zM247.2.2.2.2.1) from rfl))) rfl, zTab_mem (p := 131) (by decide +kernel), (show Cond.instanceMethod zM247.2.1 ∈ zW from zTab_mem (p := 2103) (by decide +kernel)), fun _ => zTab_mem (p := 2104) (by decide +kernel), by decide +kernel⟩
theorem zo248 : zMok zM248 := ⟨by decide +kernel, zW_of (zsub_9 (List.mem_of_getElem? (show tables_1_9[77]? = some (.code zM248.2.1 zM248.2.2.1 zM248.2.2.2.1 zM248.2.2.2.2.1) from rfl))) rfl, zTab_mem (p := 131) (by decide +kernel), (show Cond.instanceMethod zM248.2.1 ∈ zW from zTab_mem (p := 2115) (by decide +kernel)), fun _ => zTab_mem (p := 76) (by decide +kernel), by decide +kernel⟩
theorem zo249 : zMok zM249 := ⟨by decide +kernel, zW_of (zsub_9 (List.mem_of_getElem? (show tables_1_9[73]? = some (.code zM249.2.1 zM249.2.2.1 zM249.2.2.2.1 zM249.2.2.2.2.1) from rfl))) rfl, zTab_mem (p := 131) (by decide +kernel), (show Cond.instanceMethod zM249.2.1 ∈ zW from zTab_mem (p := 2110) (by decide +kernel)), fun _ => zTab_mem (p := 2111) (by decide +kernel), by decide +kernel⟩
theorem zo250 : zMok zM250 := ⟨by decide +kernel, zW_of (zsub_9 (List.mem_of_getElem? (show tables_1_9[82]? = some (.code zM250.2.1 zM250.2.2.1 zM250.2.2.2.1 zM250.2.2.2.2.1) from rfl))) rfl, zTab_mem (p := 131) (by decide +kernel), (show Cond.instanceMethod zM250.2.1 ∈ zW from zTab_mem (p := 2119) (by decide +kernel)), fun _ => zTab_mem (p := 2120) (by decide +kernel), by decide +kernel⟩
theorem zo251 : zMok zM251 := ⟨by decide +kernel, zW_of (zsub_9 (List.mem_of_getElem? (show tables_1_9[121]? = some (.code zM251.2.1 zM251.2.2.1 zM251.2.2.2.1 zM251.2.2.2.2.1) from rfl))) rfl, zTab_mem (p := 131) (by decide +kernel), (show Cond.instanceMethod zM251.2.1 ∈ zW from zTab_mem (p := 2159) (by decide +kernel)), fun _ => zTab_mem (p := 84) (by decide +kernel), by decide +kernel⟩
theorem zo252 : zMok zM252 := ⟨by decide +kernel, zW_of (zsub_9 (List.mem_of_getElem? (show tables_1_9[136]? = some (.code zM252.2.1 zM252.2.2.1 zM252.2.2.2.1 zM252.2.2.2.2.1) from rfl))) rfl, zTab_mem (p := 131) (by decide +kernel), (show Cond.instanceMethod zM252.2.1 ∈ zW from zTab_mem (p := 2174) (by decide +kernel)), fun _ => zTab_mem (p := 87) (by decide +kernel), by decide +kernel⟩
theorem zo253 : zMok zM253 := ⟨by decide +kernel, zW_of (zsub_9 (List.mem_of_getElem? (show tables_1_9[128]? = some (.code zM253.2.1 zM253.2.2.1 zM253.2.2.2.1 zM253.2.2.2.2.1) from rfl))) rfl, zTab_mem (p := 131) (by decide +kernel), (show Cond.instanceMethod zM253.2.1 ∈ zW from zTab_mem (p := 2166) (by decide +kernel)), fun _ => zTab_mem (p := 85) (by decide +kernel), by decide +kernel⟩
theorem zo254 : zMok zM254 := ⟨by decide +kernel, zW_of (zsub_9 (List.mem_of_getElem? (show tables_1_9[132]? = some (.code zM254.2.1 zM254.2.2.1 zM254.2.2.2.1 zM254.2.2.2.2.1) from rfl))) rfl, zTab_mem (p := 131) (by decide +kernel), (show Cond.instanceMethod zM254.2.1 ∈ zW from zTab_mem (p := 2170) (by decide +kernel)), fun _ => zTab_mem (p := 86) (by decide +kernel), by decide +kernel⟩
theorem zo255 : zMok zM255 := ⟨by decide +kernel, zW_of (zsub_9 (List.mem_of_getElem? (show tables_1_9[124]? = some (.code zM255.2.1 zM255.2.2.1 zM255.2.2.2.1 zM255.2.2.2.2.1) from rfl))) rfl, zTab_mem (p := 131) (by decide +kernel), (show Cond.static zM255.2.1 ∈ zW from zTab_mem (p := 2162) (by decide +kernel)), fun h => absurd h (by decide), by decide +kernel⟩
theorem zo256 : zMok zM256 := ⟨by decide +kernel, zW_of (zsub_9 (List.mem_of_getElem? (show tables_1_9[117]? = some (.code zM256.2.1 zM256.2.2.1 zM256.2.2.2.1 zM256.2.2.2.2.1) from rfl))) rfl, zTab_mem (p := 131) (by decide +kernel), (show Cond.instanceMethod zM256.2.1 ∈ zW from zTab_mem (p := 2155) (by decide +kernel)), fun _ => zTab_mem (p := 83) (by decide +kernel), by decide +kernel⟩
theorem zo257 : zMok zM257 := ⟨by decide +kernel, zW_of (zsub_9 (List.mem_of_getElem? (show tables_1_9[113]? = some (.code zM257.2.1 zM257.2.2.1 zM257.2.2.2.1 zM257.2.2.2.2.1) from rfl))) rfl, zTab_mem (p := 131) (by decide +kernel), (show Cond.instanceMethod zM257.2.1 ∈ zW from zTab_mem (p := 2151) (by decide +kernel)), fun _ => zTab_mem (p := 82) (by decide +kernel), by decide +kernel⟩
theorem zo258 : zMok zM258 := ⟨by decide +kernel, zW_of (zsub_9 (List.mem_of_getElem? (show tables_1_9[109]? = some (.code zM258.2.1 zM258.2.2.1 zM258.2.2.2.1 zM258.2.2.2.2.1) from rfl))) rfl, zTab_mem (p := 131) (by decide +kernel), (show Cond.instanceMethod zM258.2.1 ∈ zW from zTab_mem (p := 2147) (by decide +kernel)), fun _ => zTab_mem (p := 81) (by decide +kernel), by decide +kernel⟩
theorem zo259 : zMok zM259 := ⟨by decide +kernel, zW_of (zsub_9 (List.mem_of_getElem? (show tables_1_9[105]? = some (.code zM259.2.1 zM259.2.2.1 zM259.2.2.2.1 zM259.2.2.2.2.1) from rfl))) rfl, zTab_mem (p := 131) (by decide +kernel), (show Cond.instanceMethod zM259.2.1 ∈ zW from zTab_mem (p := 2143) (by decide +kernel)), fun _ => zTab_mem (p := 80) (by decide +kernel), by decide +kernel⟩
theorem zo260 : zMok zM260 := ⟨by decide +kernel, zW_of (zsub_9 (List.mem_of_getElem? (show tables_1_9[101]? = some (.code zM260.2.1 zM260.2.2.1 zM260.2.2.2.1 zM260.2.2.2.2.1) from rfl))) rfl, zTab_mem (p := 131) (by decide +kernel), (show Cond.instanceMethod zM260.2.1 ∈ zW from zTab_mem (p := 2139) (by decide +kernel)), fun _ => zTab_mem (p := 79) (by decide +kernel), by decide +kernel⟩
theorem zo261 : zMok zM261 := ⟨by decide +kernel, zW_of (zsub_9 (List.mem_of_getElem? (show tables_1_9[97]? = some (.code zM261.2.1 zM261.2.2.1 zM261.2.2.2.1 zM261.2.2.2.2.1) from rfl))) rfl, zTab_mem (p := 131) (by decide +kernel), (show Cond.instanceMethod zM261.2.1 ∈ zW from zTab_mem (p := 2135) (by decide +kernel)), fun _ => zTab_mem (p := 78) (by decide +kernel), by decide +kernel⟩
theorem zo262 : zMok zM262 := ⟨by decide +kernel, zW_of (zsub_9 (List.mem_of_getElem? (show tables_1_9[93]? = some (.code zM262.2.1 zM262.2.2.1 zM262.2.2.2.1 zM262.2.2.2.2.1) from rfl))) rfl, zTab_mem (p := 131) (by decide +kernel), (show Cond.instanceMethod zM262.2.1 ∈ zW from zTab_mem (p := 2131) (by decide +kernel)), fun _ => zTab_mem (p := 77) (by decide +kernel), by decide +kernel⟩
theorem zo263 : zMok zM263 := ⟨by decide +kernel, zW_of (zsub_9 (List.mem_of_getElem? (show tables_1_9[89]? = some (.code zM263.2.1 zM263.2.2.1 zM263.2.2.2.1 zM263.2.2.2.2.1) from rfl))) rfl, zTab_mem (p := 131) (by decide +kernel), (show Cond.static zM263.2.1 ∈ zW from zTab_mem (p := 2127) (by decide +kernel)), fun h => absurd h (by decide), by decide +kernel⟩
theorem zo264 : zMok zM264 := ⟨by decide +kernel, zW_of (zsub_9 (List.mem_of_getElem? (show tables_1_9[86]? = some (.code zM264.2.1 zM264.2.2.1 zM264.2.2.2.1 zM264.2.2.2.2.1) from rfl))) rfl, zTab_mem (p := 131) (by decide +kernel), (show Cond.instanceMethod zM264.2.1 ∈ zW from zTab_mem (p := 2123) (by decide +kernel)), fun _ => zTab_mem (p := 2124) (by decide +kernel), by decide +kernel⟩
theorem zo265 : zMok zM265 := ⟨by decide +kernel, zW_of (zsub_9 (List.mem_of_getElem? (show tables_1_9[144]? = some (.code zM265.2.1 zM265.2.2.1 zM265.2.2.2.1 zM265.2.2.2.2.1) from rfl))) rfl, zTab_mem (p := 131) (by decide +kernel), (show Cond.instanceMethod zM265.2.1 ∈ zW from zTab_mem (p := 2182) (by decide +kernel)), fun _ => zTab_mem (p := 88) (by decide +kernel), by decide +kernel⟩
theorem zo266 : zMok zM266 := ⟨by decide +kernel, zW_of (zsub_9 (List.mem_of_getElem? (show tables_1_9[140]? = some (.code zM266.2.1 zM266.2.2.1 zM266.2.2.2.1 zM266.2.2.2.2.1) from rfl))) rfl, zTab_mem (p := 131) (by decide +kernel), (show Cond.instanceMethod zM266.2.1 ∈ zW from zTab_mem (p := 2177) (by decide +kernel)), fun _ => zTab_mem (p := 2178) (by decide +kernel), by decide +kernel⟩
theorem zo267 : zMok zM267 := ⟨by decide +kernel, zW_of (zsub_9 (List.mem_of_getElem? (show tables_1_9[183]? = some (.code zM267.2.1 zM267.2.2.1 zM267.2.2.2.1 zM267.2.2.2.2.1) from rfl))) rfl, zTab_mem (p := 131) (by decide +kernel), (show Cond.static zM267.2.1 ∈ zW from zTab_mem (p := 2221) (by decide +kernel)), fun h => absurd h (by decide), by decide +kernel⟩
theorem zo268 : zMok zM268 := ⟨by decide +kernel, zW_of (zsub_9 (List.mem_of_getElem? (show tables_1_9[180]? = some (.code zM268.2.1 zM268.2.2.1 zM268.2.2.2.1 zM268.2.2.2.2.1) from rfl))) rfl, zTab_mem (p := 131) (by decide +kernel), (show Cond.instanceMethod zM268.2.1 ∈ zW from zTab_mem (p := 2218) (by decide +kernel)), fun _ => zTab_mem (p := 95) (by decide +kernel), by decide +kernel⟩
theorem zo269 : zMok zM269 := ⟨by decide +kernel, zW_of (zsub_9 (List.mem_of_getElem? (show tables_1_9[176]? = some (.code zM269.2.1 zM269.2.2.1 zM269.2.2.2.1 zM269.2.2.2.2.1) from rfl))) rfl, zTab_mem (p := 131) (by decide +kernel), (show Cond.instanceMethod zM269.2.1 ∈ zW from zTab_mem (p := 2214) (by decide +kernel)), fun _ => zTab_mem (p := 94) (by decide +kernel), by decide +kernel⟩
theorem zo270 : zMok zM270 := ⟨by decide +kernel, zW_of (zsub_9 (List.mem_of_getElem? (show tables_1_9[156]? = some (.code zM270.2.1 zM270.2.2.1 zM270.2.2.2.1 zM270.2.2.2.2.1) from rfl))) rfl, zTab_mem (p := 131) (by decide +kernel), (show Cond.instanceMethod zM270.2.1 ∈ zW from zTab_mem (p := 2194) (by decide +kernel)), fun _ => zTab_mem (p := 90) (by decide +kernel), by decide +kernel⟩
theorem zo271 : zMok zM271 := ⟨by decide +kernel, zW_of (zsub_9 (List.mem_of_getElem? (show tables_1_9[160]? = some (.code zM271.2.1 zM271.2.2.1 zM271.2.2.2.1 zM271.2.2.2.2.1) from rfl))) rfl, zTab_mem (p := 131) (by decide +kernel), (show Cond.instanceMethod zM271.2.1 ∈ zW from zTab_mem (p := 2198) (by decide +kernel)), fun _ => zTab_mem (p := 91) (by decide +kernel), by decide +kernel⟩
theorem zo272 : zMok zM272 := ⟨by decide +kernel, zW_of (zsub_9 (List.mem_of_getElem? (show tables_1_9[152]? = some (.code zM272.2.1 zM272.2.2.1 zM272.2.2.2.1 zM272.2.2.2.2.1) from rfl))) rfl, zTab_mem (p := 131) (by decide +kernel), (show Cond.instanceMethod zM272.2.1 ∈ zW from zTab_mem (p := 2190) (by decide +kernel)), fun _ => zTab_mem (p := 89) (by decide +kernel), by decide +kernel⟩
theorem zo273 : zMok zM273 := ⟨by decide +kernel, zW_of (zsub_9 (List.mem_of_getElem? (show tables_1_9[164]? = some (.code zM273.2.1 zM273.2.2.1 zM273.2.2.2.1 zM273.2.2.2.2.1) from rfl))) rfl, zTab_mem (p := 131) (by decide +kernel), (show Cond.instanceMethod zM273.2.1 ∈ zW from zTab_mem (p := 2202) (by decide +kernel)), fun _ => zTab_mem (p := 92) (by decide +kernel), by decide +kernel⟩
theorem zo274 : zMok zM274 := ⟨by decide +kernel, zW_of (zsub_9 (List.mem_of_getElem? (show tables_1_9[148]? = some (.code zM274.2.1 zM274.2.2.1 zM274.2.2.2.1 zM274.2.2.2.2.1) from rfl))) rfl, zTab_mem (p := 131) (by decide +kernel), (show Cond.instanceMethod zM274.2.1 ∈ zW from zTab_mem (p := 2185) (by decide +kernel)), fun _ => zTab_mem (p := 2186) (by decide +kernel), by decide +kernel⟩
theorem zo275 : zMok zM275 := ⟨by decide +kernel, zW_of (zsub_9 (List.mem_of_getElem? (show tables_1_9[187]? = some (.code zM275.2.1 zM275.2.2.1 zM275.2.2.2.1 zM275.2.2.2.2.1) from rfl))) rfl, zTab_mem (p := 131) (by decide +kernel), (show Cond.instanceMethod zM275.2.1 ∈ zW from zTab_mem (p := 2225) (by decide +kernel)), fun _ => zTab_mem (p := 96) (by decide +kernel), by decide +kernel⟩
theorem zo276 : zMok zM276 := ⟨by decide +kernel, zW_of (zsub_9 (List.mem_of_getElem? (show tables_1_9[190]? = some (.code zM276.2.1 zM276.2.2.1 zM276.2.2.2.1 zM276.2.2.2.2.1) from rfl))) rfl, zTab_mem (p := 131) (by decide +kernel), (show Cond.static zM276.2.1 ∈ zW from zTab_mem (p := 2228) (by decide +kernel)), fun h => absurd h (by decide), by decide +kernel⟩
theorem zo277 : zMok zM277 := ⟨by decide +kernel, zW_of (zsub_9 (List.mem_of_getElem? (show tables_1_9[172]? = some (.code zM277.2.1 zM277.2.2.1 zM277.2.2.2.1 zM277.2.2.2.2.1) from rfl))) rfl, zTab_mem (p := 131) (by decide +kernel), (show Cond.instanceMethod zM277.2.1 ∈ zW from zTab_mem (p := 2210) (by decide +kernel)), fun _ => zTab_mem (p := 93) (by decide +kernel), by decide +kernel⟩
theorem zo278 : zMok zM278 := ⟨by decide +kernel, zW_of (zsub_9 (List.mem_of_getElem? (show tables_1_9[168]? = some (.code zM278.2.1 zM278.2.2.1 zM278.2.2.2.1 zM278.2.2.2.2.1) from rfl))) rfl, zTab_mem (p := 131) (by decide +kernel), (show Cond.instanceMethod zM278.2.1 ∈ zW from zTab_mem (p := 2205) (by decide +kernel)), fun _ => zTab_mem (p := 2206) (by decide +kernel), by decide +kernel⟩
theorem zo279 : zMok zM279 := ⟨by decide +kernel, zW_of (zsub_9 (List.mem_of_getElem? (show tables_1_9[200]? = some (.code zM279.2.1 zM279.2.2.1 zM279.2.2.2.1 zM279.2.2.2.2.1) from rfl))) rfl, zTab_mem (p := 131) (by decide +kernel), (show Cond.instanceMethod zM279.2.1 ∈ zW from zTab_mem (p := 2237) (by decide +kernel)), fun _ => zTab_mem (p := 2238) (by decide +kernel), by decide +kernel⟩
end
section
-- ===== methods 280 to 332 are in order (by program) =====
theorem zo280 : zMok zM280 := ⟨by decide +kernel, zW_of (zsub_9 (List.mem_of_getElem? (show tables_1_9[204]? = some (.code zM280.2.1 zM280.2.2.1 zM280.2.2.2.1 zM280.2.2.2.2.1) from rfl))) rfl, zTab_mem (p := 131) (by decide +kernel), (show Cond.instanceMethod zM280.2.1 ∈ zW from zTab_mem (p := 2241) (by decide +kernel)), fun _ => zTab_mem (p := 2242) (by decide +kernel), by decide +kernel⟩
theorem zo281 : zMok zM281 := ⟨by decide +kernel, zW_of (zsub_9 (List.mem_of_getElem? (show tables_1_9[210]? = some (.code zM281.2.1 zM281.2.2.1 zM281.2.2.2.1 zM281.2.2.2.2.1) from rfl))) rfl, zTab_mem (p := 131) (by decide +kernel), (show Cond.instanceMethod zM281.2.1 ∈ zW from zTab_mem (p := 2247) (by decide +kernel)), fun _ => zTab_mem (p := 2248) (by decide +kernel), by decide +kernel⟩
theorem zo282 : zMok zM282 := ⟨by decide +kernel, zW_of (zsub_9 (List.mem_of_getElem? (show tables_1_9[226]? = some (.code zM282.2.1 zM282.2.2.1 zM282.2.2.2.1 zM282.2.2.2.2.1) from rfl))) rfl, zTab_mem (p := 131) (by decide +kernel), (show Cond.instanceMethod zM282.2.1 ∈ zW from zTab_mem (p := 2264) (by decide +kernel)), fun _ => zTab_mem (p := 99) (by decide +kernel), by decide +kernel⟩
theorem zo283 : zMok zM283 := ⟨by decide +kernel, zW_of (zsub_9 (List.mem_of_getElem? (show tables_1_9[222]? = some (.code zM283.2.1 zM283.2.2.1 zM283.2.2.2.1 zM283.2.2.2.2.1) from rfl))) rfl, zTab_mem (p := 131) (by decide +kernel), (show Cond.instanceMethod zM283.2.1 ∈ zW from zTab_mem (p := 2260) (by decide +kernel)), fun _ => zTab_mem (p := 98) (by decide +kernel), by decide +kernel⟩
theorem zo284 : zMok zM284 := ⟨by decide +kernel, zW_of (zsub_9 (List.mem_of_getElem? (show tables_1_9[218]? = some (.code zM284.2.1 zM284.2.2.1 zM284.2.2.2.1 zM284.2.2.2.2.1) from rfl))) rfl, zTab_mem (p := 131) (by decide +kernel), (show Cond.instanceMethod zM284.2.1 ∈ zW from zTab_mem (p := 2256) (by decide +kernel)), fun _ => zTab_mem (p := 97) (by decide +kernel), by decide +kernel⟩
theorem zo285 : zMok zM285 := ⟨by decide +kernel, zW_of (zsub_9 (List.mem_of_getElem? (show tables_1_9[237]? = some (.code zM285.2.1 zM285.2.2.1 zM285.2.2.2.1 zM285.2.2.2.2.1) from rfl))) rfl, zTab_mem (p := 131) (by decide +kernel), (show Cond.instanceMethod zM285.2.1 ∈ zW from zTab_mem (p := 2275) (by decide +kernel)), fun _ => zTab_mem (p := 101) (by decide +kernel), by decide +kernel⟩
theorem zo286 : zMok zM286 := ⟨by decide +kernel, zW_of (zsub_9 (List.mem_of_getElem? (show tables_1_9[233]? = some (.code zM286.2.1 zM286.2.2.1 zM286.2.2.2.1 zM286.2.2.2.2.1) from rfl))) rfl, zTab_mem (p := 131) (by decide +kernel), (show Cond.instanceMethod zM286.2.1 ∈ zW from zTab_mem (p := 2271) (by decide +kernel)), fun _ => zTab_mem (p := 100) (by decide +kernel), by decide +kernel⟩
theorem zo287 : zMok zM287 := ⟨by decide +kernel, zW_of (zsub_9 (List.mem_of_getElem? (show tables_1_9[229]? = some (.code zM287.2.1 zM287.2.2.1 zM287.2.2.2.1 zM287.2.2.2.2.1) from rfl))) rfl, zTab_mem (p := 131) (by decide +kernel), (show Cond.static zM287.2.1 ∈ zW from zTab_mem (p := 2267) (by decide +kernel)), fun h => absurd h (by decide), by decide +kernel⟩
theorem zo288 : zMok zM288 := ⟨by decide +kernel, zW_of (zsub_9 (List.mem_of_getElem? (show tables_1_9[214]? = some (.code zM288.2.1 zM288.2.2.1 zM288.2.2.2.1 zM288.2.2.2.2.1) from rfl))) rfl, zTab_mem (p := 131) (by decide +kernel), (show Cond.instanceMethod zM288.2.1 ∈ zW from zTab_mem (p := 2251) (by decide +kernel)), fun _ => zTab_mem (p := 2252) (by decide +kernel), by decide +kernel⟩
theorem zo289 : zMok zM289 := ⟨by decide +kernel, zW_of (zsub_10 (List.mem_of_getElem? (show tables_1_10[1]? = some (.code zM289.2.1 zM289.2.2.1 zM289.2.2.2.1 zM289.2.2.2.2.1) from rfl))) rfl, zTab_mem (p := 131) (by decide +kernel), (show Cond.instanceMethod zM289.2.1 ∈ zW from zTab_mem (p := 2278) (by decide +kernel)), fun _ => zTab_mem (p := 2279) (by decide +kernel), by decide +kernel⟩
theorem zo290 : zMok zM290 := ⟨by decide +kernel, zW_of (zsub_10 (List.mem_of_getElem? (show tables_1_10[5]? = some (.code zM290.2.1 zM290.2.2.1 zM290.2.2.2.1 zM290.2.2.2.2.1) from rfl))) rfl, zTab_mem (p := 131) (by decide +kernel), (show Cond.instanceMethod zM290.2.1 ∈ zW from zTab_mem (p := 2282) (by decide +kernel)), fun _ => zTab_mem (p := 2283) (by decide +kernel), by decide +kernel⟩
theorem zo291 : zMok zM291 := ⟨by decide +kernel, zW_of (zsub_10 (List.mem_of_getElem? (show tables_1_10[13]? = some (.code zM291.2.1 zM291.2.2.1 zM291.2.2.2.1 zM291.2.2.2.2.1) from rfl))) rfl, zTab_mem (p := 131) (by decide +kernel), (show Cond.instanceMethod zM291.2.1 ∈ zW from zTab_mem (p := 2291) (by decide +kernel)), fun _ => zTab_mem (p := 102) (by decide +kernel), by decide +kernel⟩
theorem zo292 : zMok zM292 := ⟨by decide +kernel, zW_of (zsub_10 (List.mem_of_getElem? (show tables_1_10[9]? = some (.code zM292.2.1 zM292.2.2.1 zM292.2.2.2.1 zM292.2.2.2.2.1) from rfl))) rfl, zTab_mem (p := 131) (by decide +kernel), (show Cond.instanceMethod zM292.2.1 ∈ zW from zTab_mem (p := 2286) (by decide +kernel)), fun _ => zTab_mem (p := 2287) (by decide +kernel), by decide +kernel⟩
theorem zo293 : zMok zM293 := ⟨by decide +kernel, zW_of (zsub_10 (List.mem_of_getElem? (show tables_1_10[17]? = some (.code zM293.2.1 zM293.2.2.1 zM293.2.2.2.1 zM293.2.2.2.2.1) from rfl))) rfl, zTab_mem (p := 131) (by decide +kernel), (show Cond.instanceMethod zM293.2.1 ∈ zW from zTab_mem (p := 2295) (by decide +kernel)), fun _ => zTab_mem (p := 103) (by decide +kernel), by decide +kernel⟩
theorem zo294 : zMok zM294 := ⟨by decide +kernel, zW_of (zsub_10 (List.mem_of_getElem? (show tables_1_10[22]? = some (.code zM294.2.1 zM294.2.2.1 zM294.2.2.2.1 zM294.2.2.2.2.1) from rfl))) rfl, zTab_mem (p := 131) (by decide +kernel), (show Cond.instanceMethod zM294.2.1 ∈ zW from zTab_mem (p := 2299) (by decide +kernel)), fun _ => zTab_mem (p := 2300) (by decide +kernel), by decide +kernel⟩
theorem zo295 : zMok zM295 := ⟨by decide +kernel, zW_of (zsub_10 (List.mem_of_getElem? (show tables_1_10[30]? = some (.code zM295.2.1 zM295.2.2.1 zM295.2.2.2.1 zM295.2.2.2.2.1) from rfl))) rfl, zTab_mem (p := 131) (by decide +kernel), (show Cond.instanceMethod zM295.2.1 ∈ zW from zTab_mem (p := 2308) (by decide +kernel)), fun _ => zTab_mem (p := 104) (by decide +kernel), by decide +kernel⟩
theorem zo296 : zMok zM296 := ⟨by decide +kernel, zW_of (zsub_10 (List.mem_of_getElem? (show tables_1_10[33]? = some (.code zM296.2.1 zM296.2.2.1 zM296.2.2.2.1 zM296.2.2.2.2.1) from rfl))) rfl, zTab_mem (p := 131) (by decide +kernel), (show Cond.static zM296.2.1 ∈ zW from zTab_mem (p := 2311) (by decide +kernel)), fun h => absurd h (by decide), by decide +kernel⟩
theorem zo297 : zMok zM297 := ⟨by decide +kernel, zW_of (zsub_10 (List.mem_of_getElem? (show tables_1_10[36]? = some (.code zM297.2.1 zM297.2.2.1 zM297.2.2.2.1 zM297.2.2.2.2.1) from rfl))) rfl, zTab_mem (p := 131) (by decide +kernel), (show Cond.static zM297.2.1 ∈ zW from zTab_mem (p := 2314) (by decide +kernel)), fun h => absurd h (by decide), by decide +kernel⟩
theorem zo298 : zMok zM298 := ⟨by decide +kernel, zW_of (zsub_10 (List.mem_of_getElem? (show tables_1_10[26]? = some (.code zM298.2.1 zM298.2.2.1 zM298.2.2.2.1 zM298.2.2.2.2.1) from rfl))) rfl, zTab_mem (p := 131) (by decide +kernel), (show Cond.instanceMethod zM298.2.1 ∈ zW from zTab_mem (p := 2303) (by decide +kernel)), fun _ => zTab_mem (p := 2304) (by decide +kernel), by decide +kernel⟩
theorem zo299 : zMok zM299 := ⟨by decide +kernel, zW_of (zsub_10 (List.mem_of_getElem? (show tables_1_10[40]? = some (.code zM299.2.1 zM299.2.2.1 zM299.2.2.2.1 zM299.2.2.2.2.1) from rfl))) rfl, zTab_mem (p := 131) (by decide +kernel), (show Cond.instanceMethod zM299.2.1 ∈ zW from zTab_mem (p := 2317) (by decide +kernel)), fun _ => zTab_mem (p := 2318) (by decide +kernel), by decide +kernel⟩
theorem zo300 : zMok zM300 := ⟨by decide +kernel, zW_of (zsub_10 (List.mem_of_getElem? (show tables_1_10[44]? = some (.code zM300.2.1 zM300.2.2.1 zM300.2.2.2.1 zM300.2.2.2.2.1) from rfl))) rfl, zTab_mem (p := 131) (by decide +kernel), (show Cond.instanceMethod zM300.2.1 ∈ zW from zTab_mem (p := 2321) (by decide +kernel)), fun _ => zTab_mem (p := 2322) (by decide +kernel), by decide +kernel⟩
theorem zo301 : zMok zM301 := ⟨by decide +kernel, zW_of (zsub_10 (List.mem_of_getElem? (show tables_1_10[52]? = some (.code zM301.2.1 zM301.2.2.1 zM301.2.2.2.1 zM301.2.2.2.2.1) from rfl))) rfl, zTab_mem (p := 131) (by decide +kernel), (show Cond.instanceMethod zM301.2.1 ∈ zW from zTab_mem (p := 2330) (by decide +kernel)), fun _ => zTab_mem (p := 105) (by decide +kernel), by decide +kernel⟩
theorem zo302 : zMok zM302 := ⟨by decide +kernel, zW_of (zsub_10 (List.mem_of_getElem? (show tables_1_10[48]? = some (.code zM302.2.1 zM302.2.2.1 zM302.2.2.2.1 zM302.2.2.2.2.1) from rfl))) rfl, zTab_mem (p := 131) (by decide +kernel), (show Cond.instanceMethod zM302.2.1 ∈ zW from zTab_mem (p := 2325) (by decide +kernel)), fun _ => zTab_mem (p := 2326) (by decide +kernel), by decide +kernel⟩
theorem zo303 : zMok zM303 := ⟨by decide +kernel, zW_of (zsub_10 (List.mem_of_getElem? (show tables_1_10[56]? = some (.code zM303.2.1 zM303.2.2.1 zM303.2.2.2.1 zM303.2.2.2.2.1) from rfl))) rfl, zTab_mem (p := 131) (by decide +kernel), (show Cond.instanceMethod zM303.2.1 ∈ zW from zTab_mem (p := 2333) (by decide +kernel)), fun _ => zTab_mem (p := 2334) (by decide +kernel), by decide +kernel⟩
theorem zo304 : zMok zM304 := ⟨by decide +kernel, zW_of (zsub_10 (List.mem_of_getElem? (show tables_1_10[60]? = some (.code zM304.2.1 zM304.2.2.1 zM304.2.2.2.1 zM304.2.2.2.2.1) from rfl))) rfl, zTab_mem (p := 131) (by decide +kernel), (show Cond.instanceMethod zM304.2.1 ∈ zW from zTab_mem (p := 2337) (by decide +kernel)), fun _ => zTab_mem (p := 2338) (by decide +kernel), by decide +kernel⟩
theorem zo305 : zMok zM305 := ⟨by decide +kernel, zW_of (zsub_10 (List.mem_of_getElem? (show tables_1_10[72]? = some (.code zM305.2.1 zM305.2.2.1 zM305.2.2.2.1 zM305.2.2.2.2.1) from rfl))) rfl, zTab_mem (p := 131) (by decide +kernel), (show Cond.instanceMethod zM305.2.1 ∈ zW from zTab_mem (p := 2350) (by decide +kernel)), fun _ => zTab_mem (p := 107) (by decide +kernel), by decide +kernel⟩
theorem zo306 : zMok zM306 := ⟨by decide +kernel, zW_of (zsub_10 (List.mem_of_getElem? (show tables_1_10[80]? = some (.code zM306.2.1 zM306.2.2.1 zM306.2.2.2.1 zM306.2.2.2.2.1) from rfl))) rfl, zTab_mem (p := 131) (by decide +kernel), (show Cond.instanceMethod zM306.2.1 ∈ zW from zTab_mem (p := 2358) (by decide +kernel)), fun _ => zTab_mem (p := 109) (by decide +kernel), by decide +kernel⟩
theorem zo307 : zMok zM307 := ⟨by decide +kernel, zW_of (zsub_10 (List.mem_of_getElem? (show tables_1_10[76]? = some (.code zM307.2.1 zM307.2.2.1 zM307.2.2.2.1 zM307.2.2.2.2.1) from rfl))) rfl, zTab_mem (p := 131) (by decide +kernel), (show Cond.instanceMethod zM307.2.1 ∈ zW from zTab_mem (p := 2354) (by decide +kernel)), fun _ => zTab_mem (p := 108) (by decide +kernel), by decide +kernel⟩
theorem zo308 : zMok zM308 := ⟨by decide +kernel, zW_of (zsub_10 (List.mem_of_getElem? (show tables_1_10[68]? = some (.code zM308.2.1 zM308.2.2.1 zM308.2.2.2.1 zM308.2.2.2.2.1) from rfl))) rfl, zTab_mem (p := 131) (by decide +kernel), (show Cond.instanceMethod zM308.2.1 ∈ zW from zTab_mem (p := 2346) (by decide +kernel)), fun _ => zTab_mem (p := 106) (by decide +kernel), by decide +kernel⟩
theorem zo309 : zMok zM309 := ⟨by decide +kernel, zW_of (zsub_10 (List.mem_of_getElem? (show tables_1_10[92]? = some (.code zM309.2.1 zM309.2.2.1 zM309.2.2.2.1 zM309.2.2.2.2.1) from rfl))) rfl, zTab_mem (p := 131) (by decide +kernel), (show Cond.instanceMethod zM309.2.1 ∈ zW from zTab_mem (p := 2370) (by decide +kernel)), fun _ => zTab_mem (p := 112) (by decide +kernel), by decide +kernel⟩
theorem zo310 : zMok zM310 := ⟨by decide +kernel, zW_of (zsub_10 (List.mem_of_getElem? (show tables_1_10[88]? = some (.code zM310.2.1 zM310.2.2.1 zM310.2.2.2.1 zM310.2.2.2.2.1) from rfl))) rfl, zTab_mem (p := 131) (by decide +kernel), (show Cond.instanceMethod zM310.2.1 ∈ zW from zTab_mem (p := 2366) (by decide +kernel)), fun _ => zTab_mem (p := 111) (by decide +kernel), by decide +kernel⟩
theorem zo311 : zMok zM311 := ⟨by decide +kernel, zW_of (zsub_10 (List.mem_of_getElem? (show tables_1_10[84]? = some (.code zM311.2.1 zM311.2.2.1 zM311.2.2.2.1 zM311.2.2.2.2.1) from rfl))) rfl, zTab_mem (p := 131) (by decide +kernel), (show Cond.instanceMethod zM311.2.1 ∈ zW from zTab_mem (p := 2362) (by decide +kernel)), fun _ => zTab_mem (p := 110) (by decide +kernel), by decide +kernel⟩
theorem zo312 : zMok zM312 := ⟨by decide +kernel, zW_of (zsub_10 (List.mem_of_getElem? (show tables_1_10[100]? = some (.code zM312.2.1 zM312.2.2.1 zM312.2.2.2.1 zM312.2.2.2.2.1) from rfl))) rfl, zTab_mem (p := 131) (by decide +kernel), (show Cond.instanceMethod zM312.2.1 ∈ zW from zTab_mem (p := 2378) (by decide +kernel)), fun _ => zTab_mem (p := 114) (by decide +kernel), by decide +kernel⟩
theorem zo313 : zMok zM313 := ⟨by decide +kernel, zW_of (zsub_10 (List.mem_of_getElem? (show tables_1_10[96]? = some (.code zM313.2.1 zM313.2.2.1 zM313.2.2.2.1 zM313.2.2.2.2.1) from rfl))) rfl, zTab_mem (p := 131) (by decide +kernel), (show Cond.instanceMethod zM313.2.1 ∈ zW from zTab_mem (p := 2374) (by decide +kernel)), fun _ => zTab_mem (p := 113) (by decide +kernel), by decide +kernel⟩
theorem zo314 : zMok zM314 := ⟨by decide +kernel, zW_of (zsub_10 (List.mem_of_getElem? (show tables_1_10[108]? = some (.code zM314.2.1 zM314.2.2.1 zM314.2.2.2.1 zM314.2.2.2.2.1) from rfl))) rfl, zTab_mem (p := 131) (by decide +kernel), (show Cond.instanceMethod zM314.2.1 ∈ zW from zTab_mem (p := 2386) (by decide +kernel)), fun _ => zTab_mem (p := 116) (by decide +kernel), by decide +kernel⟩
theorem zo315 : zMok zM315 := ⟨by decide +kernel, zW_of (zsub_10 (List.mem_of_getElem? (show tables_1_10[104]? = some (.code zM315.2.1 zM315.2.2.1 zM315.2.2.2.1 zM315.2.2.2.2.1) from rfl))) rfl, zTab_mem (p := 131) (by decide +kernel), (show Cond.instanceMethod zM315.2.1 ∈ zW from zTab_mem (p := 2382) (by decide +kernel)), fun _ => zTab_mem (p := 115) (by decide +kernel), by decide +kernel⟩
theorem zo316 : zMok zM316 := ⟨by decide +kernel, zW_of (zsub_10 (List.mem_of_getElem? (show tables_1_10[64]? = some (.code zM316.2.1 zM316.2.2.1 zM316.2.2.2.1 zM316.2.2.2.2.1) from rfl))) rfl, zTab_mem (p := 131) (by decide +kernel), (show Cond.instanceMethod zM316.2.1 ∈ zW from zTab_mem (p := 2341) (by decide +kernel)), fun _ => zTab_mem (p := 2342) (by decide +kernel), by decide +kernel⟩
theorem zo317 : zMok zM317 := ⟨by decide +kernel, zW_of (zsub_10 (List.mem_of_getElem? (show tables_1_10[112]? = some (.code zM317.2.1 zM317.2.2.1 zM317.2.2.2.1 zM317.2.2.2.2.1) from rfl))) rfl, zTab_mem (p := 131) (by decide +kernel), (show Cond.instanceMethod zM317.2.1 ∈ zW from zTab_mem (p := 2389) (by decide +kernel)), fun _ => zTab_mem (p := 2390) (by decide +kernel), by decide +kernel⟩
theorem zo318 : zMok zM318 := ⟨by decide +kernel, zW_of (zsub_9 (List.mem_of_getElem? (show tables_1_9[69]? = some (.code zM318.2.1 zM318.2.2.1 zM318.2.2.2.1 zM318.2.2.2.2.1) from rfl))) rfl, zTab_mem (p := 131) (by decide +kernel), (show Cond.static zM318.2.1 ∈ zW from zTab_mem (p := 2107) (by decide +kernel)), fun h => absurd h (by decide), by decide +kernel⟩
theorem zo319 : zMok zM319 := ⟨by decide +kernel, zW_of (zsub_10 (List.mem_of_getElem? (show tables_1_10[116]? = some (.code zM319.2.1 zM319.2.2.1 zM319.2.2.2.1 zM319.2.2.2.2.1) from rfl))) rfl, zTab_mem (p := 131) (by decide +kernel), (show Cond.instanceMethod zM319.2.1 ∈ zW from zTab_mem (p := 2393) (by decide +kernel)), fun _ => zTab_mem (p := 2394) (by decide +kernel), by decide +kernel⟩
theorem zo320 : zMok zM320 := ⟨by decide +kernel, zW_of (zsub_10 (List.mem_of_getElem? (show tables_1_10[120]? = some (.code zM320.2.1 zM320.2.2.1 zM320.2.2.2.1 zM320.2.2.2.2.1) from rfl))) rfl, zTab_mem (p := 131) (by decide +kernel), (show Cond.instanceMethod zM320.2.1 ∈ zW from zTab_mem (p := 2397) (by decide +kernel)), fun _ => zTab_mem (p := 2398) (by decide +kernel), by decide +kernel⟩
theorem zo321 : zMok zM321 := ⟨by decide +kernel, zW_of (zsub_10 (List.mem_of_getElem? (show tables_1_10[128]? = some (.code zM321.2.1 zM321.2.2.1 zM321.2.2.2.1 zM321.2.2.2.2.1) from rfl))) rfl, zTab_mem (p := 131) (by decide +kernel), (show Cond.instanceMethod zM321.2.1 ∈ zW from zTab_mem (p := 2406) (by decide +kernel)), fun _ => zTab_mem (p := 117) (by decide +kernel), by decide +kernel⟩
theorem zo322 : zMok zM322 := ⟨by decide +kernel, zW_of (zsub_10 (List.mem_of_getElem? (show tables_1_10[124]? = some (.code zM322.2.1 zM322.2.2.1 zM322.2.2.2.1 zM322.2.2.2.2.1) from rfl))) rfl, zTab_mem (p := 131) (by decide +kernel), (show Cond.instanceMethod zM322.2.1 ∈ zW from zTab_mem (p := 2401) (by decide +kernel)), fun _ => zTab_mem (p := 2402) (by decide +kernel), by decide +kernel⟩
theorem zo323 : zMok zM323 := ⟨by decide +kernel, zW_of (zsub_10 (List.mem_of_getElem? (show tables_1_10[132]? = some (.code zM323.2.1 zM323.2.2.1 zM323.2.2.2.1 zM323.2.2.2.2.1) from rfl))) rfl, zTab_mem (p := 131) (by decide +kernel), (show Cond.instanceMethod zM323.2.1 ∈ zW from zTab_mem (p := 2409) (by decide +kernel)), fun _ => zTab_mem (p := 2410) (by decide +kernel), by decide +kernel⟩
theorem zo324 : zMok zM324 := ⟨by decide +kernel, zW_of (zsub_10 (List.mem_of_getElem? (show tables_1_10[137]? = some (.code zM324.2.1 zM324.2.2.1 zM324.2.2.2.1 zM324.2.2.2.2.1) from rfl))) rfl, zTab_mem (p := 131) (by decide +kernel), (show Cond.instanceMethod zM324.2.1 ∈ zW from zTab_mem (p := 2414) (by decide +kernel)), fun _ => zTab_mem (p := 2415) (by decide +kernel), by decide +kernel⟩
theorem zo325 : zMok zM325 := ⟨by decide +kernel, zW_of (zsub_10 (List.mem_of_getElem? (show tables_1_10[141]? = some (.code zM325.2.1 zM325.2.2.1 zM325.2.2.2.1 zM325.2.2.2.2.1) from rfl))) rfl, zTab_mem (p := 131) (by decide +kernel), (show Cond.instanceMethod zM325.2.1 ∈ zW from zTab_mem (p := 2418) (by decide +kernel)), fun _ => zTab_mem (p := 2419) (by decide +kernel), by decide +kernel⟩
theorem zo326 : zMok zM326 := ⟨by decide +kernel, zW_of (zsub_10 (List.mem_of_getElem? (show tables_1_10[149]? = some (.code zM326.2.1 zM326.2.2.1 zM326.2.2.2.1 zM326.2.2.2.2.1) from rfl))) rfl, zTab_mem (p := 131) (by decide +kernel), (show Cond.instanceMethod zM326.2.1 ∈ zW from zTab_mem (p := 2427) (by decide +kernel)), fun _ => zTab_mem (p := 118) (by decide +kernel), by decide +kernel⟩
theorem zo327 : zMok zM327 := ⟨by decide +kernel, zW_of (zsub_10 (List.mem_of_getElem? (show tables_1_10[145]? = some (.code zM327.2.1 zM327.2.2.1 zM327.2.2.2.1 zM327.2.2.2.2.1) from rfl))) rfl, zTab_mem (p := 131) (by decide +kernel), (show Cond.instanceMethod zM327.2.1 ∈ zW from zTab_mem (p := 2422) (by decide +kernel)), fun _ => zTab_mem (p := 2423) (by decide +kernel), by decide +kernel⟩
theorem zo328 : zMok zM328 := ⟨by decide +kernel, zW_of (zsub_6 (List.mem_of_getElem? (show tables_1_6[44]? = some (.code zM328.2.1 zM328.2.2.1 zM328.2.2.2.1 zM328.2.2.2.2.1) from rfl))) rfl, zTab_mem (p := 135) (by decide +kernel), (show Cond.static zM328.2.1 ∈ zW from zTab_mem (p := 1362) (by decide +kernel)), fun h => absurd h (by decide), by decide +kernel⟩
theorem zo329 : zMok zM329 := ⟨by decide +kernel, zW_of (zsub_4 (List.mem_of_getElem? (show tables_1_4[87]? = some (.code zM329.2.1 zM329.2.2.1 zM329.2.2.2.1 zM329.2.2.2.2.1) from rfl))) rfl, zTab_mem (p := 135) (by decide +kernel), (show Cond.static zM329.2.1 ∈ zW from zTab_mem (p := 925) (by decide +kernel)), fun h => absurd h (by decide), by decide +kernel⟩
theorem zo330 : zMok zM330 := ⟨by decide +kernel, zW_of (zsub_6 (List.mem_of_getElem? (show tables_1_6[235]? = some (.code zM330.2.1 zM330.2.2.1 zM330.2.2.2.1 zM330.2.2.2.2.1) from rfl))) rfl, zTab_mem (p := 134) (by decide +kernel), (show Cond.static zM330.2.1 ∈ zW from zTab_mem (p := 1553) (by decide +kernel)), fun h => absurd h (by decide), by decide +kernel⟩
theorem zo331 : zMok zM331 := ⟨by decide +kernel, zW_of (zsub_6 (List.mem_of_getElem? (show tables_1_6[232]? = some (.code zM331.2.1 zM331.2.2.1 zM331.2.2.2.1 zM331.2.2.2.2.1) from rfl))) rfl, zTab_mem (p := 134) (by decide +kernel), (show Cond.static zM331.2.1 ∈ zW from zTab_mem (p := 1550) (by decide +kernel)), fun h => absurd h (by decide), by decide +kernel⟩
theorem zo332 : zMok zM332 := ⟨by decide +kernel, zW_of (zsub_4 (List.mem_of_getElem? (show tables_1_4[63]? = some (.code zM332.2.1 zM332.2.2.1 zM332.2.2.2.1 zM332.2.2.2.2.1) from rfl))) rfl, zTab_mem (p := 134) (by decide +kernel), (show Cond.static zM332.2.1 ∈ zW from zTab_mem (p := 901) (by decide +kernel)), fun h => absurd h (by decide), by decide +kernel⟩
end
section
-- ===== all methods are in order; the law is =====
theorem zok_0 : ∀ M ∈ zmt_0, zMok M := List.forall_mem_cons.mpr ⟨zo0, List.forall_mem_cons.mpr ⟨zo1, List.forall_mem_cons.mpr ⟨zo2, List.forall_mem_cons.mpr ⟨zo3, List.forall_mem_cons.mpr ⟨zo4, List.forall_mem_cons.mpr ⟨zo5, List.forall_mem_cons.mpr ⟨zo6, List.forall_mem_cons.mpr ⟨zo7, List.forall_mem_cons.mpr ⟨zo8, List.forall_mem_cons.mpr ⟨zo9, List.forall_mem_cons.mpr ⟨zo10, List.forall_mem_cons.mpr ⟨zo11, List.forall_mem_cons.mpr ⟨zo12, List.forall_mem_cons.mpr ⟨zo13, List.forall_mem_cons.mpr ⟨zo14, List.forall_mem_cons.mpr ⟨zo15, List.forall_mem_cons.mpr ⟨zo16, List.forall_mem_cons.mpr ⟨zo17, List.forall_mem_cons.mpr ⟨zo18, List.forall_mem_cons.mpr ⟨zo19, fun _ h => absurd h List.not_mem_nil⟩⟩⟩⟩⟩⟩⟩⟩⟩⟩⟩⟩⟩⟩⟩⟩⟩⟩⟩⟩
theorem zok_1 : ∀ M ∈ zmt_1, zMok M := List.forall_mem_cons.mpr ⟨zo20, List.forall_mem_cons.mpr ⟨zo21, List.forall_mem_cons.mpr ⟨zo22, List.forall_mem_cons.mpr ⟨zo23, List.forall_mem_cons.mpr ⟨zo24, List.forall_mem_cons.mpr ⟨zo25, List.forall_mem_cons.mpr ⟨zo26, List.forall_mem_cons.mpr ⟨zo27, List.forall_mem_cons.mpr ⟨zo28, List.forall_mem_cons.mpr ⟨zo29, List.forall_mem_cons.mpr ⟨zo30, List.forall_mem_cons.mpr ⟨zo31, List.forall_mem_cons.mpr ⟨zo32, List.forall_mem_cons.mpr ⟨zo33, List.forall_mem_cons.mpr ⟨zo34, List.forall_mem_cons.mpr ⟨zo35, List.forall_mem_cons.mpr ⟨zo36, List.forall_mem_cons.mpr ⟨zo37, List.forall_mem_cons.mpr ⟨zo38, List.forall_mem_cons.mpr ⟨zo39, fun _ h => absurd h List.not_mem_nil⟩⟩⟩⟩⟩⟩⟩⟩⟩⟩⟩⟩⟩⟩⟩⟩⟩⟩⟩⟩
theorem zok_2 : ∀ M ∈ zmt_2, zMok M := List.forall_mem_cons.mpr ⟨zo40, List.forall_mem_cons.mpr ⟨zo41, List.forall_mem_cons.mpr ⟨zo42, List.forall_mem_cons.mpr ⟨zo43, List.forall_mem_cons.mpr ⟨zo44, List.forall_mem_cons.mpr ⟨zo45, List.forall_mem_cons.mpr ⟨zo46, List.forall_mem_cons.mpr ⟨zo47, List.forall_mem_cons.mpr ⟨zo48, List.forall_mem_cons.mpr ⟨zo49, List.forall_mem_cons.mpr ⟨zo50, List.forall_mem_cons.mpr ⟨zo51, List.forall_mem_cons.mpr ⟨zo52, List.forall_mem_cons.mpr ⟨zo53, List.forall_mem_cons.mpr ⟨zo54, List.forall_mem_cons.mpr ⟨zo55, List.forall_mem_cons.mpr ⟨zo56, List.forall_mem_cons.mpr ⟨zo57, List.forall_mem_cons.mpr ⟨zo58, List.forall_mem_cons.mpr ⟨zo59, fun _ h => absurd h List.not_mem_nil⟩⟩⟩⟩⟩⟩⟩⟩⟩⟩⟩⟩⟩⟩⟩⟩⟩⟩⟩⟩
theorem zok_3 : ∀ M ∈ zmt_3, zMok M := List.forall_mem_cons.mpr ⟨zo60, List.forall_mem_cons.mpr ⟨zo61, List.forall_mem_cons.mpr ⟨zo62, List.forall_mem_cons.mpr ⟨zo63, List.forall_mem_cons.mpr ⟨zo64, List.forall_mem_cons.mpr ⟨zo65, List.forall_mem_cons.mpr ⟨zo66, List.forall_mem_cons.mpr ⟨zo67, List.forall_mem_cons.mpr ⟨zo68, List.forall_mem_cons.mpr ⟨zo69, List.forall_mem_cons.mpr ⟨zo70, List.forall_mem_cons.mpr ⟨zo71, List.forall_mem_cons.mpr ⟨zo72, List.forall_mem_cons.mpr ⟨zo73, List.forall_mem_cons.mpr ⟨zo74, List.forall_mem_cons.mpr ⟨zo75, List.forall_mem_cons.mpr ⟨zo76, List.forall_mem_cons.mpr ⟨zo77, List.forall_mem_cons.mpr ⟨zo78, List.forall_mem_cons.mpr ⟨zo79, fun _ h => absurd h List.not_mem_nil⟩⟩⟩⟩⟩⟩⟩⟩⟩⟩⟩⟩⟩⟩⟩⟩⟩⟩⟩⟩
theorem zok_4 : ∀ M ∈ zmt_4, zMok M := List.forall_mem_cons.mpr ⟨zo80, List.forall_mem_cons.mpr ⟨zo81, List.forall_mem_cons.mpr ⟨zo82, List.forall_mem_cons.mpr ⟨zo83, List.forall_mem_cons.mpr ⟨zo84, List.forall_mem_cons.mpr ⟨zo85, List.forall_mem_cons.mpr ⟨zo86, List.forall_mem_cons.mpr ⟨zo87, List.forall_mem_cons.mpr ⟨zo88, List.forall_mem_cons.mpr ⟨zo89, List.forall_mem_cons.mpr ⟨zo90, List.forall_mem_cons.mpr ⟨zo91, List.forall_mem_cons.mpr ⟨zo92, List.forall_mem_cons.mpr ⟨zo93, List.forall_mem_cons.mpr ⟨zo94, List.forall_mem_cons.mpr ⟨zo95, List.forall_mem_cons.mpr ⟨zo96, List.forall_mem_cons.mpr ⟨zo97, List.forall_mem_cons.mpr ⟨zo98, List.forall_mem_cons.mpr ⟨zo99, fun _ h => absurd h List.not_mem_nil⟩⟩⟩⟩⟩⟩⟩⟩⟩⟩⟩⟩⟩⟩⟩⟩⟩⟩⟩⟩
theorem zok_5 : ∀ M ∈ zmt_5, zMok M := List.forall_mem_cons.mpr ⟨zo100, List.forall_mem_cons.mpr ⟨zo101, List.forall_mem_cons.mpr ⟨zo102, List.forall_mem_cons.mpr ⟨zo103, List.forall_mem_cons.mpr ⟨zo104, List.forall_mem_cons.mpr ⟨zo105, List.forall_mem_cons.mpr ⟨zo106, List.forall_mem_cons.mpr ⟨zo107, List.forall_mem_cons.mpr ⟨zo108, List.forall_mem_cons.mpr ⟨zo109, List.forall_mem_cons.mpr ⟨zo110, List.forall_mem_cons.mpr ⟨zo111, List.forall_mem_cons.mpr ⟨zo112, List.forall_mem_cons.mpr ⟨zo113, List.forall_mem_cons.mpr ⟨zo114, List.forall_mem_cons.mpr ⟨zo115, List.forall_mem_cons.mpr ⟨zo116, List.forall_mem_cons.mpr ⟨zo117, List.forall_mem_cons.mpr ⟨zo118, List.forall_mem_cons.mpr ⟨zo119, fun _ h => absurd h List.not_mem_nil⟩⟩⟩⟩⟩⟩⟩⟩⟩⟩⟩⟩⟩⟩⟩⟩⟩⟩⟩⟩
theorem zok_6 : ∀ M ∈ zmt_6, zMok M := List.forall_mem_cons.mpr ⟨zo120, List.forall_mem_cons.mpr ⟨zo121, List.forall_mem_cons.mpr ⟨zo122, List.forall_mem_cons.mpr ⟨zo123, List.forall_mem_cons.mpr ⟨zo124, List.forall_mem_cons.mpr ⟨zo125, List.forall_mem_cons.mpr ⟨zo126, List.forall_mem_cons.mpr ⟨zo127, List.forall_mem_cons.mpr ⟨zo128, List.forall_mem_cons.mpr ⟨zo129, List.forall_mem_cons.mpr ⟨zo130, List.forall_mem_cons.mpr ⟨zo131, List.forall_mem_cons.mpr ⟨zo132, List.forall_mem_cons.mpr ⟨zo133, List.forall_mem_cons.mpr ⟨zo134, List.forall_mem_cons.mpr ⟨zo135, List.forall_mem_cons.mpr ⟨zo136, List.forall_mem_cons.mpr ⟨zo137, List.forall_mem_cons.mpr ⟨zo138, List.forall_mem_cons.mpr ⟨zo139, fun _ h => absurd h List.not_mem_nil⟩⟩⟩⟩⟩⟩⟩⟩⟩⟩⟩⟩⟩⟩⟩⟩⟩⟩⟩⟩
theorem zok_7 : ∀ M ∈ zmt_7, zMok M := List.forall_mem_cons.mpr ⟨zo140, List.forall_mem_cons.mpr ⟨zo141, List.forall_mem_cons.mpr ⟨zo142, List.forall_mem_cons.mpr ⟨zo143, List.forall_mem_cons.mpr ⟨zo144, List.forall_mem_cons.mpr ⟨zo145, List.forall_mem_cons.mpr ⟨zo146, List.forall_mem_cons.mpr ⟨zo147, List.forall_mem_cons.mpr ⟨zo148, List.forall_mem_cons.mpr ⟨zo149, List.forall_mem_cons.mpr ⟨zo150, List.forall_mem_cons.mpr ⟨zo151, List.forall_mem_cons.mpr ⟨zo152, List.forall_mem_cons.mpr ⟨zo153, List.forall_mem_cons.mpr ⟨zo154, List.forall_mem_cons.mpr ⟨zo155, List.forall_mem_cons.mpr ⟨zo156, List.forall_mem_cons.mpr ⟨zo157, List.forall_mem_cons.mpr ⟨zo158, List.forall_mem_cons.mpr ⟨zo159, fun _ h => absurd h List.not_mem_nil⟩⟩⟩⟩⟩⟩⟩⟩⟩⟩⟩⟩⟩⟩⟩⟩⟩⟩⟩⟩
theorem zok_8 : ∀ M ∈ zmt_8, zMok M := List.forall_mem_cons.mpr ⟨zo160, List.forall_mem_cons.mpr ⟨zo161, List.forall_mem_cons.mpr ⟨zo162, List.forall_mem_cons.mpr ⟨zo163, List.forall_mem_cons.mpr ⟨zo164, List.forall_mem_cons.mpr ⟨zo165, List.forall_mem_cons.mpr ⟨zo166, List.forall_mem_cons.mpr ⟨zo167, List.forall_mem_cons.mpr ⟨zo168, List.forall_mem_cons.mpr ⟨zo169, List.forall_mem_cons.mpr ⟨zo170, List.forall_mem_cons.mpr ⟨zo171, List.forall_mem_cons.mpr ⟨zo172, List.forall_mem_cons.mpr ⟨zo173, List.forall_mem_cons.mpr ⟨zo174, List.forall_mem_cons.mpr ⟨zo175, List.forall_mem_cons.mpr ⟨zo176, List.forall_mem_cons.mpr ⟨zo177, List.forall_mem_cons.mpr ⟨zo178, List.forall_mem_cons.mpr ⟨zo179, fun _ h => absurd h List.not_mem_nil⟩⟩⟩⟩⟩⟩⟩⟩⟩⟩⟩⟩⟩⟩⟩⟩⟩⟩⟩⟩
theorem zok_9 : ∀ M ∈ zmt_9, zMok M := List.forall_mem_cons.mpr ⟨zo180, List.forall_mem_cons.mpr ⟨zo181, List.forall_mem_cons.mpr ⟨zo182, List.forall_mem_cons.mpr ⟨zo183, List.forall_mem_cons.mpr ⟨zo184, List.forall_mem_cons.mpr ⟨zo185, List.forall_mem_cons.mpr ⟨zo186, List.forall_mem_cons.mpr ⟨zo187, List.forall_mem_cons.mpr ⟨zo188, List.forall_mem_cons.mpr ⟨zo189, List.forall_mem_cons.mpr ⟨zo190, List.forall_mem_cons.mpr ⟨zo191, List.forall_mem_cons.mpr ⟨zo192, List.forall_mem_cons.mpr ⟨zo193, List.forall_mem_cons.mpr ⟨zo194, List.forall_mem_cons.mpr ⟨zo195, List.forall_mem_cons.mpr ⟨zo196, List.forall_mem_cons.mpr ⟨zo197, List.forall_mem_cons.mpr ⟨zo198, List.forall_mem_cons.mpr ⟨zo199, fun _ h => absurd h List.not_mem_nil⟩⟩⟩⟩⟩⟩⟩⟩⟩⟩⟩⟩⟩⟩⟩⟩⟩⟩⟩⟩
theorem zok_10 : ∀ M ∈ zmt_10, zMok M := List.forall_mem_cons.mpr ⟨zo200, List.forall_mem_cons.mpr ⟨zo201, List.forall_mem_cons.mpr ⟨zo202, List.forall_mem_cons.mpr ⟨zo203, List.forall_mem_cons.mpr ⟨zo204, List.forall_mem_cons.mpr ⟨zo205, List.forall_mem_cons.mpr ⟨zo206, List.forall_mem_cons.mpr ⟨zo207, List.forall_mem_cons.mpr ⟨zo208, List.forall_mem_cons.mpr ⟨zo209, List.forall_mem_cons.mpr ⟨zo210, List.forall_mem_cons.mpr ⟨zo211, List.forall_mem_cons.mpr ⟨zo212, List.forall_mem_cons.mpr ⟨zo213, List.forall_mem_cons.mpr ⟨zo214, List.forall_mem_cons.mpr ⟨zo215, List.forall_mem_cons.mpr ⟨zo216, List.forall_mem_cons.mpr ⟨zo217, List.forall_mem_cons.mpr ⟨zo218, List.forall_mem_cons.mpr ⟨zo219, fun _ h => absurd h List.not_mem_nil⟩⟩⟩⟩⟩⟩⟩⟩⟩⟩⟩⟩⟩⟩⟩⟩⟩⟩⟩⟩
theorem zok_11 : ∀ M ∈ zmt_11, zMok M := List.forall_mem_cons.mpr ⟨zo220, List.forall_mem_cons.mpr ⟨zo221, List.forall_mem_cons.mpr ⟨zo222, List.forall_mem_cons.mpr ⟨zo223, List.forall_mem_cons.mpr ⟨zo224, List.forall_mem_cons.mpr ⟨zo225, List.forall_mem_cons.mpr ⟨zo226, List.forall_mem_cons.mpr ⟨zo227, List.forall_mem_cons.mpr ⟨zo228, List.forall_mem_cons.mpr ⟨zo229, List.forall_mem_cons.mpr ⟨zo230, List.forall_mem_cons.mpr ⟨zo231, List.forall_mem_cons.mpr ⟨zo232, List.forall_mem_cons.mpr ⟨zo233, List.forall_mem_cons.mpr ⟨zo234, List.forall_mem_cons.mpr ⟨zo235, List.forall_mem_cons.mpr ⟨zo236, List.forall_mem_cons.mpr ⟨zo237, List.forall_mem_cons.mpr ⟨zo238, List.forall_mem_cons.mpr ⟨zo239, fun _ h => absurd h List.not_mem_nil⟩⟩⟩⟩⟩⟩⟩⟩⟩⟩⟩⟩⟩⟩⟩⟩⟩⟩⟩⟩
theorem zok_12 : ∀ M ∈ zmt_12, zMok M := List.forall_mem_cons.mpr ⟨zo240, List.forall_mem_cons.mpr ⟨zo241, List.forall_mem_cons.mpr ⟨zo242, List.forall_mem_cons.mpr ⟨zo243, List.forall_mem_cons.mpr ⟨zo244, List.forall_mem_cons.mpr ⟨zo245, List.forall_mem_cons.mpr ⟨zo246, List.forall_mem_cons.mpr ⟨zo247, List.forall_mem_cons.mpr ⟨zo248, List.forall_mem_cons.mpr ⟨zo249, List.forall_mem_cons.mpr ⟨zo250, List.forall_mem_cons.mpr ⟨zo251, List.forall_mem_cons.mpr ⟨zo252, List.forall_mem_cons.mpr ⟨zo253, List.forall_mem_cons.mpr ⟨zo254, List.forall_mem_cons.mpr ⟨zo255, List.forall_mem_cons.mpr ⟨zo256, List.forall_mem_cons.mpr ⟨zo257, List.forall_mem_cons.mpr ⟨zo258, List.forall_mem_cons.mpr ⟨zo259, fun _ h => absurd h List.not_mem_nil⟩⟩⟩⟩⟩⟩⟩⟩⟩⟩⟩⟩⟩⟩⟩⟩⟩⟩⟩⟩
theorem zok_13 : ∀ M ∈ zmt_13, zMok M := List.forall_mem_cons.mpr ⟨zo260, List.forall_mem_cons.mpr ⟨zo261, List.forall_mem_cons.mpr ⟨zo262, List.forall_mem_cons.mpr ⟨zo263, List.forall_mem_cons.mpr ⟨zo264, List.forall_mem_cons.mpr ⟨zo265, List.forall_mem_cons.mpr ⟨zo266, List.forall_mem_cons.mpr ⟨zo267, List.forall_mem_cons.mpr ⟨zo268, List.forall_mem_cons.mpr ⟨zo269, List.forall_mem_cons.mpr ⟨zo270, List.forall_mem_cons.mpr ⟨zo271, List.forall_mem_cons.mpr ⟨zo272, List.forall_mem_cons.mpr ⟨zo273, List.forall_mem_cons.mpr ⟨zo274, List.forall_mem_cons.mpr ⟨zo275, List.forall_mem_cons.mpr ⟨zo276, List.forall_mem_cons.mpr ⟨zo277, List.forall_mem_cons.mpr ⟨zo278, List.forall_mem_cons.mpr ⟨zo279, fun _ h => absurd h List.not_mem_nil⟩⟩⟩⟩⟩⟩⟩⟩⟩⟩⟩⟩⟩⟩⟩⟩⟩⟩⟩⟩
theorem zok_14 : ∀ M ∈ zmt_14, zMok M := List.forall_mem_cons.mpr ⟨zo280, List.forall_mem_cons.mpr ⟨zo281, List.forall_mem_cons.mpr ⟨zo282, List.forall_mem_cons.mpr ⟨zo283, List.forall_mem_cons.mpr ⟨zo284, List.forall_mem_cons.mpr ⟨zo285, List.forall_mem_cons.mpr ⟨zo286, List.forall_mem_cons.mpr ⟨zo287, List.forall_mem_cons.mpr ⟨zo288, List.forall_mem_cons.mpr ⟨zo289, List.forall_mem_cons.mpr ⟨zo290, List.forall_mem_cons.mpr ⟨zo291, List.forall_mem_cons.mpr ⟨zo292, List.forall_mem_cons.mpr ⟨zo293, List.forall_mem_cons.mpr ⟨zo294, List.forall_mem_cons.mpr ⟨zo295, List.forall_mem_cons.mpr ⟨zo296, List.forall_mem_cons.mpr ⟨zo297, List.forall_mem_cons.mpr ⟨zo298, List.forall_mem_cons.mpr ⟨zo299, fun _ h => absurd h List.not_mem_nil⟩⟩⟩⟩⟩⟩⟩⟩⟩⟩⟩⟩⟩⟩⟩⟩⟩⟩⟩⟩
theorem zok_15 : ∀ M ∈ zmt_15, zMok M := List.forall_mem_cons.mpr ⟨zo300, List.forall_mem_cons.mpr ⟨zo301, List.forall_mem_cons.mpr ⟨zo302, List.forall_mem_cons.mpr ⟨zo303, List.forall_mem_cons.mpr ⟨zo304, List.forall_mem_cons.mpr ⟨zo305, List.forall_mem_cons.mpr ⟨zo306, List.forall_mem_cons.mpr ⟨zo307, List.forall_mem_cons.mpr ⟨zo308, List.forall_mem_cons.mpr ⟨zo309, List.forall_mem_cons.mpr ⟨zo310, List.forall_mem_cons.mpr ⟨zo311, List.forall_mem_cons.mpr ⟨zo312, List.forall_mem_cons.mpr ⟨zo313, List.forall_mem_cons.mpr ⟨zo314, List.forall_mem_cons.mpr ⟨zo315, List.forall_mem_cons.mpr ⟨zo316, List.forall_mem_cons.mpr ⟨zo317, List.forall_mem_cons.mpr ⟨zo318, List.forall_mem_cons.mpr ⟨zo319, fun _ h => absurd h List.not_mem_nil⟩⟩⟩⟩⟩⟩⟩⟩⟩⟩⟩⟩⟩⟩⟩⟩⟩⟩⟩⟩
theorem zok_16 : ∀ M ∈ zmt_16, zMok M := List.forall_mem_cons.mpr ⟨zo320, List.forall_mem_cons.mpr ⟨zo321, List.forall_mem_cons.mpr ⟨zo322, List.forall_mem_cons.mpr ⟨zo323, List.forall_mem_cons.mpr ⟨zo324, List.forall_mem_cons.mpr ⟨zo325, List.forall_mem_cons.mpr ⟨zo326, List.forall_mem_cons.mpr ⟨zo327, List.forall_mem_cons.mpr ⟨zo328, List.forall_mem_cons.mpr ⟨zo329, List.forall_mem_cons.mpr ⟨zo330, List.forall_mem_cons.mpr ⟨zo331, List.forall_mem_cons.mpr ⟨zo332, fun _ h => absurd h List.not_mem_nil⟩⟩⟩⟩⟩⟩⟩⟩⟩⟩⟩⟩⟩
theorem zmt_ok : ∀ M ∈ zmt, zMok M := List.forall_mem_append.mpr ⟨zok_0, List.forall_mem_append.mpr ⟨zok_1, List.forall_mem_append.mpr ⟨zok_2, List.forall_mem_append.mpr ⟨zok_3, List.forall_mem_append.mpr ⟨zok_4, List.forall_mem_append.mpr ⟨zok_5, List.forall_mem_append.mpr ⟨zok_6, List.forall_mem_append.mpr ⟨zok_7, List.forall_mem_append.mpr ⟨zok_8, List.forall_mem_append.mpr ⟨zok_9, List.forall_mem_append.mpr ⟨zok_10, List.forall_mem_append.mpr ⟨zok_11, List.forall_mem_append.mpr ⟨zok_12, List.forall_mem_append.mpr ⟨zok_13, List.forall_mem_append.mpr ⟨zok_14, List.forall_mem_append.mpr ⟨zok_15, zok_16⟩⟩⟩⟩⟩⟩⟩⟩⟩⟩⟩⟩⟩⟩⟩⟩
theorem zlw_0 : zchk 13 code zI333_0 = true := by decide +kernel
theorem zlw_1 : zchk 13 code zI333_1 = true := by decide +kernel
theorem zlw_2 : zchk 13 code zI333_2 = true := by decide +kernel
theorem zlw_3 : zchk 13 code zI333_3 = true := by decide +kernel
theorem zlw_4 : zchk 13 code zI333_4 = true := by decide +kernel
theorem zlw_5 : zchk 13 code zI333_5 = true := by decide +kernel
theorem zlw_6 : zchk 13 code zI333_6 = true := by decide +kernel
theorem zlw_7 : zchk 13 code zI333_7 = true := by decide +kernel
theorem zlw_8 : zchk 13 code zI333_8 = true := by decide +kernel
theorem zlw_9 : zchk 13 code zI333_9 = true := by decide +kernel
theorem zlw_10 : zchk 13 code zI333_10 = true := by decide +kernel
theorem zlw_11 : zchk 13 code zI333_11 = true := by decide +kernel
theorem zlw_12 : zchk 13 code zI333_12 = true := by decide +kernel
theorem zlw_13 : zchk 13 code zI333_13 = true := by decide +kernel
theorem zlw_14 : zchk 13 code zI333_14 = true := by decide +kernel
theorem zlw_15 : zchk 13 code zI333_15 = true := by decide +kernel
theorem zchk_app {o : Nat} {b : ByteArray} {x y : List aI} (h1 : zchk o b x = true) (h2 : zchk o b y = true) : zchk o b (x ++ y) = true := by
  unfold zchk at *
  rw [List.all_append, h1, h2]
  rfl
theorem zlw_ok : zchk 13 code zI333 = true := zchk_app zlw_0 (zchk_app zlw_1 (zchk_app zlw_2 (zchk_app zlw_3 (zchk_app zlw_4 (zchk_app zlw_5 (zchk_app zlw_6 (zchk_app zlw_7 (zchk_app zlw_8 (zchk_app zlw_9 (zchk_app zlw_10 (zchk_app zlw_11 (zchk_app zlw_12 (zchk_app zlw_13 (zchk_app zlw_14 (zlw_15)))))))))))))))
end
section
-- ===== a small machine of our own over cells by number: what a method does, as a function =====
abbrev aC : Type := (Nat × vp_A) ⊕ (Nat × List Value)
abbrev aH : Type := List aC × Nat
abbrev aL : Type := List (Option Value)
abbrev aR : Type := Option Value × aH
abbrev aX : Type := Nat → Option (Nat × (Nat → Int32))
def aF (pc : Nat) : List aI → Option aI
  | [] => none
  | q :: r => bif Nat.beq q.1 pc then some q else aF pc r
def aG (L : aL) (i : Nat) : Option Value := match L[i]? with
  | some (some v) => some v
  | _ => none
def aclr (L : aL) (i : Nat) : aL := match i with
  | 0 => L
  | j + 1 => match L[j]? with
    | some (some (.long _)) => L.set j none
    | some (some (.double _)) => L.set j none
    | _ => L
def aS1 (L : aL) (i : Nat) (v : Value) : aL := (aclr L i).set i (some v)
def aS2 (L : aL) (i : Nat) (v : Value) : aL := ((aclr L i).set i (some v)).set (i + 1) none
def aE : Nat → List Value → aL
  | n, [] => List.replicate n none
  | n, v :: r => bif Nat.beq v.category 2 then some v :: none :: aE (n - 2) r else some v :: aE (n - 1) r
def aws : List Value → Nat
  | [] => 0
  | v :: r => v.category + aws r
def aok1 (v : Value) : Bool := match v with
  | .long _ => false
  | .double _ => false
  | _ => true
-- what lies on top of the stack
def tI (st : List Value) (f : Int32 → List Value → Option aR) : Option aR := match st with
  | .int x :: r => f x r
  | _ => none
def tII (st : List Value) (f : Int32 → Int32 → List Value → Option aR) : Option aR := match st with
  | .int y :: .int x :: r => f x y r
  | _ => none
def tJ (st : List Value) (f : Int64 → List Value → Option aR) : Option aR := match st with
  | .long x :: r => f x r
  | _ => none
def tJJ (st : List Value) (f : Int64 → Int64 → List Value → Option aR) : Option aR := match st with
  | .long y :: .long x :: r => f x y r
  | _ => none
def tJI (st : List Value) (f : Int64 → Int32 → List Value → Option aR) : Option aR := match st with
  | .int y :: .long x :: r => f x y r
  | _ => none
def aok (ty : FieldType) (v : Value) : Bool := match ty, v with
  | .int, .int _ => true
  | .long, .long _ => true
  | .boolean, .int x => x == 0 || x == 1
  | .object _, .ref _ => true
  | .object _, .null => true
  | .array _, .ref _ => true
  | .array _, .null => true
  | _, _ => false
def aobj (h : aH) (o a : Nat) (f : List Value → Option aR) : Option aR := match h.1[o]? with
  | some (.inr (ci, fs)) => bif Nat.beq ci a then f fs else none
  | _ => none
def aarI (h : aH) (o : Nat) (f : Nat → Nat → (Nat → Int32) → Option aR) : Option aR := match h.1[o]? with
  | some (.inl (t, n, .inl g)) => f t n g
  | _ => none
def aarJ (h : aH) (o : Nat) (f : Nat → (Nat → Int64) → Option aR) : Option aR := match h.1[o]? with
  | some (.inl (1, n, .inr (.inl g))) => f n g
  | _ => none
def aarR (h : aH) (o : Nat) (f : Nat → Nat → (Nat → Option Nat) → Option aR) : Option aR := match h.1[o]? with
  | some (.inl (t, n, .inr (.inr (.inr (.inr g))))) => f t n g
  | _ => none
def arf (x : Option Nat) : Value := match x with
  | some q => .ref q
  | none => .null
def azero (t : Nat) : (Nat → Int32) ⊕ (Nat → Int64) ⊕ (Nat → UInt32) ⊕ (Nat → UInt64) ⊕ (Nat → Option Nat) := match t with
  | 1 => .inr (.inl (fun _ => 0))
  | _ => .inl (fun _ => 0)
def asw (x : Int32) (k : Int → Option aR) (d : Int) : Int → List Int → Option aR
  | _, [] => k d
  | lo, o :: r => if x = Int32.ofInt lo then k o else asw x k d (lo + 1) r
def alw (x : Int32) (k : Int → Option aR) (d : Int) : List (Int × Int) → Option aR
  | [] => k d
  | q :: r => if x = Int32.ofInt q.1 then k q.2 else alw x k d r
set_option maxHeartbeats 4000000 in
/-- an instruction that is neither a call nor a return -/
def aX1 (X : aX) (own kind : Nat) (k : Nat → aL → List Value → aH → Option aR) (i : aI) (L : aL) (st : List Value) (h : aH) : Option aR := match i.2.1 with
  | .aconst_null => k (i.1 + 1) L (.null :: st) h
  | .iconst z => k (i.1 + 1) L (.int (Int32.ofInt z) :: st) h
  | .bipush z => k (i.1 + 2) L (.int (Int8.ofInt z).toInt32 :: st) h
  | .sipush z => k (i.1 + 3) L (.int (Int16.ofInt z).toInt32 :: st) h
  | .lconst z => k (i.1 + 1) L (.long (Int64.ofNat z) :: st) h
  | .ldc _ => k (i.1 + 2) L (.int (Int32.ofNat i.2.2.2.1) :: st) h
  | .ldc_w _ => k (i.1 + 3) L (.int (Int32.ofNat i.2.2.2.1) :: st) h
  | .ldc2_w _ => k (i.1 + 3) L (.long (Int64.ofNat i.2.2.2.1) :: st) h
  | .iload_n z => match aG L z with
    | some (.int x) => k (i.1 + 1) L (.int x :: st) h
    | _ => none
  | .iload z => match aG L z with
    | some (.int x) => k (i.1 + 2) L (.int x :: st) h
    | _ => none
  | .lload_n z => match aG L z with
    | some (.long x) => k (i.1 + 1) L (.long x :: st) h
    | _ => none
  | .lload z => match aG L z with
    | some (.long x) => k (i.1 + 2) L (.long x :: st) h
    | _ => none
  | .aload_n z => match aG L z with
    | some (.ref x) => k (i.1 + 1) L (.ref x :: st) h
    | some (.retAddr x) => k (i.1 + 1) L (.retAddr x :: st) h
    | some .null => k (i.1 + 1) L (.null :: st) h
    | _ => none
  | .aload z => match aG L z with
    | some (.ref x) => k (i.1 + 2) L (.ref x :: st) h
    | some (.retAddr x) => k (i.1 + 2) L (.retAddr x :: st) h
    | some .null => k (i.1 + 2) L (.null :: st) h
    | _ => none
  | .istore_n z => tI st fun x r => bif Nat.blt z L.length then k (i.1 + 1) (aS1 L z (.int x)) r h else none
  | .istore z => tI st fun x r => bif Nat.blt z L.length then k (i.1 + 2) (aS1 L z (.int x)) r h else none
  | .lstore_n z => tJ st fun x r => bif Nat.blt (z + 1) L.length then k (i.1 + 1) (aS2 L z (.long x)) r h else none
  | .lstore z => tJ st fun x r => bif Nat.blt (z + 1) L.length then k (i.1 + 2) (aS2 L z (.long x)) r h else none
  | .astore_n z => match st with
    | .ref x :: r => bif Nat.blt z L.length then k (i.1 + 1) (aS1 L z (.ref x)) r h else none
    | .null :: r => bif Nat.blt z L.length then k (i.1 + 1) (aS1 L z .null) r h else none
    | _ => none
  | .astore z => match st with
    | .ref x :: r => bif Nat.blt z L.length then k (i.1 + 2) (aS1 L z (.ref x)) r h else none
    | .null :: r => bif Nat.blt z L.length then k (i.1 + 2) (aS1 L z .null) r h else none
    | _ => none
  | .iinc z c => match aG L z with
    | some (.int x) => k (i.1 + 3) (aS1 L z (.int (x + Int32.ofInt c))) st h
    | _ => none
  | .iadd => tII st fun x y r => k (i.1 + 1) L (.int (x + y) :: r) h
  | .isub => tII st fun x y r => k (i.1 + 1) L (.int (x - y) :: r) h
  | .imul => tII st fun x y r => k (i.1 + 1) L (.int (x * y) :: r) h
  | .iand => tII st fun x y r => k (i.1 + 1) L (.int (x &&& y) :: r) h
  | .ior => tII st fun x y r => k (i.1 + 1) L (.int (x ||| y) :: r) h
  | .ixor => tII st fun x y r => k (i.1 + 1) L (.int (x ^^^ y) :: r) h
  | .ishl => tII st fun x y r => k (i.1 + 1) L (.int (x <<< (y &&& 31)) :: r) h
  | .ishr => tII st fun x y r => k (i.1 + 1) L (.int (x >>> (y &&& 31)) :: r) h
  | .iushr => tII st fun x y r => k (i.1 + 1) L (.int (x.toUInt32 >>> (y.toUInt32 &&& Int32.toUInt32 31)).toInt32 :: r) h
  | .idiv => tII st fun x y r => if y = 0 then none else k (i.1 + 1) L (.int (x / y) :: r) h
  | .irem => tII st fun x y r => if y = 0 then none else k (i.1 + 1) L (.int (x - x / y * y) :: r) h
  | .ineg => tI st fun x r => k (i.1 + 1) L (.int (-x) :: r) h
  | .ladd => tJJ st fun x y r => k (i.1 + 1) L (.long (x + y) :: r) h
  | .lsub => tJJ st fun x y r => k (i.1 + 1) L (.long (x - y) :: r) h
  | .lmul => tJJ st fun x y r => k (i.1 + 1) L (.long (x * y) :: r) h
  | .land => tJJ st fun x y r => k (i.1 + 1) L (.long (x &&& y) :: r) h
  | .lor => tJJ st fun x y r => k (i.1 + 1) L (.long (x ||| y) :: r) h
  | .ldiv => tJJ st fun x y r => if y = 0 then none else k (i.1 + 1) L (.long (x / y) :: r) h
  | .lrem => tJJ st fun x y r => if y = 0 then none else k (i.1 + 1) L (.long (x - x / y * y) :: r) h
  | .lshl => tJI st fun x y r => k (i.1 + 1) L (.long (x <<< (y.toInt64 &&& 63)) :: r) h
  | .lcmp => tJJ st fun x y r => k (i.1 + 1) L (.int (lg_cmp x y) :: r) h
  | .i2l => tI st fun x r => k (i.1 + 1) L (.long x.toInt64 :: r) h
  | .l2i => tJ st fun x r => k (i.1 + 1) L (.int x.toInt32 :: r) h
  | .i2b => tI st fun x r => k (i.1 + 1) L (.int x.toInt8.toInt32 :: r) h
  | .i2s => tI st fun x r => k (i.1 + 1) L (.int x.toInt16.toInt32 :: r) h
  | .dup => match st with
    | v :: r => bif aok1 v then k (i.1 + 1) L (v :: v :: r) h else none
    | _ => none
  | .dup2 => match st with
    | v :: w :: r => bif aok1 v && aok1 w then k (i.1 + 1) L (v :: w :: v :: w :: r) h else none
    | _ => none
  | .dup_x1 => match st with
    | v :: w :: r => bif aok1 v && aok1 w then k (i.1 + 1) L (v :: w :: v :: r) h else none
    | _ => none
  | .pop => match st with
    | v :: r => bif aok1 v then k (i.1 + 1) L r h else none
    | _ => none
  | .goto _ => k i.2.2.2.1 L st h
  | .ifCond c _ => tI st fun x r => match c with
    | .eq => if x = 0 then k i.2.2.2.1 L r h else k (i.1 + 3) L r h
    | .ne => if x = 0 then k (i.1 + 3) L r h else k i.2.2.2.1 L r h
    | .lt => if x < 0 then k i.2.2.2.1 L r h else k (i.1 + 3) L r h
    | .ge => if 0 ≤ x then k i.2.2.2.1 L r h else k (i.1 + 3) L r h
    | .gt => if 0 < x then k i.2.2.2.1 L r h else k (i.1 + 3) L r h
    | .le => if x ≤ 0 then k i.2.2.2.1 L r h else k (i.1 + 3) L r h
  | .if_icmp c _ => tII st fun x y r => match c with
    | .eq => if x = y then k i.2.2.2.1 L r h else k (i.1 + 3) L r h
    | .ne => if x = y then k (i.1 + 3) L r h else k i.2.2.2.1 L r h
    | .lt => if x < y then k i.2.2.2.1 L r h else k (i.1 + 3) L r h
    | .ge => if y ≤ x then k i.2.2.2.1 L r h else k (i.1 + 3) L r h
    | .gt => if y < x then k i.2.2.2.1 L r h else k (i.1 + 3) L r h
    | .le => if x ≤ y then k i.2.2.2.1 L r h else k (i.1 + 3) L r h
  | .ifnull _ => match st with
    | .ref _ :: r => k (i.1 + 3) L r h
    | .null :: r => k i.2.2.2.1 L r h
    | _ => none
  | .ifnonnull _ => match st with
    | .ref _ :: r => k i.2.2.2.1 L r h
    | .null :: r => k (i.1 + 3) L r h
    | _ => none
  | .tableswitch d lo _ offs => tI st fun x r => asw x (fun o => k ((i.1 : Int) + o).toNat L r h) d lo offs.toList
  | .lookupswitch d ps => tI st fun x r => alw x (fun o => k ((i.1 : Int) + o).toNat L r h) d ps.toList
  | .getfield _ => match st with
    | .ref o :: r => aobj h o i.2.2.2.1 fun fs => match fs[i.2.2.2.2]? with
      | some v => k (i.1 + 3) L (v :: r) h
      | none => none
    | _ => none
  | .putfield _ => match st with
    | v :: .ref o :: r => aobj h o i.2.2.2.1 fun fs => bif (!((zT i.2.2.2.1 i.2.2.2.2).2.2.2) || (Nat.beq kind 2 && Nat.beq own i.2.2.2.1)) && aok (zY i.2.2.2.1 i.2.2.2.2) v && Nat.blt i.2.2.2.2 fs.length then k (i.1 + 3) L r (h.1.set o (.inr (i.2.2.2.1, fs.set i.2.2.2.2 v)), h.2) else none
    | _ => none
  | .getstatic _ => k (i.1 + 3) L (.retAddr 0 :: st) h
  | .arraylength => match st with
    | .ref o :: r => match h.1[o]? with
      | some (.inl (0, n, _)) => k (i.1 + 1) L (.int (Int32.ofNat n) :: r) h
      | some (.inl (1, n, _)) => k (i.1 + 1) L (.int (Int32.ofNat n) :: r) h
      | _ => none
    | .retAddr e :: r => match X e with
      | some (n, _) => k (i.1 + 1) L (.int (Int32.ofNat n) :: r) h
      | none => none
    | _ => none
  | .iaload => match st with
    | .int j :: .ref o :: r => aarI h o fun t n g => bif Nat.beq t 0 then (if j < 0 ∨ n ≤ j.toNatClampNeg then none else k (i.1 + 1) L (.int (g j.toNatClampNeg) :: r) h) else none
    | .int j :: .retAddr e :: r => match X e with
      | some (n, g) => if j < 0 ∨ n ≤ j.toNatClampNeg then none else k (i.1 + 1) L (.int (g j.toNatClampNeg) :: r) h
      | none => none
    | _ => none
  | .baload => match st with
    | .int j :: .ref o :: r => aarI h o fun t n g => bif Nat.beq t 2 || Nat.beq t 3 then (if j < 0 ∨ n ≤ j.toNatClampNeg then none else k (i.1 + 1) L (.int (g j.toNatClampNeg) :: r) h) else none
    | _ => none
  | .laload => match st with
    | .int j :: .ref o :: r => aarJ h o fun n g => if j < 0 ∨ n ≤ j.toNatClampNeg then none else k (i.1 + 1) L (.long (g j.toNatClampNeg) :: r) h
    | _ => none
  | .aaload => match st with
    | .int j :: .ref o :: r => aarR h o fun t n g => bif Nat.beq t 4 || Nat.beq t 5 then (if j < 0 ∨ n ≤ j.toNatClampNeg then none else k (i.1 + 1) L (arf (g j.toNatClampNeg) :: r) h) else none
    | _ => none
  | .iastore => match st with
    | .int x :: .int j :: .ref o :: r => aarI h o fun t n g => bif Nat.beq t 0 then (if j < 0 ∨ n ≤ j.toNatClampNeg then none else k (i.1 + 1) L r (h.1.set o (.inl (0, n, .inl (upd g j.toNatClampNeg x))), h.2)) else none
    | _ => none
  | .bastore => match st with
    | .int x :: .int j :: .ref o :: r => aarI h o fun t n g => match t with
      | 2 => if j < 0 ∨ n ≤ j.toNatClampNeg then none else k (i.1 + 1) L r (h.1.set o (.inl (2, n, .inl (upd g j.toNatClampNeg (x &&& 1)))), h.2)
      | 3 => if j < 0 ∨ n ≤ j.toNatClampNeg then none else k (i.1 + 1) L r (h.1.set o (.inl (3, n, .inl (upd g j.toNatClampNeg x.toInt8.toInt32))), h.2)
      | _ => none
    | _ => none
  | .lastore => match st with
    | .long x :: .int j :: .ref o :: r => aarJ h o fun n g => if j < 0 ∨ n ≤ j.toNatClampNeg then none else k (i.1 + 1) L r (h.1.set o (.inl (1, n, .inr (.inl (vp_updL g j.toNatClampNeg x)))), h.2)
    | _ => none
  | .aastore => match st with
    | .ref q :: .int j :: .ref o :: r => aarR h o fun t n g => bif Nat.beq t 4 then aobj h q 8 fun _ => (if j < 0 ∨ n ≤ j.toNatClampNeg then none else k (i.1 + 1) L r (h.1.set o (.inl (4, n, .inr (.inr (.inr (.inr (va_up g j.toNatClampNeg (some q))))))), h.2)) else none
    | _ => none
  | .new _ => k (i.1 + 3) L (.ref h.1.length :: st) (h.1 ++ [.inr (i.2.2.2.1, (List.range (zN i.2.2.2.1)).map (fun c => defaultValue (zY i.2.2.2.1 c)))], h.2 + zN i.2.2.2.1)
  | .newarray _ => tI st fun x r => if x < 0 ∨ 100000 < x then none else k (i.1 + 2) L (.ref h.1.length :: r) (h.1 ++ [.inl (i.2.2.2.1, x.toNatClampNeg, azero i.2.2.2.1)], h.2 + x.toNatClampNeg)
  | .anewarray _ => tI st fun x r => if x < 0 ∨ 100000 < x then none else k (i.1 + 3) L (.ref h.1.length :: r) (h.1 ++ [.inl (i.2.2.2.1, x.toNatClampNeg, .inr (.inr (.inr (.inr (fun _ => none)))))], h.2 + x.toNatClampNeg)
  | _ => none
/-- the first n of the stack as a call's arguments -/
def acut (n : Nat) (st : List Value) (f : List Value → List Value → Option aR) : Option aR := bif Nat.ble n st.length then f (st.take n).reverse (st.drop n) else none
/-- what a call gives back, and what goes on -/
def aback (d : Nat) (r : List Value) (callee : Nat → Option aR) (k : List Value → aH → Option aR) : Option aR := match d with
  | 0 => none
  | d' + 1 => bif Nat.ble (aws r) 8 then (match callee d' with
    | some q => k (q.1.toList ++ r) q.2
    | none => none) else none
def aent (Y : aM) (as : List Value) (f : Unit → Option aR) : Option aR := bif Nat.ble (aws as) Y.2.2.2.1 then f () else none
def aretI (ret : Option FieldType) (x : Int32) (h : aH) : Option aR := match ret with
  | some .int => some (some (.int x), h)
  | some .boolean => if x = 0 ∨ x = 1 then some (some (.int x), h) else none
  | _ => none
/-- Math's methods: their own rows -/
def amath (a d : Nat) (st : List Value) (k : List Value → Option aR) : Option aR := match d, a with
  | 0, _ => none
  | _ + 1, 1010 => tII st fun x y r => bif Nat.ble (aws r) 8 then k (.int (if x < y then y else x) :: r) else none
  | _ + 1, 1011 => tII st fun x y r => bif Nat.ble (aws r) 8 then k (.int (if y < x then y else x) :: r) else none
  | _ + 1, 1012 => tI st fun x r => bif Nat.ble (aws r) 8 then k (.int (if 0 ≤ x then x else 0 - x) :: r) else none
  | _ + 1, 1013 => tJJ st fun x y r => bif Nat.ble (aws r) 8 then k (.long (if y < x then x else y) :: r) else none
  | _ + 1, 1014 => tJJ st fun x y r => bif Nat.ble (aws r) 8 then k (.long (if y < x then y else x) :: r) else none
  | _, _ => none
/-- System.arraycopy, of bytes and of longs -/
def afit (f : Nat → Int32) (sp n : Nat) : Bool := (List.range n).all (fun i => fits .byte (.int (f (sp + i))))
def acopy (d : Nat) (st : List Value) (h : aH) (k : List Value → aH → Option aR) : Option aR := match d, st with
  | _ + 1, .int n :: .int dp :: .ref a :: .int sp :: .ref a0 :: r => bif Nat.ble (aws r) 8 then (match h.1[a0]?, h.1[a]? with
    | some (.inl (3, n0, .inl f)), some (.inl (3, n1, .inl g)) => if sp < 0 ∨ dp < 0 ∨ n < 0 ∨ n0 < sp.toNatClampNeg + n.toNatClampNeg ∨ n1 < dp.toNatClampNeg + n.toNatClampNeg then none else bif afit f sp.toNatClampNeg n.toNatClampNeg then k r (h.1.set a (.inl (3, n1, .inl (va_cpy f g sp.toNatClampNeg dp.toNatClampNeg n.toNatClampNeg))), h.2) else none
    | some (.inl (1, n0, .inr (.inl f))), some (.inl (1, n1, .inr (.inl g))) => if sp < 0 ∨ dp < 0 ∨ n < 0 ∨ n0 < sp.toNatClampNeg + n.toNatClampNeg ∨ n1 < dp.toNatClampNeg + n.toNatClampNeg then none else k r (h.1.set a (.inl (1, n1, .inr (.inl (va_cpy f g sp.toNatClampNeg dp.toNatClampNeg n.toNatClampNeg)))), h.2)
    | _, _ => none) else none
  | _, _ => none
def arun (X : aX) : Nat → Nat → aM → Nat → aL → List Value → aH → Option aR
  | 0, _, _, _, _, _, _ => none
  | n + 1, d, M, pc, L, st, h => match aF pc M.2.2.2.2.2.2.2 with
    | none => none
    | some i => match i.2.1 with
      | .ireturn => (match st with
        | [.int x] => aretI M.2.2.2.2.1 x h
        | _ => none)
      | .lreturn => (match st, M.2.2.2.2.1 with
        | [.long x], some .long => some (some (.long x), h)
        | _, _ => none)
      | .areturn => (match st, M.2.2.2.2.1 with
        | [.ref x], some (.object _) => some (some (.ref x), h)
        | _, _ => none)
      | .return_ => (match st, M.2.2.2.2.1 with
        | [], none => some (none, h)
        | _, _ => none)
      | .invokestatic _ => bif Nat.beq i.2.2.2.1 1002 then acopy d st h (fun st' h' => arun X n d M (i.1 + 3) L st' h') else bif Nat.ble 1010 i.2.2.2.1 then amath i.2.2.2.1 d st (fun st' => arun X n d M (i.1 + 3) L st' h) else (match zmt[i.2.2.2.1]? with
        | some Y => bif Nat.beq Y.2.2.2.2.2.2.1 1 then acut Y.2.2.2.2.2.1 st fun as r => aent Y as fun _ => aback d r (fun d' => arun X n d' Y 0 (aE Y.2.2.2.1 as) [] h) (fun st' h' => arun X n d M (i.1 + 3) L st' h') else none
        | none => none)
      | .invokevirtual _ => (match zmt[i.2.2.2.1]? with
        | some Y => bif Nat.beq Y.2.2.2.2.2.2.1 0 then acut Y.2.2.2.2.2.1 st fun as r => (match r with
          | .ref o :: r' => aobj h o Y.1 fun _ => aent Y (.ref o :: as) fun _ => aback d r' (fun d' => arun X n d' Y 0 (aE Y.2.2.2.1 (.ref o :: as)) [] h) (fun st' h' => arun X n d M (i.1 + 3) L st' h')
          | _ => none) else none
        | none => none)
      | .invokespecial _ => bif Nat.beq i.2.2.2.1 1000 then (match st with
          | .ref _ :: r' => aback d r' (fun _ => some (none, h)) (fun st' h' => arun X n d M (i.1 + 3) L st' h')
          | _ => none) else (match zmt[i.2.2.2.1]? with
        | some Y => bif Nat.beq Y.2.2.2.2.2.2.1 2 then acut Y.2.2.2.2.2.1 st fun as r => (match r with
          | .ref o :: r' => aent Y (.ref o :: as) fun _ => aback d r' (fun d' => arun X n d' Y 0 (aE Y.2.2.2.1 (.ref o :: as)) [] h) (fun st' h' => arun X n d M (i.1 + 3) L st' h')
          | _ => none) else none
        | none => none)
      | _ => aX1 X M.1 M.2.2.2.2.2.2.1 (arun X n d M) i L st h
end
section
-- ===== what our machine does, the machine does: one row an instruction =====
def acv (b0 : Nat) (ea : Nat → Nat) (v : Value) : Value := match v with
  | .ref k => .ref (b0 + k)
  | .retAddr x => .ref (ea x)
  | v => v
def acA (b0 : Nat) (x : vp_A) : vp_A := match x with
  | (n, .inr (.inr (.inr (.inr f)))) => (n, .inr (.inr (.inr (.inr (fun i => (f i).map (fun k => b0 + k))))))
  | x => x
def acc (b0 : Nat) (ea : Nat → Nat) (cA : Nat → ClassId) (x : aC) : va_E := match x with
  | .inl (t, y) => .inl (cA t, acA b0 y)
  | .inr (ci, fs) => .inr (ci, fs.map (acv b0 ea))
def awd (b0 : Nat) (ea : Nat → Nat) (cA : Nat → ClassId) (σ : List aC) : va_W := σ.mapIdx (fun k x => (b0 + k, acc b0 ea cA x))
theorem awd_get {b0 : Nat} {ea : Nat → Nat} {cA : Nat → ClassId} {σ : List aC} {k : Nat} {x : aC} (h : σ[k]? = some x) : (awd b0 ea cA σ)[k]? = some (b0 + k, acc b0 ea cA x) := by
  simp [awd, List.getElem?_mapIdx, h]
theorem awd_set {b0 : Nat} {ea : Nat → Nat} {cA : Nat → ClassId} {σ : List aC} (k : Nat) (x : aC) : (awd b0 ea cA σ).set k (b0 + k, acc b0 ea cA x) = awd b0 ea cA (σ.set k x) := by
  apply List.ext_getElem?
  intro i
  simp only [awd, List.getElem?_set, List.getElem?_mapIdx, List.length_mapIdx]
  by_cases h : k = i
  · subst h
    by_cases h2 : k < σ.length
    · simp [h2]
    · simp [h2]
  · simp [h]
theorem awd_push {b0 : Nat} {ea : Nat → Nat} {cA : Nat → ClassId} {σ : List aC} (x : aC) : awd b0 ea cA (σ ++ [x]) = awd b0 ea cA σ ++ [(b0 + σ.length, acc b0 ea cA x)] := by
  simp [awd, List.mapIdx_append]
theorem awd_in {b0 : Nat} {ea : Nat → Nat} {cA : Nat → ClassId} {σ : List aC} {k : Nat} {q : Nat × va_E} (h : (awd b0 ea cA σ)[k]? = some q) : q.1 = b0 + k := by
  simp only [awd, List.getElem?_mapIdx, Option.map_eq_some_iff] at h
  obtain ⟨x, -, rfl⟩ := h
  rfl
theorem awd_D {b0 : Nat} {ea : Nat → Nat} {cA : Nat → ClassId} {σ : List aC} : va_D (fun q => b0 ≤ q) (awd b0 ea cA σ) :=
  ⟨fun i j p q hi hj he => by rw [awd_in hi, awd_in hj] at he; omega, fun k q hk => by show b0 ≤ q.1; rw [awd_in hk]; exact Nat.le_add_right _ _⟩
abbrev atys (cA : Nat → ClassId) : List (ClassId × FieldType) := [(cA 0, .int), (cA 1, .long), (cA 2, .boolean), (cA 3, .byte), (cA 4, .object "AcresPaid$Season"), (cA 5, .array .int)]
/-- what is known of the tables and of what lies outside our cells -/
def aKX (D : va_G) (cA : Nat → ClassId) (ea : Nat → Nat) (b0 : Nat) (X : aX) (U : State) : Prop :=
  va_K D zCl (atys cA) U ∧ (∀ (x n : Nat) (f : Nat → Int32), X x = some (n, f) → va_T .int (ea x) n (fun j => .int (f j)) (fun q => b0 ≤ q) U U.heap) ∧
  va_Z "AcresPaid" "ABOVE" "[I" (.ref (ea 0)) (fun q => b0 ≤ q) U U.heap ∧
  (∀ q ∈ zmcp, q.2.2.2.1 ≠ 0 → q.2.2.1 ≤ 1000 → va_Nw (.methodLinkNest (zCN q.1) q.2.1 (zyn q.2.2.1) "AcresPaid") U) ∧
  va_Nw (.fieldLinkNest "AcresPaid$Register" 49 "AcresPaid" "ABOVE" "[I" "AcresPaid") U ∧ va_AO "AcresPaid$Season" U ∧ (Cond.arrayOver (.array .int)).before #[] U = true
theorem aKX_go {D : va_G} {cA : Nat → ClassId} {ea : Nat → Nat} {b0 : Nat} {X : aX} {s U : State} (h : aKX D cA ea b0 X s) (hW : s.WarmedH U.vm) (hq : ∀ a : Nat, a < s.heap.size → ¬ b0 ≤ a → U.heap[a]? = s.heap[a]?) : aKX D cA ea b0 X U := by
  obtain ⟨h1, h2, h3, h4, h5, h6, h7⟩ := h
  exact ⟨h1.moved hW.alike, fun x n f e => ((h2 x n f e).moved hW.alike).kept hq, (h3.moved hW.alike).kept hq, fun q a b d => va_Nw.warmM hW (h4 q a b d), va_Nw.warmF hW h5, h6.moved hW.alike, over_moved hW.alike h7⟩
/-- the locals -/
def alR (b0 : Nat) (ea : Nat → Nat) (ls : Array Slot) (nL : Nat) (L : aL) : Prop := L.length = nL ∧ ls.size = nL ∧ lv_wf ls ∧ ∀ (i : Nat) (v : Value), aG L i = some v → ls[i]? = some (.val (acv b0 ea v))
abbrev aGm : Type := Program × Launch × Env × Room × State × MethodId × Array Value × List Frame × Method × Code × (State → Prop) × ByteArray × Nat × Nat × Nat × Nat × Nat × Nat × va_G × (Nat → ClassId) × (Nat → Nat) × aX

def aSW (Γ : aGm) (pc : Nat) (L : aL) (st : List Value) (h : aH) : Prop := match Γ with
  | (p, l, e, R, s, m, args, below, meth, c, Q, cc, nL, b0, n0, u0, own, kind, D, cA, ea, X) => ∀ (H : Heap) (locs : List Loc) (ls : Array Slot) (cells slots : Nat), n0 + cells = h.1.length → u0 + slots = h.2 → va_P D zCl (awd b0 ea cA h.1) H → va_S (fun q => b0 ≤ q) s.heap H locs → alR b0 ea ls nL L → W p l e R s m args below meth c H locs cells slots Q (F0 m pc ls (st.map (acv b0 ea)))
def aCF (Γ : aGm) : Prop := match Γ with
  | (p, l, e, R, s, m, args, below, meth, c, Q, cc, nL, b0, n0, u0, own, kind, D, cA, ea, X) => p.tables.exec = Jvm.exec ∧ c.code = cc ∧ c.maxLocals = nL ∧ s.vm.findClass (zCN own) = some m.cls ∧ (∀ w ∈ zW, w.before args s = true) ∧ aKX D cA ea b0 X s ∧ s.heap.size = b0 + n0 ∧ (kind = 2 → meth.name = "<init>")
def aDC (Γ : aGm) (pc : Nat) (i : Instr) (n : Nat) : Prop := match Γ with
  | (p, l, e, R, s, m, args, below, meth, c, Q, cc, nL, b0, n0, u0, own, kind, D, cA, ea, X) => decode cc pc = .ok (i, n)
/-- the room holds so many cells and slots as h has -/
def aRM (Γ : aGm) (h : aH) : Prop := match Γ with
  | (p, l, e, R, s, m, args, below, meth, c, Q, cc, nL, b0, n0, u0, own, kind, D, cA, ea, X) => h.1.length ≤ n0 + R.cells ∧ h.2 ≤ u0 + R.slots
def aown (Γ : aGm) : Nat := match Γ with
  | (p, l, e, R, s, m, args, below, meth, c, Q, cc, nL, b0, n0, u0, own, kind, D, cA, ea, X) => own
def akind (Γ : aGm) : Nat := match Γ with
  | (p, l, e, R, s, m, args, below, meth, c, Q, cc, nL, b0, n0, u0, own, kind, D, cA, ea, X) => kind
def aXX (Γ : aGm) : aX := match Γ with
  | (p, l, e, R, s, m, args, below, meth, c, Q, cc, nL, b0, n0, u0, own, kind, D, cA, ea, X) => X
section AZ
variable {Γ : aGm} {pc : Nat} {L : aL} {r : List Value} {h : aH}
theorem s_null  (C : aCF Γ) (hd : aDC Γ pc .aconst_null 1) (k : aSW Γ (pc + 1) L (.null :: r) h) : aSW Γ pc L r h := by
  obtain ⟨p, l, e, R, s, m, args, below, meth, c, Q, cc, nL, b0, n0, u0, own, kind, D, cA, ea, X⟩ := Γ
  intro H locs ls cells slots e1 e2 hP hS hl
  obtain ⟨hx, hb, hml, hown, hts, hKX, hsz, hki⟩ := C
  exact lv_null hx hb hd (k H locs ls cells slots e1 e2 hP hS hl)
theorem s_iconst {z : Int} (C : aCF Γ) (hd : aDC Γ pc (.iconst z) 1) (k : aSW Γ (pc + 1) L (.int (Int32.ofInt z) :: r) h) : aSW Γ pc L r h := by
  obtain ⟨p, l, e, R, s, m, args, below, meth, c, Q, cc, nL, b0, n0, u0, own, kind, D, cA, ea, X⟩ := Γ
  intro H locs ls cells slots e1 e2 hP hS hl
  obtain ⟨hx, hb, hml, hown, hts, hKX, hsz, hki⟩ := C
  exact lv_iconst hx hb hd rfl (k H locs ls cells slots e1 e2 hP hS hl)
theorem s_bipush {z : Int} (C : aCF Γ) (hd : aDC Γ pc (.bipush z) 2) (k : aSW Γ (pc + 2) L (.int (Int8.ofInt z).toInt32 :: r) h) : aSW Γ pc L r h := by
  obtain ⟨p, l, e, R, s, m, args, below, meth, c, Q, cc, nL, b0, n0, u0, own, kind, D, cA, ea, X⟩ := Γ
  intro H locs ls cells slots e1 e2 hP hS hl
  obtain ⟨hx, hb, hml, hown, hts, hKX, hsz, hki⟩ := C
  exact lv_bipush hx hb hd rfl (k H locs ls cells slots e1 e2 hP hS hl)
theorem s_sipush {z : Int} (C : aCF Γ) (hd : aDC Γ pc (.sipush z) 3) (k : aSW Γ (pc + 3) L (.int (Int16.ofInt z).toInt32 :: r) h) : aSW Γ pc L r h := by
  obtain ⟨p, l, e, R, s, m, args, below, meth, c, Q, cc, nL, b0, n0, u0, own, kind, D, cA, ea, X⟩ := Γ
  intro H locs ls cells slots e1 e2 hP hS hl
  obtain ⟨hx, hb, hml, hown, hts, hKX, hsz, hki⟩ := C
  exact lv_sipush hx hb hd rfl (k H locs ls cells slots e1 e2 hP hS hl)
theorem s_lconst {z : Fin 2} (C : aCF Γ) (hd : aDC Γ pc (.lconst z) 1) (k : aSW Γ (pc + 1) L (.long (Int64.ofNat z) :: r) h) : aSW Γ pc L r h := by
  obtain ⟨p, l, e, R, s, m, args, below, meth, c, Q, cc, nL, b0, n0, u0, own, kind, D, cA, ea, X⟩ := Γ
  intro H locs ls cells slots e1 e2 hP hS hl
  obtain ⟨hx, hb, hml, hown, hts, hKX, hsz, hki⟩ := C
  exact lv_lconst hx hb hd rfl (k H locs ls cells slots e1 e2 hP hS hl)
theorem s_ldc {ix : Nat} {v : Int32} (hw : Cond.constant (zCN (aown Γ)) ix v ∈ zW) (C : aCF Γ) (hd : aDC Γ pc (.ldc ix) 2) (k : aSW Γ (pc + 2) L (.int v :: r) h) : aSW Γ pc L r h := by
  obtain ⟨p, l, e, R, s, m, args, below, meth, c, Q, cc, nL, b0, n0, u0, own, kind, D, cA, ea, X⟩ := Γ
  intro H locs ls cells slots e1 e2 hP hS hl
  obtain ⟨hx, hb, hml, hown, hts, hKX, hsz, hki⟩ := C
  exact lv_ldc hx hb hown (hts _ hw) hd (k H locs ls cells slots e1 e2 hP hS hl)
theorem s_ldcw {ix : Nat} {v : Int32} (hw : Cond.constant (zCN (aown Γ)) ix v ∈ zW) (C : aCF Γ) (hd : aDC Γ pc (.ldc_w ix) 3) (k : aSW Γ (pc + 3) L (.int v :: r) h) : aSW Γ pc L r h := by
  obtain ⟨p, l, e, R, s, m, args, below, meth, c, Q, cc, nL, b0, n0, u0, own, kind, D, cA, ea, X⟩ := Γ
  intro H locs ls cells slots e1 e2 hP hS hl
  obtain ⟨hx, hb, hml, hown, hts, hKX, hsz, hki⟩ := C
  exact lv_ldcw hx hb hown (hts _ hw) hd (k H locs ls cells slots e1 e2 hP hS hl)
theorem s_ldc2 {ix : Nat} {v : Int64} (hw : Cond.constantLong (zCN (aown Γ)) ix v ∈ zW) (C : aCF Γ) (hd : aDC Γ pc (.ldc2_w ix) 3) (k : aSW Γ (pc + 3) L (.long v :: r) h) : aSW Γ pc L r h := by
  obtain ⟨p, l, e, R, s, m, args, below, meth, c, Q, cc, nL, b0, n0, u0, own, kind, D, cA, ea, X⟩ := Γ
  intro H locs ls cells slots e1 e2 hP hS hl
  obtain ⟨hx, hb, hml, hown, hts, hKX, hsz, hki⟩ := C
  exact lv_ldc2 hx hb hown (hts _ hw) hd (k H locs ls cells slots e1 e2 hP hS hl)
theorem s_iloadn {z : Fin 4} {x : Int32} (hg : aG L z = some (.int x)) (C : aCF Γ) (hd : aDC Γ pc (.iload_n z) 1) (k : aSW Γ (pc + 1) L (.int x :: r) h) : aSW Γ pc L r h := by
  obtain ⟨p, l, e, R, s, m, args, below, meth, c, Q, cc, nL, b0, n0, u0, own, kind, D, cA, ea, X⟩ := Γ
  intro H locs ls cells slots e1 e2 hP hS hl
  obtain ⟨hx, hb, hml, hown, hts, hKX, hsz, hki⟩ := C
  exact lv_iload_n hx hb hd rfl (hl.2.2.2 _ _ hg) (k H locs ls cells slots e1 e2 hP hS hl)
theorem s_iload {z : Nat} {x : Int32} (hg : aG L z = some (.int x)) (C : aCF Γ) (hd : aDC Γ pc (.iload z) 2) (k : aSW Γ (pc + 2) L (.int x :: r) h) : aSW Γ pc L r h := by
  obtain ⟨p, l, e, R, s, m, args, below, meth, c, Q, cc, nL, b0, n0, u0, own, kind, D, cA, ea, X⟩ := Γ
  intro H locs ls cells slots e1 e2 hP hS hl
  obtain ⟨hx, hb, hml, hown, hts, hKX, hsz, hki⟩ := C
  exact lv_iload hx hb hd (hl.2.2.2 _ _ hg) (k H locs ls cells slots e1 e2 hP hS hl)
theorem s_lloadn {z : Fin 4} {x : Int64} (hg : aG L z = some (.long x)) (C : aCF Γ) (hd : aDC Γ pc (.lload_n z) 1) (k : aSW Γ (pc + 1) L (.long x :: r) h) : aSW Γ pc L r h := by
  obtain ⟨p, l, e, R, s, m, args, below, meth, c, Q, cc, nL, b0, n0, u0, own, kind, D, cA, ea, X⟩ := Γ
  intro H locs ls cells slots e1 e2 hP hS hl
  obtain ⟨hx, hb, hml, hown, hts, hKX, hsz, hki⟩ := C
  exact lv_lload_n hx hb hd rfl (hl.2.2.2 _ _ hg) (k H locs ls cells slots e1 e2 hP hS hl)
theorem s_lload {z : Nat} {x : Int64} (hg : aG L z = some (.long x)) (C : aCF Γ) (hd : aDC Γ pc (.lload z) 2) (k : aSW Γ (pc + 2) L (.long x :: r) h) : aSW Γ pc L r h := by
  obtain ⟨p, l, e, R, s, m, args, below, meth, c, Q, cc, nL, b0, n0, u0, own, kind, D, cA, ea, X⟩ := Γ
  intro H locs ls cells slots e1 e2 hP hS hl
  obtain ⟨hx, hb, hml, hown, hts, hKX, hsz, hki⟩ := C
  exact lv_lload hx hb hd (hl.2.2.2 _ _ hg) (k H locs ls cells slots e1 e2 hP hS hl)
theorem s_aloadn_ref {z : Fin 4} {x : Nat} (hg : aG L z = some (.ref x)) (C : aCF Γ) (hd : aDC Γ pc (.aload_n z) 1) (k : aSW Γ (pc + 1) L (.ref x :: r) h) : aSW Γ pc L r h := by
  obtain ⟨p, l, e, R, s, m, args, below, meth, c, Q, cc, nL, b0, n0, u0, own, kind, D, cA, ea, X⟩ := Γ
  intro H locs ls cells slots e1 e2 hP hS hl
  obtain ⟨hx, hb, hml, hown, hts, hKX, hsz, hki⟩ := C
  exact lv_aload_n hx hb hd rfl (hl.2.2.2 _ _ hg) (k H locs ls cells slots e1 e2 hP hS hl)
theorem s_aload_ref {z : Nat} {x : Nat} (hg : aG L z = some (.ref x)) (C : aCF Γ) (hd : aDC Γ pc (.aload z) 2) (k : aSW Γ (pc + 2) L (.ref x :: r) h) : aSW Γ pc L r h := by
  obtain ⟨p, l, e, R, s, m, args, below, meth, c, Q, cc, nL, b0, n0, u0, own, kind, D, cA, ea, X⟩ := Γ
  intro H locs ls cells slots e1 e2 hP hS hl
  obtain ⟨hx, hb, hml, hown, hts, hKX, hsz, hki⟩ := C
  exact lv_aload hx hb hd (hl.2.2.2 _ _ hg) (k H locs ls cells slots e1 e2 hP hS hl)
theorem s_aloadn_ext {z : Fin 4} {x : Nat} (hg : aG L z = some (.retAddr x)) (C : aCF Γ) (hd : aDC Γ pc (.aload_n z) 1) (k : aSW Γ (pc + 1) L (.retAddr x :: r) h) : aSW Γ pc L r h := by
  obtain ⟨p, l, e, R, s, m, args, below, meth, c, Q, cc, nL, b0, n0, u0, own, kind, D, cA, ea, X⟩ := Γ
  intro H locs ls cells slots e1 e2 hP hS hl
  obtain ⟨hx, hb, hml, hown, hts, hKX, hsz, hki⟩ := C
  exact lv_aload_n hx hb hd rfl (hl.2.2.2 _ _ hg) (k H locs ls cells slots e1 e2 hP hS hl)
theorem s_aload_ext {z : Nat} {x : Nat} (hg : aG L z = some (.retAddr x)) (C : aCF Γ) (hd : aDC Γ pc (.aload z) 2) (k : aSW Γ (pc + 2) L (.retAddr x :: r) h) : aSW Γ pc L r h := by
  obtain ⟨p, l, e, R, s, m, args, below, meth, c, Q, cc, nL, b0, n0, u0, own, kind, D, cA, ea, X⟩ := Γ
  intro H locs ls cells slots e1 e2 hP hS hl
  obtain ⟨hx, hb, hml, hown, hts, hKX, hsz, hki⟩ := C
  exact lv_aload hx hb hd (hl.2.2.2 _ _ hg) (k H locs ls cells slots e1 e2 hP hS hl)
theorem s_aloadn_nul {z : Fin 4} (hg : aG L z = some (.null)) (C : aCF Γ) (hd : aDC Γ pc (.aload_n z) 1) (k : aSW Γ (pc + 1) L (.null :: r) h) : aSW Γ pc L r h := by
  obtain ⟨p, l, e, R, s, m, args, below, meth, c, Q, cc, nL, b0, n0, u0, own, kind, D, cA, ea, X⟩ := Γ
  intro H locs ls cells slots e1 e2 hP hS hl
  obtain ⟨hx, hb, hml, hown, hts, hKX, hsz, hki⟩ := C
  exact lv_aload_nN hx hb hd rfl (hl.2.2.2 _ _ hg) (k H locs ls cells slots e1 e2 hP hS hl)
theorem s_aload_nul {z : Nat} (hg : aG L z = some (.null)) (C : aCF Γ) (hd : aDC Γ pc (.aload z) 2) (k : aSW Γ (pc + 2) L (.null :: r) h) : aSW Γ pc L r h := by
  obtain ⟨p, l, e, R, s, m, args, below, meth, c, Q, cc, nL, b0, n0, u0, own, kind, D, cA, ea, X⟩ := Γ
  intro H locs ls cells slots e1 e2 hP hS hl
  obtain ⟨hx, hb, hml, hown, hts, hKX, hsz, hki⟩ := C
  exact lv_aloadN hx hb hd (hl.2.2.2 _ _ hg) (k H locs ls cells slots e1 e2 hP hS hl)
theorem aG_lt {L : aL} {i : Nat} {v : Value} (h : aG L i = some v) : L[i]? = some (some v) := by
  unfold aG at h
  split at h
  · rename_i w hw
    cases h
    exact hw
  · cases h
theorem aG_of {L : aL} {i : Nat} {v : Value} (h : L[i]? = some (some v)) : aG L i = some v := by
  simp [aG, h]
/-- the listed values of the locals -/
def alst (b0 : Nat) (ea : Nat → Nat) (L : aL) : List (Nat × Value) := (List.range L.length).filterMap (fun i => (aG L i).map (fun v => (i, acv b0 ea v)))
theorem alst_mem {b0 : Nat} {ea : Nat → Nat} {L : aL} {i : Nat} {v : Value} (h : aG L i = some v) : (i, acv b0 ea v) ∈ alst b0 ea L := by
  refine List.mem_filterMap.mpr ⟨i, List.mem_range.mpr ?_, by rw [h]; rfl⟩
  exact (List.getElem?_eq_some_iff.mp (aG_lt h)).1
theorem alst_has {b0 : Nat} {ea : Nat → Nat} {ls : Array Slot} {nL : Nat} {L : aL} (h : alR b0 ea ls nL L) : lv_has ls nL (alst b0 ea L) := by
  refine ⟨h.2.1, h.2.2.1, fun q hq => ?_⟩
  obtain ⟨i, -, hi⟩ := List.mem_filterMap.mp hq
  obtain ⟨v, hv, rfl⟩ := Option.map_eq_some_iff.mp hi
  exact h.2.2.2 i v hv
theorem aclr_len {L : aL} {i : Nat} : (aclr L i).length = L.length := by
  unfold aclr
  split
  · rfl
  · split
    · exact List.length_set
    · exact List.length_set
    · rfl
theorem acv_cat {b0 : Nat} {ea : Nat → Nat} (v : Value) : (acv b0 ea v).category = v.category := by cases v <;> rfl
/-- what is left of the locals behind a store at i -/
theorem aclr_get {L : aL} {i j : Nat} {v : Value} (h : (aclr L i)[j]? = some (some v)) : L[j]? = some (some v) ∧ ¬ (j + 1 = i ∧ v.category = 2) := by
  unfold aclr at h
  split at h
  · exact ⟨h, fun q => absurd q.1 (by omega)⟩
  · rename_i k
    have hs : ∀ (h : (L.set k none)[j]? = some (some v)), L[j]? = some (some v) ∧ ¬ (j + 1 = k + 1 ∧ v.category = 2) := by
      intro h
      rw [List.getElem?_set] at h
      by_cases e : k = j
      · subst e
        rw [if_pos rfl] at h
        split at h
        · cases h
        · cases h
      · rw [if_neg e] at h
        exact ⟨h, fun q => e (by omega)⟩
    split at h
    · exact hs h
    · exact hs h
    · rename_i hn1 hn2
      refine ⟨h, fun q => ?_⟩
      obtain ⟨q1, q2⟩ := q
      have : j = k := by omega
      subst this
      cases v with
      | long x => exact hn1 x h
      | double x => exact hn2 x h
      | _ => simp [Value.category] at q2
theorem alR_S1 {b0 : Nat} {ea : Nat → Nat} {ls ls' : Array Slot} {nL i : Nat} {L : aL} {v : Value} (h : alR b0 ea ls nL L) (hi : i < L.length) (hc : v.category = 1)
    (h' : lv_has ls' nL ((i, acv b0 ea v) :: (alst b0 ea L).filter (fun q => !(q.1 == i) && !(q.1 + 1 == i && q.2.category == 2)))) : alR b0 ea ls' nL (aS1 L i v) := by
  refine ⟨by rw [aS1, List.length_set, aclr_len]; exact h.1, h'.1, h'.2.1, fun j w hw => ?_⟩
  have hw := aG_lt hw
  rw [aS1, List.getElem?_set] at hw
  by_cases e : i = j
  · subst e
    rw [if_pos rfl] at hw
    split at hw
    · cases hw
      exact h'.2.2 _ List.mem_cons_self
    · cases hw
  · rw [if_neg e] at hw
    obtain ⟨g1, g2⟩ := aclr_get hw
    refine h'.2.2 (j, acv b0 ea w) (List.mem_cons_of_mem _ (List.mem_filter.mpr ⟨alst_mem (aG_of g1), ?_⟩))
    simp only [acv_cat]
    have e1 : (j == i) = false := by simp; omega
    rw [e1]
    by_cases e2 : j + 1 = i
    · have : ¬ w.category = 2 := fun q => g2 ⟨e2, q⟩
      simp [this]
    · simp [e2]
theorem alR_S2 {b0 : Nat} {ea : Nat → Nat} {ls ls' : Array Slot} {nL i : Nat} {L : aL} {v : Value} (h : alR b0 ea ls nL L) (hi : i + 1 < L.length)
    (h' : lv_has ls' nL ((i, acv b0 ea v) :: (alst b0 ea L).filter (fun q => !(q.1 == i) && (!(q.1 == i + 1) && !(q.1 + 1 == i && q.2.category == 2))))) : alR b0 ea ls' nL (aS2 L i v) := by
  refine ⟨by rw [aS2, List.length_set, List.length_set, aclr_len]; exact h.1, h'.1, h'.2.1, fun j w hw => ?_⟩
  have hw := aG_lt hw
  rw [aS2, List.getElem?_set] at hw
  by_cases e0 : i + 1 = j
  · rw [if_pos e0] at hw
    split at hw
    · cases hw
    · cases hw
  rw [if_neg e0, List.getElem?_set] at hw
  by_cases e : i = j
  · subst e
    rw [if_pos rfl] at hw
    split at hw
    · cases hw
      exact h'.2.2 _ List.mem_cons_self
    · cases hw
  · rw [if_neg e] at hw
    obtain ⟨g1, g2⟩ := aclr_get hw
    refine h'.2.2 (j, acv b0 ea w) (List.mem_cons_of_mem _ (List.mem_filter.mpr ⟨alst_mem (aG_of g1), ?_⟩))
    simp only [acv_cat]
    have e1 : (j == i) = false := by simp; omega
    have e3 : (j == i + 1) = false := by simp; omega
    rw [e1, e3]
    by_cases e2 : j + 1 = i
    · have : ¬ w.category = 2 := fun q => g2 ⟨e2, q⟩
      simp [this]
    · simp [e2]
theorem s_istoren {z : Fin 4} {x : Int32} (hz : (z : Nat) < L.length) (C : aCF Γ) (hd : aDC Γ pc (.istore_n z) 1) (k : aSW Γ (pc + 1) (aS1 L z (.int x)) r h) : aSW Γ pc L (.int x :: r) h := by
  obtain ⟨p, l, e, R, s, m, args, below, meth, c, Q, cc, nL, b0, n0, u0, own, kind, D, cA, ea, X⟩ := Γ
  intro H locs ls cells slots e1 e2 hP hS hl
  obtain ⟨hx, hb, hml, hown, hts, hKX, hsz, hki⟩ := C
  exact lv_istore_n hx hb hd rfl (alst_has hl) (by rw [← hl.1]; exact hz) rfl (fun ls' hl' => k H locs ls' cells slots e1 e2 hP hS (alR_S1 (v := .int x) hl hz rfl hl'))
theorem s_astoren {z : Fin 4} {x : Nat} (hz : (z : Nat) < L.length) (C : aCF Γ) (hd : aDC Γ pc (.astore_n z) 1) (k : aSW Γ (pc + 1) (aS1 L z (.ref x)) r h) : aSW Γ pc L (.ref x :: r) h := by
  obtain ⟨p, l, e, R, s, m, args, below, meth, c, Q, cc, nL, b0, n0, u0, own, kind, D, cA, ea, X⟩ := Γ
  intro H locs ls cells slots e1 e2 hP hS hl
  obtain ⟨hx, hb, hml, hown, hts, hKX, hsz, hki⟩ := C
  exact lv_astore_n hx hb hd rfl (alst_has hl) (by rw [← hl.1]; exact hz) rfl (fun ls' hl' => k H locs ls' cells slots e1 e2 hP hS (alR_S1 (v := .ref x) hl hz rfl hl'))
theorem s_astoreNn {z : Fin 4} (hz : (z : Nat) < L.length) (C : aCF Γ) (hd : aDC Γ pc (.astore_n z) 1) (k : aSW Γ (pc + 1) (aS1 L z .null) r h) : aSW Γ pc L (.null :: r) h := by
  obtain ⟨p, l, e, R, s, m, args, below, meth, c, Q, cc, nL, b0, n0, u0, own, kind, D, cA, ea, X⟩ := Γ
  intro H locs ls cells slots e1 e2 hP hS hl
  obtain ⟨hx, hb, hml, hown, hts, hKX, hsz, hki⟩ := C
  exact lv_astore_nN hx hb hd rfl (alst_has hl) (by rw [← hl.1]; exact hz) rfl (fun ls' hl' => k H locs ls' cells slots e1 e2 hP hS (alR_S1 (v := .null) hl hz rfl hl'))
theorem s_lstoren {z : Fin 4} {x : Int64} (hz : (z : Nat) + 1 < L.length) (C : aCF Γ) (hd : aDC Γ pc (.lstore_n z) 1) (k : aSW Γ (pc + 1) (aS2 L z (.long x)) r h) : aSW Γ pc L (.long x :: r) h := by
  obtain ⟨p, l, e, R, s, m, args, below, meth, c, Q, cc, nL, b0, n0, u0, own, kind, D, cA, ea, X⟩ := Γ
  intro H locs ls cells slots e1 e2 hP hS hl
  obtain ⟨hx, hb, hml, hown, hts, hKX, hsz, hki⟩ := C
  exact lv_lstore_n hx hb hd rfl (alst_has hl) (by rw [← hl.1]; exact hz) rfl (fun ls' hl' => k H locs ls' cells slots e1 e2 hP hS (alR_S2 (v := .long x) hl hz hl'))
theorem s_istore {z : Nat} {x : Int32} (hz : (z : Nat) < L.length) (C : aCF Γ) (hd : aDC Γ pc (.istore z) 2) (k : aSW Γ (pc + 2) (aS1 L z (.int x)) r h) : aSW Γ pc L (.int x :: r) h := by
  obtain ⟨p, l, e, R, s, m, args, below, meth, c, Q, cc, nL, b0, n0, u0, own, kind, D, cA, ea, X⟩ := Γ
  intro H locs ls cells slots e1 e2 hP hS hl
  obtain ⟨hx, hb, hml, hown, hts, hKX, hsz, hki⟩ := C
  exact lv_istore hx hb hd (alst_has hl) (by rw [← hl.1]; exact hz) rfl (fun ls' hl' => k H locs ls' cells slots e1 e2 hP hS (alR_S1 (v := .int x) hl hz rfl hl'))
theorem s_astore {z : Nat} {x : Nat} (hz : (z : Nat) < L.length) (C : aCF Γ) (hd : aDC Γ pc (.astore z) 2) (k : aSW Γ (pc + 2) (aS1 L z (.ref x)) r h) : aSW Γ pc L (.ref x :: r) h := by
  obtain ⟨p, l, e, R, s, m, args, below, meth, c, Q, cc, nL, b0, n0, u0, own, kind, D, cA, ea, X⟩ := Γ
  intro H locs ls cells slots e1 e2 hP hS hl
  obtain ⟨hx, hb, hml, hown, hts, hKX, hsz, hki⟩ := C
  exact lv_astore hx hb hd (alst_has hl) (by rw [← hl.1]; exact hz) rfl (fun ls' hl' => k H locs ls' cells slots e1 e2 hP hS (alR_S1 (v := .ref x) hl hz rfl hl'))
theorem s_astoreN {z : Nat} (hz : (z : Nat) < L.length) (C : aCF Γ) (hd : aDC Γ pc (.astore z) 2) (k : aSW Γ (pc + 2) (aS1 L z .null) r h) : aSW Γ pc L (.null :: r) h := by
  obtain ⟨p, l, e, R, s, m, args, below, meth, c, Q, cc, nL, b0, n0, u0, own, kind, D, cA, ea, X⟩ := Γ
  intro H locs ls cells slots e1 e2 hP hS hl
  obtain ⟨hx, hb, hml, hown, hts, hKX, hsz, hki⟩ := C
  exact lv_astoreN hx hb hd (alst_has hl) (by rw [← hl.1]; exact hz) rfl (fun ls' hl' => k H locs ls' cells slots e1 e2 hP hS (alR_S1 (v := .null) hl hz rfl hl'))
theorem s_lstore {z : Nat} {x : Int64} (hz : (z : Nat) + 1 < L.length) (C : aCF Γ) (hd : aDC Γ pc (.lstore z) 2) (k : aSW Γ (pc + 2) (aS2 L z (.long x)) r h) : aSW Γ pc L (.long x :: r) h := by
  obtain ⟨p, l, e, R, s, m, args, below, meth, c, Q, cc, nL, b0, n0, u0, own, kind, D, cA, ea, X⟩ := Γ
  intro H locs ls cells slots e1 e2 hP hS hl
  obtain ⟨hx, hb, hml, hown, hts, hKX, hsz, hki⟩ := C
  exact lv_lstore hx hb hd (alst_has hl) (by rw [← hl.1]; exact hz) rfl (fun ls' hl' => k H locs ls' cells slots e1 e2 hP hS (alR_S2 (v := .long x) hl hz hl'))
theorem s_iinc {z : Nat} {n : Int} {x : Int32} (hg : aG L z = some (.int x)) (C : aCF Γ) (hd : aDC Γ pc (.iinc z n) 3) (k : aSW Γ (pc + 3) (aS1 L z (.int (x + Int32.ofInt n))) r h) : aSW Γ pc L r h := by
  obtain ⟨p, l, e, R, s, m, args, below, meth, c, Q, cc, nL, b0, n0, u0, own, kind, D, cA, ea, X⟩ := Γ
  intro H locs ls cells slots e1 e2 hP hS hl
  obtain ⟨hx, hb, hml, hown, hts, hKX, hsz, hki⟩ := C
  have hz : z < L.length := (List.getElem?_eq_some_iff.mp (aG_lt hg)).1
  obtain ⟨j, hj⟩ := List.getElem?_of_mem (alst_mem (b0 := b0) (ea := ea) hg)
  exact lv_iinc (x := x) (v := x + Int32.ofInt n) hx hb hd (alst_has hl) (k := j) hj rfl (by rw [← hl.1]; exact hz) rfl (fun ls' hl' => k H locs ls' cells slots e1 e2 hP hS (alR_S1 (v := .int (x + Int32.ofInt n)) hl hz rfl hl'))
theorem s_iadd {x : Int32} {y : Int32}  (C : aCF Γ) (hd : aDC Γ pc .iadd 1) (k : aSW Γ (pc + 1) L (.int (x + y) :: r) h) : aSW Γ pc L (.int y :: .int x :: r) h := by
  obtain ⟨p, l, e, R, s, m, args, below, meth, c, Q, cc, nL, b0, n0, u0, own, kind, D, cA, ea, X⟩ := Γ
  intro H locs ls cells slots e1 e2 hP hS hl
  obtain ⟨hx, hb, hml, hown, hts, hKX, hsz, hki⟩ := C
  exact lv_iadd hx hb hd (k H locs ls cells slots e1 e2 hP hS hl)
theorem s_isub {x : Int32} {y : Int32}  (C : aCF Γ) (hd : aDC Γ pc .isub 1) (k : aSW Γ (pc + 1) L (.int (x - y) :: r) h) : aSW Γ pc L (.int y :: .int x :: r) h := by
  obtain ⟨p, l, e, R, s, m, args, below, meth, c, Q, cc, nL, b0, n0, u0, own, kind, D, cA, ea, X⟩ := Γ
  intro H locs ls cells slots e1 e2 hP hS hl
  obtain ⟨hx, hb, hml, hown, hts, hKX, hsz, hki⟩ := C
  exact lv_isub hx hb hd (k H locs ls cells slots e1 e2 hP hS hl)
theorem s_imul {x : Int32} {y : Int32}  (C : aCF Γ) (hd : aDC Γ pc .imul 1) (k : aSW Γ (pc + 1) L (.int (x * y) :: r) h) : aSW Γ pc L (.int y :: .int x :: r) h := by
  obtain ⟨p, l, e, R, s, m, args, below, meth, c, Q, cc, nL, b0, n0, u0, own, kind, D, cA, ea, X⟩ := Γ
  intro H locs ls cells slots e1 e2 hP hS hl
  obtain ⟨hx, hb, hml, hown, hts, hKX, hsz, hki⟩ := C
  exact lv_imul hx hb hd (k H locs ls cells slots e1 e2 hP hS hl)
theorem s_iand {x : Int32} {y : Int32}  (C : aCF Γ) (hd : aDC Γ pc .iand 1) (k : aSW Γ (pc + 1) L (.int (x &&& y) :: r) h) : aSW Γ pc L (.int y :: .int x :: r) h := by
  obtain ⟨p, l, e, R, s, m, args, below, meth, c, Q, cc, nL, b0, n0, u0, own, kind, D, cA, ea, X⟩ := Γ
  intro H locs ls cells slots e1 e2 hP hS hl
  obtain ⟨hx, hb, hml, hown, hts, hKX, hsz, hki⟩ := C
  exact lv_iand hx hb hd (k H locs ls cells slots e1 e2 hP hS hl)
theorem s_ior {x : Int32} {y : Int32}  (C : aCF Γ) (hd : aDC Γ pc .ior 1) (k : aSW Γ (pc + 1) L (.int (x ||| y) :: r) h) : aSW Γ pc L (.int y :: .int x :: r) h := by
  obtain ⟨p, l, e, R, s, m, args, below, meth, c, Q, cc, nL, b0, n0, u0, own, kind, D, cA, ea, X⟩ := Γ
  intro H locs ls cells slots e1 e2 hP hS hl
  obtain ⟨hx, hb, hml, hown, hts, hKX, hsz, hki⟩ := C
  exact lv_ior hx hb hd (k H locs ls cells slots e1 e2 hP hS hl)
theorem s_ixor {x : Int32} {y : Int32}  (C : aCF Γ) (hd : aDC Γ pc .ixor 1) (k : aSW Γ (pc + 1) L (.int (x ^^^ y) :: r) h) : aSW Γ pc L (.int y :: .int x :: r) h := by
  obtain ⟨p, l, e, R, s, m, args, below, meth, c, Q, cc, nL, b0, n0, u0, own, kind, D, cA, ea, X⟩ := Γ
  intro H locs ls cells slots e1 e2 hP hS hl
  obtain ⟨hx, hb, hml, hown, hts, hKX, hsz, hki⟩ := C
  exact lv_ixor hx hb hd (k H locs ls cells slots e1 e2 hP hS hl)
theorem s_ishl {x : Int32} {y : Int32}  (C : aCF Γ) (hd : aDC Γ pc .ishl 1) (k : aSW Γ (pc + 1) L (.int (x <<< (y &&& 31)) :: r) h) : aSW Γ pc L (.int y :: .int x :: r) h := by
  obtain ⟨p, l, e, R, s, m, args, below, meth, c, Q, cc, nL, b0, n0, u0, own, kind, D, cA, ea, X⟩ := Γ
  intro H locs ls cells slots e1 e2 hP hS hl
  obtain ⟨hx, hb, hml, hown, hts, hKX, hsz, hki⟩ := C
  exact lv_ishl hx hb hd (k H locs ls cells slots e1 e2 hP hS hl)
theorem s_ishr {x : Int32} {y : Int32}  (C : aCF Γ) (hd : aDC Γ pc .ishr 1) (k : aSW Γ (pc + 1) L (.int (x >>> (y &&& 31)) :: r) h) : aSW Γ pc L (.int y :: .int x :: r) h := by
  obtain ⟨p, l, e, R, s, m, args, below, meth, c, Q, cc, nL, b0, n0, u0, own, kind, D, cA, ea, X⟩ := Γ
  intro H locs ls cells slots e1 e2 hP hS hl
  obtain ⟨hx, hb, hml, hown, hts, hKX, hsz, hki⟩ := C
  exact lv_ishr hx hb hd (k H locs ls cells slots e1 e2 hP hS hl)
theorem s_iushr {x : Int32} {y : Int32}  (C : aCF Γ) (hd : aDC Γ pc .iushr 1) (k : aSW Γ (pc + 1) L (.int ((x.toUInt32 >>> (y.toUInt32 &&& Int32.toUInt32 31)).toInt32) :: r) h) : aSW Γ pc L (.int y :: .int x :: r) h := by
  obtain ⟨p, l, e, R, s, m, args, below, meth, c, Q, cc, nL, b0, n0, u0, own, kind, D, cA, ea, X⟩ := Γ
  intro H locs ls cells slots e1 e2 hP hS hl
  obtain ⟨hx, hb, hml, hown, hts, hKX, hsz, hki⟩ := C
  exact lv_iushr hx hb hd rfl (k H locs ls cells slots e1 e2 hP hS hl)
theorem s_idiv {x : Int32} {y : Int32} (hne : ¬ y = 0)  (C : aCF Γ) (hd : aDC Γ pc .idiv 1) (k : aSW Γ (pc + 1) L (.int (x / y) :: r) h) : aSW Γ pc L (.int y :: .int x :: r) h := by
  obtain ⟨p, l, e, R, s, m, args, below, meth, c, Q, cc, nL, b0, n0, u0, own, kind, D, cA, ea, X⟩ := Γ
  intro H locs ls cells slots e1 e2 hP hS hl
  obtain ⟨hx, hb, hml, hown, hts, hKX, hsz, hki⟩ := C
  exact lv_idiv hx hb hd hne (k H locs ls cells slots e1 e2 hP hS hl)
theorem s_irem {x : Int32} {y : Int32} (hne : ¬ y = 0)  (C : aCF Γ) (hd : aDC Γ pc .irem 1) (k : aSW Γ (pc + 1) L (.int (x - x / y * y) :: r) h) : aSW Γ pc L (.int y :: .int x :: r) h := by
  obtain ⟨p, l, e, R, s, m, args, below, meth, c, Q, cc, nL, b0, n0, u0, own, kind, D, cA, ea, X⟩ := Γ
  intro H locs ls cells slots e1 e2 hP hS hl
  obtain ⟨hx, hb, hml, hown, hts, hKX, hsz, hki⟩ := C
  exact lv_irem hx hb hd hne (k H locs ls cells slots e1 e2 hP hS hl)
theorem s_ladd {x : Int64} {y : Int64}  (C : aCF Γ) (hd : aDC Γ pc .ladd 1) (k : aSW Γ (pc + 1) L (.long (x + y) :: r) h) : aSW Γ pc L (.long y :: .long x :: r) h := by
  obtain ⟨p, l, e, R, s, m, args, below, meth, c, Q, cc, nL, b0, n0, u0, own, kind, D, cA, ea, X⟩ := Γ
  intro H locs ls cells slots e1 e2 hP hS hl
  obtain ⟨hx, hb, hml, hown, hts, hKX, hsz, hki⟩ := C
  exact lv_ladd hx hb hd (k H locs ls cells slots e1 e2 hP hS hl)
theorem s_lsub {x : Int64} {y : Int64}  (C : aCF Γ) (hd : aDC Γ pc .lsub 1) (k : aSW Γ (pc + 1) L (.long (x - y) :: r) h) : aSW Γ pc L (.long y :: .long x :: r) h := by
  obtain ⟨p, l, e, R, s, m, args, below, meth, c, Q, cc, nL, b0, n0, u0, own, kind, D, cA, ea, X⟩ := Γ
  intro H locs ls cells slots e1 e2 hP hS hl
  obtain ⟨hx, hb, hml, hown, hts, hKX, hsz, hki⟩ := C
  exact lv_lsub hx hb hd (k H locs ls cells slots e1 e2 hP hS hl)
theorem s_lmul {x : Int64} {y : Int64}  (C : aCF Γ) (hd : aDC Γ pc .lmul 1) (k : aSW Γ (pc + 1) L (.long (x * y) :: r) h) : aSW Γ pc L (.long y :: .long x :: r) h := by
  obtain ⟨p, l, e, R, s, m, args, below, meth, c, Q, cc, nL, b0, n0, u0, own, kind, D, cA, ea, X⟩ := Γ
  intro H locs ls cells slots e1 e2 hP hS hl
  obtain ⟨hx, hb, hml, hown, hts, hKX, hsz, hki⟩ := C
  exact lv_lmul hx hb hd (k H locs ls cells slots e1 e2 hP hS hl)
theorem s_land {x : Int64} {y : Int64}  (C : aCF Γ) (hd : aDC Γ pc .land 1) (k : aSW Γ (pc + 1) L (.long (x &&& y) :: r) h) : aSW Γ pc L (.long y :: .long x :: r) h := by
  obtain ⟨p, l, e, R, s, m, args, below, meth, c, Q, cc, nL, b0, n0, u0, own, kind, D, cA, ea, X⟩ := Γ
  intro H locs ls cells slots e1 e2 hP hS hl
  obtain ⟨hx, hb, hml, hown, hts, hKX, hsz, hki⟩ := C
  exact lv_land hx hb hd (k H locs ls cells slots e1 e2 hP hS hl)
theorem s_lor {x : Int64} {y : Int64}  (C : aCF Γ) (hd : aDC Γ pc .lor 1) (k : aSW Γ (pc + 1) L (.long (x ||| y) :: r) h) : aSW Γ pc L (.long y :: .long x :: r) h := by
  obtain ⟨p, l, e, R, s, m, args, below, meth, c, Q, cc, nL, b0, n0, u0, own, kind, D, cA, ea, X⟩ := Γ
  intro H locs ls cells slots e1 e2 hP hS hl
  obtain ⟨hx, hb, hml, hown, hts, hKX, hsz, hki⟩ := C
  exact lv_lor hx hb hd (k H locs ls cells slots e1 e2 hP hS hl)
theorem s_ldiv {x : Int64} {y : Int64} (hne : ¬ y = 0)  (C : aCF Γ) (hd : aDC Γ pc .ldiv 1) (k : aSW Γ (pc + 1) L (.long (x / y) :: r) h) : aSW Γ pc L (.long y :: .long x :: r) h := by
  obtain ⟨p, l, e, R, s, m, args, below, meth, c, Q, cc, nL, b0, n0, u0, own, kind, D, cA, ea, X⟩ := Γ
  intro H locs ls cells slots e1 e2 hP hS hl
  obtain ⟨hx, hb, hml, hown, hts, hKX, hsz, hki⟩ := C
  exact lv_ldiv hx hb hd hne (k H locs ls cells slots e1 e2 hP hS hl)
theorem s_lrem {x : Int64} {y : Int64} (hne : ¬ y = 0)  (C : aCF Γ) (hd : aDC Γ pc .lrem 1) (k : aSW Γ (pc + 1) L (.long (x - x / y * y) :: r) h) : aSW Γ pc L (.long y :: .long x :: r) h := by
  obtain ⟨p, l, e, R, s, m, args, below, meth, c, Q, cc, nL, b0, n0, u0, own, kind, D, cA, ea, X⟩ := Γ
  intro H locs ls cells slots e1 e2 hP hS hl
  obtain ⟨hx, hb, hml, hown, hts, hKX, hsz, hki⟩ := C
  exact lv_lrem hx hb hd hne (k H locs ls cells slots e1 e2 hP hS hl)
theorem s_lshl {x : Int64} {y : Int32}  (C : aCF Γ) (hd : aDC Γ pc .lshl 1) (k : aSW Γ (pc + 1) L (.long (x <<< (y.toInt64 &&& 63)) :: r) h) : aSW Γ pc L (.int y :: .long x :: r) h := by
  obtain ⟨p, l, e, R, s, m, args, below, meth, c, Q, cc, nL, b0, n0, u0, own, kind, D, cA, ea, X⟩ := Γ
  intro H locs ls cells slots e1 e2 hP hS hl
  obtain ⟨hx, hb, hml, hown, hts, hKX, hsz, hki⟩ := C
  exact lv_lshl hx hb hd rfl (k H locs ls cells slots e1 e2 hP hS hl)
theorem s_lcmp {x : Int64} {y : Int64}  (C : aCF Γ) (hd : aDC Γ pc .lcmp 1) (k : aSW Γ (pc + 1) L (.int (lg_cmp x y) :: r) h) : aSW Γ pc L (.long y :: .long x :: r) h := by
  obtain ⟨p, l, e, R, s, m, args, below, meth, c, Q, cc, nL, b0, n0, u0, own, kind, D, cA, ea, X⟩ := Γ
  intro H locs ls cells slots e1 e2 hP hS hl
  obtain ⟨hx, hb, hml, hown, hts, hKX, hsz, hki⟩ := C
  exact W.lcmp hx hb hd (k H locs ls cells slots e1 e2 hP hS hl)
theorem s_ineg {x : Int32} (C : aCF Γ) (hd : aDC Γ pc .ineg 1) (k : aSW Γ (pc + 1) L (.int (-x) :: r) h) : aSW Γ pc L (.int x :: r) h := by
  obtain ⟨p, l, e, R, s, m, args, below, meth, c, Q, cc, nL, b0, n0, u0, own, kind, D, cA, ea, X⟩ := Γ
  intro H locs ls cells slots e1 e2 hP hS hl
  obtain ⟨hx, hb, hml, hown, hts, hKX, hsz, hki⟩ := C
  exact lv_ineg hx hb hd (k H locs ls cells slots e1 e2 hP hS hl)
theorem s_i2l {x : Int32} (C : aCF Γ) (hd : aDC Γ pc .i2l 1) (k : aSW Γ (pc + 1) L (.long (x.toInt64) :: r) h) : aSW Γ pc L (.int x :: r) h := by
  obtain ⟨p, l, e, R, s, m, args, below, meth, c, Q, cc, nL, b0, n0, u0, own, kind, D, cA, ea, X⟩ := Γ
  intro H locs ls cells slots e1 e2 hP hS hl
  obtain ⟨hx, hb, hml, hown, hts, hKX, hsz, hki⟩ := C
  exact lv_i2l hx hb hd rfl (k H locs ls cells slots e1 e2 hP hS hl)
theorem s_l2i {x : Int64} (C : aCF Γ) (hd : aDC Γ pc .l2i 1) (k : aSW Γ (pc + 1) L (.int (x.toInt32) :: r) h) : aSW Γ pc L (.long x :: r) h := by
  obtain ⟨p, l, e, R, s, m, args, below, meth, c, Q, cc, nL, b0, n0, u0, own, kind, D, cA, ea, X⟩ := Γ
  intro H locs ls cells slots e1 e2 hP hS hl
  obtain ⟨hx, hb, hml, hown, hts, hKX, hsz, hki⟩ := C
  exact lv_l2i hx hb hd rfl (k H locs ls cells slots e1 e2 hP hS hl)
theorem s_i2b {x : Int32} (C : aCF Γ) (hd : aDC Γ pc .i2b 1) (k : aSW Γ (pc + 1) L (.int (x.toInt8.toInt32) :: r) h) : aSW Γ pc L (.int x :: r) h := by
  obtain ⟨p, l, e, R, s, m, args, below, meth, c, Q, cc, nL, b0, n0, u0, own, kind, D, cA, ea, X⟩ := Γ
  intro H locs ls cells slots e1 e2 hP hS hl
  obtain ⟨hx, hb, hml, hown, hts, hKX, hsz, hki⟩ := C
  exact lv_i2b hx hb hd rfl (k H locs ls cells slots e1 e2 hP hS hl)
theorem s_i2s {x : Int32} (C : aCF Γ) (hd : aDC Γ pc .i2s 1) (k : aSW Γ (pc + 1) L (.int (x.toInt16.toInt32) :: r) h) : aSW Γ pc L (.int x :: r) h := by
  obtain ⟨p, l, e, R, s, m, args, below, meth, c, Q, cc, nL, b0, n0, u0, own, kind, D, cA, ea, X⟩ := Γ
  intro H locs ls cells slots e1 e2 hP hS hl
  obtain ⟨hx, hb, hml, hown, hts, hKX, hsz, hki⟩ := C
  exact lv_i2s hx hb hd rfl (k H locs ls cells slots e1 e2 hP hS hl)
theorem aok1_cat {b0 : Nat} {ea : Nat → Nat} {v : Value} (h : aok1 v = true) : (acv b0 ea v).category = 1 := by
  cases v <;> first | rfl | cases h
theorem s_dup {v : Value} (hv : aok1 v = true) (C : aCF Γ) (hd : aDC Γ pc .dup 1) (k : aSW Γ (pc + 1) L (v :: v :: r) h) : aSW Γ pc L (v :: r) h := by
  obtain ⟨p, l, e, R, s, m, args, below, meth, c, Q, cc, nL, b0, n0, u0, own, kind, D, cA, ea, X⟩ := Γ
  intro H locs ls cells slots e1 e2 hP hS hl
  obtain ⟨hx, hb, hml, hown, hts, hKX, hsz, hki⟩ := C
  exact lv_dup hx hb hd (aok1_cat hv) (k H locs ls cells slots e1 e2 hP hS hl)
theorem s_pop {v : Value} (hv : aok1 v = true) (C : aCF Γ) (hd : aDC Γ pc .pop 1) (k : aSW Γ (pc + 1) L r h) : aSW Γ pc L (v :: r) h := by
  obtain ⟨p, l, e, R, s, m, args, below, meth, c, Q, cc, nL, b0, n0, u0, own, kind, D, cA, ea, X⟩ := Γ
  intro H locs ls cells slots e1 e2 hP hS hl
  obtain ⟨hx, hb, hml, hown, hts, hKX, hsz, hki⟩ := C
  exact lv_pop hx hb hd (aok1_cat hv) (k H locs ls cells slots e1 e2 hP hS hl)
theorem s_dup2 {v w : Value} (hv : aok1 v = true) (hw : aok1 w = true) (C : aCF Γ) (hd : aDC Γ pc .dup2 1) (k : aSW Γ (pc + 1) L (v :: w :: v :: w :: r) h) : aSW Γ pc L (v :: w :: r) h := by
  obtain ⟨p, l, e, R, s, m, args, below, meth, c, Q, cc, nL, b0, n0, u0, own, kind, D, cA, ea, X⟩ := Γ
  intro H locs ls cells slots e1 e2 hP hS hl
  obtain ⟨hx, hb, hml, hown, hts, hKX, hsz, hki⟩ := C
  exact lv_dup2_11 hx hb hd (aok1_cat hv) (aok1_cat hw) (k H locs ls cells slots e1 e2 hP hS hl)
theorem s_dup_x1 {v w : Value} (hv : aok1 v = true) (hw : aok1 w = true) (C : aCF Γ) (hd : aDC Γ pc .dup_x1 1) (k : aSW Γ (pc + 1) L (v :: w :: v :: r) h) : aSW Γ pc L (v :: w :: r) h := by
  obtain ⟨p, l, e, R, s, m, args, below, meth, c, Q, cc, nL, b0, n0, u0, own, kind, D, cA, ea, X⟩ := Γ
  intro H locs ls cells slots e1 e2 hP hS hl
  obtain ⟨hx, hb, hml, hown, hts, hKX, hsz, hki⟩ := C
  exact lv_dup_x1 hx hb hd (aok1_cat hv) (aok1_cat hw) (k H locs ls cells slots e1 e2 hP hS hl)
theorem s_goto {off : Int} {t : Nat} (ht : (pc : Int) + off = (t : Int)) (C : aCF Γ) (hd : aDC Γ pc (.goto off) 3) (k : aSW Γ t L r h) : aSW Γ pc L r h := by
  obtain ⟨p, l, e, R, s, m, args, below, meth, c, Q, cc, nL, b0, n0, u0, own, kind, D, cA, ea, X⟩ := Γ
  intro H locs ls cells slots e1 e2 hP hS hl
  obtain ⟨hx, hb, hml, hown, hts, hKX, hsz, hki⟩ := C
  exact lv_goto hx hb hd ht (k H locs ls cells slots e1 e2 hP hS hl)
theorem s_if_eq {x : Int32} {off : Int} {t : Nat} (ht : (pc : Int) + off = (t : Int)) (C : aCF Γ) (hd : aDC Γ pc (.ifCond .eq off) 3) (k1 : x = 0 → aSW Γ t L r h) (k2 : ¬ x = 0 → aSW Γ (pc + 3) L r h) : aSW Γ pc L (.int x :: r) h := by
  obtain ⟨p, l, e, R, s, m, args, below, meth, c, Q, cc, nL, b0, n0, u0, own, kind, D, cA, ea, X⟩ := Γ
  intro H locs ls cells slots e1 e2 hP hS hl
  obtain ⟨hx, hb, hml, hown, hts, hKX, hsz, hki⟩ := C
  exact lv_if_eq hx hb hd ht (fun q => k1 q H locs ls cells slots e1 e2 hP hS hl) (fun q => k2 q H locs ls cells slots e1 e2 hP hS hl)
theorem s_if_ne {x : Int32} {off : Int} {t : Nat} (ht : (pc : Int) + off = (t : Int)) (C : aCF Γ) (hd : aDC Γ pc (.ifCond .ne off) 3) (k1 : ¬ x = 0 → aSW Γ t L r h) (k2 : x = 0 → aSW Γ (pc + 3) L r h) : aSW Γ pc L (.int x :: r) h := by
  obtain ⟨p, l, e, R, s, m, args, below, meth, c, Q, cc, nL, b0, n0, u0, own, kind, D, cA, ea, X⟩ := Γ
  intro H locs ls cells slots e1 e2 hP hS hl
  obtain ⟨hx, hb, hml, hown, hts, hKX, hsz, hki⟩ := C
  exact lv_if_ne hx hb hd ht (fun q => k1 q H locs ls cells slots e1 e2 hP hS hl) (fun q => k2 q H locs ls cells slots e1 e2 hP hS hl)
theorem s_if_lt {x : Int32} {off : Int} {t : Nat} (ht : (pc : Int) + off = (t : Int)) (C : aCF Γ) (hd : aDC Γ pc (.ifCond .lt off) 3) (k1 : x < 0 → aSW Γ t L r h) (k2 : ¬ x < 0 → aSW Γ (pc + 3) L r h) : aSW Γ pc L (.int x :: r) h := by
  obtain ⟨p, l, e, R, s, m, args, below, meth, c, Q, cc, nL, b0, n0, u0, own, kind, D, cA, ea, X⟩ := Γ
  intro H locs ls cells slots e1 e2 hP hS hl
  obtain ⟨hx, hb, hml, hown, hts, hKX, hsz, hki⟩ := C
  exact lv_if_lt hx hb hd ht (fun q => k1 q H locs ls cells slots e1 e2 hP hS hl) (fun q => k2 q H locs ls cells slots e1 e2 hP hS hl)
theorem s_if_ge {x : Int32} {off : Int} {t : Nat} (ht : (pc : Int) + off = (t : Int)) (C : aCF Γ) (hd : aDC Γ pc (.ifCond .ge off) 3) (k1 : 0 ≤ x → aSW Γ t L r h) (k2 : ¬ 0 ≤ x → aSW Γ (pc + 3) L r h) : aSW Γ pc L (.int x :: r) h := by
  obtain ⟨p, l, e, R, s, m, args, below, meth, c, Q, cc, nL, b0, n0, u0, own, kind, D, cA, ea, X⟩ := Γ
  intro H locs ls cells slots e1 e2 hP hS hl
  obtain ⟨hx, hb, hml, hown, hts, hKX, hsz, hki⟩ := C
  exact lv_if_ge hx hb hd ht (fun q => k1 q H locs ls cells slots e1 e2 hP hS hl) (fun q => k2 q H locs ls cells slots e1 e2 hP hS hl)
theorem s_if_gt {x : Int32} {off : Int} {t : Nat} (ht : (pc : Int) + off = (t : Int)) (C : aCF Γ) (hd : aDC Γ pc (.ifCond .gt off) 3) (k1 : 0 < x → aSW Γ t L r h) (k2 : ¬ 0 < x → aSW Γ (pc + 3) L r h) : aSW Γ pc L (.int x :: r) h := by
  obtain ⟨p, l, e, R, s, m, args, below, meth, c, Q, cc, nL, b0, n0, u0, own, kind, D, cA, ea, X⟩ := Γ
  intro H locs ls cells slots e1 e2 hP hS hl
  obtain ⟨hx, hb, hml, hown, hts, hKX, hsz, hki⟩ := C
  exact lv_if_gt hx hb hd ht (fun q => k1 q H locs ls cells slots e1 e2 hP hS hl) (fun q => k2 q H locs ls cells slots e1 e2 hP hS hl)
theorem s_if_le {x : Int32} {off : Int} {t : Nat} (ht : (pc : Int) + off = (t : Int)) (C : aCF Γ) (hd : aDC Γ pc (.ifCond .le off) 3) (k1 : x ≤ 0 → aSW Γ t L r h) (k2 : ¬ x ≤ 0 → aSW Γ (pc + 3) L r h) : aSW Γ pc L (.int x :: r) h := by
  obtain ⟨p, l, e, R, s, m, args, below, meth, c, Q, cc, nL, b0, n0, u0, own, kind, D, cA, ea, X⟩ := Γ
  intro H locs ls cells slots e1 e2 hP hS hl
  obtain ⟨hx, hb, hml, hown, hts, hKX, hsz, hki⟩ := C
  exact lv_if_le hx hb hd ht (fun q => k1 q H locs ls cells slots e1 e2 hP hS hl) (fun q => k2 q H locs ls cells slots e1 e2 hP hS hl)
theorem s_icmp_eq {x y : Int32} {off : Int} {t : Nat} (ht : (pc : Int) + off = (t : Int)) (C : aCF Γ) (hd : aDC Γ pc (.if_icmp .eq off) 3) (k1 : x = y → aSW Γ t L r h) (k2 : ¬ x = y → aSW Γ (pc + 3) L r h) : aSW Γ pc L (.int y :: .int x :: r) h := by
  obtain ⟨p, l, e, R, s, m, args, below, meth, c, Q, cc, nL, b0, n0, u0, own, kind, D, cA, ea, X⟩ := Γ
  intro H locs ls cells slots e1 e2 hP hS hl
  obtain ⟨hx, hb, hml, hown, hts, hKX, hsz, hki⟩ := C
  exact lv_icmp_eq hx hb hd ht (fun q => k1 q H locs ls cells slots e1 e2 hP hS hl) (fun q => k2 q H locs ls cells slots e1 e2 hP hS hl)
theorem s_icmp_ne {x y : Int32} {off : Int} {t : Nat} (ht : (pc : Int) + off = (t : Int)) (C : aCF Γ) (hd : aDC Γ pc (.if_icmp .ne off) 3) (k1 : ¬ x = y → aSW Γ t L r h) (k2 : x = y → aSW Γ (pc + 3) L r h) : aSW Γ pc L (.int y :: .int x :: r) h := by
  obtain ⟨p, l, e, R, s, m, args, below, meth, c, Q, cc, nL, b0, n0, u0, own, kind, D, cA, ea, X⟩ := Γ
  intro H locs ls cells slots e1 e2 hP hS hl
  obtain ⟨hx, hb, hml, hown, hts, hKX, hsz, hki⟩ := C
  exact lv_icmp_ne hx hb hd ht (fun q => k1 q H locs ls cells slots e1 e2 hP hS hl) (fun q => k2 q H locs ls cells slots e1 e2 hP hS hl)
theorem s_icmp_lt {x y : Int32} {off : Int} {t : Nat} (ht : (pc : Int) + off = (t : Int)) (C : aCF Γ) (hd : aDC Γ pc (.if_icmp .lt off) 3) (k1 : x < y → aSW Γ t L r h) (k2 : ¬ x < y → aSW Γ (pc + 3) L r h) : aSW Γ pc L (.int y :: .int x :: r) h := by
  obtain ⟨p, l, e, R, s, m, args, below, meth, c, Q, cc, nL, b0, n0, u0, own, kind, D, cA, ea, X⟩ := Γ
  intro H locs ls cells slots e1 e2 hP hS hl
  obtain ⟨hx, hb, hml, hown, hts, hKX, hsz, hki⟩ := C
  exact lv_icmp_lt hx hb hd ht (fun q => k1 q H locs ls cells slots e1 e2 hP hS hl) (fun q => k2 q H locs ls cells slots e1 e2 hP hS hl)
theorem s_icmp_ge {x y : Int32} {off : Int} {t : Nat} (ht : (pc : Int) + off = (t : Int)) (C : aCF Γ) (hd : aDC Γ pc (.if_icmp .ge off) 3) (k1 : y ≤ x → aSW Γ t L r h) (k2 : ¬ y ≤ x → aSW Γ (pc + 3) L r h) : aSW Γ pc L (.int y :: .int x :: r) h := by
  obtain ⟨p, l, e, R, s, m, args, below, meth, c, Q, cc, nL, b0, n0, u0, own, kind, D, cA, ea, X⟩ := Γ
  intro H locs ls cells slots e1 e2 hP hS hl
  obtain ⟨hx, hb, hml, hown, hts, hKX, hsz, hki⟩ := C
  exact lv_icmp_ge hx hb hd ht (fun q => k1 q H locs ls cells slots e1 e2 hP hS hl) (fun q => k2 q H locs ls cells slots e1 e2 hP hS hl)
theorem s_icmp_gt {x y : Int32} {off : Int} {t : Nat} (ht : (pc : Int) + off = (t : Int)) (C : aCF Γ) (hd : aDC Γ pc (.if_icmp .gt off) 3) (k1 : y < x → aSW Γ t L r h) (k2 : ¬ y < x → aSW Γ (pc + 3) L r h) : aSW Γ pc L (.int y :: .int x :: r) h := by
  obtain ⟨p, l, e, R, s, m, args, below, meth, c, Q, cc, nL, b0, n0, u0, own, kind, D, cA, ea, X⟩ := Γ
  intro H locs ls cells slots e1 e2 hP hS hl
  obtain ⟨hx, hb, hml, hown, hts, hKX, hsz, hki⟩ := C
  exact lv_icmp_gt hx hb hd ht (fun q => k1 q H locs ls cells slots e1 e2 hP hS hl) (fun q => k2 q H locs ls cells slots e1 e2 hP hS hl)
theorem s_icmp_le {x y : Int32} {off : Int} {t : Nat} (ht : (pc : Int) + off = (t : Int)) (C : aCF Γ) (hd : aDC Γ pc (.if_icmp .le off) 3) (k1 : x ≤ y → aSW Γ t L r h) (k2 : ¬ x ≤ y → aSW Γ (pc + 3) L r h) : aSW Γ pc L (.int y :: .int x :: r) h := by
  obtain ⟨p, l, e, R, s, m, args, below, meth, c, Q, cc, nL, b0, n0, u0, own, kind, D, cA, ea, X⟩ := Γ
  intro H locs ls cells slots e1 e2 hP hS hl
  obtain ⟨hx, hb, hml, hown, hts, hKX, hsz, hki⟩ := C
  exact lv_icmp_le hx hb hd ht (fun q => k1 q H locs ls cells slots e1 e2 hP hS hl) (fun q => k2 q H locs ls cells slots e1 e2 hP hS hl)
theorem s_ifnull {x : Nat} {off : Int} (C : aCF Γ) (hd : aDC Γ pc (.ifnull off) 3) (k : aSW Γ (pc + 3) L r h) : aSW Γ pc L (.ref x :: r) h := by
  obtain ⟨p, l, e, R, s, m, args, below, meth, c, Q, cc, nL, b0, n0, u0, own, kind, D, cA, ea, X⟩ := Γ
  intro H locs ls cells slots e1 e2 hP hS hl
  obtain ⟨hx, hb, hml, hown, hts, hKX, hsz, hki⟩ := C
  exact lv_ifnull hx hb hd (k H locs ls cells slots e1 e2 hP hS hl)
theorem s_ifnullN {off : Int} {t : Nat} (ht : (pc : Int) + off = (t : Int)) (C : aCF Γ) (hd : aDC Γ pc (.ifnull off) 3) (k : aSW Γ t L r h) : aSW Γ pc L (.null :: r) h := by
  obtain ⟨p, l, e, R, s, m, args, below, meth, c, Q, cc, nL, b0, n0, u0, own, kind, D, cA, ea, X⟩ := Γ
  intro H locs ls cells slots e1 e2 hP hS hl
  obtain ⟨hx, hb, hml, hown, hts, hKX, hsz, hki⟩ := C
  exact lv_ifnullN hx hb hd ht (k H locs ls cells slots e1 e2 hP hS hl)
theorem s_ifnonnull {x : Nat} {off : Int} {t : Nat} (ht : (pc : Int) + off = (t : Int)) (C : aCF Γ) (hd : aDC Γ pc (.ifnonnull off) 3) (k : aSW Γ t L r h) : aSW Γ pc L (.ref x :: r) h := by
  obtain ⟨p, l, e, R, s, m, args, below, meth, c, Q, cc, nL, b0, n0, u0, own, kind, D, cA, ea, X⟩ := Γ
  intro H locs ls cells slots e1 e2 hP hS hl
  obtain ⟨hx, hb, hml, hown, hts, hKX, hsz, hki⟩ := C
  exact lv_ifnonnull hx hb hd ht (k H locs ls cells slots e1 e2 hP hS hl)
theorem s_ifnonnullN {off : Int} (C : aCF Γ) (hd : aDC Γ pc (.ifnonnull off) 3) (k : aSW Γ (pc + 3) L r h) : aSW Γ pc L (.null :: r) h := by
  obtain ⟨p, l, e, R, s, m, args, below, meth, c, Q, cc, nL, b0, n0, u0, own, kind, D, cA, ea, X⟩ := Γ
  intro H locs ls cells slots e1 e2 hP hS hl
  obtain ⟨hx, hb, hml, hown, hts, hKX, hsz, hki⟩ := C
  exact lv_ifnonnullN hx hb hd (k H locs ls cells slots e1 e2 hP hS hl)
theorem s_tableOut {x : Int32} {d lo hi : Int} {offs : Array Int} {n t : Nat} (hq : x.toInt < lo ∨ hi < x.toInt) (ht : (pc : Int) + d = (t : Int)) (C : aCF Γ) (hd : aDC Γ pc (.tableswitch d lo hi offs) n) (k : aSW Γ t L r h) : aSW Γ pc L (.int x :: r) h := by
  obtain ⟨p, l, e, R, s, m, args, below, meth, c, Q, cc, nL, b0, n0, u0, own, kind, D, cA, ea, X⟩ := Γ
  intro H locs ls cells slots e1 e2 hP hS hl
  obtain ⟨hx, hb, hml, hown, hts, hKX, hsz, hki⟩ := C
  exact lv_tableOut hx hb hd hq ht (k H locs ls cells slots e1 e2 hP hS hl)
theorem s_tableIn {x : Int32} {d lo hi off : Int} {offs : Array Int} {n t : Nat} (q1 : ¬ x.toInt < lo) (q2 : ¬ hi < x.toInt) (ho : offs[(x.toInt - lo).toNat]? = some off) (ht : (pc : Int) + off = (t : Int)) (C : aCF Γ) (hd : aDC Γ pc (.tableswitch d lo hi offs) n) (k : aSW Γ t L r h) : aSW Γ pc L (.int x :: r) h := by
  obtain ⟨p, l, e, R, s, m, args, below, meth, c, Q, cc, nL, b0, n0, u0, own, kind, D, cA, ea, X⟩ := Γ
  intro H locs ls cells slots e1 e2 hP hS hl
  obtain ⟨hx, hb, hml, hown, hts, hKX, hsz, hki⟩ := C
  exact lv_tableIn hx hb hd q1 q2 ho ht (k H locs ls cells slots e1 e2 hP hS hl)
theorem s_lookup {x : Int32} {d off : Int} {ps : Array (Int × Int)} {n t : Nat} (hp : (ps.toList.zip (ps.toList.drop 1)).all (fun (a, next) => a.1 < next.1) = true) (ho : Op.lookupswitch.offset ps.toList d x.toInt = off) (ht : (pc : Int) + off = (t : Int)) (C : aCF Γ) (hd : aDC Γ pc (.lookupswitch d ps) n) (k : aSW Γ t L r h) : aSW Γ pc L (.int x :: r) h := by
  obtain ⟨p, l, e, R, s, m, args, below, meth, c, Q, cc, nL, b0, n0, u0, own, kind, D, cA, ea, X⟩ := Γ
  intro H locs ls cells slots e1 e2 hP hS hl
  obtain ⟨hx, hb, hml, hown, hts, hKX, hsz, hki⟩ := C
  exact lv_lookup hx hb hd hp ho ht (k H locs ls cells slots e1 e2 hP hS hl)
end AZ
end
section
-- ===== fields, arrays, what is made =====
theorem zCl_get {c : Nat} (hc : c < 13) : zCl[c]? = some (zCN c, zT c, zN c) := by simp [zCl, hc]
theorem z_uws {c : Nat} (hc : c < 13) : ∀ w ∈ u_ws (zCN c) (zT c) (zN c), w ∈ zW := by
  intro w hw
  unfold u_ws at hw
  obtain ⟨k, hk, rfl⟩ := List.mem_map.mp hw
  have h1 := List.all_eq_true.mp zFP_ok c (List.mem_range.mpr hc)
  have h2 := List.all_eq_true.mp h1 k hk
  exact zTab_mem h2
theorem z_ty : ∀ c, c < 13 → ∀ k, k < zN c → parseFieldDescriptor (zT c k).2.2.1 = some (zY c k) := by decide +kernel
theorem z_nm : ∀ c, c < 13 → ∀ a, a < zN c → ∀ b, b < zN c → a ≠ b → (zT c a).2.1 ≠ (zT c b).2.1 := by decide +kernel
theorem z_dc : ∀ c, c < 13 → ∀ k, k < zN c → (zT c k).1 = zCN c := by decide +kernel
theorem z_fld {o ix a b : Nat} (h : zfcp.any (fun q => Nat.beq q.1 o && Nat.beq q.2.1 ix && Nat.beq q.2.2.1 a && Nat.beq q.2.2.2.1 b) = true) : a < 13 ∧ b < zN a ∧ zwF o ix a b ∈ zW := by
  obtain ⟨q, hq, hh⟩ := List.any_eq_true.mp h
  simp only [Bool.and_eq_true, Nat.beq_eq] at hh
  obtain ⟨⟨⟨rfl, rfl⟩, rfl⟩, rfl⟩ := hh
  have h1 := List.all_eq_true.mp zfcp_ok q hq
  simp only [Bool.and_eq_true, decide_eq_true_eq] at h1
  exact ⟨h1.1.1, h1.1.2, zTab_mem h1.2⟩
theorem acv_def {b0 : Nat} {ea : Nat → Nat} (ty : FieldType) : acv b0 ea (defaultValue ty) = defaultValue ty := by cases ty <;> rfl
theorem aok_n {b0 : Nat} {ea : Nat → Nat} {ty : FieldType} {v : Value} (h : aok ty v = true) : narrow ty (acv b0 ea v) = acv b0 ea v ∧ fits ty (acv b0 ea v) = true := by
  cases ty <;> cases v <;> first
    | exact ⟨rfl, rfl⟩
    | (cases h; done)
    | (rename_i x
       simp only [aok, Bool.or_eq_true, beq_iff_eq] at h
       rcases h with rfl | rfl <;> exact ⟨rfl, rfl⟩)
theorem aW_sz {p : Program} {l : Launch} {e : Env} {R : Room} {s : State} {m : MethodId} {args : Array Value} {below : List Frame} {meth : Method} {c : Code} {H : Heap} {locs : List Loc} {cells slots : Nat} {Q : State → Prop} {g : JFrame}
    (k : H.size ≤ s.heap.size + cells → W p l e R s m args below meth c H locs cells slots Q g) : W p l e R s m args below meth c H locs cells slots Q g := fun T hT X => k (by rw [← hT]; exact X.heapSize) T hT X
theorem awd_len {b0 : Nat} {ea : Nat → Nat} {cA : Nat → ClassId} {σ : List aC} : (awd b0 ea cA σ).length = σ.length := by simp [awd]
theorem aq_eq {b0 q : Nat} {ea : Nat → Nat} {cA : Nat → ClassId} {σ : List aC} {D : va_G} {cl : List vw_C} {e : va_E} {H1 : Heap} (hP : va_P D cl (awd b0 ea cA σ ++ [(q, e)]) H1) (hD : va_D (fun q => b0 ≤ q) (awd b0 ea cA σ ++ [(q, e)])) (hz : H1.size ≤ b0 + σ.length + 1) : q = b0 + σ.length := by
  have hg : (awd b0 ea cA σ ++ [(q, e)])[σ.length]? = some (q, e) := by
    rw [List.getElem?_append_right (by rw [awd_len]; exact Nat.le_refl _), awd_len]
    simp
  have h1 : b0 ≤ q := hD.2 σ.length (q, e) hg
  have h2 : q < H1.size := (hP σ.length (q, e) hg).lt
  have h3 : ∀ k, k < σ.length → q ≠ b0 + k := by
    intro k hk he
    have hg2 : (awd b0 ea cA σ ++ [(q, e)])[k]? = some (b0 + k, acc b0 ea cA σ[k]) := by
      rw [List.getElem?_append_left (by rw [awd_len]; exact hk)]
      exact awd_get (List.getElem?_eq_getElem hk)
    have := hD.1 k σ.length _ _ hg2 hg he.symm
    omega
  by_cases hlt : q < b0 + σ.length
  · exact absurd (by omega) (h3 (q - b0) (by omega))
  · omega
theorem arf_map {b0 : Nat} {ea : Nat → Nat} (x : Option Nat) : va_rf (x.map (fun k => b0 + k)) = acv b0 ea (arf x) := by cases x <;> rfl
section BZ
variable {Γ : aGm} {pc : Nat} {L : aL} {r : List Value} {h : aH}
theorem s_get {o ix a b : Nat} {fs : List Value} {v : Value} (ho : h.1[o]? = some (.inr (a, fs))) (hf : a < 13 ∧ b < zN a ∧ zwF (aown Γ) ix a b ∈ zW) (hv : fs[b]? = some v) (C : aCF Γ) (hd : aDC Γ pc (.getfield ix) 3) (k : aSW Γ (pc + 3) L (v :: r) h) : aSW Γ pc L (.ref o :: r) h := by
  obtain ⟨p, l, e, R, s, m, args, below, meth, c, Q, cc, nL, b0, n0, u0, own, kind, D, cA, ea, X⟩ := Γ
  intro H locs ls cells slots e1 e2 hP hS hl
  obtain ⟨hx, hb, hml, hown, hts, hKX, hsz, hki⟩ := C
  obtain ⟨ha, hb2, hw⟩ := hf
  exact va_get (C := zCN a) (T := zT a) (N := zN a) (ref := (zT a b).1) (v := acv b0 ea v) hx hb hts (z_uws ha) hown hKX.1 hP o (show (awd b0 ea cA h.1)[o]? = some (b0 + o, .inr (a, fs.map (acv b0 ea))) from awd_get ho) (zCl_get ha) b hb2 (hts _ hw) (fun _ h9 => h9) (by rw [List.getElem?_map, hv]; rfl) hd (k H locs ls cells slots e1 e2 hP hS hl)
theorem s_put {o ix a b : Nat} {fs : List Value} {v : Value} (ho : h.1[o]? = some (.inr (a, fs))) (hf : a < 13 ∧ b < zN a ∧ zwF (aown Γ) ix a b ∈ zW) (hfin : (zT a b).2.2.2 = false) (hv : aok (zY a b) v = true) (hlt : b < fs.length) (C : aCF Γ) (hd : aDC Γ pc (.putfield ix) 3) (k : aSW Γ (pc + 3) L r (h.1.set o (.inr (a, fs.set b v)), h.2)) : aSW Γ pc L (v :: .ref o :: r) h := by
  obtain ⟨p, l, e, R, s, m, args, below, meth, c, Q, cc, nL, b0, n0, u0, own, kind, D, cA, ea, X⟩ := Γ
  intro H locs ls cells slots e1 e2 hP hS hl
  obtain ⟨hx, hb, hml, hown, hts, hKX, hsz, hki⟩ := C
  obtain ⟨ha, hb2, hw⟩ := hf
  obtain ⟨hn, hfit⟩ := aok_n (b0 := b0) (ea := ea) hv
  refine va_put (C := zCN a) (T := zT a) (N := zN a) (ref := (zT a b).1) (v := acv b0 ea v) hx hb hts (z_uws ha) (zY a) (z_ty a ha) (z_nm a ha) hown hKX.1 hP awd_D hS o (show (awd b0 ea cA h.1)[o]? = some (b0 + o, .inr (a, fs.map (acv b0 ea))) from awd_get ho) (zCl_get ha) b hb2 (hts _ hw) (fun _ h9 => h9) hfin (z_ty a ha b hb2) hn hfit (by rw [List.length_map]; exact hlt) hd (fun H1 locs1 hP1 hD1 hS1 => ?_)
  refine k H1 locs1 ls cells slots (by rw [List.length_set]; exact e1) e2 ?_ hS1 hl
  rw [← awd_set]
  show va_P D zCl ((awd b0 ea cA h.1).set o (b0 + o, .inr (a, (fs.set b v).map (acv b0 ea)))) H1
  rw [List.map_set]
  exact hP1
theorem s_putF {o ix a b : Nat} {fs : List Value} {v : Value} (ho : h.1[o]? = some (.inr (a, fs))) (hf : a < 13 ∧ b < zN a ∧ zwF (aown Γ) ix a b ∈ zW) (hfin : (zT a b).2.2.2 = true) (hk2 : akind Γ = 2) (ho2 : aown Γ = a) (hv : aok (zY a b) v = true) (hlt : b < fs.length) (C : aCF Γ) (hd : aDC Γ pc (.putfield ix) 3) (k : aSW Γ (pc + 3) L r (h.1.set o (.inr (a, fs.set b v)), h.2)) : aSW Γ pc L (v :: .ref o :: r) h := by
  obtain ⟨p, l, e, R, s, m, args, below, meth, c, Q, cc, nL, b0, n0, u0, own, kind, D, cA, ea, X⟩ := Γ
  intro H locs ls cells slots e1 e2 hP hS hl
  obtain ⟨hx, hb, hml, hown, hts, hKX, hsz, hki⟩ := C
  obtain ⟨ha, hb2, hw⟩ := hf
  obtain ⟨hn, hfit⟩ := aok_n (b0 := b0) (ea := ea) hv
  refine va_putF (C := zCN a) (T := zT a) (N := zN a) (ref := (zT a b).1) (v := acv b0 ea v) hx hb hts (z_uws ha) (zY a) (z_ty a ha) (z_nm a ha) hown hKX.1 hP awd_D hS o (show (awd b0 ea cA h.1)[o]? = some (b0 + o, .inr (a, fs.map (acv b0 ea))) from awd_get ho) (zCl_get ha) b hb2 (hts _ hw) (fun _ h9 => h9) hfin (hki hk2) ((z_dc a ha b hb2).trans (congrArg zCN ho2.symm)) (z_ty a ha b hb2) hn hfit (by rw [List.length_map]; exact hlt) hd (fun H1 locs1 hP1 hD1 hS1 => ?_)
  refine k H1 locs1 ls cells slots (by rw [List.length_set]; exact e1) e2 ?_ hS1 hl
  rw [← awd_set]
  show va_P D zCl ((awd b0 ea cA h.1).set o (b0 + o, .inr (a, (fs.set b v).map (acv b0 ea)))) H1
  rw [List.map_set]
  exact hP1
theorem s_iald {o n : Nat} {j : Int32} {f : Nat → Int32} (ho : h.1[o]? = some (.inl (0, n, .inl f))) (hj : ¬ (j < 0 ∨ n ≤ j.toNatClampNeg)) (C : aCF Γ) (hd : aDC Γ pc .iaload 1) (k : aSW Γ (pc + 1) L (.int (f j.toNatClampNeg) :: r) h) : aSW Γ pc L (.int j :: .ref o :: r) h := by
  obtain ⟨p, l, e, R, s, m, args, below, meth, c, Q, cc, nL, b0, n0, u0, own, kind, D, cA, ea, X⟩ := Γ
  intro H locs ls cells slots e1 e2 hP hS hl
  obtain ⟨hx, hb, hml, hown, hts, hKX, hsz, hki⟩ := C
  exact va_iald hx hb hKX.1 hP o 0 (show (awd b0 ea cA h.1)[o]? = some (b0 + o, .inl (cA 0, n, .inl f)) from awd_get ho) rfl hj hd (k H locs ls cells slots e1 e2 hP hS hl)
theorem s_zald {o n : Nat} {j : Int32} {f : Nat → Int32} (ho : h.1[o]? = some (.inl (2, n, .inl f))) (hj : ¬ (j < 0 ∨ n ≤ j.toNatClampNeg)) (C : aCF Γ) (hd : aDC Γ pc .baload 1) (k : aSW Γ (pc + 1) L (.int (f j.toNatClampNeg) :: r) h) : aSW Γ pc L (.int j :: .ref o :: r) h := by
  obtain ⟨p, l, e, R, s, m, args, below, meth, c, Q, cc, nL, b0, n0, u0, own, kind, D, cA, ea, X⟩ := Γ
  intro H locs ls cells slots e1 e2 hP hS hl
  obtain ⟨hx, hb, hml, hown, hts, hKX, hsz, hki⟩ := C
  exact va_zald hx hb hKX.1 hP o 2 (show (awd b0 ea cA h.1)[o]? = some (b0 + o, .inl (cA 2, n, .inl f)) from awd_get ho) rfl hj hd (k H locs ls cells slots e1 e2 hP hS hl)
theorem s_bald {o n : Nat} {j : Int32} {f : Nat → Int32} (ho : h.1[o]? = some (.inl (3, n, .inl f))) (hj : ¬ (j < 0 ∨ n ≤ j.toNatClampNeg)) (C : aCF Γ) (hd : aDC Γ pc .baload 1) (k : aSW Γ (pc + 1) L (.int (f j.toNatClampNeg) :: r) h) : aSW Γ pc L (.int j :: .ref o :: r) h := by
  obtain ⟨p, l, e, R, s, m, args, below, meth, c, Q, cc, nL, b0, n0, u0, own, kind, D, cA, ea, X⟩ := Γ
  intro H locs ls cells slots e1 e2 hP hS hl
  obtain ⟨hx, hb, hml, hown, hts, hKX, hsz, hki⟩ := C
  exact va_bald hx hb hKX.1 hP o 3 (show (awd b0 ea cA h.1)[o]? = some (b0 + o, .inl (cA 3, n, .inl f)) from awd_get ho) rfl hj hd (k H locs ls cells slots e1 e2 hP hS hl)
theorem s_lald {o n : Nat} {j : Int32} {f : Nat → Int64} (ho : h.1[o]? = some (.inl (1, n, .inr (.inl f)))) (hj : ¬ (j < 0 ∨ n ≤ j.toNatClampNeg)) (C : aCF Γ) (hd : aDC Γ pc .laload 1) (k : aSW Γ (pc + 1) L (.long (f j.toNatClampNeg) :: r) h) : aSW Γ pc L (.int j :: .ref o :: r) h := by
  obtain ⟨p, l, e, R, s, m, args, below, meth, c, Q, cc, nL, b0, n0, u0, own, kind, D, cA, ea, X⟩ := Γ
  intro H locs ls cells slots e1 e2 hP hS hl
  obtain ⟨hx, hb, hml, hown, hts, hKX, hsz, hki⟩ := C
  exact va_lald hx hb hKX.1 hP o 1 (show (awd b0 ea cA h.1)[o]? = some (b0 + o, .inl (cA 1, n, .inr (.inl f))) from awd_get ho) rfl hj hd (k H locs ls cells slots e1 e2 hP hS hl)
theorem s_aald4 {o n : Nat} {j : Int32} {f : Nat → Option Nat} (ho : h.1[o]? = some (.inl (4, n, .inr (.inr (.inr (.inr f)))))) (hj : ¬ (j < 0 ∨ n ≤ j.toNatClampNeg)) (C : aCF Γ) (hd : aDC Γ pc .aaload 1) (k : aSW Γ (pc + 1) L (arf (f j.toNatClampNeg) :: r) h) : aSW Γ pc L (.int j :: .ref o :: r) h := by
  obtain ⟨p, l, e, R, s, m, args, below, meth, c, Q, cc, nL, b0, n0, u0, own, kind, D, cA, ea, X⟩ := Γ
  intro H locs ls cells slots e1 e2 hP hS hl
  obtain ⟨hx, hb, hml, hown, hts, hKX, hsz, hki⟩ := C
  refine va_aldq hx hb hKX.1 hP o 4 (show (awd b0 ea cA h.1)[o]? = some (b0 + o, .inl (cA 4, n, .inr (.inr (.inr (.inr (fun i => (f i).map (fun k => b0 + k))))))) from awd_get ho) rfl hj hd ?_
  have e : va_rf ((f j.toNatClampNeg).map (fun k => b0 + k)) = acv b0 ea (arf (f j.toNatClampNeg)) := arf_map _
  rw [e]
  exact k H locs ls cells slots e1 e2 hP hS hl
theorem s_aald5 {o n : Nat} {j : Int32} {f : Nat → Option Nat} (ho : h.1[o]? = some (.inl (5, n, .inr (.inr (.inr (.inr f)))))) (hj : ¬ (j < 0 ∨ n ≤ j.toNatClampNeg)) (C : aCF Γ) (hd : aDC Γ pc .aaload 1) (k : aSW Γ (pc + 1) L (arf (f j.toNatClampNeg) :: r) h) : aSW Γ pc L (.int j :: .ref o :: r) h := by
  obtain ⟨p, l, e, R, s, m, args, below, meth, c, Q, cc, nL, b0, n0, u0, own, kind, D, cA, ea, X⟩ := Γ
  intro H locs ls cells slots e1 e2 hP hS hl
  obtain ⟨hx, hb, hml, hown, hts, hKX, hsz, hki⟩ := C
  have hlt : j.toNatClampNeg < n := Nat.not_le.mp fun q => hj (Or.inr q)
  have hc := hP o _ (show (awd b0 ea cA h.1)[o]? = some (b0 + o, .inl (cA 5, n, .inr (.inr (.inr (.inr (fun i => (f i).map (fun k => b0 + k))))))) from awd_get ho)
  exact W.aald (v := acv b0 ea (arf (f j.toNatClampNeg))) (ty := .array .int) hx hb hc ((hKX.1.2 5 _ rfl).1 n (fun j => va_rf ((f j).map (fun k => b0 + k)))) rfl (fun q => by cases q) (by show ¬ (j < 0 ∨ (arrV _ _ _).slots.size ≤ _); rw [arrV_size]; exact hj) (by show (arrV _ _ _).slots[_]? = _; rw [arrV_read _ _ hlt, arf_map (ea := ea)]) rfl rfl hd (k H locs ls cells slots e1 e2 hP hS hl)
theorem s_iast {o n : Nat} {j : Int32} {x : Int32} {f : Nat → Int32} (ho : h.1[o]? = some (.inl (0, n, .inl f))) (hj : ¬ (j < 0 ∨ n ≤ j.toNatClampNeg)) (C : aCF Γ) (hd : aDC Γ pc .iastore 1) (k : aSW Γ (pc + 1) L r (h.1.set o (.inl (0, n, .inl (upd f j.toNatClampNeg x))), h.2)) : aSW Γ pc L (.int x :: .int j :: .ref o :: r) h := by
  obtain ⟨p, l, e, R, s, m, args, below, meth, c, Q, cc, nL, b0, n0, u0, own, kind, D, cA, ea, X⟩ := Γ
  intro H locs ls cells slots e1 e2 hP hS hl
  obtain ⟨hx, hb, hml, hown, hts, hKX, hsz, hki⟩ := C
  refine va_iast hx hb hKX.1 hP awd_D hS o 0 (show (awd b0 ea cA h.1)[o]? = some (b0 + o, .inl (cA 0, n, .inl f)) from awd_get ho) rfl hj hd (fun H1 locs1 hP1 hD1 hS1 => ?_)
  refine k H1 locs1 ls cells slots (by rw [List.length_set]; exact e1) e2 ?_ hS1 hl
  rw [← awd_set]
  exact hP1
theorem s_zast {o n : Nat} {j : Int32} {x : Int32} {f : Nat → Int32} (ho : h.1[o]? = some (.inl (2, n, .inl f))) (hj : ¬ (j < 0 ∨ n ≤ j.toNatClampNeg)) (C : aCF Γ) (hd : aDC Γ pc .bastore 1) (k : aSW Γ (pc + 1) L r (h.1.set o (.inl (2, n, .inl (upd f j.toNatClampNeg (x &&& 1)))), h.2)) : aSW Γ pc L (.int x :: .int j :: .ref o :: r) h := by
  obtain ⟨p, l, e, R, s, m, args, below, meth, c, Q, cc, nL, b0, n0, u0, own, kind, D, cA, ea, X⟩ := Γ
  intro H locs ls cells slots e1 e2 hP hS hl
  obtain ⟨hx, hb, hml, hown, hts, hKX, hsz, hki⟩ := C
  refine va_zast hx hb hKX.1 hP awd_D hS o 2 (show (awd b0 ea cA h.1)[o]? = some (b0 + o, .inl (cA 2, n, .inl f)) from awd_get ho) rfl hj hd (fun H1 locs1 hP1 hD1 hS1 => ?_)
  refine k H1 locs1 ls cells slots (by rw [List.length_set]; exact e1) e2 ?_ hS1 hl
  rw [← awd_set]
  exact hP1
theorem s_bast {o n : Nat} {j : Int32} {x : Int32} {f : Nat → Int32} (ho : h.1[o]? = some (.inl (3, n, .inl f))) (hj : ¬ (j < 0 ∨ n ≤ j.toNatClampNeg)) (C : aCF Γ) (hd : aDC Γ pc .bastore 1) (k : aSW Γ (pc + 1) L r (h.1.set o (.inl (3, n, .inl (upd f j.toNatClampNeg x.toInt8.toInt32))), h.2)) : aSW Γ pc L (.int x :: .int j :: .ref o :: r) h := by
  obtain ⟨p, l, e, R, s, m, args, below, meth, c, Q, cc, nL, b0, n0, u0, own, kind, D, cA, ea, X⟩ := Γ
  intro H locs ls cells slots e1 e2 hP hS hl
  obtain ⟨hx, hb, hml, hown, hts, hKX, hsz, hki⟩ := C
  refine va_bast hx hb hKX.1 hP awd_D hS o 3 (show (awd b0 ea cA h.1)[o]? = some (b0 + o, .inl (cA 3, n, .inl f)) from awd_get ho) rfl hj hd (fun H1 locs1 hP1 hD1 hS1 => ?_)
  refine k H1 locs1 ls cells slots (by rw [List.length_set]; exact e1) e2 ?_ hS1 hl
  rw [← awd_set]
  exact hP1
theorem s_last {o n : Nat} {j : Int32} {x : Int64} {f : Nat → Int64} (ho : h.1[o]? = some (.inl (1, n, .inr (.inl f)))) (hj : ¬ (j < 0 ∨ n ≤ j.toNatClampNeg)) (C : aCF Γ) (hd : aDC Γ pc .lastore 1) (k : aSW Γ (pc + 1) L r (h.1.set o (.inl (1, n, .inr (.inl (vp_updL f j.toNatClampNeg x)))), h.2)) : aSW Γ pc L (.long x :: .int j :: .ref o :: r) h := by
  obtain ⟨p, l, e, R, s, m, args, below, meth, c, Q, cc, nL, b0, n0, u0, own, kind, D, cA, ea, X⟩ := Γ
  intro H locs ls cells slots e1 e2 hP hS hl
  obtain ⟨hx, hb, hml, hown, hts, hKX, hsz, hki⟩ := C
  refine va_last hx hb hKX.1 hP awd_D hS o 1 (show (awd b0 ea cA h.1)[o]? = some (b0 + o, .inl (cA 1, n, .inr (.inl f))) from awd_get ho) rfl hj hd (fun H1 locs1 hP1 hD1 hS1 => ?_)
  refine k H1 locs1 ls cells slots (by rw [List.length_set]; exact e1) e2 ?_ hS1 hl
  rw [← awd_set]
  exact hP1
theorem s_aast {o n q : Nat} {j : Int32} {f : Nat → Option Nat} {fs : List Value} (ho : h.1[o]? = some (.inl (4, n, .inr (.inr (.inr (.inr f)))))) (hq : h.1[q]? = some (.inr (8, fs))) (hj : ¬ (j < 0 ∨ n ≤ j.toNatClampNeg)) (C : aCF Γ) (hd : aDC Γ pc .aastore 1) (k : aSW Γ (pc + 1) L r (h.1.set o (.inl (4, n, .inr (.inr (.inr (.inr (va_up f j.toNatClampNeg (some q))))))), h.2)) : aSW Γ pc L (.ref q :: .int j :: .ref o :: r) h := by
  obtain ⟨p, l, e, R, s, m, args, below, meth, c, Q, cc, nL, b0, n0, u0, own, kind, D, cA, ea, X⟩ := Γ
  intro H locs ls cells slots e1 e2 hP hS hl
  obtain ⟨hx, hb, hml, hown, hts, hKX, hsz, hki⟩ := C
  refine va_astq (r := (zCN 8, zT 8, zN 8)) (vs := fs.map (acv b0 ea)) hx hb hKX.1 hP awd_D hS o 4 q 8 (show (awd b0 ea cA h.1)[o]? = some (b0 + o, .inl (cA 4, n, .inr (.inr (.inr (.inr (fun i => (f i).map (fun k => b0 + k))))))) from awd_get ho) rfl (show (awd b0 ea cA h.1)[q]? = some (b0 + q, .inr (8, fs.map (acv b0 ea))) from awd_get hq) (zCl_get (by decide)) hj hd (fun H1 locs1 hP1 hD1 hS1 => ?_)
  refine k H1 locs1 ls cells slots (by rw [List.length_set]; exact e1) e2 ?_ hS1 hl
  rw [← awd_set]
  have e : (fun i => (va_up f j.toNatClampNeg (some q) i).map (fun k => b0 + k)) = va_up (fun i => (f i).map (fun k => b0 + k)) j.toNatClampNeg (some (b0 + q)) := by
    funext i
    unfold va_up
    split <;> rfl
  show va_P D zCl ((awd b0 ea cA h.1).set o (b0 + o, .inl (cA 4, n, .inr (.inr (.inr (.inr (fun i => (va_up f j.toNatClampNeg (some q) i).map (fun k => b0 + k)))))))) H1
  rw [e]
  exact hP1
theorem s_alen {o n : Nat} {f : (Nat → Int32) ⊕ (Nat → Int64) ⊕ (Nat → UInt32) ⊕ (Nat → UInt64) ⊕ (Nat → Option Nat)} (ho : h.1[o]? = some (.inl (0, n, f))) (C : aCF Γ) (hd : aDC Γ pc .arraylength 1) (k : aSW Γ (pc + 1) L (.int (Int32.ofNat n) :: r) h) : aSW Γ pc L (.ref o :: r) h := by
  obtain ⟨p, l, e, R, s, m, args, below, meth, c, Q, cc, nL, b0, n0, u0, own, kind, D, cA, ea, X⟩ := Γ
  intro H locs ls cells slots e1 e2 hP hS hl
  obtain ⟨hx, hb, hml, hown, hts, hKX, hsz, hki⟩ := C
  have e : (acA b0 (n, f)).1 = n := by
    rcases f with f | f | f | f | f <;> rfl
  exact va_alen hx hb hKX.1 hP o 0 (show (awd b0 ea cA h.1)[o]? = some (b0 + o, .inl (cA 0, acA b0 (n, f))) from awd_get ho) rfl (by rw [e]) hd (k H locs ls cells slots e1 e2 hP hS hl)
theorem s_alen1 {o n : Nat} {f : (Nat → Int32) ⊕ (Nat → Int64) ⊕ (Nat → UInt32) ⊕ (Nat → UInt64) ⊕ (Nat → Option Nat)} (ho : h.1[o]? = some (.inl (1, n, f))) (C : aCF Γ) (hd : aDC Γ pc .arraylength 1) (k : aSW Γ (pc + 1) L (.int (Int32.ofNat n) :: r) h) : aSW Γ pc L (.ref o :: r) h := by
  obtain ⟨p, l, e, R, s, m, args, below, meth, c, Q, cc, nL, b0, n0, u0, own, kind, D, cA, ea, X⟩ := Γ
  intro H locs ls cells slots e1 e2 hP hS hl
  obtain ⟨hx, hb, hml, hown, hts, hKX, hsz, hki⟩ := C
  have e : (acA b0 (n, f)).1 = n := by
    rcases f with f | f | f | f | f <;> rfl
  exact va_alen hx hb hKX.1 hP o 1 (show (awd b0 ea cA h.1)[o]? = some (b0 + o, .inl (cA 1, acA b0 (n, f))) from awd_get ho) rfl (by rw [e]) hd (k H locs ls cells slots e1 e2 hP hS hl)
theorem s_xld {x n : Nat} {j : Int32} {f : Nat → Int32} (hX : aXX Γ x = some (n, f)) (hj : ¬ (j < 0 ∨ n ≤ j.toNatClampNeg)) (C : aCF Γ) (hd : aDC Γ pc .iaload 1) (k : aSW Γ (pc + 1) L (.int (f j.toNatClampNeg) :: r) h) : aSW Γ pc L (.int j :: .retAddr x :: r) h := by
  obtain ⟨p, l, e, R, s, m, args, below, meth, c, Q, cc, nL, b0, n0, u0, own, kind, D, cA, ea, X⟩ := Γ
  intro H locs ls cells slots e1 e2 hP hS hl
  obtain ⟨hx, hb, hml, hown, hts, hKX, hsz, hki⟩ := C
  exact va_ti hx hb (hKX.2.1 x n f hX) hS hj rfl hd (k H locs ls cells slots e1 e2 hP hS hl)
theorem s_xlen {x n : Nat} {f : Nat → Int32} (hX : aXX Γ x = some (n, f)) (C : aCF Γ) (hd : aDC Γ pc .arraylength 1) (k : aSW Γ (pc + 1) L (.int (Int32.ofNat n) :: r) h) : aSW Γ pc L (.retAddr x :: r) h := by
  obtain ⟨p, l, e, R, s, m, args, below, meth, c, Q, cc, nL, b0, n0, u0, own, kind, D, cA, ea, X⟩ := Γ
  intro H locs ls cells slots e1 e2 hP hS hl
  obtain ⟨hx, hb, hml, hown, hts, hKX, hsz, hki⟩ := C
  obtain ⟨cell, h1, h2, h3, h4, h5, h6, h7⟩ := hKX.2.1 x n f hX
  exact W.alen hx hb (by rw [hS.2.1 _ (Array.getElem?_eq_some_iff.mp h1).1 h7]; exact h1) h2 h5 rfl rfl hd (k H locs ls cells slots e1 e2 hP hS hl)
theorem s_gets (ho6 : aown Γ = 6) (C : aCF Γ) (hd : aDC Γ pc (.getstatic 49) 3) (k : aSW Γ (pc + 3) L (.retAddr 0 :: r) h) : aSW Γ pc L r h := by
  obtain ⟨p, l, e, R, s, m, args, below, meth, c, Q, cc, nL, b0, n0, u0, own, kind, D, cA, ea, X⟩ := Γ
  intro H locs ls cells slots e1 e2 hP hS hl
  obtain ⟨hx, hb, hml, hown, hts, hKX, hsz, hki⟩ := C
  have ho6 : own = 6 := ho6
  subst ho6
  exact va_getsN hx hb hKX.2.2.1 hS hown (va_Nw.use rfl hKX.2.2.2.2.1) (fun _ h9 => h9) hd (k H locs ls cells slots e1 e2 hP hS hl)
theorem s_new {ix a : Nat} (ha : a < 13) (hcl : Cond.classLink (zCN (aown Γ)) ix (zCN a) ∈ zW) (hins : Cond.instantiable (zCN a) (zN a) ∈ zW) (hini : Cond.initialized (zCN a) ∈ zW) (hR : aRM Γ (h.1 ++ [.inr (a, (List.range (zN a)).map (fun c => defaultValue (zY a c)))], h.2 + zN a)) (C : aCF Γ) (hd : aDC Γ pc (.new ix) 3)
    (k : aSW Γ (pc + 3) L (.ref h.1.length :: r) (h.1 ++ [.inr (a, (List.range (zN a)).map (fun c => defaultValue (zY a c)))], h.2 + zN a)) : aSW Γ pc L r h := by
  obtain ⟨p, l, e, R, s, m, args, below, meth, c, Q, cc, nL, b0, n0, u0, own, kind, D, cA, ea, X⟩ := Γ
  intro H locs ls cells slots e1 e2 hP hS hl
  obtain ⟨hx, hb, hml, hown, hts, hKX, hsz, hki⟩ := C
  obtain ⟨hR1, hR2⟩ := hR
  rw [List.length_append] at hR1
  simp only [List.length_cons, List.length_nil] at hR1
  dsimp only at hR2
  refine va_new (C := zCN a) (T := zT a) (N := zN a) (ci := a) (fs := ((List.range (zN a)).map (fun c => defaultValue (zY a c))).map (acv b0 ea)) hx hb hts (z_uws ha) (zY a) (z_ty a ha) hown (hts _ hcl) (hts _ hins) (hts _ hini) hKX.1 hP awd_D hS (fun q hq => by rw [hsz] at hq; exact Nat.le_trans (Nat.le_add_right _ _) hq) (zCl_get ha) (fun j hj => by simp [vp_V, hj, acv_def]) (by omega) (by omega) hd (fun q H1 hP1 hD1 hS1 => aW_sz (fun hz => ?_))
  have hq : q = b0 + h.1.length := aq_eq hP1 hD1 (by omega)
  subst hq
  refine k H1 locs ls (cells + 1) (slots + zN a) (by rw [List.length_append]; simp only [List.length_cons, List.length_nil]; omega) (by dsimp only; omega) ?_ hS1 hl
  rw [awd_push]
  exact hP1
theorem s_newa {t : Nat} {at' : ArrayType} {x : Int32} (hat : zTy t = some at') (hx0 : ¬ (x < 0 ∨ 100000 < x)) (har : Cond.arrayClass (newarray.typeOf at') ∈ zW) (hR : aRM Γ (h.1 ++ [.inl (t, x.toNatClampNeg, azero t)], h.2 + x.toNatClampNeg)) (C : aCF Γ) (hd : aDC Γ pc (.newarray at') 2)
    (k : aSW Γ (pc + 2) L (.ref h.1.length :: r) (h.1 ++ [.inl (t, x.toNatClampNeg, azero t)], h.2 + x.toNatClampNeg)) : aSW Γ pc L (.int x :: r) h := by
  obtain ⟨p, l, e, R, s, m, args, below, meth, c, Q, cc, nL, b0, n0, u0, own, kind, D, cA, ea, X⟩ := Γ
  intro H locs ls cells slots e1 e2 hP hS hl
  obtain ⟨hx, hb, hml, hown, hts, hKX, hsz, hki⟩ := C
  obtain ⟨hR1, hR2⟩ := hR
  rw [List.length_append] at hR1
  simp only [List.length_cons, List.length_nil] at hR1
  dsimp only at hR2
  have hn : ¬ x < 0 := fun q => hx0 (Or.inl q)
  have hN : x.toNatClampNeg ≤ 100000 := by
    have h2 : ¬ 100000 < x := fun q => hx0 (Or.inr q)
    have h3 : x.toInt ≤ 100000 := by
      have := Int32.not_lt.mp h2
      exact Int32.le_iff_toInt_le.mp this
    have h4 : x.toNatClampNeg = x.toInt.toNat := rfl
    omega
  have key : ∀ (ty : FieldType), newarray.typeOf at' = ty → componentBytes ty ≤ 8 → (∀ cA' : ClassId, vp_cell cA' (x.toNatClampNeg, azero t) = arrV cA' x.toNatClampNeg (fun _ => defaultValue ty)) → (atys cA)[t]? = some (cA t, ty) → (∀ cA' : ClassId, va_RA s cA' ty → cA' = cA t) → acA b0 (x.toNatClampNeg, azero t) = (x.toNatClampNeg, azero t) → W p l e R s m args below meth c H locs cells slots Q (F0 m pc ls (.int x :: r.map (acv b0 ea))) := by
    intro ty hty hcb hvc hti hun hac
    refine va_newa (atype := at') (ty := ty) (a0 := (x.toNatClampNeg, azero t)) hx hb (hts _ har) hty hKX.1 hP awd_D hS (fun q hq => by rw [hsz] at hq; exact Nat.le_trans (Nat.le_add_right _ _) hq) hvc hn rfl (Nat.le_trans (Nat.mul_le_mul hN hcb) (by decide)) (by omega) (by omega) hd (fun q cA' H1 hK1 hP1 hD1 hS1 => aW_sz (fun hz => ?_))
    have hq : q = b0 + h.1.length := aq_eq hP1 hD1 (by omega)
    subst hq
    have hc : cA' = cA t := hun cA' (hK1.2 6 (cA', ty) rfl).2
    subst hc
    refine k H1 locs ls (cells + 1) (slots + x.toNatClampNeg) (by rw [List.length_append]; simp only [List.length_cons, List.length_nil]; omega) (by dsimp only; omega) ?_ hS1 hl
    rw [awd_push]
    show va_P D zCl (awd b0 ea cA h.1 ++ [(b0 + h.1.length, .inl (cA t, acA b0 (x.toNatClampNeg, azero t)))]) H1
    rw [hac]
    exact hP1
  have hun : ∀ (i : Nat) (ty : FieldType), (∀ C, ty ≠ .object C) → (atys cA)[i]? = some (cA i, ty) → ∀ cA' : ClassId, va_RA s cA' ty → cA' = cA i := by
    intro i ty hno hi cA' h1
    have h2 := (hKX.1.2 i (cA i, ty) hi).2
    cases ty with
    | object C => exact absurd rfl (hno C)
    | _ => exact Option.some.inj (h1.symm.trans h2)
  match t, hat with
  | 0, hat => cases hat; exact key .int rfl (by decide) (fun _ => rfl) rfl (hun 0 .int (fun C q => by cases q) rfl) rfl
  | 1, hat => cases hat; exact key .long rfl (by decide) (fun _ => rfl) rfl (hun 1 .long (fun C q => by cases q) rfl) rfl
  | 2, hat => cases hat; exact key .boolean rfl (by decide) (fun _ => rfl) rfl (hun 2 .boolean (fun C q => by cases q) rfl) rfl
  | 3, hat => cases hat; exact key .byte rfl (by decide) (fun _ => rfl) rfl (hun 3 .byte (fun C q => by cases q) rfl) rfl
  | n + 4, hat => cases hat
theorem s_newq {ix : Nat} {x : Int32} (hx0 : ¬ (x < 0 ∨ 100000 < x)) (hcl : Cond.classLink (zCN (aown Γ)) ix "AcresPaid$Season" ∈ zW) (hR : aRM Γ (h.1 ++ [.inl (4, x.toNatClampNeg, .inr (.inr (.inr (.inr (fun _ => none)))))], h.2 + x.toNatClampNeg)) (C : aCF Γ) (hd : aDC Γ pc (.anewarray ix) 3)
    (k : aSW Γ (pc + 3) L (.ref h.1.length :: r) (h.1 ++ [.inl (4, x.toNatClampNeg, .inr (.inr (.inr (.inr (fun _ => none)))))], h.2 + x.toNatClampNeg)) : aSW Γ pc L (.int x :: r) h := by
  obtain ⟨p, l, e, R, s, m, args, below, meth, c, Q, cc, nL, b0, n0, u0, own, kind, D, cA, ea, X⟩ := Γ
  intro H locs ls cells slots e1 e2 hP hS hl
  obtain ⟨hx, hb, hml, hown, hts, hKX, hsz, hki⟩ := C
  obtain ⟨hR1, hR2⟩ := hR
  rw [List.length_append] at hR1
  simp only [List.length_cons, List.length_nil] at hR1
  dsimp only at hR2
  have hn : ¬ x < 0 := fun q => hx0 (Or.inl q)
  have hN : x.toNatClampNeg ≤ 100000 := by
    have h2 : ¬ 100000 < x := fun q => hx0 (Or.inr q)
    have h3 : x.toInt ≤ 100000 := Int32.le_iff_toInt_le.mp (Int32.not_lt.mp h2)
    have h4 : x.toNatClampNeg = x.toInt.toNat := rfl
    omega
  refine va_newq (C := "AcresPaid$Season") hx hb hown (hts _ hcl) hKX.2.2.2.2.2.1 hKX.1 hP awd_D hS (fun q hq => by rw [hsz] at hq; exact Nat.le_trans (Nat.le_add_right _ _) hq) hn rfl (by omega) (by omega) (by omega) hd (fun q cA' H1 hK1 hP1 hD1 hS1 => aW_sz (fun hz => ?_))
  have hq : q = b0 + h.1.length := aq_eq hP1 hD1 (by omega)
  subst hq
  have hc : cA' = cA 4 := by
    obtain ⟨k1, c1, -, -, -, g1⟩ := (hK1.2 6 (cA', .object "AcresPaid$Season") rfl).2
    obtain ⟨k2, c2, -, -, -, g2⟩ := (hKX.1.2 4 (cA 4, .object "AcresPaid$Season") rfl).2
    exact Option.some.inj (g1.symm.trans g2)
  subst hc
  refine k H1 locs ls (cells + 1) (slots + x.toNatClampNeg) (by rw [List.length_append]; simp only [List.length_cons, List.length_nil]; omega) (by dsimp only; omega) ?_ hS1 hl
  rw [awd_push]
  exact hP1
theorem s_newA {ix : Nat} {x : Int32} (hx0 : ¬ (x < 0 ∨ 100000 < x)) (hcl : Cond.classLink (zCN (aown Γ)) ix "[I" ∈ zW) (hR : aRM Γ (h.1 ++ [.inl (5, x.toNatClampNeg, .inr (.inr (.inr (.inr (fun _ => none)))))], h.2 + x.toNatClampNeg)) (C : aCF Γ) (hd : aDC Γ pc (.anewarray ix) 3)
    (k : aSW Γ (pc + 3) L (.ref h.1.length :: r) (h.1 ++ [.inl (5, x.toNatClampNeg, .inr (.inr (.inr (.inr (fun _ => none)))))], h.2 + x.toNatClampNeg)) : aSW Γ pc L (.int x :: r) h := by
  obtain ⟨p, l, e, R, s, m, args, below, meth, c, Q, cc, nL, b0, n0, u0, own, kind, D, cA, ea, X⟩ := Γ
  intro H locs ls cells slots e1 e2 hP hS hl
  obtain ⟨hx, hb, hml, hown, hts, hKX, hsz, hki⟩ := C
  obtain ⟨hR1, hR2⟩ := hR
  rw [List.length_append] at hR1
  simp only [List.length_cons, List.length_nil] at hR1
  dsimp only at hR2
  have hn : ¬ x < 0 := fun q => hx0 (Or.inl q)
  have hN : x.toNatClampNeg ≤ 100000 := by
    have h2 : ¬ 100000 < x := fun q => hx0 (Or.inr q)
    have h3 : x.toInt ≤ 100000 := Int32.le_iff_toInt_le.mp (Int32.not_lt.mp h2)
    have h4 : x.toNatClampNeg = x.toInt.toNat := rfl
    omega
  refine W.anewA (t := .int) hx hb hown (hts _ hcl) hKX.2.2.2.2.2.2 rfl hd rfl hn (by omega) (by omega) (by omega) fun cA' kA comp f1 f2 f3 f4 => ?_
  have hc : cA' = cA 5 := Option.some.inj (f1.symm.trans (hKX.1.2 5 (cA 5, .array .int) rfl).2)
  subst hc
  generalize hH1 : H.push ({ cls := cA 5, slots := Array.replicate x.toNatClampNeg .null, vm := .none } : Cell) = H1
  have z1 : H1.size = H.size + 1 := by rw [← hH1, Array.size_push]
  have g1 : H1[H.size]? = some (arrV (cA 5) x.toNatClampNeg (fun _ => .null)) := by rw [← hH1, Array.getElem?_push_size, ← arrV_new]
  have o1 : ∀ q : Nat, q < H.size → H1[q]? = H[q]? := fun q hq => by rw [← hH1, Array.getElem?_push, if_neg (Nat.ne_of_lt hq)]
  have hk : ∀ (k : Nat) (y : Nat × va_E), (awd b0 ea cA h.1)[k]? = some y → H1[y.1]? = H[y.1]? := fun k y hy => o1 y.1 ((hP k y hy).lt)
  refine aW_sz (fun hz => ?_)
  have hP1 : va_P D zCl (awd b0 ea cA h.1 ++ [(H.size, .inl (cA 5, x.toNatClampNeg, .inr (.inr (.inr (.inr (fun _ => none))))))]) H1 := (hP.kept hk).app (fun k y hy => by
    have hz2 : k < 1 := (List.getElem?_eq_some_iff.mp hy).1
    rw [show k = 0 by omega] at hy
    cases hy
    show H1[H.size]? = some (vp_cell _ _)
    exact g1)
  have hD1 : va_D (fun q => b0 ≤ q) (awd b0 ea cA h.1 ++ [(H.size, .inl (cA 5, x.toNatClampNeg, .inr (.inr (.inr (.inr (fun _ => none))))))]) := awd_D.push hP rfl (by
    have := hS.1
    rw [hsz] at this
    exact Nat.le_trans (Nat.le_add_right _ _) this)
  have hq : H.size = b0 + h.1.length := aq_eq hP1 hD1 (by omega)
  rw [hq] at hP1
  have hS1 : va_S (fun q => b0 ≤ q) s.heap H1 locs := ⟨Nat.le_trans hS.1 (by omega), fun y h1 h2 => (o1 y (Nat.lt_of_lt_of_le h1 hS.1)).trans (hS.2.1 y h1 h2), hS.2.2⟩
  have kk := k H1 locs ls (cells + 1) (slots + x.toNatClampNeg) (by rw [List.length_append]; simp only [List.length_cons, List.length_nil]; omega) (by dsimp only; omega) (by rw [awd_push]; exact hP1) hS1 hl
  rw [hq]
  exact kk
end BZ
end
section
-- ===== one step; what it makes only grows =====
theorem tI_some {st : List Value} {f : Int32 → List Value → Option aR} {res : aR} (h : tI st f = some res) : ∃ x r, st = .int x :: r ∧ f x r = some res := by
  unfold tI at h
  split at h
  · exact ⟨_, _, rfl, h⟩
  · cases h
theorem tII_some {st : List Value} {f : Int32 → Int32 → List Value → Option aR} {res : aR} (h : tII st f = some res) : ∃ x y r, st = .int y :: .int x :: r ∧ f x y r = some res := by
  unfold tII at h
  split at h
  · exact ⟨_, _, _, rfl, h⟩
  · cases h
theorem tJ_some {st : List Value} {f : Int64 → List Value → Option aR} {res : aR} (h : tJ st f = some res) : ∃ x r, st = .long x :: r ∧ f x r = some res := by
  unfold tJ at h
  split at h
  · exact ⟨_, _, rfl, h⟩
  · cases h
theorem tJJ_some {st : List Value} {f : Int64 → Int64 → List Value → Option aR} {res : aR} (h : tJJ st f = some res) : ∃ x y r, st = .long y :: .long x :: r ∧ f x y r = some res := by
  unfold tJJ at h
  split at h
  · exact ⟨_, _, _, rfl, h⟩
  · cases h
theorem tJI_some {st : List Value} {f : Int64 → Int32 → List Value → Option aR} {res : aR} (h : tJI st f = some res) : ∃ x y r, st = .int y :: .long x :: r ∧ f x y r = some res := by
  unfold tJI at h
  split at h
  · exact ⟨_, _, _, rfl, h⟩
  · cases h
theorem aobj_some {h : aH} {o a : Nat} {f : List Value → Option aR} {res : aR} (e : aobj h o a f = some res) : ∃ fs, h.1[o]? = some (.inr (a, fs)) ∧ f fs = some res := by
  unfold aobj at e
  split at e
  · rename_i ci fs hg
    cases hb : Nat.beq ci a with
    | false => rw [hb] at e; cases e
    | true =>
      rw [hb] at e
      have := Nat.eq_of_beq_eq_true hb
      subst this
      exact ⟨fs, hg, e⟩
  · cases e
theorem aarI_some {h : aH} {o : Nat} {f : Nat → Nat → (Nat → Int32) → Option aR} {res : aR} (e : aarI h o f = some res) : ∃ t n g, h.1[o]? = some (.inl (t, n, .inl g)) ∧ f t n g = some res := by
  unfold aarI at e
  split at e
  · exact ⟨_, _, _, by assumption, e⟩
  · cases e
theorem aarJ_some {h : aH} {o : Nat} {f : Nat → (Nat → Int64) → Option aR} {res : aR} (e : aarJ h o f = some res) : ∃ n g, h.1[o]? = some (.inl (1, n, .inr (.inl g))) ∧ f n g = some res := by
  unfold aarJ at e
  split at e
  · exact ⟨_, _, by assumption, e⟩
  · cases e
theorem aarR_some {h : aH} {o : Nat} {f : Nat → Nat → (Nat → Option Nat) → Option aR} {res : aR} (e : aarR h o f = some res) : ∃ t n g, h.1[o]? = some (.inl (t, n, .inr (.inr (.inr (.inr g))))) ∧ f t n g = some res := by
  unfold aarR at e
  split at e
  · exact ⟨_, _, _, by assumption, e⟩
  · cases e
theorem abif {b : Bool} {x : Option aR} {res : aR} (h : (bif b then x else none) = some res) : b = true ∧ x = some res := by
  cases b with
  | false => cases h
  | true => exact ⟨rfl, h⟩
theorem anite {c : Prop} [Decidable c] {x : Option aR} {res : aR} (h : (if c then none else x) = some res) : ¬ c ∧ x = some res := by
  by_cases q : c
  · rw [if_pos q] at h; cases h
  · rw [if_neg q] at h; exact ⟨q, h⟩
theorem aite {c : Prop} [Decidable c] {x y : Option aR} {res : aR} (h : (if c then x else y) = some res) : (c ∧ x = some res) ∨ (¬ c ∧ y = some res) := by
  by_cases q : c
  · rw [if_pos q] at h; exact Or.inl ⟨q, h⟩
  · rw [if_neg q] at h; exact Or.inr ⟨q, h⟩
theorem asw_some {x : Int32} {k : Int → Option aR} {d : Int} {res : aR} : ∀ (l : List Int) (lo : Int), -2147483648 ≤ lo → lo + l.length ≤ 2147483648 → asw x k d lo l = some res →
    (∃ (i : Nat) (o : Int), l[i]? = some o ∧ x.toInt = lo + i ∧ k o = some res) ∨ ((x.toInt < lo ∨ lo + l.length ≤ x.toInt) ∧ k d = some res) := by
  intro l
  induction l with
  | nil =>
    intro lo h1 h2 h
    refine Or.inr ⟨?_, h⟩
    simp only [List.length_nil]
    omega
  | cons o r ih =>
    intro lo h1 h2 h
    simp only [List.length_cons] at h2
    unfold asw at h
    rcases aite h with ⟨q, h⟩ | ⟨q, h⟩
    · refine Or.inl ⟨0, o, rfl, ?_, h⟩
      rw [q, Int32.toInt_ofInt_of_le (by omega) (by omega)]
      simp
    · have hx : x.toInt ≠ lo := by
        intro e
        apply q
        apply Int32.toInt_inj.mp
        rw [Int32.toInt_ofInt_of_le (by omega) (by omega)]
        exact e
      rcases ih (lo + 1) (by omega) (by omega) h with ⟨i, o', g1, g2, g3⟩ | ⟨g1, g2⟩
      · exact Or.inl ⟨i + 1, o', by simpa using g1, by omega, g3⟩
      · refine Or.inr ⟨?_, g2⟩
        simp only [List.length_cons]
        omega
theorem alw_some {x : Int32} {k : Int → Option aR} {d : Int} {res : aR} : ∀ (l : List (Int × Int)), (∀ q ∈ l, -2147483648 ≤ q.1 ∧ q.1 < 2147483648) → alw x k d l = some res → k (Op.lookupswitch.offset l d x.toInt) = some res := by
  intro l
  induction l with
  | nil => intro _ h; exact h
  | cons q r ih =>
    intro hl h
    obtain ⟨a, o⟩ := q
    obtain ⟨l1, l2⟩ := hl (a, o) List.mem_cons_self
    dsimp only at l1 l2
    unfold alw at h
    rw [Op.lookupswitch.offset_cons]
    rcases aite h with ⟨q, h⟩ | ⟨q, h⟩
    · rw [if_pos (by rw [q, Int32.toInt_ofInt_of_le (by omega) (by omega)])]
      exact h
    · rw [if_neg]
      · exact ih (fun q hq => hl q (List.mem_cons_of_mem _ hq)) h
      · intro e
        apply q
        apply Int32.toInt_inj.mp
        rw [Int32.toInt_ofInt_of_le (by omega) (by omega)]
        exact e.symm
theorem asw_any {x : Int32} {k : Int → Option aR} {d : Int} {res : aR} : ∀ (l : List Int) (lo : Int), asw x k d lo l = some res → ∃ o, k o = some res := by
  intro l
  induction l with
  | nil => intro lo h; exact ⟨d, h⟩
  | cons o r ih =>
    intro lo h
    unfold asw at h
    rcases aite h with ⟨q, h⟩ | ⟨q, h⟩
    · exact ⟨o, h⟩
    · exact ih _ h
theorem alw_any {x : Int32} {k : Int → Option aR} {d : Int} {res : aR} : ∀ (l : List (Int × Int)), alw x k d l = some res → ∃ o, k o = some res := by
  intro l
  induction l with
  | nil => intro h; exact ⟨d, h⟩
  | cons o r ih =>
    intro h
    unfold alw at h
    rcases aite h with ⟨q, h⟩ | ⟨q, h⟩
    · exact ⟨o.2, h⟩
    · exact ih h
set_option maxHeartbeats 4000000 in
/-- whatever the instruction, it goes on, with no fewer cells -/
theorem aX1_goes {X : aX} {own kind : Nat} {k : Nat → aL → List Value → aH → Option aR} {i : aI} {L : aL} {st : List Value} {h : aH} {res : aR} (he : aX1 X own kind k i L st h = some res) :
    ∃ pc' L' st' h', k pc' L' st' h' = some res ∧ h.1.length ≤ h'.1.length ∧ h.2 ≤ h'.2 := by
  obtain ⟨pc, ins, len, a, b⟩ := i
  have nz : ∀ {P : Prop} {o : Option aR}, o = none → o = some res → P := fun h1 h2 => by rw [h1] at h2; cases h2
  cases ins with
  | tableswitch d lo hi offs =>
    obtain ⟨x, r, rfl, he⟩ := tI_some he
    obtain ⟨o, ho⟩ := asw_any _ _ he
    exact ⟨_, _, _, _, ho, Nat.le_refl _, Nat.le_refl _⟩
  | lookupswitch d ps =>
    obtain ⟨x, r, rfl, he⟩ := tI_some he
    obtain ⟨o, ho⟩ := alw_any _ he
    exact ⟨_, _, _, _, ho, Nat.le_refl _, Nat.le_refl _⟩
  | _ =>
    simp only [aX1, tI, tII, tJ, tJJ, tJI, aobj, aarI, aarJ, aarR, cond_eq_ite] at he
    repeat' split at he
    all_goals first
      | exact absurd he (by simp)
      | exact ⟨_, _, _, _, he, by simp, by simp⟩
end
section
-- ===== an instruction that is neither a call nor a return: our machine's step is a step =====
theorem z_any1 {l : List (Nat × Nat × Nat × Nat)} {o ix a : Nat} (h : l.any (fun q => Nat.beq q.1 o && Nat.beq q.2.1 ix && Nat.beq q.2.2.1 a) = true) : ∃ p, (o, ix, a, p) ∈ l := by
  obtain ⟨q, hq, hh⟩ := List.any_eq_true.mp h
  simp only [Bool.and_eq_true, Nat.beq_eq] at hh
  obtain ⟨⟨rfl, rfl⟩, rfl⟩ := hh
  exact ⟨q.2.2.2, hq⟩
theorem z_cst {o ix a : Nat} (h : zkcp.any (fun q => Nat.beq q.1 o && Nat.beq q.2.1 ix && Nat.beq q.2.2.1 a) = true) : Cond.constant (zCN o) ix (Int32.ofNat a) ∈ zW := by
  obtain ⟨p, hp⟩ := z_any1 h
  exact zTab_mem (List.all_eq_true.mp zkcp_ok _ hp)
theorem z_cstl {o ix a : Nat} (h : zlcp.any (fun q => Nat.beq q.1 o && Nat.beq q.2.1 ix && Nat.beq q.2.2.1 a) = true) : Cond.constantLong (zCN o) ix (Int64.ofNat a) ∈ zW := by
  obtain ⟨p, hp⟩ := z_any1 h
  exact zTab_mem (List.all_eq_true.mp zlcp_ok _ hp)
theorem z_cls {o ix a : Nat} (h : zccp.any (fun q => Nat.beq q.1 o && Nat.beq q.2.1 ix && Nat.beq q.2.2.1 a) = true) : a < 13 ∧ Cond.classLink (zCN o) ix (zCN a) ∈ zW := by
  obtain ⟨p, hp⟩ := z_any1 h
  have h1 := List.all_eq_true.mp zccp_ok _ hp
  simp only [Bool.and_eq_true, decide_eq_true_eq] at h1
  exact ⟨h1.1, zTab_mem h1.2⟩
def zIW (c : Nat) : Bool := lw_tbl.any (fun w => match w with
  | .instantiable C n => decide (C = zCN c) && decide (n = zN c)
  | _ => false) && lw_tbl.any (fun w => match w with
  | .initialized C => decide (C = zCN c)
  | _ => false)
theorem zIW_ok : (List.range 13).all zIW = true := by decide +kernel
theorem z_ini {c : Nat} (hc : c < 13) : Cond.instantiable (zCN c) (zN c) ∈ zW ∧ Cond.initialized (zCN c) ∈ zW := by
  have h := List.all_eq_true.mp zIW_ok c (List.mem_range.mpr hc)
  unfold zIW at h
  obtain ⟨h1, h2⟩ := (Bool.and_eq_true _ _).mp h
  obtain ⟨w1, m1, g1⟩ := List.any_eq_true.mp h1
  obtain ⟨w2, m2, g2⟩ := List.any_eq_true.mp h2
  refine ⟨?_, ?_⟩
  · split at g1
    · simp only [Bool.and_eq_true, decide_eq_true_eq] at g1
      obtain ⟨rfl, rfl⟩ := g1
      exact zW_of m1 rfl
    · cases g1
  · split at g2
    · simp only [decide_eq_true_eq] at g2
      subst g2
      exact zW_of m2 rfl
    · cases g2
def zAW : Bool := ([ArrayType.int, ArrayType.long, ArrayType.boolean, ArrayType.byte] : List ArrayType).all (fun t => lw_tbl.any (fun w => match w with
  | .arrayClass ty => decide (ty = newarray.typeOf t)
  | _ => false))
theorem zAW_ok : zAW = true := by decide +kernel
theorem z_arr {a : Nat} {t : ArrayType} (h : zTy a = some t) : Cond.arrayClass (newarray.typeOf t) ∈ zW := by
  have hm : t ∈ ([ArrayType.int, ArrayType.long, ArrayType.boolean, ArrayType.byte] : List ArrayType) := by
    unfold zTy at h
    split at h <;> first | (cases h; simp) | cases h
  have h1 := List.all_eq_true.mp zAW_ok t hm
  obtain ⟨w, m, g⟩ := List.any_eq_true.mp h1
  split at g
  · simp only [decide_eq_true_eq] at g
    subst g
    exact zW_of m rfl
  · cases g
def zQW : Bool := lw_tbl.any (fun w => decide (w = Cond.classLink "AcresPaid$Accounts" 9 "AcresPaid$Season")) && lw_tbl.any (fun w => decide (w = Cond.classLink "AcresPaid$Colours" 19 "[I"))
theorem zQW_ok : zQW = true := by decide +kernel
theorem z_q4 : Cond.classLink (zCN 0) 9 "AcresPaid$Season" ∈ zW := by
  have h := ((Bool.and_eq_true _ _).mp zQW_ok).1
  obtain ⟨w, m, g⟩ := List.any_eq_true.mp h
  simp only [decide_eq_true_eq] at g
  subst g
  exact zW_of m rfl
theorem z_q5 : Cond.classLink (zCN 3) 19 "[I" ∈ zW := by
  have h := ((Bool.and_eq_true _ _).mp zQW_ok).2
  obtain ⟨w, m, g⟩ := List.any_eq_true.mp h
  simp only [decide_eq_true_eq] at g
  subst g
  exact zW_of m rfl
theorem alw_nn (pc : Nat) (x d : Int) : ∀ (l : List (Int × Int)), 0 ≤ (pc : Int) + d → (∀ q ∈ l, 0 ≤ (pc : Int) + q.2) → 0 ≤ (pc : Int) + Op.lookupswitch.offset l d x := by
  intro l
  induction l with
  | nil => intro h _; exact h
  | cons q r ih =>
    intro h hl
    obtain ⟨a, o⟩ := q
    rw [Op.lookupswitch.offset_cons]
    split
    · exact hl (a, o) List.mem_cons_self
    · exact ih h (fun q hq => hl q (List.mem_cons_of_mem _ hq))
set_option maxHeartbeats 4000000 in
theorem a_step {Γ : aGm} {k : Nat → aL → List Value → aH → Option aR} {i : aI} {L : aL} {st : List Value} {h : aH} {res : aR} (C : aCF Γ) (hd : aDC Γ i.1 i.2.1 (zlen i.2.1 i.2.2.1)) (hc : zchkI (aown Γ) i = true)
    (hk : ∀ pc' L' st' h', k pc' L' st' h' = some res → aSW Γ pc' L' st' h') (hR : ∀ pc' L' st' h', k pc' L' st' h' = some res → aRM Γ h') (he : aX1 (aXX Γ) (aown Γ) (akind Γ) k i L st h = some res) : aSW Γ i.1 L st h := by
  obtain ⟨pc, ins, len, a, b⟩ := i
  cases ins with
  | aconst_null =>
    exact s_null C hd (hk _ _ _ _ he)
  | iconst z =>
    exact s_iconst C hd (hk _ _ _ _ he)
  | bipush z =>
    exact s_bipush C hd (hk _ _ _ _ he)
  | sipush z =>
    exact s_sipush C hd (hk _ _ _ _ he)
  | lconst z =>
    exact s_lconst C hd (hk _ _ _ _ he)
  | ldc ix =>
    exact s_ldc (z_cst hc) C hd (hk _ _ _ _ he)
  | ldc_w ix =>
    exact s_ldcw (z_cst hc) C hd (hk _ _ _ _ he)
  | ldc2_w ix =>
    exact s_ldc2 (z_cstl hc) C hd (hk _ _ _ _ he)
  | iload_n z =>
    simp only [aX1] at he
    split at he
    · rename_i x hg
      exact s_iloadn hg C hd (hk _ _ _ _ he)
    · cases he
  | iload z =>
    simp only [aX1] at he
    split at he
    · rename_i x hg
      exact s_iload hg C hd (hk _ _ _ _ he)
    · cases he
  | lload_n z =>
    simp only [aX1] at he
    split at he
    · rename_i x hg
      exact s_lloadn hg C hd (hk _ _ _ _ he)
    · cases he
  | lload z =>
    simp only [aX1] at he
    split at he
    · rename_i x hg
      exact s_lload hg C hd (hk _ _ _ _ he)
    · cases he
  | aload_n z =>
    simp only [aX1] at he
    split at he
    · rename_i x hg
      exact s_aloadn_ref hg C hd (hk _ _ _ _ he)
    · rename_i x hg
      exact s_aloadn_ext hg C hd (hk _ _ _ _ he)
    · rename_i hg
      exact s_aloadn_nul hg C hd (hk _ _ _ _ he)
    · cases he
  | aload z =>
    simp only [aX1] at he
    split at he
    · rename_i x hg
      exact s_aload_ref hg C hd (hk _ _ _ _ he)
    · rename_i x hg
      exact s_aload_ext hg C hd (hk _ _ _ _ he)
    · rename_i hg
      exact s_aload_nul hg C hd (hk _ _ _ _ he)
    · cases he
  | istore_n z =>
    obtain ⟨x, r, rfl, he⟩ := tI_some he
    obtain ⟨hz, he⟩ := abif he
    exact s_istoren (Nat.le_of_ble_eq_true hz) C hd (hk _ _ _ _ he)
  | istore z =>
    obtain ⟨x, r, rfl, he⟩ := tI_some he
    obtain ⟨hz, he⟩ := abif he
    exact s_istore (Nat.le_of_ble_eq_true hz) C hd (hk _ _ _ _ he)
  | lstore_n z =>
    obtain ⟨x, r, rfl, he⟩ := tJ_some he
    obtain ⟨hz, he⟩ := abif he
    exact s_lstoren (Nat.le_of_ble_eq_true hz) C hd (hk _ _ _ _ he)
  | lstore z =>
    obtain ⟨x, r, rfl, he⟩ := tJ_some he
    obtain ⟨hz, he⟩ := abif he
    exact s_lstore (Nat.le_of_ble_eq_true hz) C hd (hk _ _ _ _ he)
  | astore_n z =>
    simp only [aX1] at he
    split at he
    · obtain ⟨hz, he⟩ := abif he
      exact s_astoren (Nat.le_of_ble_eq_true hz) C hd (hk _ _ _ _ he)
    · obtain ⟨hz, he⟩ := abif he
      exact s_astoreNn (Nat.le_of_ble_eq_true hz) C hd (hk _ _ _ _ he)
    · cases he
  | astore z =>
    simp only [aX1] at he
    split at he
    · obtain ⟨hz, he⟩ := abif he
      exact s_astore (Nat.le_of_ble_eq_true hz) C hd (hk _ _ _ _ he)
    · obtain ⟨hz, he⟩ := abif he
      exact s_astoreN (Nat.le_of_ble_eq_true hz) C hd (hk _ _ _ _ he)
    · cases he
  | iinc z c =>
    simp only [aX1] at he
    split at he
    · rename_i x hg
      exact s_iinc hg C hd (hk _ _ _ _ he)
    · cases he
  | iadd =>
    obtain ⟨x, y, r, rfl, he⟩ := tII_some he
    exact s_iadd C hd (hk _ _ _ _ he)
  | isub =>
    obtain ⟨x, y, r, rfl, he⟩ := tII_some he
    exact s_isub C hd (hk _ _ _ _ he)
  | imul =>
    obtain ⟨x, y, r, rfl, he⟩ := tII_some he
    exact s_imul C hd (hk _ _ _ _ he)
  | iand =>
    obtain ⟨x, y, r, rfl, he⟩ := tII_some he
    exact s_iand C hd (hk _ _ _ _ he)
  | ior =>
    obtain ⟨x, y, r, rfl, he⟩ := tII_some he
    exact s_ior C hd (hk _ _ _ _ he)
  | ixor =>
    obtain ⟨x, y, r, rfl, he⟩ := tII_some he
    exact s_ixor C hd (hk _ _ _ _ he)
  | ishl =>
    obtain ⟨x, y, r, rfl, he⟩ := tII_some he
    exact s_ishl C hd (hk _ _ _ _ he)
  | ishr =>
    obtain ⟨x, y, r, rfl, he⟩ := tII_some he
    exact s_ishr C hd (hk _ _ _ _ he)
  | iushr =>
    obtain ⟨x, y, r, rfl, he⟩ := tII_some he
    exact s_iushr C hd (hk _ _ _ _ he)
  | idiv =>
    obtain ⟨x, y, r, rfl, he⟩ := tII_some he
    obtain ⟨hn, he⟩ := anite he
    exact s_idiv hn C hd (hk _ _ _ _ he)
  | irem =>
    obtain ⟨x, y, r, rfl, he⟩ := tII_some he
    obtain ⟨hn, he⟩ := anite he
    exact s_irem hn C hd (hk _ _ _ _ he)
  | ladd =>
    obtain ⟨x, y, r, rfl, he⟩ := tJJ_some he
    exact s_ladd C hd (hk _ _ _ _ he)
  | lsub =>
    obtain ⟨x, y, r, rfl, he⟩ := tJJ_some he
    exact s_lsub C hd (hk _ _ _ _ he)
  | lmul =>
    obtain ⟨x, y, r, rfl, he⟩ := tJJ_some he
    exact s_lmul C hd (hk _ _ _ _ he)
  | land =>
    obtain ⟨x, y, r, rfl, he⟩ := tJJ_some he
    exact s_land C hd (hk _ _ _ _ he)
  | lor =>
    obtain ⟨x, y, r, rfl, he⟩ := tJJ_some he
    exact s_lor C hd (hk _ _ _ _ he)
  | lcmp =>
    obtain ⟨x, y, r, rfl, he⟩ := tJJ_some he
    exact s_lcmp C hd (hk _ _ _ _ he)
  | ldiv =>
    obtain ⟨x, y, r, rfl, he⟩ := tJJ_some he
    obtain ⟨hn, he⟩ := anite he
    exact s_ldiv hn C hd (hk _ _ _ _ he)
  | lrem =>
    obtain ⟨x, y, r, rfl, he⟩ := tJJ_some he
    obtain ⟨hn, he⟩ := anite he
    exact s_lrem hn C hd (hk _ _ _ _ he)
  | lshl =>
    obtain ⟨x, y, r, rfl, he⟩ := tJI_some he
    exact s_lshl C hd (hk _ _ _ _ he)
  | ineg =>
    obtain ⟨x, r, rfl, he⟩ := tI_some he
    exact s_ineg C hd (hk _ _ _ _ he)
  | i2l =>
    obtain ⟨x, r, rfl, he⟩ := tI_some he
    exact s_i2l C hd (hk _ _ _ _ he)
  | i2b =>
    obtain ⟨x, r, rfl, he⟩ := tI_some he
    exact s_i2b C hd (hk _ _ _ _ he)
  | i2s =>
    obtain ⟨x, r, rfl, he⟩ := tI_some he
    exact s_i2s C hd (hk _ _ _ _ he)
  | l2i =>
    obtain ⟨x, r, rfl, he⟩ := tJ_some he
    exact s_l2i C hd (hk _ _ _ _ he)
  | dup =>
    simp only [aX1] at he
    split at he
    · obtain ⟨h1, he⟩ := abif he
      exact s_dup h1 C hd (hk _ _ _ _ he)
    · cases he
  | pop =>
    simp only [aX1] at he
    split at he
    · obtain ⟨h1, he⟩ := abif he
      exact s_pop h1 C hd (hk _ _ _ _ he)
    · cases he
  | dup2 =>
    simp only [aX1] at he
    split at he
    · obtain ⟨h1, he⟩ := abif he
      obtain ⟨h1, h2⟩ := (Bool.and_eq_true _ _).mp h1
      exact s_dup2 h1 h2 C hd (hk _ _ _ _ he)
    · cases he
  | dup_x1 =>
    simp only [aX1] at he
    split at he
    · obtain ⟨h1, he⟩ := abif he
      obtain ⟨h1, h2⟩ := (Bool.and_eq_true _ _).mp h1
      exact s_dup_x1 h1 h2 C hd (hk _ _ _ _ he)
    · cases he
  | goto off =>
    exact s_goto (of_decide_eq_true hc) C hd (hk _ _ _ _ he)
  | ifCond c off =>
    obtain ⟨x, r, rfl, he⟩ := tI_some he
    cases c with
    | eq =>
      rcases aite he with ⟨q, he⟩ | ⟨q, he⟩
      · exact s_if_eq (of_decide_eq_true hc) C hd (fun _ => hk _ _ _ _ he) (fun z => absurd q z)
      · exact s_if_eq (of_decide_eq_true hc) C hd (fun z => absurd z q) (fun _ => hk _ _ _ _ he)
    | ne =>
      rcases aite he with ⟨q, he⟩ | ⟨q, he⟩
      · exact s_if_ne (of_decide_eq_true hc) C hd (fun z => absurd q z) (fun _ => hk _ _ _ _ he)
      · exact s_if_ne (of_decide_eq_true hc) C hd (fun _ => hk _ _ _ _ he) (fun z => absurd z q)
    | lt =>
      rcases aite he with ⟨q, he⟩ | ⟨q, he⟩
      · exact s_if_lt (of_decide_eq_true hc) C hd (fun _ => hk _ _ _ _ he) (fun z => absurd q z)
      · exact s_if_lt (of_decide_eq_true hc) C hd (fun z => absurd z q) (fun _ => hk _ _ _ _ he)
    | ge =>
      rcases aite he with ⟨q, he⟩ | ⟨q, he⟩
      · exact s_if_ge (of_decide_eq_true hc) C hd (fun _ => hk _ _ _ _ he) (fun z => absurd q z)
      · exact s_if_ge (of_decide_eq_true hc) C hd (fun z => absurd z q) (fun _ => hk _ _ _ _ he)
    | gt =>
      rcases aite he with ⟨q, he⟩ | ⟨q, he⟩
      · exact s_if_gt (of_decide_eq_true hc) C hd (fun _ => hk _ _ _ _ he) (fun z => absurd q z)
      · exact s_if_gt (of_decide_eq_true hc) C hd (fun z => absurd z q) (fun _ => hk _ _ _ _ he)
    | le =>
      rcases aite he with ⟨q, he⟩ | ⟨q, he⟩
      · exact s_if_le (of_decide_eq_true hc) C hd (fun _ => hk _ _ _ _ he) (fun z => absurd q z)
      · exact s_if_le (of_decide_eq_true hc) C hd (fun z => absurd z q) (fun _ => hk _ _ _ _ he)
  | if_icmp c off =>
    obtain ⟨x, y, r, rfl, he⟩ := tII_some he
    cases c with
    | eq =>
      rcases aite he with ⟨q, he⟩ | ⟨q, he⟩
      · exact s_icmp_eq (of_decide_eq_true hc) C hd (fun _ => hk _ _ _ _ he) (fun z => absurd q z)
      · exact s_icmp_eq (of_decide_eq_true hc) C hd (fun z => absurd z q) (fun _ => hk _ _ _ _ he)
    | ne =>
      rcases aite he with ⟨q, he⟩ | ⟨q, he⟩
      · exact s_icmp_ne (of_decide_eq_true hc) C hd (fun z => absurd q z) (fun _ => hk _ _ _ _ he)
      · exact s_icmp_ne (of_decide_eq_true hc) C hd (fun _ => hk _ _ _ _ he) (fun z => absurd z q)
    | lt =>
      rcases aite he with ⟨q, he⟩ | ⟨q, he⟩
      · exact s_icmp_lt (of_decide_eq_true hc) C hd (fun _ => hk _ _ _ _ he) (fun z => absurd q z)
      · exact s_icmp_lt (of_decide_eq_true hc) C hd (fun z => absurd z q) (fun _ => hk _ _ _ _ he)
    | ge =>
      rcases aite he with ⟨q, he⟩ | ⟨q, he⟩
      · exact s_icmp_ge (of_decide_eq_true hc) C hd (fun _ => hk _ _ _ _ he) (fun z => absurd q z)
      · exact s_icmp_ge (of_decide_eq_true hc) C hd (fun z => absurd z q) (fun _ => hk _ _ _ _ he)
    | gt =>
      rcases aite he with ⟨q, he⟩ | ⟨q, he⟩
      · exact s_icmp_gt (of_decide_eq_true hc) C hd (fun _ => hk _ _ _ _ he) (fun z => absurd q z)
      · exact s_icmp_gt (of_decide_eq_true hc) C hd (fun z => absurd z q) (fun _ => hk _ _ _ _ he)
    | le =>
      rcases aite he with ⟨q, he⟩ | ⟨q, he⟩
      · exact s_icmp_le (of_decide_eq_true hc) C hd (fun _ => hk _ _ _ _ he) (fun z => absurd q z)
      · exact s_icmp_le (of_decide_eq_true hc) C hd (fun z => absurd z q) (fun _ => hk _ _ _ _ he)
  | ifnull off =>
    simp only [aX1] at he
    split at he
    · exact s_ifnull C hd (hk _ _ _ _ he)
    · exact s_ifnullN (of_decide_eq_true hc) C hd (hk _ _ _ _ he)
    · cases he
  | ifnonnull off =>
    simp only [aX1] at he
    split at he
    · exact s_ifnonnull (of_decide_eq_true hc) C hd (hk _ _ _ _ he)
    · exact s_ifnonnullN C hd (hk _ _ _ _ he)
    · cases he
  | tableswitch d lo hi offs =>
    obtain ⟨x, r, rfl, he⟩ := tI_some he
    simp only [zchkI, Bool.and_eq_true, decide_eq_true_eq, List.all_eq_true] at hc
    obtain ⟨⟨⟨⟨c1, c2⟩, c3⟩, c4⟩, c5⟩ := hc
    rcases asw_some _ _ c1 (by omega) he with ⟨i, o, g1, g2, g3⟩ | ⟨g1, g2⟩
    · have ho := c5 o (List.mem_of_getElem? g1)
      have hil : i < offs.toList.length := (List.getElem?_eq_some_iff.mp g1).1
      exact s_tableIn (by omega) (by omega) (by rw [show (x.toInt - lo).toNat = i by omega, ← Array.getElem?_toList]; exact g1) (show (pc : Int) + o = (((pc : Int) + o).toNat : Int) by omega) C hd (hk _ _ _ _ g3)
    · exact s_tableOut (by omega) (show (pc : Int) + d = (((pc : Int) + d).toNat : Int) by omega) C hd (hk _ _ _ _ g2)
  | lookupswitch d ps =>
    obtain ⟨x, r, rfl, he⟩ := tI_some he
    simp only [zchkI, Bool.and_eq_true, decide_eq_true_eq] at hc
    obtain ⟨⟨c1, c2⟩, c3⟩ := hc
    have c2 := List.all_eq_true.mp c2
    simp only [Bool.and_eq_true, decide_eq_true_eq] at c2
    have g := alw_some _ (fun q hq => ⟨(c2 q hq).1.2, (c2 q hq).2⟩) he
    have hnn : 0 ≤ (pc : Int) + Op.lookupswitch.offset ps.toList d x.toInt := alw_nn pc _ d _ c1 (fun q hq => (c2 q hq).1.1)
    exact s_lookup c3 rfl (show (pc : Int) + Op.lookupswitch.offset ps.toList d x.toInt = (((pc : Int) + Op.lookupswitch.offset ps.toList d x.toInt).toNat : Int) by omega) C hd (hk _ _ _ _ g)
  | getfield ix =>
    simp only [aX1] at he
    split at he
    · obtain ⟨fs, ho, he⟩ := aobj_some he
      split at he
      · rename_i v hv
        exact s_get ho (z_fld hc) hv C hd (hk _ _ _ _ he)
      · cases he
    · cases he
  | putfield ix =>
    simp only [aX1] at he
    split at he
    · obtain ⟨fs, ho, he⟩ := aobj_some he
      obtain ⟨hq, he⟩ := abif he
      obtain ⟨hq, hlt⟩ := (Bool.and_eq_true _ _).mp hq
      obtain ⟨hq, hok⟩ := (Bool.and_eq_true _ _).mp hq
      have hlt := Nat.le_of_ble_eq_true hlt
      cases hfin : (zT a b).2.2.2 with
      | false => exact s_put ho (z_fld hc) hfin hok hlt C hd (hk _ _ _ _ he)
      | true =>
        rw [hfin] at hq
        obtain ⟨q1, q2⟩ := (Bool.and_eq_true _ _).mp (show (Nat.beq (akind Γ) 2 && Nat.beq (aown Γ) a) = true from hq)
        exact s_putF ho (z_fld hc) hfin (Nat.eq_of_beq_eq_true q1) (Nat.eq_of_beq_eq_true q2) hok hlt C hd (hk _ _ _ _ he)
    · cases he
  | getstatic ix =>
    obtain ⟨c1, c2⟩ := (Bool.and_eq_true _ _).mp hc
    have c2 := Nat.eq_of_beq_eq_true c2
    subst c2
    exact s_gets (Nat.eq_of_beq_eq_true c1) C hd (hk _ _ _ _ he)
  | arraylength =>
    simp only [aX1] at he
    split at he
    · split at he
      · rename_i n f ho
        exact s_alen ho C hd (hk _ _ _ _ he)
      · rename_i n f ho
        exact s_alen1 ho C hd (hk _ _ _ _ he)
      · cases he
    · split at he
      · rename_i n f hX
        exact s_xlen hX C hd (hk _ _ _ _ he)
      · cases he
    · cases he
  | iaload =>
    simp only [aX1] at he
    split at he
    · obtain ⟨t, n, g, ho, he⟩ := aarI_some he
      obtain ⟨ht, he⟩ := abif he
      have ht := Nat.eq_of_beq_eq_true ht
      subst ht
      obtain ⟨hj, he⟩ := anite he
      exact s_iald ho hj C hd (hk _ _ _ _ he)
    · split at he
      · rename_i n f hX
        obtain ⟨hj, he⟩ := anite he
        exact s_xld hX hj C hd (hk _ _ _ _ he)
      · cases he
    · cases he
  | baload =>
    simp only [aX1] at he
    split at he
    · obtain ⟨t, n, g, ho, he⟩ := aarI_some he
      obtain ⟨ht, he1⟩ := abif he
      obtain ⟨hj, he2⟩ := anite he1
      clear he he1
      rcases (Bool.or_eq_true _ _).mp ht with ht | ht
      · have ht := Nat.eq_of_beq_eq_true ht
        subst ht
        exact s_zald ho hj C hd (hk _ _ _ _ he2)
      · have ht := Nat.eq_of_beq_eq_true ht
        subst ht
        exact s_bald ho hj C hd (hk _ _ _ _ he2)
    · cases he
  | laload =>
    simp only [aX1] at he
    split at he
    · obtain ⟨n, g, ho, he⟩ := aarJ_some he
      obtain ⟨hj, he⟩ := anite he
      exact s_lald ho hj C hd (hk _ _ _ _ he)
    · cases he
  | aaload =>
    simp only [aX1] at he
    split at he
    · obtain ⟨t, n, g, ho, he⟩ := aarR_some he
      obtain ⟨ht, he1⟩ := abif he
      obtain ⟨hj, he2⟩ := anite he1
      clear he he1
      rcases (Bool.or_eq_true _ _).mp ht with ht | ht
      · have ht := Nat.eq_of_beq_eq_true ht
        subst ht
        exact s_aald4 ho hj C hd (hk _ _ _ _ he2)
      · have ht := Nat.eq_of_beq_eq_true ht
        subst ht
        exact s_aald5 ho hj C hd (hk _ _ _ _ he2)
    · cases he
  | iastore =>
    simp only [aX1] at he
    split at he
    · obtain ⟨t, n, g, ho, he⟩ := aarI_some he
      obtain ⟨ht, he⟩ := abif he
      have ht := Nat.eq_of_beq_eq_true ht
      subst ht
      obtain ⟨hj, he⟩ := anite he
      exact s_iast ho hj C hd (hk _ _ _ _ he)
    · cases he
  | bastore =>
    simp only [aX1] at he
    split at he
    · obtain ⟨t, n, g, ho, he⟩ := aarI_some he
      split at he
      · obtain ⟨hj, he⟩ := anite he
        exact s_zast ho hj C hd (hk _ _ _ _ he)
      · obtain ⟨hj, he⟩ := anite he
        exact s_bast ho hj C hd (hk _ _ _ _ he)
      · cases he
    · cases he
  | lastore =>
    simp only [aX1] at he
    split at he
    · obtain ⟨n, g, ho, he⟩ := aarJ_some he
      obtain ⟨hj, he⟩ := anite he
      exact s_last ho hj C hd (hk _ _ _ _ he)
    · cases he
  | aastore =>
    simp only [aX1] at he
    split at he
    · obtain ⟨t, n, g, ho, he⟩ := aarR_some he
      obtain ⟨ht, he⟩ := abif he
      have ht := Nat.eq_of_beq_eq_true ht
      subst ht
      obtain ⟨fs, hq, he⟩ := aobj_some he
      obtain ⟨hj, he⟩ := anite he
      exact s_aast ho hq hj C hd (hk _ _ _ _ he)
    · cases he
  | new ix =>
    obtain ⟨ha, hcl⟩ := z_cls hc
    exact s_new ha hcl (z_ini ha).1 (z_ini ha).2 (hR _ _ _ _ he) C hd (hk _ _ _ _ he)
  | newarray t =>
    obtain ⟨x, r, rfl, he⟩ := tI_some he
    obtain ⟨hx0, he⟩ := anite he
    have ht := of_decide_eq_true hc
    exact s_newa ht hx0 (z_arr ht) (hR _ _ _ _ he) C hd (hk _ _ _ _ he)
  | anewarray ix =>
    obtain ⟨x, r, rfl, he⟩ := tI_some he
    obtain ⟨hx0, he⟩ := anite he
    rcases (Bool.or_eq_true _ _).mp hc with hc | hc
    · obtain ⟨hc, c3⟩ := (Bool.and_eq_true _ _).mp hc
      obtain ⟨c1, c2⟩ := (Bool.and_eq_true _ _).mp hc
      have c1 := Nat.eq_of_beq_eq_true c1
      have c2 := Nat.eq_of_beq_eq_true c2
      have c3 := Nat.eq_of_beq_eq_true c3
      dsimp only at c1
      subst c1
      subst c3
      exact s_newq hx0 (by rw [c2]; exact z_q4) (hR _ _ _ _ he) C hd (hk _ _ _ _ he)
    · obtain ⟨hc, c3⟩ := (Bool.and_eq_true _ _).mp hc
      obtain ⟨c1, c2⟩ := (Bool.and_eq_true _ _).mp hc
      have c1 := Nat.eq_of_beq_eq_true c1
      have c2 := Nat.eq_of_beq_eq_true c2
      have c3 := Nat.eq_of_beq_eq_true c3
      dsimp only at c1
      subst c1
      subst c3
      exact s_newA hx0 (by rw [c2]; exact z_q5) (hR _ _ _ _ he) C hd (hk _ _ _ _ he)
  | _ => exact absurd he (by simp [aX1])
end
section
-- ===== what our machine does, the machine does: whole methods =====
def aQ (D : va_G) (cA : Nat → ClassId) (ea : Nat → Nat) (b0 : Nat) (v : Option Value) (h' : aH) : Array Value → State → Outcome → State → Prop := fun _ st oc t =>
  oc = .returned (v.map (acv b0 ea)) ∧ va_P D zCl (awd b0 ea cA h'.1) t.heap ∧ st.heap.size ≤ t.heap.size ∧ ∀ q : Nat, q < st.heap.size → ¬ b0 ≤ q → t.heap[q]? = st.heap[q]?
def aPc (D : va_G) (cA : Nat → ClassId) (ea : Nat → Nat) (b0 : Nat) (X : aX) (as : List Value) (h : aH) : Array Value → State → Prop :=
  va_Pc (as.map (acv b0 ea)) (fun U => U.heap.size = b0 + h.1.length ∧ va_P D zCl (awd b0 ea cA h.1) U.heap ∧ aKX D cA ea b0 X U)
def aWs (M : aM) : List Cond := Cond.code M.2.1 M.2.2.1 M.2.2.2.1 M.2.2.2.2.1 :: zW
def aRoom (d k n : Nat) : Room := { frames := d, cells := k, slots := n, locals := 41 * d }
def aMet (l : Launch) (D : va_G) (cA : Nat → ClassId) (ea : Nat → Nat) (b0 : Nat) (X : aX) (d : Nat) (Y : aM) (as : List Value) (h : aH) (v : Option Value) (h' : aH) : Prop :=
  Met l Y.2.1 (aWs Y) (aRoom d (h'.1.length - h.1.length) (h'.2 - h.2)) (aPc D cA ea b0 X as h) (aQ D cA ea b0 v h') (h'.1.length - h.1.length) (h'.2 - h.2) (fun q => b0 ≤ q)
theorem aPc_blind {D : va_G} {cA : Nat → ClassId} {ea : Nat → Nat} {b0 : Nat} {X : aX} {as : List Value} {h : aH} : FrameBlind (aPc D cA ea b0 X as h) := fun a U g mk q =>
  ⟨q.1, q.2.1, q.2.2.1, aKX_go (U := U.calling g mk a) q.2.2.2 (State.WarmedH.refl U) (fun _ _ _ => rfl)⟩
theorem aH_sz {D : va_G} {cA : Nat → ClassId} {ea : Nat → Nat} {b0 n0 cells : Nat} {σ : List aC} {H : Heap} (hP : va_P D zCl (awd b0 ea cA σ) H) (h1 : b0 + n0 ≤ H.size) (h2 : H.size ≤ b0 + n0 + cells) (e1 : n0 + cells = σ.length) : H.size = b0 + σ.length := by
  by_cases hz : σ.length = 0
  · omega
  · have hlt : σ.length - 1 < σ.length := by omega
    have h3 := (hP (σ.length - 1) _ (awd_get (List.getElem?_eq_getElem hlt))).lt
    dsimp only at h3
    omega
theorem aws_map {b0 : Nat} {ea : Nat → Nat} : ∀ (r : List Value), ((r.map (acv b0 ea)).map fun v => v.category).sum = aws r
  | [] => rfl
  | v :: r => by
    simp only [List.map_cons, List.sum_cons, aws, acv_cat]
    rw [aws_map r]
theorem aW_back {p : Program} {l : Launch} {e : Env} {R : Room} {s : State} {m : MethodId} {args : Array Value} {below : List Frame} {meth : Method} {c : Code} {H : Heap} {locs : List Loc} {cells slots mc ms : Nat} {Q : State → Prop} {pc : Nat} {ls : Array Slot} {st0 r : List Value} {v : Option Value} {h1 : aH} {D : va_G} {cA : Nat → ClassId} {ea : Nat → Nat} {b0 n0 u0 nL : Nat} {L : aL} {a : Array Value}
    (hr : va_Run p l e R s m args below meth c H locs cells slots mc ms (F0 m pc ls st0) (r.map (acv b0 ea)) (aQ D cA ea b0 v h1 a) (fun q => b0 ≤ q)) (hS : va_S (fun q => b0 ≤ q) s.heap H locs) (hl : alR b0 ea ls nL L) (e1 : n0 + (cells + mc) = h1.1.length) (e2 : u0 + (slots + ms) = h1.2)
    (kk : ∀ (H : Heap) (locs : List Loc) (ls : Array Slot) (cells slots : Nat), n0 + cells = h1.1.length → u0 + slots = h1.2 → va_P D zCl (awd b0 ea cA h1.1) H → va_S (fun q => b0 ≤ q) s.heap H locs → alR b0 ea ls nL L → W p l e R s m args below meth c H locs cells slots Q (F0 m (pc + 3) ls ((v.toList ++ r).map (acv b0 ea)))) :
    W p l e R s m args below meth c H locs cells slots Q (F0 m pc ls st0) := by
  intro T hT X
  obtain ⟨v', st₀, t, T', L', h0, X', hL, g1, g2, ⟨hv, hP1, hz, hk⟩, st⟩ := hr T hT X
  have hv : v' = v.map (acv b0 ea) := by cases hv; rfl
  subst hv
  rw [h0] at hz hk
  rw [← g1] at hP1 hz hk
  obtain ⟨t2, a1, b1⟩ := kk T'.heap (locs ++ L') ls (cells + mc) (slots + ms) e1 e2 hP1
    ⟨Nat.le_trans hS.1 hz, fun q h1 h2 => (hk q (Nat.lt_of_lt_of_le h1 hS.1) h2).trans (hS.2.1 q h1 h2), fun q hq => by
      rcases List.mem_append.mp hq with h | h
      · exact hS.2.2 q h
      · exact hL q h⟩ hl T' rfl X'
  refine ⟨t2, st t2 ?_, b1⟩
  have e : (v.toList ++ r).map (acv b0 ea) = (v.map (acv b0 ea)).toList ++ r.map (acv b0 ea) := by cases v <;> simp
  rw [e] at a1
  exact a1
theorem gW {ws : List Cond} (h : ∀ w ∈ ws, w ∈ zW) : GoodIn zW ws := fun w hw => ⟨h w hw, good_of_word (zW_good w (h w hw))⟩
theorem gWs {M : aM} (h : zMok M) : ∀ w ∈ aWs M, w ∈ zW := by
  intro w hw
  rcases List.mem_cons.mp hw with rfl | hw
  · exact h.2.1
  · exact hw
theorem z_link {X : aX} {D : va_G} {cA : Nat → ClassId} {ea : Nat → Nat} {b0 o ix a : Nat} {s : State} {y : MethodName} (h : zmcp.any (fun q => Nat.beq q.1 o && Nat.beq q.2.1 ix && Nat.beq q.2.2.1 a) = true) (ha : a ≤ 1000) (hY : zyn a = y) (hK : aKX D cA ea b0 X s) :
    Cond.methodLink (zCN o) ix y ∈ zW ∨ va_Nw (.methodLinkNest (zCN o) ix y "AcresPaid") s := by
  obtain ⟨q, hq, hh⟩ := List.any_eq_true.mp h
  simp only [Bool.and_eq_true, Nat.beq_eq] at hh
  obtain ⟨⟨rfl, rfl⟩, rfl⟩ := hh
  subst hY
  have h1 := List.all_eq_true.mp zmcp_ok q hq
  rcases (Bool.or_eq_true _ _).mp h1 with h2 | h2
  · exfalso
    simp only [Bool.or_eq_true, Nat.beq_eq] at h2
    omega
  · by_cases hn : q.2.2.2.1 = 0
    · rw [if_pos hn] at h2
      exact Or.inl (zTab_mem h2)
    · exact Or.inr (hK.2.2.2.1 q hq hn ha)
theorem zmt_lt {a : Nat} {Y : aM} (h : zmt[a]? = some Y) : a ≤ 1000 := by
  have h1 := (List.getElem?_eq_some_iff.mp h).1
  have h2 : zmt.length ≤ 1000 := by decide +kernel
  omega
theorem zyn_of {a : Nat} {Y : aM} (h : zmt[a]? = some Y) : zyn a = Y.2.1 := by
  unfold zyn
  rw [h]
theorem zMok_d {Y : aM} (h : zMok Y) : plainName Y.2.1.cls = true ∧ Y.2.1.cls ≠ "java/lang/invoke/MethodHandle" ∧ Y.2.1.cls ≠ "java/lang/invoke/VarHandle" ∧ (parseMethodDescriptor Y.2.1.desc).map (fun d => d.parameters.length) = some Y.2.2.2.2.2.1 ∧ zCN Y.1 = Y.2.1.cls ∧ Y.2.2.2.1 ≤ 22 ∧ (Y.2.2.2.2.2.2.1 = 2 → Y.2.1.name = "<init>" ∧ Y.2.2.2.2.1 = none) := by
  have h1 := h.2.2.2.2.2
  simp only [Bool.and_eq_true, decide_eq_true_eq] at h1
  obtain ⟨⟨⟨⟨⟨⟨a, b⟩, c⟩, d⟩, e⟩, f⟩, g⟩ := h1
  exact ⟨a, b, c, d, e, f, g⟩
theorem acut_some {n : Nat} {st : List Value} {f : List Value → List Value → Option aR} {res : aR} (h : acut n st f = some res) : ∃ as r, st = as.reverse ++ r ∧ as.length = n ∧ f as r = some res := by
  obtain ⟨h1, h2⟩ := abif h
  have h1 := Nat.le_of_ble_eq_true h1
  refine ⟨_, _, ?_, ?_, h2⟩
  · rw [List.reverse_reverse, List.take_append_drop]
  · rw [List.length_reverse, List.length_take]
    omega
theorem aback_some {d : Nat} {r : List Value} {callee : Nat → Option aR} {k : List Value → aH → Option aR} {res : aR} (h : aback d r callee k = some res) : ∃ d' v h1, d = d' + 1 ∧ aws r ≤ 8 ∧ callee d' = some (v, h1) ∧ k (v.toList ++ r) h1 = some res := by
  unfold aback at h
  split at h
  · cases h
  · obtain ⟨h1, h2⟩ := abif h
    split at h2
    · rename_i q hq
      exact ⟨_, q.1, q.2, rfl, Nat.le_of_ble_eq_true h1, hq, h2⟩
    · cases h2
theorem aent_some {Y : aM} {as : List Value} {f : Unit → Option aR} {res : aR} (h : aent Y as f = some res) : aws as ≤ Y.2.2.2.1 ∧ f () = some res := by
  obtain ⟨h1, h2⟩ := abif h
  exact ⟨Nat.le_of_ble_eq_true h1, h2⟩
def aRm (Γ : aGm) (d : Nat) (h : aH) : Prop := match Γ with
  | (p, l, e, R, s, m, args, below, meth, c, Q, cc, nL, b0, n0, u0, own, kind, D, cA, ea, X) => (h.1.length ≤ n0 + R.cells ∧ h.2 ≤ u0 + R.slots) ∧ d ≤ R.frames ∧ 41 * d ≤ R.locals
def aMG (Γ : aGm) (d : Nat) (Y : aM) (as : List Value) (h : aH) (v : Option Value) (h' : aH) : Prop := match Γ with
  | (p, l, e, R, s, m, args, below, meth, c, Q, cc, nL, b0, n0, u0, own, kind, D, cA, ea, X) => aMet l D cA ea b0 X d Y as h v h'
theorem s_stat {Γ : aGm} {pc ix a d' : Nat} {L : aL} {as r : List Value} {h h1 h' : aH} {v : Option Value} {Y : aM} (hY : zmt[a]? = some Y) (hok : zMok Y) (hk1 : Y.2.2.2.2.2.2.1 = 1) (hc : zmcp.any (fun q => Nat.beq q.1 (aown Γ) && Nat.beq q.2.1 ix && Nat.beq q.2.2.1 a) = true) (hn : as.length = Y.2.2.2.2.2.1) (hr8 : aws r ≤ 8)
    (hM : aMG Γ d' Y as h v h1) (g1 : h.1.length ≤ h1.1.length ∧ h.2 ≤ h1.2) (g2 : h1.1.length ≤ h'.1.length ∧ h1.2 ≤ h'.2) (hR : aRm Γ (d' + 1) h') (C : aCF Γ) (hd : aDC Γ pc (.invokestatic ix) 3) (k : aSW Γ (pc + 3) L (v.toList ++ r) h1) : aSW Γ pc L (as.reverse ++ r) h := by
  obtain ⟨p, l, e, R, s, m, args, below, meth, c, Q, cc, nL, b0, n0, u0, own, kind, D, cA, ea, X⟩ := Γ
  intro H locs ls cells slots e1 e2 hP hS hl
  obtain ⟨hx, hb, hml, hown, hts, hKX, hsz, hki⟩ := C
  obtain ⟨⟨hR1, hR2⟩, hR3, hR4⟩ := hR
  obtain ⟨-, d1, d2, d3, d4, d5, -⟩ := zMok_d hok
  have hst : Cond.static Y.2.1 ∈ zW := by have := hok.2.2.2.1; rw [if_pos hk1] at this; exact this
  refine aW_sz (fun hz => ?_)
  have hsH : H.size = b0 + h.1.length := aH_sz (n0 := n0) hP (by have := hS.1; rw [hsz] at this; exact this) (by rw [hsz] at hz; exact hz) e1
  have hpre : PreS s H (aPc D cA ea b0 X as h) (as.map (acv b0 ea)) := ⟨aPc_blind, fun U hU hW => ⟨rfl, by rw [hU]; exact hsH, by rw [hU]; exact hP, aKX_go hKX hW (fun q q1 q2 => by rw [hU]; exact hS.2.1 q q1 q2)⟩⟩
  have hst2 : (as.reverse ++ r).map (acv b0 ea) = (as.map (acv b0 ea)).reverse ++ r.map (acv b0 ea) := by simp
  have hrun : va_Run p l e R s m args below meth c H locs cells slots (h1.1.length - h.1.length) (h1.2 - h.2) (F0 m pc ls ((as.reverse ++ r).map (acv b0 ea))) (r.map (acv b0 ea)) (aQ D cA ea b0 v h1 (as.map (acv b0 ea)).toArray) (fun q => b0 ≤ q) := by
    rcases z_link hc (zmt_lt hY) (zyn_of hY) hKX with hlk | hlk
    · exact va_runS ⟨hx, hb, hml, hown, hts⟩ hM (va_cwS Y.2.2.2.2.2.1 hts (gW (fun w hw => by
        simp only [va_wsS, List.cons_append, List.nil_append, List.mem_cons] at hw
        rcases hw with rfl | rfl | rfl | hw
        · exact hlk
        · exact hst
        · exact hok.2.2.1
        · exact gWs hok w hw)) rfl rfl rfl ⟨d1, d2, d3⟩ ⟨hR3, by show 8 + (Y.2.2.2.1 + 11) + 41 * d' ≤ R.locals; omega⟩) hpre rfl (by rw [List.length_map]; exact hn) hl.2.1 hst2 (lv_room (by rw [aws_map]; exact hr8)) hd ⟨by omega, by omega⟩
    · exact va_runSN ⟨hx, hb, hml, hown, hts⟩ hM ⟨va_cnB Y.2.2.2.2.2.1 hts (gW (gWs hok)) rfl rfl rfl hlk (hts _ hok.2.2.1) ⟨d1, d2, d3⟩ ⟨hR3, by show 8 + (Y.2.2.2.1 + 11) + 41 * d' ≤ R.locals; omega⟩, hts _ hst, trivial⟩ hpre rfl (by rw [List.length_map]; exact hn) hl.2.1 hst2 (lv_room (by rw [aws_map]; exact hr8)) hd ⟨by omega, by omega⟩
  exact aW_back hrun hS hl (by omega) (by omega) k
theorem s_virt {Γ : aGm} {pc ix a d' o : Nat} {L : aL} {as r : List Value} {h h1 h' : aH} {v : Option Value} {Y : aM} {fs : List Value} (hY : zmt[a]? = some Y) (hok : zMok Y) (hk1 : Y.2.2.2.2.2.2.1 = 0) (hc : zmcp.any (fun q => Nat.beq q.1 (aown Γ) && Nat.beq q.2.1 ix && Nat.beq q.2.2.1 a && Nat.beq q.2.2.2.1 0) = true) (hn : as.length = Y.2.2.2.2.2.1) (hr8 : aws r ≤ 8)
    (ho : h.1[o]? = some (.inr (Y.1, fs))) (ho13 : Y.1 < 13) (hM : aMG Γ d' Y (.ref o :: as) h v h1) (g1 : h.1.length ≤ h1.1.length ∧ h.2 ≤ h1.2) (g2 : h1.1.length ≤ h'.1.length ∧ h1.2 ≤ h'.2) (hR : aRm Γ (d' + 1) h') (C : aCF Γ) (hd : aDC Γ pc (.invokevirtual ix) 3) (k : aSW Γ (pc + 3) L (v.toList ++ r) h1) : aSW Γ pc L (as.reverse ++ .ref o :: r) h := by
  obtain ⟨p, l, e, R, s, m, args, below, meth, c, Q, cc, nL, b0, n0, u0, own, kind, D, cA, ea, X⟩ := Γ
  intro H locs ls cells slots e1 e2 hP hS hl
  obtain ⟨hx, hb, hml, hown, hts, hKX, hsz, hki⟩ := C
  obtain ⟨⟨hR1, hR2⟩, hR3, hR4⟩ := hR
  obtain ⟨-, d1, d2, d3, d4, d5, -⟩ := zMok_d hok
  have hst : Cond.instanceMethod Y.2.1 ∈ zW := by have := hok.2.2.2.1; rw [if_neg (by omega)] at this; exact this
  have hse : Cond.selects Y.2.1.cls Y.2.1 Y.2.1 ∈ zW := hok.2.2.2.2.1 hk1
  refine aW_sz (fun hz => ?_)
  have hsH : H.size = b0 + h.1.length := aH_sz (n0 := n0) hP (by have := hS.1; rw [hsz] at this; exact this) (by rw [hsz] at hz; exact hz) e1
  have hlk : Cond.methodLink (zCN own) ix Y.2.1 ∈ zW := by
    obtain ⟨q, hq, hh⟩ := List.any_eq_true.mp hc
    simp only [Bool.and_eq_true, Nat.beq_eq] at hh
    obtain ⟨⟨⟨q1, q2⟩, q3⟩, q4⟩ := hh
    have h1 := List.all_eq_true.mp zmcp_ok q hq
    unfold zmcpW at h1
    rw [if_pos q4] at h1
    rcases (Bool.or_eq_true _ _).mp h1 with h2 | h2
    · exfalso
      simp only [Bool.or_eq_true, Nat.beq_eq] at h2
      have := zmt_lt hY
      omega
    · have h3 := zTab_mem h2
      rw [q1, q2, q3, zyn_of hY] at h3
      exact h3
  have hpre : PreV s H Y.2.1.cls (b0 + o) (aPc D cA ea b0 X (.ref o :: as) h) (as.map (acv b0 ea)) :=
    ⟨aPc_blind, by rw [← d4]; exact va_recv (q := (zCN Y.1, zT Y.1, zN Y.1)) hKX.1 hP (zCl_get ho13) (show (awd b0 ea cA h.1)[o]? = some (b0 + o, .inr (Y.1, fs.map (acv b0 ea))) from awd_get ho), fun U hU hW => ⟨rfl, by rw [hU]; exact hsH, by rw [hU]; exact hP, aKX_go hKX hW (fun q q1 q2 => by rw [hU]; exact hS.2.1 q q1 q2)⟩⟩
  have hst2 : (as.reverse ++ .ref o :: r).map (acv b0 ea) = (as.map (acv b0 ea)).reverse ++ .ref (b0 + o) :: r.map (acv b0 ea) := by simp [acv]
  have hrun : va_Run p l e R s m args below meth c H locs cells slots (h1.1.length - h.1.length) (h1.2 - h.2) (F0 m pc ls ((as.reverse ++ .ref o :: r).map (acv b0 ea))) (r.map (acv b0 ea)) (aQ D cA ea b0 v h1 (Value.ref (b0 + o) :: as.map (acv b0 ea)).toArray) (fun q => b0 ≤ q) :=
    va_runV ⟨hx, hb, hml, hown, hts⟩ hM (cwV Y.2.2.2.2.2.1 hts (gW (fun w hw => by
        simp only [wsV, List.cons_append, List.nil_append, List.mem_cons] at hw
        rcases hw with rfl | rfl | rfl | rfl | hw
        · exact hlk
        · exact hst
        · exact hse
        · exact hok.2.2.1
        · exact gWs hok w hw)) rfl rfl rfl ⟨rfl, d1, d2, d3⟩ ⟨hR3, by show 8 + (Y.2.2.2.1 + 11) + 41 * d' ≤ R.locals; omega⟩) hpre rfl (by rw [List.length_map]; exact hn) hl.2.1 hst2 (lv_room (by rw [aws_map]; exact hr8)) hd ⟨by omega, by omega⟩
  exact aW_back hrun hS hl (by omega) (by omega) k
theorem s_init {Γ : aGm} {pc ix a d' o : Nat} {L : aL} {as r : List Value} {h h1 h' : aH} {Y : aM} {v : Option Value} (hY : zmt[a]? = some Y) (hok : zMok Y) (hk1 : Y.2.2.2.2.2.2.1 = 2) (hc : zmcp.any (fun q => Nat.beq q.1 (aown Γ) && Nat.beq q.2.1 ix && Nat.beq q.2.2.1 a) = true) (hn : as.length = Y.2.2.2.2.2.1) (hr8 : aws r ≤ 8)
    (hM : aMG Γ d' Y (.ref o :: as) h v h1) (g1 : h.1.length ≤ h1.1.length ∧ h.2 ≤ h1.2) (g2 : h1.1.length ≤ h'.1.length ∧ h1.2 ≤ h'.2) (hR : aRm Γ (d' + 1) h') (C : aCF Γ) (hd : aDC Γ pc (.invokespecial ix) 3) (k : aSW Γ (pc + 3) L (v.toList ++ r) h1) : aSW Γ pc L (as.reverse ++ .ref o :: r) h := by
  obtain ⟨p, l, e, R, s, m, args, below, meth, c, Q, cc, nL, b0, n0, u0, own, kind, D, cA, ea, X⟩ := Γ
  intro H locs ls cells slots e1 e2 hP hS hl
  obtain ⟨hx, hb, hml, hown, hts, hKX, hsz, hki⟩ := C
  obtain ⟨⟨hR1, hR2⟩, hR3, hR4⟩ := hR
  obtain ⟨-, d1, d2, d3, d4, d5, d6⟩ := zMok_d hok
  obtain ⟨d6, d7⟩ := d6 hk1
  have hst : Cond.instanceMethod Y.2.1 ∈ zW := by have := hok.2.2.2.1; rw [if_neg (by omega)] at this; exact this
  refine aW_sz (fun hz => ?_)
  have hsH : H.size = b0 + h.1.length := aH_sz (n0 := n0) hP (by have := hS.1; rw [hsz] at this; exact this) (by rw [hsz] at hz; exact hz) e1
  have hpre : PreS s H (aPc D cA ea b0 X (.ref o :: as) h) (.ref (b0 + o) :: as.map (acv b0 ea)) :=
    ⟨aPc_blind, fun U hU hW => ⟨rfl, by rw [hU]; exact hsH, by rw [hU]; exact hP, aKX_go hKX hW (fun q q1 q2 => by rw [hU]; exact hS.2.1 q q1 q2)⟩⟩
  have hst2 : (as.reverse ++ .ref o :: r).map (acv b0 ea) = (as.map (acv b0 ea)).reverse ++ .ref (b0 + o) :: r.map (acv b0 ea) := by simp [acv]
  have hWs : aWs Y = Cond.code Y.2.1 Y.2.2.1 Y.2.2.2.1 none :: zW := by unfold aWs; rw [d7]
  have hrun : va_Run p l e R s m args below meth c H locs cells slots (h1.1.length - h.1.length) (h1.2 - h.2) (F0 m pc ls ((as.reverse ++ .ref o :: r).map (acv b0 ea))) (r.map (acv b0 ea)) (aQ D cA ea b0 v h1 (Value.ref (b0 + o) :: as.map (acv b0 ea)).toArray) (fun q => b0 ≤ q) := by
    rcases z_link hc (zmt_lt hY) (zyn_of hY) hKX with hlk | hlk
    · exact va_runI ⟨hx, hb, hml, hown, hts⟩ hM (cwI Y.2.2.2.2.2.1 hts (gW (gWs hok)) hWs rfl rfl (hts _ hok.2.2.1) (hts _ hlk) (hts _ hst) d6 ⟨d1, d2, d3⟩ ⟨hR3, by show 8 + (Y.2.2.2.1 + 11) + 41 * d' ≤ R.locals; omega⟩) hpre rfl (by rw [List.length_map]; exact hn) hl.2.1 hst2 (lv_room (by rw [aws_map]; exact hr8)) hd ⟨by omega, by omega⟩
    · exact va_runIN ⟨hx, hb, hml, hown, hts⟩ hM ⟨va_cnB Y.2.2.2.2.2.1 hts (gW (gWs hok)) hWs rfl rfl hlk (hts _ hok.2.2.1) ⟨d1, d2, d3⟩ ⟨hR3, by show 8 + (Y.2.2.2.1 + 11) + 41 * d' ≤ R.locals; omega⟩, d6, hts _ hst⟩ hpre rfl (by rw [List.length_map]; exact hn) hl.2.1 hst2 (lv_room (by rw [aws_map]; exact hr8)) hd ⟨by omega, by omega⟩
  exact aW_back hrun hS hl (by omega) (by omega) k
end
section
-- ===== Math's methods, Object's constructor; the run =====
theorem zob_c : Cond.code objectInit ⟨#[0xb1]⟩ 1 none ∈ zW := zW_of (zsub_1 (List.mem_of_getElem? (show tables_1_1[30]? = some (.code objectInit ⟨#[0xb1]⟩ 1 none) from rfl))) rfl
theorem zob_i : Cond.instanceMethod objectInit ∈ zW := zTab_mem (p := 148) (by decide +kernel)
theorem z_linkM {o ix a : Nat} {y : MethodName} (h : zmcp.any (fun q => Nat.beq q.1 o && Nat.beq q.2.1 ix && Nat.beq q.2.2.1 a) = true) (ha : a = 1000 ∨ 1010 ≤ a) (hY : zyn a = y) : Cond.methodLink (zCN o) ix y ∈ zW := by
  obtain ⟨q, hq, hh⟩ := List.any_eq_true.mp h
  simp only [Bool.and_eq_true, Nat.beq_eq] at hh
  obtain ⟨⟨rfl, rfl⟩, rfl⟩ := hh
  subst hY
  have h1 := List.all_eq_true.mp zmcp_ok q hq
  unfold zmcpW at h1
  rcases (Bool.or_eq_true _ _).mp h1 with h2 | h2
  · exfalso
    simp only [Bool.or_eq_true, Nat.beq_eq] at h2
    omega
  · have hn : q.2.2.2.1 = 0 := by
      have h3 : zmcp.all (fun q => Nat.beq q.2.2.2.1 0 || Nat.ble q.2.2.1 999) = true := by decide +kernel
      have h4 := List.all_eq_true.mp h3 q hq
      rcases (Bool.or_eq_true _ _).mp h4 with h5 | h5
      · exact Nat.eq_of_beq_eq_true h5
      · have := Nat.le_of_ble_eq_true h5
        omega
    rw [if_pos hn] at h2
    exact zTab_mem h2
theorem zcpy_ok : zmcp.all (fun q => !(Nat.beq q.2.2.1 1002) || (Nat.beq q.2.2.2.1 0 && zTab (q.2.2.2.2 + 119) (.methodLink (zCN q.1) q.2.1 arraycopyName))) = true := by decide +kernel
theorem z_linkC {o ix : Nat} (h : zmcp.any (fun q => Nat.beq q.1 o && Nat.beq q.2.1 ix && Nat.beq q.2.2.1 1002) = true) : Cond.methodLink (zCN o) ix arraycopyName ∈ zW := by
  obtain ⟨q, hq, hh⟩ := List.any_eq_true.mp h
  simp only [Bool.and_eq_true, Nat.beq_eq] at hh
  obtain ⟨⟨rfl, rfl⟩, h3⟩ := hh
  have h1 := List.all_eq_true.mp zcpy_ok q hq
  simp only [h3, show Nat.beq 1002 1002 = true from rfl, Bool.not_true, Bool.false_or, Bool.and_eq_true] at h1
  exact zTab_mem h1.2
def zany2 (w : Cond) : Bool := lw_tbl.any (fun v => decide (v = w)) && goodWord w
theorem zany2_in {w : Cond} (h : zany2 w = true) : w ∈ zW := by
  obtain ⟨h1, h2⟩ := (Bool.and_eq_true _ _).mp h
  obtain ⟨v, m, g⟩ := List.any_eq_true.mp h1
  simp only [decide_eq_true_eq] at g
  subst g
  exact zW_of m h2
theorem zcp_n : Cond.native arraycopyName ∈ zW := zany2_in (by decide +kernel)
theorem zcp_s : Cond.static arraycopyName ∈ zW := zany2_in (by decide +kernel)
theorem zcp_i : Cond.initialized "java/lang/System" ∈ zW := zany2_in (by decide +kernel)
theorem s_obj {Γ : aGm} {pc ix o d : Nat} {L : aL} {r : List Value} {h h' : aH} (hc : zmcp.any (fun q => Nat.beq q.1 (aown Γ) && Nat.beq q.2.1 ix && Nat.beq q.2.2.1 1000) = true) (hr8 : aws r ≤ 8) (hR : aRm Γ (d + 1) h') (C : aCF Γ) (hd : aDC Γ pc (.invokespecial ix) 3) (k : aSW Γ (pc + 3) L r h) : aSW Γ pc L (.ref o :: r) h := by
  obtain ⟨p, l, e, R, s, m, args, below, meth, c, Q, cc, nL, b0, n0, u0, own, kind, D, cA, ea, X⟩ := Γ
  intro H locs ls cells slots e1 e2 hP hS hl
  obtain ⟨hx, hb, hml, hown, hts, hKX, hsz, hki⟩ := C
  obtain ⟨⟨hR1, hR2⟩, hR3, hR4⟩ := hR
  have hlk := z_linkM (y := objectInit) hc (Or.inl rfl) (by decide +kernel)
  refine W.objInit hx hb hown (hts _ hlk) (hts _ zob_i) (hts _ zob_c) rfl (by rw [hml]; exact hl.2.1) rfl hd (by omega) ?_ (k H locs ls cells slots e1 e2 hP hS hl)
  have := lv_room (m := m) (pc := pc) (ls := ls) (rest := Value.ref (b0 + o) :: r.map (acv b0 ea)) (st := r.map (acv b0 ea)) (by rw [aws_map]; exact hr8)
  show 2 * (F0 m pc ls (Value.ref (b0 + o) :: r.map (acv b0 ea))).monitorRoom + _ + 12 ≤ R.locals
  omega
section MZ
variable {Γ : aGm} {pc ix d : Nat} {L : aL} {r : List Value} {h h' : aH}
theorem s_m1010 {x y : Int32} (hc : zmcp.any (fun q => Nat.beq q.1 (aown Γ) && Nat.beq q.2.1 ix && Nat.beq q.2.2.1 1010) = true) (hr8 : aws r ≤ 8) (g2 : h.1.length ≤ h'.1.length ∧ h.2 ≤ h'.2) (hR : aRm Γ (d + 1) h') (C : aCF Γ) (hd : aDC Γ pc (.invokestatic ix) 3) (k : aSW Γ (pc + 3) L (.int (if x < y then y else x) :: r) h) : aSW Γ pc L (.int y :: .int x :: r) h := by
  obtain ⟨p, l, e, R, s, m, args, below, meth, c, Q, cc, nL, b0, n0, u0, own, kind, D, cA, ea, X⟩ := Γ
  intro H locs ls cells slots e1 e2 hP hS hl
  obtain ⟨hx, hb, hml, hown, hts, hKX, hsz, hki⟩ := C
  obtain ⟨⟨hR1, hR2⟩, hR3, hR4⟩ := hR
  have hlk := z_linkM (y := Lib.Math.max.name) hc (Or.inr (by decide)) (by decide +kernel)
  exact va_mmax hx hb (hml.trans hl.2.1.symm) hown (hts _ hlk) (hts _ zms_1010) (hts _ zmi) (hts _ zmc_1010) (by omega) (by rw [aws_map]; omega) (by omega) (by omega) hd (k H locs ls cells slots e1 e2 hP hS hl)
theorem s_m1011 {x y : Int32} (hc : zmcp.any (fun q => Nat.beq q.1 (aown Γ) && Nat.beq q.2.1 ix && Nat.beq q.2.2.1 1011) = true) (hr8 : aws r ≤ 8) (g2 : h.1.length ≤ h'.1.length ∧ h.2 ≤ h'.2) (hR : aRm Γ (d + 1) h') (C : aCF Γ) (hd : aDC Γ pc (.invokestatic ix) 3) (k : aSW Γ (pc + 3) L (.int (if y < x then y else x) :: r) h) : aSW Γ pc L (.int y :: .int x :: r) h := by
  obtain ⟨p, l, e, R, s, m, args, below, meth, c, Q, cc, nL, b0, n0, u0, own, kind, D, cA, ea, X⟩ := Γ
  intro H locs ls cells slots e1 e2 hP hS hl
  obtain ⟨hx, hb, hml, hown, hts, hKX, hsz, hki⟩ := C
  obtain ⟨⟨hR1, hR2⟩, hR3, hR4⟩ := hR
  have hlk := z_linkM (y := Lib.Math.min.name) hc (Or.inr (by decide)) (by decide +kernel)
  exact va_mmin hx hb (hml.trans hl.2.1.symm) hown (hts _ hlk) (hts _ zms_1011) (hts _ zmi) (hts _ zmc_1011) (by omega) (by rw [aws_map]; omega) (by omega) (by omega) hd (k H locs ls cells slots e1 e2 hP hS hl)
theorem s_m1012 {x : Int32} (hc : zmcp.any (fun q => Nat.beq q.1 (aown Γ) && Nat.beq q.2.1 ix && Nat.beq q.2.2.1 1012) = true) (hr8 : aws r ≤ 8) (g2 : h.1.length ≤ h'.1.length ∧ h.2 ≤ h'.2) (hR : aRm Γ (d + 1) h') (C : aCF Γ) (hd : aDC Γ pc (.invokestatic ix) 3) (k : aSW Γ (pc + 3) L (.int (if 0 ≤ x then x else 0 - x) :: r) h) : aSW Γ pc L (.int x :: r) h := by
  obtain ⟨p, l, e, R, s, m, args, below, meth, c, Q, cc, nL, b0, n0, u0, own, kind, D, cA, ea, X⟩ := Γ
  intro H locs ls cells slots e1 e2 hP hS hl
  obtain ⟨hx, hb, hml, hown, hts, hKX, hsz, hki⟩ := C
  obtain ⟨⟨hR1, hR2⟩, hR3, hR4⟩ := hR
  have hlk := z_linkM (y := Lib.Math.abs.name) hc (Or.inr (by decide)) (by decide +kernel)
  exact va_mabs hx hb (hml.trans hl.2.1.symm) hown (hts _ hlk) (hts _ zms_1012) (hts _ zmi) (hts _ zmc_1012) (by omega) (by rw [aws_map]; omega) (by omega) (by omega) hd (k H locs ls cells slots e1 e2 hP hS hl)
theorem s_m1013 {x y : Int64} (hc : zmcp.any (fun q => Nat.beq q.1 (aown Γ) && Nat.beq q.2.1 ix && Nat.beq q.2.2.1 1013) = true) (hr8 : aws r ≤ 8) (g2 : h.1.length ≤ h'.1.length ∧ h.2 ≤ h'.2) (hR : aRm Γ (d + 1) h') (C : aCF Γ) (hd : aDC Γ pc (.invokestatic ix) 3) (k : aSW Γ (pc + 3) L (.long (if y < x then x else y) :: r) h) : aSW Γ pc L (.long y :: .long x :: r) h := by
  obtain ⟨p, l, e, R, s, m, args, below, meth, c, Q, cc, nL, b0, n0, u0, own, kind, D, cA, ea, X⟩ := Γ
  intro H locs ls cells slots e1 e2 hP hS hl
  obtain ⟨hx, hb, hml, hown, hts, hKX, hsz, hki⟩ := C
  obtain ⟨⟨hR1, hR2⟩, hR3, hR4⟩ := hR
  have hlk := z_linkM (y := Lib.MathLoose.max_long.x) hc (Or.inr (by decide)) (by decide +kernel)
  exact va_mmax_long hx hb (hml.trans hl.2.1.symm) hown (hts _ hlk) (hts _ zms_1013) (hts _ zmi) (hts _ zmc_1013) (by omega) (by rw [aws_map]; omega) (by omega) (by omega) hd (k H locs ls cells slots e1 e2 hP hS hl)
theorem s_m1014 {x y : Int64} (hc : zmcp.any (fun q => Nat.beq q.1 (aown Γ) && Nat.beq q.2.1 ix && Nat.beq q.2.2.1 1014) = true) (hr8 : aws r ≤ 8) (g2 : h.1.length ≤ h'.1.length ∧ h.2 ≤ h'.2) (hR : aRm Γ (d + 1) h') (C : aCF Γ) (hd : aDC Γ pc (.invokestatic ix) 3) (k : aSW Γ (pc + 3) L (.long (if y < x then y else x) :: r) h) : aSW Γ pc L (.long y :: .long x :: r) h := by
  obtain ⟨p, l, e, R, s, m, args, below, meth, c, Q, cc, nL, b0, n0, u0, own, kind, D, cA, ea, X⟩ := Γ
  intro H locs ls cells slots e1 e2 hP hS hl
  obtain ⟨hx, hb, hml, hown, hts, hKX, hsz, hki⟩ := C
  obtain ⟨⟨hR1, hR2⟩, hR3, hR4⟩ := hR
  have hlk := z_linkM (y := Lib.MathLoose.min_long.x) hc (Or.inr (by decide)) (by decide +kernel)
  exact va_mmin_long hx hb (hml.trans hl.2.1.symm) hown (hts _ hlk) (hts _ zms_1014) (hts _ zmi) (hts _ zmc_1014) (by omega) (by rw [aws_map]; omega) (by omega) (by omega) hd (k H locs ls cells slots e1 e2 hP hS hl)
theorem s_cp3 {a a0 n0' n1 : Nat} {sp dp n : Int32} {f g : Nat → Int32} (h0 : h.1[a0]? = some (.inl (3, n0', .inl f))) (h1 : h.1[a]? = some (.inl (3, n1, .inl g))) (hq : ¬ (sp < 0 ∨ dp < 0 ∨ n < 0 ∨ n0' < sp.toNatClampNeg + n.toNatClampNeg ∨ n1 < dp.toNatClampNeg + n.toNatClampNeg)) (hf : afit f sp.toNatClampNeg n.toNatClampNeg = true) (hc : zmcp.any (fun q => Nat.beq q.1 (aown Γ) && Nat.beq q.2.1 ix && Nat.beq q.2.2.1 1002) = true) (hr8 : aws r ≤ 8) (hR : aRm Γ (d + 1) h') (C : aCF Γ) (hd : aDC Γ pc (.invokestatic ix) 3) (k : aSW Γ (pc + 3) L r (h.1.set a (.inl (3, n1, .inl (va_cpy f g sp.toNatClampNeg dp.toNatClampNeg n.toNatClampNeg))), h.2)) : aSW Γ pc L (.int n :: .int dp :: .ref a :: .int sp :: .ref a0 :: r) h := by
  obtain ⟨p, l, e, R, s, m, args, below, meth, c, Q, cc, nL, b0, n0, u0, own, kind, D, cA, ea, X⟩ := Γ
  intro H locs ls cells slots e1 e2 hP hS hl
  obtain ⟨hx, hb, hml, hown, hts, hKX, hsz, hki⟩ := C
  obtain ⟨⟨hR1, hR2⟩, hR3, hR4⟩ := hR
  have hlk := z_linkC hc
  have g1 : ¬ sp < 0 := fun z => hq (Or.inl z)
  have g2 : ¬ dp < 0 := fun z => hq (Or.inr (Or.inl z))
  have g3 : ¬ n < 0 := fun z => hq (Or.inr (Or.inr (Or.inl z)))
  have g4 : sp.toNatClampNeg + n.toNatClampNeg ≤ n0' := Nat.not_lt.mp fun z => hq (Or.inr (Or.inr (Or.inr (Or.inl z))))
  have g5 : dp.toNatClampNeg + n.toNatClampNeg ≤ n1 := Nat.not_lt.mp fun z => hq (Or.inr (Or.inr (Or.inr (Or.inr z))))
  have hnw : nativeFrameWords "java/lang/System" "arraycopy" 5 ≤ 20 := by decide
  have hlc : ((r.map (acv b0 ea)).map fun v => v.category).sum + (nativeFrameWords "java/lang/System" "arraycopy" 5 + 11) ≤ R.locals := by
    rw [aws_map]
    omega
  refine va_copyi hx hb (hml.trans hl.2.1.symm) hown (hts _ hlk) (hts _ zcp_n) (hts _ zcp_s) (hts _ zcp_i) hKX.1 hP awd_D hS a0 a 3 3 (show (awd b0 ea cA h.1)[a0]? = some (b0 + a0, .inl (cA 3, n0', .inl f)) from awd_get h0) (show (awd b0 ea cA h.1)[a]? = some (b0 + a, .inl (cA 3, n1, .inl g)) from awd_get h1) rfl rfl rfl g1 g2 g3 g4 g5 (fun i hi => List.all_eq_true.mp hf i (List.mem_range.mpr hi)) (by omega) hlc hd (fun H1 locs1 hP1 hD1 hS1 => ?_)
  refine k H1 locs1 ls cells slots (by rw [List.length_set]; exact e1) e2 ?_ hS1 hl
  rw [← awd_set]
  exact hP1
theorem s_cp1 {a a0 n0' n1 : Nat} {sp dp n : Int32} {f g : Nat → Int64} (h0 : h.1[a0]? = some (.inl (1, n0', .inr (.inl f)))) (h1 : h.1[a]? = some (.inl (1, n1, .inr (.inl g)))) (hq : ¬ (sp < 0 ∨ dp < 0 ∨ n < 0 ∨ n0' < sp.toNatClampNeg + n.toNatClampNeg ∨ n1 < dp.toNatClampNeg + n.toNatClampNeg)) (hc : zmcp.any (fun q => Nat.beq q.1 (aown Γ) && Nat.beq q.2.1 ix && Nat.beq q.2.2.1 1002) = true) (hr8 : aws r ≤ 8) (hR : aRm Γ (d + 1) h') (C : aCF Γ) (hd : aDC Γ pc (.invokestatic ix) 3) (k : aSW Γ (pc + 3) L r (h.1.set a (.inl (1, n1, .inr (.inl (va_cpy f g sp.toNatClampNeg dp.toNatClampNeg n.toNatClampNeg)))), h.2)) : aSW Γ pc L (.int n :: .int dp :: .ref a :: .int sp :: .ref a0 :: r) h := by
  obtain ⟨p, l, e, R, s, m, args, below, meth, c, Q, cc, nL, b0, n0, u0, own, kind, D, cA, ea, X⟩ := Γ
  intro H locs ls cells slots e1 e2 hP hS hl
  obtain ⟨hx, hb, hml, hown, hts, hKX, hsz, hki⟩ := C
  obtain ⟨⟨hR1, hR2⟩, hR3, hR4⟩ := hR
  have hlk := z_linkC hc
  have g1 : ¬ sp < 0 := fun z => hq (Or.inl z)
  have g2 : ¬ dp < 0 := fun z => hq (Or.inr (Or.inl z))
  have g3 : ¬ n < 0 := fun z => hq (Or.inr (Or.inr (Or.inl z)))
  have g4 : sp.toNatClampNeg + n.toNatClampNeg ≤ n0' := Nat.not_lt.mp fun z => hq (Or.inr (Or.inr (Or.inr (Or.inl z))))
  have g5 : dp.toNatClampNeg + n.toNatClampNeg ≤ n1 := Nat.not_lt.mp fun z => hq (Or.inr (Or.inr (Or.inr (Or.inr z))))
  have hnw : nativeFrameWords "java/lang/System" "arraycopy" 5 ≤ 20 := by decide
  have hlc : ((r.map (acv b0 ea)).map fun v => v.category).sum + (nativeFrameWords "java/lang/System" "arraycopy" 5 + 11) ≤ R.locals := by
    rw [aws_map]
    omega
  refine va_copyl hx hb (hml.trans hl.2.1.symm) hown (hts _ hlk) (hts _ zcp_n) (hts _ zcp_s) (hts _ zcp_i) hKX.1 hP awd_D hS a0 a 1 1 (show (awd b0 ea cA h.1)[a0]? = some (b0 + a0, .inl (cA 1, n0', .inr (.inl f))) from awd_get h0) (show (awd b0 ea cA h.1)[a]? = some (b0 + a, .inl (cA 1, n1, .inr (.inl g))) from awd_get h1) rfl rfl rfl g1 g2 g3 g4 g5 (fun _ _ => rfl) (by omega) hlc hd (fun H1 locs1 hP1 hD1 hS1 => ?_)
  refine k H1 locs1 ls cells slots (by rw [List.length_set]; exact e1) e2 ?_ hS1 hl
  rw [← awd_set]
  exact hP1
end MZ
theorem amath_goes {a d : Nat} {st : List Value} {k : List Value → Option aR} {res : aR} (he : amath a d st k = some res) : ∃ st', k st' = some res := by
  unfold amath at he
  split at he
  · cases he
  · obtain ⟨x, y, r, rfl, he⟩ := tII_some he
    exact ⟨_, (abif he).2⟩
  · obtain ⟨x, y, r, rfl, he⟩ := tII_some he
    exact ⟨_, (abif he).2⟩
  · obtain ⟨x, r, rfl, he⟩ := tI_some he
    exact ⟨_, (abif he).2⟩
  · obtain ⟨x, y, r, rfl, he⟩ := tJJ_some he
    exact ⟨_, (abif he).2⟩
  · obtain ⟨x, y, r, rfl, he⟩ := tJJ_some he
    exact ⟨_, (abif he).2⟩
  · cases he
theorem acopy_goes {d : Nat} {st : List Value} {h : aH} {k : List Value → aH → Option aR} {res : aR} (he : acopy d st h k = some res) : ∃ st' h', k st' h' = some res ∧ h.1.length ≤ h'.1.length ∧ h.2 ≤ h'.2 := by
  unfold acopy at he
  split at he
  · obtain ⟨-, he⟩ := abif he
    split at he
    · obtain ⟨-, he⟩ := anite he
      obtain ⟨-, he⟩ := abif he
      exact ⟨_, _, he, by rw [List.length_set]; exact Nat.le_refl _, Nat.le_refl _⟩
    · obtain ⟨-, he⟩ := anite he
      exact ⟨_, _, he, by rw [List.length_set]; exact Nat.le_refl _, Nat.le_refl _⟩
    · cases he
  · cases he
theorem aF_some {pc : Nat} {i : aI} : ∀ {l : List aI}, aF pc l = some i → i ∈ l ∧ i.1 = pc
  | [], h => by cases h
  | q :: r, h => by
    unfold aF at h
    cases hb : Nat.beq q.1 pc with
    | true =>
      rw [hb] at h
      cases h
      exact ⟨List.mem_cons_self, Nat.eq_of_beq_eq_true hb⟩
    | false =>
      rw [hb] at h
      obtain ⟨h1, h2⟩ := aF_some h
      exact ⟨List.mem_cons_of_mem _ h1, h2⟩
theorem aretI_some {ret : Option FieldType} {x : Int32} {h : aH} {res : aR} (he : aretI ret x h = some res) : res = (some (.int x), h) ∧ (ret = some .int ∨ (ret = some .boolean ∧ (x = 0 ∨ x = 1))) := by
  unfold aretI at he
  split at he
  · cases he; exact ⟨rfl, Or.inl rfl⟩
  · rcases aite he with ⟨q, he⟩ | ⟨q, he⟩
    · cases he; exact ⟨rfl, Or.inr ⟨rfl, q⟩⟩
    · cases he
  · cases he
/-- no run makes cells fewer -/
theorem arun_grows {X : aX} : ∀ (n d : Nat) (M : aM) (pc : Nat) (L : aL) (st : List Value) (h : aH) (res : aR), arun X n d M pc L st h = some res → h.1.length ≤ res.2.1.length ∧ h.2 ≤ res.2.2 := by
  intro n
  induction n with
  | zero => intro d M pc L st h res he; cases he
  | succ n ih =>
    intro d M pc L st h res he
    have back : ∀ (d : Nat) (r : List Value) (Y : aM) (L' : aL) (h : aH) (pc : Nat), aback d r (fun d' => arun X n d' Y 0 L' [] h) (fun st' h' => arun X n d M pc L st' h') = some res → h.1.length ≤ res.2.1.length ∧ h.2 ≤ res.2.2 := by
      intro d r Y L' h pc hb
      obtain ⟨d', v, h1, -, -, g1, g2⟩ := aback_some hb
      have a1 := ih _ _ _ _ _ _ _ g1
      have a2 := ih _ _ _ _ _ _ _ g2
      exact ⟨Nat.le_trans a1.1 a2.1, Nat.le_trans a1.2 a2.2⟩
    unfold arun at he
    split at he
    · cases he
    · rename_i i hi
      split at he
      · split at he
        · obtain ⟨rfl, -⟩ := aretI_some he
          exact ⟨Nat.le_refl _, Nat.le_refl _⟩
        · cases he
      · split at he
        · cases he; exact ⟨Nat.le_refl _, Nat.le_refl _⟩
        · cases he
      · split at he
        · cases he; exact ⟨Nat.le_refl _, Nat.le_refl _⟩
        · cases he
      · split at he
        · cases he; exact ⟨Nat.le_refl _, Nat.le_refl _⟩
        · cases he
      · cases hb2 : Nat.beq i.2.2.2.1 1002 with
        | true =>
          rw [hb2] at he
          simp only [cond_true] at he
          obtain ⟨st', h2, g, g1, g2⟩ := acopy_goes he
          have a := ih _ _ _ _ _ _ _ g
          exact ⟨Nat.le_trans g1 a.1, Nat.le_trans g2 a.2⟩
        | false =>
        rw [hb2] at he
        simp only [cond_false] at he
        cases hb : Nat.ble 1010 i.2.2.2.1 with
        | true =>
          rw [hb] at he
          simp only [cond_true] at he
          obtain ⟨st', g⟩ := amath_goes he
          exact ih _ _ _ _ _ _ _ g
        | false =>
          rw [hb] at he
          simp only [cond_false] at he
          split at he
          · obtain ⟨-, he⟩ := abif he
            obtain ⟨as, r, rfl, -, he⟩ := acut_some he
            obtain ⟨-, he⟩ := aent_some he
            exact back _ _ _ _ _ _ he
          · cases he
      · split at he
        · obtain ⟨-, he⟩ := abif he
          obtain ⟨as, r, rfl, -, he⟩ := acut_some he
          split at he
          · obtain ⟨fs, -, he⟩ := aobj_some he
            obtain ⟨-, he⟩ := aent_some he
            exact back _ _ _ _ _ _ he
          · cases he
        · cases he
      · cases hb : Nat.beq i.2.2.2.1 1000 with
        | true =>
          rw [hb] at he
          simp only [cond_true] at he
          split at he
          · obtain ⟨d', v, h1, -, -, g1, g2⟩ := aback_some he
            cases g1
            exact ih _ _ _ _ _ _ _ g2
          · cases he
        | false =>
          rw [hb] at he
          simp only [cond_false] at he
          split at he
          · obtain ⟨-, he⟩ := abif he
            obtain ⟨as, r, rfl, -, he⟩ := acut_some he
            split at he
            · obtain ⟨-, he⟩ := aent_some he
              exact back _ _ _ _ _ _ he
            · cases he
          · cases he
      · obtain ⟨pc', L', st', h', g, g1, g2⟩ := aX1_goes he
        have a := ih _ _ _ _ _ _ _ g
        exact ⟨Nat.le_trans g1 a.1, Nat.le_trans g2 a.2⟩
end
section
-- ===== the simulation: by induction over the run =====
theorem aE_len : ∀ (as : List Value) (n : Nat), aws as ≤ n → (aE n as).length = n
  | [], n, _ => by simp [aE]
  | v :: r, n, h => by
    unfold aE
    simp only [aws] at h
    rcases lv_cat v with q | q
    · rw [show Nat.beq v.category 2 = false by rw [q]; rfl]
      simp only [cond_false, List.length_cons]
      rw [aE_len r (n - 1) (by omega)]
      omega
    · rw [show Nat.beq v.category 2 = true by rw [q]; rfl]
      simp only [cond_true, List.length_cons]
      rw [aE_len r (n - 2) (by omega)]
      omega
theorem aE_get {b0 : Nat} {ea : Nat → Nat} : ∀ (as : List Value) (n off i : Nat) (v : Value), (aE n as)[i]? = some (some v) → (off + i, acv b0 ea v) ∈ lv_args off (as.map (acv b0 ea))
  | [], n, off, i, v, h => by
    simp only [aE, List.getElem?_replicate] at h
    split at h <;> cases h
  | w :: r, n, off, i, v, h => by
    unfold aE at h
    simp only [List.map_cons, lv_args, acv_cat]
    rcases lv_cat w with q | q
    · rw [show Nat.beq w.category 2 = false by rw [q]; rfl] at h
      rw [if_neg (by omega)]
      simp only [cond_false] at h
      match i, h with
      | 0, h => cases h; exact List.mem_cons_self
      | i + 1, h =>
        refine List.mem_cons_of_mem _ ?_
        have := aE_get (b0 := b0) (ea := ea) r (n - 1) (off + 1) i v h
        rw [show off + (i + 1) = off + 1 + i by omega]
        exact this
    · rw [show Nat.beq w.category 2 = true by rw [q]; rfl] at h
      rw [if_pos q]
      simp only [cond_true] at h
      match i, h with
      | 0, h => cases h; exact List.mem_cons_self
      | 1, h => cases h
      | i + 2, h =>
        refine List.mem_cons_of_mem _ ?_
        have := aE_get (b0 := b0) (ea := ea) r (n - 2) (off + 2) i v h
        rw [show off + (i + 2) = off + 2 + i by omega]
        exact this
theorem lg_len {b0 : Nat} {ea : Nat → Nat} : ∀ (as : List Value), (lg_sl (as.map (acv b0 ea))).length = aws as
  | [] => rfl
  | v :: r => by
    have ih := lg_len (b0 := b0) (ea := ea) r
    unfold lg_sl at ih ⊢
    simp only [List.map_cons, List.flatMap_cons, List.length_append, aws, ih, acv_cat]
    rcases lv_cat v with q | q
    · rw [if_neg (by omega), q]; rfl
    · rw [if_pos q, q]; rfl
theorem aE_R {b0 : Nat} {ea : Nat → Nat} {as : List Value} {n : Nat} (h : aws as ≤ n) : alR b0 ea ((lg_sl (as.map (acv b0 ea)) ++ List.replicate (n - (lg_sl (as.map (acv b0 ea))).length) Slot.unset).toArray) n (aE n as) := by
  obtain ⟨h1, h2, h3⟩ := lv_entry (as.map (acv b0 ea)) (n := n) (by rw [lg_len]; exact h)
  refine ⟨aE_len as n h, h1, h2, fun i v hv => ?_⟩
  have := aE_get (b0 := b0) (ea := ea) as n 0 i v (aG_lt hv)
  rw [Nat.zero_add] at this
  exact h3 _ this
def aRet (Γ : aGm) (M : aM) (pc : Nat) (st : List Value) (v : Option Value) : Prop :=
  (∃ x, st = [.int x] ∧ v = some (.int x) ∧ aDC Γ pc .ireturn 1 ∧ (M.2.2.2.2.1 = some .int ∨ (M.2.2.2.2.1 = some .boolean ∧ (x = 0 ∨ x = 1)))) ∨
  (∃ x, st = [.long x] ∧ v = some (.long x) ∧ aDC Γ pc .lreturn 1 ∧ M.2.2.2.2.1 = some .long) ∨
  (∃ x C, st = [.ref x] ∧ v = some (.ref x) ∧ aDC Γ pc .areturn 1 ∧ M.2.2.2.2.1 = some (.object C)) ∨
  (st = [] ∧ v = none ∧ aDC Γ pc .return_ 1 ∧ M.2.2.2.2.1 = none)
def aFin (Γ : aGm) (M : aM) (v : Option Value) (h' : aH) : Prop := ∀ (pc : Nat) (L : aL) (st : List Value), aRet Γ M pc st v → aSW Γ pc L st h'
def aCd (Γ : aGm) (M : aM) : Prop := match Γ with
  | (p, l, e, R, s, m, args, below, meth, c, Q, cc, nL, b0, n0, u0, own, kind, D, cA, ea, X) => zchk M.1 cc M.2.2.2.2.2.2.2 = true ∧ own = M.1 ∧ kind = M.2.2.2.2.2.2.1
def aS (X : aX) (n : Nat) : Prop := ∀ (Γ : aGm) (d : Nat) (M : aM) (pc : Nat) (L : aL) (st : List Value) (h : aH) (v : Option Value) (h' : aH), aXX Γ = X → arun X n d M pc L st h = some (v, h') → aCd Γ M → aCF Γ → aRm Γ d h' → aFin Γ M v h' → aSW Γ pc L st h
theorem aM_of {X : aX} {n : Nat} (hS : aS X n) (l : Launch) (D : va_G) (cA : Nat → ClassId) (ea : Nat → Nat) (b0 d : Nat) (Y : aM) (as : List Value) (h : aH) (v : Option Value) (h' : aH) (hY : Y ∈ zmt) (hrun : arun X n d Y 0 (aE Y.2.2.2.1 as) [] h = some (v, h')) (has : aws as ≤ Y.2.2.2.1) : aMet l D cA ea b0 X d Y as h v h' := by
  have hok := zmt_ok Y hY
  obtain ⟨pl, d1, d2, d3, d4, d5, d6⟩ := zMok_d hok
  have hgr := arun_grows _ _ _ _ _ _ _ _ hrun
  dsimp only at hgr
  refine Met.ofW (cc := Y.2.2.1) (maxL := Y.2.2.2.1) (ret := Y.2.2.2.2.1) pl rfl ?_
  intro p e s m args below meth c s₁ B hml hv
  obtain ⟨rfl, hsz, hP, hK⟩ := hv
  have hx := B.exec
  have hb := B.bytes
  have hr := B.returns
  have hts0 := atoms_spec (ws := aWs Y) B.pre
  have hown : s.vm.findClass Y.2.1.cls = some m.cls := findClass_of_methodNamed B.named
  have hlocks := B.notSynchronized
  have hnm : meth.name = Y.2.1.name := (name_of_methodNamed B.named B.method).1
  rw [lg_entry_eq]
  have key := hS (p, l, e, aRoom d (h'.1.length - h.1.length) (h'.2 - h.2), s, m, (as.map (acv b0 ea)).toArray, below, meth, c, MQ below (aQ D cA ea b0 v h') (as.map (acv b0 ea)).toArray s (h'.1.length - h.1.length) (h'.2 - h.2) (fun q => b0 ≤ q), Y.2.2.1, Y.2.2.2.1, b0, h.1.length, h.2, Y.1, Y.2.2.2.2.2.2.1, D, cA, ea, X) d Y 0 (aE Y.2.2.2.1 as) [] h v h' rfl hrun ⟨hok.1, rfl, rfl⟩
    ⟨hx, hb, hml, by rw [d4]; exact hown, fun w hw => hts0 w (List.mem_cons_of_mem _ hw), hK, hsz, fun q => hnm.trans (d6 q).1⟩
    ⟨⟨by show h'.1.length ≤ h.1.length + (h'.1.length - h.1.length); omega, by show h'.2 ≤ h.2 + (h'.2 - h.2); omega⟩, Nat.le_refl _, Nat.le_refl _⟩ (by
      intro pc L st hret H locs ls cells slots e1 e2 hP2 hS2 hl
      have ec : cells = h'.1.length - h.1.length := by omega
      have es : slots = h'.2 - h.2 := by omega
      subst ec
      subst es
      have hq : ∀ (w : Option Value), w = v.map (acv b0 ea) → ∀ t : State, t.heap = H → s.WarmedH t.vm → aQ D cA ea b0 v h' (as.map (acv b0 ea)).toArray s (.returned w) t := fun w hw t ht _ => ⟨by rw [hw], by rw [ht]; exact hP2, by rw [ht]; exact hS2.1, fun q q1 q2 => by rw [ht]; exact hS2.2.1 q q1 q2⟩
      rcases hret with ⟨x, rfl, rfl, hd, hty | ⟨hty, hx01⟩⟩ | ⟨x, rfl, rfl, hd, hty⟩ | ⟨x, C, rfl, rfl, hd, hty⟩ | ⟨rfl, rfl, hd, hty⟩
      · exact W.iret (v := x) hx hb (hr.trans hty) (hq _ rfl) hS2.2.2 hd hlocks
      · exact W.zret (v := x) (ty := .boolean) hx hb (hr.trans hty) (by rcases hx01 with rfl | rfl <;> rfl) (hq _ rfl) hS2.2.2 hd hlocks
      · exact W.lret (v := x) hx hb (hr.trans hty) (hq _ rfl) hS2.2.2 hd hlocks
      · exact W.aret (v := .ref (b0 + x)) (rt := .object C) hx hb (hr.trans hty) (Or.inl ⟨C, rfl⟩) (Or.inr ⟨_, rfl⟩) (hq _ rfl) hS2.2.2 hd hlocks
      · exact W.vret hx hb (hr.trans hty) (hq _ rfl) hS2.2.2 hd hlocks)
  exact key s.heap [] _ 0 0 rfl rfl hP va_S.rf (aE_R has)
theorem aCd_at {Γ : aGm} {M : aM} (h : aCd Γ M) {i : aI} (hi : i ∈ M.2.2.2.2.2.2.2) : aDC Γ i.1 i.2.1 (zlen i.2.1 i.2.2.1) ∧ zchkI (aown Γ) i = true ∧ aown Γ = M.1 ∧ akind Γ = M.2.2.2.2.2.2.1 := by
  obtain ⟨p, l, e, R, s, m, args, below, meth, c, Q, cc, nL, b0, n0, u0, own, kind, D, cA, ea, X⟩ := Γ
  obtain ⟨h1, rfl, rfl⟩ := h
  have h2 := List.all_eq_true.mp h1 i hi
  obtain ⟨h3, h4⟩ := (Bool.and_eq_true _ _).mp h2
  have h5 : decode cc i.1 = .ok (i.2.1, zlen i.2.1 i.2.2.1) := of_decide_eq_true h3
  exact ⟨h5, h4, rfl, rfl⟩
theorem aRm_of {Γ : aGm} {d : Nat} {h h' : aH} (hR : aRm Γ d h') (h1 : h.1.length ≤ h'.1.length) (h2 : h.2 ≤ h'.2) : aRM Γ h := by
  obtain ⟨p, l, e, R, s, m, args, below, meth, c, Q, cc, nL, b0, n0, u0, own, kind, D, cA, ea, X⟩ := Γ
  obtain ⟨⟨g1, g2⟩, -, -⟩ := hR
  exact ⟨Nat.le_trans h1 g1, Nat.le_trans h2 g2⟩
theorem aMG_of {X : aX} {n : Nat} (hS : aS X n) {Γ : aGm} (hX : aXX Γ = X) {d : Nat} {Y : aM} {as : List Value} {h h' : aH} {v : Option Value} (hY : Y ∈ zmt) (hrun : arun X n d Y 0 (aE Y.2.2.2.1 as) [] h = some (v, h')) (has : aws as ≤ Y.2.2.2.1) : aMG Γ d Y as h v h' := by
  obtain ⟨p, l, e, R, s, m, args, below, meth, c, Q, cc, nL, b0, n0, u0, own, kind, D, cA, ea, X'⟩ := Γ
  have hX : X' = X := hX
  subst hX
  exact aM_of hS l D cA ea b0 d Y as h v h' hY hrun has
theorem zmt_b13 : zmt.all (fun Y => Nat.blt Y.1 13 || Nat.beq Y.2.2.2.2.2.2.1 1) = true := by decide +kernel
set_option maxHeartbeats 4000000 in
theorem a_sim (X : aX) : ∀ n, aS X n := by
  intro n
  induction n with
  | zero => intro Γ d M pc L st h v h' _ he; cases he
  | succ n ih =>
    intro Γ d M pc L st h v h' hX he hCd C hR hF
    have hgrow : ∀ {d : Nat} {M : aM} {pc : Nat} {L : aL} {st : List Value} {h : aH} {v : Option Value} {h' : aH}, arun X n d M pc L st h = some (v, h') → h.1.length ≤ h'.1.length ∧ h.2 ≤ h'.2 := fun g => arun_grows _ _ _ _ _ _ _ _ g
    have go : ∀ {pc' : Nat} {L' : aL} {st' : List Value} {h1 : aH}, arun X n d M pc' L' st' h1 = some (v, h') → aSW Γ pc' L' st' h1 := fun g => ih Γ d M _ _ _ _ v h' hX g hCd C hR hF
    unfold arun at he
    split at he
    · cases he
    · rename_i i hi
      obtain ⟨him, hpc⟩ := aF_some hi
      subst hpc
      obtain ⟨hd, hc, hown, hkind⟩ := aCd_at hCd him
      obtain ⟨pc, ins, len, a, b⟩ := i
      dsimp only at he hd hc him hi ⊢
      split at he
      · split at he
        · obtain ⟨g1, g2⟩ := aretI_some he
          cases g1
          exact hF _ _ _ (Or.inl ⟨_, rfl, rfl, hd, g2⟩)
        · cases he
      · split at he
        · rename_i hty
          cases he
          exact hF _ _ _ (Or.inr (Or.inl ⟨_, rfl, rfl, hd, hty⟩))
        · cases he
      · split at he
        · rename_i hty
          cases he
          exact hF _ _ _ (Or.inr (Or.inr (Or.inl ⟨_, _, rfl, rfl, hd, hty⟩)))
        · cases he
      · split at he
        · rename_i hty
          cases he
          exact hF _ _ _ (Or.inr (Or.inr (Or.inr ⟨rfl, rfl, hd, hty⟩)))
        · cases he
      · cases hb2 : Nat.beq a 1002 with
        | true =>
          have ha := Nat.eq_of_beq_eq_true hb2
          subst ha
          rw [hb2] at he
          simp only [cond_true] at he
          unfold acopy at he
          split at he
          · obtain ⟨h8, he⟩ := abif he
            split at he
            · rename_i g0 g1
              obtain ⟨hq, he⟩ := anite he
              obtain ⟨hf, he⟩ := abif he
              exact s_cp3 g0 g1 hq hf hc (Nat.le_of_ble_eq_true h8) hR C hd (go he)
            · rename_i g0 g1
              obtain ⟨hq, he⟩ := anite he
              exact s_cp1 g0 g1 hq hc (Nat.le_of_ble_eq_true h8) hR C hd (go he)
            · cases he
          · cases he
        | false =>
        rw [hb2] at he
        simp only [cond_false] at he
        cases hb : Nat.ble 1010 a with
        | true =>
          rw [hb] at he
          simp only [cond_true] at he
          unfold amath at he
          split at he
          · cases he
          · obtain ⟨x, y, r, rfl, he⟩ := tII_some he
            obtain ⟨h8, he⟩ := abif he
            exact s_m1010 hc (Nat.le_of_ble_eq_true h8) (hgrow he) hR C hd (go he)
          · obtain ⟨x, y, r, rfl, he⟩ := tII_some he
            obtain ⟨h8, he⟩ := abif he
            exact s_m1011 hc (Nat.le_of_ble_eq_true h8) (hgrow he) hR C hd (go he)
          · obtain ⟨x, r, rfl, he⟩ := tI_some he
            obtain ⟨h8, he⟩ := abif he
            exact s_m1012 hc (Nat.le_of_ble_eq_true h8) (hgrow he) hR C hd (go he)
          · obtain ⟨x, y, r, rfl, he⟩ := tJJ_some he
            obtain ⟨h8, he⟩ := abif he
            exact s_m1013 hc (Nat.le_of_ble_eq_true h8) (hgrow he) hR C hd (go he)
          · obtain ⟨x, y, r, rfl, he⟩ := tJJ_some he
            obtain ⟨h8, he⟩ := abif he
            exact s_m1014 hc (Nat.le_of_ble_eq_true h8) (hgrow he) hR C hd (go he)
          · cases he
        | false =>
          rw [hb] at he
          simp only [cond_false] at he
          split at he
          · rename_i Y hY
            obtain ⟨hk1, he⟩ := abif he
            obtain ⟨as, r, rfl, hn, he⟩ := acut_some he
            obtain ⟨hw, he⟩ := aent_some he
            obtain ⟨d', v1, h1, rfl, h8, g1, g2⟩ := aback_some he
            have hm := List.mem_of_getElem? hY
            exact s_stat hY (zmt_ok Y hm) (Nat.eq_of_beq_eq_true hk1) hc hn h8 (aMG_of ih hX hm g1 hw) (hgrow g1) (hgrow g2) hR C hd (go g2)
          · cases he
      · split at he
        · rename_i Y hY
          obtain ⟨hk1, he⟩ := abif he
          obtain ⟨as, r, rfl, hn, he⟩ := acut_some he
          split at he
          · rename_i o r'
            obtain ⟨fs, ho, he⟩ := aobj_some he
            obtain ⟨hw, he⟩ := aent_some he
            obtain ⟨d', v1, h1, rfl, h8, g1, g2⟩ := aback_some he
            have hm := List.mem_of_getElem? hY
            have hk0 := Nat.eq_of_beq_eq_true hk1
            have h13 : Y.1 < 13 := by
              rcases (Bool.or_eq_true _ _).mp (List.all_eq_true.mp zmt_b13 Y hm) with q | q
              · exact Nat.le_of_ble_eq_true q
              · have := Nat.eq_of_beq_eq_true q
                omega
            exact s_virt hY (zmt_ok Y hm) hk0 hc hn h8 ho h13 (aMG_of ih hX hm g1 hw) (hgrow g1) (hgrow g2) hR C hd (go g2)
          · cases he
        · cases he
      · cases hb : Nat.beq a 1000 with
        | true =>
          have ha := Nat.eq_of_beq_eq_true hb
          subst ha
          rw [hb] at he
          simp only [cond_true] at he
          split at he
          · obtain ⟨d', v1, h1, rfl, h8, g1, g2⟩ := aback_some he
            cases g1
            exact s_obj hc h8 hR C hd (go g2)
          · cases he
        | false =>
          rw [hb] at he
          simp only [cond_false] at he
          split at he
          · rename_i Y hY
            obtain ⟨hk1, he⟩ := abif he
            obtain ⟨as, r, rfl, hn, he⟩ := acut_some he
            split at he
            · rename_i o r'
              obtain ⟨hw, he⟩ := aent_some he
              obtain ⟨d', v1, h1, rfl, h8, g1, g2⟩ := aback_some he
              have hm := List.mem_of_getElem? hY
              exact s_init hY (zmt_ok Y hm) (Nat.eq_of_beq_eq_true hk1) hc hn h8 (aMG_of ih hX hm g1 hw) (hgrow g1) (hgrow g2) hR C hd (go g2)
            · cases he
          · cases he
      · rw [← hown, ← hkind] at he
        subst hX
        exact a_step (i := (pc, ins, len, a, b)) C hd hc (fun pc' L' st' h1 g => go g) (fun pc' L' st' h1 g => aRm_of hR (hgrow g).1 (hgrow g).2) he
end
section
-- ===== the equations of our machine, an instruction a row =====
def aplain (i : Instr) : Bool := match i with
  | .ireturn => false
  | .lreturn => false
  | .areturn => false
  | .return_ => false
  | .invokestatic _ => false
  | .invokevirtual _ => false
  | .invokespecial _ => false
  | _ => true
theorem arun_p {X : aX} {n d pc : Nat} {M : aM} {L : aL} {r : List Value} {h : aH} {i : aI} (hf : aF pc M.2.2.2.2.2.2.2 = some i) (hp : aplain i.2.1 = true) : arun X (n + 1) d M pc L r h = aX1 X M.1 M.2.2.2.2.2.2.1 (arun X n d M) i L r h := by
  conv => lhs; unfold arun
  simp only [hf]
  obtain ⟨p, ins, len, a, b⟩ := i
  cases ins <;> first | rfl | cases hp
section RZ
variable {X : aX} {n d pc len a b : Nat} {M : aM} {L : aL} {r : List Value} {h : aH}
theorem r_iconst {z : Int} {v : Int32} (hf : aF pc M.2.2.2.2.2.2.2 = some (pc, (.iconst z), len, a, b)) (hv : Int32.ofInt z = v) : arun X (n + 1) d M pc L r h = arun X n d M (pc + 1) L (.int v :: r) h := by
  rw [arun_p hf rfl]
  subst hv
  rfl
theorem r_bipush {z : Int} {v : Int32} (hf : aF pc M.2.2.2.2.2.2.2 = some (pc, (.bipush z), len, a, b)) (hv : (Int8.ofInt z).toInt32 = v) : arun X (n + 1) d M pc L r h = arun X n d M (pc + 2) L (.int v :: r) h := by
  rw [arun_p hf rfl]
  subst hv
  rfl
theorem r_sipush {z : Int} {v : Int32} (hf : aF pc M.2.2.2.2.2.2.2 = some (pc, (.sipush z), len, a, b)) (hv : (Int16.ofInt z).toInt32 = v) : arun X (n + 1) d M pc L r h = arun X n d M (pc + 3) L (.int v :: r) h := by
  rw [arun_p hf rfl]
  subst hv
  rfl
theorem r_lconst {z : Fin 2} {v : Int64} (hf : aF pc M.2.2.2.2.2.2.2 = some (pc, (.lconst z), len, a, b)) (hv : Int64.ofNat z = v) : arun X (n + 1) d M pc L r h = arun X n d M (pc + 1) L (.long v :: r) h := by
  rw [arun_p hf rfl]
  subst hv
  rfl
theorem r_null  (hf : aF pc M.2.2.2.2.2.2.2 = some (pc, .aconst_null, len, a, b))  : arun X (n + 1) d M pc L r h = arun X n d M (pc + 1) L (.null :: r) h := by
  rw [arun_p hf rfl]
  rfl
theorem r_ldc {ix : Nat} {v : Int32} (hf : aF pc M.2.2.2.2.2.2.2 = some (pc, (.ldc ix), len, a, b)) (hv : Int32.ofNat a = v) : arun X (n + 1) d M pc L r h = arun X n d M (pc + 2) L (.int v :: r) h := by
  rw [arun_p hf rfl]
  subst hv
  rfl
theorem r_ldcw {ix : Nat} {v : Int32} (hf : aF pc M.2.2.2.2.2.2.2 = some (pc, (.ldc_w ix), len, a, b)) (hv : Int32.ofNat a = v) : arun X (n + 1) d M pc L r h = arun X n d M (pc + 3) L (.int v :: r) h := by
  rw [arun_p hf rfl]
  subst hv
  rfl
theorem r_ldc2 {ix : Nat} {v : Int64} (hf : aF pc M.2.2.2.2.2.2.2 = some (pc, (.ldc2_w ix), len, a, b)) (hv : Int64.ofNat a = v) : arun X (n + 1) d M pc L r h = arun X n d M (pc + 3) L (.long v :: r) h := by
  rw [arun_p hf rfl]
  subst hv
  rfl
theorem r_iloadn {z : Fin 4} {x : Int32} (hf : aF pc M.2.2.2.2.2.2.2 = some (pc, (.iload_n z), len, a, b)) (hg : aG L z = some (.int x)) : arun X (n + 1) d M pc L r h = arun X n d M (pc + 1) L (.int x :: r) h := by
  rw [arun_p hf rfl]
  simp only [aX1, hg]
theorem r_iload {z : Nat} {x : Int32} (hf : aF pc M.2.2.2.2.2.2.2 = some (pc, (.iload z), len, a, b)) (hg : aG L z = some (.int x)) : arun X (n + 1) d M pc L r h = arun X n d M (pc + 2) L (.int x :: r) h := by
  rw [arun_p hf rfl]
  simp only [aX1, hg]
theorem r_lloadn {z : Fin 4} {x : Int64} (hf : aF pc M.2.2.2.2.2.2.2 = some (pc, (.lload_n z), len, a, b)) (hg : aG L z = some (.long x)) : arun X (n + 1) d M pc L r h = arun X n d M (pc + 1) L (.long x :: r) h := by
  rw [arun_p hf rfl]
  simp only [aX1, hg]
theorem r_lload {z : Nat} {x : Int64} (hf : aF pc M.2.2.2.2.2.2.2 = some (pc, (.lload z), len, a, b)) (hg : aG L z = some (.long x)) : arun X (n + 1) d M pc L r h = arun X n d M (pc + 2) L (.long x :: r) h := by
  rw [arun_p hf rfl]
  simp only [aX1, hg]
theorem r_aloadn {z : Fin 4} {x : Nat} (hf : aF pc M.2.2.2.2.2.2.2 = some (pc, (.aload_n z), len, a, b)) (hg : aG L z = some (.ref x)) : arun X (n + 1) d M pc L r h = arun X n d M (pc + 1) L (.ref x :: r) h := by
  rw [arun_p hf rfl]
  simp only [aX1, hg]
theorem r_aload {z : Nat} {x : Nat} (hf : aF pc M.2.2.2.2.2.2.2 = some (pc, (.aload z), len, a, b)) (hg : aG L z = some (.ref x)) : arun X (n + 1) d M pc L r h = arun X n d M (pc + 2) L (.ref x :: r) h := by
  rw [arun_p hf rfl]
  simp only [aX1, hg]
theorem r_aloadnX {z : Fin 4} {x : Nat} (hf : aF pc M.2.2.2.2.2.2.2 = some (pc, (.aload_n z), len, a, b)) (hg : aG L z = some (.retAddr x)) : arun X (n + 1) d M pc L r h = arun X n d M (pc + 1) L (.retAddr x :: r) h := by
  rw [arun_p hf rfl]
  simp only [aX1, hg]
theorem r_aloadX {z : Nat} {x : Nat} (hf : aF pc M.2.2.2.2.2.2.2 = some (pc, (.aload z), len, a, b)) (hg : aG L z = some (.retAddr x)) : arun X (n + 1) d M pc L r h = arun X n d M (pc + 2) L (.retAddr x :: r) h := by
  rw [arun_p hf rfl]
  simp only [aX1, hg]
theorem r_aloadnN {z : Fin 4} (hf : aF pc M.2.2.2.2.2.2.2 = some (pc, (.aload_n z), len, a, b)) (hg : aG L z = some .null) : arun X (n + 1) d M pc L r h = arun X n d M (pc + 1) L (.null :: r) h := by
  rw [arun_p hf rfl]
  simp only [aX1, hg]
theorem r_aloadN {z : Nat} (hf : aF pc M.2.2.2.2.2.2.2 = some (pc, (.aload z), len, a, b)) (hg : aG L z = some .null) : arun X (n + 1) d M pc L r h = arun X n d M (pc + 2) L (.null :: r) h := by
  rw [arun_p hf rfl]
  simp only [aX1, hg]
theorem r_istoren {z : Fin 4} {x : Int32} {L' : aL} (hf : aF pc M.2.2.2.2.2.2.2 = some (pc, (.istore_n z), len, a, b)) (hz : Nat.blt ((z : Nat)) L.length = true) (hL : aS1 L z (.int x) = L') : arun X (n + 1) d M pc L (.int x :: r) h = arun X n d M (pc + 1) L' r h := by
  rw [arun_p hf rfl]
  subst hL
  simp only [aX1, tI, tJ, hz, cond_true]
theorem r_istore {z : Nat} {x : Int32} {L' : aL} (hf : aF pc M.2.2.2.2.2.2.2 = some (pc, (.istore z), len, a, b)) (hz : Nat.blt ((z : Nat)) L.length = true) (hL : aS1 L z (.int x) = L') : arun X (n + 1) d M pc L (.int x :: r) h = arun X n d M (pc + 2) L' r h := by
  rw [arun_p hf rfl]
  subst hL
  simp only [aX1, tI, tJ, hz, cond_true]
theorem r_lstoren {z : Fin 4} {x : Int64} {L' : aL} (hf : aF pc M.2.2.2.2.2.2.2 = some (pc, (.lstore_n z), len, a, b)) (hz : Nat.blt ((z : Nat) + 1) L.length = true) (hL : aS2 L z (.long x) = L') : arun X (n + 1) d M pc L (.long x :: r) h = arun X n d M (pc + 1) L' r h := by
  rw [arun_p hf rfl]
  subst hL
  simp only [aX1, tI, tJ, hz, cond_true]
theorem r_lstore {z : Nat} {x : Int64} {L' : aL} (hf : aF pc M.2.2.2.2.2.2.2 = some (pc, (.lstore z), len, a, b)) (hz : Nat.blt ((z : Nat) + 1) L.length = true) (hL : aS2 L z (.long x) = L') : arun X (n + 1) d M pc L (.long x :: r) h = arun X n d M (pc + 2) L' r h := by
  rw [arun_p hf rfl]
  subst hL
  simp only [aX1, tI, tJ, hz, cond_true]
theorem r_astoren {z : Fin 4} {x : Nat} {L' : aL} (hf : aF pc M.2.2.2.2.2.2.2 = some (pc, (.astore_n z), len, a, b)) (hz : Nat.blt ((z : Nat)) L.length = true) (hL : aS1 L z (.ref x) = L') : arun X (n + 1) d M pc L (.ref x :: r) h = arun X n d M (pc + 1) L' r h := by
  rw [arun_p hf rfl]
  subst hL
  simp only [aX1, tI, tJ, hz, cond_true]
theorem r_astore {z : Nat} {x : Nat} {L' : aL} (hf : aF pc M.2.2.2.2.2.2.2 = some (pc, (.astore z), len, a, b)) (hz : Nat.blt ((z : Nat)) L.length = true) (hL : aS1 L z (.ref x) = L') : arun X (n + 1) d M pc L (.ref x :: r) h = arun X n d M (pc + 2) L' r h := by
  rw [arun_p hf rfl]
  subst hL
  simp only [aX1, tI, tJ, hz, cond_true]
theorem r_astorenN {z : Fin 4} {L' : aL} (hf : aF pc M.2.2.2.2.2.2.2 = some (pc, (.astore_n z), len, a, b)) (hz : Nat.blt (z : Nat) L.length = true) (hL : aS1 L z .null = L') : arun X (n + 1) d M pc L (.null :: r) h = arun X n d M (pc + 1) L' r h := by
  rw [arun_p hf rfl]
  subst hL
  simp only [aX1, hz, cond_true]
theorem r_astoreN {z : Nat} {L' : aL} (hf : aF pc M.2.2.2.2.2.2.2 = some (pc, (.astore z), len, a, b)) (hz : Nat.blt (z : Nat) L.length = true) (hL : aS1 L z .null = L') : arun X (n + 1) d M pc L (.null :: r) h = arun X n d M (pc + 2) L' r h := by
  rw [arun_p hf rfl]
  subst hL
  simp only [aX1, hz, cond_true]
theorem r_iinc {z : Nat} {c : Int} {x v : Int32} {L' : aL} (hf : aF pc M.2.2.2.2.2.2.2 = some (pc, (.iinc z c), len, a, b)) (hg : aG L z = some (.int x)) (hv : x + Int32.ofInt c = v) (hL : aS1 L z (.int v) = L') : arun X (n + 1) d M pc L r h = arun X n d M (pc + 3) L' r h := by
  rw [arun_p hf rfl]
  subst hv
  subst hL
  simp only [aX1, hg]
theorem r_iadd {x y v : Int32} (hf : aF pc M.2.2.2.2.2.2.2 = some (pc, .iadd, len, a, b)) (hv : x + y = v) : arun X (n + 1) d M pc L (.int y :: .int x :: r) h = arun X n d M (pc + 1) L (.int v :: r) h := by
  rw [arun_p hf rfl]
  subst hv
  rfl
theorem r_isub {x y v : Int32} (hf : aF pc M.2.2.2.2.2.2.2 = some (pc, .isub, len, a, b)) (hv : x - y = v) : arun X (n + 1) d M pc L (.int y :: .int x :: r) h = arun X n d M (pc + 1) L (.int v :: r) h := by
  rw [arun_p hf rfl]
  subst hv
  rfl
theorem r_imul {x y v : Int32} (hf : aF pc M.2.2.2.2.2.2.2 = some (pc, .imul, len, a, b)) (hv : x * y = v) : arun X (n + 1) d M pc L (.int y :: .int x :: r) h = arun X n d M (pc + 1) L (.int v :: r) h := by
  rw [arun_p hf rfl]
  subst hv
  rfl
theorem r_iand {x y v : Int32} (hf : aF pc M.2.2.2.2.2.2.2 = some (pc, .iand, len, a, b)) (hv : x &&& y = v) : arun X (n + 1) d M pc L (.int y :: .int x :: r) h = arun X n d M (pc + 1) L (.int v :: r) h := by
  rw [arun_p hf rfl]
  subst hv
  rfl
theorem r_ior {x y v : Int32} (hf : aF pc M.2.2.2.2.2.2.2 = some (pc, .ior, len, a, b)) (hv : x ||| y = v) : arun X (n + 1) d M pc L (.int y :: .int x :: r) h = arun X n d M (pc + 1) L (.int v :: r) h := by
  rw [arun_p hf rfl]
  subst hv
  rfl
theorem r_ixor {x y v : Int32} (hf : aF pc M.2.2.2.2.2.2.2 = some (pc, .ixor, len, a, b)) (hv : x ^^^ y = v) : arun X (n + 1) d M pc L (.int y :: .int x :: r) h = arun X n d M (pc + 1) L (.int v :: r) h := by
  rw [arun_p hf rfl]
  subst hv
  rfl
theorem r_ishl {x y v : Int32} (hf : aF pc M.2.2.2.2.2.2.2 = some (pc, .ishl, len, a, b)) (hv : x <<< (y &&& 31) = v) : arun X (n + 1) d M pc L (.int y :: .int x :: r) h = arun X n d M (pc + 1) L (.int v :: r) h := by
  rw [arun_p hf rfl]
  subst hv
  rfl
theorem r_ishr {x y v : Int32} (hf : aF pc M.2.2.2.2.2.2.2 = some (pc, .ishr, len, a, b)) (hv : x >>> (y &&& 31) = v) : arun X (n + 1) d M pc L (.int y :: .int x :: r) h = arun X n d M (pc + 1) L (.int v :: r) h := by
  rw [arun_p hf rfl]
  subst hv
  rfl
theorem r_iushr {x y v : Int32} (hf : aF pc M.2.2.2.2.2.2.2 = some (pc, .iushr, len, a, b)) (hv : (x.toUInt32 >>> (y.toUInt32 &&& Int32.toUInt32 31)).toInt32 = v) : arun X (n + 1) d M pc L (.int y :: .int x :: r) h = arun X n d M (pc + 1) L (.int v :: r) h := by
  rw [arun_p hf rfl]
  subst hv
  rfl
theorem r_idiv {x y v : Int32} (hf : aF pc M.2.2.2.2.2.2.2 = some (pc, .idiv, len, a, b)) (hn : ¬ y = 0) (hv : x / y = v) : arun X (n + 1) d M pc L (.int y :: .int x :: r) h = arun X n d M (pc + 1) L (.int v :: r) h := by
  rw [arun_p hf rfl]
  subst hv
  simp only [aX1, tII, if_neg hn]
theorem r_irem {x y v : Int32} (hf : aF pc M.2.2.2.2.2.2.2 = some (pc, .irem, len, a, b)) (hn : ¬ y = 0) (hv : x - x / y * y = v) : arun X (n + 1) d M pc L (.int y :: .int x :: r) h = arun X n d M (pc + 1) L (.int v :: r) h := by
  rw [arun_p hf rfl]
  subst hv
  simp only [aX1, tII, if_neg hn]
theorem r_ladd {x y v : Int64} (hf : aF pc M.2.2.2.2.2.2.2 = some (pc, .ladd, len, a, b)) (hv : x + y = v) : arun X (n + 1) d M pc L (.long y :: .long x :: r) h = arun X n d M (pc + 1) L (.long v :: r) h := by
  rw [arun_p hf rfl]
  subst hv
  rfl
theorem r_lsub {x y v : Int64} (hf : aF pc M.2.2.2.2.2.2.2 = some (pc, .lsub, len, a, b)) (hv : x - y = v) : arun X (n + 1) d M pc L (.long y :: .long x :: r) h = arun X n d M (pc + 1) L (.long v :: r) h := by
  rw [arun_p hf rfl]
  subst hv
  rfl
theorem r_lmul {x y v : Int64} (hf : aF pc M.2.2.2.2.2.2.2 = some (pc, .lmul, len, a, b)) (hv : x * y = v) : arun X (n + 1) d M pc L (.long y :: .long x :: r) h = arun X n d M (pc + 1) L (.long v :: r) h := by
  rw [arun_p hf rfl]
  subst hv
  rfl
theorem r_land {x y v : Int64} (hf : aF pc M.2.2.2.2.2.2.2 = some (pc, .land, len, a, b)) (hv : x &&& y = v) : arun X (n + 1) d M pc L (.long y :: .long x :: r) h = arun X n d M (pc + 1) L (.long v :: r) h := by
  rw [arun_p hf rfl]
  subst hv
  rfl
theorem r_lor {x y v : Int64} (hf : aF pc M.2.2.2.2.2.2.2 = some (pc, .lor, len, a, b)) (hv : x ||| y = v) : arun X (n + 1) d M pc L (.long y :: .long x :: r) h = arun X n d M (pc + 1) L (.long v :: r) h := by
  rw [arun_p hf rfl]
  subst hv
  rfl
theorem r_ldiv {x y v : Int64} (hf : aF pc M.2.2.2.2.2.2.2 = some (pc, .ldiv, len, a, b)) (hn : ¬ y = 0) (hv : x / y = v) : arun X (n + 1) d M pc L (.long y :: .long x :: r) h = arun X n d M (pc + 1) L (.long v :: r) h := by
  rw [arun_p hf rfl]
  subst hv
  simp only [aX1, tJJ, if_neg hn]
theorem r_lrem {x y v : Int64} (hf : aF pc M.2.2.2.2.2.2.2 = some (pc, .lrem, len, a, b)) (hn : ¬ y = 0) (hv : x - x / y * y = v) : arun X (n + 1) d M pc L (.long y :: .long x :: r) h = arun X n d M (pc + 1) L (.long v :: r) h := by
  rw [arun_p hf rfl]
  subst hv
  simp only [aX1, tJJ, if_neg hn]
theorem r_lshl {x v : Int64} {y : Int32} (hf : aF pc M.2.2.2.2.2.2.2 = some (pc, .lshl, len, a, b)) (hv : x <<< (y.toInt64 &&& 63) = v) : arun X (n + 1) d M pc L (.int y :: .long x :: r) h = arun X n d M (pc + 1) L (.long v :: r) h := by
  rw [arun_p hf rfl]
  subst hv
  rfl
theorem r_lcmp {x y : Int64} {v : Int32} (hf : aF pc M.2.2.2.2.2.2.2 = some (pc, .lcmp, len, a, b)) (hv : lg_cmp x y = v) : arun X (n + 1) d M pc L (.long y :: .long x :: r) h = arun X n d M (pc + 1) L (.int v :: r) h := by
  rw [arun_p hf rfl]
  subst hv
  rfl
theorem r_ineg {x : Int32} {v : Int32} (hf : aF pc M.2.2.2.2.2.2.2 = some (pc, .ineg, len, a, b)) (hv : -x = v) : arun X (n + 1) d M pc L (.int x :: r) h = arun X n d M (pc + 1) L (.int v :: r) h := by
  rw [arun_p hf rfl]
  subst hv
  rfl
theorem r_i2l {x : Int32} {v : Int64} (hf : aF pc M.2.2.2.2.2.2.2 = some (pc, .i2l, len, a, b)) (hv : x.toInt64 = v) : arun X (n + 1) d M pc L (.int x :: r) h = arun X n d M (pc + 1) L (.long v :: r) h := by
  rw [arun_p hf rfl]
  subst hv
  rfl
theorem r_l2i {x : Int64} {v : Int32} (hf : aF pc M.2.2.2.2.2.2.2 = some (pc, .l2i, len, a, b)) (hv : x.toInt32 = v) : arun X (n + 1) d M pc L (.long x :: r) h = arun X n d M (pc + 1) L (.int v :: r) h := by
  rw [arun_p hf rfl]
  subst hv
  rfl
theorem r_i2b {x : Int32} {v : Int32} (hf : aF pc M.2.2.2.2.2.2.2 = some (pc, .i2b, len, a, b)) (hv : x.toInt8.toInt32 = v) : arun X (n + 1) d M pc L (.int x :: r) h = arun X n d M (pc + 1) L (.int v :: r) h := by
  rw [arun_p hf rfl]
  subst hv
  rfl
theorem r_i2s {x : Int32} {v : Int32} (hf : aF pc M.2.2.2.2.2.2.2 = some (pc, .i2s, len, a, b)) (hv : x.toInt16.toInt32 = v) : arun X (n + 1) d M pc L (.int x :: r) h = arun X n d M (pc + 1) L (.int v :: r) h := by
  rw [arun_p hf rfl]
  subst hv
  rfl
theorem r_dup {v : Value} (hf : aF pc M.2.2.2.2.2.2.2 = some (pc, .dup, len, a, b)) (hk : aok1 v = true) : arun X (n + 1) d M pc L (v :: r) h = arun X n d M (pc + 1) L (v :: v :: r) h := by
  rw [arun_p hf rfl]
  simp only [aX1, hk, cond_true]
theorem r_dup2 {v w : Value} (hf : aF pc M.2.2.2.2.2.2.2 = some (pc, .dup2, len, a, b)) (hk : (aok1 v && aok1 w) = true) : arun X (n + 1) d M pc L (v :: w :: r) h = arun X n d M (pc + 1) L (v :: w :: v :: w :: r) h := by
  rw [arun_p hf rfl]
  simp only [aX1, hk, cond_true]
theorem r_dup_x1 {v w : Value} (hf : aF pc M.2.2.2.2.2.2.2 = some (pc, .dup_x1, len, a, b)) (hk : (aok1 v && aok1 w) = true) : arun X (n + 1) d M pc L (v :: w :: r) h = arun X n d M (pc + 1) L (v :: w :: v :: r) h := by
  rw [arun_p hf rfl]
  simp only [aX1, hk, cond_true]
theorem r_pop {v : Value} (hf : aF pc M.2.2.2.2.2.2.2 = some (pc, .pop, len, a, b)) (hk : aok1 v = true) : arun X (n + 1) d M pc L (v :: r) h = arun X n d M (pc + 1) L r h := by
  rw [arun_p hf rfl]
  simp only [aX1, hk, cond_true]
theorem r_goto {off : Int} (hf : aF pc M.2.2.2.2.2.2.2 = some (pc, (.goto off), len, a, b))  : arun X (n + 1) d M pc L r h = arun X n d M a L r h := by
  rw [arun_p hf rfl]
  rfl
theorem r_if_eq_t {x : Int32} {off : Int} (hf : aF pc M.2.2.2.2.2.2.2 = some (pc, (.ifCond .eq off), len, a, b)) (hc : x = 0) : arun X (n + 1) d M pc L (.int x :: r) h = arun X n d M a L r h := by
  rw [arun_p hf rfl]
  simp only [aX1, tI, if_pos hc]
theorem r_if_eq_f {x : Int32} {off : Int} (hf : aF pc M.2.2.2.2.2.2.2 = some (pc, (.ifCond .eq off), len, a, b)) (hc : ¬ x = 0) : arun X (n + 1) d M pc L (.int x :: r) h = arun X n d M (pc + 3) L r h := by
  rw [arun_p hf rfl]
  simp only [aX1, tI, if_neg hc]
theorem r_if_ne_t {x : Int32} {off : Int} (hf : aF pc M.2.2.2.2.2.2.2 = some (pc, (.ifCond .ne off), len, a, b)) (hc : ¬ x = 0) : arun X (n + 1) d M pc L (.int x :: r) h = arun X n d M a L r h := by
  rw [arun_p hf rfl]
  simp only [aX1, tI, if_neg hc]
theorem r_if_ne_f {x : Int32} {off : Int} (hf : aF pc M.2.2.2.2.2.2.2 = some (pc, (.ifCond .ne off), len, a, b)) (hc : x = 0) : arun X (n + 1) d M pc L (.int x :: r) h = arun X n d M (pc + 3) L r h := by
  rw [arun_p hf rfl]
  simp only [aX1, tI, if_pos hc]
theorem r_if_lt_t {x : Int32} {off : Int} (hf : aF pc M.2.2.2.2.2.2.2 = some (pc, (.ifCond .lt off), len, a, b)) (hc : x < 0) : arun X (n + 1) d M pc L (.int x :: r) h = arun X n d M a L r h := by
  rw [arun_p hf rfl]
  simp only [aX1, tI, if_pos hc]
theorem r_if_lt_f {x : Int32} {off : Int} (hf : aF pc M.2.2.2.2.2.2.2 = some (pc, (.ifCond .lt off), len, a, b)) (hc : ¬ x < 0) : arun X (n + 1) d M pc L (.int x :: r) h = arun X n d M (pc + 3) L r h := by
  rw [arun_p hf rfl]
  simp only [aX1, tI, if_neg hc]
theorem r_if_ge_t {x : Int32} {off : Int} (hf : aF pc M.2.2.2.2.2.2.2 = some (pc, (.ifCond .ge off), len, a, b)) (hc : 0 ≤ x) : arun X (n + 1) d M pc L (.int x :: r) h = arun X n d M a L r h := by
  rw [arun_p hf rfl]
  simp only [aX1, tI, if_pos hc]
theorem r_if_ge_f {x : Int32} {off : Int} (hf : aF pc M.2.2.2.2.2.2.2 = some (pc, (.ifCond .ge off), len, a, b)) (hc : ¬ 0 ≤ x) : arun X (n + 1) d M pc L (.int x :: r) h = arun X n d M (pc + 3) L r h := by
  rw [arun_p hf rfl]
  simp only [aX1, tI, if_neg hc]
theorem r_if_gt_t {x : Int32} {off : Int} (hf : aF pc M.2.2.2.2.2.2.2 = some (pc, (.ifCond .gt off), len, a, b)) (hc : 0 < x) : arun X (n + 1) d M pc L (.int x :: r) h = arun X n d M a L r h := by
  rw [arun_p hf rfl]
  simp only [aX1, tI, if_pos hc]
theorem r_if_gt_f {x : Int32} {off : Int} (hf : aF pc M.2.2.2.2.2.2.2 = some (pc, (.ifCond .gt off), len, a, b)) (hc : ¬ 0 < x) : arun X (n + 1) d M pc L (.int x :: r) h = arun X n d M (pc + 3) L r h := by
  rw [arun_p hf rfl]
  simp only [aX1, tI, if_neg hc]
theorem r_if_le_t {x : Int32} {off : Int} (hf : aF pc M.2.2.2.2.2.2.2 = some (pc, (.ifCond .le off), len, a, b)) (hc : x ≤ 0) : arun X (n + 1) d M pc L (.int x :: r) h = arun X n d M a L r h := by
  rw [arun_p hf rfl]
  simp only [aX1, tI, if_pos hc]
theorem r_if_le_f {x : Int32} {off : Int} (hf : aF pc M.2.2.2.2.2.2.2 = some (pc, (.ifCond .le off), len, a, b)) (hc : ¬ x ≤ 0) : arun X (n + 1) d M pc L (.int x :: r) h = arun X n d M (pc + 3) L r h := by
  rw [arun_p hf rfl]
  simp only [aX1, tI, if_neg hc]
theorem r_icmp_eq_t {x y : Int32} {off : Int} (hf : aF pc M.2.2.2.2.2.2.2 = some (pc, (.if_icmp .eq off), len, a, b)) (hc : x = y) : arun X (n + 1) d M pc L (.int y :: .int x :: r) h = arun X n d M a L r h := by
  rw [arun_p hf rfl]
  simp only [aX1, tII, if_pos hc]
theorem r_icmp_eq_f {x y : Int32} {off : Int} (hf : aF pc M.2.2.2.2.2.2.2 = some (pc, (.if_icmp .eq off), len, a, b)) (hc : ¬ x = y) : arun X (n + 1) d M pc L (.int y :: .int x :: r) h = arun X n d M (pc + 3) L r h := by
  rw [arun_p hf rfl]
  simp only [aX1, tII, if_neg hc]
theorem r_icmp_ne_t {x y : Int32} {off : Int} (hf : aF pc M.2.2.2.2.2.2.2 = some (pc, (.if_icmp .ne off), len, a, b)) (hc : ¬ x = y) : arun X (n + 1) d M pc L (.int y :: .int x :: r) h = arun X n d M a L r h := by
  rw [arun_p hf rfl]
  simp only [aX1, tII, if_neg hc]
theorem r_icmp_ne_f {x y : Int32} {off : Int} (hf : aF pc M.2.2.2.2.2.2.2 = some (pc, (.if_icmp .ne off), len, a, b)) (hc : x = y) : arun X (n + 1) d M pc L (.int y :: .int x :: r) h = arun X n d M (pc + 3) L r h := by
  rw [arun_p hf rfl]
  simp only [aX1, tII, if_pos hc]
theorem r_icmp_lt_t {x y : Int32} {off : Int} (hf : aF pc M.2.2.2.2.2.2.2 = some (pc, (.if_icmp .lt off), len, a, b)) (hc : x < y) : arun X (n + 1) d M pc L (.int y :: .int x :: r) h = arun X n d M a L r h := by
  rw [arun_p hf rfl]
  simp only [aX1, tII, if_pos hc]
theorem r_icmp_lt_f {x y : Int32} {off : Int} (hf : aF pc M.2.2.2.2.2.2.2 = some (pc, (.if_icmp .lt off), len, a, b)) (hc : ¬ x < y) : arun X (n + 1) d M pc L (.int y :: .int x :: r) h = arun X n d M (pc + 3) L r h := by
  rw [arun_p hf rfl]
  simp only [aX1, tII, if_neg hc]
theorem r_icmp_ge_t {x y : Int32} {off : Int} (hf : aF pc M.2.2.2.2.2.2.2 = some (pc, (.if_icmp .ge off), len, a, b)) (hc : y ≤ x) : arun X (n + 1) d M pc L (.int y :: .int x :: r) h = arun X n d M a L r h := by
  rw [arun_p hf rfl]
  simp only [aX1, tII, if_pos hc]
theorem r_icmp_ge_f {x y : Int32} {off : Int} (hf : aF pc M.2.2.2.2.2.2.2 = some (pc, (.if_icmp .ge off), len, a, b)) (hc : ¬ y ≤ x) : arun X (n + 1) d M pc L (.int y :: .int x :: r) h = arun X n d M (pc + 3) L r h := by
  rw [arun_p hf rfl]
  simp only [aX1, tII, if_neg hc]
theorem r_icmp_gt_t {x y : Int32} {off : Int} (hf : aF pc M.2.2.2.2.2.2.2 = some (pc, (.if_icmp .gt off), len, a, b)) (hc : y < x) : arun X (n + 1) d M pc L (.int y :: .int x :: r) h = arun X n d M a L r h := by
  rw [arun_p hf rfl]
  simp only [aX1, tII, if_pos hc]
theorem r_icmp_gt_f {x y : Int32} {off : Int} (hf : aF pc M.2.2.2.2.2.2.2 = some (pc, (.if_icmp .gt off), len, a, b)) (hc : ¬ y < x) : arun X (n + 1) d M pc L (.int y :: .int x :: r) h = arun X n d M (pc + 3) L r h := by
  rw [arun_p hf rfl]
  simp only [aX1, tII, if_neg hc]
theorem r_icmp_le_t {x y : Int32} {off : Int} (hf : aF pc M.2.2.2.2.2.2.2 = some (pc, (.if_icmp .le off), len, a, b)) (hc : x ≤ y) : arun X (n + 1) d M pc L (.int y :: .int x :: r) h = arun X n d M a L r h := by
  rw [arun_p hf rfl]
  simp only [aX1, tII, if_pos hc]
theorem r_icmp_le_f {x y : Int32} {off : Int} (hf : aF pc M.2.2.2.2.2.2.2 = some (pc, (.if_icmp .le off), len, a, b)) (hc : ¬ x ≤ y) : arun X (n + 1) d M pc L (.int y :: .int x :: r) h = arun X n d M (pc + 3) L r h := by
  rw [arun_p hf rfl]
  simp only [aX1, tII, if_neg hc]
theorem r_ifnull_r {x : Nat} {off : Int} (hf : aF pc M.2.2.2.2.2.2.2 = some (pc, (.ifnull off), len, a, b))  : arun X (n + 1) d M pc L (.ref x :: r) h = arun X n d M (pc + 3) L r h := by
  rw [arun_p hf rfl]
  rfl
theorem r_ifnull_n {off : Int} (hf : aF pc M.2.2.2.2.2.2.2 = some (pc, (.ifnull off), len, a, b))  : arun X (n + 1) d M pc L (.null :: r) h = arun X n d M a L r h := by
  rw [arun_p hf rfl]
  rfl
theorem r_ifnonnull_r {x : Nat} {off : Int} (hf : aF pc M.2.2.2.2.2.2.2 = some (pc, (.ifnonnull off), len, a, b))  : arun X (n + 1) d M pc L (.ref x :: r) h = arun X n d M a L r h := by
  rw [arun_p hf rfl]
  rfl
theorem r_ifnonnull_n {off : Int} (hf : aF pc M.2.2.2.2.2.2.2 = some (pc, (.ifnonnull off), len, a, b))  : arun X (n + 1) d M pc L (.null :: r) h = arun X n d M (pc + 3) L r h := by
  rw [arun_p hf rfl]
  rfl
theorem r_tsw {x : Int32} {dd lo hi : Int} {offs : Array Int} (hf : aF pc M.2.2.2.2.2.2.2 = some (pc, (.tableswitch dd lo hi offs), len, a, b))  : arun X (n + 1) d M pc L (.int x :: r) h = asw x (fun q => arun X n d M ((pc : Int) + q).toNat L r h) dd lo offs.toList := by
  rw [arun_p hf rfl]
  rfl
theorem r_lsw {x : Int32} {dd : Int} {ps : Array (Int × Int)} (hf : aF pc M.2.2.2.2.2.2.2 = some (pc, (.lookupswitch dd ps), len, a, b))  : arun X (n + 1) d M pc L (.int x :: r) h = alw x (fun q => arun X n d M ((pc : Int) + q).toNat L r h) dd ps.toList := by
  rw [arun_p hf rfl]
  rfl
theorem r_get {ix o : Nat} {fs : List Value} {v : Value} (hf : aF pc M.2.2.2.2.2.2.2 = some (pc, (.getfield ix), len, a, b)) (ho : h.1[o]? = some (.inr (a, fs))) (hv : fs[b]? = some v) : arun X (n + 1) d M pc L (.ref o :: r) h = arun X n d M (pc + 3) L (v :: r) h := by
  rw [arun_p hf rfl]
  simp only [aX1, aobj, ho, hv, Nat.beq_refl, cond_true]
theorem r_put {ix o : Nat} {fs : List Value} {v : Value} {h' : aH} (hf : aF pc M.2.2.2.2.2.2.2 = some (pc, (.putfield ix), len, a, b)) (ho : h.1[o]? = some (.inr (a, fs))) (hk : ((!((zT a b).2.2.2) || (Nat.beq M.2.2.2.2.2.2.1 2 && Nat.beq M.1 a)) && aok (zY a b) v && Nat.blt b fs.length) = true) (hh : (h.1.set o (.inr (a, fs.set b v)), h.2) = h') : arun X (n + 1) d M pc L (v :: .ref o :: r) h = arun X n d M (pc + 3) L r h' := by
  rw [arun_p hf rfl]
  subst hh
  simp only [aX1, aobj, ho, Nat.beq_refl, cond_true, hk]
theorem r_gets {ix : Nat} (hf : aF pc M.2.2.2.2.2.2.2 = some (pc, (.getstatic ix), len, a, b))  : arun X (n + 1) d M pc L r h = arun X n d M (pc + 3) L (.retAddr 0 :: r) h := by
  rw [arun_p hf rfl]
  rfl
theorem r_alen {o k : Nat} {f : (Nat → Int32) ⊕ (Nat → Int64) ⊕ (Nat → UInt32) ⊕ (Nat → UInt64) ⊕ (Nat → Option Nat)} {v : Int32} (hf : aF pc M.2.2.2.2.2.2.2 = some (pc, .arraylength, len, a, b)) (ho : h.1[o]? = some (.inl (0, k, f))) (hv : Int32.ofNat k = v) : arun X (n + 1) d M pc L (.ref o :: r) h = arun X n d M (pc + 1) L (.int v :: r) h := by
  rw [arun_p hf rfl]
  subst hv
  simp only [aX1, ho]
theorem r_alen1 {o k : Nat} {f : (Nat → Int32) ⊕ (Nat → Int64) ⊕ (Nat → UInt32) ⊕ (Nat → UInt64) ⊕ (Nat → Option Nat)} {v : Int32} (hf : aF pc M.2.2.2.2.2.2.2 = some (pc, .arraylength, len, a, b)) (ho : h.1[o]? = some (.inl (1, k, f))) (hv : Int32.ofNat k = v) : arun X (n + 1) d M pc L (.ref o :: r) h = arun X n d M (pc + 1) L (.int v :: r) h := by
  rw [arun_p hf rfl]
  subst hv
  simp only [aX1, ho]
theorem r_xlen {x k : Nat} {f : Nat → Int32} {v : Int32} (hf : aF pc M.2.2.2.2.2.2.2 = some (pc, .arraylength, len, a, b)) (hX : X x = some (k, f)) (hv : Int32.ofNat k = v) : arun X (n + 1) d M pc L (.retAddr x :: r) h = arun X n d M (pc + 1) L (.int v :: r) h := by
  rw [arun_p hf rfl]
  subst hv
  simp only [aX1, hX]
theorem r_iald {o k : Nat} {j : Int32} {f : Nat → Int32} {v : Int32} (hf : aF pc M.2.2.2.2.2.2.2 = some (pc, .iaload, len, a, b)) (ho : h.1[o]? = some (.inl (0, k, .inl f))) (hj : ¬ (j < 0 ∨ k ≤ j.toNatClampNeg)) (hv : f j.toNatClampNeg = v) : arun X (n + 1) d M pc L (.int j :: .ref o :: r) h = arun X n d M (pc + 1) L (.int v :: r) h := by
  rw [arun_p hf rfl]
  subst hv
  simp only [aX1, aarI, aarJ, ho, if_neg hj, show Nat.beq 0 0 = true from rfl, show (Nat.beq 2 2 || Nat.beq 2 3) = true from rfl, show (Nat.beq 3 2 || Nat.beq 3 3) = true from rfl, cond_true]
theorem r_zald {o k : Nat} {j : Int32} {f : Nat → Int32} {v : Int32} (hf : aF pc M.2.2.2.2.2.2.2 = some (pc, .baload, len, a, b)) (ho : h.1[o]? = some (.inl (2, k, .inl f))) (hj : ¬ (j < 0 ∨ k ≤ j.toNatClampNeg)) (hv : f j.toNatClampNeg = v) : arun X (n + 1) d M pc L (.int j :: .ref o :: r) h = arun X n d M (pc + 1) L (.int v :: r) h := by
  rw [arun_p hf rfl]
  subst hv
  simp only [aX1, aarI, aarJ, ho, if_neg hj, show Nat.beq 0 0 = true from rfl, show (Nat.beq 2 2 || Nat.beq 2 3) = true from rfl, show (Nat.beq 3 2 || Nat.beq 3 3) = true from rfl, cond_true]
theorem r_bald {o k : Nat} {j : Int32} {f : Nat → Int32} {v : Int32} (hf : aF pc M.2.2.2.2.2.2.2 = some (pc, .baload, len, a, b)) (ho : h.1[o]? = some (.inl (3, k, .inl f))) (hj : ¬ (j < 0 ∨ k ≤ j.toNatClampNeg)) (hv : f j.toNatClampNeg = v) : arun X (n + 1) d M pc L (.int j :: .ref o :: r) h = arun X n d M (pc + 1) L (.int v :: r) h := by
  rw [arun_p hf rfl]
  subst hv
  simp only [aX1, aarI, aarJ, ho, if_neg hj, show Nat.beq 0 0 = true from rfl, show (Nat.beq 2 2 || Nat.beq 2 3) = true from rfl, show (Nat.beq 3 2 || Nat.beq 3 3) = true from rfl, cond_true]
theorem r_lald {o k : Nat} {j : Int32} {f : Nat → Int64} {v : Int64} (hf : aF pc M.2.2.2.2.2.2.2 = some (pc, .laload, len, a, b)) (ho : h.1[o]? = some (.inl (1, k, .inr (.inl f)))) (hj : ¬ (j < 0 ∨ k ≤ j.toNatClampNeg)) (hv : f j.toNatClampNeg = v) : arun X (n + 1) d M pc L (.int j :: .ref o :: r) h = arun X n d M (pc + 1) L (.long v :: r) h := by
  rw [arun_p hf rfl]
  subst hv
  simp only [aX1, aarI, aarJ, ho, if_neg hj, show Nat.beq 0 0 = true from rfl, show (Nat.beq 2 2 || Nat.beq 2 3) = true from rfl, show (Nat.beq 3 2 || Nat.beq 3 3) = true from rfl, cond_true]
theorem r_xld {x k : Nat} {j v : Int32} {f : Nat → Int32} (hf : aF pc M.2.2.2.2.2.2.2 = some (pc, .iaload, len, a, b)) (hX : X x = some (k, f)) (hj : ¬ (j < 0 ∨ k ≤ j.toNatClampNeg)) (hv : f j.toNatClampNeg = v) : arun X (n + 1) d M pc L (.int j :: .retAddr x :: r) h = arun X n d M (pc + 1) L (.int v :: r) h := by
  rw [arun_p hf rfl]
  subst hv
  simp only [aX1, hX, if_neg hj]
theorem r_aald4 {o k : Nat} {j : Int32} {f : Nat → Option Nat} {v : Value} (hf : aF pc M.2.2.2.2.2.2.2 = some (pc, .aaload, len, a, b)) (ho : h.1[o]? = some (.inl (4, k, .inr (.inr (.inr (.inr f)))))) (hj : ¬ (j < 0 ∨ k ≤ j.toNatClampNeg)) (hv : arf (f j.toNatClampNeg) = v) : arun X (n + 1) d M pc L (.int j :: .ref o :: r) h = arun X n d M (pc + 1) L (v :: r) h := by
  rw [arun_p hf rfl]
  subst hv
  simp only [aX1, aarR, ho, if_neg hj, show (Nat.beq 4 4 || Nat.beq 4 5) = true from rfl, show (Nat.beq 5 4 || Nat.beq 5 5) = true from rfl, cond_true]
theorem r_aald5 {o k : Nat} {j : Int32} {f : Nat → Option Nat} {v : Value} (hf : aF pc M.2.2.2.2.2.2.2 = some (pc, .aaload, len, a, b)) (ho : h.1[o]? = some (.inl (5, k, .inr (.inr (.inr (.inr f)))))) (hj : ¬ (j < 0 ∨ k ≤ j.toNatClampNeg)) (hv : arf (f j.toNatClampNeg) = v) : arun X (n + 1) d M pc L (.int j :: .ref o :: r) h = arun X n d M (pc + 1) L (v :: r) h := by
  rw [arun_p hf rfl]
  subst hv
  simp only [aX1, aarR, ho, if_neg hj, show (Nat.beq 4 4 || Nat.beq 4 5) = true from rfl, show (Nat.beq 5 4 || Nat.beq 5 5) = true from rfl, cond_true]
theorem r_iast {o k : Nat} {j : Int32} {f : Nat → Int32} {x : Int32} {h' : aH} (hf : aF pc M.2.2.2.2.2.2.2 = some (pc, .iastore, len, a, b)) (ho : h.1[o]? = some (.inl (0, k, .inl f))) (hj : ¬ (j < 0 ∨ k ≤ j.toNatClampNeg)) (hh : (h.1.set o (.inl (0, k, .inl (upd f j.toNatClampNeg x))), h.2) = h') : arun X (n + 1) d M pc L (.int x :: .int j :: .ref o :: r) h = arun X n d M (pc + 1) L r h' := by
  rw [arun_p hf rfl]
  subst hh
  simp only [aX1, aarI, aarJ, ho, if_neg hj, show Nat.beq 0 0 = true from rfl, cond_true]
theorem r_zast {o k : Nat} {j : Int32} {f : Nat → Int32} {x : Int32} {h' : aH} (hf : aF pc M.2.2.2.2.2.2.2 = some (pc, .bastore, len, a, b)) (ho : h.1[o]? = some (.inl (2, k, .inl f))) (hj : ¬ (j < 0 ∨ k ≤ j.toNatClampNeg)) (hh : (h.1.set o (.inl (2, k, .inl (upd f j.toNatClampNeg (x &&& 1)))), h.2) = h') : arun X (n + 1) d M pc L (.int x :: .int j :: .ref o :: r) h = arun X n d M (pc + 1) L r h' := by
  rw [arun_p hf rfl]
  subst hh
  simp only [aX1, aarI, aarJ, ho, if_neg hj, show Nat.beq 0 0 = true from rfl, cond_true]
theorem r_bast {o k : Nat} {j : Int32} {f : Nat → Int32} {x : Int32} {h' : aH} (hf : aF pc M.2.2.2.2.2.2.2 = some (pc, .bastore, len, a, b)) (ho : h.1[o]? = some (.inl (3, k, .inl f))) (hj : ¬ (j < 0 ∨ k ≤ j.toNatClampNeg)) (hh : (h.1.set o (.inl (3, k, .inl (upd f j.toNatClampNeg x.toInt8.toInt32))), h.2) = h') : arun X (n + 1) d M pc L (.int x :: .int j :: .ref o :: r) h = arun X n d M (pc + 1) L r h' := by
  rw [arun_p hf rfl]
  subst hh
  simp only [aX1, aarI, aarJ, ho, if_neg hj, show Nat.beq 0 0 = true from rfl, cond_true]
theorem r_last {o k : Nat} {j : Int32} {f : Nat → Int64} {x : Int64} {h' : aH} (hf : aF pc M.2.2.2.2.2.2.2 = some (pc, .lastore, len, a, b)) (ho : h.1[o]? = some (.inl (1, k, .inr (.inl f)))) (hj : ¬ (j < 0 ∨ k ≤ j.toNatClampNeg)) (hh : (h.1.set o (.inl (1, k, .inr (.inl (vp_updL f j.toNatClampNeg x)))), h.2) = h') : arun X (n + 1) d M pc L (.long x :: .int j :: .ref o :: r) h = arun X n d M (pc + 1) L r h' := by
  rw [arun_p hf rfl]
  subst hh
  simp only [aX1, aarI, aarJ, ho, if_neg hj, show Nat.beq 0 0 = true from rfl, cond_true]
theorem r_aast {o k q : Nat} {j : Int32} {f : Nat → Option Nat} {fs : List Value} {h' : aH} (hf : aF pc M.2.2.2.2.2.2.2 = some (pc, .aastore, len, a, b)) (ho : h.1[o]? = some (.inl (4, k, .inr (.inr (.inr (.inr f)))))) (hq : h.1[q]? = some (.inr (8, fs))) (hj : ¬ (j < 0 ∨ k ≤ j.toNatClampNeg)) (hh : (h.1.set o (.inl (4, k, .inr (.inr (.inr (.inr (va_up f j.toNatClampNeg (some q))))))), h.2) = h') : arun X (n + 1) d M pc L (.ref q :: .int j :: .ref o :: r) h = arun X n d M (pc + 1) L r h' := by
  rw [arun_p hf rfl]
  subst hh
  simp only [aX1, aarR, aobj, ho, hq, if_neg hj, show Nat.beq 4 4 = true from rfl, show Nat.beq 8 8 = true from rfl, cond_true]
theorem r_new {ix o : Nat} {h' : aH} (hf : aF pc M.2.2.2.2.2.2.2 = some (pc, (.new ix), len, a, b)) (ho : h.1.length = o) (hh : (h.1 ++ [.inr (a, (List.range (zN a)).map (fun c => defaultValue (zY a c)))], h.2 + zN a) = h') : arun X (n + 1) d M pc L r h = arun X n d M (pc + 3) L (.ref o :: r) h' := by
  rw [arun_p hf rfl]
  subst ho
  subst hh
  rfl
theorem r_newa {o : Nat} {t : ArrayType} {x : Int32} {h' : aH} (hf : aF pc M.2.2.2.2.2.2.2 = some (pc, (.newarray t), len, a, b)) (hx : ¬ (x < 0 ∨ 100000 < x)) (ho : h.1.length = o) (hh : (h.1 ++ [.inl (a, x.toNatClampNeg, azero a)], h.2 + x.toNatClampNeg) = h') : arun X (n + 1) d M pc L (.int x :: r) h = arun X n d M (pc + 2) L (.ref o :: r) h' := by
  rw [arun_p hf rfl]
  subst ho
  subst hh
  simp only [aX1, tI, if_neg hx]
theorem r_newr {ix o : Nat} {x : Int32} {h' : aH} (hf : aF pc M.2.2.2.2.2.2.2 = some (pc, (.anewarray ix), len, a, b)) (hx : ¬ (x < 0 ∨ 100000 < x)) (ho : h.1.length = o) (hh : (h.1 ++ [.inl (a, x.toNatClampNeg, .inr (.inr (.inr (.inr (fun _ => none)))))], h.2 + x.toNatClampNeg) = h') : arun X (n + 1) d M pc L (.int x :: r) h = arun X n d M (pc + 3) L (.ref o :: r) h' := by
  rw [arun_p hf rfl]
  subst ho
  subst hh
  simp only [aX1, tI, if_neg hx]
theorem r_ireturn {x : Int32} (hf : aF pc M.2.2.2.2.2.2.2 = some (pc, .ireturn, len, a, b)) (hr : M.2.2.2.2.1 = some .int) : arun X (n + 1) d M pc L [.int x] h = some (some (.int x), h) := by
  conv => lhs; unfold arun
  simp only [hf]
  simp only [aretI, hr]
theorem r_zreturn {x : Int32} (hf : aF pc M.2.2.2.2.2.2.2 = some (pc, .ireturn, len, a, b)) (hr : M.2.2.2.2.1 = some .boolean) (hx : x = 0 ∨ x = 1) : arun X (n + 1) d M pc L [.int x] h = some (some (.int x), h) := by
  conv => lhs; unfold arun
  simp only [hf]
  simp only [aretI, hr, if_pos hx]
theorem r_lreturn {x : Int64} (hf : aF pc M.2.2.2.2.2.2.2 = some (pc, .lreturn, len, a, b)) (hr : M.2.2.2.2.1 = some .long) : arun X (n + 1) d M pc L [.long x] h = some (some (.long x), h) := by
  conv => lhs; unfold arun
  simp only [hf]
  simp only [hr]
theorem r_areturn {x : Nat} {C : String} (hf : aF pc M.2.2.2.2.2.2.2 = some (pc, .areturn, len, a, b)) (hr : M.2.2.2.2.1 = some (.object C)) : arun X (n + 1) d M pc L [.ref x] h = some (some (.ref x), h) := by
  conv => lhs; unfold arun
  simp only [hf]
  simp only [hr]
theorem r_vreturn  (hf : aF pc M.2.2.2.2.2.2.2 = some (pc, .return_, len, a, b)) (hr : M.2.2.2.2.1 = none) : arun X (n + 1) d M pc L [] h = some (none, h) := by
  conv => lhs; unfold arun
  simp only [hf]
  simp only [hr]
theorem acut_eq {k : Nat} {as : List Value} {f : List Value → List Value → Option aR} (hn : as.length = k) : acut k (as.reverse ++ r) f = f as r := by
  subst hn
  unfold acut
  rw [show Nat.ble as.length (as.reverse ++ r).length = true from by rw [Nat.ble_eq]; simp]
  simp only [cond_true]
  congr 1
  · rw [List.take_append_of_le_length (by simp), List.take_of_length_le (by simp), List.reverse_reverse]
  · rw [List.drop_append_of_le_length (by simp), List.drop_of_length_le (by simp), List.nil_append]
theorem aback_eq {d' : Nat} {callee : Nat → Option aR} {k : List Value → aH → Option aR} {v : Option Value} {h1 : aH} (h8 : Nat.ble (aws r) 8 = true) (hc : callee d' = some (v, h1)) : aback (d' + 1) r callee k = k (v.toList ++ r) h1 := by
  unfold aback
  simp only [h8, cond_true, hc]
theorem r_stat {ix : Nat} {Y : aM} {as st : List Value} {v : Option Value} {h1 : aH} {L1 : aL} (hf : aF pc M.2.2.2.2.2.2.2 = some (pc, (.invokestatic ix), len, a, b)) (ha : (Nat.beq a 1002 || Nat.ble 1010 a) = false) (hY : zmt[a]? = some Y) (hk : Y.2.2.2.2.2.2.1 = 1) (hst : st = as.reverse ++ r) (hn : as.length = Y.2.2.2.2.2.1) (hw : Nat.ble (aws as) Y.2.2.2.1 = true) (h8 : Nat.ble (aws r) 8 = true) (hL : aE Y.2.2.2.1 as = L1) (hc : arun X n d Y 0 L1 [] h = some (v, h1)) : arun X (n + 1) (d + 1) M pc L st h = arun X n (d + 1) M (pc + 3) L (v.toList ++ r) h1 := by
  conv => lhs; unfold arun
  simp only [hf]
  subst hst
  subst hL
  obtain ⟨ha1, ha2⟩ := Bool.or_eq_false_iff.mp ha
  simp only [ha1, ha2, cond_false, hY, show Nat.beq Y.2.2.2.2.2.2.1 1 = true from by rw [hk]; rfl, cond_true, acut_eq hn, aent, hw]
  exact aback_eq h8 hc
theorem r_virt {ix o : Nat} {Y : aM} {as st : List Value} {v : Option Value} {h1 : aH} {L1 : aL} {fs : List Value} (hf : aF pc M.2.2.2.2.2.2.2 = some (pc, (.invokevirtual ix), len, a, b)) (ho : h.1[o]? = some (.inr (Y.1, fs))) (hY : zmt[a]? = some Y) (hk : Y.2.2.2.2.2.2.1 = 0) (hst : st = as.reverse ++ .ref o :: r) (hn : as.length = Y.2.2.2.2.2.1) (hw : Nat.ble (aws (.ref o :: as)) Y.2.2.2.1 = true) (h8 : Nat.ble (aws r) 8 = true) (hL : aE Y.2.2.2.1 (.ref o :: as) = L1) (hc : arun X n d Y 0 L1 [] h = some (v, h1)) : arun X (n + 1) (d + 1) M pc L st h = arun X n (d + 1) M (pc + 3) L (v.toList ++ r) h1 := by
  conv => lhs; unfold arun
  simp only [hf]
  subst hst
  subst hL
  simp only [hY, show Nat.beq Y.2.2.2.2.2.2.1 0 = true from by rw [hk]; rfl, cond_true, acut_eq hn, aobj, ho, Nat.beq_refl, aent, hw]
  exact aback_eq h8 hc
theorem r_init {ix o : Nat} {Y : aM} {as st : List Value} {v : Option Value} {h1 : aH} {L1 : aL} (hf : aF pc M.2.2.2.2.2.2.2 = some (pc, (.invokespecial ix), len, a, b)) (ha : Nat.beq a 1000 = false) (hY : zmt[a]? = some Y) (hk : Y.2.2.2.2.2.2.1 = 2) (hst : st = as.reverse ++ .ref o :: r) (hn : as.length = Y.2.2.2.2.2.1) (hw : Nat.ble (aws (.ref o :: as)) Y.2.2.2.1 = true) (h8 : Nat.ble (aws r) 8 = true) (hL : aE Y.2.2.2.1 (.ref o :: as) = L1) (hc : arun X n d Y 0 L1 [] h = some (v, h1)) : arun X (n + 1) (d + 1) M pc L st h = arun X n (d + 1) M (pc + 3) L (v.toList ++ r) h1 := by
  conv => lhs; unfold arun
  simp only [hf]
  subst hst
  subst hL
  simp only [ha, cond_false, hY, show Nat.beq Y.2.2.2.2.2.2.1 2 = true from by rw [hk]; rfl, cond_true, acut_eq hn, aent, hw]
  exact aback_eq h8 hc
theorem r_obj {ix o : Nat} (hf : aF pc M.2.2.2.2.2.2.2 = some (pc, (.invokespecial ix), len, a, b)) (ha : a = 1000) (h8 : Nat.ble (aws r) 8 = true) : arun X (n + 1) (d + 1) M pc L (.ref o :: r) h = arun X n (d + 1) M (pc + 3) L r h := by
  conv => lhs; unfold arun
  simp only [hf]
  subst ha
  simp only [show Nat.beq 1000 1000 = true from rfl, cond_true]
  exact aback_eq (v := none) h8 rfl
theorem r_m1010 {ix : Nat} {x y v : Int32} (hf : aF pc M.2.2.2.2.2.2.2 = some (pc, (.invokestatic ix), len, a, b)) (ha : a = 1010) (h8 : Nat.ble (aws r) 8 = true) (hv : (if x < y then y else x) = v) : arun X (n + 1) (d + 1) M pc L (.int y :: .int x :: r) h = arun X n (d + 1) M (pc + 3) L (.int v :: r) h := by
  conv => lhs; unfold arun
  simp only [hf]
  subst ha
  subst hv
  simp only [show Nat.beq 1010 1002 = false from rfl, cond_false, show Nat.ble 1010 1010 = true from rfl, cond_true, amath, tI, tII, tJJ, h8]
theorem r_m1011 {ix : Nat} {x y v : Int32} (hf : aF pc M.2.2.2.2.2.2.2 = some (pc, (.invokestatic ix), len, a, b)) (ha : a = 1011) (h8 : Nat.ble (aws r) 8 = true) (hv : (if y < x then y else x) = v) : arun X (n + 1) (d + 1) M pc L (.int y :: .int x :: r) h = arun X n (d + 1) M (pc + 3) L (.int v :: r) h := by
  conv => lhs; unfold arun
  simp only [hf]
  subst ha
  subst hv
  simp only [show Nat.beq 1011 1002 = false from rfl, cond_false, show Nat.ble 1010 1011 = true from rfl, cond_true, amath, tI, tII, tJJ, h8]
theorem r_m1012 {ix : Nat} {x v : Int32} (hf : aF pc M.2.2.2.2.2.2.2 = some (pc, (.invokestatic ix), len, a, b)) (ha : a = 1012) (h8 : Nat.ble (aws r) 8 = true) (hv : (if 0 ≤ x then x else 0 - x) = v) : arun X (n + 1) (d + 1) M pc L (.int x :: r) h = arun X n (d + 1) M (pc + 3) L (.int v :: r) h := by
  conv => lhs; unfold arun
  simp only [hf]
  subst ha
  subst hv
  simp only [show Nat.beq 1012 1002 = false from rfl, cond_false, show Nat.ble 1010 1012 = true from rfl, cond_true, amath, tI, tII, tJJ, h8]
theorem r_m1013 {ix : Nat} {x y v : Int64} (hf : aF pc M.2.2.2.2.2.2.2 = some (pc, (.invokestatic ix), len, a, b)) (ha : a = 1013) (h8 : Nat.ble (aws r) 8 = true) (hv : (if y < x then x else y) = v) : arun X (n + 1) (d + 1) M pc L (.long y :: .long x :: r) h = arun X n (d + 1) M (pc + 3) L (.long v :: r) h := by
  conv => lhs; unfold arun
  simp only [hf]
  subst ha
  subst hv
  simp only [show Nat.beq 1013 1002 = false from rfl, cond_false, show Nat.ble 1010 1013 = true from rfl, cond_true, amath, tI, tII, tJJ, h8]
theorem r_m1014 {ix : Nat} {x y v : Int64} (hf : aF pc M.2.2.2.2.2.2.2 = some (pc, (.invokestatic ix), len, a, b)) (ha : a = 1014) (h8 : Nat.ble (aws r) 8 = true) (hv : (if y < x then y else x) = v) : arun X (n + 1) (d + 1) M pc L (.long y :: .long x :: r) h = arun X n (d + 1) M (pc + 3) L (.long v :: r) h := by
  conv => lhs; unfold arun
  simp only [hf]
  subst ha
  subst hv
  simp only [show Nat.beq 1014 1002 = false from rfl, cond_false, show Nat.ble 1010 1014 = true from rfl, cond_true, amath, tI, tII, tJJ, h8]
theorem r_cp3 {ix o1 o2 n0 n1 : Nat} {sp dp k : Int32} {f g : Nat → Int32} {h' : aH} (hf : aF pc M.2.2.2.2.2.2.2 = some (pc, (.invokestatic ix), len, a, b)) (ha : a = 1002) (h0 : h.1[o1]? = some (.inl (3, n0, .inl f))) (h1 : h.1[o2]? = some (.inl (3, n1, .inl g))) (hq : ¬ (sp < 0 ∨ dp < 0 ∨ k < 0 ∨ n0 < sp.toNatClampNeg + k.toNatClampNeg ∨ n1 < dp.toNatClampNeg + k.toNatClampNeg)) (hft : afit f sp.toNatClampNeg k.toNatClampNeg = true) (h8 : Nat.ble (aws r) 8 = true) (hh : (h.1.set o2 (.inl (3, n1, .inl (va_cpy f g sp.toNatClampNeg dp.toNatClampNeg k.toNatClampNeg))), h.2) = h') : arun X (n + 1) (d + 1) M pc L (.int k :: .int dp :: .ref o2 :: .int sp :: .ref o1 :: r) h = arun X n (d + 1) M (pc + 3) L r h' := by
  conv => lhs; unfold arun
  simp only [hf]
  subst ha
  subst hh
  simp only [show Nat.beq 1002 1002 = true from rfl, cond_true, acopy, h8, h0, h1, if_neg hq, hft]
theorem r_cp1 {ix o1 o2 n0 n1 : Nat} {sp dp k : Int32} {f g : Nat → Int64} {h' : aH} (hf : aF pc M.2.2.2.2.2.2.2 = some (pc, (.invokestatic ix), len, a, b)) (ha : a = 1002) (h0 : h.1[o1]? = some (.inl (1, n0, .inr (.inl f)))) (h1 : h.1[o2]? = some (.inl (1, n1, .inr (.inl g)))) (hq : ¬ (sp < 0 ∨ dp < 0 ∨ k < 0 ∨ n0 < sp.toNatClampNeg + k.toNatClampNeg ∨ n1 < dp.toNatClampNeg + k.toNatClampNeg)) (h8 : Nat.ble (aws r) 8 = true) (hh : (h.1.set o2 (.inl (1, n1, .inr (.inl (va_cpy f g sp.toNatClampNeg dp.toNatClampNeg k.toNatClampNeg)))), h.2) = h') : arun X (n + 1) (d + 1) M pc L (.int k :: .int dp :: .ref o2 :: .int sp :: .ref o1 :: r) h = arun X n (d + 1) M (pc + 3) L r h' := by
  conv => lhs; unfold arun
  simp only [hf]
  subst ha
  subst hh
  simp only [show Nat.beq 1002 1002 = true from rfl, cond_true, acopy, h8, h0, h1, if_neg hq]
end RZ
end
section
-- ===== cells behind a store; switches =====
theorem gs_eq {σ : List aC} {i : Nat} {c c' : aC} (h : σ[i]? = some c) : (σ.set i c')[i]? = some c' := by
  have := (List.getElem?_eq_some_iff.mp h).1
  simp [this]
theorem gs_ne {σ : List aC} {i j : Nat} {c c' : aC} (h : σ[j]? = some c) (hn : i ≠ j) : (σ.set i c')[j]? = some c := by
  rw [List.getElem?_set, if_neg hn]
  exact h
theorem gs_ap {σ : List aC} {j : Nat} {c c' : aC} (h : σ[j]? = some c) : (σ ++ [c'])[j]? = some c := by
  rw [List.getElem?_append_left (List.getElem?_eq_some_iff.mp h).1]
  exact h
theorem gs_la {σ : List aC} {j : Nat} {c : aC} (h : σ.length = j) : (σ ++ [c])[j]? = some c := by
  subst h
  simp
theorem gs_le {σ : List aC} {j : Nat} {c : aC} (h : σ.length = j) : (σ ++ [c]).length = j + 1 := by
  subst h
  simp
theorem gs_ls {σ : List aC} {i j : Nat} {c : aC} (h : σ.length = j) : (σ.set i c).length = j := by
  rw [List.length_set]
  exact h
theorem asw_t {x : Int32} {k : Int → Option aR} {d lo o : Int} {r : List Int} (h : x = Int32.ofInt lo) : asw x k d lo (o :: r) = k o := by
  unfold asw
  rw [if_pos h]
theorem asw_f {x : Int32} {k : Int → Option aR} {d lo o : Int} {r : List Int} (h : ¬ x = Int32.ofInt lo) : asw x k d lo (o :: r) = asw x k d (lo + 1) r := by
  conv => lhs; unfold asw
  rw [if_neg h]
theorem asw_d {x : Int32} {k : Int → Option aR} {d lo : Int} : asw x k d lo [] = k d := rfl
theorem alw_t {x : Int32} {k : Int → Option aR} {d : Int} {o : Int × Int} {r : List (Int × Int)} (h : x = Int32.ofInt o.1) : alw x k d (o :: r) = k o.2 := by
  unfold alw
  rw [if_pos h]
theorem alw_f {x : Int32} {k : Int → Option aR} {d : Int} {o : Int × Int} {r : List (Int × Int)} (h : ¬ x = Int32.ofInt o.1) : alw x k d (o :: r) = alw x k d r := by
  conv => lhs; unfold alw
  rw [if_neg h]
theorem alw_d {x : Int32} {k : Int → Option aR} {d : Int} : alw x k d [] = k d := rfl
theorem ix_col {x y : Int32} (h1 : vp_in x 8) (h2 : vp_in y 6) : vp_in ((x * 6) + y) 48 := by
  obtain ⟨a, ha, rfl⟩ := vp_in_of h1 (by decide)
  obtain ⟨b, hb, rfl⟩ := vp_in_of h2 (by decide)
  rw [show (6 : Int32) = nI 6 from rfl, pk_mul, nI_add]
  exact vp_in_nI (by omega) (by decide)
theorem ix_col2 {x y : Int32} (h1 : vp_in x 8) (h2 : vp_in y 6) : vp_in ((6 * x) + y) 48 := by
  obtain ⟨a, ha, rfl⟩ := vp_in_of h1 (by decide)
  obtain ⟨b, hb, rfl⟩ := vp_in_of h2 (by decide)
  rw [show (6 : Int32) = nI 6 from rfl, pk_mul, nI_add]
  exact vp_in_nI (by omega) (by decide)
theorem lg_self (x : Int64) : lg_cmp x x = 0 := by simp [lg_cmp]
theorem az_d {x : Int32} (h : 0 ≤ x.toInt) : 0 ≤ (x / 100).toInt ∧ 0 ≤ (x - x / 100 * 100).toInt := by
  obtain ⟨j, hj, rfl⟩ := nI_of (x := x) (by rw [Int32.lt_iff_toInt_lt]; have : (0 : Int32).toInt = 0 := rfl; omega)
  rw [show (100 : Int32) = nI 100 from rfl, pk_rem hj (by decide) (by decide), pk_div hj (by decide) (by decide), nI_toInt (by omega), nI_toInt (by omega)]
  omega
theorem hss {σ : List aC} {k u : Nat} {c1 c2 : aC} : ((((σ.set k c1, u) : aH).1.set k c2, ((σ.set k c1, u) : aH).2) : aH) = (σ.set k c2, u) := by
  simp only [List.set_set]
end
section
-- ===== the skeleton's own rows (the kit's text, given for pasting) =====
/-! THE CLAIM OUT OF ONE WALK OF THE LAW'S BODY. Your part is whole_start (and what it stands on); all else here is the same for every law, but numbers. -/
def R_law : String := "AcresPaidLaw"
def lw_P (b : Addr) (xs : List Int32) (args : Array Value) (s : State) : Prop := args = #[.ref b] ∧ s.IntsAt b xs ∧ xs.length ≤ 6 ∧ (Jvm.Cond.and given_1 narrow_1).before args s = true
def lw_Q (_ : Array Value) (s : State) (o : Outcome) (t : State) : Prop := o = .returned (some (.int 1)) ∧ Framed s o t [] 600000 7302250
def lw_Z (below : List Frame) (a : Array Value) (s : State) : State → Prop := fun t => ∃ o, t.status = .running ∧ Ended t below o ∧ lw_Q a s o t
/-- the law's own end, with 1 on the stack, nothing written that was there before, its room as the claim has it -/
theorem lw_ret {p : Program} {l : Launch} {e : Env} {s : State} {m : MethodId} {below : List Frame} {meth : Method} {c : Code} {b : Nat} (hx : p.tables.exec = Jvm.exec) (hb : c.code = code) (hr : meth.sig.returnType = ret) (hlocks : meth.locks = false) {pc : Nat} {H : Heap} {ls : Array Slot} (hdg : decode code pc = .ok (.ireturn, 1)) : W p l e room_1 s m #[Value.ref b] below meth c H [] 600000 7302250 (lw_Z below #[Value.ref b] s) (F0 m pc ls [.int 1]) := by
  intro T hT X
  obtain ⟨fs, hret, hrun, hended, hW, hframe⟩ := X.leave (v := some (.int 1)) (hlocks := hlocks) (fun h => by rw [hr] at h; cases h)
  have hmeth' : T.vm.method? m = some meth := X.method'
  refine ⟨T.setFrames fs, ?_, .returned (some (.int 1)), hrun, hended, rfl, ⟨_, rfl⟩, hW, hframe⟩
  jvm_step X.here [X.here.top, hx, hb, hdg, hmeth', hr, ret, narrow_b1]
  (try refine ⟨rfl, ?_⟩); (try refine ⟨rfl, ?_⟩)
  first | (intro acts; rw [hret _ acts rfl rfl rfl]) | rw [hret _ _ rfl rfl rfl]
  exact Steps.refl _
/-- what holds at the law's entry: the machine, the code, the tables' words (any of lw_tbl by 'hts w (by decide +kernel)'), the script of L ints xs at the cell b, what the Statement gives of the start (any of its parts by flat_of_before) -/
def lw_At (p : Program) (s : State) (m : MethodId) (meth : Method) (c : Code) (b L : Nat) (xs : Nat → Int32) : Prop :=
  p.tables.exec = Jvm.exec ∧ c.code = code ∧ meth.sig.returnType = ret ∧ c.maxLocals = 4 ∧ s.vm.findClass R_law = some m.cls ∧ (∀ w ∈ lw_tbl, w.before #[Value.ref b] s = true) ∧ va_X b L xs s s.heap ∧ b < s.heap.size ∧ meth.locks = false ∧ (Jvm.Cond.and given_1 narrow_1).before #[Value.ref b] s = true
end
section
-- ===== the law's entry: what is known there =====
def zab (j : Nat) : Int32 := match j with
  | 0 => -1
  | 1 => 0
  | 2 => 1
  | 3 => 1
  | 4 => 0
  | 5 => 4
  | 6 => 0
  | _ => 2
def zX (L : Nat) (xs : Nat → Int32) : aX := fun x => match x with
  | 0 => some (8, zab)
  | 1 => some (L, xs)
  | _ => none
def zST : Term := .static "AcresPaid" "ABOVE" "[I"
def zLW : Bool := lw_tbl.any (fun w => decide (w = Cond.arrayOver (.object "AcresPaid$Season"))) && lw_tbl.any (fun w => decide (w = Cond.arrayOver (.array .int))) && lw_tbl.any (fun w => decide (w = Cond.laysStatic "AcresPaid" "ABOVE" "[I")) && lw_tbl.any (fun w => decide (w = Cond.initialized "AcresPaid")) && lw_tbl.any (fun w => decide (w = Cond.fieldLinkNest "AcresPaid$Register" 49 "AcresPaid" "ABOVE" "[I" "AcresPaid"))
theorem zLW_ok : zLW = true := by decide +kernel
theorem zany {w : Cond} (h : lw_tbl.any (fun v => decide (v = w)) = true) : w ∈ lw_tbl := by
  obtain ⟨v, m, g⟩ := List.any_eq_true.mp h
  simp only [decide_eq_true_eq] at g
  subst g
  exact m
theorem aKX_start {s : State} {args : Array Value} {b L : Nat} {xs : Nat → Int32} (hts : ∀ w ∈ lw_tbl, w.before args s = true) (hX : va_X b L xs s s.heap) (hbl : b < s.heap.size) (hg : (Jvm.Cond.and given_1 narrow_1).before args s = true) :
    ∃ (D : va_G) (cA : Nat → ClassId) (ea : Nat → Nat), ea 1 = b ∧ aKX D cA ea s.heap.size (zX L xs) s := by
  have hz : ∀ w ∈ zW, w.before args s = true := fun w h => hts w (zW_in w h)
  have hs := flat_of_before _ hg
  have hAn : ∀ a : Nat, a < s.heap.size → ¬ s.heap.size ≤ a := fun a h => Nat.not_le.mpr h
  have h1 : ∀ c : Nat, ∃ q : ClassId × (Nat → Nat), c < 13 → u_Kn s (zCN c) (zT c) (zN c) q.1 q.2 := by
    intro c
    by_cases hc : c < 13
    · obtain ⟨a, f, e⟩ := u_known hz (z_uws hc) (hz _ (z_ini hc).1)
      exact ⟨(a, f), fun _ => e⟩
    · obtain ⟨a, f, e⟩ := u_known hz (z_uws (show 0 < 13 by decide)) (hz _ (z_ini (show 0 < 13 by decide)).1)
      exact ⟨(a, f), fun h => absurd h hc⟩
  obtain ⟨f, hf⟩ := Classical.axiomOfChoice h1
  have hl := zLW_ok
  unfold zLW at hl
  obtain ⟨hl, l5⟩ := (Bool.and_eq_true _ _).mp hl
  obtain ⟨hl, l4⟩ := (Bool.and_eq_true _ _).mp hl
  obtain ⟨hl, l3⟩ := (Bool.and_eq_true _ _).mp hl
  obtain ⟨l1, l2⟩ := (Bool.and_eq_true _ _).mp hl
  have ho : (Cond.arrayOver (.object "AcresPaid$Season")).before args s = true := hts _ (zany l1)
  have hA : (Cond.arrayOver (.array .int)).before args s = true := hts _ (zany l2)
  obtain ⟨a0, k0, m0, p0, q0, r0⟩ := Cond.arrayClass_spec (hz _ (z_arr (a := 0) rfl))
  obtain ⟨a1, k1, m1, p1, q1, r1⟩ := Cond.arrayClass_spec (hz _ (z_arr (a := 1) rfl))
  obtain ⟨a2, k2, m2, p2, q2, r2⟩ := Cond.arrayClass_spec (hz _ (z_arr (a := 2) rfl))
  obtain ⟨a3, k3, m3, p3, q3, r3⟩ := Cond.arrayClass_spec (hz _ (z_arr (a := 3) rfl))
  obtain ⟨m4, a4, k4, p4, -, q4, r4, t4⟩ := Cond.arrayOver_spec ho
  obtain ⟨m5, a5, k5, p5, -, q5, r5, t5⟩ := arrayOverA_spec hA
  have hlen : (Term.length zST).eval args s none [] s = some (.int (Int32.ofNat 8)) := va_eqt (hs (Cond.eq (.length zST) (.int 8)) (by decide +kernel))
  have hel : ∀ j : Nat, j < 8 → (Term.elem zST (.int (Int32.ofNat j))).eval args s none [] s = some (.int (zab j)) := by
    intro j hj
    match j, hj with
    | 0, _ => exact va_eqt (hs (Cond.eq (.elem zST (.int 0)) (.int (-1))) (by decide +kernel))
    | 1, _ => exact va_eqt (hs (Cond.eq (.elem zST (.int 1)) (.int 0)) (by decide +kernel))
    | 2, _ => exact va_eqt (hs (Cond.eq (.elem zST (.int 2)) (.int 1)) (by decide +kernel))
    | 3, _ => exact va_eqt (hs (Cond.eq (.elem zST (.int 3)) (.int 1)) (by decide +kernel))
    | 4, _ => exact va_eqt (hs (Cond.eq (.elem zST (.int 4)) (.int 0)) (by decide +kernel))
    | 5, _ => exact va_eqt (hs (Cond.eq (.elem zST (.int 5)) (.int 4)) (by decide +kernel))
    | 6, _ => exact va_eqt (hs (Cond.eq (.elem zST (.int 6)) (.int 0)) (by decide +kernel))
    | 7, _ => exact va_eqt (hs (Cond.eq (.elem zST (.int 7)) (.int 2)) (by decide +kernel))
  obtain ⟨t, ht, hT⟩ := va_Tof (A := fun q => s.heap.size ≤ q) (N := 8) (f := fun j => .int (zab j)) (by decide) (hs (Cond.arrayOf zST .int) (by decide +kernel)) hlen hel hAn
  have hZ : va_Z "AcresPaid" "ABOVE" "[I" (.ref t) (fun q => s.heap.size ≤ q) s s.heap := va_Zref (hts _ (zany l3)) (hts _ (zany l4)) ht hAn
  refine ⟨(fun c => (f c).1, fun c => (f c).2), fun i => match i with
    | 0 => a0
    | 1 => a1
    | 2 => a2
    | 3 => a3
    | 4 => a4
    | _ => a5, fun x => match x with
    | 0 => t
    | _ => b, rfl, ⟨?_, ?_⟩, ?_, hZ, ?_, ?_, va_AO.of ho, hA⟩
  · intro c q hq
    have hc : c < 13 := by
      have := (List.getElem?_eq_some_iff.mp hq).1
      simpa [zCl] using this
    rw [zCl_get hc] at hq
    cases hq
    exact hf c hc
  · intro k q hq
    match k, hq with
    | 0, hq => cases hq; exact ⟨fun n z => ⟨(fun k h => by cases h), k0, q0, m0, r0⟩, p0⟩
    | 1, hq => cases hq; exact ⟨fun n z => ⟨(fun k h => by cases h), k1, q1, m1, r1⟩, p1⟩
    | 2, hq => cases hq; exact ⟨fun n z => ⟨(fun k h => by cases h), k2, q2, m2, r2⟩, p2⟩
    | 3, hq => cases hq; exact ⟨fun n z => ⟨(fun k h => by cases h), k3, q3, m3, r3⟩, p3⟩
    | 4, hq => cases hq; exact ⟨fun n z => ⟨(fun k h => by cases h), k4, q4, m4, r4⟩, k4, m4, q4, r4, p4, t4⟩
    | 5, hq => cases hq; exact ⟨fun n z => ⟨(fun k h => by cases h), k5, q5, m5, r5⟩, t5⟩
    | k + 6, hq => simp at hq
  · intro x n g hx
    match x, hx with
    | 0, hx => cases hx; exact hT
    | 1, hx =>
      cases hx
      obtain ⟨scr, h1, h2, h3, h4, h5⟩ := hX
      exact ⟨scr, h1, h2, h3, by omega, by rw [h4], h5, hAn _ hbl⟩
    | x + 2, hx => cases hx
  · intro q hq hn ha
    have h1 := List.all_eq_true.mp zmcp_ok q hq
    unfold zmcpW at h1
    rw [if_neg hn] at h1
    rcases (Bool.or_eq_true _ _).mp h1 with h2 | h2
    · exfalso
      simp only [Bool.or_eq_true, Nat.beq_eq] at h2
      omega
    · exact va_Nw.of rfl (hts _ (List.mem_of_getElem? (of_decide_eq_true h2)))
  · exact va_Nw.of rfl (hts _ (zany l5))
theorem aMet_X {l : Launch} {D : va_G} {cA : Nat → ClassId} {ea : Nat → Nat} {b0 : Nat} {X X' : aX} {d : Nat} {Y : aM} {as : List Value} {h : aH} {v : Option Value} {h' : aH} (hX : ∀ x q, X x = some q → X' x = some q) (hM : aMet l D cA ea b0 X d Y as h v h') : aMet l D cA ea b0 X' d Y as h v h' := by
  intro p e h1 h2 h3 s m args below hf happ hP hK
  exact hM p e h1 h2 h3 s m args below hf happ ⟨hP.1, hP.2.1, hP.2.2.1, hP.2.2.2.1, fun x n f g => hP.2.2.2.2.1 x n f (hX _ _ g), hP.2.2.2.2.2⟩ hK
end
section
-- ===== the cells behind the two constructors (by program) =====
def zF0 : List Value := [.ref 1, .ref 13, .ref 16, .ref 33, .ref 41, .ref 48, .ref 55, .ref 63, .ref 66, .ref 68]
def zF1 : List Value := [.int 0, .int 0, .int 0, .int 0, .int 0, .int 0, .int 0, .ref 2, .ref 3, .ref 4, .ref 5, .ref 6, .ref 7, .ref 8, .ref 9, .ref 10, .ref 11, .ref 12]
def zF13 : List Value := [.ref 14, .ref 15, .int 0]
def zF16 : List Value := [.ref 1, .int 0, .int 0, .int 0, .ref 17, .ref 18, .ref 19, .ref 20, .ref 21, .ref 22, .ref 23, .ref 24, .ref 25, .ref 26, .ref 27, .ref 28, .ref 29, .ref 30, .ref 31, .ref 32]
def zF33 : List Value := [.ref 34, .int 0, .ref 35, .ref 36, .ref 37, .ref 38, .ref 39, .int 0, .ref 40, .int 0, .int 0, .int 0, .int 0, .ref 40, .int 0]
def zF41 : List Value := [.ref 1, .ref 16, .ref 33, .ref 42, .ref 43, .ref 44, .ref 45, .int 0, .ref 46, .ref 47]
def zF48 : List Value := [.ref 1, .ref 16, .ref 41, .ref 49, .int 0, .ref 50, .ref 51, .int 0, .ref 52, .int 0, .ref 53, .ref 54, .int 0, .int 0, .int 0, .int 0, .int 0]
def zF55 : List Value := [.ref 56, .int 0, .ref 57, .ref 58, .int 0, .ref 59, .ref 60, .ref 61, .ref 62, .int 0, .int 0, .int 0]
def zF63 : List Value := [.ref 64, .int (-1), .ref 65]
def zF66 : List Value := [.ref 67, .int 0, .int 0, .int 0, .int 0]
def zF68 : List Value := [.ref 69, .ref 70, .ref 71]
def zF72 : List Value := [.int 0, .int 0, .int 0, .ref 73, .ref 74, .ref 75, .ref 76, .ref 77, .ref 78, .ref 79, .ref 80, .int 0, .ref 81, .ref 82, .int 0, .ref 83, .ref 84, .ref 85, .ref 86, .int 0, .ref 87, .ref 88, .ref 89, .ref 90, .ref 91, .int 0, .ref 92, .ref 93, .ref 94, .ref 95, .ref 96, .ref 97, .int 0, .ref 98, .ref 99, .ref 100, .ref 101, .ref 102, .int 1, .int (-1), .ref 103, .ref 104, .ref 105, .ref 106, .ref 107, .ref 108, .ref 109, .ref 110, .ref 111, .ref 112, .ref 113, .ref 114, .int (-1), .ref 115, .int 0, .int 0, .ref 116, .ref 117, .ref 118, .ref 119, .ref 120, .ref 121, .ref 122, .ref 123, .int 0, .int 0, .int 0, .int 0, .int 0, .ref 124, .ref 125, .int 0, .ref 126, .ref 127, .ref 128, .int 0, .ref 129, .ref 130, .ref 131, .int 0, .ref 132, .int (-1), .ref 133, .int 1, .int (-1), .ref 134, .ref 135, .int 0, .ref 136, .ref 137, .ref 138, .ref 139, .ref 140, .int (-1), .int 0, .int 0, .ref 141, .ref 142, .ref 143, .ref 144, .ref 145]
def zc_0 : List aC := [.inr (11, zF0), .inr (6, zF1), .inl (0, 150, .inl (fun _ => 0)), .inl (0, 150, .inl (fun _ => 0)), .inl (0, 150, .inl (fun _ => 0)), .inl (0, 150, .inl (fun _ => 0)), .inl (0, 150, .inl (fun _ => 0)), .inl (0, 150, .inl (fun _ => 0)), .inl (0, 3600, .inl (fun _ => 0)), .inl (0, 200, .inl (fun _ => 0)), .inl (0, 200, .inl (fun _ => 0)), .inl (0, 200, .inl (fun _ => 0)), .inl (0, 200, .inl (fun _ => 0)), .inr (7, zF13), .inl (0, 12, .inl (fun _ => 0)), .inl (0, 12, .inl (fun _ => 0)), .inr (2, zF16), .inl (0, 300, .inl (fun _ => 0)), .inl (0, 300, .inl (fun _ => 0)), .inl (0, 300, .inl (fun _ => 0))]
def zc_1 : List aC := [.inl (0, 300, .inl (fun _ => 0)), .inl (0, 300, .inl (fun _ => 0)), .inl (0, 4, .inl (fun _ => 135)), .inl (0, 40, .inl (fun _ => 0)), .inl (0, 40, .inl (fun _ => 0)), .inl (0, 40, .inl (fun _ => 0)), .inl (0, 40, .inl (fun _ => 0)), .inl (0, 200, .inl (fun _ => 0)), .inl (0, 200, .inl (fun _ => 0)), .inl (0, 200, .inl (fun _ => 0)), .inl (0, 200, .inl (fun _ => 0)), .inl (0, 200, .inl (fun _ => 0)), .inl (0, 1500, .inl (fun _ => 0)), .inr (10, zF33), .inl (3, 160, .inl (fun _ => 0)), .inl (3, 2560, .inl (fun _ => 0)), .inl (0, 16, .inl (fun _ => 0)), .inl (0, 16, .inl (fun _ => 0)), .inl (0, 16, .inl (fun _ => 0)), .inl (0, 16, .inl (fun _ => 0))]
def zc_2 : List aC := [.inl (0, 13, .inl (fun _ => 0)), .inr (0, zF41), .inl (4, 10, .inr (.inr (.inr (.inr (fun _ => none))))), .inl (0, 13, .inl (fun _ => 0)), .inl (0, 8, .inl (fun _ => 0)), .inl (0, 6, .inl (fun _ => 0)), .inl (0, 1500, .inl (fun _ => 0)), .inl (0, 150, .inl (fun _ => 0)), .inr (5, zF48), .inl (0, 10, .inl (fun _ => 0)), .inl (0, 10, .inl (fun _ => 0)), .inl (0, 10, .inl (fun _ => 0)), .inl (0, 9, .inl (fun _ => 0)), .inl (0, 150, .inl (fun _ => 0)), .inl (0, 150, .inl (fun _ => 0)), .inr (4, zF55), .inl (0, 6, .inl (fun _ => 0)), .inl (0, 8, .inl (fun _ => 0)), .inl (0, 6, .inl (fun _ => 0)), .inl (0, 8, .inl (fun j => Int32.ofNat j))]
def zc_3 : List aC := [.inl (0, 8, .inl (fun _ => 0)), .inl (0, 8, .inl (fun _ => 0)), .inl (0, 6, .inl (fun _ => 0)), .inr (3, zF63), .inl (0, 48, .inl (fun _ => 0)), .inl (5, 150, .inr (.inr (.inr (.inr (fun _ => none))))), .inr (1, zF66), .inl (0, 24, .inl (fun _ => 0)), .inr (9, zF68), .inl (0, 6, .inl (fun _ => (-1))), .inl (0, 6, .inl (fun _ => 0)), .inl (1, 360, .inr (.inl (fun _ => 0))), .inr (12, zF72), .inl (0, 150, .inl (fun _ => 0)), .inl (0, 150, .inl (fun _ => 0)), .inl (0, 150, .inl (fun _ => 0)), .inl (0, 150, .inl (fun _ => 0)), .inl (0, 150, .inl (fun _ => 0)), .inl (0, 150, .inl (fun _ => 0)), .inl (0, 150, .inl (fun _ => 0))]
def zc_4 : List aC := [.inl (0, 3600, .inl (fun _ => 0)), .inl (0, 12, .inl (fun _ => 0)), .inl (0, 12, .inl (fun _ => 0)), .inl (0, 200, .inl (fun _ => 0)), .inl (0, 200, .inl (fun _ => 0)), .inl (0, 200, .inl (fun _ => 0)), .inl (0, 200, .inl (fun _ => 0)), .inl (0, 300, .inl (fun _ => 0)), .inl (0, 300, .inl (fun _ => 0)), .inl (0, 300, .inl (fun _ => 0)), .inl (0, 300, .inl (fun _ => 0)), .inl (0, 4, .inl (fun _ => 135)), .inl (0, 40, .inl (fun _ => 0)), .inl (0, 40, .inl (fun _ => 0)), .inl (0, 40, .inl (fun _ => 0)), .inl (0, 40, .inl (fun _ => 0)), .inl (0, 40, .inl (fun _ => 0)), .inl (0, 40, .inl (fun _ => 0)), .inl (0, 200, .inl (fun _ => 0)), .inl (0, 200, .inl (fun _ => 0))]
def zc_5 : List aC := [.inl (0, 200, .inl (fun _ => 0)), .inl (0, 200, .inl (fun _ => 0)), .inl (0, 200, .inl (fun _ => 0)), .inl (2, 300, .inl (fun _ => 0)), .inl (0, 300, .inl (fun _ => 0)), .inl (0, 300, .inl (fun _ => 0)), .inl (0, 300, .inl (fun _ => 0)), .inl (0, 576, .inl (fun _ => 0)), .inl (2, 576, .inl (fun _ => 0)), .inl (2, 576, .inl (fun _ => 0)), .inl (2, 576, .inl (fun _ => 0)), .inl (0, 1500, .inl (fun _ => 0)), .inl (0, 48, .inl (fun _ => 0)), .inl (0, 9000, .inl (fun _ => 0)), .inl (2, 9000, .inl (fun _ => 0)), .inl (3, 160, .inl (fun _ => 0)), .inl (0, 16, .inl (fun _ => 0)), .inl (0, 16, .inl (fun _ => 0)), .inl (0, 16, .inl (fun _ => 0)), .inl (0, 17, .inl (fun _ => 0))]
def zc_6 : List aC := [.inl (0, 1530, .inl (fun _ => 0)), .inl (0, 1530, .inl (fun _ => 0)), .inl (0, 2890, .inl (fun _ => 0)), .inl (0, 2890, .inl (fun _ => 0)), .inl (0, 13, .inl (fun _ => 0)), .inl (0, 170, .inl (fun _ => 0)), .inl (0, 8, .inl (fun _ => 0)), .inl (2, 150, .inl (fun _ => 0)), .inl (0, 6, .inl (fun _ => 0)), .inl (0, 1500, .inl (fun _ => 0)), .inl (1, 150, .inr (.inl (fun _ => 0))), .inl (1, 150, .inr (.inl (fun _ => 0))), .inl (0, 10, .inl (fun _ => 0)), .inl (0, 10, .inl (fun _ => 0)), .inl (0, 9, .inl (fun _ => 0)), .inl (2, 150, .inl (fun _ => 0)), .inl (0, 6, .inl (fun _ => 0)), .inl (0, 8, .inl (fun _ => 0)), .inl (0, 6, .inl (fun _ => 0)), .inl (0, 6, .inl (fun _ => 0))]
def zc_7 : List aC := [.inl (0, 8, .inl (fun _ => 0)), .inl (0, 24, .inl (fun _ => 0)), .inl (0, 6, .inl (fun _ => (-1))), .inl (0, 6, .inl (fun _ => 0)), .inl (1, 360, .inr (.inl (fun _ => 0))), .inl (1, 60, .inr (.inl (fun _ => 0)))]
def zH0 : aH := (zc_0 ++ (zc_1 ++ (zc_2 ++ (zc_3 ++ (zc_4 ++ (zc_5 ++ (zc_6 ++ (zc_7))))))), 58023)
theorem zh0 : zH0.1[0]? = some (.inr (11, zF0)) := rfl
theorem zh1 : zH0.1[1]? = some (.inr (6, zF1)) := rfl
theorem zh2 : zH0.1[2]? = some (.inl (0, 150, .inl (fun _ => 0))) := rfl
theorem zh3 : zH0.1[3]? = some (.inl (0, 150, .inl (fun _ => 0))) := rfl
theorem zh4 : zH0.1[4]? = some (.inl (0, 150, .inl (fun _ => 0))) := rfl
theorem zh5 : zH0.1[5]? = some (.inl (0, 150, .inl (fun _ => 0))) := rfl
theorem zh6 : zH0.1[6]? = some (.inl (0, 150, .inl (fun _ => 0))) := rfl
theorem zh7 : zH0.1[7]? = some (.inl (0, 150, .inl (fun _ => 0))) := rfl
theorem zh8 : zH0.1[8]? = some (.inl (0, 3600, .inl (fun _ => 0))) := rfl
theorem zh9 : zH0.1[9]? = some (.inl (0, 200, .inl (fun _ => 0))) := rfl
theorem zh10 : zH0.1[10]? = some (.inl (0, 200, .inl (fun _ => 0))) := rfl
theorem zh11 : zH0.1[11]? = some (.inl (0, 200, .inl (fun _ => 0))) := rfl
theorem zh12 : zH0.1[12]? = some (.inl (0, 200, .inl (fun _ => 0))) := rfl
theorem zh13 : zH0.1[13]? = some (.inr (7, zF13)) := rfl
theorem zh14 : zH0.1[14]? = some (.inl (0, 12, .inl (fun _ => 0))) := rfl
theorem zh15 : zH0.1[15]? = some (.inl (0, 12, .inl (fun _ => 0))) := rfl
theorem zh16 : zH0.1[16]? = some (.inr (2, zF16)) := rfl
theorem zh17 : zH0.1[17]? = some (.inl (0, 300, .inl (fun _ => 0))) := rfl
theorem zh18 : zH0.1[18]? = some (.inl (0, 300, .inl (fun _ => 0))) := rfl
theorem zh19 : zH0.1[19]? = some (.inl (0, 300, .inl (fun _ => 0))) := rfl
theorem zh20 : zH0.1[20]? = some (.inl (0, 300, .inl (fun _ => 0))) := rfl
theorem zh21 : zH0.1[21]? = some (.inl (0, 300, .inl (fun _ => 0))) := rfl
theorem zh22 : zH0.1[22]? = some (.inl (0, 4, .inl (fun _ => 135))) := rfl
theorem zh23 : zH0.1[23]? = some (.inl (0, 40, .inl (fun _ => 0))) := rfl
theorem zh24 : zH0.1[24]? = some (.inl (0, 40, .inl (fun _ => 0))) := rfl
theorem zh25 : zH0.1[25]? = some (.inl (0, 40, .inl (fun _ => 0))) := rfl
theorem zh26 : zH0.1[26]? = some (.inl (0, 40, .inl (fun _ => 0))) := rfl
theorem zh27 : zH0.1[27]? = some (.inl (0, 200, .inl (fun _ => 0))) := rfl
theorem zh28 : zH0.1[28]? = some (.inl (0, 200, .inl (fun _ => 0))) := rfl
theorem zh29 : zH0.1[29]? = some (.inl (0, 200, .inl (fun _ => 0))) := rfl
theorem zh30 : zH0.1[30]? = some (.inl (0, 200, .inl (fun _ => 0))) := rfl
theorem zh31 : zH0.1[31]? = some (.inl (0, 200, .inl (fun _ => 0))) := rfl
theorem zh32 : zH0.1[32]? = some (.inl (0, 1500, .inl (fun _ => 0))) := rfl
theorem zh33 : zH0.1[33]? = some (.inr (10, zF33)) := rfl
theorem zh34 : zH0.1[34]? = some (.inl (3, 160, .inl (fun _ => 0))) := rfl
theorem zh35 : zH0.1[35]? = some (.inl (3, 2560, .inl (fun _ => 0))) := rfl
theorem zh36 : zH0.1[36]? = some (.inl (0, 16, .inl (fun _ => 0))) := rfl
theorem zh37 : zH0.1[37]? = some (.inl (0, 16, .inl (fun _ => 0))) := rfl
theorem zh38 : zH0.1[38]? = some (.inl (0, 16, .inl (fun _ => 0))) := rfl
theorem zh39 : zH0.1[39]? = some (.inl (0, 16, .inl (fun _ => 0))) := rfl
theorem zh40 : zH0.1[40]? = some (.inl (0, 13, .inl (fun _ => 0))) := rfl
theorem zh41 : zH0.1[41]? = some (.inr (0, zF41)) := rfl
theorem zh42 : zH0.1[42]? = some (.inl (4, 10, .inr (.inr (.inr (.inr (fun _ => none)))))) := rfl
theorem zh43 : zH0.1[43]? = some (.inl (0, 13, .inl (fun _ => 0))) := rfl
theorem zh44 : zH0.1[44]? = some (.inl (0, 8, .inl (fun _ => 0))) := rfl
theorem zh45 : zH0.1[45]? = some (.inl (0, 6, .inl (fun _ => 0))) := rfl
theorem zh46 : zH0.1[46]? = some (.inl (0, 1500, .inl (fun _ => 0))) := rfl
theorem zh47 : zH0.1[47]? = some (.inl (0, 150, .inl (fun _ => 0))) := rfl
theorem zh48 : zH0.1[48]? = some (.inr (5, zF48)) := rfl
theorem zh49 : zH0.1[49]? = some (.inl (0, 10, .inl (fun _ => 0))) := rfl
theorem zh50 : zH0.1[50]? = some (.inl (0, 10, .inl (fun _ => 0))) := rfl
theorem zh51 : zH0.1[51]? = some (.inl (0, 10, .inl (fun _ => 0))) := rfl
theorem zh52 : zH0.1[52]? = some (.inl (0, 9, .inl (fun _ => 0))) := rfl
theorem zh53 : zH0.1[53]? = some (.inl (0, 150, .inl (fun _ => 0))) := rfl
theorem zh54 : zH0.1[54]? = some (.inl (0, 150, .inl (fun _ => 0))) := rfl
theorem zh55 : zH0.1[55]? = some (.inr (4, zF55)) := rfl
theorem zh56 : zH0.1[56]? = some (.inl (0, 6, .inl (fun _ => 0))) := rfl
theorem zh57 : zH0.1[57]? = some (.inl (0, 8, .inl (fun _ => 0))) := rfl
theorem zh58 : zH0.1[58]? = some (.inl (0, 6, .inl (fun _ => 0))) := rfl
theorem zh59 : zH0.1[59]? = some (.inl (0, 8, .inl (fun j => Int32.ofNat j))) := rfl
theorem zh60 : zH0.1[60]? = some (.inl (0, 8, .inl (fun _ => 0))) := rfl
theorem zh61 : zH0.1[61]? = some (.inl (0, 8, .inl (fun _ => 0))) := rfl
theorem zh62 : zH0.1[62]? = some (.inl (0, 6, .inl (fun _ => 0))) := rfl
theorem zh63 : zH0.1[63]? = some (.inr (3, zF63)) := rfl
theorem zh64 : zH0.1[64]? = some (.inl (0, 48, .inl (fun _ => 0))) := rfl
theorem zh65 : zH0.1[65]? = some (.inl (5, 150, .inr (.inr (.inr (.inr (fun _ => none)))))) := rfl
theorem zh66 : zH0.1[66]? = some (.inr (1, zF66)) := rfl
theorem zh67 : zH0.1[67]? = some (.inl (0, 24, .inl (fun _ => 0))) := rfl
theorem zh68 : zH0.1[68]? = some (.inr (9, zF68)) := rfl
theorem zh69 : zH0.1[69]? = some (.inl (0, 6, .inl (fun _ => (-1)))) := rfl
theorem zh70 : zH0.1[70]? = some (.inl (0, 6, .inl (fun _ => 0))) := rfl
theorem zh71 : zH0.1[71]? = some (.inl (1, 360, .inr (.inl (fun _ => 0)))) := rfl
theorem zh72 : zH0.1[72]? = some (.inr (12, zF72)) := rfl
theorem zh73 : zH0.1[73]? = some (.inl (0, 150, .inl (fun _ => 0))) := rfl
theorem zh74 : zH0.1[74]? = some (.inl (0, 150, .inl (fun _ => 0))) := rfl
theorem zh75 : zH0.1[75]? = some (.inl (0, 150, .inl (fun _ => 0))) := rfl
theorem zh76 : zH0.1[76]? = some (.inl (0, 150, .inl (fun _ => 0))) := rfl
theorem zh77 : zH0.1[77]? = some (.inl (0, 150, .inl (fun _ => 0))) := rfl
theorem zh78 : zH0.1[78]? = some (.inl (0, 150, .inl (fun _ => 0))) := rfl
theorem zh79 : zH0.1[79]? = some (.inl (0, 150, .inl (fun _ => 0))) := rfl
theorem zh80 : zH0.1[80]? = some (.inl (0, 3600, .inl (fun _ => 0))) := rfl
theorem zh81 : zH0.1[81]? = some (.inl (0, 12, .inl (fun _ => 0))) := rfl
theorem zh82 : zH0.1[82]? = some (.inl (0, 12, .inl (fun _ => 0))) := rfl
theorem zh83 : zH0.1[83]? = some (.inl (0, 200, .inl (fun _ => 0))) := rfl
theorem zh84 : zH0.1[84]? = some (.inl (0, 200, .inl (fun _ => 0))) := rfl
theorem zh85 : zH0.1[85]? = some (.inl (0, 200, .inl (fun _ => 0))) := rfl
theorem zh86 : zH0.1[86]? = some (.inl (0, 200, .inl (fun _ => 0))) := rfl
theorem zh87 : zH0.1[87]? = some (.inl (0, 300, .inl (fun _ => 0))) := rfl
theorem zh88 : zH0.1[88]? = some (.inl (0, 300, .inl (fun _ => 0))) := rfl
theorem zh89 : zH0.1[89]? = some (.inl (0, 300, .inl (fun _ => 0))) := rfl
theorem zh90 : zH0.1[90]? = some (.inl (0, 300, .inl (fun _ => 0))) := rfl
theorem zh91 : zH0.1[91]? = some (.inl (0, 4, .inl (fun _ => 135))) := rfl
theorem zh92 : zH0.1[92]? = some (.inl (0, 40, .inl (fun _ => 0))) := rfl
theorem zh93 : zH0.1[93]? = some (.inl (0, 40, .inl (fun _ => 0))) := rfl
theorem zh94 : zH0.1[94]? = some (.inl (0, 40, .inl (fun _ => 0))) := rfl
theorem zh95 : zH0.1[95]? = some (.inl (0, 40, .inl (fun _ => 0))) := rfl
theorem zh96 : zH0.1[96]? = some (.inl (0, 40, .inl (fun _ => 0))) := rfl
theorem zh97 : zH0.1[97]? = some (.inl (0, 40, .inl (fun _ => 0))) := rfl
theorem zh98 : zH0.1[98]? = some (.inl (0, 200, .inl (fun _ => 0))) := rfl
theorem zh99 : zH0.1[99]? = some (.inl (0, 200, .inl (fun _ => 0))) := rfl
theorem zh100 : zH0.1[100]? = some (.inl (0, 200, .inl (fun _ => 0))) := rfl
theorem zh101 : zH0.1[101]? = some (.inl (0, 200, .inl (fun _ => 0))) := rfl
theorem zh102 : zH0.1[102]? = some (.inl (0, 200, .inl (fun _ => 0))) := rfl
theorem zh103 : zH0.1[103]? = some (.inl (2, 300, .inl (fun _ => 0))) := rfl
theorem zh104 : zH0.1[104]? = some (.inl (0, 300, .inl (fun _ => 0))) := rfl
theorem zh105 : zH0.1[105]? = some (.inl (0, 300, .inl (fun _ => 0))) := rfl
theorem zh106 : zH0.1[106]? = some (.inl (0, 300, .inl (fun _ => 0))) := rfl
theorem zh107 : zH0.1[107]? = some (.inl (0, 576, .inl (fun _ => 0))) := rfl
theorem zh108 : zH0.1[108]? = some (.inl (2, 576, .inl (fun _ => 0))) := rfl
theorem zh109 : zH0.1[109]? = some (.inl (2, 576, .inl (fun _ => 0))) := rfl
theorem zh110 : zH0.1[110]? = some (.inl (2, 576, .inl (fun _ => 0))) := rfl
theorem zh111 : zH0.1[111]? = some (.inl (0, 1500, .inl (fun _ => 0))) := rfl
theorem zh112 : zH0.1[112]? = some (.inl (0, 48, .inl (fun _ => 0))) := rfl
theorem zh113 : zH0.1[113]? = some (.inl (0, 9000, .inl (fun _ => 0))) := rfl
theorem zh114 : zH0.1[114]? = some (.inl (2, 9000, .inl (fun _ => 0))) := rfl
theorem zh115 : zH0.1[115]? = some (.inl (3, 160, .inl (fun _ => 0))) := rfl
theorem zh116 : zH0.1[116]? = some (.inl (0, 16, .inl (fun _ => 0))) := rfl
theorem zh117 : zH0.1[117]? = some (.inl (0, 16, .inl (fun _ => 0))) := rfl
theorem zh118 : zH0.1[118]? = some (.inl (0, 16, .inl (fun _ => 0))) := rfl
theorem zh119 : zH0.1[119]? = some (.inl (0, 17, .inl (fun _ => 0))) := rfl
theorem zh120 : zH0.1[120]? = some (.inl (0, 1530, .inl (fun _ => 0))) := rfl
theorem zh121 : zH0.1[121]? = some (.inl (0, 1530, .inl (fun _ => 0))) := rfl
theorem zh122 : zH0.1[122]? = some (.inl (0, 2890, .inl (fun _ => 0))) := rfl
theorem zh123 : zH0.1[123]? = some (.inl (0, 2890, .inl (fun _ => 0))) := rfl
theorem zh124 : zH0.1[124]? = some (.inl (0, 13, .inl (fun _ => 0))) := rfl
theorem zh125 : zH0.1[125]? = some (.inl (0, 170, .inl (fun _ => 0))) := rfl
theorem zh126 : zH0.1[126]? = some (.inl (0, 8, .inl (fun _ => 0))) := rfl
theorem zh127 : zH0.1[127]? = some (.inl (2, 150, .inl (fun _ => 0))) := rfl
theorem zh128 : zH0.1[128]? = some (.inl (0, 6, .inl (fun _ => 0))) := rfl
theorem zh129 : zH0.1[129]? = some (.inl (0, 1500, .inl (fun _ => 0))) := rfl
theorem zh130 : zH0.1[130]? = some (.inl (1, 150, .inr (.inl (fun _ => 0)))) := rfl
theorem zh131 : zH0.1[131]? = some (.inl (1, 150, .inr (.inl (fun _ => 0)))) := rfl
theorem zh132 : zH0.1[132]? = some (.inl (0, 10, .inl (fun _ => 0))) := rfl
theorem zh133 : zH0.1[133]? = some (.inl (0, 10, .inl (fun _ => 0))) := rfl
theorem zh134 : zH0.1[134]? = some (.inl (0, 9, .inl (fun _ => 0))) := rfl
theorem zh135 : zH0.1[135]? = some (.inl (2, 150, .inl (fun _ => 0))) := rfl
theorem zh136 : zH0.1[136]? = some (.inl (0, 6, .inl (fun _ => 0))) := rfl
theorem zh137 : zH0.1[137]? = some (.inl (0, 8, .inl (fun _ => 0))) := rfl
theorem zh138 : zH0.1[138]? = some (.inl (0, 6, .inl (fun _ => 0))) := rfl
theorem zh139 : zH0.1[139]? = some (.inl (0, 6, .inl (fun _ => 0))) := rfl
theorem zh140 : zH0.1[140]? = some (.inl (0, 8, .inl (fun _ => 0))) := rfl
theorem zh141 : zH0.1[141]? = some (.inl (0, 24, .inl (fun _ => 0))) := rfl
theorem zh142 : zH0.1[142]? = some (.inl (0, 6, .inl (fun _ => (-1)))) := rfl
theorem zh143 : zH0.1[143]? = some (.inl (0, 6, .inl (fun _ => 0))) := rfl
theorem zh144 : zH0.1[144]? = some (.inl (1, 360, .inr (.inl (fun _ => 0)))) := rfl
theorem zh145 : zH0.1[145]? = some (.inl (1, 60, .inr (.inl (fun _ => 0)))) := rfl
theorem zH0_len : zH0.1.length = 146 := by decide +kernel
/-- two cells that hold the same -/
def ceqB (x y : aC) : Bool := match x, y with
  | .inr (a, f), .inr (b, g) => decide (a = b) && decide (f = g)
  | .inl (t, n, .inl f), .inl (t', n', .inl f') => decide (t = t') && decide (n = n') && (List.range n).all (fun j => decide (f j = f' j))
  | .inl (t, n, .inr (.inl f)), .inl (t', n', .inr (.inl f')) => decide (t = t') && decide (n = n') && (List.range n).all (fun j => decide (f j = f' j))
  | .inl (t, n, .inr (.inr (.inr (.inr f)))), .inl (t', n', .inr (.inr (.inr (.inr f')))) => decide (t = t') && decide (n = n') && (List.range n).all (fun j => decide (f j = f' j))
  | _, _ => false
def ceqL : List aC → List aC → Bool
  | [], [] => true
  | x :: a, y :: b => ceqB x y && ceqL a b
  | _, _ => false
theorem arrV_of {cA : ClassId} {n : Nat} {f g : Nat → Value} (h : ∀ j, j < n → f j = g j) : arrV cA n f = arrV cA n g := by
  unfold arrV
  congr 1
  apply Array.ext
  · simp
  · intro i h1 h2
    simp only [Array.size_ofFn] at h1
    simp [h i h1]
theorem ceq_all {α : Type} [DecidableEq α] {n : Nat} {f g : Nat → α} (h : (List.range n).all (fun j => decide (f j = g j)) = true) : ∀ j, j < n → f j = g j := fun j hj => of_decide_eq_true (List.all_eq_true.mp h j (List.mem_range.mpr hj))
theorem ceq_I {D : va_G} {cl : List vw_C} {b0 q t n : Nat} {ea : Nat → Nat} {cA : Nat → ClassId} {H : Heap} {f g : Nat → Int32} (h : ∀ j, j < n → f j = g j) (hx : va_at D cl (q, acc b0 ea cA (.inl (t, n, .inl f))) H) : va_at D cl (q, acc b0 ea cA (.inl (t, n, .inl g))) H := by
  have hx : H[q]? = some (vp_cell (cA t) (n, .inl f)) := hx
  have e : vp_cell (cA t) (n, .inl f) = vp_cell (cA t) (n, .inl g) := by
    show arrV (cA t) n (fun j => .int (f j)) = arrV (cA t) n (fun j => .int (g j))
    exact arrV_of (fun j hj => by rw [h j hj])
  rw [e] at hx
  exact hx
theorem ceq_J {D : va_G} {cl : List vw_C} {b0 q t n : Nat} {ea : Nat → Nat} {cA : Nat → ClassId} {H : Heap} {f g : Nat → Int64} (h : ∀ j, j < n → f j = g j) (hx : va_at D cl (q, acc b0 ea cA (.inl (t, n, .inr (.inl f)))) H) : va_at D cl (q, acc b0 ea cA (.inl (t, n, .inr (.inl g)))) H := by
  have hx : H[q]? = some (vp_cell (cA t) (n, .inr (.inl f))) := hx
  have e : vp_cell (cA t) (n, .inr (.inl f)) = vp_cell (cA t) (n, .inr (.inl g)) := by
    show arrV (cA t) n (fun j => .long (f j)) = arrV (cA t) n (fun j => .long (g j))
    exact arrV_of (fun j hj => by rw [h j hj])
  rw [e] at hx
  exact hx
theorem ceq_R {D : va_G} {cl : List vw_C} {b0 q t n : Nat} {ea : Nat → Nat} {cA : Nat → ClassId} {H : Heap} {f g : Nat → Option Nat} (h : ∀ j, j < n → f j = g j) (hx : va_at D cl (q, acc b0 ea cA (.inl (t, n, .inr (.inr (.inr (.inr f)))))) H) : va_at D cl (q, acc b0 ea cA (.inl (t, n, .inr (.inr (.inr (.inr g)))))) H := by
  have hx : H[q]? = some (vp_cell (cA t) (n, .inr (.inr (.inr (.inr (fun i => (f i).map (fun k => b0 + k))))))) := hx
  have e : vp_cell (cA t) (n, .inr (.inr (.inr (.inr (fun i => (f i).map (fun k => b0 + k)))))) = vp_cell (cA t) (n, .inr (.inr (.inr (.inr (fun i => (g i).map (fun k => b0 + k)))))) := by
    show arrV (cA t) n (fun j => va_rf ((f j).map (fun k => b0 + k))) = arrV (cA t) n (fun j => va_rf ((g j).map (fun k => b0 + k)))
    exact arrV_of (fun j hj => by rw [h j hj])
  rw [e] at hx
  exact hx
theorem ceq_at {D : va_G} {cl : List vw_C} {b0 q : Nat} {ea : Nat → Nat} {cA : Nat → ClassId} {H : Heap} {x y : aC} (h : ceqB x y = true) (hx : va_at D cl (q, acc b0 ea cA x) H) : va_at D cl (q, acc b0 ea cA y) H := by
  unfold ceqB at h
  split at h
  · simp only [Bool.and_eq_true, decide_eq_true_eq] at h
    obtain ⟨rfl, rfl⟩ := h
    exact hx
  · obtain ⟨h, h3⟩ := (Bool.and_eq_true _ _).mp h
    obtain ⟨h1, h2⟩ := (Bool.and_eq_true _ _).mp h
    have h1 := of_decide_eq_true h1
    have h2 := of_decide_eq_true h2
    subst h1
    subst h2
    exact ceq_I (ceq_all h3) hx
  · obtain ⟨h, h3⟩ := (Bool.and_eq_true _ _).mp h
    obtain ⟨h1, h2⟩ := (Bool.and_eq_true _ _).mp h
    have h1 := of_decide_eq_true h1
    have h2 := of_decide_eq_true h2
    subst h1
    subst h2
    exact ceq_J (ceq_all h3) hx
  · obtain ⟨h, h3⟩ := (Bool.and_eq_true _ _).mp h
    obtain ⟨h1, h2⟩ := (Bool.and_eq_true _ _).mp h
    have h1 := of_decide_eq_true h1
    have h2 := of_decide_eq_true h2
    subst h1
    subst h2
    exact ceq_R (ceq_all h3) hx
  · cases h
theorem ceqL_get : ∀ {σ σ' : List aC}, ceqL σ σ' = true → σ.length = σ'.length ∧ ∀ (k : Nat) (y : aC), σ'[k]? = some y → ∃ x, σ[k]? = some x ∧ ceqB x y = true
  | [], [], _ => ⟨rfl, fun k y h => by simp at h⟩
  | x :: a, y :: b, h => by
    obtain ⟨h1, h2⟩ := (Bool.and_eq_true _ _).mp h
    obtain ⟨g1, g2⟩ := ceqL_get h2
    refine ⟨by simp [g1], fun k z hz => ?_⟩
    match k, hz with
    | 0, hz => cases hz; exact ⟨x, rfl, h1⟩
    | k + 1, hz => exact g2 k z hz
theorem ceqL_P {D : va_G} {cl : List vw_C} {b0 : Nat} {ea : Nat → Nat} {cA : Nat → ClassId} {H : Heap} {σ σ' : List aC} (h : ceqL σ σ' = true) (hP : va_P D cl (awd b0 ea cA σ) H) : va_P D cl (awd b0 ea cA σ') H := by
  intro k q hq
  obtain ⟨g1, g2⟩ := ceqL_get h
  simp only [awd, List.getElem?_mapIdx, Option.map_eq_some_iff] at hq
  obtain ⟨y, hy, rfl⟩ := hq
  obtain ⟨x, hx, hxy⟩ := g2 k y hy
  exact ceq_at hxy (hP k _ (awd_get hx))
theorem aSW_ceq {Γ : aGm} {pc : Nat} {L : aL} {st : List Value} {h h' : aH} (hc : ceqL h.1 h'.1 = true) (hs : h.2 = h'.2) (k : aSW Γ pc L st h') : aSW Γ pc L st h := by
  obtain ⟨p, l, e, R, s, m, args, below, meth, c, Q, cc, nL, b0, n0, u0, own, kind, D, cA, ea, X⟩ := Γ
  intro H locs ls cells slots e1 e2 hP hS hl
  exact k H locs ls cells slots (e1.trans (ceqL_get hc).1) (e2.trans hs) (ceqL_P hc hP) hS hl
def zX0 : aX := fun _ => none
def zb (a : Nat) (h : aH) : aH := (h.1 ++ [.inr (a, (List.range (zN a)).map (fun c => defaultValue (zY a c)))], h.2 + zN a)
def zr1 : Option aR := arun zX0 3000 10 zM136 0 (aE zM136.2.2.2.1 [.ref 0]) [] (zb 11 ([], 0))
def zr2 : Option aR := match zr1 with
  | some q => arun zX0 3000 10 zM195 0 (aE zM195.2.2.2.1 [.ref 72]) [] (zb 12 q.2)
  | none => none
def zchkH : Bool := match zr1 with
  | some (none, h1) => Nat.beq h1.1.length 72 && Nat.ble h1.2 100000 && (match zr2 with
    | some (none, h2) => decide (h2.2 = zH0.2) && ceqL h2.1 zH0.1
    | _ => false)
  | _ => false
theorem zchkH_ok : zchkH = true := by decide +kernel
theorem zinit : ∃ h1 h2 : aH, zr1 = some (none, h1) ∧ zr2 = some (none, h2) ∧ h1.1.length = 72 ∧ h2.2 = zH0.2 ∧ ceqL h2.1 zH0.1 = true := by
  have h := zchkH_ok
  unfold zchkH at h
  split at h
  · rename_i h1 e1
    obtain ⟨h, h4⟩ := (Bool.and_eq_true _ _).mp h
    obtain ⟨h2, h3⟩ := (Bool.and_eq_true _ _).mp h
    split at h4
    · rename_i h5 e2
      obtain ⟨g1, g2⟩ := (Bool.and_eq_true _ _).mp h4
      exact ⟨h1, h5, e1, e2, Nat.eq_of_beq_eq_true h2, of_decide_eq_true g1, g2⟩
    · cases h4
  · cases h
end
section
-- ===== the law up to its loop =====
theorem fl_0 : aF 0 zM333.2.2.2.2.2.2.2 = some (0, .new 7, 3, 11, 0) := by decide +kernel
theorem fl_3 : aF 3 zM333.2.2.2.2.2.2.2 = some (3, .dup, 1, 0, 0) := by decide +kernel
theorem fl_4 : aF 4 zM333.2.2.2.2.2.2.2 = some (4, .invokespecial 9, 3, 136, 0) := by decide +kernel
theorem fl_7 : aF 7 zM333.2.2.2.2.2.2.2 = some (7, .astore_n 1, 1, 0, 0) := by decide +kernel
theorem fl_8 : aF 8 zM333.2.2.2.2.2.2.2 = some (8, .new 10, 3, 12, 0) := by decide +kernel
theorem fl_11 : aF 11 zM333.2.2.2.2.2.2.2 = some (11, .dup, 1, 0, 0) := by decide +kernel
theorem fl_12 : aF 12 zM333.2.2.2.2.2.2.2 = some (12, .invokespecial 12, 3, 195, 0) := by decide +kernel
theorem fl_15 : aF 15 zM333.2.2.2.2.2.2.2 = some (15, .astore_n 2, 1, 0, 0) := by decide +kernel
theorem fl_16 : aF 16 zM333.2.2.2.2.2.2.2 = some (16, .iconst 0, 1, 0, 0) := by decide +kernel
theorem fl_17 : aF 17 zM333.2.2.2.2.2.2.2 = some (17, .istore_n 3, 1, 0, 0) := by decide +kernel
theorem law_pre {p : Program} {l : Launch} {e : Env} {s : State} {m : MethodId} {args : Array Value} {below : List Frame} {meth : Method} {c : Code} {Q : State → Prop} {b0 : Nat} {D : va_G} {cA : Nat → ClassId} {ea : Nat → Nat} {X : aX}
    (C : aCF (p, l, e, room_1, s, m, args, below, meth, c, Q, code, 4, b0, 0, 0, 13, 1, D, cA, ea, X)) (k : aSW (p, l, e, room_1, s, m, args, below, meth, c, Q, code, 4, b0, 0, 0, 13, 1, D, cA, ea, X) 18 [some (.retAddr 1), some (.ref 0), some (.ref 72), some (.int 0)] [] zH0) :
    aSW (p, l, e, room_1, s, m, args, below, meth, c, Q, code, 4, b0, 0, 0, 13, 1, D, cA, ea, X) 0 (aE 4 [.retAddr 1]) [] ([], 0) := by
  have hCd : aCd (p, l, e, room_1, s, m, args, below, meth, c, Q, code, 4, b0, 0, 0, 13, 1, D, cA, ea, X) zM333 := ⟨zlw_ok, rfl, rfl⟩
  have at' : ∀ {i : aI}, i ∈ zM333.2.2.2.2.2.2.2 → _ := fun {i} hi => aCd_at hCd hi
  obtain ⟨h1, h2, r1, r2, l1, s2, c2⟩ := zinit
  have m1 : zM136 ∈ zmt := List.mem_of_getElem? (i := 136) rfl
  have m2 : zM195 ∈ zmt := List.mem_of_getElem? (i := 195) rfl
  have r2' : arun zX0 3000 10 zM195 0 (aE zM195.2.2.2.1 [.ref 72]) [] (zb 12 h1) = some (none, h2) := by
    have := r2
    unfold zr2 at this
    rw [r1] at this
    exact this
  have hX : ∀ x q, zX0 x = some q → X x = some q := fun x q h => by cases h
  have M1 := aMet_X hX (aM_of (a_sim zX0 3000) l D cA ea b0 10 zM136 [.ref 0] (zb 11 ([], 0)) none h1 m1 r1 (by decide))
  have M2 := aMet_X hX (aM_of (a_sim zX0 3000) l D cA ea b0 10 zM195 [.ref 72] (zb 12 h1) none h2 m2 r2' (by decide))
  have G1 := arun_grows _ _ _ _ _ _ _ _ r1
  have G2 := arun_grows _ _ _ _ _ _ _ _ r2'
  dsimp only at G1 G2
  have n2 : h2.1.length = 146 := (ceqL_get c2).1.trans zH0_len
  have n2' : h2.2 = 58023 := s2
  have n11 : zN 11 = 10 := rfl
  have n12 : zN 12 = 101 := rfl
  have zb1 : (zb 12 h1).1.length = 73 := by unfold zb; rw [List.length_append, l1]; rfl
  have zb2 : (zb 12 h1).2 = h1.2 + 101 := rfl
  have zb3 : (zb 11 ([], 0)).1.length = 1 := rfl
  have zb4 : (zb 11 ([], 0)).2 = 10 := rfl
  have R0 : ∀ (h : aH), h.1.length ≤ 146 → h.2 ≤ 58023 → aRM (p, l, e, room_1, s, m, args, below, meth, c, Q, code, 4, b0, 0, 0, 13, 1, D, cA, ea, X) h := fun h a b => ⟨Nat.le_trans a (by show 146 ≤ 0 + 600000; omega), Nat.le_trans b (by show 58023 ≤ 0 + 7302250; omega)⟩
  have R1 : aRm (p, l, e, room_1, s, m, args, below, meth, c, Q, code, 4, b0, 0, 0, 13, 1, D, cA, ea, X) 11 h2 := ⟨R0 h2 (by omega) (by omega), by show 11 ≤ 2048; omega, by show 41 * 11 ≤ 84000; omega⟩
  have i0 := at' (aF_some fl_0).1
  refine s_new (a := 11) (by decide) (z_cls (o := 13) i0.2.1).2 (z_ini (by decide)).1 (z_ini (by decide)).2 (R0 (zb 11 ([], 0)) (by omega) (by omega)) C i0.1 ?_
  have i3 := at' (aF_some fl_3).1
  refine s_dup rfl C i3.1 ?_
  have i4 := at' (aF_some fl_4).1
  refine s_init (as := []) (r := [.ref 0]) (h := zb 11 ([], 0)) (h1 := h1) (h' := h2) (d' := 10) (Y := zM136) (v := none) (a := 136) rfl (zmt_ok _ m1) rfl i4.2.1 rfl (by decide) M1 G1 (by omega) R1 C i4.1 ?_
  have i7 := at' (aF_some fl_7).1
  refine s_astoren (z := 1) (x := 0) (by decide) C i7.1 ?_
  have i8 := at' (aF_some fl_8).1
  refine s_new (a := 12) (by decide) (z_cls (o := 13) i8.2.1).2 (z_ini (by decide)).1 (z_ini (by decide)).2 (R0 (zb 12 h1) (by omega) (by omega)) C i8.1 ?_
  rw [l1]
  have i11 := at' (aF_some fl_11).1
  refine s_dup rfl C i11.1 ?_
  have i12 := at' (aF_some fl_12).1
  refine s_init (as := []) (r := [.ref 72]) (h := zb 12 h1) (h1 := h2) (h' := h2) (d' := 10) (Y := zM195) (v := none) (a := 195) rfl (zmt_ok _ m2) rfl i12.2.1 rfl (by decide) M2 G2 ⟨Nat.le_refl _, Nat.le_refl _⟩ R1 C i12.1 ?_
  have i15 := at' (aF_some fl_15).1
  refine s_astoren (z := 2) (x := 72) (by decide) C i15.1 ?_
  have i16 := at' (aF_some fl_16).1
  refine s_iconst C i16.1 ?_
  have i17 := at' (aF_some fl_17).1
  refine s_istoren (z := 3) (x := 0) (by decide) C i17.1 ?_
  exact aSW_ceq c2 s2 k
end
