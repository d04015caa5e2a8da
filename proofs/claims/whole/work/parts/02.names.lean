-- ===== PART A: goes FIRST, ahead of the names: the tables' words, and 'selects' of the private methods out of them =====
/-- a private method of a class that the tables say can be made, by its rows of tables_1 -/
def lw_okq (q : MethodName × Nat) : Prop := (q.1.cls ≠ "java/lang/invoke/MethodHandle" ∧ q.1.cls ≠ "java/lang/invoke/VarHandle") ∧ Cond.instantiable q.1.cls q.2 ∈ tables_1 ∧ Cond.privateMethod q.1 ∈ tables_1 ∧ Cond.instanceMethod q.1 ∈ tables_1
theorem lw_p0 : lw_okq (⟨"DialSquare$Rules", "holds", "(II[I)Z"⟩, 6) := ⟨⟨by simp, by simp⟩, w_172, w_460, w_461⟩
theorem lw_p1 : lw_okq (⟨"DialSquare$RuleText", "cutWords", "()V"⟩, 11) := ⟨⟨by simp, by simp⟩, w_31, w_537, w_538⟩
theorem lw_p2 : lw_okq (⟨"DialSquare$RuleText", "endOfRow", "(I)I"⟩, 11) := ⟨⟨by simp, by simp⟩, w_31, w_541, w_542⟩
theorem lw_p3 : lw_okq (⟨"DialSquare$RuleText", "numberOf", "(II)I"⟩, 11) := ⟨⟨by simp, by simp⟩, w_31, w_548, w_549⟩
theorem lw_p4 : lw_okq (⟨"DialSquare$RuleText", "wordOf", "(II)I"⟩, 11) := ⟨⟨by simp, by simp⟩, w_31, w_552, w_553⟩
theorem lw_p5 : lw_okq (⟨"DialSquare$RuleText", "isWord", "(III)Z"⟩, 11) := ⟨⟨by simp, by simp⟩, w_31, w_605, w_606⟩
theorem lw_p6 : lw_okq (⟨"DialSquare$RuleText", "readRule", "(I)Z"⟩, 11) := ⟨⟨by simp, by simp⟩, w_31, w_609, w_610⟩
theorem lw_p7 : lw_okq (⟨"DialSquare$RuleText", "takes", "(I)Z"⟩, 11) := ⟨⟨by simp, by simp⟩, w_31, w_614, w_615⟩
theorem lw_p8 : lw_okq (⟨"DialSquare$RuleText", "readCondition", "(I)Z"⟩, 11) := ⟨⟨by simp, by simp⟩, w_31, w_618, w_619⟩
theorem lw_p9 : lw_okq (⟨"DialSquare$RuleText", "readAll", "(I)Z"⟩, 11) := ⟨⟨by simp, by simp⟩, w_31, w_622, w_623⟩
theorem lw_p10 : lw_okq (⟨"DialSquare$RuleText", "readOne", "(I)Z"⟩, 11) := ⟨⟨by simp, by simp⟩, w_31, w_626, w_627⟩
theorem lw_p11 : lw_okq (⟨"DialSquare$RuleText", "readOpened", "(I)Z"⟩, 11) := ⟨⟨by simp, by simp⟩, w_31, w_630, w_631⟩
theorem lw_p12 : lw_okq (⟨"DialSquare$RuleText", "readCompared", "()Z"⟩, 11) := ⟨⟨by simp, by simp⟩, w_31, w_634, w_635⟩
theorem lw_p13 : lw_okq (⟨"DialSquare$RuleText", "emit", "(I)V"⟩, 11) := ⟨⟨by simp, by simp⟩, w_31, w_638, w_639⟩
theorem lw_p14 : lw_okq (⟨"DialSquare$Square", "restAct", "()I"⟩, 14) := ⟨⟨by simp, by simp⟩, w_198, w_677, w_678⟩
theorem lw_p15 : lw_okq (⟨"DialSquare$Square", "setRight", "(I)I"⟩, 14) := ⟨⟨by simp, by simp⟩, w_198, w_686, w_687⟩
def lw_privs_1 : List (MethodName × Nat) := [(⟨"DialSquare$Rules", "holds", "(II[I)Z"⟩, 6), (⟨"DialSquare$RuleText", "cutWords", "()V"⟩, 11), (⟨"DialSquare$RuleText", "endOfRow", "(I)I"⟩, 11), (⟨"DialSquare$RuleText", "numberOf", "(II)I"⟩, 11), (⟨"DialSquare$RuleText", "wordOf", "(II)I"⟩, 11), (⟨"DialSquare$RuleText", "isWord", "(III)Z"⟩, 11), (⟨"DialSquare$RuleText", "readRule", "(I)Z"⟩, 11), (⟨"DialSquare$RuleText", "takes", "(I)Z"⟩, 11), (⟨"DialSquare$RuleText", "readCondition", "(I)Z"⟩, 11), (⟨"DialSquare$RuleText", "readAll", "(I)Z"⟩, 11), (⟨"DialSquare$RuleText", "readOne", "(I)Z"⟩, 11), (⟨"DialSquare$RuleText", "readOpened", "(I)Z"⟩, 11), (⟨"DialSquare$RuleText", "readCompared", "()Z"⟩, 11), (⟨"DialSquare$RuleText", "emit", "(I)V"⟩, 11), (⟨"DialSquare$Square", "restAct", "()I"⟩, 14), (⟨"DialSquare$Square", "setRight", "(I)I"⟩, 14)]
theorem lw_r1 : ∀ q ∈ lw_privs_1, lw_okq q := List.forall_mem_cons.mpr ⟨lw_p0, List.forall_mem_cons.mpr ⟨lw_p1, List.forall_mem_cons.mpr ⟨lw_p2, List.forall_mem_cons.mpr ⟨lw_p3, List.forall_mem_cons.mpr ⟨lw_p4, List.forall_mem_cons.mpr ⟨lw_p5, List.forall_mem_cons.mpr ⟨lw_p6, List.forall_mem_cons.mpr ⟨lw_p7, List.forall_mem_cons.mpr ⟨lw_p8, List.forall_mem_cons.mpr ⟨lw_p9, List.forall_mem_cons.mpr ⟨lw_p10, List.forall_mem_cons.mpr ⟨lw_p11, List.forall_mem_cons.mpr ⟨lw_p12, List.forall_mem_cons.mpr ⟨lw_p13, List.forall_mem_cons.mpr ⟨lw_p14, List.forall_mem_cons.mpr ⟨lw_p15, fun _ h => absurd h List.not_mem_nil⟩⟩⟩⟩⟩⟩⟩⟩⟩⟩⟩⟩⟩⟩⟩⟩
theorem lw_p16 : lw_okq (⟨"DialSquare$Square", "arguedBy", "(I)I"⟩, 14) := ⟨⟨by simp, by simp⟩, w_198, w_690, w_691⟩
theorem lw_p17 : lw_okq (⟨"DialSquare$Square", "slipAll", "()V"⟩, 14) := ⟨⟨by simp, by simp⟩, w_198, w_695, w_696⟩
theorem lw_p18 : lw_okq (⟨"DialSquare", "dearest", "(II)I"⟩, 8) := ⟨⟨by simp, by simp⟩, w_23, w_717, w_718⟩
theorem lw_p19 : lw_okq (⟨"DialSquare", "countKnots", "()I"⟩, 8) := ⟨⟨by simp, by simp⟩, w_23, w_749, w_750⟩
theorem lw_p20 : lw_okq (⟨"DialSquare$Square", "closeTo", "(I)I"⟩, 14) := ⟨⟨by simp, by simp⟩, w_198, w_757, w_758⟩
theorem lw_p21 : lw_okq (⟨"DialSquare", "spotsInShade", "(I)I"⟩, 8) := ⟨⟨by simp, by simp⟩, w_23, w_765, w_766⟩
theorem lw_p22 : lw_okq (⟨"DialSquare", "benchesOf", "(I)I"⟩, 8) := ⟨⟨by simp, by simp⟩, w_23, w_769, w_770⟩
theorem lw_p23 : lw_okq (⟨"DialSquare$Plans", "explore", "(III)V"⟩, 14) := ⟨⟨by simp, by simp⟩, w_263, w_782, w_783⟩
theorem lw_p24 : lw_okq (⟨"DialSquare$Plans", "weigh", "(III)V"⟩, 14) := ⟨⟨by simp, by simp⟩, w_263, w_787, w_788⟩
theorem lw_p25 : lw_okq (⟨"DialSquare", "isSetOfDials", "(I)Z"⟩, 8) := ⟨⟨by simp, by simp⟩, w_23, w_808, w_809⟩
theorem lw_p26 : lw_okq (⟨"DialSquare$Plans", "valueFrom", "(I)I"⟩, 14) := ⟨⟨by simp, by simp⟩, w_263, w_824, w_825⟩
theorem lw_p27 : lw_okq (⟨"DialSquare", "missedBy", "(I)I"⟩, 8) := ⟨⟨by simp, by simp⟩, w_23, w_848, w_849⟩
theorem lw_p28 : lw_okq (⟨"DialSquare$Square", "missedBehind", "(III)I"⟩, 14) := ⟨⟨by simp, by simp⟩, w_198, w_859, w_860⟩
theorem lw_p29 : lw_okq (⟨"DialSquare", "holdsDial", "(I)Z"⟩, 8) := ⟨⟨by simp, by simp⟩, w_23, w_976, w_977⟩
theorem lw_p30 : lw_okq (⟨"DialSquareModel", "next", "()V"⟩, 37) := ⟨⟨by simp, by simp⟩, w_1092, w_1223, w_1224⟩
theorem lw_p31 : lw_okq (⟨"DialSquareModel", "byteAt", "(I)I"⟩, 37) := ⟨⟨by simp, by simp⟩, w_1092, w_1227, w_1228⟩
def lw_privs_2 : List (MethodName × Nat) := [(⟨"DialSquare$Square", "arguedBy", "(I)I"⟩, 14), (⟨"DialSquare$Square", "slipAll", "()V"⟩, 14), (⟨"DialSquare", "dearest", "(II)I"⟩, 8), (⟨"DialSquare", "countKnots", "()I"⟩, 8), (⟨"DialSquare$Square", "closeTo", "(I)I"⟩, 14), (⟨"DialSquare", "spotsInShade", "(I)I"⟩, 8), (⟨"DialSquare", "benchesOf", "(I)I"⟩, 8), (⟨"DialSquare$Plans", "explore", "(III)V"⟩, 14), (⟨"DialSquare$Plans", "weigh", "(III)V"⟩, 14), (⟨"DialSquare", "isSetOfDials", "(I)Z"⟩, 8), (⟨"DialSquare$Plans", "valueFrom", "(I)I"⟩, 14), (⟨"DialSquare", "missedBy", "(I)I"⟩, 8), (⟨"DialSquare$Square", "missedBehind", "(III)I"⟩, 14), (⟨"DialSquare", "holdsDial", "(I)Z"⟩, 8), (⟨"DialSquareModel", "next", "()V"⟩, 37), (⟨"DialSquareModel", "byteAt", "(I)I"⟩, 37)]
theorem lw_r2 : ∀ q ∈ lw_privs_2, lw_okq q := List.forall_mem_cons.mpr ⟨lw_p16, List.forall_mem_cons.mpr ⟨lw_p17, List.forall_mem_cons.mpr ⟨lw_p18, List.forall_mem_cons.mpr ⟨lw_p19, List.forall_mem_cons.mpr ⟨lw_p20, List.forall_mem_cons.mpr ⟨lw_p21, List.forall_mem_cons.mpr ⟨lw_p22, List.forall_mem_cons.mpr ⟨lw_p23, List.forall_mem_cons.mpr ⟨lw_p24, List.forall_mem_cons.mpr ⟨lw_p25, List.forall_mem_cons.mpr ⟨lw_p26, List.forall_mem_cons.mpr ⟨lw_p27, List.forall_mem_cons.mpr ⟨lw_p28, List.forall_mem_cons.mpr ⟨lw_p29, List.forall_mem_cons.mpr ⟨lw_p30, List.forall_mem_cons.mpr ⟨lw_p31, fun _ h => absurd h List.not_mem_nil⟩⟩⟩⟩⟩⟩⟩⟩⟩⟩⟩⟩⟩⟩⟩⟩
theorem lw_p32 : lw_okq (⟨"DialSquareModel", "readsName", "()V"⟩, 37) := ⟨⟨by simp, by simp⟩, w_1092, w_1231, w_1232⟩
theorem lw_p33 : lw_okq (⟨"DialSquareModel", "isNameOf", "(I)Z"⟩, 37) := ⟨⟨by simp, by simp⟩, w_1092, w_1235, w_1236⟩
theorem lw_p34 : lw_okq (⟨"DialSquareModel", "readsNumber", "()V"⟩, 37) := ⟨⟨by simp, by simp⟩, w_1092, w_1239, w_1240⟩
theorem lw_p35 : lw_okq (⟨"DialSquareModel", "readsRule", "(I)Z"⟩, 37) := ⟨⟨by simp, by simp⟩, w_1092, w_1243, w_1244⟩
theorem lw_p36 : lw_okq (⟨"DialSquareModel", "takes", "(I)Z"⟩, 37) := ⟨⟨by simp, by simp⟩, w_1092, w_1247, w_1248⟩
theorem lw_p37 : lw_okq (⟨"DialSquareModel", "readsCondition", "()Z"⟩, 37) := ⟨⟨by simp, by simp⟩, w_1092, w_1251, w_1252⟩
theorem lw_p38 : lw_okq (⟨"DialSquareModel", "readsAll", "()Z"⟩, 37) := ⟨⟨by simp, by simp⟩, w_1092, w_1255, w_1256⟩
theorem lw_p39 : lw_okq (⟨"DialSquareModel", "readsOne", "()Z"⟩, 37) := ⟨⟨by simp, by simp⟩, w_1092, w_1259, w_1260⟩
theorem lw_p40 : lw_okq (⟨"DialSquareModel", "readsWithin", "()Z"⟩, 37) := ⟨⟨by simp, by simp⟩, w_1092, w_1263, w_1264⟩
theorem lw_p41 : lw_okq (⟨"DialSquareModel", "readsLike", "()Z"⟩, 37) := ⟨⟨by simp, by simp⟩, w_1092, w_1267, w_1268⟩
theorem lw_p42 : lw_okq (⟨"DialSquareModel", "readsValue", "()Z"⟩, 37) := ⟨⟨by simp, by simp⟩, w_1092, w_1271, w_1272⟩
theorem lw_p43 : lw_okq (⟨"DialSquareModel", "lays", "(I)V"⟩, 37) := ⟨⟨by simp, by simp⟩, w_1092, w_1275, w_1276⟩
theorem lw_p44 : lw_okq (⟨"DialSquareModel", "puts", "(III)V"⟩, 37) := ⟨⟨by simp, by simp⟩, w_1092, w_1289, w_1290⟩
theorem lw_p45 : lw_okq (⟨"DialSquareModel", "isDial", "(I)Z"⟩, 37) := ⟨⟨by simp, by simp⟩, w_1092, w_1297, w_1298⟩
theorem lw_p46 : lw_okq (⟨"DialSquareModel", "shadesOf", "(I)I"⟩, 37) := ⟨⟨by simp, by simp⟩, w_1092, w_1301, w_1302⟩
theorem lw_p47 : lw_okq (⟨"DialSquareModel", "get", "(II)I"⟩, 37) := ⟨⟨by simp, by simp⟩, w_1092, w_1305, w_1306⟩
def lw_privs_3 : List (MethodName × Nat) := [(⟨"DialSquareModel", "readsName", "()V"⟩, 37), (⟨"DialSquareModel", "isNameOf", "(I)Z"⟩, 37), (⟨"DialSquareModel", "readsNumber", "()V"⟩, 37), (⟨"DialSquareModel", "readsRule", "(I)Z"⟩, 37), (⟨"DialSquareModel", "takes", "(I)Z"⟩, 37), (⟨"DialSquareModel", "readsCondition", "()Z"⟩, 37), (⟨"DialSquareModel", "readsAll", "()Z"⟩, 37), (⟨"DialSquareModel", "readsOne", "()Z"⟩, 37), (⟨"DialSquareModel", "readsWithin", "()Z"⟩, 37), (⟨"DialSquareModel", "readsLike", "()Z"⟩, 37), (⟨"DialSquareModel", "readsValue", "()Z"⟩, 37), (⟨"DialSquareModel", "lays", "(I)V"⟩, 37), (⟨"DialSquareModel", "puts", "(III)V"⟩, 37), (⟨"DialSquareModel", "isDial", "(I)Z"⟩, 37), (⟨"DialSquareModel", "shadesOf", "(I)I"⟩, 37), (⟨"DialSquareModel", "get", "(II)I"⟩, 37)]
theorem lw_r3 : ∀ q ∈ lw_privs_3, lw_okq q := List.forall_mem_cons.mpr ⟨lw_p32, List.forall_mem_cons.mpr ⟨lw_p33, List.forall_mem_cons.mpr ⟨lw_p34, List.forall_mem_cons.mpr ⟨lw_p35, List.forall_mem_cons.mpr ⟨lw_p36, List.forall_mem_cons.mpr ⟨lw_p37, List.forall_mem_cons.mpr ⟨lw_p38, List.forall_mem_cons.mpr ⟨lw_p39, List.forall_mem_cons.mpr ⟨lw_p40, List.forall_mem_cons.mpr ⟨lw_p41, List.forall_mem_cons.mpr ⟨lw_p42, List.forall_mem_cons.mpr ⟨lw_p43, List.forall_mem_cons.mpr ⟨lw_p44, List.forall_mem_cons.mpr ⟨lw_p45, List.forall_mem_cons.mpr ⟨lw_p46, List.forall_mem_cons.mpr ⟨lw_p47, fun _ h => absurd h List.not_mem_nil⟩⟩⟩⟩⟩⟩⟩⟩⟩⟩⟩⟩⟩⟩⟩⟩
theorem lw_p48 : lw_okq (⟨"DialSquareModel", "skyNow", "()I"⟩, 37) := ⟨⟨by simp, by simp⟩, w_1092, w_1309, w_1310⟩
theorem lw_p49 : lw_okq (⟨"DialSquareModel", "slipsOf", "(I)I"⟩, 37) := ⟨⟨by simp, by simp⟩, w_1092, w_1316, w_1317⟩
theorem lw_p50 : lw_okq (⟨"DialSquareModel", "shadeAt", "(I)I"⟩, 37) := ⟨⟨by simp, by simp⟩, w_1092, w_1320, w_1321⟩
theorem lw_p51 : lw_okq (⟨"DialSquareModel", "paysOf", "(I)I"⟩, 37) := ⟨⟨by simp, by simp⟩, w_1092, w_1327, w_1328⟩
theorem lw_p52 : lw_okq (⟨"DialSquareModel", "maySet", "(I)Z"⟩, 37) := ⟨⟨by simp, by simp⟩, w_1092, w_1331, w_1332⟩
theorem lw_p53 : lw_okq (⟨"DialSquareModel", "willOf", "(I)I"⟩, 37) := ⟨⟨by simp, by simp⟩, w_1092, w_1335, w_1336⟩
theorem lw_p54 : lw_okq (⟨"DialSquareModel", "ruleOf", "(II)I"⟩, 37) := ⟨⟨by simp, by simp⟩, w_1092, w_1339, w_1340⟩
theorem lw_p55 : lw_okq (⟨"DialSquareModel", "holdsFor", "(II)Z"⟩, 37) := ⟨⟨by simp, by simp⟩, w_1092, w_1349, w_1350⟩
theorem lw_p56 : lw_okq (⟨"DialSquareModel", "knownOf", "(II)I"⟩, 37) := ⟨⟨by simp, by simp⟩, w_1092, w_1353, w_1354⟩
theorem lw_p57 : lw_okq (⟨"DialSquareModel", "becomes", "(II)I"⟩, 37) := ⟨⟨by simp, by simp⟩, w_1092, w_1364, w_1365⟩
theorem lw_p58 : lw_okq (⟨"DialSquareModel", "isOver", "()Z"⟩, 37) := ⟨⟨by simp, by simp⟩, w_1092, w_1396, w_1397⟩
theorem lw_p59 : lw_okq (⟨"DialSquareModel", "those", "(I)I"⟩, 37) := ⟨⟨by simp, by simp⟩, w_1092, w_1400, w_1401⟩
theorem lw_p60 : lw_okq (⟨"DialSquareModel", "pairsNow", "()I"⟩, 37) := ⟨⟨by simp, by simp⟩, w_1092, w_1404, w_1405⟩
theorem lw_p61 : lw_okq (⟨"DialSquareModel", "doAgree", "(II)Z"⟩, 37) := ⟨⟨by simp, by simp⟩, w_1092, w_1408, w_1409⟩
theorem lw_p62 : lw_okq (⟨"DialSquareModel", "goesBy", "(I)I"⟩, 37) := ⟨⟨by simp, by simp⟩, w_1092, w_1419, w_1420⟩
theorem lw_p63 : lw_okq (⟨"DialSquareModel", "restOne", "()I"⟩, 37) := ⟨⟨by simp, by simp⟩, w_1092, w_1423, w_1424⟩
def lw_privs_4 : List (MethodName × Nat) := [(⟨"DialSquareModel", "skyNow", "()I"⟩, 37), (⟨"DialSquareModel", "slipsOf", "(I)I"⟩, 37), (⟨"DialSquareModel", "shadeAt", "(I)I"⟩, 37), (⟨"DialSquareModel", "paysOf", "(I)I"⟩, 37), (⟨"DialSquareModel", "maySet", "(I)Z"⟩, 37), (⟨"DialSquareModel", "willOf", "(I)I"⟩, 37), (⟨"DialSquareModel", "ruleOf", "(II)I"⟩, 37), (⟨"DialSquareModel", "holdsFor", "(II)Z"⟩, 37), (⟨"DialSquareModel", "knownOf", "(II)I"⟩, 37), (⟨"DialSquareModel", "becomes", "(II)I"⟩, 37), (⟨"DialSquareModel", "isOver", "()Z"⟩, 37), (⟨"DialSquareModel", "those", "(I)I"⟩, 37), (⟨"DialSquareModel", "pairsNow", "()I"⟩, 37), (⟨"DialSquareModel", "doAgree", "(II)Z"⟩, 37), (⟨"DialSquareModel", "goesBy", "(I)I"⟩, 37), (⟨"DialSquareModel", "restOne", "()I"⟩, 37)]
theorem lw_r4 : ∀ q ∈ lw_privs_4, lw_okq q := List.forall_mem_cons.mpr ⟨lw_p48, List.forall_mem_cons.mpr ⟨lw_p49, List.forall_mem_cons.mpr ⟨lw_p50, List.forall_mem_cons.mpr ⟨lw_p51, List.forall_mem_cons.mpr ⟨lw_p52, List.forall_mem_cons.mpr ⟨lw_p53, List.forall_mem_cons.mpr ⟨lw_p54, List.forall_mem_cons.mpr ⟨lw_p55, List.forall_mem_cons.mpr ⟨lw_p56, List.forall_mem_cons.mpr ⟨lw_p57, List.forall_mem_cons.mpr ⟨lw_p58, List.forall_mem_cons.mpr ⟨lw_p59, List.forall_mem_cons.mpr ⟨lw_p60, List.forall_mem_cons.mpr ⟨lw_p61, List.forall_mem_cons.mpr ⟨lw_p62, List.forall_mem_cons.mpr ⟨lw_p63, fun _ h => absurd h List.not_mem_nil⟩⟩⟩⟩⟩⟩⟩⟩⟩⟩⟩⟩⟩⟩⟩⟩
theorem lw_p64 : lw_okq (⟨"DialSquareModel", "meets", "(I)I"⟩, 37) := ⟨⟨by simp, by simp⟩, w_1092, w_1427, w_1428⟩
theorem lw_p65 : lw_okq (⟨"DialSquareModel", "setsRight", "(I)I"⟩, 37) := ⟨⟨by simp, by simp⟩, w_1092, w_1431, w_1432⟩
theorem lw_p66 : lw_okq (⟨"DialSquareModel", "argues", "(I)I"⟩, 37) := ⟨⟨by simp, by simp⟩, w_1092, w_1435, w_1436⟩
theorem lw_p67 : lw_okq (⟨"DialSquareModel", "layDown", "()V"⟩, 37) := ⟨⟨by simp, by simp⟩, w_1092, w_1446, w_1447⟩
theorem lw_p68 : lw_okq (⟨"DialSquareModel", "restOf", "(I)I"⟩, 37) := ⟨⟨by simp, by simp⟩, w_1092, w_1450, w_1451⟩
theorem lw_p69 : lw_okq (⟨"DialSquareModel", "layBack", "()V"⟩, 37) := ⟨⟨by simp, by simp⟩, w_1092, w_1454, w_1455⟩
theorem lw_p70 : lw_okq (⟨"DialSquareModel", "bestFor", "(III)I"⟩, 37) := ⟨⟨by simp, by simp⟩, w_1092, w_1466, w_1467⟩
theorem lw_p71 : lw_okq (⟨"DialSquareModel", "knotOf", "(I)I"⟩, 37) := ⟨⟨by simp, by simp⟩, w_1092, w_1486, w_1487⟩
theorem lw_p72 : lw_okq (⟨"DialSquareModel", "areClose", "(II)Z"⟩, 37) := ⟨⟨by simp, by simp⟩, w_1092, w_1490, w_1491⟩
theorem lw_p73 : lw_okq (⟨"DialSquareModel", "triesAll", "(II)V"⟩, 37) := ⟨⟨by simp, by simp⟩, w_1092, w_1505, w_1506⟩
theorem lw_p74 : lw_okq (⟨"DialSquareModel", "daysOf", "(I)I"⟩, 37) := ⟨⟨by simp, by simp⟩, w_1092, w_1509, w_1510⟩
theorem lw_p75 : lw_okq (⟨"DialSquareModel", "goesPlans", "(IIIII)V"⟩, 37) := ⟨⟨by simp, by simp⟩, w_1092, w_1513, w_1514⟩
theorem lw_p76 : lw_okq (⟨"DialSquareModel", "endsPlan", "(IIII)V"⟩, 37) := ⟨⟨by simp, by simp⟩, w_1092, w_1517, w_1518⟩
theorem lw_p77 : lw_okq (⟨"DialSquareModel", "saves", "(I)V"⟩, 37) := ⟨⟨by simp, by simp⟩, w_1092, w_1521, w_1522⟩
theorem lw_p78 : lw_okq (⟨"DialSquareModel", "restores", "(I)V"⟩, 37) := ⟨⟨by simp, by simp⟩, w_1092, w_1525, w_1526⟩
theorem lw_p79 : lw_okq (⟨"DialSquareModel", "isSet", "(I)Z"⟩, 37) := ⟨⟨by simp, by simp⟩, w_1092, w_1541, w_1542⟩
def lw_privs_5 : List (MethodName × Nat) := [(⟨"DialSquareModel", "meets", "(I)I"⟩, 37), (⟨"DialSquareModel", "setsRight", "(I)I"⟩, 37), (⟨"DialSquareModel", "argues", "(I)I"⟩, 37), (⟨"DialSquareModel", "layDown", "()V"⟩, 37), (⟨"DialSquareModel", "restOf", "(I)I"⟩, 37), (⟨"DialSquareModel", "layBack", "()V"⟩, 37), (⟨"DialSquareModel", "bestFor", "(III)I"⟩, 37), (⟨"DialSquareModel", "knotOf", "(I)I"⟩, 37), (⟨"DialSquareModel", "areClose", "(II)Z"⟩, 37), (⟨"DialSquareModel", "triesAll", "(II)V"⟩, 37), (⟨"DialSquareModel", "daysOf", "(I)I"⟩, 37), (⟨"DialSquareModel", "goesPlans", "(IIIII)V"⟩, 37), (⟨"DialSquareModel", "endsPlan", "(IIII)V"⟩, 37), (⟨"DialSquareModel", "saves", "(I)V"⟩, 37), (⟨"DialSquareModel", "restores", "(I)V"⟩, 37), (⟨"DialSquareModel", "isSet", "(I)Z"⟩, 37)]
theorem lw_r5 : ∀ q ∈ lw_privs_5, lw_okq q := List.forall_mem_cons.mpr ⟨lw_p64, List.forall_mem_cons.mpr ⟨lw_p65, List.forall_mem_cons.mpr ⟨lw_p66, List.forall_mem_cons.mpr ⟨lw_p67, List.forall_mem_cons.mpr ⟨lw_p68, List.forall_mem_cons.mpr ⟨lw_p69, List.forall_mem_cons.mpr ⟨lw_p70, List.forall_mem_cons.mpr ⟨lw_p71, List.forall_mem_cons.mpr ⟨lw_p72, List.forall_mem_cons.mpr ⟨lw_p73, List.forall_mem_cons.mpr ⟨lw_p74, List.forall_mem_cons.mpr ⟨lw_p75, List.forall_mem_cons.mpr ⟨lw_p76, List.forall_mem_cons.mpr ⟨lw_p77, List.forall_mem_cons.mpr ⟨lw_p78, List.forall_mem_cons.mpr ⟨lw_p79, fun _ h => absurd h List.not_mem_nil⟩⟩⟩⟩⟩⟩⟩⟩⟩⟩⟩⟩⟩⟩⟩⟩
theorem lw_p80 : lw_okq (⟨"DialSquareModel", "playedFrom", "(II)I"⟩, 37) := ⟨⟨by simp, by simp⟩, w_1092, w_1553, w_1554⟩
theorem lw_p81 : lw_okq (⟨"DialSquareModel", "fitting", "(I)I"⟩, 37) := ⟨⟨by simp, by simp⟩, w_1092, w_1573, w_1574⟩
theorem lw_p82 : lw_okq (⟨"DialSquareModel", "tellsLone", "(III)V"⟩, 37) := ⟨⟨by simp, by simp⟩, w_1092, w_1577, w_1578⟩
theorem lw_p83 : lw_okq (⟨"DialSquareModel", "isSo", "(I)Z"⟩, 37) := ⟨⟨by simp, by simp⟩, w_1092, w_1581, w_1582⟩
theorem lw_p84 : lw_okq (⟨"DialSquareModel", "byLot", "()I"⟩, 37) := ⟨⟨by simp, by simp⟩, w_1092, w_1597, w_1598⟩
theorem lw_p85 : lw_okq (⟨"DialSquareModel", "isRow", "(II)Z"⟩, 37) := ⟨⟨by simp, by simp⟩, w_1092, w_1614, w_1615⟩
theorem lw_p86 : lw_okq (⟨"DialSquareModel", "isAct", "(I)Z"⟩, 37) := ⟨⟨by simp, by simp⟩, w_1092, w_1626, w_1627⟩
theorem lw_p87 : lw_okq (⟨"DialSquareModel", "lacks", "(II)I"⟩, 37) := ⟨⟨by simp, by simp⟩, w_1092, w_1648, w_1649⟩
theorem lw_p88 : lw_okq (⟨"DialSquareModel", "isItem", "(III)Z"⟩, 37) := ⟨⟨by simp, by simp⟩, w_1092, w_1656, w_1657⟩
theorem lw_p89 : lw_okq (⟨"DialSquareModel", "heldOn", "(I)I"⟩, 37) := ⟨⟨by simp, by simp⟩, w_1092, w_1672, w_1673⟩
theorem lw_p90 : lw_okq (⟨"DialSquareModel", "pointsAs", "(II)I"⟩, 37) := ⟨⟨by simp, by simp⟩, w_1092, w_1680, w_1681⟩
theorem lw_p91 : lw_okq (⟨"DialSquareModel", "starts", "(I)V"⟩, 37) := ⟨⟨by simp, by simp⟩, w_1092, w_1684, w_1685⟩
theorem lw_p92 : lw_okq (⟨"DialSquareModel", "slantsAs", "(II)I"⟩, 37) := ⟨⟨by simp, by simp⟩, w_1092, w_1688, w_1689⟩
theorem lw_p93 : lw_okq (⟨"DialSquareModel", "sharesAs", "(II)I"⟩, 37) := ⟨⟨by simp, by simp⟩, w_1092, w_1692, w_1693⟩
theorem lw_p94 : lw_okq (⟨"DialSquareModel", "tellsAs", "(II)I"⟩, 37) := ⟨⟨by simp, by simp⟩, w_1092, w_1696, w_1697⟩
def lw_privs_6 : List (MethodName × Nat) := [(⟨"DialSquareModel", "playedFrom", "(II)I"⟩, 37), (⟨"DialSquareModel", "fitting", "(I)I"⟩, 37), (⟨"DialSquareModel", "tellsLone", "(III)V"⟩, 37), (⟨"DialSquareModel", "isSo", "(I)Z"⟩, 37), (⟨"DialSquareModel", "byLot", "()I"⟩, 37), (⟨"DialSquareModel", "isRow", "(II)Z"⟩, 37), (⟨"DialSquareModel", "isAct", "(I)Z"⟩, 37), (⟨"DialSquareModel", "lacks", "(II)I"⟩, 37), (⟨"DialSquareModel", "isItem", "(III)Z"⟩, 37), (⟨"DialSquareModel", "heldOn", "(I)I"⟩, 37), (⟨"DialSquareModel", "pointsAs", "(II)I"⟩, 37), (⟨"DialSquareModel", "starts", "(I)V"⟩, 37), (⟨"DialSquareModel", "slantsAs", "(II)I"⟩, 37), (⟨"DialSquareModel", "sharesAs", "(II)I"⟩, 37), (⟨"DialSquareModel", "tellsAs", "(II)I"⟩, 37)]
theorem lw_r6 : ∀ q ∈ lw_privs_6, lw_okq q := List.forall_mem_cons.mpr ⟨lw_p80, List.forall_mem_cons.mpr ⟨lw_p81, List.forall_mem_cons.mpr ⟨lw_p82, List.forall_mem_cons.mpr ⟨lw_p83, List.forall_mem_cons.mpr ⟨lw_p84, List.forall_mem_cons.mpr ⟨lw_p85, List.forall_mem_cons.mpr ⟨lw_p86, List.forall_mem_cons.mpr ⟨lw_p87, List.forall_mem_cons.mpr ⟨lw_p88, List.forall_mem_cons.mpr ⟨lw_p89, List.forall_mem_cons.mpr ⟨lw_p90, List.forall_mem_cons.mpr ⟨lw_p91, List.forall_mem_cons.mpr ⟨lw_p92, List.forall_mem_cons.mpr ⟨lw_p93, List.forall_mem_cons.mpr ⟨lw_p94, fun _ h => absurd h List.not_mem_nil⟩⟩⟩⟩⟩⟩⟩⟩⟩⟩⟩⟩⟩⟩⟩
def lw_privs : List (MethodName × Nat) := lw_privs_1 ++ (lw_privs_2 ++ (lw_privs_3 ++ (lw_privs_4 ++ (lw_privs_5 ++ (lw_privs_6)))))
def lw_tbl : List Cond := k2_sels lw_privs ++ tables_1
theorem lw_privs_ok : ∀ q ∈ lw_privs, lw_okq q := by
  show ∀ q ∈ lw_privs_1 ++ (lw_privs_2 ++ (lw_privs_3 ++ (lw_privs_4 ++ (lw_privs_5 ++ (lw_privs_6))))), lw_okq q
  exact List.forall_mem_append.mpr ⟨lw_r1, List.forall_mem_append.mpr ⟨lw_r2, List.forall_mem_append.mpr ⟨lw_r3, List.forall_mem_append.mpr ⟨lw_r4, List.forall_mem_append.mpr ⟨lw_r5, lw_r6⟩⟩⟩⟩⟩
def RX0 : String := "DialSquare$Dial"
def TX0 : u_T := fun k => match k with
  | _ => ("", "", "", false)
def tyX0 : Nat → FieldType := fun k => match k with
  | _ => .int
abbrev wsX00 : List Cond := u_ws RX0 TX0 0
theorem nmX0 : ∀ a, a < 0 → ∀ b, b < 0 → a ≠ b → (TX0 a).2.1 ≠ (TX0 b).2.1 := by decide +kernel
theorem tyX0_ok : ∀ k, k < 0 → parseFieldDescriptor (TX0 k).2.2.1 = some (tyX0 k) := by decide +kernel
abbrev cX0_init : ByteArray := prog_2_method_1_code
def yX0_init : MethodName := ⟨RX0, "<init>", "()V"⟩
abbrev cX0_shades : ByteArray := prog_2_method_2_code
def yX0_shades : MethodName := ⟨RX0, "shades", "(II)I"⟩
abbrev cX0_slips : ByteArray := prog_2_method_3_code
def yX0_slips : MethodName := ⟨RX0, "slips", "(II)I"⟩
abbrev cX0_points : ByteArray := prog_2_method_4_code
def yX0_points : MethodName := ⟨RX0, "points", "(LDialSquare$Host;I)I"⟩
abbrev cX0_slants : ByteArray := prog_2_method_5_code
def yX0_slants : MethodName := ⟨RX0, "slants", "(LDialSquare$Host;I)I"⟩
abbrev cX0_shares : ByteArray := prog_2_method_6_code
def yX0_shares : MethodName := ⟨RX0, "shares", "(LDialSquare$Host;I)I"⟩
abbrev cX0_tells : ByteArray := prog_2_method_7_code
def yX0_tells : MethodName := ⟨RX0, "tells", "(LDialSquare$Host;I)I"⟩
def RX1 : String := "DialSquare$Guild"
def TX1 : u_T := fun k => match k with
  | _ => ("", "", "", false)
def tyX1 : Nat → FieldType := fun k => match k with
  | _ => .int
abbrev wsX10 : List Cond := u_ws RX1 TX1 0
theorem nmX1 : ∀ a, a < 0 → ∀ b, b < 0 → a ≠ b → (TX1 a).2.1 ≠ (TX1 b).2.1 := by decide +kernel
theorem tyX1_ok : ∀ k, k < 0 → parseFieldDescriptor (TX1 k).2.2.1 = some (tyX1 k) := by decide +kernel
abbrev cX1_init : ByteArray := prog_3_method_1_code
def yX1_init : MethodName := ⟨RX1, "<init>", "()V"⟩
abbrev cX1_shades : ByteArray := prog_3_method_2_code
def yX1_shades : MethodName := ⟨RX1, "shades", "(II)I"⟩
abbrev cX1_slips : ByteArray := prog_3_method_3_code
def yX1_slips : MethodName := ⟨RX1, "slips", "(II)I"⟩
abbrev cX1_points : ByteArray := prog_3_method_4_code
def yX1_points : MethodName := ⟨RX1, "points", "(LDialSquare$Host;I)I"⟩
abbrev cX1_tells : ByteArray := prog_3_method_5_code
def yX1_tells : MethodName := ⟨RX1, "tells", "(LDialSquare$Host;I)I"⟩
def RX2 : String := "DialSquare$Host"
def TX2 : u_T := fun k => match k with
  | 0 => ("DialSquare$Host", "sorts", "[I", true)
  | 1 => ("DialSquare$Host", "lengths", "[I", true)
  | 2 => ("DialSquare$Host", "items", "[[I", true)
  | 3 => ("DialSquare$Host", "held", "[I", true)
  | 4 => ("DialSquare$Host", "things", "[I", true)
  | 5 => ("DialSquare$Host", "sizes", "[I", true)
  | 6 => ("DialSquare$Host", "bodies", "[I", true)
  | 7 => ("DialSquare$Host", "traced", "I", false)
  | 8 => ("DialSquare$Host", "number", "I", false)
  | 9 => ("DialSquare$Host", "spot", "I", false)
  | _ => ("DialSquare$Host", "parted", "Z", false)
def tyX2 : Nat → FieldType := fun k => match k with
  | 0 => .array .int
  | 1 => .array .int
  | 2 => .array (.array .int)
  | 3 => .array .int
  | 4 => .array .int
  | 5 => .array .int
  | 6 => .array .int
  | 7 => .int
  | 8 => .int
  | 9 => .int
  | _ => .boolean
abbrev wsX20 : List Cond := u_ws RX2 TX2 11
theorem nmX2 : ∀ a, a < 11 → ∀ b, b < 11 → a ≠ b → (TX2 a).2.1 ≠ (TX2 b).2.1 := by decide +kernel
theorem tyX2_ok : ∀ k, k < 11 → parseFieldDescriptor (TX2 k).2.2.1 = some (tyX2 k) := by decide +kernel
abbrev cX2_init : ByteArray := prog_4_method_1_code
def yX2_init : MethodName := ⟨RX2, "<init>", "()V"⟩
abbrev cX2_makeSheet : ByteArray := prog_4_method_2_code
def yX2_makeSheet : MethodName := ⟨RX2, "makeSheet", "(III)I"⟩
abbrev cX2_hasItem : ByteArray := prog_4_method_3_code
def yX2_hasItem : MethodName := ⟨RX2, "hasItem", "(II)Z"⟩
abbrev cX2_refusalAs : ByteArray := prog_4_method_4_code
def yX2_refusalAs : MethodName := ⟨RX2, "refusalAs", "(II)I"⟩
abbrev cX2_fillShelf : ByteArray := prog_4_method_5_code
def yX2_fillShelf : MethodName := ⟨RX2, "fillShelf", "(III)V"⟩
abbrev cX2_clearTrace : ByteArray := prog_4_method_6_code
def yX2_clearTrace : MethodName := ⟨RX2, "clearTrace", "()V"⟩
abbrev cX2_begin : ByteArray := prog_4_method_7_code
def yX2_begin : MethodName := ⟨RX2, "begin", "(I)V"⟩
def RX3 : String := "DialSquare$Low"
def TX3 : u_T := fun k => match k with
  | _ => ("", "", "", false)
def tyX3 : Nat → FieldType := fun k => match k with
  | _ => .int
abbrev wsX30 : List Cond := u_ws RX3 TX3 0
theorem nmX3 : ∀ a, a < 0 → ∀ b, b < 0 → a ≠ b → (TX3 a).2.1 ≠ (TX3 b).2.1 := by decide +kernel
theorem tyX3_ok : ∀ k, k < 0 → parseFieldDescriptor (TX3 k).2.2.1 = some (tyX3 k) := by decide +kernel
abbrev cX3_init : ByteArray := prog_5_method_1_code
def yX3_init : MethodName := ⟨RX3, "<init>", "()V"⟩
abbrev cX3_shades : ByteArray := prog_5_method_2_code
def yX3_shades : MethodName := ⟨RX3, "shades", "(II)I"⟩
abbrev cX3_slips : ByteArray := prog_5_method_3_code
def yX3_slips : MethodName := ⟨RX3, "slips", "(II)I"⟩
abbrev cX3_shares : ByteArray := prog_5_method_4_code
def yX3_shares : MethodName := ⟨RX3, "shares", "(LDialSquare$Host;I)I"⟩
def RX4 : String := "DialSquare$Noon"
def TX4 : u_T := fun k => match k with
  | _ => ("", "", "", false)
def tyX4 : Nat → FieldType := fun k => match k with
  | _ => .int
abbrev wsX40 : List Cond := u_ws RX4 TX4 0
theorem nmX4 : ∀ a, a < 0 → ∀ b, b < 0 → a ≠ b → (TX4 a).2.1 ≠ (TX4 b).2.1 := by decide +kernel
theorem tyX4_ok : ∀ k, k < 0 → parseFieldDescriptor (TX4 k).2.2.1 = some (tyX4 k) := by decide +kernel
abbrev cX4_init : ByteArray := prog_6_method_1_code
def yX4_init : MethodName := ⟨RX4, "<init>", "()V"⟩
abbrev cX4_shades : ByteArray := prog_6_method_2_code
def yX4_shades : MethodName := ⟨RX4, "shades", "(II)I"⟩
abbrev cX4_slips : ByteArray := prog_6_method_3_code
def yX4_slips : MethodName := ⟨RX4, "slips", "(II)I"⟩
abbrev cX4_points : ByteArray := prog_6_method_4_code
def yX4_points : MethodName := ⟨RX4, "points", "(LDialSquare$Host;I)I"⟩
def RX5 : String := "DialSquare$Plans"
def TX5 : u_T := fun k => match k with
  | 0 => ("DialSquare$Plans", "first", "[I", true)
  | 1 => ("DialSquare$Plans", "steps", "I", false)
  | 2 => ("DialSquare$Plans", "most", "I", false)
  | 3 => ("DialSquare$Plans", "many", "I", false)
  | 4 => ("DialSquare$Plans", "fewest", "I", false)
  | 5 => ("DialSquare$Plans", "everRight", "I", false)
  | 6 => ("DialSquare$Plans", "opening", "I", false)
  | 7 => ("DialSquare$Plans", "rows", "[[I", true)
  | 8 => ("DialSquare$Plans", "rowCount", "I", false)
  | 9 => ("DialSquare$Plans", "trial", "LDialSquare$Square;", true)
  | 10 => ("DialSquare$Plans", "acts", "[I", true)
  | 11 => ("DialSquare$Plans", "marks", "[[I", true)
  | 12 => ("DialSquare$Plans", "deepest", "I", false)
  | _ => ("DialSquare$Plans", "wanted", "I", false)
def tyX5 : Nat → FieldType := fun k => match k with
  | 0 => .array .int
  | 1 => .int
  | 2 => .int
  | 3 => .int
  | 4 => .int
  | 5 => .int
  | 6 => .int
  | 7 => .array (.array .int)
  | 8 => .int
  | 9 => .object "DialSquare$Square"
  | 10 => .array .int
  | 11 => .array (.array .int)
  | 12 => .int
  | _ => .int
abbrev wsX50 : List Cond := u_ws RX5 TX5 14
theorem nmX5 : ∀ a, a < 14 → ∀ b, b < 14 → a ≠ b → (TX5 a).2.1 ≠ (TX5 b).2.1 := by decide +kernel
theorem tyX5_ok : ∀ k, k < 14 → parseFieldDescriptor (TX5 k).2.2.1 = some (tyX5 k) := by decide +kernel
abbrev cX5_init : ByteArray := prog_7_method_1_code
def yX5_init : MethodName := ⟨RX5, "<init>", "(LDialSquare$Square;)V"⟩
abbrev cX5_look : ByteArray := prog_7_method_2_code
def yX5_look : MethodName := ⟨RX5, "look", "(LDialSquare$Square;II)V"⟩
abbrev cX5_explore : ByteArray := prog_7_method_3_code
def yX5_explore : MethodName := ⟨RX5, "explore", "(III)V"⟩
abbrev cX5_weigh : ByteArray := prog_7_method_4_code
def yX5_weigh : MethodName := ⟨RX5, "weigh", "(III)V"⟩
abbrev cX5_valueOf : ByteArray := prog_7_method_5_code
def yX5_valueOf : MethodName := ⟨RX5, "valueOf", "(LDialSquare$Square;I)I"⟩
abbrev cX5_valueFrom : ByteArray := prog_7_method_6_code
def yX5_valueFrom : MethodName := ⟨RX5, "valueFrom", "(I)I"⟩
abbrev cX5_hasRow : ByteArray := prog_7_method_7_code
def yX5_hasRow : MethodName := ⟨RX5, "hasRow", "(II)Z"⟩
abbrev cX5_writeRows : ByteArray := prog_7_method_8_code
def yX5_writeRows : MethodName := ⟨RX5, "writeRows", "(LDialSquare$Square;)I"⟩
abbrev cX5_readRows : ByteArray := prog_7_method_9_code
def yX5_readRows : MethodName := ⟨RX5, "readRows", "(LDialSquare$Square;)I"⟩
def RX6 : String := "DialSquare$RuleText"
def TX6 : u_T := fun k => match k with
  | 0 => ("DialSquare$RuleText", "length", "I", false)
  | 1 => ("DialSquare$RuleText", "tape", "[B", true)
  | 2 => ("DialSquare$RuleText", "words", "[I", true)
  | 3 => ("DialSquare$RuleText", "places", "[I", true)
  | 4 => ("DialSquare$RuleText", "at", "I", false)
  | 5 => ("DialSquare$RuleText", "kinds", "[I", true)
  | 6 => ("DialSquare$RuleText", "wills", "[I", true)
  | 7 => ("DialSquare$RuleText", "starts", "[I", true)
  | 8 => ("DialSquare$RuleText", "code", "[I", true)
  | 9 => ("DialSquare$RuleText", "count", "I", false)
  | _ => ("DialSquare$RuleText", "size", "I", false)
def tyX6 : Nat → FieldType := fun k => match k with
  | 0 => .int
  | 1 => .array .byte
  | 2 => .array .int
  | 3 => .array .int
  | 4 => .int
  | 5 => .array .int
  | 6 => .array .int
  | 7 => .array .int
  | 8 => .array .int
  | 9 => .int
  | _ => .int
abbrev wsX60 : List Cond := u_ws RX6 TX6 11
theorem nmX6 : ∀ a, a < 11 → ∀ b, b < 11 → a ≠ b → (TX6 a).2.1 ≠ (TX6 b).2.1 := by decide +kernel
theorem tyX6_ok : ∀ k, k < 11 → parseFieldDescriptor (TX6 k).2.2.1 = some (tyX6 k) := by decide +kernel
abbrev cX6_init : ByteArray := prog_8_method_1_code
def yX6_init : MethodName := ⟨RX6, "<init>", "()V"⟩
abbrev cX6_append : ByteArray := prog_8_method_2_code
def yX6_append : MethodName := ⟨RX6, "append", "(JI)I"⟩
abbrev cX6_read : ByteArray := prog_8_method_3_code
def yX6_read : MethodName := ⟨RX6, "read", "()Z"⟩
abbrev cX6_fault : ByteArray := prog_8_method_4_code
def yX6_fault : MethodName := ⟨RX6, "fault", "()I"⟩
abbrev cX6_told : ByteArray := prog_8_method_5_code
def yX6_told : MethodName := ⟨RX6, "told", "()LDialSquare$Rules;"⟩
abbrev cX6_cutWords : ByteArray := prog_8_method_6_code
def yX6_cutWords : MethodName := ⟨RX6, "cutWords", "()V"⟩
abbrev cX6_endOfRow : ByteArray := prog_8_method_7_code
def yX6_endOfRow : MethodName := ⟨RX6, "endOfRow", "(I)I"⟩
abbrev cX6_sortOf : ByteArray := prog_8_method_8_code
def yX6_sortOf : MethodName := ⟨RX6, "sortOf", "(I)I"⟩
abbrev cX6_numberOf : ByteArray := prog_8_method_9_code
def yX6_numberOf : MethodName := ⟨RX6, "numberOf", "(II)I"⟩
abbrev cX6_wordOf : ByteArray := prog_8_method_10_code
def yX6_wordOf : MethodName := ⟨RX6, "wordOf", "(II)I"⟩
abbrev cX6_isWord : ByteArray := prog_8_method_11_code
def yX6_isWord : MethodName := ⟨RX6, "isWord", "(III)Z"⟩
abbrev cX6_readRule : ByteArray := prog_8_method_12_code
def yX6_readRule : MethodName := ⟨RX6, "readRule", "(I)Z"⟩
abbrev cX6_readCondition : ByteArray := prog_8_method_13_code
def yX6_readCondition : MethodName := ⟨RX6, "readCondition", "(I)Z"⟩
abbrev cX6_readAll : ByteArray := prog_8_method_14_code
def yX6_readAll : MethodName := ⟨RX6, "readAll", "(I)Z"⟩
abbrev cX6_readOne : ByteArray := prog_8_method_15_code
def yX6_readOne : MethodName := ⟨RX6, "readOne", "(I)Z"⟩
abbrev cX6_readOpened : ByteArray := prog_8_method_16_code
def yX6_readOpened : MethodName := ⟨RX6, "readOpened", "(I)Z"⟩
abbrev cX6_readCompared : ByteArray := prog_8_method_17_code
def yX6_readCompared : MethodName := ⟨RX6, "readCompared", "()Z"⟩
abbrev cX6_takes : ByteArray := prog_8_method_18_code
def yX6_takes : MethodName := ⟨RX6, "takes", "(I)Z"⟩
abbrev cX6_emit : ByteArray := prog_8_method_19_code
def yX6_emit : MethodName := ⟨RX6, "emit", "(I)V"⟩
def RX7 : String := "DialSquare$Rules"
def TX7 : u_T := fun k => match k with
  | 0 => ("DialSquare$Rules", "count", "I", true)
  | 1 => ("DialSquare$Rules", "kinds", "[I", true)
  | 2 => ("DialSquare$Rules", "wills", "[I", true)
  | 3 => ("DialSquare$Rules", "starts", "[I", true)
  | 4 => ("DialSquare$Rules", "code", "[I", true)
  | _ => ("DialSquare$Rules", "stack", "[I", true)
def tyX7 : Nat → FieldType := fun k => match k with
  | 0 => .int
  | 1 => .array .int
  | 2 => .array .int
  | 3 => .array .int
  | 4 => .array .int
  | _ => .array .int
abbrev wsX70 : List Cond := u_ws RX7 TX7 6
theorem nmX7 : ∀ a, a < 6 → ∀ b, b < 6 → a ≠ b → (TX7 a).2.1 ≠ (TX7 b).2.1 := by decide +kernel
theorem tyX7_ok : ∀ k, k < 6 → parseFieldDescriptor (TX7 k).2.2.1 = some (tyX7 k) := by decide +kernel
abbrev cX7_init : ByteArray := prog_9_method_1_code
def yX7_init : MethodName := ⟨RX7, "<init>", "(I[I[I[I[I)V"⟩
abbrev cX7_tell : ByteArray := prog_9_method_2_code
def yX7_tell : MethodName := ⟨RX7, "tell", "(I[I)I"⟩
abbrev cX7_holds : ByteArray := prog_9_method_3_code
def yX7_holds : MethodName := ⟨RX7, "holds", "(II[I)Z"⟩
def RX8 : String := "DialSquare$Slit"
def TX8 : u_T := fun k => match k with
  | _ => ("", "", "", false)
def tyX8 : Nat → FieldType := fun k => match k with
  | _ => .int
abbrev wsX80 : List Cond := u_ws RX8 TX8 0
theorem nmX8 : ∀ a, a < 0 → ∀ b, b < 0 → a ≠ b → (TX8 a).2.1 ≠ (TX8 b).2.1 := by decide +kernel
theorem tyX8_ok : ∀ k, k < 0 → parseFieldDescriptor (TX8 k).2.2.1 = some (tyX8 k) := by decide +kernel
abbrev cX8_init : ByteArray := prog_10_method_1_code
def yX8_init : MethodName := ⟨RX8, "<init>", "()V"⟩
abbrev cX8_shades : ByteArray := prog_10_method_2_code
def yX8_shades : MethodName := ⟨RX8, "shades", "(II)I"⟩
abbrev cX8_slips : ByteArray := prog_10_method_3_code
def yX8_slips : MethodName := ⟨RX8, "slips", "(II)I"⟩
abbrev cX8_slants : ByteArray := prog_10_method_4_code
def yX8_slants : MethodName := ⟨RX8, "slants", "(LDialSquare$Host;I)I"⟩
abbrev cX8_shares : ByteArray := prog_10_method_5_code
def yX8_shares : MethodName := ⟨RX8, "shares", "(LDialSquare$Host;I)I"⟩
def RX9 : String := "DialSquare$Square"
def TX9 : u_T := fun k => match k with
  | 0 => ("DialSquare$Square", "dials", "[[I", true)
  | 1 => ("DialSquare$Square", "spots", "[[I", true)
  | 2 => ("DialSquare$Square", "skies", "[I", true)
  | 3 => ("DialSquare$Square", "reports", "[[I", true)
  | 4 => ("DialSquare$Square", "count", "I", false)
  | 5 => ("DialSquare$Square", "chime", "I", false)
  | 6 => ("DialSquare$Square", "end", "I", false)
  | 7 => ("DialSquare$Square", "score", "I", false)
  | 8 => ("DialSquare$Square", "reportCount", "I", false)
  | 9 => ("DialSquare$Square", "z", "I", false)
  | 10 => ("DialSquare$Square", "rules", "LDialSquare$Rules;", false)
  | 11 => ("DialSquare$Square", "shades", "[I", true)
  | 12 => ("DialSquare$Square", "facts", "[I", true)
  | _ => ("DialSquare$Square", "kinds", "[LDialSquare$Dial;", true)
def tyX9 : Nat → FieldType := fun k => match k with
  | 0 => .array (.array .int)
  | 1 => .array (.array .int)
  | 2 => .array .int
  | 3 => .array (.array .int)
  | 4 => .int
  | 5 => .int
  | 6 => .int
  | 7 => .int
  | 8 => .int
  | 9 => .int
  | 10 => .object "DialSquare$Rules"
  | 11 => .array .int
  | 12 => .array .int
  | _ => .array (.object "DialSquare$Dial")
abbrev wsX90 : List Cond := u_ws RX9 TX9 14
theorem nmX9 : ∀ a, a < 14 → ∀ b, b < 14 → a ≠ b → (TX9 a).2.1 ≠ (TX9 b).2.1 := by decide +kernel
theorem tyX9_ok : ∀ k, k < 14 → parseFieldDescriptor (TX9 k).2.2.1 = some (tyX9 k) := by decide +kernel
abbrev cX9_init : ByteArray := prog_11_method_1_code
def yX9_init : MethodName := ⟨RX9, "<init>", "([LDialSquare$Dial;LDialSquare$Rules;)V"⟩
abbrev cX9_copyFrom : ByteArray := prog_11_method_2_code
def yX9_copyFrom : MethodName := ⟨RX9, "copyFrom", "(LDialSquare$Square;)V"⟩
abbrev cX9_mark : ByteArray := prog_11_method_3_code
def yX9_mark : MethodName := ⟨RX9, "mark", "([I)V"⟩
abbrev cX9_back : ByteArray := prog_11_method_4_code
def yX9_back : MethodName := ⟨RX9, "back", "([I)V"⟩
abbrev cX9_put : ByteArray := prog_11_method_5_code
def yX9_put : MethodName := ⟨RX9, "put", "(IIII)I"⟩
abbrev cX9_putReport : ByteArray := prog_11_method_6_code
def yX9_putReport : MethodName := ⟨RX9, "putReport", "(IIII)I"⟩
abbrev cX9_has : ByteArray := prog_11_method_7_code
def yX9_has : MethodName := ⟨RX9, "has", "(I)Z"⟩
abbrev cX9_isAct : ByteArray := prog_11_method_8_code
def yX9_isAct : MethodName := ⟨RX9, "isAct", "(I)Z"⟩
abbrev cX9_isRight : ByteArray := prog_11_method_9_code
def yX9_isRight : MethodName := ⟨RX9, "isRight", "(I)Z"⟩
abbrev cX9_isOver : ByteArray := prog_11_method_10_code
def yX9_isOver : MethodName := ⟨RX9, "isOver", "()Z"⟩
abbrev cX9_kindOf : ByteArray := prog_11_method_11_code
def yX9_kindOf : MethodName := ⟨RX9, "kindOf", "(I)LDialSquare$Dial;"⟩
abbrev cX9_skyAt : ByteArray := prog_11_method_12_code
def yX9_skyAt : MethodName := ⟨RX9, "skyAt", "(I)I"⟩
abbrev cX9_rightSet : ByteArray := prog_11_method_13_code
def yX9_rightSet : MethodName := ⟨RX9, "rightSet", "()I"⟩
abbrev cX9_shadesOf : ByteArray := prog_11_method_14_code
def yX9_shadesOf : MethodName := ⟨RX9, "shadesOf", "(I)I"⟩
abbrev cX9_measureShades : ByteArray := prog_11_method_15_code
def yX9_measureShades : MethodName := ⟨RX9, "measureShades", "()V"⟩
abbrev cX9_slipsOf : ByteArray := prog_11_method_16_code
def yX9_slipsOf : MethodName := ⟨RX9, "slipsOf", "(I)I"⟩
abbrev cX9_paysOf : ByteArray := prog_11_method_17_code
def yX9_paysOf : MethodName := ⟨RX9, "paysOf", "(I)I"⟩
abbrev cX9_agree : ByteArray := prog_11_method_18_code
def yX9_agree : MethodName := ⟨RX9, "agree", "(II)Z"⟩
abbrev cX9_pairs : ByteArray := prog_11_method_19_code
def yX9_pairs : MethodName := ⟨RX9, "pairs", "()I"⟩
abbrev cX9_apartFromAll : ByteArray := prog_11_method_20_code
def yX9_apartFromAll : MethodName := ⟨RX9, "apartFromAll", "(I)I"⟩
abbrev cX9_knotOf : ByteArray := prog_11_method_21_code
def yX9_knotOf : MethodName := ⟨RX9, "knotOf", "(I)I"⟩
abbrev cX9_closeTo : ByteArray := prog_11_method_22_code
def yX9_closeTo : MethodName := ⟨RX9, "closeTo", "(I)I"⟩
abbrev cX9_willOf : ByteArray := prog_11_method_23_code
def yX9_willOf : MethodName := ⟨RX9, "willOf", "(I)I"⟩
abbrev cX9_mayBeSet : ByteArray := prog_11_method_24_code
def yX9_mayBeSet : MethodName := ⟨RX9, "mayBeSet", "(I)Z"⟩
abbrev cX9_goBy : ByteArray := prog_11_method_25_code
def yX9_goBy : MethodName := ⟨RX9, "goBy", "(I)I"⟩
abbrev cX9_setRight : ByteArray := prog_11_method_26_code
def yX9_setRight : MethodName := ⟨RX9, "setRight", "(I)I"⟩
abbrev cX9_arguedBy : ByteArray := prog_11_method_27_code
def yX9_arguedBy : MethodName := ⟨RX9, "arguedBy", "(I)I"⟩
abbrev cX9_slipAll : ByteArray := prog_11_method_28_code
def yX9_slipAll : MethodName := ⟨RX9, "slipAll", "()V"⟩
abbrev cX9_restAct : ByteArray := prog_11_method_29_code
def yX9_restAct : MethodName := ⟨RX9, "restAct", "()I"⟩
abbrev cX9_rest : ByteArray := prog_11_method_30_code
def yX9_rest : MethodName := ⟨RX9, "rest", "(I)I"⟩
abbrev cX9_byLot : ByteArray := prog_11_method_31_code
def yX9_byLot : MethodName := ⟨RX9, "byLot", "(I)I"⟩
abbrev cX9_missedBy : ByteArray := prog_11_method_32_code
def yX9_missedBy : MethodName := ⟨RX9, "missedBy", "(III)I"⟩
abbrev cX9_missedBehind : ByteArray := prog_11_method_33_code
def yX9_missedBehind : MethodName := ⟨RX9, "missedBehind", "(III)I"⟩
def RX10 : String := "DialSquare$Tall"
def TX10 : u_T := fun k => match k with
  | _ => ("", "", "", false)
def tyX10 : Nat → FieldType := fun k => match k with
  | _ => .int
abbrev wsX100 : List Cond := u_ws RX10 TX10 0
theorem nmX10 : ∀ a, a < 0 → ∀ b, b < 0 → a ≠ b → (TX10 a).2.1 ≠ (TX10 b).2.1 := by decide +kernel
theorem tyX10_ok : ∀ k, k < 0 → parseFieldDescriptor (TX10 k).2.2.1 = some (tyX10 k) := by decide +kernel
abbrev cX10_init : ByteArray := prog_12_method_1_code
def yX10_init : MethodName := ⟨RX10, "<init>", "()V"⟩
abbrev cX10_shades : ByteArray := prog_12_method_2_code
def yX10_shades : MethodName := ⟨RX10, "shades", "(II)I"⟩
abbrev cX10_slips : ByteArray := prog_12_method_3_code
def yX10_slips : MethodName := ⟨RX10, "slips", "(II)I"⟩
abbrev cX10_slants : ByteArray := prog_12_method_4_code
def yX10_slants : MethodName := ⟨RX10, "slants", "(LDialSquare$Host;I)I"⟩
def RX11 : String := "DialSquare"
def TX11 : u_T := fun k => match k with
  | 0 => ("DialSquare", "now", "LDialSquare$Square;", true)
  | 1 => ("DialSquare", "kept", "LDialSquare$Square;", true)
  | 2 => ("DialSquare", "trial", "LDialSquare$Square;", true)
  | 3 => ("DialSquare", "marks", "[I", true)
  | 4 => ("DialSquare", "plans", "LDialSquare$Plans;", true)
  | 5 => ("DialSquare", "text", "LDialSquare$RuleText;", true)
  | 6 => ("DialSquare", "host", "LDialSquare$Host;", true)
  | _ => ("DialSquare", "isKept", "Z", false)
def tyX11 : Nat → FieldType := fun k => match k with
  | 0 => .object "DialSquare$Square"
  | 1 => .object "DialSquare$Square"
  | 2 => .object "DialSquare$Square"
  | 3 => .array .int
  | 4 => .object "DialSquare$Plans"
  | 5 => .object "DialSquare$RuleText"
  | 6 => .object "DialSquare$Host"
  | _ => .boolean
abbrev wsX110 : List Cond := u_ws RX11 TX11 8
theorem nmX11 : ∀ a, a < 8 → ∀ b, b < 8 → a ≠ b → (TX11 a).2.1 ≠ (TX11 b).2.1 := by decide +kernel
theorem tyX11_ok : ∀ k, k < 8 → parseFieldDescriptor (TX11 k).2.2.1 = some (tyX11 k) := by decide +kernel
abbrev cX11_init : ByteArray := prog_1_method_1_code
def yX11_init : MethodName := ⟨RX11, "<init>", "()V"⟩
abbrev cX11_dial : ByteArray := prog_1_method_2_code
def yX11_dial : MethodName := ⟨RX11, "dial", "(IIII)I"⟩
abbrev cX11_dialOf : ByteArray := prog_1_method_3_code
def yX11_dialOf : MethodName := ⟨RX11, "dialOf", "(II)I"⟩
abbrev cX11_change : ByteArray := prog_1_method_4_code
def yX11_change : MethodName := ⟨RX11, "change", "(III)I"⟩
abbrev cX11_mostOf : ByteArray := prog_1_method_5_code
def yX11_mostOf : MethodName := ⟨RX11, "mostOf", "(I)I"⟩
abbrev cX11_remake : ByteArray := prog_1_method_6_code
def yX11_remake : MethodName := ⟨RX11, "remake", "(II)I"⟩
abbrev cX11_sky : ByteArray := prog_1_method_7_code
def yX11_sky : MethodName := ⟨RX11, "sky", "(II)I"⟩
abbrev cX11_spot : ByteArray := prog_1_method_8_code
def yX11_spot : MethodName := ⟨RX11, "spot", "(III)I"⟩
abbrev cX11_spotOf : ByteArray := prog_1_method_9_code
def yX11_spotOf : MethodName := ⟨RX11, "spotOf", "(II)I"⟩
abbrev cX11_ends : ByteArray := prog_1_method_10_code
def yX11_ends : MethodName := ⟨RX11, "ends", "(I)I"⟩
abbrev cX11_anew : ByteArray := prog_1_method_11_code
def yX11_anew : MethodName := ⟨RX11, "anew", "()I"⟩
abbrev cX11_state : ByteArray := prog_1_method_12_code
def yX11_state : MethodName := ⟨RX11, "state", "(I)I"⟩
abbrev cX11_feed : ByteArray := prog_1_method_13_code
def yX11_feed : MethodName := ⟨RX11, "feed", "(JI)I"⟩
abbrev cX11_rules : ByteArray := prog_1_method_14_code
def yX11_rules : MethodName := ⟨RX11, "rules", "()I"⟩
abbrev cX11_chime : ByteArray := prog_1_method_15_code
def yX11_chime : MethodName := ⟨RX11, "chime", "()I"⟩
abbrev cX11_on : ByteArray := prog_1_method_16_code
def yX11_on : MethodName := ⟨RX11, "on", "(I)I"⟩
abbrev cX11_when : ByteArray := prog_1_method_17_code
def yX11_when : MethodName := ⟨RX11, "when", "(I)I"⟩
abbrev cX11_prideFor : ByteArray := prog_1_method_18_code
def yX11_prideFor : MethodName := ⟨RX11, "prideFor", "(I)I"⟩
abbrev cX11_spotFor : ByteArray := prog_1_method_19_code
def yX11_spotFor : MethodName := ⟨RX11, "spotFor", "(I)I"⟩
abbrev cX11_dearest : ByteArray := prog_1_method_20_code
def yX11_dearest : MethodName := ⟨RX11, "dearest", "(II)I"⟩
abbrev cX11_late : ByteArray := prog_1_method_21_code
def yX11_late : MethodName := ⟨RX11, "late", "(I)I"⟩
abbrev cX11_middle : ByteArray := prog_1_method_22_code
def yX11_middle : MethodName := ⟨RX11, "middle", "()I"⟩
abbrev cX11_knots : ByteArray := prog_1_method_23_code
def yX11_knots : MethodName := ⟨RX11, "knots", "(I)I"⟩
abbrev cX11_countKnots : ByteArray := prog_1_method_24_code
def yX11_countKnots : MethodName := ⟨RX11, "countKnots", "()I"⟩
abbrev cX11_seats : ByteArray := prog_1_method_25_code
def yX11_seats : MethodName := ⟨RX11, "seats", "(II)I"⟩
abbrev cX11_spotsInShade : ByteArray := prog_1_method_26_code
def yX11_spotsInShade : MethodName := ⟨RX11, "spotsInShade", "(I)I"⟩
abbrev cX11_benchesOf : ByteArray := prog_1_method_27_code
def yX11_benchesOf : MethodName := ⟨RX11, "benchesOf", "(I)I"⟩
abbrev cX11_best : ByteArray := prog_1_method_28_code
def yX11_best : MethodName := ⟨RX11, "best", "(I)I"⟩
abbrev cX11_ith : ByteArray := prog_1_method_29_code
def yX11_ith : MethodName := ⟨RX11, "ith", "(II)I"⟩
abbrev cX11_ways : ByteArray := prog_1_method_30_code
def yX11_ways : MethodName := ⟨RX11, "ways", "(I)I"⟩
abbrev cX11_order : ByteArray := prog_1_method_31_code
def yX11_order : MethodName := ⟨RX11, "order", "(II)I"⟩
abbrev cX11_bars : ByteArray := prog_1_method_32_code
def yX11_bars : MethodName := ⟨RX11, "bars", "(II)I"⟩
abbrev cX11_isSetOfDials : ByteArray := prog_1_method_33_code
def yX11_isSetOfDials : MethodName := ⟨RX11, "isSetOfDials", "(I)Z"⟩
abbrev cX11_game : ByteArray := prog_1_method_34_code
def yX11_game : MethodName := ⟨RX11, "game", "(I)I"⟩
abbrev cX11_play : ByteArray := prog_1_method_35_code
def yX11_play : MethodName := ⟨RX11, "play", "(I)I"⟩
abbrev cX11_report : ByteArray := prog_1_method_36_code
def yX11_report : MethodName := ⟨RX11, "report", "(IIII)I"⟩
abbrev cX11_forget : ByteArray := prog_1_method_37_code
def yX11_forget : MethodName := ⟨RX11, "forget", "()I"⟩
abbrev cX11_lone : ByteArray := prog_1_method_38_code
def yX11_lone : MethodName := ⟨RX11, "lone", "(I)I"⟩
abbrev cX11_liar : ByteArray := prog_1_method_39_code
def yX11_liar : MethodName := ⟨RX11, "liar", "()I"⟩
abbrev cX11_partOfStranger : ByteArray := prog_1_method_40_code
def yX11_partOfStranger : MethodName := ⟨RX11, "partOfStranger", "(II)I"⟩
abbrev cX11_missedBy : ByteArray := prog_1_method_41_code
def yX11_missedBy : MethodName := ⟨RX11, "missedBy", "(I)I"⟩
abbrev cX11_seed : ByteArray := prog_1_method_42_code
def yX11_seed : MethodName := ⟨RX11, "seed", "(I)I"⟩
abbrev cX11_lot : ByteArray := prog_1_method_43_code
def yX11_lot : MethodName := ⟨RX11, "lot", "()I"⟩
abbrev cX11_times : ByteArray := prog_1_method_44_code
def yX11_times : MethodName := ⟨RX11, "times", "(II)I"⟩
abbrev cX11_prove : ByteArray := prog_1_method_45_code
def yX11_prove : MethodName := ⟨RX11, "prove", "(I)I"⟩
abbrev cX11_row : ByteArray := prog_1_method_46_code
def yX11_row : MethodName := ⟨RX11, "row", "(II)I"⟩
abbrev cX11_alterRow : ByteArray := prog_1_method_47_code
def yX11_alterRow : MethodName := ⟨RX11, "alterRow", "(III)I"⟩
abbrev cX11_judge : ByteArray := prog_1_method_48_code
def yX11_judge : MethodName := ⟨RX11, "judge", "()I"⟩
abbrev cX11_sheet : ByteArray := prog_1_method_49_code
def yX11_sheet : MethodName := ⟨RX11, "sheet", "(III)I"⟩
abbrev cX11_write : ByteArray := prog_1_method_50_code
def yX11_write : MethodName := ⟨RX11, "write", "(III)I"⟩
abbrev cX11_narrowed : ByteArray := prog_1_method_51_code
def yX11_narrowed : MethodName := ⟨RX11, "narrowed", "(II)I"⟩
abbrev cX11_item : ByteArray := prog_1_method_52_code
def yX11_item : MethodName := ⟨RX11, "item", "(III)I"⟩
abbrev cX11_goAll : ByteArray := prog_1_method_53_code
def yX11_goAll : MethodName := ⟨RX11, "goAll", "(III)I"⟩
abbrev cX11_wouldBe : ByteArray := prog_1_method_54_code
def yX11_wouldBe : MethodName := ⟨RX11, "wouldBe", "(III)I"⟩
abbrev cX11_shelf : ByteArray := prog_1_method_55_code
def yX11_shelf : MethodName := ⟨RX11, "shelf", "(III)I"⟩
abbrev cX11_taken : ByteArray := prog_1_method_56_code
def yX11_taken : MethodName := ⟨RX11, "taken", "(II)I"⟩
abbrev cX11_act : ByteArray := prog_1_method_57_code
def yX11_act : MethodName := ⟨RX11, "act", "(III)I"⟩
abbrev cX11_holdsDial : ByteArray := prog_1_method_58_code
def yX11_holdsDial : MethodName := ⟨RX11, "holdsDial", "(I)Z"⟩
abbrev cX11_trace : ByteArray := prog_1_method_59_code
def yX11_trace : MethodName := ⟨RX11, "trace", "(I)I"⟩
abbrev cX11_many : ByteArray := prog_1_method_60_code
def yX11_many : MethodName := ⟨RX11, "many", "(I)I"⟩
abbrev cX11_keep : ByteArray := prog_1_method_61_code
def yX11_keep : MethodName := ⟨RX11, "keep", "()I"⟩
abbrev cX11_again : ByteArray := prog_1_method_62_code
def yX11_again : MethodName := ⟨RX11, "again", "()I"⟩
abbrev cX11_isIn : ByteArray := prog_1_method_63_code
def yX11_isIn : MethodName := ⟨RX11, "isIn", "(III)Z"⟩
abbrev cX11_isSpot : ByteArray := prog_1_method_64_code
def yX11_isSpot : MethodName := ⟨RX11, "isSpot", "(I)Z"⟩
abbrev cX11_isSheet : ByteArray := prog_1_method_65_code
def yX11_isSheet : MethodName := ⟨RX11, "isSheet", "(I)Z"⟩
abbrev cX11_isUnder : ByteArray := prog_1_method_66_code
def yX11_isUnder : MethodName := ⟨RX11, "isUnder", "(II)Z"⟩
def RX12 : String := "DialSquareModel"
def TX12 : u_T := fun k => match k with
  | 0 => ("DialSquareModel", "s", "[I", true)
  | 1 => ("DialSquareModel", "kept", "[I", true)
  | 2 => ("DialSquareModel", "laid", "[I", true)
  | 3 => ("DialSquareModel", "isKept", "Z", false)
  | 4 => ("DialSquareModel", "pile", "[I", true)
  | 5 => ("DialSquareModel", "tape", "[I", true)
  | 6 => ("DialSquareModel", "taped", "I", false)
  | 7 => ("DialSquareModel", "letters", "[C", true)
  | 8 => ("DialSquareModel", "at", "I", false)
  | 9 => ("DialSquareModel", "begun", "I", false)
  | 10 => ("DialSquareModel", "token", "I", false)
  | 11 => ("DialSquareModel", "value", "I", false)
  | 12 => ("DialSquareModel", "opened", "I", false)
  | 13 => ("DialSquareModel", "steps", "I", false)
  | 14 => ("DialSquareModel", "code0", "[I", true)
  | 15 => ("DialSquareModel", "read", "[I", true)
  | 16 => ("DialSquareModel", "saved", "[I", true)
  | 17 => ("DialSquareModel", "plan", "[I", true)
  | 18 => ("DialSquareModel", "bestPlan", "[I", true)
  | 19 => ("DialSquareModel", "most", "I", false)
  | 20 => ("DialSquareModel", "many", "I", false)
  | 21 => ("DialSquareModel", "few", "I", false)
  | 22 => ("DialSquareModel", "everRight", "I", false)
  | 23 => ("DialSquareModel", "lagThen", "[I", true)
  | 24 => ("DialSquareModel", "shadedThen", "[I", true)
  | 25 => ("DialSquareModel", "firstFit", "I", false)
  | 26 => ("DialSquareModel", "rows", "[I", true)
  | 27 => ("DialSquareModel", "rowMany", "I", false)
  | 28 => ("DialSquareModel", "sorts", "[I", true)
  | 29 => ("DialSquareModel", "sizes", "[I", true)
  | 30 => ("DialSquareModel", "number", "[I", true)
  | 31 => ("DialSquareModel", "holds", "[I", true)
  | 32 => ("DialSquareModel", "heldOne", "[I", true)
  | 33 => ("DialSquareModel", "trace", "[I", true)
  | 34 => ("DialSquareModel", "traced", "I", false)
  | 35 => ("DialSquareModel", "own", "I", false)
  | _ => ("DialSquareModel", "isParted", "Z", false)
def tyX12 : Nat → FieldType := fun k => match k with
  | 0 => .array .int
  | 1 => .array .int
  | 2 => .array .int
  | 3 => .boolean
  | 4 => .array .int
  | 5 => .array .int
  | 6 => .int
  | 7 => .array .char
  | 8 => .int
  | 9 => .int
  | 10 => .int
  | 11 => .int
  | 12 => .int
  | 13 => .int
  | 14 => .array .int
  | 15 => .array .int
  | 16 => .array .int
  | 17 => .array .int
  | 18 => .array .int
  | 19 => .int
  | 20 => .int
  | 21 => .int
  | 22 => .int
  | 23 => .array .int
  | 24 => .array .int
  | 25 => .int
  | 26 => .array .int
  | 27 => .int
  | 28 => .array .int
  | 29 => .array .int
  | 30 => .array .int
  | 31 => .array .int
  | 32 => .array .int
  | 33 => .array .int
  | 34 => .int
  | 35 => .int
  | _ => .boolean
abbrev wsX120 : List Cond := u_ws RX12 TX12 37
theorem nmX12 : ∀ a, a < 37 → ∀ b, b < 37 → a ≠ b → (TX12 a).2.1 ≠ (TX12 b).2.1 := by decide +kernel
theorem tyX12_ok : ∀ k, k < 37 → parseFieldDescriptor (TX12 k).2.2.1 = some (tyX12 k) := by decide +kernel
abbrev cX12_init : ByteArray := prog_14_method_1_code
def yX12_init : MethodName := ⟨RX12, "<init>", "()V"⟩
abbrev cX12_in1 : ByteArray := prog_14_method_2_code
def yX12_in1 : MethodName := ⟨RX12, "in1", "(III)Z"⟩
abbrev cX12_held : ByteArray := prog_14_method_3_code
def yX12_held : MethodName := ⟨RX12, "held", "(II)I"⟩
abbrev cX12_layDown : ByteArray := prog_14_method_4_code
def yX12_layDown : MethodName := ⟨RX12, "layDown", "()V"⟩
abbrev cX12_layBack : ByteArray := prog_14_method_5_code
def yX12_layBack : MethodName := ⟨RX12, "layBack", "()V"⟩
abbrev cX12_get : ByteArray := prog_14_method_6_code
def yX12_get : MethodName := ⟨RX12, "get", "(II)I"⟩
abbrev cX12_puts : ByteArray := prog_14_method_7_code
def yX12_puts : MethodName := ⟨RX12, "puts", "(III)V"⟩
abbrev cX12_isDial : ByteArray := prog_14_method_8_code
def yX12_isDial : MethodName := ⟨RX12, "isDial", "(I)Z"⟩
abbrev cX12_isAct : ByteArray := prog_14_method_9_code
def yX12_isAct : MethodName := ⟨RX12, "isAct", "(I)Z"⟩
abbrev cX12_isOver : ByteArray := prog_14_method_10_code
def yX12_isOver : MethodName := ⟨RX12, "isOver", "()Z"⟩
abbrev cX12_becomes : ByteArray := prog_14_method_11_code
def yX12_becomes : MethodName := ⟨RX12, "becomes", "(II)I"⟩
abbrev cX12_above : ByteArray := prog_14_method_12_code
def yX12_above : MethodName := ⟨RX12, "above", "(I)I"⟩
abbrev cX12_isUnder : ByteArray := prog_14_method_13_code
def yX12_isUnder : MethodName := ⟨RX12, "isUnder", "(II)Z"⟩
abbrev cX12_shadesBy : ByteArray := prog_14_method_14_code
def yX12_shadesBy : MethodName := ⟨RX12, "shadesBy", "(III)I"⟩
abbrev cX12_slipsBy : ByteArray := prog_14_method_15_code
def yX12_slipsBy : MethodName := ⟨RX12, "slipsBy", "(III)I"⟩
abbrev cX12_skyNow : ByteArray := prog_14_method_16_code
def yX12_skyNow : MethodName := ⟨RX12, "skyNow", "()I"⟩
abbrev cX12_shadesOf : ByteArray := prog_14_method_17_code
def yX12_shadesOf : MethodName := ⟨RX12, "shadesOf", "(I)I"⟩
abbrev cX12_shadeAt : ByteArray := prog_14_method_18_code
def yX12_shadeAt : MethodName := ⟨RX12, "shadeAt", "(I)I"⟩
abbrev cX12_slipsOf : ByteArray := prog_14_method_19_code
def yX12_slipsOf : MethodName := ⟨RX12, "slipsOf", "(I)I"⟩
abbrev cX12_paysOf : ByteArray := prog_14_method_20_code
def yX12_paysOf : MethodName := ⟨RX12, "paysOf", "(I)I"⟩
abbrev cX12_maySet : ByteArray := prog_14_method_21_code
def yX12_maySet : MethodName := ⟨RX12, "maySet", "(I)Z"⟩
abbrev cX12_apart : ByteArray := prog_14_method_22_code
def yX12_apart : MethodName := ⟨RX12, "apart", "(II)I"⟩
abbrev cX12_doAgree : ByteArray := prog_14_method_23_code
def yX12_doAgree : MethodName := ⟨RX12, "doAgree", "(II)Z"⟩
abbrev cX12_pairsNow : ByteArray := prog_14_method_24_code
def yX12_pairsNow : MethodName := ⟨RX12, "pairsNow", "()I"⟩
abbrev cX12_knownOf : ByteArray := prog_14_method_25_code
def yX12_knownOf : MethodName := ⟨RX12, "knownOf", "(II)I"⟩
abbrev cX12_joined : ByteArray := prog_14_method_26_code
def yX12_joined : MethodName := ⟨RX12, "joined", "(III)I"⟩
abbrev cX12_ruleOf : ByteArray := prog_14_method_27_code
def yX12_ruleOf : MethodName := ⟨RX12, "ruleOf", "(II)I"⟩
abbrev cX12_holdsFor : ByteArray := prog_14_method_28_code
def yX12_holdsFor : MethodName := ⟨RX12, "holdsFor", "(II)Z"⟩
abbrev cX12_willOf : ByteArray := prog_14_method_29_code
def yX12_willOf : MethodName := ⟨RX12, "willOf", "(I)I"⟩
abbrev cX12_byteAt : ByteArray := prog_14_method_30_code
def yX12_byteAt : MethodName := ⟨RX12, "byteAt", "(I)I"⟩
abbrev cX12_isNameOf : ByteArray := prog_14_method_31_code
def yX12_isNameOf : MethodName := ⟨RX12, "isNameOf", "(I)Z"⟩
abbrev cX12_readsName : ByteArray := prog_14_method_32_code
def yX12_readsName : MethodName := ⟨RX12, "readsName", "()V"⟩
abbrev cX12_readsNumber : ByteArray := prog_14_method_33_code
def yX12_readsNumber : MethodName := ⟨RX12, "readsNumber", "()V"⟩
abbrev cX12_next : ByteArray := prog_14_method_34_code
def yX12_next : MethodName := ⟨RX12, "next", "()V"⟩
abbrev cX12_takes : ByteArray := prog_14_method_35_code
def yX12_takes : MethodName := ⟨RX12, "takes", "(I)Z"⟩
abbrev cX12_lays : ByteArray := prog_14_method_36_code
def yX12_lays : MethodName := ⟨RX12, "lays", "(I)V"⟩
abbrev cX12_readsValue : ByteArray := prog_14_method_37_code
def yX12_readsValue : MethodName := ⟨RX12, "readsValue", "()Z"⟩
abbrev cX12_readsLike : ByteArray := prog_14_method_38_code
def yX12_readsLike : MethodName := ⟨RX12, "readsLike", "()Z"⟩
abbrev cX12_readsWithin : ByteArray := prog_14_method_39_code
def yX12_readsWithin : MethodName := ⟨RX12, "readsWithin", "()Z"⟩
abbrev cX12_readsOne : ByteArray := prog_14_method_40_code
def yX12_readsOne : MethodName := ⟨RX12, "readsOne", "()Z"⟩
abbrev cX12_readsAll : ByteArray := prog_14_method_41_code
def yX12_readsAll : MethodName := ⟨RX12, "readsAll", "()Z"⟩
abbrev cX12_readsCondition : ByteArray := prog_14_method_42_code
def yX12_readsCondition : MethodName := ⟨RX12, "readsCondition", "()Z"⟩
abbrev cX12_readsRule : ByteArray := prog_14_method_43_code
def yX12_readsRule : MethodName := ⟨RX12, "readsRule", "(I)Z"⟩
abbrev cX12_feed : ByteArray := prog_14_method_44_code
def yX12_feed : MethodName := ⟨RX12, "feed", "(JI)I"⟩
abbrev cX12_rules : ByteArray := prog_14_method_45_code
def yX12_rules : MethodName := ⟨RX12, "rules", "()I"⟩
abbrev cX12_setsRight : ByteArray := prog_14_method_46_code
def yX12_setsRight : MethodName := ⟨RX12, "setsRight", "(I)I"⟩
abbrev cX12_argues : ByteArray := prog_14_method_47_code
def yX12_argues : MethodName := ⟨RX12, "argues", "(I)I"⟩
abbrev cX12_meets : ByteArray := prog_14_method_48_code
def yX12_meets : MethodName := ⟨RX12, "meets", "(I)I"⟩
abbrev cX12_restOne : ByteArray := prog_14_method_49_code
def yX12_restOne : MethodName := ⟨RX12, "restOne", "()I"⟩
abbrev cX12_goesBy : ByteArray := prog_14_method_50_code
def yX12_goesBy : MethodName := ⟨RX12, "goesBy", "(I)I"⟩
abbrev cX12_isDigit : ByteArray := prog_14_method_51_code
def yX12_isDigit : MethodName := ⟨RX12, "isDigit", "(I)Z"⟩
abbrev cX12_isSpot : ByteArray := prog_14_method_52_code
def yX12_isSpot : MethodName := ⟨RX12, "isSpot", "(I)Z"⟩
abbrev cX12_dial : ByteArray := prog_14_method_53_code
def yX12_dial : MethodName := ⟨RX12, "dial", "(IIII)I"⟩
abbrev cX12_dialOf : ByteArray := prog_14_method_54_code
def yX12_dialOf : MethodName := ⟨RX12, "dialOf", "(II)I"⟩
abbrev cX12_change : ByteArray := prog_14_method_55_code
def yX12_change : MethodName := ⟨RX12, "change", "(III)I"⟩
abbrev cX12_remake : ByteArray := prog_14_method_56_code
def yX12_remake : MethodName := ⟨RX12, "remake", "(II)I"⟩
abbrev cX12_sky : ByteArray := prog_14_method_57_code
def yX12_sky : MethodName := ⟨RX12, "sky", "(II)I"⟩
abbrev cX12_spot : ByteArray := prog_14_method_58_code
def yX12_spot : MethodName := ⟨RX12, "spot", "(III)I"⟩
abbrev cX12_spotOf : ByteArray := prog_14_method_59_code
def yX12_spotOf : MethodName := ⟨RX12, "spotOf", "(II)I"⟩
abbrev cX12_ends : ByteArray := prog_14_method_60_code
def yX12_ends : MethodName := ⟨RX12, "ends", "(I)I"⟩
abbrev cX12_anew : ByteArray := prog_14_method_61_code
def yX12_anew : MethodName := ⟨RX12, "anew", "()I"⟩
abbrev cX12_those : ByteArray := prog_14_method_62_code
def yX12_those : MethodName := ⟨RX12, "those", "(I)I"⟩
abbrev cX12_state : ByteArray := prog_14_method_63_code
def yX12_state : MethodName := ⟨RX12, "state", "(I)I"⟩
abbrev cX12_chime : ByteArray := prog_14_method_64_code
def yX12_chime : MethodName := ⟨RX12, "chime", "()I"⟩
abbrev cX12_restOf : ByteArray := prog_14_method_65_code
def yX12_restOf : MethodName := ⟨RX12, "restOf", "(I)I"⟩
abbrev cX12_on : ByteArray := prog_14_method_66_code
def yX12_on : MethodName := ⟨RX12, "on", "(I)I"⟩
abbrev cX12_when : ByteArray := prog_14_method_67_code
def yX12_when : MethodName := ⟨RX12, "when", "(I)I"⟩
abbrev cX12_bestFor : ByteArray := prog_14_method_68_code
def yX12_bestFor : MethodName := ⟨RX12, "bestFor", "(III)I"⟩
abbrev cX12_prideFor : ByteArray := prog_14_method_69_code
def yX12_prideFor : MethodName := ⟨RX12, "prideFor", "(I)I"⟩
abbrev cX12_spotFor : ByteArray := prog_14_method_70_code
def yX12_spotFor : MethodName := ⟨RX12, "spotFor", "(I)I"⟩
abbrev cX12_late : ByteArray := prog_14_method_71_code
def yX12_late : MethodName := ⟨RX12, "late", "(I)I"⟩
abbrev cX12_middle : ByteArray := prog_14_method_72_code
def yX12_middle : MethodName := ⟨RX12, "middle", "()I"⟩
abbrev cX12_areClose : ByteArray := prog_14_method_73_code
def yX12_areClose : MethodName := ⟨RX12, "areClose", "(II)Z"⟩
abbrev cX12_knotOf : ByteArray := prog_14_method_74_code
def yX12_knotOf : MethodName := ⟨RX12, "knotOf", "(I)I"⟩
abbrev cX12_knots : ByteArray := prog_14_method_75_code
def yX12_knots : MethodName := ⟨RX12, "knots", "(I)I"⟩
abbrev cX12_seats : ByteArray := prog_14_method_76_code
def yX12_seats : MethodName := ⟨RX12, "seats", "(II)I"⟩
abbrev cX12_saves : ByteArray := prog_14_method_77_code
def yX12_saves : MethodName := ⟨RX12, "saves", "(I)V"⟩
abbrev cX12_restores : ByteArray := prog_14_method_78_code
def yX12_restores : MethodName := ⟨RX12, "restores", "(I)V"⟩
abbrev cX12_daysOf : ByteArray := prog_14_method_79_code
def yX12_daysOf : MethodName := ⟨RX12, "daysOf", "(I)I"⟩
abbrev cX12_endsPlan : ByteArray := prog_14_method_80_code
def yX12_endsPlan : MethodName := ⟨RX12, "endsPlan", "(IIII)V"⟩
abbrev cX12_goesPlans : ByteArray := prog_14_method_81_code
def yX12_goesPlans : MethodName := ⟨RX12, "goesPlans", "(IIIII)V"⟩
abbrev cX12_triesAll : ByteArray := prog_14_method_82_code
def yX12_triesAll : MethodName := ⟨RX12, "triesAll", "(II)V"⟩
abbrev cX12_isPlan : ByteArray := prog_14_method_83_code
def yX12_isPlan : MethodName := ⟨RX12, "isPlan", "(I)Z"⟩
abbrev cX12_best : ByteArray := prog_14_method_84_code
def yX12_best : MethodName := ⟨RX12, "best", "(I)I"⟩
abbrev cX12_ith : ByteArray := prog_14_method_85_code
def yX12_ith : MethodName := ⟨RX12, "ith", "(II)I"⟩
abbrev cX12_ways : ByteArray := prog_14_method_86_code
def yX12_ways : MethodName := ⟨RX12, "ways", "(I)I"⟩
abbrev cX12_isSet : ByteArray := prog_14_method_87_code
def yX12_isSet : MethodName := ⟨RX12, "isSet", "(I)Z"⟩
abbrev cX12_order : ByteArray := prog_14_method_88_code
def yX12_order : MethodName := ⟨RX12, "order", "(II)I"⟩
abbrev cX12_bars : ByteArray := prog_14_method_89_code
def yX12_bars : MethodName := ⟨RX12, "bars", "(II)I"⟩
abbrev cX12_playedFrom : ByteArray := prog_14_method_90_code
def yX12_playedFrom : MethodName := ⟨RX12, "playedFrom", "(II)I"⟩
abbrev cX12_game : ByteArray := prog_14_method_91_code
def yX12_game : MethodName := ⟨RX12, "game", "(I)I"⟩
abbrev cX12_play : ByteArray := prog_14_method_92_code
def yX12_play : MethodName := ⟨RX12, "play", "(I)I"⟩
abbrev cX12_report : ByteArray := prog_14_method_93_code
def yX12_report : MethodName := ⟨RX12, "report", "(IIII)I"⟩
abbrev cX12_forget : ByteArray := prog_14_method_94_code
def yX12_forget : MethodName := ⟨RX12, "forget", "()I"⟩
abbrev cX12_tellsLone : ByteArray := prog_14_method_95_code
def yX12_tellsLone : MethodName := ⟨RX12, "tellsLone", "(III)V"⟩
abbrev cX12_isSo : ByteArray := prog_14_method_96_code
def yX12_isSo : MethodName := ⟨RX12, "isSo", "(I)Z"⟩
abbrev cX12_fitting : ByteArray := prog_14_method_97_code
def yX12_fitting : MethodName := ⟨RX12, "fitting", "(I)I"⟩
abbrev cX12_lone : ByteArray := prog_14_method_98_code
def yX12_lone : MethodName := ⟨RX12, "lone", "(I)I"⟩
abbrev cX12_liar : ByteArray := prog_14_method_99_code
def yX12_liar : MethodName := ⟨RX12, "liar", "()I"⟩
abbrev cX12_seed : ByteArray := prog_14_method_100_code
def yX12_seed : MethodName := ⟨RX12, "seed", "(I)I"⟩
abbrev cX12_byLot : ByteArray := prog_14_method_101_code
def yX12_byLot : MethodName := ⟨RX12, "byLot", "()I"⟩
abbrev cX12_lot : ByteArray := prog_14_method_102_code
def yX12_lot : MethodName := ⟨RX12, "lot", "()I"⟩
abbrev cX12_times : ByteArray := prog_14_method_103_code
def yX12_times : MethodName := ⟨RX12, "times", "(II)I"⟩
abbrev cX12_prove : ByteArray := prog_14_method_104_code
def yX12_prove : MethodName := ⟨RX12, "prove", "(I)I"⟩
abbrev cX12_isRow : ByteArray := prog_14_method_105_code
def yX12_isRow : MethodName := ⟨RX12, "isRow", "(II)Z"⟩
abbrev cX12_row : ByteArray := prog_14_method_106_code
def yX12_row : MethodName := ⟨RX12, "row", "(II)I"⟩
abbrev cX12_alterRow : ByteArray := prog_14_method_107_code
def yX12_alterRow : MethodName := ⟨RX12, "alterRow", "(III)I"⟩
abbrev cX12_judge : ByteArray := prog_14_method_108_code
def yX12_judge : MethodName := ⟨RX12, "judge", "()I"⟩
abbrev cX12_isSheet : ByteArray := prog_14_method_109_code
def yX12_isSheet : MethodName := ⟨RX12, "isSheet", "(I)Z"⟩
abbrev cX12_sheet : ByteArray := prog_14_method_110_code
def yX12_sheet : MethodName := ⟨RX12, "sheet", "(III)I"⟩
abbrev cX12_narrowed : ByteArray := prog_14_method_111_code
def yX12_narrowed : MethodName := ⟨RX12, "narrowed", "(II)I"⟩
abbrev cX12_write : ByteArray := prog_14_method_112_code
def yX12_write : MethodName := ⟨RX12, "write", "(III)I"⟩
abbrev cX12_lacks : ByteArray := prog_14_method_113_code
def yX12_lacks : MethodName := ⟨RX12, "lacks", "(II)I"⟩
abbrev cX12_item : ByteArray := prog_14_method_114_code
def yX12_item : MethodName := ⟨RX12, "item", "(III)I"⟩
abbrev cX12_isItem : ByteArray := prog_14_method_115_code
def yX12_isItem : MethodName := ⟨RX12, "isItem", "(III)Z"⟩
abbrev cX12_goAll : ByteArray := prog_14_method_116_code
def yX12_goAll : MethodName := ⟨RX12, "goAll", "(III)I"⟩
abbrev cX12_wouldBe : ByteArray := prog_14_method_117_code
def yX12_wouldBe : MethodName := ⟨RX12, "wouldBe", "(III)I"⟩
abbrev cX12_shelf : ByteArray := prog_14_method_118_code
def yX12_shelf : MethodName := ⟨RX12, "shelf", "(III)I"⟩
abbrev cX12_heldOn : ByteArray := prog_14_method_119_code
def yX12_heldOn : MethodName := ⟨RX12, "heldOn", "(I)I"⟩
abbrev cX12_taken : ByteArray := prog_14_method_120_code
def yX12_taken : MethodName := ⟨RX12, "taken", "(II)I"⟩
abbrev cX12_starts : ByteArray := prog_14_method_121_code
def yX12_starts : MethodName := ⟨RX12, "starts", "(I)V"⟩
abbrev cX12_pointsAs : ByteArray := prog_14_method_122_code
def yX12_pointsAs : MethodName := ⟨RX12, "pointsAs", "(II)I"⟩
abbrev cX12_slantsAs : ByteArray := prog_14_method_123_code
def yX12_slantsAs : MethodName := ⟨RX12, "slantsAs", "(II)I"⟩
abbrev cX12_sharesAs : ByteArray := prog_14_method_124_code
def yX12_sharesAs : MethodName := ⟨RX12, "sharesAs", "(II)I"⟩
abbrev cX12_tellsAs : ByteArray := prog_14_method_125_code
def yX12_tellsAs : MethodName := ⟨RX12, "tellsAs", "(II)I"⟩
abbrev cX12_act : ByteArray := prog_14_method_126_code
def yX12_act : MethodName := ⟨RX12, "act", "(III)I"⟩
abbrev cX12_trace : ByteArray := prog_14_method_127_code
def yX12_trace : MethodName := ⟨RX12, "trace", "(I)I"⟩
abbrev cX12_ones : ByteArray := prog_14_method_128_code
def yX12_ones : MethodName := ⟨RX12, "ones", "(I)I"⟩
abbrev cX12_many : ByteArray := prog_14_method_129_code
def yX12_many : MethodName := ⟨RX12, "many", "(I)I"⟩
abbrev cX12_keep : ByteArray := prog_14_method_130_code
def yX12_keep : MethodName := ⟨RX12, "keep", "()I"⟩
abbrev cX12_again : ByteArray := prog_14_method_131_code
def yX12_again : MethodName := ⟨RX12, "again", "()I"⟩
def RJx145de : String := "java/io/Serializable"
def TJx145de : u_T := fun k => match k with
  | _ => ("", "", "", false)
def tyJx145de : Nat → FieldType := fun k => match k with
  | _ => .int
abbrev wsJx145de0 : List Cond := u_ws RJx145de TJx145de 0
theorem nmJx145de : ∀ a, a < 0 → ∀ b, b < 0 → a ≠ b → (TJx145de a).2.1 ≠ (TJx145de b).2.1 := by decide +kernel
theorem tyJx145de_ok : ∀ k, k < 0 → parseFieldDescriptor (TJx145de k).2.2.1 = some (tyJx145de k) := by decide +kernel
def RJx9f9b0 : String := "java/lang/CharSequence"
def TJx9f9b0 : u_T := fun k => match k with
  | _ => ("", "", "", false)
def tyJx9f9b0 : Nat → FieldType := fun k => match k with
  | _ => .int
abbrev wsJx9f9b00 : List Cond := u_ws RJx9f9b0 TJx9f9b0 0
theorem nmJx9f9b0 : ∀ a, a < 0 → ∀ b, b < 0 → a ≠ b → (TJx9f9b0 a).2.1 ≠ (TJx9f9b0 b).2.1 := by decide +kernel
theorem tyJx9f9b0_ok : ∀ k, k < 0 → parseFieldDescriptor (TJx9f9b0 k).2.2.1 = some (tyJx9f9b0 k) := by decide +kernel
def RJx8e188 : String := "java/lang/Cloneable"
def TJx8e188 : u_T := fun k => match k with
  | _ => ("", "", "", false)
def tyJx8e188 : Nat → FieldType := fun k => match k with
  | _ => .int
abbrev wsJx8e1880 : List Cond := u_ws RJx8e188 TJx8e188 0
theorem nmJx8e188 : ∀ a, a < 0 → ∀ b, b < 0 → a ≠ b → (TJx8e188 a).2.1 ≠ (TJx8e188 b).2.1 := by decide +kernel
theorem tyJx8e188_ok : ∀ k, k < 0 → parseFieldDescriptor (TJx8e188 k).2.2.1 = some (tyJx8e188 k) := by decide +kernel
def RJxb160c : String := "java/lang/Comparable"
def TJxb160c : u_T := fun k => match k with
  | _ => ("", "", "", false)
def tyJxb160c : Nat → FieldType := fun k => match k with
  | _ => .int
abbrev wsJxb160c0 : List Cond := u_ws RJxb160c TJxb160c 0
theorem nmJxb160c : ∀ a, a < 0 → ∀ b, b < 0 → a ≠ b → (TJxb160c a).2.1 ≠ (TJxb160c b).2.1 := by decide +kernel
theorem tyJxb160c_ok : ∀ k, k < 0 → parseFieldDescriptor (TJxb160c k).2.2.1 = some (tyJxb160c k) := by decide +kernel
def RJ6 : String := "java/lang/Integer"
def TJ6 : u_T := fun k => match k with
  | _ => ("", "", "", false)
def tyJ6 : Nat → FieldType := fun k => match k with
  | _ => .int
abbrev wsJ60 : List Cond := u_ws RJ6 TJ6 0
theorem nmJ6 : ∀ a, a < 0 → ∀ b, b < 0 → a ≠ b → (TJ6 a).2.1 ≠ (TJ6 b).2.1 := by decide +kernel
theorem tyJ6_ok : ∀ k, k < 0 → parseFieldDescriptor (TJ6 k).2.2.1 = some (tyJ6 k) := by decide +kernel
abbrev cJ6_bitCount_0f7a4 : ByteArray := prog_16_method_49_code
def yJ6_bitCount_0f7a4 : MethodName := ⟨RJ6, "bitCount", "(I)I"⟩
def RJ9 : String := "java/lang/Math"
def TJ9 : u_T := fun k => match k with
  | _ => ("", "", "", false)
def tyJ9 : Nat → FieldType := fun k => match k with
  | _ => .int
abbrev wsJ90 : List Cond := u_ws RJ9 TJ9 0
theorem nmJ9 : ∀ a, a < 0 → ∀ b, b < 0 → a ≠ b → (TJ9 a).2.1 ≠ (TJ9 b).2.1 := by decide +kernel
theorem tyJ9_ok : ∀ k, k < 0 → parseFieldDescriptor (TJ9 k).2.2.1 = some (tyJ9 k) := by decide +kernel
abbrev cJ9_abs_0f7a4 : ByteArray := prog_17_method_59_code
def yJ9_abs_0f7a4 : MethodName := ⟨RJ9, "abs", "(I)I"⟩
abbrev cJ9_min_7cf53 : ByteArray := prog_17_method_69_code
def yJ9_min_7cf53 : MethodName := ⟨RJ9, "min", "(II)I"⟩
def RJ0 : String := "java/lang/String"
def TJ0 : u_T := fun k => match k with
  | _ => ("", "", "", false)
def tyJ0 : Nat → FieldType := fun k => match k with
  | _ => .int
abbrev wsJ00 : List Cond := u_ws RJ0 TJ0 0
theorem nmJ0 : ∀ a, a < 0 → ∀ b, b < 0 → a ≠ b → (TJ0 a).2.1 ≠ (TJ0 b).2.1 := by decide +kernel
theorem tyJ0_ok : ∀ k, k < 0 → parseFieldDescriptor (TJ0 k).2.2.1 = some (tyJ0 k) := by decide +kernel
abbrev cJ0_length_8abf5 : ByteArray := prog_18_method_54_code
def yJ0_length_8abf5 : MethodName := ⟨RJ0, "length", "()I"⟩
abbrev cJ0_charAt_5068e : ByteArray := prog_18_method_56_code
def yJ0_charAt_5068e : MethodName := ⟨RJ0, "charAt", "(I)C"⟩
abbrev cJ0_coder_7d493 : ByteArray := prog_18_method_152_code
def yJ0_coder_7d493 : MethodName := ⟨RJ0, "coder", "()B"⟩
abbrev cJ0_isLatin1_aae02 : ByteArray := prog_18_method_154_code
def yJ0_isLatin1_aae02 : MethodName := ⟨RJ0, "isLatin1", "()Z"⟩
abbrev cJ0_checkIndex_df160 : ByteArray := prog_18_method_155_code
def yJ0_checkIndex_df160 : MethodName := ⟨RJ0, "checkIndex", "(II)V"⟩
def RJ1 : String := "java/lang/StringLatin1"
def TJ1 : u_T := fun k => match k with
  | _ => ("", "", "", false)
def tyJ1 : Nat → FieldType := fun k => match k with
  | _ => .int
abbrev wsJ10 : List Cond := u_ws RJ1 TJ1 0
theorem nmJ1 : ∀ a, a < 0 → ∀ b, b < 0 → a ≠ b → (TJ1 a).2.1 ≠ (TJ1 b).2.1 := by decide +kernel
theorem tyJ1_ok : ∀ k, k < 0 → parseFieldDescriptor (TJ1 k).2.2.1 = some (tyJ1 k) := by decide +kernel
abbrev cJ1_charAt_3b067 : ByteArray := prog_19_method_2_code
def yJ1_charAt_3b067 : MethodName := ⟨RJ1, "charAt", "([BI)C"⟩
def RJ2 : String := "java/lang/StringUTF16"
def TJ2 : u_T := fun k => match k with
  | _ => ("", "", "", false)
def tyJ2 : Nat → FieldType := fun k => match k with
  | _ => .int
abbrev wsJ20 : List Cond := u_ws RJ2 TJ2 0
theorem nmJ2 : ∀ a, a < 0 → ∀ b, b < 0 → a ≠ b → (TJ2 a).2.1 ≠ (TJ2 b).2.1 := by decide +kernel
theorem tyJ2_ok : ∀ k, k < 0 → parseFieldDescriptor (TJ2 k).2.2.1 = some (tyJ2 k) := by decide +kernel
abbrev cJ2_getChar_3b067 : ByteArray := prog_20_method_5_code
def yJ2_getChar_3b067 : MethodName := ⟨RJ2, "getChar", "([BI)C"⟩
abbrev cJ2_length_9d52b : ByteArray := prog_20_method_6_code
def yJ2_length_9d52b : MethodName := ⟨RJ2, "length", "([B)I"⟩
abbrev cJ2_charAt_3b067 : ByteArray := prog_20_method_83_code
def yJ2_charAt_3b067 : MethodName := ⟨RJ2, "charAt", "([BI)C"⟩
abbrev cJ2_checkIndex_2214a : ByteArray := prog_20_method_91_code
def yJ2_checkIndex_2214a : MethodName := ⟨RJ2, "checkIndex", "(I[B)V"⟩
def RJ10 : String := "java/lang/System"
def TJ10 : u_T := fun k => match k with
  | _ => ("", "", "", false)
def tyJ10 : Nat → FieldType := fun k => match k with
  | _ => .int
abbrev wsJ100 : List Cond := u_ws RJ10 TJ10 0
theorem nmJ10 : ∀ a, a < 0 → ∀ b, b < 0 → a ≠ b → (TJ10 a).2.1 ≠ (TJ10 b).2.1 := by decide +kernel
theorem tyJ10_ok : ∀ k, k < 0 → parseFieldDescriptor (TJ10 k).2.2.1 = some (tyJ10 k) := by decide +kernel
def RJxfd54e : String := "java/lang/constant/Constable"
def TJxfd54e : u_T := fun k => match k with
  | _ => ("", "", "", false)
def tyJxfd54e : Nat → FieldType := fun k => match k with
  | _ => .int
abbrev wsJxfd54e0 : List Cond := u_ws RJxfd54e TJxfd54e 0
theorem nmJxfd54e : ∀ a, a < 0 → ∀ b, b < 0 → a ≠ b → (TJxfd54e a).2.1 ≠ (TJxfd54e b).2.1 := by decide +kernel
theorem tyJxfd54e_ok : ∀ k, k < 0 → parseFieldDescriptor (TJxfd54e k).2.2.1 = some (tyJxfd54e k) := by decide +kernel
def RJx3cf43 : String := "java/lang/constant/ConstantDesc"
def TJx3cf43 : u_T := fun k => match k with
  | _ => ("", "", "", false)
def tyJx3cf43 : Nat → FieldType := fun k => match k with
  | _ => .int
abbrev wsJx3cf430 : List Cond := u_ws RJx3cf43 TJx3cf43 0
theorem nmJx3cf43 : ∀ a, a < 0 → ∀ b, b < 0 → a ≠ b → (TJx3cf43 a).2.1 ≠ (TJx3cf43 b).2.1 := by decide +kernel
theorem tyJx3cf43_ok : ∀ k, k < 0 → parseFieldDescriptor (TJx3cf43 k).2.2.1 = some (tyJx3cf43 k) := by decide +kernel
def RJ7 : String := "java/util/Arrays"
def TJ7 : u_T := fun k => match k with
  | _ => ("", "", "", false)
def tyJ7 : Nat → FieldType := fun k => match k with
  | _ => .int
abbrev wsJ70 : List Cond := u_ws RJ7 TJ7 0
theorem nmJ7 : ∀ a, a < 0 → ∀ b, b < 0 → a ≠ b → (TJ7 a).2.1 ≠ (TJ7 b).2.1 := by decide +kernel
theorem tyJ7_ok : ∀ k, k < 0 → parseFieldDescriptor (TJ7 k).2.2.1 = some (tyJ7 k) := by decide +kernel
abbrev cJ7_fill_53178 : ByteArray := prog_22_method_103_code
def yJ7_fill_53178 : MethodName := ⟨RJ7, "fill", "([II)V"⟩
abbrev cJ7_copyOf_59c91 : ByteArray := prog_22_method_123_code
def yJ7_copyOf_59c91 : MethodName := ⟨RJ7, "copyOf", "([II)[I"⟩
def RJ3 : String := "jdk/internal/util/Preconditions"
def TJ3 : u_T := fun k => match k with
  | _ => ("", "", "", false)
def tyJ3 : Nat → FieldType := fun k => match k with
  | _ => .int
abbrev wsJ30 : List Cond := u_ws RJ3 TJ3 0
theorem nmJ3 : ∀ a, a < 0 → ∀ b, b < 0 → a ≠ b → (TJ3 a).2.1 ≠ (TJ3 b).2.1 := by decide +kernel
theorem tyJ3_ok : ∀ k, k < 0 → parseFieldDescriptor (TJ3 k).2.2.1 = some (tyJ3 k) := by decide +kernel
abbrev cJ3_checkIndex_8e157 : ByteArray := prog_23_method_11_code
def yJ3_checkIndex_8e157 : MethodName := ⟨RJ3, "checkIndex", "(IILjava/util/function/BiFunction;)I"⟩
def RL : String := "DialSquareLaw"
abbrev cL_law : ByteArray := code
def yL_law : MethodName := ⟨RL, "law", "([I)Z"⟩
/-- the words of the tables that a method may need -/
def tw : List Cond := lw_tbl.filter goodWord
theorem tw_of {w : Cond} (h : w ∈ tables_1) (g : goodWord w = true) : w ∈ tw := List.mem_filter.mpr ⟨List.mem_append_right _ h, g⟩
theorem tw_sel {q : MethodName × Nat} (h : q ∈ lw_privs) (g : goodWord (Cond.selects q.1.cls q.1 q.1) = true) : Cond.selects q.1.cls q.1 q.1 ∈ tw := List.mem_filter.mpr ⟨List.mem_append_left _ (List.mem_map.mpr ⟨q, h, rfl⟩), g⟩
theorem tw_good {w : Cond} (h : w ∈ tw) : goodWord w = true := (List.mem_filter.mp h).2
theorem tw_ok {args : Array Value} {s : State} (h : ∀ w ∈ lw_tbl, w.before args s = true) : ∀ w ∈ tw, w.before args s = true := fun w hw => h w (List.mem_filter.mp hw).1
theorem q_0 : (Jvm.Cond.initialized "DialSquareLaw") ∈ tw := tw_of w_0 rfl
theorem q_1 : (Jvm.Cond.initialized "DialSquare") ∈ tw := tw_of w_1 rfl
theorem q_2 : (Jvm.Cond.initialized "DialSquare$RuleText") ∈ tw := tw_of w_2 rfl
theorem q_3 : (Jvm.Cond.initialized "DialSquare$Host") ∈ tw := tw_of w_3 rfl
theorem q_4 : (Jvm.Cond.initialized "DialSquare$Dial") ∈ tw := tw_of w_4 rfl
theorem q_5 : (Jvm.Cond.initialized "DialSquare$Noon") ∈ tw := tw_of w_5 rfl
theorem q_6 : (Jvm.Cond.initialized "DialSquare$Tall") ∈ tw := tw_of w_6 rfl
theorem q_7 : (Jvm.Cond.initialized "DialSquare$Guild") ∈ tw := tw_of w_7 rfl
theorem q_8 : (Jvm.Cond.initialized "DialSquare$Low") ∈ tw := tw_of w_8 rfl
theorem q_9 : (Jvm.Cond.initialized "DialSquare$Slit") ∈ tw := tw_of w_9 rfl
theorem q_10 : (Jvm.Cond.initialized "DialSquare$Rules") ∈ tw := tw_of w_10 rfl
theorem q_11 : (Jvm.Cond.initialized "DialSquare$Square") ∈ tw := tw_of w_11 rfl
theorem q_12 : (Jvm.Cond.initialized "java/util/Arrays") ∈ tw := tw_of w_12 rfl
theorem q_13 : (Jvm.Cond.initialized "DialSquare$Plans") ∈ tw := tw_of w_13 rfl
theorem q_14 : (Jvm.Cond.initialized "DialSquareModel") ∈ tw := tw_of w_14 rfl
theorem q_15 : (Jvm.Cond.initialized "java/lang/Math") ∈ tw := tw_of w_15 rfl
theorem q_16 : (Jvm.Cond.initialized "java/lang/String") ∈ tw := tw_of w_16 rfl
theorem q_17 : (Jvm.Cond.initialized "java/lang/StringLatin1") ∈ tw := tw_of w_17 rfl
theorem q_18 : (Jvm.Cond.initialized "jdk/internal/util/Preconditions") ∈ tw := tw_of w_18 rfl
theorem q_19 : (Jvm.Cond.initialized "java/lang/StringUTF16") ∈ tw := tw_of w_19 rfl
theorem q_20 : (Jvm.Cond.initialized "java/lang/System") ∈ tw := tw_of w_20 rfl
theorem q_21 : (Jvm.Cond.initialized "java/lang/Integer") ∈ tw := tw_of w_21 rfl
theorem q_22 : (Jvm.Cond.classLink "DialSquareLaw" (7 : Nat) "DialSquare") ∈ tw := tw_of w_22 rfl
theorem q_23 : (Jvm.Cond.instantiable "DialSquare" (8 : Nat)) ∈ tw := tw_of w_23 rfl
theorem q_24 : (Jvm.Cond.methodLink "DialSquareLaw" (9 : Nat) ({ cls := "DialSquare", name := "<init>", desc := "()V" } : Jvm.MethodName)) ∈ tw := tw_of w_24 rfl
theorem q_25 : (Jvm.Cond.instanceMethod ({ cls := "DialSquare", name := "<init>", desc := "()V" } : Jvm.MethodName)) ∈ tw := tw_of w_25 rfl
theorem q_26 : (Jvm.Cond.code ({ cls := "DialSquare", name := "<init>", desc := "()V" } : Jvm.MethodName) prog_1_method_1_code (3 : Nat) (Option.none : Option Jvm.ClassFile.FieldType)) ∈ tw := tw_of w_26 rfl
theorem q_27 : (Jvm.Cond.methodLink "DialSquare" (3 : Nat) ({ cls := "java/lang/Object", name := "<init>", desc := "()V" } : Jvm.MethodName)) ∈ tw := tw_of w_27 rfl
theorem q_28 : (Jvm.Cond.instanceMethod ({ cls := "java/lang/Object", name := "<init>", desc := "()V" } : Jvm.MethodName)) ∈ tw := tw_of w_28 rfl
theorem q_29 : (Jvm.Cond.code ({ cls := "java/lang/Object", name := "<init>", desc := "()V" } : Jvm.MethodName) object_method_1_code (1 : Nat) (Option.none : Option Jvm.ClassFile.FieldType)) ∈ tw := tw_of w_29 rfl
theorem q_30 : (Jvm.Cond.classLink "DialSquare" (13 : Nat) "DialSquare$RuleText") ∈ tw := tw_of w_30 rfl
theorem q_31 : (Jvm.Cond.instantiable "DialSquare$RuleText" (11 : Nat)) ∈ tw := tw_of w_31 rfl
theorem q_33 : (Jvm.Cond.instanceMethod ({ cls := "DialSquare$RuleText", name := "<init>", desc := "()V" } : Jvm.MethodName)) ∈ tw := tw_of w_33 rfl
theorem q_34 : (Jvm.Cond.code ({ cls := "DialSquare$RuleText", name := "<init>", desc := "()V" } : Jvm.MethodName) prog_8_method_1_code (1 : Nat) (Option.none : Option Jvm.ClassFile.FieldType)) ∈ tw := tw_of w_34 rfl
theorem q_35 : (Jvm.Cond.methodLink "DialSquare$RuleText" (3 : Nat) ({ cls := "java/lang/Object", name := "<init>", desc := "()V" } : Jvm.MethodName)) ∈ tw := tw_of w_35 rfl
theorem q_36 : (Jvm.Cond.fieldLink "DialSquare$RuleText" (34 : Nat) "DialSquare$RuleText" "length" "I") ∈ tw := tw_of w_36 rfl
theorem q_37 : (Jvm.Cond.fieldLink "DialSquare" (151 : Nat) "DialSquare$RuleText" "length" "I") ∈ tw := tw_of w_37 rfl
theorem q_38 : (Jvm.Cond.fieldLink "DialSquare$RuleText" (9 : Nat) "DialSquare$RuleText" "tape" "[B") ∈ tw := tw_of w_38 rfl
theorem q_39 : (Jvm.Cond.fieldLink "DialSquare$RuleText" (15 : Nat) "DialSquare$RuleText" "words" "[I") ∈ tw := tw_of w_39 rfl
theorem q_40 : (Jvm.Cond.fieldLink "DialSquare$RuleText" (19 : Nat) "DialSquare$RuleText" "places" "[I") ∈ tw := tw_of w_40 rfl
theorem q_41 : (Jvm.Cond.fieldLink "DialSquare$RuleText" (41 : Nat) "DialSquare$RuleText" "at" "I") ∈ tw := tw_of w_41 rfl
theorem q_42 : (Jvm.Cond.fieldLink "DialSquare$RuleText" (22 : Nat) "DialSquare$RuleText" "kinds" "[I") ∈ tw := tw_of w_42 rfl
theorem q_43 : (Jvm.Cond.fieldLink "DialSquare$RuleText" (25 : Nat) "DialSquare$RuleText" "wills" "[I") ∈ tw := tw_of w_43 rfl
theorem q_44 : (Jvm.Cond.fieldLink "DialSquare$RuleText" (28 : Nat) "DialSquare$RuleText" "starts" "[I") ∈ tw := tw_of w_44 rfl
theorem q_45 : (Jvm.Cond.fieldLink "DialSquare$RuleText" (31 : Nat) "DialSquare$RuleText" "code" "[I") ∈ tw := tw_of w_45 rfl
theorem q_46 : (Jvm.Cond.fieldLink "DialSquare$RuleText" (44 : Nat) "DialSquare$RuleText" "count" "I") ∈ tw := tw_of w_46 rfl
theorem q_47 : (Jvm.Cond.fieldLink "DialSquare$RuleText" (47 : Nat) "DialSquare$RuleText" "size" "I") ∈ tw := tw_of w_47 rfl
theorem q_48 : (Jvm.Cond.lays "DialSquare$RuleText" "DialSquare$RuleText" "length" "I") ∈ tw := tw_of w_48 rfl
theorem q_50 : (Jvm.Cond.laysFinal "DialSquare$RuleText" "DialSquare$RuleText" "tape" "[B") ∈ tw := tw_of w_50 rfl
theorem q_52 : (Jvm.Cond.laysFinal "DialSquare$RuleText" "DialSquare$RuleText" "words" "[I") ∈ tw := tw_of w_52 rfl
theorem q_54 : (Jvm.Cond.laysFinal "DialSquare$RuleText" "DialSquare$RuleText" "places" "[I") ∈ tw := tw_of w_54 rfl
theorem q_56 : (Jvm.Cond.lays "DialSquare$RuleText" "DialSquare$RuleText" "at" "I") ∈ tw := tw_of w_56 rfl
theorem q_58 : (Jvm.Cond.laysFinal "DialSquare$RuleText" "DialSquare$RuleText" "kinds" "[I") ∈ tw := tw_of w_58 rfl
theorem q_60 : (Jvm.Cond.laysFinal "DialSquare$RuleText" "DialSquare$RuleText" "wills" "[I") ∈ tw := tw_of w_60 rfl
theorem q_62 : (Jvm.Cond.laysFinal "DialSquare$RuleText" "DialSquare$RuleText" "starts" "[I") ∈ tw := tw_of w_62 rfl
theorem q_64 : (Jvm.Cond.laysFinal "DialSquare$RuleText" "DialSquare$RuleText" "code" "[I") ∈ tw := tw_of w_64 rfl
theorem q_66 : (Jvm.Cond.lays "DialSquare$RuleText" "DialSquare$RuleText" "count" "I") ∈ tw := tw_of w_66 rfl
theorem q_68 : (Jvm.Cond.lays "DialSquare$RuleText" "DialSquare$RuleText" "size" "I") ∈ tw := tw_of w_68 rfl
theorem q_70 : (Jvm.Cond.superclass "DialSquare$RuleText" "java/lang/Object") ∈ tw := tw_of w_70 rfl
theorem q_71 : (Jvm.Cond.arrayClass Jvm.ClassFile.FieldType.int) ∈ tw := tw_of w_71 rfl
theorem q_72 : (Jvm.Cond.arrayClass Jvm.ClassFile.FieldType.byte) ∈ tw := tw_of w_72 rfl
theorem q_73 : (Jvm.Cond.classLink "DialSquare" (20 : Nat) "DialSquare$Host") ∈ tw := tw_of w_73 rfl
theorem q_74 : (Jvm.Cond.instantiable "DialSquare$Host" (11 : Nat)) ∈ tw := tw_of w_74 rfl
theorem q_76 : (Jvm.Cond.instanceMethod ({ cls := "DialSquare$Host", name := "<init>", desc := "()V" } : Jvm.MethodName)) ∈ tw := tw_of w_76 rfl
theorem q_77 : (Jvm.Cond.code ({ cls := "DialSquare$Host", name := "<init>", desc := "()V" } : Jvm.MethodName) prog_4_method_1_code (1 : Nat) (Option.none : Option Jvm.ClassFile.FieldType)) ∈ tw := tw_of w_77 rfl
theorem q_78 : (Jvm.Cond.methodLink "DialSquare$Host" (3 : Nat) ({ cls := "java/lang/Object", name := "<init>", desc := "()V" } : Jvm.MethodName)) ∈ tw := tw_of w_78 rfl
theorem q_79 : (Jvm.Cond.classLink "DialSquare$Host" (18 : Nat) "[[I") ∈ tw := tw_of w_79 rfl
theorem q_81 : (Jvm.Cond.fieldLink "DialSquare$Host" (9 : Nat) "DialSquare$Host" "sorts" "[I") ∈ tw := tw_of w_81 rfl
theorem q_82 : (Jvm.Cond.fieldLink "DialSquare" (286 : Nat) "DialSquare$Host" "sorts" "[I") ∈ tw := tw_of w_82 rfl
theorem q_83 : (Jvm.Cond.fieldLink "DialSquare$Host" (15 : Nat) "DialSquare$Host" "lengths" "[I") ∈ tw := tw_of w_83 rfl
theorem q_84 : (Jvm.Cond.fieldLink "DialSquare$Host" (20 : Nat) "DialSquare$Host" "items" "[[I") ∈ tw := tw_of w_84 rfl
theorem q_85 : (Jvm.Cond.fieldLink "DialSquare" (292 : Nat) "DialSquare$Host" "items" "[[I") ∈ tw := tw_of w_85 rfl
theorem q_86 : (Jvm.Cond.fieldLink "DialSquare$Host" (23 : Nat) "DialSquare$Host" "held" "[I") ∈ tw := tw_of w_86 rfl
theorem q_87 : (Jvm.Cond.fieldLink "DialSquare" (311 : Nat) "DialSquare$Host" "held" "[I") ∈ tw := tw_of w_87 rfl
theorem q_88 : (Jvm.Cond.fieldLink "DialSquare$Host" (26 : Nat) "DialSquare$Host" "things" "[I") ∈ tw := tw_of w_88 rfl
theorem q_89 : (Jvm.Cond.fieldLink "DialSquare" (314 : Nat) "DialSquare$Host" "things" "[I") ∈ tw := tw_of w_89 rfl
theorem q_90 : (Jvm.Cond.fieldLink "DialSquare$Host" (29 : Nat) "DialSquare$Host" "sizes" "[I") ∈ tw := tw_of w_90 rfl
theorem q_91 : (Jvm.Cond.fieldLink "DialSquare" (317 : Nat) "DialSquare$Host" "sizes" "[I") ∈ tw := tw_of w_91 rfl
theorem q_92 : (Jvm.Cond.fieldLink "DialSquare$Host" (32 : Nat) "DialSquare$Host" "bodies" "[I") ∈ tw := tw_of w_92 rfl
theorem q_93 : (Jvm.Cond.fieldLink "DialSquare" (359 : Nat) "DialSquare$Host" "bodies" "[I") ∈ tw := tw_of w_93 rfl
theorem q_94 : (Jvm.Cond.fieldLink "DialSquare$Host" (41 : Nat) "DialSquare$Host" "traced" "I") ∈ tw := tw_of w_94 rfl
theorem q_95 : (Jvm.Cond.fieldLink "DialSquare" (356 : Nat) "DialSquare$Host" "traced" "I") ∈ tw := tw_of w_95 rfl
theorem q_96 : (Jvm.Cond.fieldLink "DialSquare$Dial" (13 : Nat) "DialSquare$Host" "number" "I") ∈ tw := tw_of w_96 rfl
theorem q_97 : (Jvm.Cond.fieldLink "DialSquare$Slit" (27 : Nat) "DialSquare$Host" "number" "I") ∈ tw := tw_of w_97 rfl
theorem q_98 : (Jvm.Cond.fieldLink "DialSquare" (329 : Nat) "DialSquare$Host" "number" "I") ∈ tw := tw_of w_98 rfl
theorem q_99 : (Jvm.Cond.fieldLink "DialSquare$Dial" (23 : Nat) "DialSquare$Host" "spot" "I") ∈ tw := tw_of w_99 rfl
theorem q_100 : (Jvm.Cond.fieldLink "DialSquare$Guild" (27 : Nat) "DialSquare$Host" "spot" "I") ∈ tw := tw_of w_100 rfl
theorem q_101 : (Jvm.Cond.fieldLink "DialSquare" (332 : Nat) "DialSquare$Host" "spot" "I") ∈ tw := tw_of w_101 rfl
theorem q_102 : (Jvm.Cond.fieldLink "DialSquare$Host" (45 : Nat) "DialSquare$Host" "parted" "Z") ∈ tw := tw_of w_102 rfl
theorem q_103 : (Jvm.Cond.fieldLink "DialSquare$Dial" (26 : Nat) "DialSquare$Host" "parted" "Z") ∈ tw := tw_of w_103 rfl
theorem q_104 : (Jvm.Cond.fieldLink "DialSquare" (352 : Nat) "DialSquare$Host" "parted" "Z") ∈ tw := tw_of w_104 rfl
theorem q_105 : (Jvm.Cond.laysFinal "DialSquare$Host" "DialSquare$Host" "sorts" "[I") ∈ tw := tw_of w_105 rfl
theorem q_107 : (Jvm.Cond.laysFinal "DialSquare$Host" "DialSquare$Host" "lengths" "[I") ∈ tw := tw_of w_107 rfl
theorem q_109 : (Jvm.Cond.laysFinal "DialSquare$Host" "DialSquare$Host" "items" "[[I") ∈ tw := tw_of w_109 rfl
theorem q_111 : (Jvm.Cond.laysFinal "DialSquare$Host" "DialSquare$Host" "held" "[I") ∈ tw := tw_of w_111 rfl
theorem q_113 : (Jvm.Cond.laysFinal "DialSquare$Host" "DialSquare$Host" "things" "[I") ∈ tw := tw_of w_113 rfl
theorem q_115 : (Jvm.Cond.laysFinal "DialSquare$Host" "DialSquare$Host" "sizes" "[I") ∈ tw := tw_of w_115 rfl
theorem q_117 : (Jvm.Cond.laysFinal "DialSquare$Host" "DialSquare$Host" "bodies" "[I") ∈ tw := tw_of w_117 rfl
theorem q_119 : (Jvm.Cond.lays "DialSquare$Host" "DialSquare$Host" "traced" "I") ∈ tw := tw_of w_119 rfl
theorem q_121 : (Jvm.Cond.lays "DialSquare$Host" "DialSquare$Host" "number" "I") ∈ tw := tw_of w_121 rfl
theorem q_123 : (Jvm.Cond.lays "DialSquare$Host" "DialSquare$Host" "spot" "I") ∈ tw := tw_of w_123 rfl
theorem q_125 : (Jvm.Cond.lays "DialSquare$Host" "DialSquare$Host" "parted" "Z") ∈ tw := tw_of w_125 rfl
theorem q_127 : (Jvm.Cond.superclass "DialSquare$Host" "java/lang/Object") ∈ tw := tw_of w_127 rfl
theorem q_128 : (Jvm.Cond.classLink "DialSquare" (27 : Nat) "DialSquare$Dial") ∈ tw := tw_of w_128 rfl
theorem q_130 : (Jvm.Cond.instantiable "DialSquare$Dial" (0 : Nat)) ∈ tw := tw_of w_130 rfl
theorem q_132 : (Jvm.Cond.instanceMethod ({ cls := "DialSquare$Dial", name := "<init>", desc := "()V" } : Jvm.MethodName)) ∈ tw := tw_of w_132 rfl
theorem q_133 : (Jvm.Cond.code ({ cls := "DialSquare$Dial", name := "<init>", desc := "()V" } : Jvm.MethodName) prog_2_method_1_code (1 : Nat) (Option.none : Option Jvm.ClassFile.FieldType)) ∈ tw := tw_of w_133 rfl
theorem q_134 : (Jvm.Cond.methodLink "DialSquare$Dial" (1 : Nat) ({ cls := "java/lang/Object", name := "<init>", desc := "()V" } : Jvm.MethodName)) ∈ tw := tw_of w_134 rfl
theorem q_135 : (Jvm.Cond.superclass "DialSquare$Dial" "java/lang/Object") ∈ tw := tw_of w_135 rfl
theorem q_136 : (Jvm.Cond.classLink "DialSquare" (30 : Nat) "DialSquare$Noon") ∈ tw := tw_of w_136 rfl
theorem q_137 : (Jvm.Cond.instantiable "DialSquare$Noon" (0 : Nat)) ∈ tw := tw_of w_137 rfl
theorem q_139 : (Jvm.Cond.instanceMethod ({ cls := "DialSquare$Noon", name := "<init>", desc := "()V" } : Jvm.MethodName)) ∈ tw := tw_of w_139 rfl
theorem q_140 : (Jvm.Cond.code ({ cls := "DialSquare$Noon", name := "<init>", desc := "()V" } : Jvm.MethodName) prog_6_method_1_code (1 : Nat) (Option.none : Option Jvm.ClassFile.FieldType)) ∈ tw := tw_of w_140 rfl
theorem q_142 : (Jvm.Cond.superclass "DialSquare$Noon" "DialSquare$Dial") ∈ tw := tw_of w_142 rfl
theorem q_143 : (Jvm.Cond.classLink "DialSquare" (33 : Nat) "DialSquare$Tall") ∈ tw := tw_of w_143 rfl
theorem q_144 : (Jvm.Cond.instantiable "DialSquare$Tall" (0 : Nat)) ∈ tw := tw_of w_144 rfl
theorem q_146 : (Jvm.Cond.instanceMethod ({ cls := "DialSquare$Tall", name := "<init>", desc := "()V" } : Jvm.MethodName)) ∈ tw := tw_of w_146 rfl
theorem q_147 : (Jvm.Cond.code ({ cls := "DialSquare$Tall", name := "<init>", desc := "()V" } : Jvm.MethodName) prog_12_method_1_code (1 : Nat) (Option.none : Option Jvm.ClassFile.FieldType)) ∈ tw := tw_of w_147 rfl
theorem q_149 : (Jvm.Cond.superclass "DialSquare$Tall" "DialSquare$Dial") ∈ tw := tw_of w_149 rfl
theorem q_150 : (Jvm.Cond.classLink "DialSquare" (36 : Nat) "DialSquare$Guild") ∈ tw := tw_of w_150 rfl
theorem q_151 : (Jvm.Cond.instantiable "DialSquare$Guild" (0 : Nat)) ∈ tw := tw_of w_151 rfl
theorem q_153 : (Jvm.Cond.instanceMethod ({ cls := "DialSquare$Guild", name := "<init>", desc := "()V" } : Jvm.MethodName)) ∈ tw := tw_of w_153 rfl
theorem q_154 : (Jvm.Cond.code ({ cls := "DialSquare$Guild", name := "<init>", desc := "()V" } : Jvm.MethodName) prog_3_method_1_code (1 : Nat) (Option.none : Option Jvm.ClassFile.FieldType)) ∈ tw := tw_of w_154 rfl
theorem q_156 : (Jvm.Cond.superclass "DialSquare$Guild" "DialSquare$Tall") ∈ tw := tw_of w_156 rfl
theorem q_157 : (Jvm.Cond.classLink "DialSquare" (39 : Nat) "DialSquare$Low") ∈ tw := tw_of w_157 rfl
theorem q_158 : (Jvm.Cond.instantiable "DialSquare$Low" (0 : Nat)) ∈ tw := tw_of w_158 rfl
theorem q_160 : (Jvm.Cond.instanceMethod ({ cls := "DialSquare$Low", name := "<init>", desc := "()V" } : Jvm.MethodName)) ∈ tw := tw_of w_160 rfl
theorem q_161 : (Jvm.Cond.code ({ cls := "DialSquare$Low", name := "<init>", desc := "()V" } : Jvm.MethodName) prog_5_method_1_code (1 : Nat) (Option.none : Option Jvm.ClassFile.FieldType)) ∈ tw := tw_of w_161 rfl
theorem q_163 : (Jvm.Cond.superclass "DialSquare$Low" "DialSquare$Dial") ∈ tw := tw_of w_163 rfl
theorem q_164 : (Jvm.Cond.classLink "DialSquare" (42 : Nat) "DialSquare$Slit") ∈ tw := tw_of w_164 rfl
theorem q_165 : (Jvm.Cond.instantiable "DialSquare$Slit" (0 : Nat)) ∈ tw := tw_of w_165 rfl
theorem q_167 : (Jvm.Cond.instanceMethod ({ cls := "DialSquare$Slit", name := "<init>", desc := "()V" } : Jvm.MethodName)) ∈ tw := tw_of w_167 rfl
theorem q_168 : (Jvm.Cond.code ({ cls := "DialSquare$Slit", name := "<init>", desc := "()V" } : Jvm.MethodName) prog_10_method_1_code (1 : Nat) (Option.none : Option Jvm.ClassFile.FieldType)) ∈ tw := tw_of w_168 rfl
theorem q_170 : (Jvm.Cond.superclass "DialSquare$Slit" "DialSquare$Low") ∈ tw := tw_of w_170 rfl
theorem q_171 : (Jvm.Cond.classLink "DialSquare" (45 : Nat) "DialSquare$Rules") ∈ tw := tw_of w_171 rfl
theorem q_172 : (Jvm.Cond.instantiable "DialSquare$Rules" (6 : Nat)) ∈ tw := tw_of w_172 rfl
theorem q_173 : (Jvm.Cond.methodLink "DialSquare" (47 : Nat) ({ cls := "DialSquare$Rules", name := "<init>", desc := "(I[I[I[I[I)V" } : Jvm.MethodName)) ∈ tw := tw_of w_173 rfl
theorem q_174 : (Jvm.Cond.instanceMethod ({ cls := "DialSquare$Rules", name := "<init>", desc := "(I[I[I[I[I)V" } : Jvm.MethodName)) ∈ tw := tw_of w_174 rfl
theorem q_175 : (Jvm.Cond.code ({ cls := "DialSquare$Rules", name := "<init>", desc := "(I[I[I[I[I)V" } : Jvm.MethodName) prog_9_method_1_code (6 : Nat) (Option.none : Option Jvm.ClassFile.FieldType)) ∈ tw := tw_of w_175 rfl
theorem q_176 : (Jvm.Cond.methodLink "DialSquare$Rules" (3 : Nat) ({ cls := "java/lang/Object", name := "<init>", desc := "()V" } : Jvm.MethodName)) ∈ tw := tw_of w_176 rfl
theorem q_177 : (Jvm.Cond.fieldLink "DialSquare$Rules" (15 : Nat) "DialSquare$Rules" "count" "I") ∈ tw := tw_of w_177 rfl
theorem q_178 : (Jvm.Cond.fieldLink "DialSquare" (172 : Nat) "DialSquare$Rules" "count" "I") ∈ tw := tw_of w_178 rfl
theorem q_179 : (Jvm.Cond.fieldLink "DialSquare$Rules" (19 : Nat) "DialSquare$Rules" "kinds" "[I") ∈ tw := tw_of w_179 rfl
theorem q_180 : (Jvm.Cond.fieldLink "DialSquare$Rules" (22 : Nat) "DialSquare$Rules" "wills" "[I") ∈ tw := tw_of w_180 rfl
theorem q_181 : (Jvm.Cond.fieldLink "DialSquare$Rules" (25 : Nat) "DialSquare$Rules" "starts" "[I") ∈ tw := tw_of w_181 rfl
theorem q_182 : (Jvm.Cond.fieldLink "DialSquare$Rules" (28 : Nat) "DialSquare$Rules" "code" "[I") ∈ tw := tw_of w_182 rfl
theorem q_183 : (Jvm.Cond.fieldLink "DialSquare$Rules" (9 : Nat) "DialSquare$Rules" "stack" "[I") ∈ tw := tw_of w_183 rfl
theorem q_184 : (Jvm.Cond.laysFinal "DialSquare$Rules" "DialSquare$Rules" "count" "I") ∈ tw := tw_of w_184 rfl
theorem q_186 : (Jvm.Cond.laysFinal "DialSquare$Rules" "DialSquare$Rules" "kinds" "[I") ∈ tw := tw_of w_186 rfl
theorem q_188 : (Jvm.Cond.laysFinal "DialSquare$Rules" "DialSquare$Rules" "wills" "[I") ∈ tw := tw_of w_188 rfl
theorem q_190 : (Jvm.Cond.laysFinal "DialSquare$Rules" "DialSquare$Rules" "starts" "[I") ∈ tw := tw_of w_190 rfl
theorem q_192 : (Jvm.Cond.laysFinal "DialSquare$Rules" "DialSquare$Rules" "code" "[I") ∈ tw := tw_of w_192 rfl
theorem q_194 : (Jvm.Cond.laysFinal "DialSquare$Rules" "DialSquare$Rules" "stack" "[I") ∈ tw := tw_of w_194 rfl
theorem q_196 : (Jvm.Cond.superclass "DialSquare$Rules" "java/lang/Object") ∈ tw := tw_of w_196 rfl
theorem q_197 : (Jvm.Cond.classLink "DialSquare" (50 : Nat) "DialSquare$Square") ∈ tw := tw_of w_197 rfl
theorem q_198 : (Jvm.Cond.instantiable "DialSquare$Square" (14 : Nat)) ∈ tw := tw_of w_198 rfl
theorem q_199 : (Jvm.Cond.methodLink "DialSquare" (52 : Nat) ({ cls := "DialSquare$Square", name := "<init>", desc := "([LDialSquare$Dial;LDialSquare$Rules;)V" } : Jvm.MethodName)) ∈ tw := tw_of w_199 rfl
theorem q_200 : (Jvm.Cond.instanceMethod ({ cls := "DialSquare$Square", name := "<init>", desc := "([LDialSquare$Dial;LDialSquare$Rules;)V" } : Jvm.MethodName)) ∈ tw := tw_of w_200 rfl
theorem q_201 : (Jvm.Cond.code ({ cls := "DialSquare$Square", name := "<init>", desc := "([LDialSquare$Dial;LDialSquare$Rules;)V" } : Jvm.MethodName) prog_11_method_1_code (3 : Nat) (Option.none : Option Jvm.ClassFile.FieldType)) ∈ tw := tw_of w_201 rfl
theorem q_202 : (Jvm.Cond.methodLink "DialSquare$Square" (3 : Nat) ({ cls := "java/lang/Object", name := "<init>", desc := "()V" } : Jvm.MethodName)) ∈ tw := tw_of w_202 rfl
theorem q_203 : (Jvm.Cond.classLink "DialSquare$Square" (9 : Nat) "[[I") ∈ tw := tw_of w_203 rfl
theorem q_204 : (Jvm.Cond.methodLink "DialSquare$Square" (47 : Nat) ({ cls := "java/util/Arrays", name := "fill", desc := "([II)V" } : Jvm.MethodName)) ∈ tw := tw_of w_204 rfl
theorem q_205 : (Jvm.Cond.static ({ cls := "java/util/Arrays", name := "fill", desc := "([II)V" } : Jvm.MethodName)) ∈ tw := tw_of w_205 rfl
theorem q_206 : (Jvm.Cond.code ({ cls := "java/util/Arrays", name := "fill", desc := "([II)V" } : Jvm.MethodName) prog_22_method_103_code (4 : Nat) (Option.none : Option Jvm.ClassFile.FieldType)) ∈ tw := tw_of w_206 rfl
theorem q_207 : (Jvm.Cond.fieldLink "DialSquare$Square" (11 : Nat) "DialSquare$Square" "dials" "[[I") ∈ tw := tw_of w_207 rfl
theorem q_208 : (Jvm.Cond.fieldLink "DialSquare" (93 : Nat) "DialSquare$Square" "dials" "[[I") ∈ tw := tw_of w_208 rfl
theorem q_209 : (Jvm.Cond.fieldLink "DialSquare$Square" (16 : Nat) "DialSquare$Square" "spots" "[[I") ∈ tw := tw_of w_209 rfl
theorem q_210 : (Jvm.Cond.fieldLink "DialSquare" (119 : Nat) "DialSquare$Square" "spots" "[[I") ∈ tw := tw_of w_210 rfl
theorem q_211 : (Jvm.Cond.fieldLink "DialSquare$Square" (19 : Nat) "DialSquare$Square" "skies" "[I") ∈ tw := tw_of w_211 rfl
theorem q_212 : (Jvm.Cond.fieldLink "DialSquare" (116 : Nat) "DialSquare$Square" "skies" "[I") ∈ tw := tw_of w_212 rfl
theorem q_213 : (Jvm.Cond.fieldLink "DialSquare$Square" (23 : Nat) "DialSquare$Square" "reports" "[[I") ∈ tw := tw_of w_213 rfl
theorem q_214 : (Jvm.Cond.fieldLink "DialSquare" (82 : Nat) "DialSquare$Square" "count" "I") ∈ tw := tw_of w_214 rfl
theorem q_215 : (Jvm.Cond.fieldLink "DialSquare$Square" (59 : Nat) "DialSquare$Square" "count" "I") ∈ tw := tw_of w_215 rfl
theorem q_216 : (Jvm.Cond.fieldLink "DialSquare$Plans" (73 : Nat) "DialSquare$Square" "count" "I") ∈ tw := tw_of w_216 rfl
theorem q_217 : (Jvm.Cond.fieldLink "DialSquare$Square" (62 : Nat) "DialSquare$Square" "chime" "I") ∈ tw := tw_of w_217 rfl
theorem q_218 : (Jvm.Cond.fieldLink "DialSquare" (128 : Nat) "DialSquare$Square" "chime" "I") ∈ tw := tw_of w_218 rfl
theorem q_219 : (Jvm.Cond.fieldLink "DialSquare$Square" (26 : Nat) "DialSquare$Square" "end" "I") ∈ tw := tw_of w_219 rfl
theorem q_220 : (Jvm.Cond.fieldLink "DialSquare" (131 : Nat) "DialSquare$Square" "end" "I") ∈ tw := tw_of w_220 rfl
theorem q_221 : (Jvm.Cond.fieldLink "DialSquare$Square" (65 : Nat) "DialSquare$Square" "score" "I") ∈ tw := tw_of w_221 rfl
theorem q_222 : (Jvm.Cond.fieldLink "DialSquare" (134 : Nat) "DialSquare$Square" "score" "I") ∈ tw := tw_of w_222 rfl
theorem q_223 : (Jvm.Cond.fieldLink "DialSquare$Square" (68 : Nat) "DialSquare$Square" "reportCount" "I") ∈ tw := tw_of w_223 rfl
theorem q_224 : (Jvm.Cond.fieldLink "DialSquare" (240 : Nat) "DialSquare$Square" "reportCount" "I") ∈ tw := tw_of w_224 rfl
theorem q_225 : (Jvm.Cond.fieldLink "DialSquare$Square" (30 : Nat) "DialSquare$Square" "z" "I") ∈ tw := tw_of w_225 rfl
theorem q_226 : (Jvm.Cond.fieldLink "DialSquare" (260 : Nat) "DialSquare$Square" "z" "I") ∈ tw := tw_of w_226 rfl
theorem q_227 : (Jvm.Cond.fieldLink "DialSquare$Square" (43 : Nat) "DialSquare$Square" "rules" "LDialSquare$Rules;") ∈ tw := tw_of w_227 rfl
theorem q_228 : (Jvm.Cond.fieldLink "DialSquare" (168 : Nat) "DialSquare$Square" "rules" "LDialSquare$Rules;") ∈ tw := tw_of w_228 rfl
theorem q_229 : (Jvm.Cond.fieldLink "DialSquare$Square" (33 : Nat) "DialSquare$Square" "shades" "[I") ∈ tw := tw_of w_229 rfl
theorem q_230 : (Jvm.Cond.fieldLink "DialSquare" (125 : Nat) "DialSquare$Square" "shades" "[I") ∈ tw := tw_of w_230 rfl
theorem q_231 : (Jvm.Cond.fieldLink "DialSquare$Square" (36 : Nat) "DialSquare$Square" "facts" "[I") ∈ tw := tw_of w_231 rfl
theorem q_232 : (Jvm.Cond.fieldLink "DialSquare$Square" (39 : Nat) "DialSquare$Square" "kinds" "[LDialSquare$Dial;") ∈ tw := tw_of w_232 rfl
theorem q_233 : (Jvm.Cond.laysFinal "DialSquare$Square" "DialSquare$Square" "dials" "[[I") ∈ tw := tw_of w_233 rfl
theorem q_235 : (Jvm.Cond.laysFinal "DialSquare$Square" "DialSquare$Square" "spots" "[[I") ∈ tw := tw_of w_235 rfl
theorem q_237 : (Jvm.Cond.laysFinal "DialSquare$Square" "DialSquare$Square" "skies" "[I") ∈ tw := tw_of w_237 rfl
theorem q_239 : (Jvm.Cond.laysFinal "DialSquare$Square" "DialSquare$Square" "reports" "[[I") ∈ tw := tw_of w_239 rfl
theorem q_241 : (Jvm.Cond.lays "DialSquare$Square" "DialSquare$Square" "count" "I") ∈ tw := tw_of w_241 rfl
theorem q_243 : (Jvm.Cond.lays "DialSquare$Square" "DialSquare$Square" "chime" "I") ∈ tw := tw_of w_243 rfl
theorem q_245 : (Jvm.Cond.lays "DialSquare$Square" "DialSquare$Square" "end" "I") ∈ tw := tw_of w_245 rfl
theorem q_247 : (Jvm.Cond.lays "DialSquare$Square" "DialSquare$Square" "score" "I") ∈ tw := tw_of w_247 rfl
theorem q_249 : (Jvm.Cond.lays "DialSquare$Square" "DialSquare$Square" "reportCount" "I") ∈ tw := tw_of w_249 rfl
theorem q_251 : (Jvm.Cond.lays "DialSquare$Square" "DialSquare$Square" "z" "I") ∈ tw := tw_of w_251 rfl
theorem q_253 : (Jvm.Cond.lays "DialSquare$Square" "DialSquare$Square" "rules" "LDialSquare$Rules;") ∈ tw := tw_of w_253 rfl
theorem q_255 : (Jvm.Cond.laysFinal "DialSquare$Square" "DialSquare$Square" "shades" "[I") ∈ tw := tw_of w_255 rfl
theorem q_257 : (Jvm.Cond.laysFinal "DialSquare$Square" "DialSquare$Square" "facts" "[I") ∈ tw := tw_of w_257 rfl
theorem q_259 : (Jvm.Cond.laysFinal "DialSquare$Square" "DialSquare$Square" "kinds" "[LDialSquare$Dial;") ∈ tw := tw_of w_259 rfl
theorem q_261 : (Jvm.Cond.superclass "DialSquare$Square" "java/lang/Object") ∈ tw := tw_of w_261 rfl
theorem q_262 : (Jvm.Cond.classLink "DialSquare" (65 : Nat) "DialSquare$Plans") ∈ tw := tw_of w_262 rfl
theorem q_263 : (Jvm.Cond.instantiable "DialSquare$Plans" (14 : Nat)) ∈ tw := tw_of w_263 rfl
theorem q_264 : (Jvm.Cond.methodLink "DialSquare" (67 : Nat) ({ cls := "DialSquare$Plans", name := "<init>", desc := "(LDialSquare$Square;)V" } : Jvm.MethodName)) ∈ tw := tw_of w_264 rfl
theorem q_265 : (Jvm.Cond.instanceMethod ({ cls := "DialSquare$Plans", name := "<init>", desc := "(LDialSquare$Square;)V" } : Jvm.MethodName)) ∈ tw := tw_of w_265 rfl
theorem q_266 : (Jvm.Cond.code ({ cls := "DialSquare$Plans", name := "<init>", desc := "(LDialSquare$Square;)V" } : Jvm.MethodName) prog_7_method_1_code (2 : Nat) (Option.none : Option Jvm.ClassFile.FieldType)) ∈ tw := tw_of w_266 rfl
theorem q_267 : (Jvm.Cond.methodLink "DialSquare$Plans" (3 : Nat) ({ cls := "java/lang/Object", name := "<init>", desc := "()V" } : Jvm.MethodName)) ∈ tw := tw_of w_267 rfl
theorem q_268 : (Jvm.Cond.classLink "DialSquare$Plans" (15 : Nat) "[[I") ∈ tw := tw_of w_268 rfl
theorem q_269 : (Jvm.Cond.fieldLink "DialSquare$Plans" (9 : Nat) "DialSquare$Plans" "first" "[I") ∈ tw := tw_of w_269 rfl
theorem q_270 : (Jvm.Cond.fieldLink "DialSquare" (218 : Nat) "DialSquare$Plans" "first" "[I") ∈ tw := tw_of w_270 rfl
theorem q_271 : (Jvm.Cond.fieldLink "DialSquare$Plans" (43 : Nat) "DialSquare$Plans" "steps" "I") ∈ tw := tw_of w_271 rfl
theorem q_272 : (Jvm.Cond.fieldLink "DialSquare" (215 : Nat) "DialSquare$Plans" "steps" "I") ∈ tw := tw_of w_272 rfl
theorem q_273 : (Jvm.Cond.fieldLink "DialSquare$Plans" (46 : Nat) "DialSquare$Plans" "most" "I") ∈ tw := tw_of w_273 rfl
theorem q_274 : (Jvm.Cond.fieldLink "DialSquare" (212 : Nat) "DialSquare$Plans" "most" "I") ∈ tw := tw_of w_274 rfl
theorem q_275 : (Jvm.Cond.fieldLink "DialSquare$Plans" (49 : Nat) "DialSquare$Plans" "many" "I") ∈ tw := tw_of w_275 rfl
theorem q_276 : (Jvm.Cond.fieldLink "DialSquare" (221 : Nat) "DialSquare$Plans" "many" "I") ∈ tw := tw_of w_276 rfl
theorem q_277 : (Jvm.Cond.fieldLink "DialSquare$Plans" (52 : Nat) "DialSquare$Plans" "fewest" "I") ∈ tw := tw_of w_277 rfl
theorem q_278 : (Jvm.Cond.fieldLink "DialSquare" (227 : Nat) "DialSquare$Plans" "fewest" "I") ∈ tw := tw_of w_278 rfl
theorem q_279 : (Jvm.Cond.fieldLink "DialSquare$Plans" (55 : Nat) "DialSquare$Plans" "everRight" "I") ∈ tw := tw_of w_279 rfl
theorem q_280 : (Jvm.Cond.fieldLink "DialSquare" (230 : Nat) "DialSquare$Plans" "everRight" "I") ∈ tw := tw_of w_280 rfl
theorem q_281 : (Jvm.Cond.fieldLink "DialSquare$Plans" (96 : Nat) "DialSquare$Plans" "opening" "I") ∈ tw := tw_of w_281 rfl
theorem q_282 : (Jvm.Cond.fieldLink "DialSquare" (237 : Nat) "DialSquare$Plans" "opening" "I") ∈ tw := tw_of w_282 rfl
theorem q_283 : (Jvm.Cond.fieldLink "DialSquare$Plans" (17 : Nat) "DialSquare$Plans" "rows" "[[I") ∈ tw := tw_of w_283 rfl
theorem q_284 : (Jvm.Cond.fieldLink "DialSquare" (274 : Nat) "DialSquare$Plans" "rows" "[[I") ∈ tw := tw_of w_284 rfl
theorem q_285 : (Jvm.Cond.fieldLink "DialSquare$Plans" (99 : Nat) "DialSquare$Plans" "rowCount" "I") ∈ tw := tw_of w_285 rfl
theorem q_286 : (Jvm.Cond.fieldLink "DialSquare" (362 : Nat) "DialSquare$Plans" "rowCount" "I") ∈ tw := tw_of w_286 rfl
theorem q_287 : (Jvm.Cond.fieldLink "DialSquare$Plans" (26 : Nat) "DialSquare$Plans" "trial" "LDialSquare$Square;") ∈ tw := tw_of w_287 rfl
theorem q_288 : (Jvm.Cond.fieldLink "DialSquare$Plans" (20 : Nat) "DialSquare$Plans" "acts" "[I") ∈ tw := tw_of w_288 rfl
theorem q_289 : (Jvm.Cond.fieldLink "DialSquare$Plans" (23 : Nat) "DialSquare$Plans" "marks" "[[I") ∈ tw := tw_of w_289 rfl
theorem q_290 : (Jvm.Cond.fieldLink "DialSquare$Plans" (40 : Nat) "DialSquare$Plans" "deepest" "I") ∈ tw := tw_of w_290 rfl
theorem q_291 : (Jvm.Cond.fieldLink "DialSquare$Plans" (36 : Nat) "DialSquare$Plans" "wanted" "I") ∈ tw := tw_of w_291 rfl
theorem q_292 : (Jvm.Cond.laysFinal "DialSquare$Plans" "DialSquare$Plans" "first" "[I") ∈ tw := tw_of w_292 rfl
theorem q_294 : (Jvm.Cond.lays "DialSquare$Plans" "DialSquare$Plans" "steps" "I") ∈ tw := tw_of w_294 rfl
theorem q_296 : (Jvm.Cond.lays "DialSquare$Plans" "DialSquare$Plans" "most" "I") ∈ tw := tw_of w_296 rfl
theorem q_298 : (Jvm.Cond.lays "DialSquare$Plans" "DialSquare$Plans" "many" "I") ∈ tw := tw_of w_298 rfl
theorem q_300 : (Jvm.Cond.lays "DialSquare$Plans" "DialSquare$Plans" "fewest" "I") ∈ tw := tw_of w_300 rfl
theorem q_302 : (Jvm.Cond.lays "DialSquare$Plans" "DialSquare$Plans" "everRight" "I") ∈ tw := tw_of w_302 rfl
theorem q_304 : (Jvm.Cond.lays "DialSquare$Plans" "DialSquare$Plans" "opening" "I") ∈ tw := tw_of w_304 rfl
theorem q_306 : (Jvm.Cond.laysFinal "DialSquare$Plans" "DialSquare$Plans" "rows" "[[I") ∈ tw := tw_of w_306 rfl
theorem q_308 : (Jvm.Cond.lays "DialSquare$Plans" "DialSquare$Plans" "rowCount" "I") ∈ tw := tw_of w_308 rfl
theorem q_310 : (Jvm.Cond.laysFinal "DialSquare$Plans" "DialSquare$Plans" "trial" "LDialSquare$Square;") ∈ tw := tw_of w_310 rfl
theorem q_312 : (Jvm.Cond.laysFinal "DialSquare$Plans" "DialSquare$Plans" "acts" "[I") ∈ tw := tw_of w_312 rfl
theorem q_314 : (Jvm.Cond.laysFinal "DialSquare$Plans" "DialSquare$Plans" "marks" "[[I") ∈ tw := tw_of w_314 rfl
theorem q_316 : (Jvm.Cond.lays "DialSquare$Plans" "DialSquare$Plans" "deepest" "I") ∈ tw := tw_of w_316 rfl
theorem q_318 : (Jvm.Cond.lays "DialSquare$Plans" "DialSquare$Plans" "wanted" "I") ∈ tw := tw_of w_318 rfl
theorem q_320 : (Jvm.Cond.superclass "DialSquare$Plans" "java/lang/Object") ∈ tw := tw_of w_320 rfl
theorem q_321 : (Jvm.Cond.fieldLink "DialSquare" (55 : Nat) "DialSquare" "now" "LDialSquare$Square;") ∈ tw := tw_of w_321 rfl
theorem q_322 : (Jvm.Cond.fieldLink "DialSquare" (59 : Nat) "DialSquare" "kept" "LDialSquare$Square;") ∈ tw := tw_of w_322 rfl
theorem q_323 : (Jvm.Cond.fieldLink "DialSquare" (62 : Nat) "DialSquare" "trial" "LDialSquare$Square;") ∈ tw := tw_of w_323 rfl
theorem q_324 : (Jvm.Cond.fieldLink "DialSquare" (9 : Nat) "DialSquare" "marks" "[I") ∈ tw := tw_of w_324 rfl
theorem q_325 : (Jvm.Cond.fieldLink "DialSquare" (70 : Nat) "DialSquare" "plans" "LDialSquare$Plans;") ∈ tw := tw_of w_325 rfl
theorem q_326 : (Jvm.Cond.fieldLink "DialSquare" (16 : Nat) "DialSquare" "text" "LDialSquare$RuleText;") ∈ tw := tw_of w_326 rfl
theorem q_327 : (Jvm.Cond.fieldLink "DialSquare" (23 : Nat) "DialSquare" "host" "LDialSquare$Host;") ∈ tw := tw_of w_327 rfl
theorem q_328 : (Jvm.Cond.fieldLink "DialSquare" (365 : Nat) "DialSquare" "isKept" "Z") ∈ tw := tw_of w_328 rfl
theorem q_329 : (Jvm.Cond.laysFinal "DialSquare" "DialSquare" "now" "LDialSquare$Square;") ∈ tw := tw_of w_329 rfl
theorem q_331 : (Jvm.Cond.laysFinal "DialSquare" "DialSquare" "kept" "LDialSquare$Square;") ∈ tw := tw_of w_331 rfl
theorem q_333 : (Jvm.Cond.laysFinal "DialSquare" "DialSquare" "trial" "LDialSquare$Square;") ∈ tw := tw_of w_333 rfl
theorem q_335 : (Jvm.Cond.laysFinal "DialSquare" "DialSquare" "marks" "[I") ∈ tw := tw_of w_335 rfl
theorem q_337 : (Jvm.Cond.laysFinal "DialSquare" "DialSquare" "plans" "LDialSquare$Plans;") ∈ tw := tw_of w_337 rfl
theorem q_339 : (Jvm.Cond.laysFinal "DialSquare" "DialSquare" "text" "LDialSquare$RuleText;") ∈ tw := tw_of w_339 rfl
theorem q_341 : (Jvm.Cond.laysFinal "DialSquare" "DialSquare" "host" "LDialSquare$Host;") ∈ tw := tw_of w_341 rfl
theorem q_343 : (Jvm.Cond.lays "DialSquare" "DialSquare" "isKept" "Z") ∈ tw := tw_of w_343 rfl
theorem q_345 : (Jvm.Cond.superclass "DialSquare" "java/lang/Object") ∈ tw := tw_of w_345 rfl
theorem q_346 : (Jvm.Cond.methodLink "DialSquareLaw" (13 : Nat) ({ cls := "DialSquare", name := "dial", desc := "(IIII)I" } : Jvm.MethodName)) ∈ tw := tw_of w_346 rfl
theorem q_347 : (Jvm.Cond.instanceMethod ({ cls := "DialSquare", name := "dial", desc := "(IIII)I" } : Jvm.MethodName)) ∈ tw := tw_of w_347 rfl
theorem q_348 : (Jvm.Cond.selects "DialSquare" ({ cls := "DialSquare", name := "dial", desc := "(IIII)I" } : Jvm.MethodName) ({ cls := "DialSquare", name := "dial", desc := "(IIII)I" } : Jvm.MethodName)) ∈ tw := tw_of w_348 rfl
theorem q_349 : (Jvm.Cond.code ({ cls := "DialSquare", name := "dial", desc := "(IIII)I" } : Jvm.MethodName) prog_1_method_2_code (5 : Nat) (Option.some Jvm.ClassFile.FieldType.int)) ∈ tw := tw_of w_349 rfl
theorem q_350 : (Jvm.Cond.methodLink "DialSquare" (74 : Nat) ({ cls := "DialSquare", name := "isIn", desc := "(III)Z" } : Jvm.MethodName)) ∈ tw := tw_of w_350 rfl
theorem q_351 : (Jvm.Cond.static ({ cls := "DialSquare", name := "isIn", desc := "(III)Z" } : Jvm.MethodName)) ∈ tw := tw_of w_351 rfl
theorem q_352 : (Jvm.Cond.code ({ cls := "DialSquare", name := "isIn", desc := "(III)Z" } : Jvm.MethodName) prog_1_method_63_code (3 : Nat) (Option.some Jvm.ClassFile.FieldType.boolean)) ∈ tw := tw_of w_352 rfl
theorem q_353 : (Jvm.Cond.methodLink "DialSquare" (78 : Nat) ({ cls := "DialSquare", name := "isSpot", desc := "(I)Z" } : Jvm.MethodName)) ∈ tw := tw_of w_353 rfl
theorem q_354 : (Jvm.Cond.static ({ cls := "DialSquare", name := "isSpot", desc := "(I)Z" } : Jvm.MethodName)) ∈ tw := tw_of w_354 rfl
theorem q_355 : (Jvm.Cond.code ({ cls := "DialSquare", name := "isSpot", desc := "(I)Z" } : Jvm.MethodName) prog_1_method_64_code (1 : Nat) (Option.some Jvm.ClassFile.FieldType.boolean)) ∈ tw := tw_of w_355 rfl
theorem q_356 : (Jvm.Cond.methodLink "DialSquare" (86 : Nat) ({ cls := "DialSquare$Square", name := "put", desc := "(IIII)I" } : Jvm.MethodName)) ∈ tw := tw_of w_356 rfl
theorem q_357 : (Jvm.Cond.instanceMethod ({ cls := "DialSquare$Square", name := "put", desc := "(IIII)I" } : Jvm.MethodName)) ∈ tw := tw_of w_357 rfl
theorem q_358 : (Jvm.Cond.selects "DialSquare$Square" ({ cls := "DialSquare$Square", name := "put", desc := "(IIII)I" } : Jvm.MethodName) ({ cls := "DialSquare$Square", name := "put", desc := "(IIII)I" } : Jvm.MethodName)) ∈ tw := tw_of w_358 rfl
theorem q_359 : (Jvm.Cond.code ({ cls := "DialSquare$Square", name := "put", desc := "(IIII)I" } : Jvm.MethodName) prog_11_method_5_code (6 : Nat) (Option.some Jvm.ClassFile.FieldType.int)) ∈ tw := tw_of w_359 rfl
theorem q_360 : (Jvm.Cond.methodLink "DialSquareLaw" (18 : Nat) ({ cls := "DialSquare", name := "dialOf", desc := "(II)I" } : Jvm.MethodName)) ∈ tw := tw_of w_360 rfl
theorem q_361 : (Jvm.Cond.instanceMethod ({ cls := "DialSquare", name := "dialOf", desc := "(II)I" } : Jvm.MethodName)) ∈ tw := tw_of w_361 rfl
theorem q_362 : (Jvm.Cond.selects "DialSquare" ({ cls := "DialSquare", name := "dialOf", desc := "(II)I" } : Jvm.MethodName) ({ cls := "DialSquare", name := "dialOf", desc := "(II)I" } : Jvm.MethodName)) ∈ tw := tw_of w_362 rfl
theorem q_363 : (Jvm.Cond.code ({ cls := "DialSquare", name := "dialOf", desc := "(II)I" } : Jvm.MethodName) prog_1_method_3_code (3 : Nat) (Option.some Jvm.ClassFile.FieldType.int)) ∈ tw := tw_of w_363 rfl
theorem q_364 : (Jvm.Cond.methodLink "DialSquare" (90 : Nat) ({ cls := "DialSquare$Square", name := "has", desc := "(I)Z" } : Jvm.MethodName)) ∈ tw := tw_of w_364 rfl
theorem q_365 : (Jvm.Cond.instanceMethod ({ cls := "DialSquare$Square", name := "has", desc := "(I)Z" } : Jvm.MethodName)) ∈ tw := tw_of w_365 rfl
theorem q_366 : (Jvm.Cond.selects "DialSquare$Square" ({ cls := "DialSquare$Square", name := "has", desc := "(I)Z" } : Jvm.MethodName) ({ cls := "DialSquare$Square", name := "has", desc := "(I)Z" } : Jvm.MethodName)) ∈ tw := tw_of w_366 rfl
theorem q_367 : (Jvm.Cond.code ({ cls := "DialSquare$Square", name := "has", desc := "(I)Z" } : Jvm.MethodName) prog_11_method_7_code (2 : Nat) (Option.some Jvm.ClassFile.FieldType.boolean)) ∈ tw := tw_of w_367 rfl
theorem q_368 : (Jvm.Cond.methodLink "DialSquare" (97 : Nat) ({ cls := "DialSquare$Square", name := "shadesOf", desc := "(I)I" } : Jvm.MethodName)) ∈ tw := tw_of w_368 rfl
theorem q_369 : (Jvm.Cond.instanceMethod ({ cls := "DialSquare$Square", name := "shadesOf", desc := "(I)I" } : Jvm.MethodName)) ∈ tw := tw_of w_369 rfl
theorem q_370 : (Jvm.Cond.selects "DialSquare$Square" ({ cls := "DialSquare$Square", name := "shadesOf", desc := "(I)I" } : Jvm.MethodName) ({ cls := "DialSquare$Square", name := "shadesOf", desc := "(I)I" } : Jvm.MethodName)) ∈ tw := tw_of w_370 rfl
theorem q_371 : (Jvm.Cond.code ({ cls := "DialSquare$Square", name := "shadesOf", desc := "(I)I" } : Jvm.MethodName) prog_11_method_14_code (2 : Nat) (Option.some Jvm.ClassFile.FieldType.int)) ∈ tw := tw_of w_371 rfl
theorem q_372 : (Jvm.Cond.methodLink "DialSquare$Square" (75 : Nat) ({ cls := "DialSquare$Square", name := "kindOf", desc := "(I)LDialSquare$Dial;" } : Jvm.MethodName)) ∈ tw := tw_of w_372 rfl
theorem q_373 : (Jvm.Cond.instanceMethod ({ cls := "DialSquare$Square", name := "kindOf", desc := "(I)LDialSquare$Dial;" } : Jvm.MethodName)) ∈ tw := tw_of w_373 rfl
theorem q_374 : (Jvm.Cond.selects "DialSquare$Square" ({ cls := "DialSquare$Square", name := "kindOf", desc := "(I)LDialSquare$Dial;" } : Jvm.MethodName) ({ cls := "DialSquare$Square", name := "kindOf", desc := "(I)LDialSquare$Dial;" } : Jvm.MethodName)) ∈ tw := tw_of w_374 rfl
theorem q_375 : (Jvm.Cond.code ({ cls := "DialSquare$Square", name := "kindOf", desc := "(I)LDialSquare$Dial;" } : Jvm.MethodName) prog_11_method_11_code (2 : Nat) (Option.some (Jvm.ClassFile.FieldType.object "DialSquare$Dial"))) ∈ tw := tw_of w_375 rfl
theorem q_376 : (Jvm.Cond.methodLink "DialSquare$Square" (79 : Nat) ({ cls := "DialSquare$Square", name := "skyAt", desc := "(I)I" } : Jvm.MethodName)) ∈ tw := tw_of w_376 rfl
theorem q_377 : (Jvm.Cond.instanceMethod ({ cls := "DialSquare$Square", name := "skyAt", desc := "(I)I" } : Jvm.MethodName)) ∈ tw := tw_of w_377 rfl
theorem q_378 : (Jvm.Cond.selects "DialSquare$Square" ({ cls := "DialSquare$Square", name := "skyAt", desc := "(I)I" } : Jvm.MethodName) ({ cls := "DialSquare$Square", name := "skyAt", desc := "(I)I" } : Jvm.MethodName)) ∈ tw := tw_of w_378 rfl
theorem q_379 : (Jvm.Cond.code ({ cls := "DialSquare$Square", name := "skyAt", desc := "(I)I" } : Jvm.MethodName) prog_11_method_12_code (2 : Nat) (Option.some Jvm.ClassFile.FieldType.int)) ∈ tw := tw_of w_379 rfl
theorem q_380 : (Jvm.Cond.methodLink "DialSquare$Square" (83 : Nat) ({ cls := "DialSquare$Dial", name := "shades", desc := "(II)I" } : Jvm.MethodName)) ∈ tw := tw_of w_380 rfl
theorem q_381 : (Jvm.Cond.instanceMethod ({ cls := "DialSquare$Dial", name := "shades", desc := "(II)I" } : Jvm.MethodName)) ∈ tw := tw_of w_381 rfl
theorem q_382 : (Jvm.Cond.selects "DialSquare$Dial" ({ cls := "DialSquare$Dial", name := "shades", desc := "(II)I" } : Jvm.MethodName) ({ cls := "DialSquare$Dial", name := "shades", desc := "(II)I" } : Jvm.MethodName)) ∈ tw := tw_of w_382 rfl
theorem q_383 : (Jvm.Cond.sameMethod "DialSquare$Dial" "DialSquare$Dial" "shades" "(II)I") ∈ tw := tw_of w_383 rfl
theorem q_384 : (Jvm.Cond.selects "DialSquare$Guild" ({ cls := "DialSquare$Dial", name := "shades", desc := "(II)I" } : Jvm.MethodName) ({ cls := "DialSquare$Guild", name := "shades", desc := "(II)I" } : Jvm.MethodName)) ∈ tw := tw_of w_384 rfl
theorem q_385 : (Jvm.Cond.instanceMethod ({ cls := "DialSquare$Guild", name := "shades", desc := "(II)I" } : Jvm.MethodName)) ∈ tw := tw_of w_385 rfl
theorem q_386 : (Jvm.Cond.code ({ cls := "DialSquare$Guild", name := "shades", desc := "(II)I" } : Jvm.MethodName) prog_3_method_2_code (3 : Nat) (Option.some Jvm.ClassFile.FieldType.int)) ∈ tw := tw_of w_386 rfl
theorem q_387 : (Jvm.Cond.methodLink "DialSquare$Guild" (7 : Nat) ({ cls := "DialSquare$Tall", name := "shades", desc := "(II)I" } : Jvm.MethodName)) ∈ tw := tw_of w_387 rfl
theorem q_388 : (Jvm.Cond.instanceMethod ({ cls := "DialSquare$Tall", name := "shades", desc := "(II)I" } : Jvm.MethodName)) ∈ tw := tw_of w_388 rfl
theorem q_389 : (Jvm.Cond.code ({ cls := "DialSquare$Tall", name := "shades", desc := "(II)I" } : Jvm.MethodName) prog_12_method_2_code (3 : Nat) (Option.some Jvm.ClassFile.FieldType.int)) ∈ tw := tw_of w_389 rfl
theorem q_390 : (Jvm.Cond.methodLink "DialSquare$Tall" (7 : Nat) ({ cls := "DialSquare$Dial", name := "shades", desc := "(II)I" } : Jvm.MethodName)) ∈ tw := tw_of w_390 rfl
theorem q_391 : (Jvm.Cond.selects "DialSquare$Low" ({ cls := "DialSquare$Dial", name := "shades", desc := "(II)I" } : Jvm.MethodName) ({ cls := "DialSquare$Low", name := "shades", desc := "(II)I" } : Jvm.MethodName)) ∈ tw := tw_of w_391 rfl
theorem q_392 : (Jvm.Cond.instanceMethod ({ cls := "DialSquare$Low", name := "shades", desc := "(II)I" } : Jvm.MethodName)) ∈ tw := tw_of w_392 rfl
theorem q_393 : (Jvm.Cond.code ({ cls := "DialSquare$Low", name := "shades", desc := "(II)I" } : Jvm.MethodName) prog_5_method_2_code (3 : Nat) (Option.some Jvm.ClassFile.FieldType.int)) ∈ tw := tw_of w_393 rfl
theorem q_394 : (Jvm.Cond.selects "DialSquare$Noon" ({ cls := "DialSquare$Dial", name := "shades", desc := "(II)I" } : Jvm.MethodName) ({ cls := "DialSquare$Noon", name := "shades", desc := "(II)I" } : Jvm.MethodName)) ∈ tw := tw_of w_394 rfl
theorem q_395 : (Jvm.Cond.instanceMethod ({ cls := "DialSquare$Noon", name := "shades", desc := "(II)I" } : Jvm.MethodName)) ∈ tw := tw_of w_395 rfl
theorem q_396 : (Jvm.Cond.code ({ cls := "DialSquare$Noon", name := "shades", desc := "(II)I" } : Jvm.MethodName) prog_6_method_2_code (3 : Nat) (Option.some Jvm.ClassFile.FieldType.int)) ∈ tw := tw_of w_396 rfl
theorem q_397 : (Jvm.Cond.selects "DialSquare$Slit" ({ cls := "DialSquare$Dial", name := "shades", desc := "(II)I" } : Jvm.MethodName) ({ cls := "DialSquare$Slit", name := "shades", desc := "(II)I" } : Jvm.MethodName)) ∈ tw := tw_of w_397 rfl
theorem q_398 : (Jvm.Cond.instanceMethod ({ cls := "DialSquare$Slit", name := "shades", desc := "(II)I" } : Jvm.MethodName)) ∈ tw := tw_of w_398 rfl
theorem q_399 : (Jvm.Cond.code ({ cls := "DialSquare$Slit", name := "shades", desc := "(II)I" } : Jvm.MethodName) prog_10_method_2_code (3 : Nat) (Option.some Jvm.ClassFile.FieldType.int)) ∈ tw := tw_of w_399 rfl
theorem q_400 : (Jvm.Cond.methodLink "DialSquare$Slit" (7 : Nat) ({ cls := "DialSquare$Low", name := "shades", desc := "(II)I" } : Jvm.MethodName)) ∈ tw := tw_of w_400 rfl
theorem q_401 : (Jvm.Cond.selects "DialSquare$Tall" ({ cls := "DialSquare$Dial", name := "shades", desc := "(II)I" } : Jvm.MethodName) ({ cls := "DialSquare$Tall", name := "shades", desc := "(II)I" } : Jvm.MethodName)) ∈ tw := tw_of w_401 rfl
theorem q_402 : (Jvm.Cond.code ({ cls := "DialSquare$Dial", name := "shades", desc := "(II)I" } : Jvm.MethodName) prog_2_method_2_code (3 : Nat) (Option.some Jvm.ClassFile.FieldType.int)) ∈ tw := tw_of w_402 rfl
theorem q_403 : (Jvm.Cond.methodLink "DialSquare" (101 : Nat) ({ cls := "DialSquare$Square", name := "slipsOf", desc := "(I)I" } : Jvm.MethodName)) ∈ tw := tw_of w_403 rfl
theorem q_404 : (Jvm.Cond.instanceMethod ({ cls := "DialSquare$Square", name := "slipsOf", desc := "(I)I" } : Jvm.MethodName)) ∈ tw := tw_of w_404 rfl
theorem q_405 : (Jvm.Cond.selects "DialSquare$Square" ({ cls := "DialSquare$Square", name := "slipsOf", desc := "(I)I" } : Jvm.MethodName) ({ cls := "DialSquare$Square", name := "slipsOf", desc := "(I)I" } : Jvm.MethodName)) ∈ tw := tw_of w_405 rfl
theorem q_406 : (Jvm.Cond.code ({ cls := "DialSquare$Square", name := "slipsOf", desc := "(I)I" } : Jvm.MethodName) prog_11_method_16_code (2 : Nat) (Option.some Jvm.ClassFile.FieldType.int)) ∈ tw := tw_of w_406 rfl
theorem q_407 : (Jvm.Cond.methodLink "DialSquare$Square" (88 : Nat) ({ cls := "DialSquare$Square", name := "measureShades", desc := "()V" } : Jvm.MethodName)) ∈ tw := tw_of w_407 rfl
theorem q_408 : (Jvm.Cond.instanceMethod ({ cls := "DialSquare$Square", name := "measureShades", desc := "()V" } : Jvm.MethodName)) ∈ tw := tw_of w_408 rfl
theorem q_409 : (Jvm.Cond.selects "DialSquare$Square" ({ cls := "DialSquare$Square", name := "measureShades", desc := "()V" } : Jvm.MethodName) ({ cls := "DialSquare$Square", name := "measureShades", desc := "()V" } : Jvm.MethodName)) ∈ tw := tw_of w_409 rfl
theorem q_410 : (Jvm.Cond.code ({ cls := "DialSquare$Square", name := "measureShades", desc := "()V" } : Jvm.MethodName) prog_11_method_15_code (4 : Nat) (Option.none : Option Jvm.ClassFile.FieldType)) ∈ tw := tw_of w_410 rfl
theorem q_411 : (Jvm.Cond.methodLink "DialSquare$Square" (91 : Nat) ({ cls := "DialSquare$Dial", name := "slips", desc := "(II)I" } : Jvm.MethodName)) ∈ tw := tw_of w_411 rfl
theorem q_412 : (Jvm.Cond.instanceMethod ({ cls := "DialSquare$Dial", name := "slips", desc := "(II)I" } : Jvm.MethodName)) ∈ tw := tw_of w_412 rfl
theorem q_413 : (Jvm.Cond.selects "DialSquare$Dial" ({ cls := "DialSquare$Dial", name := "slips", desc := "(II)I" } : Jvm.MethodName) ({ cls := "DialSquare$Dial", name := "slips", desc := "(II)I" } : Jvm.MethodName)) ∈ tw := tw_of w_413 rfl
theorem q_414 : (Jvm.Cond.sameMethod "DialSquare$Dial" "DialSquare$Dial" "slips" "(II)I") ∈ tw := tw_of w_414 rfl
theorem q_415 : (Jvm.Cond.selects "DialSquare$Guild" ({ cls := "DialSquare$Dial", name := "slips", desc := "(II)I" } : Jvm.MethodName) ({ cls := "DialSquare$Guild", name := "slips", desc := "(II)I" } : Jvm.MethodName)) ∈ tw := tw_of w_415 rfl
theorem q_416 : (Jvm.Cond.instanceMethod ({ cls := "DialSquare$Guild", name := "slips", desc := "(II)I" } : Jvm.MethodName)) ∈ tw := tw_of w_416 rfl
theorem q_417 : (Jvm.Cond.code ({ cls := "DialSquare$Guild", name := "slips", desc := "(II)I" } : Jvm.MethodName) prog_3_method_3_code (4 : Nat) (Option.some Jvm.ClassFile.FieldType.int)) ∈ tw := tw_of w_417 rfl
theorem q_418 : (Jvm.Cond.methodLink "DialSquare$Guild" (11 : Nat) ({ cls := "DialSquare$Tall", name := "slips", desc := "(II)I" } : Jvm.MethodName)) ∈ tw := tw_of w_418 rfl
theorem q_419 : (Jvm.Cond.instanceMethod ({ cls := "DialSquare$Tall", name := "slips", desc := "(II)I" } : Jvm.MethodName)) ∈ tw := tw_of w_419 rfl
theorem q_420 : (Jvm.Cond.code ({ cls := "DialSquare$Tall", name := "slips", desc := "(II)I" } : Jvm.MethodName) prog_12_method_3_code (3 : Nat) (Option.some Jvm.ClassFile.FieldType.int)) ∈ tw := tw_of w_420 rfl
theorem q_421 : (Jvm.Cond.methodLink "DialSquare$Tall" (11 : Nat) ({ cls := "DialSquare$Dial", name := "slips", desc := "(II)I" } : Jvm.MethodName)) ∈ tw := tw_of w_421 rfl
theorem q_422 : (Jvm.Cond.selects "DialSquare$Low" ({ cls := "DialSquare$Dial", name := "slips", desc := "(II)I" } : Jvm.MethodName) ({ cls := "DialSquare$Low", name := "slips", desc := "(II)I" } : Jvm.MethodName)) ∈ tw := tw_of w_422 rfl
theorem q_423 : (Jvm.Cond.instanceMethod ({ cls := "DialSquare$Low", name := "slips", desc := "(II)I" } : Jvm.MethodName)) ∈ tw := tw_of w_423 rfl
theorem q_424 : (Jvm.Cond.code ({ cls := "DialSquare$Low", name := "slips", desc := "(II)I" } : Jvm.MethodName) prog_5_method_3_code (3 : Nat) (Option.some Jvm.ClassFile.FieldType.int)) ∈ tw := tw_of w_424 rfl
theorem q_425 : (Jvm.Cond.methodLink "DialSquare$Low" (7 : Nat) ({ cls := "DialSquare$Dial", name := "slips", desc := "(II)I" } : Jvm.MethodName)) ∈ tw := tw_of w_425 rfl
theorem q_426 : (Jvm.Cond.selects "DialSquare$Noon" ({ cls := "DialSquare$Dial", name := "slips", desc := "(II)I" } : Jvm.MethodName) ({ cls := "DialSquare$Noon", name := "slips", desc := "(II)I" } : Jvm.MethodName)) ∈ tw := tw_of w_426 rfl
theorem q_427 : (Jvm.Cond.instanceMethod ({ cls := "DialSquare$Noon", name := "slips", desc := "(II)I" } : Jvm.MethodName)) ∈ tw := tw_of w_427 rfl
theorem q_428 : (Jvm.Cond.code ({ cls := "DialSquare$Noon", name := "slips", desc := "(II)I" } : Jvm.MethodName) prog_6_method_3_code (3 : Nat) (Option.some Jvm.ClassFile.FieldType.int)) ∈ tw := tw_of w_428 rfl
theorem q_429 : (Jvm.Cond.selects "DialSquare$Slit" ({ cls := "DialSquare$Dial", name := "slips", desc := "(II)I" } : Jvm.MethodName) ({ cls := "DialSquare$Slit", name := "slips", desc := "(II)I" } : Jvm.MethodName)) ∈ tw := tw_of w_429 rfl
theorem q_430 : (Jvm.Cond.instanceMethod ({ cls := "DialSquare$Slit", name := "slips", desc := "(II)I" } : Jvm.MethodName)) ∈ tw := tw_of w_430 rfl
theorem q_431 : (Jvm.Cond.code ({ cls := "DialSquare$Slit", name := "slips", desc := "(II)I" } : Jvm.MethodName) prog_10_method_3_code (4 : Nat) (Option.some Jvm.ClassFile.FieldType.int)) ∈ tw := tw_of w_431 rfl
theorem q_432 : (Jvm.Cond.methodLink "DialSquare$Slit" (11 : Nat) ({ cls := "DialSquare$Low", name := "slips", desc := "(II)I" } : Jvm.MethodName)) ∈ tw := tw_of w_432 rfl
theorem q_433 : (Jvm.Cond.selects "DialSquare$Tall" ({ cls := "DialSquare$Dial", name := "slips", desc := "(II)I" } : Jvm.MethodName) ({ cls := "DialSquare$Tall", name := "slips", desc := "(II)I" } : Jvm.MethodName)) ∈ tw := tw_of w_433 rfl
theorem q_434 : (Jvm.Cond.code ({ cls := "DialSquare$Dial", name := "slips", desc := "(II)I" } : Jvm.MethodName) prog_2_method_3_code (3 : Nat) (Option.some Jvm.ClassFile.FieldType.int)) ∈ tw := tw_of w_434 rfl
theorem q_435 : (Jvm.Cond.methodLink "DialSquare" (104 : Nat) ({ cls := "DialSquare$Square", name := "paysOf", desc := "(I)I" } : Jvm.MethodName)) ∈ tw := tw_of w_435 rfl
theorem q_436 : (Jvm.Cond.instanceMethod ({ cls := "DialSquare$Square", name := "paysOf", desc := "(I)I" } : Jvm.MethodName)) ∈ tw := tw_of w_436 rfl
theorem q_437 : (Jvm.Cond.selects "DialSquare$Square" ({ cls := "DialSquare$Square", name := "paysOf", desc := "(I)I" } : Jvm.MethodName) ({ cls := "DialSquare$Square", name := "paysOf", desc := "(I)I" } : Jvm.MethodName)) ∈ tw := tw_of w_437 rfl
theorem q_438 : (Jvm.Cond.code ({ cls := "DialSquare$Square", name := "paysOf", desc := "(I)I" } : Jvm.MethodName) prog_11_method_17_code (3 : Nat) (Option.some Jvm.ClassFile.FieldType.int)) ∈ tw := tw_of w_438 rfl
theorem q_439 : (Jvm.Cond.methodLink "DialSquare$Square" (71 : Nat) ({ cls := "DialSquare$Square", name := "isRight", desc := "(I)Z" } : Jvm.MethodName)) ∈ tw := tw_of w_439 rfl
theorem q_440 : (Jvm.Cond.instanceMethod ({ cls := "DialSquare$Square", name := "isRight", desc := "(I)Z" } : Jvm.MethodName)) ∈ tw := tw_of w_440 rfl
theorem q_441 : (Jvm.Cond.selects "DialSquare$Square" ({ cls := "DialSquare$Square", name := "isRight", desc := "(I)Z" } : Jvm.MethodName) ({ cls := "DialSquare$Square", name := "isRight", desc := "(I)Z" } : Jvm.MethodName)) ∈ tw := tw_of w_441 rfl
theorem q_442 : (Jvm.Cond.code ({ cls := "DialSquare$Square", name := "isRight", desc := "(I)Z" } : Jvm.MethodName) prog_11_method_9_code (2 : Nat) (Option.some Jvm.ClassFile.FieldType.boolean)) ∈ tw := tw_of w_442 rfl
theorem q_443 : (Jvm.Cond.methodLink "DialSquare" (107 : Nat) ({ cls := "DialSquare$Square", name := "mayBeSet", desc := "(I)Z" } : Jvm.MethodName)) ∈ tw := tw_of w_443 rfl
theorem q_444 : (Jvm.Cond.instanceMethod ({ cls := "DialSquare$Square", name := "mayBeSet", desc := "(I)Z" } : Jvm.MethodName)) ∈ tw := tw_of w_444 rfl
theorem q_445 : (Jvm.Cond.selects "DialSquare$Square" ({ cls := "DialSquare$Square", name := "mayBeSet", desc := "(I)Z" } : Jvm.MethodName) ({ cls := "DialSquare$Square", name := "mayBeSet", desc := "(I)Z" } : Jvm.MethodName)) ∈ tw := tw_of w_445 rfl
theorem q_446 : (Jvm.Cond.code ({ cls := "DialSquare$Square", name := "mayBeSet", desc := "(I)Z" } : Jvm.MethodName) prog_11_method_24_code (2 : Nat) (Option.some Jvm.ClassFile.FieldType.boolean)) ∈ tw := tw_of w_446 rfl
theorem q_447 : (Jvm.Cond.methodLink "DialSquare$Square" (112 : Nat) ({ cls := "DialSquare$Square", name := "paysOf", desc := "(I)I" } : Jvm.MethodName)) ∈ tw := tw_of w_447 rfl
theorem q_448 : (Jvm.Cond.methodLink "DialSquare$Square" (115 : Nat) ({ cls := "DialSquare$Square", name := "willOf", desc := "(I)I" } : Jvm.MethodName)) ∈ tw := tw_of w_448 rfl
theorem q_449 : (Jvm.Cond.instanceMethod ({ cls := "DialSquare$Square", name := "willOf", desc := "(I)I" } : Jvm.MethodName)) ∈ tw := tw_of w_449 rfl
theorem q_450 : (Jvm.Cond.selects "DialSquare$Square" ({ cls := "DialSquare$Square", name := "willOf", desc := "(I)I" } : Jvm.MethodName) ({ cls := "DialSquare$Square", name := "willOf", desc := "(I)I" } : Jvm.MethodName)) ∈ tw := tw_of w_450 rfl
theorem q_451 : (Jvm.Cond.code ({ cls := "DialSquare$Square", name := "willOf", desc := "(I)I" } : Jvm.MethodName) prog_11_method_23_code (2 : Nat) (Option.some Jvm.ClassFile.FieldType.int)) ∈ tw := tw_of w_451 rfl
theorem q_452 : (Jvm.Cond.methodLink "DialSquare$Square" (106 : Nat) ({ cls := "DialSquare$Rules", name := "tell", desc := "(I[I)I" } : Jvm.MethodName)) ∈ tw := tw_of w_452 rfl
theorem q_453 : (Jvm.Cond.instanceMethod ({ cls := "DialSquare$Rules", name := "tell", desc := "(I[I)I" } : Jvm.MethodName)) ∈ tw := tw_of w_453 rfl
theorem q_454 : (Jvm.Cond.selects "DialSquare$Rules" ({ cls := "DialSquare$Rules", name := "tell", desc := "(I[I)I" } : Jvm.MethodName) ({ cls := "DialSquare$Rules", name := "tell", desc := "(I[I)I" } : Jvm.MethodName)) ∈ tw := tw_of w_454 rfl
theorem q_455 : (Jvm.Cond.code ({ cls := "DialSquare$Rules", name := "tell", desc := "(I[I)I" } : Jvm.MethodName) prog_9_method_2_code (4 : Nat) (Option.some Jvm.ClassFile.FieldType.int)) ∈ tw := tw_of w_455 rfl
theorem q_457 : (Jvm.Cond.static ({ cls := "DialSquare", name := "isUnder", desc := "(II)Z" } : Jvm.MethodName)) ∈ tw := tw_of w_457 rfl
theorem q_458 : (Jvm.Cond.code ({ cls := "DialSquare", name := "isUnder", desc := "(II)Z" } : Jvm.MethodName) prog_1_method_66_code (2 : Nat) (Option.some Jvm.ClassFile.FieldType.boolean)) ∈ tw := tw_of w_458 rfl
theorem q_459 : (Jvm.Cond.methodLink "DialSquare$Rules" (35 : Nat) ({ cls := "DialSquare$Rules", name := "holds", desc := "(II[I)Z" } : Jvm.MethodName)) ∈ tw := tw_of w_459 rfl
theorem q_461 : (Jvm.Cond.instanceMethod ({ cls := "DialSquare$Rules", name := "holds", desc := "(II[I)Z" } : Jvm.MethodName)) ∈ tw := tw_of w_461 rfl
theorem q_462 : (Jvm.Cond.code ({ cls := "DialSquare$Rules", name := "holds", desc := "(II[I)Z" } : Jvm.MethodName) prog_9_method_3_code (11 : Nat) (Option.some Jvm.ClassFile.FieldType.boolean)) ∈ tw := tw_of w_462 rfl
theorem q_463 : (Jvm.Cond.methodLink "DialSquare" (110 : Nat) ({ cls := "DialSquare$Square", name := "willOf", desc := "(I)I" } : Jvm.MethodName)) ∈ tw := tw_of w_463 rfl
theorem q_464 : (Jvm.Cond.methodLink "DialSquareLaw" (23 : Nat) ({ cls := "DialSquare", name := "change", desc := "(III)I" } : Jvm.MethodName)) ∈ tw := tw_of w_464 rfl
theorem q_465 : (Jvm.Cond.instanceMethod ({ cls := "DialSquare", name := "change", desc := "(III)I" } : Jvm.MethodName)) ∈ tw := tw_of w_465 rfl
theorem q_466 : (Jvm.Cond.selects "DialSquare" ({ cls := "DialSquare", name := "change", desc := "(III)I" } : Jvm.MethodName) ({ cls := "DialSquare", name := "change", desc := "(III)I" } : Jvm.MethodName)) ∈ tw := tw_of w_466 rfl
theorem q_467 : (Jvm.Cond.code ({ cls := "DialSquare", name := "change", desc := "(III)I" } : Jvm.MethodName) prog_1_method_4_code (5 : Nat) (Option.some Jvm.ClassFile.FieldType.int)) ∈ tw := tw_of w_467 rfl
theorem q_468 : (Jvm.Cond.methodLink "DialSquare" (113 : Nat) ({ cls := "DialSquare", name := "mostOf", desc := "(I)I" } : Jvm.MethodName)) ∈ tw := tw_of w_468 rfl
theorem q_469 : (Jvm.Cond.static ({ cls := "DialSquare", name := "mostOf", desc := "(I)I" } : Jvm.MethodName)) ∈ tw := tw_of w_469 rfl
theorem q_470 : (Jvm.Cond.code ({ cls := "DialSquare", name := "mostOf", desc := "(I)I" } : Jvm.MethodName) prog_1_method_5_code (1 : Nat) (Option.some Jvm.ClassFile.FieldType.int)) ∈ tw := tw_of w_470 rfl
theorem q_471 : (Jvm.Cond.methodLink "DialSquareLaw" (28 : Nat) ({ cls := "DialSquare", name := "remake", desc := "(II)I" } : Jvm.MethodName)) ∈ tw := tw_of w_471 rfl
theorem q_472 : (Jvm.Cond.instanceMethod ({ cls := "DialSquare", name := "remake", desc := "(II)I" } : Jvm.MethodName)) ∈ tw := tw_of w_472 rfl
theorem q_473 : (Jvm.Cond.selects "DialSquare" ({ cls := "DialSquare", name := "remake", desc := "(II)I" } : Jvm.MethodName) ({ cls := "DialSquare", name := "remake", desc := "(II)I" } : Jvm.MethodName)) ∈ tw := tw_of w_473 rfl
theorem q_474 : (Jvm.Cond.code ({ cls := "DialSquare", name := "remake", desc := "(II)I" } : Jvm.MethodName) prog_1_method_6_code (4 : Nat) (Option.some Jvm.ClassFile.FieldType.int)) ∈ tw := tw_of w_474 rfl
theorem q_475 : (Jvm.Cond.methodLink "DialSquareLaw" (32 : Nat) ({ cls := "DialSquare", name := "sky", desc := "(II)I" } : Jvm.MethodName)) ∈ tw := tw_of w_475 rfl
theorem q_476 : (Jvm.Cond.instanceMethod ({ cls := "DialSquare", name := "sky", desc := "(II)I" } : Jvm.MethodName)) ∈ tw := tw_of w_476 rfl
theorem q_477 : (Jvm.Cond.selects "DialSquare" ({ cls := "DialSquare", name := "sky", desc := "(II)I" } : Jvm.MethodName) ({ cls := "DialSquare", name := "sky", desc := "(II)I" } : Jvm.MethodName)) ∈ tw := tw_of w_477 rfl
theorem q_478 : (Jvm.Cond.code ({ cls := "DialSquare", name := "sky", desc := "(II)I" } : Jvm.MethodName) prog_1_method_7_code (4 : Nat) (Option.some Jvm.ClassFile.FieldType.int)) ∈ tw := tw_of w_478 rfl
theorem q_479 : (Jvm.Cond.methodLink "DialSquareLaw" (36 : Nat) ({ cls := "DialSquare", name := "spot", desc := "(III)I" } : Jvm.MethodName)) ∈ tw := tw_of w_479 rfl
theorem q_480 : (Jvm.Cond.instanceMethod ({ cls := "DialSquare", name := "spot", desc := "(III)I" } : Jvm.MethodName)) ∈ tw := tw_of w_480 rfl
theorem q_481 : (Jvm.Cond.selects "DialSquare" ({ cls := "DialSquare", name := "spot", desc := "(III)I" } : Jvm.MethodName) ({ cls := "DialSquare", name := "spot", desc := "(III)I" } : Jvm.MethodName)) ∈ tw := tw_of w_481 rfl
theorem q_482 : (Jvm.Cond.code ({ cls := "DialSquare", name := "spot", desc := "(III)I" } : Jvm.MethodName) prog_1_method_8_code (5 : Nat) (Option.some Jvm.ClassFile.FieldType.int)) ∈ tw := tw_of w_482 rfl
theorem q_483 : (Jvm.Cond.methodLink "DialSquareLaw" (40 : Nat) ({ cls := "DialSquare", name := "spotOf", desc := "(II)I" } : Jvm.MethodName)) ∈ tw := tw_of w_483 rfl
theorem q_484 : (Jvm.Cond.instanceMethod ({ cls := "DialSquare", name := "spotOf", desc := "(II)I" } : Jvm.MethodName)) ∈ tw := tw_of w_484 rfl
theorem q_485 : (Jvm.Cond.selects "DialSquare" ({ cls := "DialSquare", name := "spotOf", desc := "(II)I" } : Jvm.MethodName) ({ cls := "DialSquare", name := "spotOf", desc := "(II)I" } : Jvm.MethodName)) ∈ tw := tw_of w_485 rfl
theorem q_486 : (Jvm.Cond.code ({ cls := "DialSquare", name := "spotOf", desc := "(II)I" } : Jvm.MethodName) prog_1_method_9_code (3 : Nat) (Option.some Jvm.ClassFile.FieldType.int)) ∈ tw := tw_of w_486 rfl
theorem q_487 : (Jvm.Cond.methodLink "DialSquare" (122 : Nat) ({ cls := "DialSquare$Square", name := "measureShades", desc := "()V" } : Jvm.MethodName)) ∈ tw := tw_of w_487 rfl
theorem q_488 : (Jvm.Cond.methodLink "DialSquareLaw" (44 : Nat) ({ cls := "DialSquare", name := "ends", desc := "(I)I" } : Jvm.MethodName)) ∈ tw := tw_of w_488 rfl
theorem q_489 : (Jvm.Cond.instanceMethod ({ cls := "DialSquare", name := "ends", desc := "(I)I" } : Jvm.MethodName)) ∈ tw := tw_of w_489 rfl
theorem q_490 : (Jvm.Cond.selects "DialSquare" ({ cls := "DialSquare", name := "ends", desc := "(I)I" } : Jvm.MethodName) ({ cls := "DialSquare", name := "ends", desc := "(I)I" } : Jvm.MethodName)) ∈ tw := tw_of w_490 rfl
theorem q_491 : (Jvm.Cond.code ({ cls := "DialSquare", name := "ends", desc := "(I)I" } : Jvm.MethodName) prog_1_method_10_code (3 : Nat) (Option.some Jvm.ClassFile.FieldType.int)) ∈ tw := tw_of w_491 rfl
theorem q_492 : (Jvm.Cond.methodLink "DialSquareLaw" (49 : Nat) ({ cls := "DialSquare", name := "anew", desc := "()I" } : Jvm.MethodName)) ∈ tw := tw_of w_492 rfl
theorem q_493 : (Jvm.Cond.instanceMethod ({ cls := "DialSquare", name := "anew", desc := "()I" } : Jvm.MethodName)) ∈ tw := tw_of w_493 rfl
theorem q_494 : (Jvm.Cond.selects "DialSquare" ({ cls := "DialSquare", name := "anew", desc := "()I" } : Jvm.MethodName) ({ cls := "DialSquare", name := "anew", desc := "()I" } : Jvm.MethodName)) ∈ tw := tw_of w_494 rfl
theorem q_495 : (Jvm.Cond.code ({ cls := "DialSquare", name := "anew", desc := "()I" } : Jvm.MethodName) prog_1_method_11_code (3 : Nat) (Option.some Jvm.ClassFile.FieldType.int)) ∈ tw := tw_of w_495 rfl
theorem q_496 : (Jvm.Cond.methodLink "DialSquareLaw" (54 : Nat) ({ cls := "DialSquare", name := "state", desc := "(I)I" } : Jvm.MethodName)) ∈ tw := tw_of w_496 rfl
theorem q_497 : (Jvm.Cond.instanceMethod ({ cls := "DialSquare", name := "state", desc := "(I)I" } : Jvm.MethodName)) ∈ tw := tw_of w_497 rfl
theorem q_498 : (Jvm.Cond.selects "DialSquare" ({ cls := "DialSquare", name := "state", desc := "(I)I" } : Jvm.MethodName) ({ cls := "DialSquare", name := "state", desc := "(I)I" } : Jvm.MethodName)) ∈ tw := tw_of w_498 rfl
theorem q_499 : (Jvm.Cond.code ({ cls := "DialSquare", name := "state", desc := "(I)I" } : Jvm.MethodName) prog_1_method_12_code (2 : Nat) (Option.some Jvm.ClassFile.FieldType.int)) ∈ tw := tw_of w_499 rfl
theorem q_500 : (Jvm.Cond.methodLink "DialSquare" (137 : Nat) ({ cls := "DialSquare$Square", name := "isOver", desc := "()Z" } : Jvm.MethodName)) ∈ tw := tw_of w_500 rfl
theorem q_501 : (Jvm.Cond.instanceMethod ({ cls := "DialSquare$Square", name := "isOver", desc := "()Z" } : Jvm.MethodName)) ∈ tw := tw_of w_501 rfl
theorem q_502 : (Jvm.Cond.selects "DialSquare$Square" ({ cls := "DialSquare$Square", name := "isOver", desc := "()Z" } : Jvm.MethodName) ({ cls := "DialSquare$Square", name := "isOver", desc := "()Z" } : Jvm.MethodName)) ∈ tw := tw_of w_502 rfl
theorem q_503 : (Jvm.Cond.code ({ cls := "DialSquare$Square", name := "isOver", desc := "()Z" } : Jvm.MethodName) prog_11_method_10_code (1 : Nat) (Option.some Jvm.ClassFile.FieldType.boolean)) ∈ tw := tw_of w_503 rfl
theorem q_504 : (Jvm.Cond.methodLink "DialSquare" (141 : Nat) ({ cls := "DialSquare$Square", name := "rightSet", desc := "()I" } : Jvm.MethodName)) ∈ tw := tw_of w_504 rfl
theorem q_505 : (Jvm.Cond.instanceMethod ({ cls := "DialSquare$Square", name := "rightSet", desc := "()I" } : Jvm.MethodName)) ∈ tw := tw_of w_505 rfl
theorem q_506 : (Jvm.Cond.selects "DialSquare$Square" ({ cls := "DialSquare$Square", name := "rightSet", desc := "()I" } : Jvm.MethodName) ({ cls := "DialSquare$Square", name := "rightSet", desc := "()I" } : Jvm.MethodName)) ∈ tw := tw_of w_506 rfl
theorem q_507 : (Jvm.Cond.code ({ cls := "DialSquare$Square", name := "rightSet", desc := "()I" } : Jvm.MethodName) prog_11_method_13_code (3 : Nat) (Option.some Jvm.ClassFile.FieldType.int)) ∈ tw := tw_of w_507 rfl
theorem q_508 : (Jvm.Cond.methodLink "DialSquare" (145 : Nat) ({ cls := "DialSquare$Square", name := "skyAt", desc := "(I)I" } : Jvm.MethodName)) ∈ tw := tw_of w_508 rfl
theorem q_509 : (Jvm.Cond.methodLink "DialSquare" (148 : Nat) ({ cls := "DialSquare$Square", name := "pairs", desc := "()I" } : Jvm.MethodName)) ∈ tw := tw_of w_509 rfl
theorem q_510 : (Jvm.Cond.instanceMethod ({ cls := "DialSquare$Square", name := "pairs", desc := "()I" } : Jvm.MethodName)) ∈ tw := tw_of w_510 rfl
theorem q_511 : (Jvm.Cond.selects "DialSquare$Square" ({ cls := "DialSquare$Square", name := "pairs", desc := "()I" } : Jvm.MethodName) ({ cls := "DialSquare$Square", name := "pairs", desc := "()I" } : Jvm.MethodName)) ∈ tw := tw_of w_511 rfl
theorem q_512 : (Jvm.Cond.code ({ cls := "DialSquare$Square", name := "pairs", desc := "()I" } : Jvm.MethodName) prog_11_method_19_code (4 : Nat) (Option.some Jvm.ClassFile.FieldType.int)) ∈ tw := tw_of w_512 rfl
theorem q_513 : (Jvm.Cond.methodLink "DialSquare$Square" (99 : Nat) ({ cls := "DialSquare$Square", name := "agree", desc := "(II)Z" } : Jvm.MethodName)) ∈ tw := tw_of w_513 rfl
theorem q_514 : (Jvm.Cond.instanceMethod ({ cls := "DialSquare$Square", name := "agree", desc := "(II)Z" } : Jvm.MethodName)) ∈ tw := tw_of w_514 rfl
theorem q_515 : (Jvm.Cond.selects "DialSquare$Square" ({ cls := "DialSquare$Square", name := "agree", desc := "(II)Z" } : Jvm.MethodName) ({ cls := "DialSquare$Square", name := "agree", desc := "(II)Z" } : Jvm.MethodName)) ∈ tw := tw_of w_515 rfl
theorem q_516 : (Jvm.Cond.code ({ cls := "DialSquare$Square", name := "agree", desc := "(II)Z" } : Jvm.MethodName) prog_11_method_18_code (3 : Nat) (Option.some Jvm.ClassFile.FieldType.boolean)) ∈ tw := tw_of w_516 rfl
theorem q_517 : (Jvm.Cond.methodLink "DialSquare$Square" (94 : Nat) ({ cls := "java/lang/Math", name := "abs", desc := "(I)I" } : Jvm.MethodName)) ∈ tw := tw_of w_517 rfl
theorem q_518 : (Jvm.Cond.static ({ cls := "java/lang/Math", name := "abs", desc := "(I)I" } : Jvm.MethodName)) ∈ tw := tw_of w_518 rfl
theorem q_519 : (Jvm.Cond.code ({ cls := "java/lang/Math", name := "abs", desc := "(I)I" } : Jvm.MethodName) prog_17_method_59_code (1 : Nat) (Option.some Jvm.ClassFile.FieldType.int)) ∈ tw := tw_of w_519 rfl
theorem q_520 : (Jvm.Cond.methodLink "DialSquareLaw" (60 : Nat) ({ cls := "DialSquare", name := "feed", desc := "(JI)I" } : Jvm.MethodName)) ∈ tw := tw_of w_520 rfl
theorem q_521 : (Jvm.Cond.instanceMethod ({ cls := "DialSquare", name := "feed", desc := "(JI)I" } : Jvm.MethodName)) ∈ tw := tw_of w_521 rfl
theorem q_522 : (Jvm.Cond.selects "DialSquare" ({ cls := "DialSquare", name := "feed", desc := "(JI)I" } : Jvm.MethodName) ({ cls := "DialSquare", name := "feed", desc := "(JI)I" } : Jvm.MethodName)) ∈ tw := tw_of w_522 rfl
theorem q_523 : (Jvm.Cond.code ({ cls := "DialSquare", name := "feed", desc := "(JI)I" } : Jvm.MethodName) prog_1_method_13_code (4 : Nat) (Option.some Jvm.ClassFile.FieldType.int)) ∈ tw := tw_of w_523 rfl
theorem q_524 : (Jvm.Cond.methodLink "DialSquare" (154 : Nat) ({ cls := "DialSquare$RuleText", name := "append", desc := "(JI)I" } : Jvm.MethodName)) ∈ tw := tw_of w_524 rfl
theorem q_525 : (Jvm.Cond.instanceMethod ({ cls := "DialSquare$RuleText", name := "append", desc := "(JI)I" } : Jvm.MethodName)) ∈ tw := tw_of w_525 rfl
theorem q_526 : (Jvm.Cond.selects "DialSquare$RuleText" ({ cls := "DialSquare$RuleText", name := "append", desc := "(JI)I" } : Jvm.MethodName) ({ cls := "DialSquare$RuleText", name := "append", desc := "(JI)I" } : Jvm.MethodName)) ∈ tw := tw_of w_526 rfl
theorem q_527 : (Jvm.Cond.code ({ cls := "DialSquare$RuleText", name := "append", desc := "(JI)I" } : Jvm.MethodName) prog_8_method_2_code (5 : Nat) (Option.some Jvm.ClassFile.FieldType.int)) ∈ tw := tw_of w_527 rfl
theorem q_528 : (Jvm.Cond.methodLink "DialSquareLaw" (65 : Nat) ({ cls := "DialSquare", name := "rules", desc := "()I" } : Jvm.MethodName)) ∈ tw := tw_of w_528 rfl
theorem q_529 : (Jvm.Cond.instanceMethod ({ cls := "DialSquare", name := "rules", desc := "()I" } : Jvm.MethodName)) ∈ tw := tw_of w_529 rfl
theorem q_530 : (Jvm.Cond.selects "DialSquare" ({ cls := "DialSquare", name := "rules", desc := "()I" } : Jvm.MethodName) ({ cls := "DialSquare", name := "rules", desc := "()I" } : Jvm.MethodName)) ∈ tw := tw_of w_530 rfl
theorem q_531 : (Jvm.Cond.code ({ cls := "DialSquare", name := "rules", desc := "()I" } : Jvm.MethodName) prog_1_method_14_code (2 : Nat) (Option.some Jvm.ClassFile.FieldType.int)) ∈ tw := tw_of w_531 rfl
theorem q_532 : (Jvm.Cond.methodLink "DialSquare" (158 : Nat) ({ cls := "DialSquare$RuleText", name := "read", desc := "()Z" } : Jvm.MethodName)) ∈ tw := tw_of w_532 rfl
theorem q_533 : (Jvm.Cond.instanceMethod ({ cls := "DialSquare$RuleText", name := "read", desc := "()Z" } : Jvm.MethodName)) ∈ tw := tw_of w_533 rfl
theorem q_534 : (Jvm.Cond.selects "DialSquare$RuleText" ({ cls := "DialSquare$RuleText", name := "read", desc := "()Z" } : Jvm.MethodName) ({ cls := "DialSquare$RuleText", name := "read", desc := "()Z" } : Jvm.MethodName)) ∈ tw := tw_of w_534 rfl
theorem q_535 : (Jvm.Cond.code ({ cls := "DialSquare$RuleText", name := "read", desc := "()Z" } : Jvm.MethodName) prog_8_method_3_code (2 : Nat) (Option.some Jvm.ClassFile.FieldType.boolean)) ∈ tw := tw_of w_535 rfl
theorem q_536 : (Jvm.Cond.methodLink "DialSquare$RuleText" (38 : Nat) ({ cls := "DialSquare$RuleText", name := "cutWords", desc := "()V" } : Jvm.MethodName)) ∈ tw := tw_of w_536 rfl
theorem q_538 : (Jvm.Cond.instanceMethod ({ cls := "DialSquare$RuleText", name := "cutWords", desc := "()V" } : Jvm.MethodName)) ∈ tw := tw_of w_538 rfl
theorem q_539 : (Jvm.Cond.code ({ cls := "DialSquare$RuleText", name := "cutWords", desc := "()V" } : Jvm.MethodName) prog_8_method_6_code (5 : Nat) (Option.none : Option Jvm.ClassFile.FieldType)) ∈ tw := tw_of w_539 rfl
theorem q_540 : (Jvm.Cond.methodLink "DialSquare$RuleText" (65 : Nat) ({ cls := "DialSquare$RuleText", name := "endOfRow", desc := "(I)I" } : Jvm.MethodName)) ∈ tw := tw_of w_540 rfl
theorem q_542 : (Jvm.Cond.instanceMethod ({ cls := "DialSquare$RuleText", name := "endOfRow", desc := "(I)I" } : Jvm.MethodName)) ∈ tw := tw_of w_542 rfl
theorem q_543 : (Jvm.Cond.code ({ cls := "DialSquare$RuleText", name := "endOfRow", desc := "(I)I" } : Jvm.MethodName) prog_8_method_7_code (4 : Nat) (Option.some Jvm.ClassFile.FieldType.int)) ∈ tw := tw_of w_543 rfl
theorem q_544 : (Jvm.Cond.methodLink "DialSquare$RuleText" (69 : Nat) ({ cls := "DialSquare$RuleText", name := "sortOf", desc := "(I)I" } : Jvm.MethodName)) ∈ tw := tw_of w_544 rfl
theorem q_545 : (Jvm.Cond.static ({ cls := "DialSquare$RuleText", name := "sortOf", desc := "(I)I" } : Jvm.MethodName)) ∈ tw := tw_of w_545 rfl
theorem q_546 : (Jvm.Cond.code ({ cls := "DialSquare$RuleText", name := "sortOf", desc := "(I)I" } : Jvm.MethodName) prog_8_method_8_code (1 : Nat) (Option.some Jvm.ClassFile.FieldType.int)) ∈ tw := tw_of w_546 rfl
theorem q_547 : (Jvm.Cond.methodLink "DialSquare$RuleText" (72 : Nat) ({ cls := "DialSquare$RuleText", name := "numberOf", desc := "(II)I" } : Jvm.MethodName)) ∈ tw := tw_of w_547 rfl
theorem q_549 : (Jvm.Cond.instanceMethod ({ cls := "DialSquare$RuleText", name := "numberOf", desc := "(II)I" } : Jvm.MethodName)) ∈ tw := tw_of w_549 rfl
theorem q_550 : (Jvm.Cond.code ({ cls := "DialSquare$RuleText", name := "numberOf", desc := "(II)I" } : Jvm.MethodName) prog_8_method_9_code (5 : Nat) (Option.some Jvm.ClassFile.FieldType.int)) ∈ tw := tw_of w_550 rfl
theorem q_551 : (Jvm.Cond.methodLink "DialSquare$RuleText" (76 : Nat) ({ cls := "DialSquare$RuleText", name := "wordOf", desc := "(II)I" } : Jvm.MethodName)) ∈ tw := tw_of w_551 rfl
theorem q_553 : (Jvm.Cond.instanceMethod ({ cls := "DialSquare$RuleText", name := "wordOf", desc := "(II)I" } : Jvm.MethodName)) ∈ tw := tw_of w_553 rfl
theorem q_554 : (Jvm.Cond.code ({ cls := "DialSquare$RuleText", name := "wordOf", desc := "(II)I" } : Jvm.MethodName) prog_8_method_10_code (6 : Nat) (Option.some Jvm.ClassFile.FieldType.int)) ∈ tw := tw_of w_554 rfl
theorem q_556 : (Jvm.Cond.methodLink "DialSquare$RuleText" (81 : Nat) ({ cls := "java/lang/String", name := "length", desc := "()I" } : Jvm.MethodName)) ∈ tw := tw_of w_556 rfl
theorem q_557 : (Jvm.Cond.instanceMethod ({ cls := "java/lang/String", name := "length", desc := "()I" } : Jvm.MethodName)) ∈ tw := tw_of w_557 rfl
theorem q_558 : (Jvm.Cond.selects "java/lang/String" ({ cls := "java/lang/String", name := "length", desc := "()I" } : Jvm.MethodName) ({ cls := "java/lang/String", name := "length", desc := "()I" } : Jvm.MethodName)) ∈ tw := tw_of w_558 rfl
theorem q_559 : (Jvm.Cond.code ({ cls := "java/lang/String", name := "length", desc := "()I" } : Jvm.MethodName) prog_18_method_54_code (1 : Nat) (Option.some Jvm.ClassFile.FieldType.int)) ∈ tw := tw_of w_559 rfl
theorem q_560 : (Jvm.Cond.methodLink "java/lang/String" (335 : Nat) ({ cls := "java/lang/String", name := "coder", desc := "()B" } : Jvm.MethodName)) ∈ tw := tw_of w_560 rfl
theorem q_561 : (Jvm.Cond.instanceMethod ({ cls := "java/lang/String", name := "coder", desc := "()B" } : Jvm.MethodName)) ∈ tw := tw_of w_561 rfl
theorem q_562 : (Jvm.Cond.selects "java/lang/String" ({ cls := "java/lang/String", name := "coder", desc := "()B" } : Jvm.MethodName) ({ cls := "java/lang/String", name := "coder", desc := "()B" } : Jvm.MethodName)) ∈ tw := tw_of w_562 rfl
theorem q_563 : (Jvm.Cond.code ({ cls := "java/lang/String", name := "coder", desc := "()B" } : Jvm.MethodName) prog_18_method_152_code (1 : Nat) (Option.some Jvm.ClassFile.FieldType.byte)) ∈ tw := tw_of w_563 rfl
theorem q_564 : (Jvm.Cond.fieldLink "java/lang/String" (38 : Nat) "java/lang/String" "COMPACT_STRINGS" "Z") ∈ tw := tw_of w_564 rfl
theorem q_566 : (Jvm.Cond.methodLink "DialSquare$RuleText" (86 : Nat) ({ cls := "java/lang/String", name := "charAt", desc := "(I)C" } : Jvm.MethodName)) ∈ tw := tw_of w_566 rfl
theorem q_567 : (Jvm.Cond.instanceMethod ({ cls := "java/lang/String", name := "charAt", desc := "(I)C" } : Jvm.MethodName)) ∈ tw := tw_of w_567 rfl
theorem q_568 : (Jvm.Cond.selects "java/lang/String" ({ cls := "java/lang/String", name := "charAt", desc := "(I)C" } : Jvm.MethodName) ({ cls := "java/lang/String", name := "charAt", desc := "(I)C" } : Jvm.MethodName)) ∈ tw := tw_of w_568 rfl
theorem q_569 : (Jvm.Cond.code ({ cls := "java/lang/String", name := "charAt", desc := "(I)C" } : Jvm.MethodName) prog_18_method_56_code (2 : Nat) (Option.some Jvm.ClassFile.FieldType.char)) ∈ tw := tw_of w_569 rfl
theorem q_570 : (Jvm.Cond.methodLink "java/lang/String" (492 : Nat) ({ cls := "java/lang/String", name := "isLatin1", desc := "()Z" } : Jvm.MethodName)) ∈ tw := tw_of w_570 rfl
theorem q_571 : (Jvm.Cond.instanceMethod ({ cls := "java/lang/String", name := "isLatin1", desc := "()Z" } : Jvm.MethodName)) ∈ tw := tw_of w_571 rfl
theorem q_572 : (Jvm.Cond.selects "java/lang/String" ({ cls := "java/lang/String", name := "isLatin1", desc := "()Z" } : Jvm.MethodName) ({ cls := "java/lang/String", name := "isLatin1", desc := "()Z" } : Jvm.MethodName)) ∈ tw := tw_of w_572 rfl
theorem q_573 : (Jvm.Cond.code ({ cls := "java/lang/String", name := "isLatin1", desc := "()Z" } : Jvm.MethodName) prog_18_method_154_code (1 : Nat) (Option.some Jvm.ClassFile.FieldType.boolean)) ∈ tw := tw_of w_573 rfl
theorem q_574 : (Jvm.Cond.methodLink "java/lang/String" (495 : Nat) ({ cls := "java/lang/StringLatin1", name := "charAt", desc := "([BI)C" } : Jvm.MethodName)) ∈ tw := tw_of w_574 rfl
theorem q_575 : (Jvm.Cond.static ({ cls := "java/lang/StringLatin1", name := "charAt", desc := "([BI)C" } : Jvm.MethodName)) ∈ tw := tw_of w_575 rfl
theorem q_576 : (Jvm.Cond.code ({ cls := "java/lang/StringLatin1", name := "charAt", desc := "([BI)C" } : Jvm.MethodName) prog_19_method_2_code (2 : Nat) (Option.some Jvm.ClassFile.FieldType.char)) ∈ tw := tw_of w_576 rfl
theorem q_577 : (Jvm.Cond.methodLink "java/lang/StringLatin1" (9 : Nat) ({ cls := "java/lang/String", name := "checkIndex", desc := "(II)V" } : Jvm.MethodName)) ∈ tw := tw_of w_577 rfl
theorem q_578 : (Jvm.Cond.static ({ cls := "java/lang/String", name := "checkIndex", desc := "(II)V" } : Jvm.MethodName)) ∈ tw := tw_of w_578 rfl
theorem q_579 : (Jvm.Cond.code ({ cls := "java/lang/String", name := "checkIndex", desc := "(II)V" } : Jvm.MethodName) prog_18_method_155_code (2 : Nat) (Option.none : Option Jvm.ClassFile.FieldType)) ∈ tw := tw_of w_579 rfl
theorem q_580 : (Jvm.Cond.fieldLink "java/lang/String" (1053 : Nat) "jdk/internal/util/Preconditions" "SIOOBE_FORMATTER" "Ljava/util/function/BiFunction;") ∈ tw := tw_of w_580 rfl
theorem q_582 : (Jvm.Cond.methodLink "java/lang/String" (1059 : Nat) ({ cls := "jdk/internal/util/Preconditions", name := "checkIndex", desc := "(IILjava/util/function/BiFunction;)I" } : Jvm.MethodName)) ∈ tw := tw_of w_582 rfl
theorem q_583 : (Jvm.Cond.static ({ cls := "jdk/internal/util/Preconditions", name := "checkIndex", desc := "(IILjava/util/function/BiFunction;)I" } : Jvm.MethodName)) ∈ tw := tw_of w_583 rfl
theorem q_584 : (Jvm.Cond.code ({ cls := "jdk/internal/util/Preconditions", name := "checkIndex", desc := "(IILjava/util/function/BiFunction;)I" } : Jvm.MethodName) prog_23_method_11_code (3 : Nat) (Option.some Jvm.ClassFile.FieldType.int)) ∈ tw := tw_of w_584 rfl
theorem q_585 : (Jvm.Cond.methodLink "java/lang/String" (498 : Nat) ({ cls := "java/lang/StringUTF16", name := "charAt", desc := "([BI)C" } : Jvm.MethodName)) ∈ tw := tw_of w_585 rfl
theorem q_586 : (Jvm.Cond.static ({ cls := "java/lang/StringUTF16", name := "charAt", desc := "([BI)C" } : Jvm.MethodName)) ∈ tw := tw_of w_586 rfl
theorem q_587 : (Jvm.Cond.code ({ cls := "java/lang/StringUTF16", name := "charAt", desc := "([BI)C" } : Jvm.MethodName) prog_20_method_83_code (2 : Nat) (Option.some Jvm.ClassFile.FieldType.char)) ∈ tw := tw_of w_587 rfl
theorem q_588 : (Jvm.Cond.methodLink "java/lang/StringUTF16" (67 : Nat) ({ cls := "java/lang/StringUTF16", name := "checkIndex", desc := "(I[B)V" } : Jvm.MethodName)) ∈ tw := tw_of w_588 rfl
theorem q_589 : (Jvm.Cond.static ({ cls := "java/lang/StringUTF16", name := "checkIndex", desc := "(I[B)V" } : Jvm.MethodName)) ∈ tw := tw_of w_589 rfl
theorem q_590 : (Jvm.Cond.code ({ cls := "java/lang/StringUTF16", name := "checkIndex", desc := "(I[B)V" } : Jvm.MethodName) prog_20_method_91_code (2 : Nat) (Option.none : Option Jvm.ClassFile.FieldType)) ∈ tw := tw_of w_590 rfl
theorem q_591 : (Jvm.Cond.methodLink "java/lang/StringUTF16" (48 : Nat) ({ cls := "java/lang/StringUTF16", name := "length", desc := "([B)I" } : Jvm.MethodName)) ∈ tw := tw_of w_591 rfl
theorem q_592 : (Jvm.Cond.static ({ cls := "java/lang/StringUTF16", name := "length", desc := "([B)I" } : Jvm.MethodName)) ∈ tw := tw_of w_592 rfl
theorem q_593 : (Jvm.Cond.code ({ cls := "java/lang/StringUTF16", name := "length", desc := "([B)I" } : Jvm.MethodName) prog_20_method_6_code (1 : Nat) (Option.some Jvm.ClassFile.FieldType.int)) ∈ tw := tw_of w_593 rfl
theorem q_594 : (Jvm.Cond.methodLink "java/lang/StringUTF16" (414 : Nat) ({ cls := "java/lang/String", name := "checkIndex", desc := "(II)V" } : Jvm.MethodName)) ∈ tw := tw_of w_594 rfl
theorem q_595 : (Jvm.Cond.methodLink "java/lang/StringUTF16" (71 : Nat) ({ cls := "java/lang/StringUTF16", name := "getChar", desc := "([BI)C" } : Jvm.MethodName)) ∈ tw := tw_of w_595 rfl
theorem q_596 : (Jvm.Cond.static ({ cls := "java/lang/StringUTF16", name := "getChar", desc := "([BI)C" } : Jvm.MethodName)) ∈ tw := tw_of w_596 rfl
theorem q_597 : (Jvm.Cond.code ({ cls := "java/lang/StringUTF16", name := "getChar", desc := "([BI)C" } : Jvm.MethodName) prog_20_method_5_code (2 : Nat) (Option.some Jvm.ClassFile.FieldType.char)) ∈ tw := tw_of w_597 rfl
theorem q_598 : (Jvm.Cond.fieldLink "java/lang/StringUTF16" (44 : Nat) "java/lang/StringUTF16" "$assertionsDisabled" "Z") ∈ tw := tw_of w_598 rfl
theorem q_600 : (Jvm.Cond.fieldLink "java/lang/StringUTF16" (59 : Nat) "java/lang/StringUTF16" "HI_BYTE_SHIFT" "I") ∈ tw := tw_of w_600 rfl
theorem q_602 : (Jvm.Cond.fieldLink "java/lang/StringUTF16" (63 : Nat) "java/lang/StringUTF16" "LO_BYTE_SHIFT" "I") ∈ tw := tw_of w_602 rfl
theorem q_604 : (Jvm.Cond.methodLink "DialSquare$RuleText" (90 : Nat) ({ cls := "DialSquare$RuleText", name := "isWord", desc := "(III)Z" } : Jvm.MethodName)) ∈ tw := tw_of w_604 rfl
theorem q_606 : (Jvm.Cond.instanceMethod ({ cls := "DialSquare$RuleText", name := "isWord", desc := "(III)Z" } : Jvm.MethodName)) ∈ tw := tw_of w_606 rfl
theorem q_607 : (Jvm.Cond.code ({ cls := "DialSquare$RuleText", name := "isWord", desc := "(III)Z" } : Jvm.MethodName) prog_8_method_11_code (5 : Nat) (Option.some Jvm.ClassFile.FieldType.boolean)) ∈ tw := tw_of w_607 rfl
theorem q_608 : (Jvm.Cond.methodLink "DialSquare$RuleText" (50 : Nat) ({ cls := "DialSquare$RuleText", name := "readRule", desc := "(I)Z" } : Jvm.MethodName)) ∈ tw := tw_of w_608 rfl
theorem q_610 : (Jvm.Cond.instanceMethod ({ cls := "DialSquare$RuleText", name := "readRule", desc := "(I)Z" } : Jvm.MethodName)) ∈ tw := tw_of w_610 rfl
theorem q_611 : (Jvm.Cond.code ({ cls := "DialSquare$RuleText", name := "readRule", desc := "(I)Z" } : Jvm.MethodName) prog_8_method_12_code (2 : Nat) (Option.some Jvm.ClassFile.FieldType.boolean)) ∈ tw := tw_of w_611 rfl
theorem q_613 : (Jvm.Cond.methodLink "DialSquare$RuleText" (97 : Nat) ({ cls := "DialSquare$RuleText", name := "takes", desc := "(I)Z" } : Jvm.MethodName)) ∈ tw := tw_of w_613 rfl
theorem q_615 : (Jvm.Cond.instanceMethod ({ cls := "DialSquare$RuleText", name := "takes", desc := "(I)Z" } : Jvm.MethodName)) ∈ tw := tw_of w_615 rfl
theorem q_616 : (Jvm.Cond.code ({ cls := "DialSquare$RuleText", name := "takes", desc := "(I)Z" } : Jvm.MethodName) prog_8_method_18_code (2 : Nat) (Option.some Jvm.ClassFile.FieldType.boolean)) ∈ tw := tw_of w_616 rfl
theorem q_617 : (Jvm.Cond.methodLink "DialSquare$RuleText" (100 : Nat) ({ cls := "DialSquare$RuleText", name := "readCondition", desc := "(I)Z" } : Jvm.MethodName)) ∈ tw := tw_of w_617 rfl
theorem q_619 : (Jvm.Cond.instanceMethod ({ cls := "DialSquare$RuleText", name := "readCondition", desc := "(I)Z" } : Jvm.MethodName)) ∈ tw := tw_of w_619 rfl
theorem q_620 : (Jvm.Cond.code ({ cls := "DialSquare$RuleText", name := "readCondition", desc := "(I)Z" } : Jvm.MethodName) prog_8_method_13_code (3 : Nat) (Option.some Jvm.ClassFile.FieldType.boolean)) ∈ tw := tw_of w_620 rfl
theorem q_621 : (Jvm.Cond.methodLink "DialSquare$RuleText" (103 : Nat) ({ cls := "DialSquare$RuleText", name := "readAll", desc := "(I)Z" } : Jvm.MethodName)) ∈ tw := tw_of w_621 rfl
theorem q_623 : (Jvm.Cond.instanceMethod ({ cls := "DialSquare$RuleText", name := "readAll", desc := "(I)Z" } : Jvm.MethodName)) ∈ tw := tw_of w_623 rfl
theorem q_624 : (Jvm.Cond.code ({ cls := "DialSquare$RuleText", name := "readAll", desc := "(I)Z" } : Jvm.MethodName) prog_8_method_14_code (3 : Nat) (Option.some Jvm.ClassFile.FieldType.boolean)) ∈ tw := tw_of w_624 rfl
theorem q_625 : (Jvm.Cond.methodLink "DialSquare$RuleText" (110 : Nat) ({ cls := "DialSquare$RuleText", name := "readOne", desc := "(I)Z" } : Jvm.MethodName)) ∈ tw := tw_of w_625 rfl
theorem q_627 : (Jvm.Cond.instanceMethod ({ cls := "DialSquare$RuleText", name := "readOne", desc := "(I)Z" } : Jvm.MethodName)) ∈ tw := tw_of w_627 rfl
theorem q_628 : (Jvm.Cond.code ({ cls := "DialSquare$RuleText", name := "readOne", desc := "(I)Z" } : Jvm.MethodName) prog_8_method_15_code (4 : Nat) (Option.some Jvm.ClassFile.FieldType.boolean)) ∈ tw := tw_of w_628 rfl
theorem q_629 : (Jvm.Cond.methodLink "DialSquare$RuleText" (113 : Nat) ({ cls := "DialSquare$RuleText", name := "readOpened", desc := "(I)Z" } : Jvm.MethodName)) ∈ tw := tw_of w_629 rfl
theorem q_631 : (Jvm.Cond.instanceMethod ({ cls := "DialSquare$RuleText", name := "readOpened", desc := "(I)Z" } : Jvm.MethodName)) ∈ tw := tw_of w_631 rfl
theorem q_632 : (Jvm.Cond.code ({ cls := "DialSquare$RuleText", name := "readOpened", desc := "(I)Z" } : Jvm.MethodName) prog_8_method_16_code (2 : Nat) (Option.some Jvm.ClassFile.FieldType.boolean)) ∈ tw := tw_of w_632 rfl
theorem q_633 : (Jvm.Cond.methodLink "DialSquare$RuleText" (116 : Nat) ({ cls := "DialSquare$RuleText", name := "readCompared", desc := "()Z" } : Jvm.MethodName)) ∈ tw := tw_of w_633 rfl
theorem q_635 : (Jvm.Cond.instanceMethod ({ cls := "DialSquare$RuleText", name := "readCompared", desc := "()Z" } : Jvm.MethodName)) ∈ tw := tw_of w_635 rfl
theorem q_636 : (Jvm.Cond.code ({ cls := "DialSquare$RuleText", name := "readCompared", desc := "()Z" } : Jvm.MethodName) prog_8_method_17_code (4 : Nat) (Option.some Jvm.ClassFile.FieldType.boolean)) ∈ tw := tw_of w_636 rfl
theorem q_637 : (Jvm.Cond.methodLink "DialSquare$RuleText" (106 : Nat) ({ cls := "DialSquare$RuleText", name := "emit", desc := "(I)V" } : Jvm.MethodName)) ∈ tw := tw_of w_637 rfl
theorem q_639 : (Jvm.Cond.instanceMethod ({ cls := "DialSquare$RuleText", name := "emit", desc := "(I)V" } : Jvm.MethodName)) ∈ tw := tw_of w_639 rfl
theorem q_640 : (Jvm.Cond.code ({ cls := "DialSquare$RuleText", name := "emit", desc := "(I)V" } : Jvm.MethodName) prog_8_method_19_code (2 : Nat) (Option.none : Option Jvm.ClassFile.FieldType)) ∈ tw := tw_of w_640 rfl
theorem q_641 : (Jvm.Cond.methodLink "DialSquare" (161 : Nat) ({ cls := "DialSquare$RuleText", name := "fault", desc := "()I" } : Jvm.MethodName)) ∈ tw := tw_of w_641 rfl
theorem q_642 : (Jvm.Cond.instanceMethod ({ cls := "DialSquare$RuleText", name := "fault", desc := "()I" } : Jvm.MethodName)) ∈ tw := tw_of w_642 rfl
theorem q_643 : (Jvm.Cond.selects "DialSquare$RuleText" ({ cls := "DialSquare$RuleText", name := "fault", desc := "()I" } : Jvm.MethodName) ({ cls := "DialSquare$RuleText", name := "fault", desc := "()I" } : Jvm.MethodName)) ∈ tw := tw_of w_643 rfl
theorem q_644 : (Jvm.Cond.code ({ cls := "DialSquare$RuleText", name := "fault", desc := "()I" } : Jvm.MethodName) prog_8_method_4_code (1 : Nat) (Option.some Jvm.ClassFile.FieldType.int)) ∈ tw := tw_of w_644 rfl
theorem q_645 : (Jvm.Cond.methodLink "DialSquare" (164 : Nat) ({ cls := "DialSquare$RuleText", name := "told", desc := "()LDialSquare$Rules;" } : Jvm.MethodName)) ∈ tw := tw_of w_645 rfl
theorem q_646 : (Jvm.Cond.instanceMethod ({ cls := "DialSquare$RuleText", name := "told", desc := "()LDialSquare$Rules;" } : Jvm.MethodName)) ∈ tw := tw_of w_646 rfl
theorem q_647 : (Jvm.Cond.selects "DialSquare$RuleText" ({ cls := "DialSquare$RuleText", name := "told", desc := "()LDialSquare$Rules;" } : Jvm.MethodName) ({ cls := "DialSquare$RuleText", name := "told", desc := "()LDialSquare$Rules;" } : Jvm.MethodName)) ∈ tw := tw_of w_647 rfl
theorem q_648 : (Jvm.Cond.code ({ cls := "DialSquare$RuleText", name := "told", desc := "()LDialSquare$Rules;" } : Jvm.MethodName) prog_8_method_5_code (1 : Nat) (Option.some (Jvm.ClassFile.FieldType.object "DialSquare$Rules"))) ∈ tw := tw_of w_648 rfl
theorem q_649 : (Jvm.Cond.classLink "DialSquare$RuleText" (54 : Nat) "DialSquare$Rules") ∈ tw := tw_of w_649 rfl
theorem q_650 : (Jvm.Cond.methodLink "DialSquare$RuleText" (56 : Nat) ({ cls := "java/util/Arrays", name := "copyOf", desc := "([II)[I" } : Jvm.MethodName)) ∈ tw := tw_of w_650 rfl
theorem q_651 : (Jvm.Cond.static ({ cls := "java/util/Arrays", name := "copyOf", desc := "([II)[I" } : Jvm.MethodName)) ∈ tw := tw_of w_651 rfl
theorem q_652 : (Jvm.Cond.code ({ cls := "java/util/Arrays", name := "copyOf", desc := "([II)[I" } : Jvm.MethodName) prog_22_method_123_code (3 : Nat) (Option.some (Jvm.ClassFile.FieldType.array Jvm.ClassFile.FieldType.int))) ∈ tw := tw_of w_652 rfl
theorem q_653 : (Jvm.Cond.methodLink "java/util/Arrays" (316 : Nat) ({ cls := "[I", name := "clone", desc := "()Ljava/lang/Object;" } : Jvm.MethodName)) ∈ tw := tw_of w_653 rfl
theorem q_654 : (Jvm.Cond.sameMethod "[I" "java/lang/Object" "clone" "()Ljava/lang/Object;") ∈ tw := tw_of w_654 rfl
theorem q_655 : (Jvm.Cond.native ({ cls := "java/lang/Object", name := "clone", desc := "()Ljava/lang/Object;" } : Jvm.MethodName)) ∈ tw := tw_of w_655 rfl
theorem q_656 : (Jvm.Cond.instanceMethod ({ cls := "java/lang/Object", name := "clone", desc := "()Ljava/lang/Object;" } : Jvm.MethodName)) ∈ tw := tw_of w_656 rfl
theorem q_657 : (Jvm.Cond.selects "[I" ({ cls := "[I", name := "clone", desc := "()Ljava/lang/Object;" } : Jvm.MethodName) ({ cls := "java/lang/Object", name := "clone", desc := "()Ljava/lang/Object;" } : Jvm.MethodName)) ∈ tw := tw_of w_657 rfl
theorem q_659 : (Jvm.Cond.classLink "java/util/Arrays" (317 : Nat) "[I") ∈ tw := tw_of w_659 rfl
theorem q_660 : (Jvm.Cond.methodLink "java/util/Arrays" (304 : Nat) ({ cls := "java/lang/Math", name := "min", desc := "(II)I" } : Jvm.MethodName)) ∈ tw := tw_of w_660 rfl
theorem q_661 : (Jvm.Cond.static ({ cls := "java/lang/Math", name := "min", desc := "(II)I" } : Jvm.MethodName)) ∈ tw := tw_of w_661 rfl
theorem q_662 : (Jvm.Cond.code ({ cls := "java/lang/Math", name := "min", desc := "(II)I" } : Jvm.MethodName) prog_17_method_69_code (2 : Nat) (Option.some Jvm.ClassFile.FieldType.int)) ∈ tw := tw_of w_662 rfl
theorem q_663 : (Jvm.Cond.methodLink "java/util/Arrays" (150 : Nat) ({ cls := "java/lang/System", name := "arraycopy", desc := "(Ljava/lang/Object;ILjava/lang/Object;II)V" } : Jvm.MethodName)) ∈ tw := tw_of w_663 rfl
theorem q_664 : (Jvm.Cond.static ({ cls := "java/lang/System", name := "arraycopy", desc := "(Ljava/lang/Object;ILjava/lang/Object;II)V" } : Jvm.MethodName)) ∈ tw := tw_of w_664 rfl
theorem q_665 : (Jvm.Cond.native ({ cls := "java/lang/System", name := "arraycopy", desc := "(Ljava/lang/Object;ILjava/lang/Object;II)V" } : Jvm.MethodName)) ∈ tw := tw_of w_665 rfl
theorem q_666 : (Jvm.Cond.methodLink "DialSquare$RuleText" (62 : Nat) ({ cls := "DialSquare$Rules", name := "<init>", desc := "(I[I[I[I[I)V" } : Jvm.MethodName)) ∈ tw := tw_of w_666 rfl
theorem q_667 : (Jvm.Cond.methodLink "DialSquareLaw" (69 : Nat) ({ cls := "DialSquare", name := "chime", desc := "()I" } : Jvm.MethodName)) ∈ tw := tw_of w_667 rfl
theorem q_668 : (Jvm.Cond.instanceMethod ({ cls := "DialSquare", name := "chime", desc := "()I" } : Jvm.MethodName)) ∈ tw := tw_of w_668 rfl
theorem q_669 : (Jvm.Cond.selects "DialSquare" ({ cls := "DialSquare", name := "chime", desc := "()I" } : Jvm.MethodName) ({ cls := "DialSquare", name := "chime", desc := "()I" } : Jvm.MethodName)) ∈ tw := tw_of w_669 rfl
theorem q_670 : (Jvm.Cond.code ({ cls := "DialSquare", name := "chime", desc := "()I" } : Jvm.MethodName) prog_1_method_15_code (1 : Nat) (Option.some Jvm.ClassFile.FieldType.int)) ∈ tw := tw_of w_670 rfl
theorem q_671 : (Jvm.Cond.methodLink "DialSquare" (173 : Nat) ({ cls := "DialSquare$Square", name := "rest", desc := "(I)I" } : Jvm.MethodName)) ∈ tw := tw_of w_671 rfl
theorem q_672 : (Jvm.Cond.instanceMethod ({ cls := "DialSquare$Square", name := "rest", desc := "(I)I" } : Jvm.MethodName)) ∈ tw := tw_of w_672 rfl
theorem q_673 : (Jvm.Cond.selects "DialSquare$Square" ({ cls := "DialSquare$Square", name := "rest", desc := "(I)I" } : Jvm.MethodName) ({ cls := "DialSquare$Square", name := "rest", desc := "(I)I" } : Jvm.MethodName)) ∈ tw := tw_of w_673 rfl
theorem q_674 : (Jvm.Cond.code ({ cls := "DialSquare$Square", name := "rest", desc := "(I)I" } : Jvm.MethodName) prog_11_method_30_code (4 : Nat) (Option.some Jvm.ClassFile.FieldType.int)) ∈ tw := tw_of w_674 rfl
theorem q_675 : (Jvm.Cond.methodLink "DialSquare$Square" (134 : Nat) ({ cls := "DialSquare$Square", name := "isOver", desc := "()Z" } : Jvm.MethodName)) ∈ tw := tw_of w_675 rfl
theorem q_676 : (Jvm.Cond.methodLink "DialSquare$Square" (138 : Nat) ({ cls := "DialSquare$Square", name := "restAct", desc := "()I" } : Jvm.MethodName)) ∈ tw := tw_of w_676 rfl
theorem q_678 : (Jvm.Cond.instanceMethod ({ cls := "DialSquare$Square", name := "restAct", desc := "()I" } : Jvm.MethodName)) ∈ tw := tw_of w_678 rfl
theorem q_679 : (Jvm.Cond.code ({ cls := "DialSquare$Square", name := "restAct", desc := "()I" } : Jvm.MethodName) prog_11_method_29_code (2 : Nat) (Option.some Jvm.ClassFile.FieldType.int)) ∈ tw := tw_of w_679 rfl
theorem q_680 : (Jvm.Cond.methodLink "DialSquare$Square" (131 : Nat) ({ cls := "DialSquare$Square", name := "mayBeSet", desc := "(I)Z" } : Jvm.MethodName)) ∈ tw := tw_of w_680 rfl
theorem q_681 : (Jvm.Cond.methodLink "DialSquare$Square" (141 : Nat) ({ cls := "DialSquare$Square", name := "goBy", desc := "(I)I" } : Jvm.MethodName)) ∈ tw := tw_of w_681 rfl
theorem q_682 : (Jvm.Cond.instanceMethod ({ cls := "DialSquare$Square", name := "goBy", desc := "(I)I" } : Jvm.MethodName)) ∈ tw := tw_of w_682 rfl
theorem q_683 : (Jvm.Cond.selects "DialSquare$Square" ({ cls := "DialSquare$Square", name := "goBy", desc := "(I)I" } : Jvm.MethodName) ({ cls := "DialSquare$Square", name := "goBy", desc := "(I)I" } : Jvm.MethodName)) ∈ tw := tw_of w_683 rfl
theorem q_684 : (Jvm.Cond.code ({ cls := "DialSquare$Square", name := "goBy", desc := "(I)I" } : Jvm.MethodName) prog_11_method_25_code (4 : Nat) (Option.some Jvm.ClassFile.FieldType.int)) ∈ tw := tw_of w_684 rfl
theorem q_685 : (Jvm.Cond.methodLink "DialSquare$Square" (118 : Nat) ({ cls := "DialSquare$Square", name := "setRight", desc := "(I)I" } : Jvm.MethodName)) ∈ tw := tw_of w_685 rfl
theorem q_687 : (Jvm.Cond.instanceMethod ({ cls := "DialSquare$Square", name := "setRight", desc := "(I)I" } : Jvm.MethodName)) ∈ tw := tw_of w_687 rfl
theorem q_688 : (Jvm.Cond.code ({ cls := "DialSquare$Square", name := "setRight", desc := "(I)I" } : Jvm.MethodName) prog_11_method_26_code (3 : Nat) (Option.some Jvm.ClassFile.FieldType.int)) ∈ tw := tw_of w_688 rfl
theorem q_689 : (Jvm.Cond.methodLink "DialSquare$Square" (121 : Nat) ({ cls := "DialSquare$Square", name := "arguedBy", desc := "(I)I" } : Jvm.MethodName)) ∈ tw := tw_of w_689 rfl
theorem q_691 : (Jvm.Cond.instanceMethod ({ cls := "DialSquare$Square", name := "arguedBy", desc := "(I)I" } : Jvm.MethodName)) ∈ tw := tw_of w_691 rfl
theorem q_692 : (Jvm.Cond.code ({ cls := "DialSquare$Square", name := "arguedBy", desc := "(I)I" } : Jvm.MethodName) prog_11_method_27_code (6 : Nat) (Option.some Jvm.ClassFile.FieldType.int)) ∈ tw := tw_of w_692 rfl
theorem q_693 : (Jvm.Cond.methodLink "DialSquare$Square" (124 : Nat) ({ cls := "DialSquare$Square", name := "pairs", desc := "()I" } : Jvm.MethodName)) ∈ tw := tw_of w_693 rfl
theorem q_694 : (Jvm.Cond.methodLink "DialSquare$Square" (128 : Nat) ({ cls := "DialSquare$Square", name := "slipAll", desc := "()V" } : Jvm.MethodName)) ∈ tw := tw_of w_694 rfl
theorem q_696 : (Jvm.Cond.instanceMethod ({ cls := "DialSquare$Square", name := "slipAll", desc := "()V" } : Jvm.MethodName)) ∈ tw := tw_of w_696 rfl
theorem q_697 : (Jvm.Cond.code ({ cls := "DialSquare$Square", name := "slipAll", desc := "()V" } : Jvm.MethodName) prog_11_method_28_code (4 : Nat) (Option.none : Option Jvm.ClassFile.FieldType)) ∈ tw := tw_of w_697 rfl
theorem q_698 : (Jvm.Cond.methodLink "DialSquareLaw" (73 : Nat) ({ cls := "DialSquare", name := "on", desc := "(I)I" } : Jvm.MethodName)) ∈ tw := tw_of w_698 rfl
theorem q_699 : (Jvm.Cond.instanceMethod ({ cls := "DialSquare", name := "on", desc := "(I)I" } : Jvm.MethodName)) ∈ tw := tw_of w_699 rfl
theorem q_700 : (Jvm.Cond.selects "DialSquare" ({ cls := "DialSquare", name := "on", desc := "(I)I" } : Jvm.MethodName) ({ cls := "DialSquare", name := "on", desc := "(I)I" } : Jvm.MethodName)) ∈ tw := tw_of w_700 rfl
theorem q_701 : (Jvm.Cond.code ({ cls := "DialSquare", name := "on", desc := "(I)I" } : Jvm.MethodName) prog_1_method_16_code (2 : Nat) (Option.some Jvm.ClassFile.FieldType.int)) ∈ tw := tw_of w_701 rfl
theorem q_702 : (Jvm.Cond.methodLink "DialSquare" (176 : Nat) ({ cls := "DialSquare$Square", name := "copyFrom", desc := "(LDialSquare$Square;)V" } : Jvm.MethodName)) ∈ tw := tw_of w_702 rfl
theorem q_703 : (Jvm.Cond.instanceMethod ({ cls := "DialSquare$Square", name := "copyFrom", desc := "(LDialSquare$Square;)V" } : Jvm.MethodName)) ∈ tw := tw_of w_703 rfl
theorem q_704 : (Jvm.Cond.selects "DialSquare$Square" ({ cls := "DialSquare$Square", name := "copyFrom", desc := "(LDialSquare$Square;)V" } : Jvm.MethodName) ({ cls := "DialSquare$Square", name := "copyFrom", desc := "(LDialSquare$Square;)V" } : Jvm.MethodName)) ∈ tw := tw_of w_704 rfl
theorem q_705 : (Jvm.Cond.code ({ cls := "DialSquare$Square", name := "copyFrom", desc := "(LDialSquare$Square;)V" } : Jvm.MethodName) prog_11_method_2_code (3 : Nat) (Option.none : Option Jvm.ClassFile.FieldType)) ∈ tw := tw_of w_705 rfl
theorem q_706 : (Jvm.Cond.methodLink "DialSquare$Square" (53 : Nat) ({ cls := "java/lang/System", name := "arraycopy", desc := "(Ljava/lang/Object;ILjava/lang/Object;II)V" } : Jvm.MethodName)) ∈ tw := tw_of w_706 rfl
theorem q_707 : (Jvm.Cond.methodLink "DialSquareLaw" (77 : Nat) ({ cls := "DialSquare", name := "when", desc := "(I)I" } : Jvm.MethodName)) ∈ tw := tw_of w_707 rfl
theorem q_708 : (Jvm.Cond.instanceMethod ({ cls := "DialSquare", name := "when", desc := "(I)I" } : Jvm.MethodName)) ∈ tw := tw_of w_708 rfl
theorem q_709 : (Jvm.Cond.selects "DialSquare" ({ cls := "DialSquare", name := "when", desc := "(I)I" } : Jvm.MethodName) ({ cls := "DialSquare", name := "when", desc := "(I)I" } : Jvm.MethodName)) ∈ tw := tw_of w_709 rfl
theorem q_710 : (Jvm.Cond.code ({ cls := "DialSquare", name := "when", desc := "(I)I" } : Jvm.MethodName) prog_1_method_17_code (3 : Nat) (Option.some Jvm.ClassFile.FieldType.int)) ∈ tw := tw_of w_710 rfl
theorem q_711 : (Jvm.Cond.methodLink "DialSquare" (179 : Nat) ({ cls := "DialSquare$Square", name := "isRight", desc := "(I)Z" } : Jvm.MethodName)) ∈ tw := tw_of w_711 rfl
theorem q_712 : (Jvm.Cond.methodLink "DialSquareLaw" (81 : Nat) ({ cls := "DialSquare", name := "prideFor", desc := "(I)I" } : Jvm.MethodName)) ∈ tw := tw_of w_712 rfl
theorem q_713 : (Jvm.Cond.instanceMethod ({ cls := "DialSquare", name := "prideFor", desc := "(I)I" } : Jvm.MethodName)) ∈ tw := tw_of w_713 rfl
theorem q_714 : (Jvm.Cond.selects "DialSquare" ({ cls := "DialSquare", name := "prideFor", desc := "(I)I" } : Jvm.MethodName) ({ cls := "DialSquare", name := "prideFor", desc := "(I)I" } : Jvm.MethodName)) ∈ tw := tw_of w_714 rfl
theorem q_715 : (Jvm.Cond.code ({ cls := "DialSquare", name := "prideFor", desc := "(I)I" } : Jvm.MethodName) prog_1_method_18_code (2 : Nat) (Option.some Jvm.ClassFile.FieldType.int)) ∈ tw := tw_of w_715 rfl
theorem q_716 : (Jvm.Cond.methodLink "DialSquare" (182 : Nat) ({ cls := "DialSquare", name := "dearest", desc := "(II)I" } : Jvm.MethodName)) ∈ tw := tw_of w_716 rfl
theorem q_718 : (Jvm.Cond.instanceMethod ({ cls := "DialSquare", name := "dearest", desc := "(II)I" } : Jvm.MethodName)) ∈ tw := tw_of w_718 rfl
theorem q_719 : (Jvm.Cond.code ({ cls := "DialSquare", name := "dearest", desc := "(II)I" } : Jvm.MethodName) prog_1_method_20_code (7 : Nat) (Option.some Jvm.ClassFile.FieldType.int)) ∈ tw := tw_of w_719 rfl
theorem q_720 : (Jvm.Cond.methodLink "DialSquare" (186 : Nat) ({ cls := "DialSquare$Square", name := "mark", desc := "([I)V" } : Jvm.MethodName)) ∈ tw := tw_of w_720 rfl
theorem q_721 : (Jvm.Cond.instanceMethod ({ cls := "DialSquare$Square", name := "mark", desc := "([I)V" } : Jvm.MethodName)) ∈ tw := tw_of w_721 rfl
theorem q_722 : (Jvm.Cond.selects "DialSquare$Square" ({ cls := "DialSquare$Square", name := "mark", desc := "([I)V" } : Jvm.MethodName) ({ cls := "DialSquare$Square", name := "mark", desc := "([I)V" } : Jvm.MethodName)) ∈ tw := tw_of w_722 rfl
theorem q_723 : (Jvm.Cond.code ({ cls := "DialSquare$Square", name := "mark", desc := "([I)V" } : Jvm.MethodName) prog_11_method_3_code (3 : Nat) (Option.none : Option Jvm.ClassFile.FieldType)) ∈ tw := tw_of w_723 rfl
theorem q_724 : (Jvm.Cond.methodLink "DialSquare" (190 : Nat) ({ cls := "DialSquare$Square", name := "back", desc := "([I)V" } : Jvm.MethodName)) ∈ tw := tw_of w_724 rfl
theorem q_725 : (Jvm.Cond.instanceMethod ({ cls := "DialSquare$Square", name := "back", desc := "([I)V" } : Jvm.MethodName)) ∈ tw := tw_of w_725 rfl
theorem q_726 : (Jvm.Cond.selects "DialSquare$Square" ({ cls := "DialSquare$Square", name := "back", desc := "([I)V" } : Jvm.MethodName) ({ cls := "DialSquare$Square", name := "back", desc := "([I)V" } : Jvm.MethodName)) ∈ tw := tw_of w_726 rfl
theorem q_727 : (Jvm.Cond.code ({ cls := "DialSquare$Square", name := "back", desc := "([I)V" } : Jvm.MethodName) prog_11_method_4_code (3 : Nat) (Option.none : Option Jvm.ClassFile.FieldType)) ∈ tw := tw_of w_727 rfl
theorem q_728 : (Jvm.Cond.methodLink "DialSquareLaw" (85 : Nat) ({ cls := "DialSquare", name := "spotFor", desc := "(I)I" } : Jvm.MethodName)) ∈ tw := tw_of w_728 rfl
theorem q_729 : (Jvm.Cond.instanceMethod ({ cls := "DialSquare", name := "spotFor", desc := "(I)I" } : Jvm.MethodName)) ∈ tw := tw_of w_729 rfl
theorem q_730 : (Jvm.Cond.selects "DialSquare" ({ cls := "DialSquare", name := "spotFor", desc := "(I)I" } : Jvm.MethodName) ({ cls := "DialSquare", name := "spotFor", desc := "(I)I" } : Jvm.MethodName)) ∈ tw := tw_of w_730 rfl
theorem q_731 : (Jvm.Cond.code ({ cls := "DialSquare", name := "spotFor", desc := "(I)I" } : Jvm.MethodName) prog_1_method_19_code (2 : Nat) (Option.some Jvm.ClassFile.FieldType.int)) ∈ tw := tw_of w_731 rfl
theorem q_732 : (Jvm.Cond.methodLink "DialSquareLaw" (89 : Nat) ({ cls := "DialSquare", name := "late", desc := "(I)I" } : Jvm.MethodName)) ∈ tw := tw_of w_732 rfl
theorem q_733 : (Jvm.Cond.instanceMethod ({ cls := "DialSquare", name := "late", desc := "(I)I" } : Jvm.MethodName)) ∈ tw := tw_of w_733 rfl
theorem q_734 : (Jvm.Cond.selects "DialSquare" ({ cls := "DialSquare", name := "late", desc := "(I)I" } : Jvm.MethodName) ({ cls := "DialSquare", name := "late", desc := "(I)I" } : Jvm.MethodName)) ∈ tw := tw_of w_734 rfl
theorem q_735 : (Jvm.Cond.code ({ cls := "DialSquare", name := "late", desc := "(I)I" } : Jvm.MethodName) prog_1_method_21_code (3 : Nat) (Option.some Jvm.ClassFile.FieldType.int)) ∈ tw := tw_of w_735 rfl
theorem q_736 : (Jvm.Cond.methodLink "DialSquareLaw" (93 : Nat) ({ cls := "DialSquare", name := "middle", desc := "()I" } : Jvm.MethodName)) ∈ tw := tw_of w_736 rfl
theorem q_737 : (Jvm.Cond.instanceMethod ({ cls := "DialSquare", name := "middle", desc := "()I" } : Jvm.MethodName)) ∈ tw := tw_of w_737 rfl
theorem q_738 : (Jvm.Cond.selects "DialSquare" ({ cls := "DialSquare", name := "middle", desc := "()I" } : Jvm.MethodName) ({ cls := "DialSquare", name := "middle", desc := "()I" } : Jvm.MethodName)) ∈ tw := tw_of w_738 rfl
theorem q_739 : (Jvm.Cond.code ({ cls := "DialSquare", name := "middle", desc := "()I" } : Jvm.MethodName) prog_1_method_22_code (5 : Nat) (Option.some Jvm.ClassFile.FieldType.int)) ∈ tw := tw_of w_739 rfl
theorem q_740 : (Jvm.Cond.methodLink "DialSquare" (193 : Nat) ({ cls := "DialSquare$Square", name := "apartFromAll", desc := "(I)I" } : Jvm.MethodName)) ∈ tw := tw_of w_740 rfl
theorem q_741 : (Jvm.Cond.instanceMethod ({ cls := "DialSquare$Square", name := "apartFromAll", desc := "(I)I" } : Jvm.MethodName)) ∈ tw := tw_of w_741 rfl
theorem q_742 : (Jvm.Cond.selects "DialSquare$Square" ({ cls := "DialSquare$Square", name := "apartFromAll", desc := "(I)I" } : Jvm.MethodName) ({ cls := "DialSquare$Square", name := "apartFromAll", desc := "(I)I" } : Jvm.MethodName)) ∈ tw := tw_of w_742 rfl
theorem q_743 : (Jvm.Cond.code ({ cls := "DialSquare$Square", name := "apartFromAll", desc := "(I)I" } : Jvm.MethodName) prog_11_method_20_code (4 : Nat) (Option.some Jvm.ClassFile.FieldType.int)) ∈ tw := tw_of w_743 rfl
theorem q_744 : (Jvm.Cond.methodLink "DialSquareLaw" (97 : Nat) ({ cls := "DialSquare", name := "knots", desc := "(I)I" } : Jvm.MethodName)) ∈ tw := tw_of w_744 rfl
theorem q_745 : (Jvm.Cond.instanceMethod ({ cls := "DialSquare", name := "knots", desc := "(I)I" } : Jvm.MethodName)) ∈ tw := tw_of w_745 rfl
theorem q_746 : (Jvm.Cond.selects "DialSquare" ({ cls := "DialSquare", name := "knots", desc := "(I)I" } : Jvm.MethodName) ({ cls := "DialSquare", name := "knots", desc := "(I)I" } : Jvm.MethodName)) ∈ tw := tw_of w_746 rfl
theorem q_747 : (Jvm.Cond.code ({ cls := "DialSquare", name := "knots", desc := "(I)I" } : Jvm.MethodName) prog_1_method_23_code (2 : Nat) (Option.some Jvm.ClassFile.FieldType.int)) ∈ tw := tw_of w_747 rfl
theorem q_748 : (Jvm.Cond.methodLink "DialSquare" (196 : Nat) ({ cls := "DialSquare", name := "countKnots", desc := "()I" } : Jvm.MethodName)) ∈ tw := tw_of w_748 rfl
theorem q_750 : (Jvm.Cond.instanceMethod ({ cls := "DialSquare", name := "countKnots", desc := "()I" } : Jvm.MethodName)) ∈ tw := tw_of w_750 rfl
theorem q_751 : (Jvm.Cond.code ({ cls := "DialSquare", name := "countKnots", desc := "()I" } : Jvm.MethodName) prog_1_method_24_code (4 : Nat) (Option.some Jvm.ClassFile.FieldType.int)) ∈ tw := tw_of w_751 rfl
theorem q_752 : (Jvm.Cond.methodLink "DialSquare" (199 : Nat) ({ cls := "DialSquare$Square", name := "knotOf", desc := "(I)I" } : Jvm.MethodName)) ∈ tw := tw_of w_752 rfl
theorem q_753 : (Jvm.Cond.instanceMethod ({ cls := "DialSquare$Square", name := "knotOf", desc := "(I)I" } : Jvm.MethodName)) ∈ tw := tw_of w_753 rfl
theorem q_754 : (Jvm.Cond.selects "DialSquare$Square" ({ cls := "DialSquare$Square", name := "knotOf", desc := "(I)I" } : Jvm.MethodName) ({ cls := "DialSquare$Square", name := "knotOf", desc := "(I)I" } : Jvm.MethodName)) ∈ tw := tw_of w_754 rfl
theorem q_755 : (Jvm.Cond.code ({ cls := "DialSquare$Square", name := "knotOf", desc := "(I)I" } : Jvm.MethodName) prog_11_method_21_code (5 : Nat) (Option.some Jvm.ClassFile.FieldType.int)) ∈ tw := tw_of w_755 rfl
theorem q_756 : (Jvm.Cond.methodLink "DialSquare$Square" (103 : Nat) ({ cls := "DialSquare$Square", name := "closeTo", desc := "(I)I" } : Jvm.MethodName)) ∈ tw := tw_of w_756 rfl
theorem q_758 : (Jvm.Cond.instanceMethod ({ cls := "DialSquare$Square", name := "closeTo", desc := "(I)I" } : Jvm.MethodName)) ∈ tw := tw_of w_758 rfl
theorem q_759 : (Jvm.Cond.code ({ cls := "DialSquare$Square", name := "closeTo", desc := "(I)I" } : Jvm.MethodName) prog_11_method_22_code (4 : Nat) (Option.some Jvm.ClassFile.FieldType.int)) ∈ tw := tw_of w_759 rfl
theorem q_760 : (Jvm.Cond.methodLink "DialSquareLaw" (101 : Nat) ({ cls := "DialSquare", name := "seats", desc := "(II)I" } : Jvm.MethodName)) ∈ tw := tw_of w_760 rfl
theorem q_761 : (Jvm.Cond.instanceMethod ({ cls := "DialSquare", name := "seats", desc := "(II)I" } : Jvm.MethodName)) ∈ tw := tw_of w_761 rfl
theorem q_762 : (Jvm.Cond.selects "DialSquare" ({ cls := "DialSquare", name := "seats", desc := "(II)I" } : Jvm.MethodName) ({ cls := "DialSquare", name := "seats", desc := "(II)I" } : Jvm.MethodName)) ∈ tw := tw_of w_762 rfl
theorem q_763 : (Jvm.Cond.code ({ cls := "DialSquare", name := "seats", desc := "(II)I" } : Jvm.MethodName) prog_1_method_25_code (8 : Nat) (Option.some Jvm.ClassFile.FieldType.int)) ∈ tw := tw_of w_763 rfl
theorem q_764 : (Jvm.Cond.methodLink "DialSquare" (202 : Nat) ({ cls := "DialSquare", name := "spotsInShade", desc := "(I)I" } : Jvm.MethodName)) ∈ tw := tw_of w_764 rfl
theorem q_766 : (Jvm.Cond.instanceMethod ({ cls := "DialSquare", name := "spotsInShade", desc := "(I)I" } : Jvm.MethodName)) ∈ tw := tw_of w_766 rfl
theorem q_767 : (Jvm.Cond.code ({ cls := "DialSquare", name := "spotsInShade", desc := "(I)I" } : Jvm.MethodName) prog_1_method_26_code (4 : Nat) (Option.some Jvm.ClassFile.FieldType.int)) ∈ tw := tw_of w_767 rfl
theorem q_768 : (Jvm.Cond.methodLink "DialSquare" (205 : Nat) ({ cls := "DialSquare", name := "benchesOf", desc := "(I)I" } : Jvm.MethodName)) ∈ tw := tw_of w_768 rfl
theorem q_770 : (Jvm.Cond.instanceMethod ({ cls := "DialSquare", name := "benchesOf", desc := "(I)I" } : Jvm.MethodName)) ∈ tw := tw_of w_770 rfl
theorem q_771 : (Jvm.Cond.code ({ cls := "DialSquare", name := "benchesOf", desc := "(I)I" } : Jvm.MethodName) prog_1_method_27_code (4 : Nat) (Option.some Jvm.ClassFile.FieldType.int)) ∈ tw := tw_of w_771 rfl
theorem q_772 : (Jvm.Cond.methodLink "DialSquareLaw" (105 : Nat) ({ cls := "DialSquare", name := "best", desc := "(I)I" } : Jvm.MethodName)) ∈ tw := tw_of w_772 rfl
theorem q_773 : (Jvm.Cond.instanceMethod ({ cls := "DialSquare", name := "best", desc := "(I)I" } : Jvm.MethodName)) ∈ tw := tw_of w_773 rfl
theorem q_774 : (Jvm.Cond.selects "DialSquare" ({ cls := "DialSquare", name := "best", desc := "(I)I" } : Jvm.MethodName) ({ cls := "DialSquare", name := "best", desc := "(I)I" } : Jvm.MethodName)) ∈ tw := tw_of w_774 rfl
theorem q_775 : (Jvm.Cond.code ({ cls := "DialSquare", name := "best", desc := "(I)I" } : Jvm.MethodName) prog_1_method_28_code (2 : Nat) (Option.some Jvm.ClassFile.FieldType.int)) ∈ tw := tw_of w_775 rfl
theorem q_776 : (Jvm.Cond.methodLink "DialSquare" (208 : Nat) ({ cls := "DialSquare$Plans", name := "look", desc := "(LDialSquare$Square;II)V" } : Jvm.MethodName)) ∈ tw := tw_of w_776 rfl
theorem q_777 : (Jvm.Cond.instanceMethod ({ cls := "DialSquare$Plans", name := "look", desc := "(LDialSquare$Square;II)V" } : Jvm.MethodName)) ∈ tw := tw_of w_777 rfl
theorem q_778 : (Jvm.Cond.selects "DialSquare$Plans" ({ cls := "DialSquare$Plans", name := "look", desc := "(LDialSquare$Square;II)V" } : Jvm.MethodName) ({ cls := "DialSquare$Plans", name := "look", desc := "(LDialSquare$Square;II)V" } : Jvm.MethodName)) ∈ tw := tw_of w_778 rfl
theorem q_779 : (Jvm.Cond.code ({ cls := "DialSquare$Plans", name := "look", desc := "(LDialSquare$Square;II)V" } : Jvm.MethodName) prog_7_method_2_code (4 : Nat) (Option.none : Option Jvm.ClassFile.FieldType)) ∈ tw := tw_of w_779 rfl
theorem q_780 : (Jvm.Cond.methodLink "DialSquare$Plans" (30 : Nat) ({ cls := "DialSquare$Square", name := "copyFrom", desc := "(LDialSquare$Square;)V" } : Jvm.MethodName)) ∈ tw := tw_of w_780 rfl
theorem q_781 : (Jvm.Cond.methodLink "DialSquare$Plans" (58 : Nat) ({ cls := "DialSquare$Plans", name := "explore", desc := "(III)V" } : Jvm.MethodName)) ∈ tw := tw_of w_781 rfl
theorem q_783 : (Jvm.Cond.instanceMethod ({ cls := "DialSquare$Plans", name := "explore", desc := "(III)V" } : Jvm.MethodName)) ∈ tw := tw_of w_783 rfl
theorem q_784 : (Jvm.Cond.code ({ cls := "DialSquare$Plans", name := "explore", desc := "(III)V" } : Jvm.MethodName) prog_7_method_3_code (5 : Nat) (Option.none : Option Jvm.ClassFile.FieldType)) ∈ tw := tw_of w_784 rfl
theorem q_785 : (Jvm.Cond.methodLink "DialSquare$Plans" (62 : Nat) ({ cls := "DialSquare$Square", name := "isOver", desc := "()Z" } : Jvm.MethodName)) ∈ tw := tw_of w_785 rfl
theorem q_786 : (Jvm.Cond.methodLink "DialSquare$Plans" (66 : Nat) ({ cls := "DialSquare$Plans", name := "weigh", desc := "(III)V" } : Jvm.MethodName)) ∈ tw := tw_of w_786 rfl
theorem q_788 : (Jvm.Cond.instanceMethod ({ cls := "DialSquare$Plans", name := "weigh", desc := "(III)V" } : Jvm.MethodName)) ∈ tw := tw_of w_788 rfl
theorem q_789 : (Jvm.Cond.code ({ cls := "DialSquare$Plans", name := "weigh", desc := "(III)V" } : Jvm.MethodName) prog_7_method_4_code (5 : Nat) (Option.none : Option Jvm.ClassFile.FieldType)) ∈ tw := tw_of w_789 rfl
theorem q_790 : (Jvm.Cond.methodLink "DialSquare$Plans" (83 : Nat) ({ cls := "java/lang/System", name := "arraycopy", desc := "(Ljava/lang/Object;ILjava/lang/Object;II)V" } : Jvm.MethodName)) ∈ tw := tw_of w_790 rfl
theorem q_791 : (Jvm.Cond.methodLink "DialSquare$Plans" (89 : Nat) ({ cls := "DialSquare$Square", name := "rightSet", desc := "()I" } : Jvm.MethodName)) ∈ tw := tw_of w_791 rfl
theorem q_792 : (Jvm.Cond.methodLink "DialSquare$Plans" (69 : Nat) ({ cls := "DialSquare$Square", name := "mark", desc := "([I)V" } : Jvm.MethodName)) ∈ tw := tw_of w_792 rfl
theorem q_793 : (Jvm.Cond.methodLink "DialSquare$Plans" (76 : Nat) ({ cls := "DialSquare$Square", name := "back", desc := "([I)V" } : Jvm.MethodName)) ∈ tw := tw_of w_793 rfl
theorem q_794 : (Jvm.Cond.methodLink "DialSquare$Plans" (79 : Nat) ({ cls := "DialSquare$Square", name := "goBy", desc := "(I)I" } : Jvm.MethodName)) ∈ tw := tw_of w_794 rfl
theorem q_795 : (Jvm.Cond.methodLink "DialSquareLaw" (109 : Nat) ({ cls := "DialSquare", name := "ith", desc := "(II)I" } : Jvm.MethodName)) ∈ tw := tw_of w_795 rfl
theorem q_796 : (Jvm.Cond.instanceMethod ({ cls := "DialSquare", name := "ith", desc := "(II)I" } : Jvm.MethodName)) ∈ tw := tw_of w_796 rfl
theorem q_797 : (Jvm.Cond.selects "DialSquare" ({ cls := "DialSquare", name := "ith", desc := "(II)I" } : Jvm.MethodName) ({ cls := "DialSquare", name := "ith", desc := "(II)I" } : Jvm.MethodName)) ∈ tw := tw_of w_797 rfl
theorem q_798 : (Jvm.Cond.code ({ cls := "DialSquare", name := "ith", desc := "(II)I" } : Jvm.MethodName) prog_1_method_29_code (3 : Nat) (Option.some Jvm.ClassFile.FieldType.int)) ∈ tw := tw_of w_798 rfl
theorem q_799 : (Jvm.Cond.methodLink "DialSquareLaw" (113 : Nat) ({ cls := "DialSquare", name := "ways", desc := "(I)I" } : Jvm.MethodName)) ∈ tw := tw_of w_799 rfl
theorem q_800 : (Jvm.Cond.instanceMethod ({ cls := "DialSquare", name := "ways", desc := "(I)I" } : Jvm.MethodName)) ∈ tw := tw_of w_800 rfl
theorem q_801 : (Jvm.Cond.selects "DialSquare" ({ cls := "DialSquare", name := "ways", desc := "(I)I" } : Jvm.MethodName) ({ cls := "DialSquare", name := "ways", desc := "(I)I" } : Jvm.MethodName)) ∈ tw := tw_of w_801 rfl
theorem q_802 : (Jvm.Cond.code ({ cls := "DialSquare", name := "ways", desc := "(I)I" } : Jvm.MethodName) prog_1_method_30_code (2 : Nat) (Option.some Jvm.ClassFile.FieldType.int)) ∈ tw := tw_of w_802 rfl
theorem q_803 : (Jvm.Cond.methodLink "DialSquareLaw" (117 : Nat) ({ cls := "DialSquare", name := "order", desc := "(II)I" } : Jvm.MethodName)) ∈ tw := tw_of w_803 rfl
theorem q_804 : (Jvm.Cond.instanceMethod ({ cls := "DialSquare", name := "order", desc := "(II)I" } : Jvm.MethodName)) ∈ tw := tw_of w_804 rfl
theorem q_805 : (Jvm.Cond.selects "DialSquare" ({ cls := "DialSquare", name := "order", desc := "(II)I" } : Jvm.MethodName) ({ cls := "DialSquare", name := "order", desc := "(II)I" } : Jvm.MethodName)) ∈ tw := tw_of w_805 rfl
theorem q_806 : (Jvm.Cond.code ({ cls := "DialSquare", name := "order", desc := "(II)I" } : Jvm.MethodName) prog_1_method_31_code (3 : Nat) (Option.some Jvm.ClassFile.FieldType.int)) ∈ tw := tw_of w_806 rfl
theorem q_807 : (Jvm.Cond.methodLink "DialSquare" (224 : Nat) ({ cls := "DialSquare", name := "isSetOfDials", desc := "(I)Z" } : Jvm.MethodName)) ∈ tw := tw_of w_807 rfl
theorem q_809 : (Jvm.Cond.instanceMethod ({ cls := "DialSquare", name := "isSetOfDials", desc := "(I)Z" } : Jvm.MethodName)) ∈ tw := tw_of w_809 rfl
theorem q_810 : (Jvm.Cond.code ({ cls := "DialSquare", name := "isSetOfDials", desc := "(I)Z" } : Jvm.MethodName) prog_1_method_33_code (2 : Nat) (Option.some Jvm.ClassFile.FieldType.boolean)) ∈ tw := tw_of w_810 rfl
theorem q_811 : (Jvm.Cond.methodLink "DialSquareLaw" (121 : Nat) ({ cls := "DialSquare", name := "bars", desc := "(II)I" } : Jvm.MethodName)) ∈ tw := tw_of w_811 rfl
theorem q_812 : (Jvm.Cond.instanceMethod ({ cls := "DialSquare", name := "bars", desc := "(II)I" } : Jvm.MethodName)) ∈ tw := tw_of w_812 rfl
theorem q_813 : (Jvm.Cond.selects "DialSquare" ({ cls := "DialSquare", name := "bars", desc := "(II)I" } : Jvm.MethodName) ({ cls := "DialSquare", name := "bars", desc := "(II)I" } : Jvm.MethodName)) ∈ tw := tw_of w_813 rfl
theorem q_814 : (Jvm.Cond.code ({ cls := "DialSquare", name := "bars", desc := "(II)I" } : Jvm.MethodName) prog_1_method_32_code (5 : Nat) (Option.some Jvm.ClassFile.FieldType.int)) ∈ tw := tw_of w_814 rfl
theorem q_815 : (Jvm.Cond.methodLink "DialSquareLaw" (125 : Nat) ({ cls := "DialSquare", name := "game", desc := "(I)I" } : Jvm.MethodName)) ∈ tw := tw_of w_815 rfl
theorem q_816 : (Jvm.Cond.instanceMethod ({ cls := "DialSquare", name := "game", desc := "(I)I" } : Jvm.MethodName)) ∈ tw := tw_of w_816 rfl
theorem q_817 : (Jvm.Cond.selects "DialSquare" ({ cls := "DialSquare", name := "game", desc := "(I)I" } : Jvm.MethodName) ({ cls := "DialSquare", name := "game", desc := "(I)I" } : Jvm.MethodName)) ∈ tw := tw_of w_817 rfl
theorem q_818 : (Jvm.Cond.code ({ cls := "DialSquare", name := "game", desc := "(I)I" } : Jvm.MethodName) prog_1_method_34_code (2 : Nat) (Option.some Jvm.ClassFile.FieldType.int)) ∈ tw := tw_of w_818 rfl
theorem q_819 : (Jvm.Cond.methodLink "DialSquare" (233 : Nat) ({ cls := "DialSquare$Plans", name := "valueOf", desc := "(LDialSquare$Square;I)I" } : Jvm.MethodName)) ∈ tw := tw_of w_819 rfl
theorem q_820 : (Jvm.Cond.instanceMethod ({ cls := "DialSquare$Plans", name := "valueOf", desc := "(LDialSquare$Square;I)I" } : Jvm.MethodName)) ∈ tw := tw_of w_820 rfl
theorem q_821 : (Jvm.Cond.selects "DialSquare$Plans" ({ cls := "DialSquare$Plans", name := "valueOf", desc := "(LDialSquare$Square;I)I" } : Jvm.MethodName) ({ cls := "DialSquare$Plans", name := "valueOf", desc := "(LDialSquare$Square;I)I" } : Jvm.MethodName)) ∈ tw := tw_of w_821 rfl
theorem q_822 : (Jvm.Cond.code ({ cls := "DialSquare$Plans", name := "valueOf", desc := "(LDialSquare$Square;I)I" } : Jvm.MethodName) prog_7_method_5_code (3 : Nat) (Option.some Jvm.ClassFile.FieldType.int)) ∈ tw := tw_of w_822 rfl
theorem q_823 : (Jvm.Cond.methodLink "DialSquare$Plans" (93 : Nat) ({ cls := "DialSquare$Plans", name := "valueFrom", desc := "(I)I" } : Jvm.MethodName)) ∈ tw := tw_of w_823 rfl
theorem q_825 : (Jvm.Cond.instanceMethod ({ cls := "DialSquare$Plans", name := "valueFrom", desc := "(I)I" } : Jvm.MethodName)) ∈ tw := tw_of w_825 rfl
theorem q_826 : (Jvm.Cond.code ({ cls := "DialSquare$Plans", name := "valueFrom", desc := "(I)I" } : Jvm.MethodName) prog_7_method_6_code (6 : Nat) (Option.some Jvm.ClassFile.FieldType.int)) ∈ tw := tw_of w_826 rfl
theorem q_827 : (Jvm.Cond.methodLink "DialSquareLaw" (129 : Nat) ({ cls := "DialSquare", name := "play", desc := "(I)I" } : Jvm.MethodName)) ∈ tw := tw_of w_827 rfl
theorem q_828 : (Jvm.Cond.instanceMethod ({ cls := "DialSquare", name := "play", desc := "(I)I" } : Jvm.MethodName)) ∈ tw := tw_of w_828 rfl
theorem q_829 : (Jvm.Cond.selects "DialSquare" ({ cls := "DialSquare", name := "play", desc := "(I)I" } : Jvm.MethodName) ({ cls := "DialSquare", name := "play", desc := "(I)I" } : Jvm.MethodName)) ∈ tw := tw_of w_829 rfl
theorem q_830 : (Jvm.Cond.code ({ cls := "DialSquare", name := "play", desc := "(I)I" } : Jvm.MethodName) prog_1_method_35_code (2 : Nat) (Option.some Jvm.ClassFile.FieldType.int)) ∈ tw := tw_of w_830 rfl
theorem q_831 : (Jvm.Cond.methodLink "DialSquareLaw" (133 : Nat) ({ cls := "DialSquare", name := "report", desc := "(IIII)I" } : Jvm.MethodName)) ∈ tw := tw_of w_831 rfl
theorem q_832 : (Jvm.Cond.instanceMethod ({ cls := "DialSquare", name := "report", desc := "(IIII)I" } : Jvm.MethodName)) ∈ tw := tw_of w_832 rfl
theorem q_833 : (Jvm.Cond.selects "DialSquare" ({ cls := "DialSquare", name := "report", desc := "(IIII)I" } : Jvm.MethodName) ({ cls := "DialSquare", name := "report", desc := "(IIII)I" } : Jvm.MethodName)) ∈ tw := tw_of w_833 rfl
theorem q_834 : (Jvm.Cond.code ({ cls := "DialSquare", name := "report", desc := "(IIII)I" } : Jvm.MethodName) prog_1_method_36_code (5 : Nat) (Option.some Jvm.ClassFile.FieldType.int)) ∈ tw := tw_of w_834 rfl
theorem q_835 : (Jvm.Cond.methodLink "DialSquare" (243 : Nat) ({ cls := "DialSquare$Square", name := "putReport", desc := "(IIII)I" } : Jvm.MethodName)) ∈ tw := tw_of w_835 rfl
theorem q_836 : (Jvm.Cond.instanceMethod ({ cls := "DialSquare$Square", name := "putReport", desc := "(IIII)I" } : Jvm.MethodName)) ∈ tw := tw_of w_836 rfl
theorem q_837 : (Jvm.Cond.selects "DialSquare$Square" ({ cls := "DialSquare$Square", name := "putReport", desc := "(IIII)I" } : Jvm.MethodName) ({ cls := "DialSquare$Square", name := "putReport", desc := "(IIII)I" } : Jvm.MethodName)) ∈ tw := tw_of w_837 rfl
theorem q_838 : (Jvm.Cond.code ({ cls := "DialSquare$Square", name := "putReport", desc := "(IIII)I" } : Jvm.MethodName) prog_11_method_6_code (6 : Nat) (Option.some Jvm.ClassFile.FieldType.int)) ∈ tw := tw_of w_838 rfl
theorem q_839 : (Jvm.Cond.methodLink "DialSquareLaw" (137 : Nat) ({ cls := "DialSquare", name := "forget", desc := "()I" } : Jvm.MethodName)) ∈ tw := tw_of w_839 rfl
theorem q_840 : (Jvm.Cond.instanceMethod ({ cls := "DialSquare", name := "forget", desc := "()I" } : Jvm.MethodName)) ∈ tw := tw_of w_840 rfl
theorem q_841 : (Jvm.Cond.selects "DialSquare" ({ cls := "DialSquare", name := "forget", desc := "()I" } : Jvm.MethodName) ({ cls := "DialSquare", name := "forget", desc := "()I" } : Jvm.MethodName)) ∈ tw := tw_of w_841 rfl
theorem q_842 : (Jvm.Cond.code ({ cls := "DialSquare", name := "forget", desc := "()I" } : Jvm.MethodName) prog_1_method_37_code (2 : Nat) (Option.some Jvm.ClassFile.FieldType.int)) ∈ tw := tw_of w_842 rfl
theorem q_843 : (Jvm.Cond.methodLink "DialSquareLaw" (141 : Nat) ({ cls := "DialSquare", name := "lone", desc := "(I)I" } : Jvm.MethodName)) ∈ tw := tw_of w_843 rfl
theorem q_844 : (Jvm.Cond.instanceMethod ({ cls := "DialSquare", name := "lone", desc := "(I)I" } : Jvm.MethodName)) ∈ tw := tw_of w_844 rfl
theorem q_845 : (Jvm.Cond.selects "DialSquare" ({ cls := "DialSquare", name := "lone", desc := "(I)I" } : Jvm.MethodName) ({ cls := "DialSquare", name := "lone", desc := "(I)I" } : Jvm.MethodName)) ∈ tw := tw_of w_845 rfl
theorem q_846 : (Jvm.Cond.code ({ cls := "DialSquare", name := "lone", desc := "(I)I" } : Jvm.MethodName) prog_1_method_38_code (5 : Nat) (Option.some Jvm.ClassFile.FieldType.int)) ∈ tw := tw_of w_846 rfl
theorem q_847 : (Jvm.Cond.methodLink "DialSquare" (246 : Nat) ({ cls := "DialSquare", name := "missedBy", desc := "(I)I" } : Jvm.MethodName)) ∈ tw := tw_of w_847 rfl
theorem q_849 : (Jvm.Cond.instanceMethod ({ cls := "DialSquare", name := "missedBy", desc := "(I)I" } : Jvm.MethodName)) ∈ tw := tw_of w_849 rfl
theorem q_850 : (Jvm.Cond.code ({ cls := "DialSquare", name := "missedBy", desc := "(I)I" } : Jvm.MethodName) prog_1_method_41_code (2 : Nat) (Option.some Jvm.ClassFile.FieldType.int)) ∈ tw := tw_of w_850 rfl
theorem q_851 : (Jvm.Cond.methodLink "DialSquare" (249 : Nat) ({ cls := "DialSquare", name := "partOfStranger", desc := "(II)I" } : Jvm.MethodName)) ∈ tw := tw_of w_851 rfl
theorem q_852 : (Jvm.Cond.static ({ cls := "DialSquare", name := "partOfStranger", desc := "(II)I" } : Jvm.MethodName)) ∈ tw := tw_of w_852 rfl
theorem q_853 : (Jvm.Cond.code ({ cls := "DialSquare", name := "partOfStranger", desc := "(II)I" } : Jvm.MethodName) prog_1_method_40_code (2 : Nat) (Option.some Jvm.ClassFile.FieldType.int)) ∈ tw := tw_of w_853 rfl
theorem q_854 : (Jvm.Cond.methodLink "DialSquare" (257 : Nat) ({ cls := "DialSquare$Square", name := "missedBy", desc := "(III)I" } : Jvm.MethodName)) ∈ tw := tw_of w_854 rfl
theorem q_855 : (Jvm.Cond.instanceMethod ({ cls := "DialSquare$Square", name := "missedBy", desc := "(III)I" } : Jvm.MethodName)) ∈ tw := tw_of w_855 rfl
theorem q_856 : (Jvm.Cond.selects "DialSquare$Square" ({ cls := "DialSquare$Square", name := "missedBy", desc := "(III)I" } : Jvm.MethodName) ({ cls := "DialSquare$Square", name := "missedBy", desc := "(III)I" } : Jvm.MethodName)) ∈ tw := tw_of w_856 rfl
theorem q_857 : (Jvm.Cond.code ({ cls := "DialSquare$Square", name := "missedBy", desc := "(III)I" } : Jvm.MethodName) prog_11_method_32_code (8 : Nat) (Option.some Jvm.ClassFile.FieldType.int)) ∈ tw := tw_of w_857 rfl
theorem q_858 : (Jvm.Cond.methodLink "DialSquare$Square" (145 : Nat) ({ cls := "DialSquare$Square", name := "missedBehind", desc := "(III)I" } : Jvm.MethodName)) ∈ tw := tw_of w_858 rfl
theorem q_860 : (Jvm.Cond.instanceMethod ({ cls := "DialSquare$Square", name := "missedBehind", desc := "(III)I" } : Jvm.MethodName)) ∈ tw := tw_of w_860 rfl
theorem q_861 : (Jvm.Cond.code ({ cls := "DialSquare$Square", name := "missedBehind", desc := "(III)I" } : Jvm.MethodName) prog_11_method_33_code (7 : Nat) (Option.some Jvm.ClassFile.FieldType.int)) ∈ tw := tw_of w_861 rfl
theorem q_862 : (Jvm.Cond.methodLink "DialSquare$Square" (149 : Nat) ({ cls := "java/lang/Math", name := "min", desc := "(II)I" } : Jvm.MethodName)) ∈ tw := tw_of w_862 rfl
theorem q_863 : (Jvm.Cond.methodLink "DialSquareLaw" (145 : Nat) ({ cls := "DialSquare", name := "liar", desc := "()I" } : Jvm.MethodName)) ∈ tw := tw_of w_863 rfl
theorem q_864 : (Jvm.Cond.instanceMethod ({ cls := "DialSquare", name := "liar", desc := "()I" } : Jvm.MethodName)) ∈ tw := tw_of w_864 rfl
theorem q_865 : (Jvm.Cond.selects "DialSquare" ({ cls := "DialSquare", name := "liar", desc := "()I" } : Jvm.MethodName) ({ cls := "DialSquare", name := "liar", desc := "()I" } : Jvm.MethodName)) ∈ tw := tw_of w_865 rfl
theorem q_866 : (Jvm.Cond.code ({ cls := "DialSquare", name := "liar", desc := "()I" } : Jvm.MethodName) prog_1_method_39_code (4 : Nat) (Option.some Jvm.ClassFile.FieldType.int)) ∈ tw := tw_of w_866 rfl
theorem q_867 : (Jvm.Cond.methodLink "DialSquare" (252 : Nat) ({ cls := "java/lang/Integer", name := "bitCount", desc := "(I)I" } : Jvm.MethodName)) ∈ tw := tw_of w_867 rfl
theorem q_868 : (Jvm.Cond.static ({ cls := "java/lang/Integer", name := "bitCount", desc := "(I)I" } : Jvm.MethodName)) ∈ tw := tw_of w_868 rfl
theorem q_869 : (Jvm.Cond.code ({ cls := "java/lang/Integer", name := "bitCount", desc := "(I)I" } : Jvm.MethodName) prog_16_method_49_code (1 : Nat) (Option.some Jvm.ClassFile.FieldType.int)) ∈ tw := tw_of w_869 rfl
theorem q_870 : (Jvm.Cond.constant "java/lang/Integer" (265 : Nat) (1431655765 : Int32)) ∈ tw := tw_of w_870 rfl
theorem q_871 : (Jvm.Cond.constant "java/lang/Integer" (266 : Nat) (858993459 : Int32)) ∈ tw := tw_of w_871 rfl
theorem q_872 : (Jvm.Cond.constant "java/lang/Integer" (267 : Nat) (252645135 : Int32)) ∈ tw := tw_of w_872 rfl
theorem q_873 : (Jvm.Cond.methodLink "DialSquareLaw" (149 : Nat) ({ cls := "DialSquare", name := "seed", desc := "(I)I" } : Jvm.MethodName)) ∈ tw := tw_of w_873 rfl
theorem q_874 : (Jvm.Cond.instanceMethod ({ cls := "DialSquare", name := "seed", desc := "(I)I" } : Jvm.MethodName)) ∈ tw := tw_of w_874 rfl
theorem q_875 : (Jvm.Cond.selects "DialSquare" ({ cls := "DialSquare", name := "seed", desc := "(I)I" } : Jvm.MethodName) ({ cls := "DialSquare", name := "seed", desc := "(I)I" } : Jvm.MethodName)) ∈ tw := tw_of w_875 rfl
theorem q_876 : (Jvm.Cond.code ({ cls := "DialSquare", name := "seed", desc := "(I)I" } : Jvm.MethodName) prog_1_method_42_code (3 : Nat) (Option.some Jvm.ClassFile.FieldType.int)) ∈ tw := tw_of w_876 rfl
theorem q_877 : (Jvm.Cond.methodLink "DialSquareLaw" (153 : Nat) ({ cls := "DialSquare", name := "lot", desc := "()I" } : Jvm.MethodName)) ∈ tw := tw_of w_877 rfl
theorem q_878 : (Jvm.Cond.instanceMethod ({ cls := "DialSquare", name := "lot", desc := "()I" } : Jvm.MethodName)) ∈ tw := tw_of w_878 rfl
theorem q_879 : (Jvm.Cond.selects "DialSquare" ({ cls := "DialSquare", name := "lot", desc := "()I" } : Jvm.MethodName) ({ cls := "DialSquare", name := "lot", desc := "()I" } : Jvm.MethodName)) ∈ tw := tw_of w_879 rfl
theorem q_880 : (Jvm.Cond.code ({ cls := "DialSquare", name := "lot", desc := "()I" } : Jvm.MethodName) prog_1_method_43_code (1 : Nat) (Option.some Jvm.ClassFile.FieldType.int)) ∈ tw := tw_of w_880 rfl
theorem q_881 : (Jvm.Cond.methodLink "DialSquare" (263 : Nat) ({ cls := "DialSquare$Square", name := "byLot", desc := "(I)I" } : Jvm.MethodName)) ∈ tw := tw_of w_881 rfl
theorem q_882 : (Jvm.Cond.instanceMethod ({ cls := "DialSquare$Square", name := "byLot", desc := "(I)I" } : Jvm.MethodName)) ∈ tw := tw_of w_882 rfl
theorem q_883 : (Jvm.Cond.selects "DialSquare$Square" ({ cls := "DialSquare$Square", name := "byLot", desc := "(I)I" } : Jvm.MethodName) ({ cls := "DialSquare$Square", name := "byLot", desc := "(I)I" } : Jvm.MethodName)) ∈ tw := tw_of w_883 rfl
theorem q_884 : (Jvm.Cond.code ({ cls := "DialSquare$Square", name := "byLot", desc := "(I)I" } : Jvm.MethodName) prog_11_method_31_code (4 : Nat) (Option.some Jvm.ClassFile.FieldType.int)) ∈ tw := tw_of w_884 rfl
theorem q_885 : (Jvm.Cond.constant "DialSquare$Square" (144 : Nat) (1103515245 : Int32)) ∈ tw := tw_of w_885 rfl
theorem q_886 : (Jvm.Cond.methodLink "DialSquareLaw" (157 : Nat) ({ cls := "DialSquare", name := "times", desc := "(II)I" } : Jvm.MethodName)) ∈ tw := tw_of w_886 rfl
theorem q_887 : (Jvm.Cond.instanceMethod ({ cls := "DialSquare", name := "times", desc := "(II)I" } : Jvm.MethodName)) ∈ tw := tw_of w_887 rfl
theorem q_888 : (Jvm.Cond.selects "DialSquare" ({ cls := "DialSquare", name := "times", desc := "(II)I" } : Jvm.MethodName) ({ cls := "DialSquare", name := "times", desc := "(II)I" } : Jvm.MethodName)) ∈ tw := tw_of w_888 rfl
theorem q_889 : (Jvm.Cond.code ({ cls := "DialSquare", name := "times", desc := "(II)I" } : Jvm.MethodName) prog_1_method_44_code (5 : Nat) (Option.some Jvm.ClassFile.FieldType.int)) ∈ tw := tw_of w_889 rfl
theorem q_890 : (Jvm.Cond.methodLink "DialSquareLaw" (161 : Nat) ({ cls := "DialSquare", name := "prove", desc := "(I)I" } : Jvm.MethodName)) ∈ tw := tw_of w_890 rfl
theorem q_891 : (Jvm.Cond.instanceMethod ({ cls := "DialSquare", name := "prove", desc := "(I)I" } : Jvm.MethodName)) ∈ tw := tw_of w_891 rfl
theorem q_892 : (Jvm.Cond.selects "DialSquare" ({ cls := "DialSquare", name := "prove", desc := "(I)I" } : Jvm.MethodName) ({ cls := "DialSquare", name := "prove", desc := "(I)I" } : Jvm.MethodName)) ∈ tw := tw_of w_892 rfl
theorem q_893 : (Jvm.Cond.code ({ cls := "DialSquare", name := "prove", desc := "(I)I" } : Jvm.MethodName) prog_1_method_45_code (2 : Nat) (Option.some Jvm.ClassFile.FieldType.int)) ∈ tw := tw_of w_893 rfl
theorem q_894 : (Jvm.Cond.methodLink "DialSquare" (266 : Nat) ({ cls := "DialSquare$Plans", name := "writeRows", desc := "(LDialSquare$Square;)I" } : Jvm.MethodName)) ∈ tw := tw_of w_894 rfl
theorem q_895 : (Jvm.Cond.instanceMethod ({ cls := "DialSquare$Plans", name := "writeRows", desc := "(LDialSquare$Square;)I" } : Jvm.MethodName)) ∈ tw := tw_of w_895 rfl
theorem q_896 : (Jvm.Cond.selects "DialSquare$Plans" ({ cls := "DialSquare$Plans", name := "writeRows", desc := "(LDialSquare$Square;)I" } : Jvm.MethodName) ({ cls := "DialSquare$Plans", name := "writeRows", desc := "(LDialSquare$Square;)I" } : Jvm.MethodName)) ∈ tw := tw_of w_896 rfl
theorem q_897 : (Jvm.Cond.code ({ cls := "DialSquare$Plans", name := "writeRows", desc := "(LDialSquare$Square;)I" } : Jvm.MethodName) prog_7_method_8_code (3 : Nat) (Option.some Jvm.ClassFile.FieldType.int)) ∈ tw := tw_of w_897 rfl
theorem q_898 : (Jvm.Cond.methodLink "DialSquareLaw" (165 : Nat) ({ cls := "DialSquare", name := "row", desc := "(II)I" } : Jvm.MethodName)) ∈ tw := tw_of w_898 rfl
theorem q_899 : (Jvm.Cond.instanceMethod ({ cls := "DialSquare", name := "row", desc := "(II)I" } : Jvm.MethodName)) ∈ tw := tw_of w_899 rfl
theorem q_900 : (Jvm.Cond.selects "DialSquare" ({ cls := "DialSquare", name := "row", desc := "(II)I" } : Jvm.MethodName) ({ cls := "DialSquare", name := "row", desc := "(II)I" } : Jvm.MethodName)) ∈ tw := tw_of w_900 rfl
theorem q_901 : (Jvm.Cond.code ({ cls := "DialSquare", name := "row", desc := "(II)I" } : Jvm.MethodName) prog_1_method_46_code (3 : Nat) (Option.some Jvm.ClassFile.FieldType.int)) ∈ tw := tw_of w_901 rfl
theorem q_902 : (Jvm.Cond.methodLink "DialSquare" (270 : Nat) ({ cls := "DialSquare$Plans", name := "hasRow", desc := "(II)Z" } : Jvm.MethodName)) ∈ tw := tw_of w_902 rfl
theorem q_903 : (Jvm.Cond.instanceMethod ({ cls := "DialSquare$Plans", name := "hasRow", desc := "(II)Z" } : Jvm.MethodName)) ∈ tw := tw_of w_903 rfl
theorem q_904 : (Jvm.Cond.selects "DialSquare$Plans" ({ cls := "DialSquare$Plans", name := "hasRow", desc := "(II)Z" } : Jvm.MethodName) ({ cls := "DialSquare$Plans", name := "hasRow", desc := "(II)Z" } : Jvm.MethodName)) ∈ tw := tw_of w_904 rfl
theorem q_905 : (Jvm.Cond.code ({ cls := "DialSquare$Plans", name := "hasRow", desc := "(II)Z" } : Jvm.MethodName) prog_7_method_7_code (3 : Nat) (Option.some Jvm.ClassFile.FieldType.boolean)) ∈ tw := tw_of w_905 rfl
theorem q_906 : (Jvm.Cond.methodLink "DialSquareLaw" (169 : Nat) ({ cls := "DialSquare", name := "alterRow", desc := "(III)I" } : Jvm.MethodName)) ∈ tw := tw_of w_906 rfl
theorem q_907 : (Jvm.Cond.instanceMethod ({ cls := "DialSquare", name := "alterRow", desc := "(III)I" } : Jvm.MethodName)) ∈ tw := tw_of w_907 rfl
theorem q_908 : (Jvm.Cond.selects "DialSquare" ({ cls := "DialSquare", name := "alterRow", desc := "(III)I" } : Jvm.MethodName) ({ cls := "DialSquare", name := "alterRow", desc := "(III)I" } : Jvm.MethodName)) ∈ tw := tw_of w_908 rfl
theorem q_909 : (Jvm.Cond.code ({ cls := "DialSquare", name := "alterRow", desc := "(III)I" } : Jvm.MethodName) prog_1_method_47_code (5 : Nat) (Option.some Jvm.ClassFile.FieldType.int)) ∈ tw := tw_of w_909 rfl
theorem q_910 : (Jvm.Cond.methodLink "DialSquareLaw" (173 : Nat) ({ cls := "DialSquare", name := "judge", desc := "()I" } : Jvm.MethodName)) ∈ tw := tw_of w_910 rfl
theorem q_911 : (Jvm.Cond.instanceMethod ({ cls := "DialSquare", name := "judge", desc := "()I" } : Jvm.MethodName)) ∈ tw := tw_of w_911 rfl
theorem q_912 : (Jvm.Cond.selects "DialSquare" ({ cls := "DialSquare", name := "judge", desc := "()I" } : Jvm.MethodName) ({ cls := "DialSquare", name := "judge", desc := "()I" } : Jvm.MethodName)) ∈ tw := tw_of w_912 rfl
theorem q_913 : (Jvm.Cond.code ({ cls := "DialSquare", name := "judge", desc := "()I" } : Jvm.MethodName) prog_1_method_48_code (1 : Nat) (Option.some Jvm.ClassFile.FieldType.int)) ∈ tw := tw_of w_913 rfl
theorem q_914 : (Jvm.Cond.methodLink "DialSquare" (277 : Nat) ({ cls := "DialSquare$Plans", name := "readRows", desc := "(LDialSquare$Square;)I" } : Jvm.MethodName)) ∈ tw := tw_of w_914 rfl
theorem q_915 : (Jvm.Cond.instanceMethod ({ cls := "DialSquare$Plans", name := "readRows", desc := "(LDialSquare$Square;)I" } : Jvm.MethodName)) ∈ tw := tw_of w_915 rfl
theorem q_916 : (Jvm.Cond.selects "DialSquare$Plans" ({ cls := "DialSquare$Plans", name := "readRows", desc := "(LDialSquare$Square;)I" } : Jvm.MethodName) ({ cls := "DialSquare$Plans", name := "readRows", desc := "(LDialSquare$Square;)I" } : Jvm.MethodName)) ∈ tw := tw_of w_916 rfl
theorem q_917 : (Jvm.Cond.code ({ cls := "DialSquare$Plans", name := "readRows", desc := "(LDialSquare$Square;)I" } : Jvm.MethodName) prog_7_method_9_code (4 : Nat) (Option.some Jvm.ClassFile.FieldType.int)) ∈ tw := tw_of w_917 rfl
theorem q_918 : (Jvm.Cond.methodLink "DialSquare$Plans" (102 : Nat) ({ cls := "DialSquare$Square", name := "isAct", desc := "(I)Z" } : Jvm.MethodName)) ∈ tw := tw_of w_918 rfl
theorem q_919 : (Jvm.Cond.instanceMethod ({ cls := "DialSquare$Square", name := "isAct", desc := "(I)Z" } : Jvm.MethodName)) ∈ tw := tw_of w_919 rfl
theorem q_920 : (Jvm.Cond.selects "DialSquare$Square" ({ cls := "DialSquare$Square", name := "isAct", desc := "(I)Z" } : Jvm.MethodName) ({ cls := "DialSquare$Square", name := "isAct", desc := "(I)Z" } : Jvm.MethodName)) ∈ tw := tw_of w_920 rfl
theorem q_921 : (Jvm.Cond.code ({ cls := "DialSquare$Square", name := "isAct", desc := "(I)Z" } : Jvm.MethodName) prog_11_method_8_code (2 : Nat) (Option.some Jvm.ClassFile.FieldType.boolean)) ∈ tw := tw_of w_921 rfl
theorem q_922 : (Jvm.Cond.methodLink "DialSquareLaw" (177 : Nat) ({ cls := "DialSquare", name := "sheet", desc := "(III)I" } : Jvm.MethodName)) ∈ tw := tw_of w_922 rfl
theorem q_923 : (Jvm.Cond.instanceMethod ({ cls := "DialSquare", name := "sheet", desc := "(III)I" } : Jvm.MethodName)) ∈ tw := tw_of w_923 rfl
theorem q_924 : (Jvm.Cond.selects "DialSquare" ({ cls := "DialSquare", name := "sheet", desc := "(III)I" } : Jvm.MethodName) ({ cls := "DialSquare", name := "sheet", desc := "(III)I" } : Jvm.MethodName)) ∈ tw := tw_of w_924 rfl
theorem q_925 : (Jvm.Cond.code ({ cls := "DialSquare", name := "sheet", desc := "(III)I" } : Jvm.MethodName) prog_1_method_49_code (4 : Nat) (Option.some Jvm.ClassFile.FieldType.int)) ∈ tw := tw_of w_925 rfl
theorem q_926 : (Jvm.Cond.methodLink "DialSquare" (280 : Nat) ({ cls := "DialSquare", name := "isSheet", desc := "(I)Z" } : Jvm.MethodName)) ∈ tw := tw_of w_926 rfl
theorem q_927 : (Jvm.Cond.static ({ cls := "DialSquare", name := "isSheet", desc := "(I)Z" } : Jvm.MethodName)) ∈ tw := tw_of w_927 rfl
theorem q_928 : (Jvm.Cond.code ({ cls := "DialSquare", name := "isSheet", desc := "(I)Z" } : Jvm.MethodName) prog_1_method_65_code (1 : Nat) (Option.some Jvm.ClassFile.FieldType.boolean)) ∈ tw := tw_of w_928 rfl
theorem q_929 : (Jvm.Cond.methodLink "DialSquare" (283 : Nat) ({ cls := "DialSquare$Host", name := "makeSheet", desc := "(III)I" } : Jvm.MethodName)) ∈ tw := tw_of w_929 rfl
theorem q_930 : (Jvm.Cond.instanceMethod ({ cls := "DialSquare$Host", name := "makeSheet", desc := "(III)I" } : Jvm.MethodName)) ∈ tw := tw_of w_930 rfl
theorem q_931 : (Jvm.Cond.selects "DialSquare$Host" ({ cls := "DialSquare$Host", name := "makeSheet", desc := "(III)I" } : Jvm.MethodName) ({ cls := "DialSquare$Host", name := "makeSheet", desc := "(III)I" } : Jvm.MethodName)) ∈ tw := tw_of w_931 rfl
theorem q_932 : (Jvm.Cond.code ({ cls := "DialSquare$Host", name := "makeSheet", desc := "(III)I" } : Jvm.MethodName) prog_4_method_2_code (4 : Nat) (Option.some Jvm.ClassFile.FieldType.int)) ∈ tw := tw_of w_932 rfl
theorem q_933 : (Jvm.Cond.methodLink "DialSquare$Host" (35 : Nat) ({ cls := "java/util/Arrays", name := "fill", desc := "([II)V" } : Jvm.MethodName)) ∈ tw := tw_of w_933 rfl
theorem q_934 : (Jvm.Cond.methodLink "DialSquareLaw" (181 : Nat) ({ cls := "DialSquare", name := "write", desc := "(III)I" } : Jvm.MethodName)) ∈ tw := tw_of w_934 rfl
theorem q_935 : (Jvm.Cond.instanceMethod ({ cls := "DialSquare", name := "write", desc := "(III)I" } : Jvm.MethodName)) ∈ tw := tw_of w_935 rfl
theorem q_936 : (Jvm.Cond.selects "DialSquare" ({ cls := "DialSquare", name := "write", desc := "(III)I" } : Jvm.MethodName) ({ cls := "DialSquare", name := "write", desc := "(III)I" } : Jvm.MethodName)) ∈ tw := tw_of w_936 rfl
theorem q_937 : (Jvm.Cond.code ({ cls := "DialSquare", name := "write", desc := "(III)I" } : Jvm.MethodName) prog_1_method_50_code (4 : Nat) (Option.some Jvm.ClassFile.FieldType.int)) ∈ tw := tw_of w_937 rfl
theorem q_938 : (Jvm.Cond.methodLink "DialSquare" (289 : Nat) ({ cls := "DialSquare$Host", name := "hasItem", desc := "(II)Z" } : Jvm.MethodName)) ∈ tw := tw_of w_938 rfl
theorem q_939 : (Jvm.Cond.instanceMethod ({ cls := "DialSquare$Host", name := "hasItem", desc := "(II)Z" } : Jvm.MethodName)) ∈ tw := tw_of w_939 rfl
theorem q_940 : (Jvm.Cond.selects "DialSquare$Host" ({ cls := "DialSquare$Host", name := "hasItem", desc := "(II)Z" } : Jvm.MethodName) ({ cls := "DialSquare$Host", name := "hasItem", desc := "(II)Z" } : Jvm.MethodName)) ∈ tw := tw_of w_940 rfl
theorem q_941 : (Jvm.Cond.code ({ cls := "DialSquare$Host", name := "hasItem", desc := "(II)Z" } : Jvm.MethodName) prog_4_method_3_code (3 : Nat) (Option.some Jvm.ClassFile.FieldType.boolean)) ∈ tw := tw_of w_941 rfl
theorem q_942 : (Jvm.Cond.methodLink "DialSquare" (295 : Nat) ({ cls := "DialSquare", name := "narrowed", desc := "(II)I" } : Jvm.MethodName)) ∈ tw := tw_of w_942 rfl
theorem q_943 : (Jvm.Cond.static ({ cls := "DialSquare", name := "narrowed", desc := "(II)I" } : Jvm.MethodName)) ∈ tw := tw_of w_943 rfl
theorem q_944 : (Jvm.Cond.code ({ cls := "DialSquare", name := "narrowed", desc := "(II)I" } : Jvm.MethodName) prog_1_method_51_code (2 : Nat) (Option.some Jvm.ClassFile.FieldType.int)) ∈ tw := tw_of w_944 rfl
theorem q_945 : (Jvm.Cond.methodLink "DialSquareLaw" (185 : Nat) ({ cls := "DialSquare", name := "item", desc := "(III)I" } : Jvm.MethodName)) ∈ tw := tw_of w_945 rfl
theorem q_946 : (Jvm.Cond.instanceMethod ({ cls := "DialSquare", name := "item", desc := "(III)I" } : Jvm.MethodName)) ∈ tw := tw_of w_946 rfl
theorem q_947 : (Jvm.Cond.selects "DialSquare" ({ cls := "DialSquare", name := "item", desc := "(III)I" } : Jvm.MethodName) ({ cls := "DialSquare", name := "item", desc := "(III)I" } : Jvm.MethodName)) ∈ tw := tw_of w_947 rfl
theorem q_948 : (Jvm.Cond.code ({ cls := "DialSquare", name := "item", desc := "(III)I" } : Jvm.MethodName) prog_1_method_52_code (5 : Nat) (Option.some Jvm.ClassFile.FieldType.int)) ∈ tw := tw_of w_948 rfl
theorem q_949 : (Jvm.Cond.methodLink "DialSquare" (298 : Nat) ({ cls := "DialSquare$Host", name := "refusalAs", desc := "(II)I" } : Jvm.MethodName)) ∈ tw := tw_of w_949 rfl
theorem q_950 : (Jvm.Cond.instanceMethod ({ cls := "DialSquare$Host", name := "refusalAs", desc := "(II)I" } : Jvm.MethodName)) ∈ tw := tw_of w_950 rfl
theorem q_951 : (Jvm.Cond.selects "DialSquare$Host" ({ cls := "DialSquare$Host", name := "refusalAs", desc := "(II)I" } : Jvm.MethodName) ({ cls := "DialSquare$Host", name := "refusalAs", desc := "(II)I" } : Jvm.MethodName)) ∈ tw := tw_of w_951 rfl
theorem q_952 : (Jvm.Cond.code ({ cls := "DialSquare$Host", name := "refusalAs", desc := "(II)I" } : Jvm.MethodName) prog_4_method_4_code (3 : Nat) (Option.some Jvm.ClassFile.FieldType.int)) ∈ tw := tw_of w_952 rfl
theorem q_953 : (Jvm.Cond.methodLink "DialSquareLaw" (189 : Nat) ({ cls := "DialSquare", name := "goAll", desc := "(III)I" } : Jvm.MethodName)) ∈ tw := tw_of w_953 rfl
theorem q_954 : (Jvm.Cond.instanceMethod ({ cls := "DialSquare", name := "goAll", desc := "(III)I" } : Jvm.MethodName)) ∈ tw := tw_of w_954 rfl
theorem q_955 : (Jvm.Cond.selects "DialSquare" ({ cls := "DialSquare", name := "goAll", desc := "(III)I" } : Jvm.MethodName) ({ cls := "DialSquare", name := "goAll", desc := "(III)I" } : Jvm.MethodName)) ∈ tw := tw_of w_955 rfl
theorem q_956 : (Jvm.Cond.code ({ cls := "DialSquare", name := "goAll", desc := "(III)I" } : Jvm.MethodName) prog_1_method_53_code (8 : Nat) (Option.some Jvm.ClassFile.FieldType.int)) ∈ tw := tw_of w_956 rfl
theorem q_957 : (Jvm.Cond.methodLink "DialSquare" (301 : Nat) ({ cls := "DialSquare$Square", name := "isAct", desc := "(I)Z" } : Jvm.MethodName)) ∈ tw := tw_of w_957 rfl
theorem q_958 : (Jvm.Cond.methodLink "DialSquare" (304 : Nat) ({ cls := "DialSquare$Square", name := "goBy", desc := "(I)I" } : Jvm.MethodName)) ∈ tw := tw_of w_958 rfl
theorem q_959 : (Jvm.Cond.methodLink "DialSquareLaw" (193 : Nat) ({ cls := "DialSquare", name := "wouldBe", desc := "(III)I" } : Jvm.MethodName)) ∈ tw := tw_of w_959 rfl
theorem q_960 : (Jvm.Cond.instanceMethod ({ cls := "DialSquare", name := "wouldBe", desc := "(III)I" } : Jvm.MethodName)) ∈ tw := tw_of w_960 rfl
theorem q_961 : (Jvm.Cond.selects "DialSquare" ({ cls := "DialSquare", name := "wouldBe", desc := "(III)I" } : Jvm.MethodName) ({ cls := "DialSquare", name := "wouldBe", desc := "(III)I" } : Jvm.MethodName)) ∈ tw := tw_of w_961 rfl
theorem q_962 : (Jvm.Cond.code ({ cls := "DialSquare", name := "wouldBe", desc := "(III)I" } : Jvm.MethodName) prog_1_method_54_code (8 : Nat) (Option.some Jvm.ClassFile.FieldType.int)) ∈ tw := tw_of w_962 rfl
theorem q_963 : (Jvm.Cond.methodLink "DialSquareLaw" (197 : Nat) ({ cls := "DialSquare", name := "shelf", desc := "(III)I" } : Jvm.MethodName)) ∈ tw := tw_of w_963 rfl
theorem q_964 : (Jvm.Cond.instanceMethod ({ cls := "DialSquare", name := "shelf", desc := "(III)I" } : Jvm.MethodName)) ∈ tw := tw_of w_964 rfl
theorem q_965 : (Jvm.Cond.selects "DialSquare" ({ cls := "DialSquare", name := "shelf", desc := "(III)I" } : Jvm.MethodName) ({ cls := "DialSquare", name := "shelf", desc := "(III)I" } : Jvm.MethodName)) ∈ tw := tw_of w_965 rfl
theorem q_966 : (Jvm.Cond.code ({ cls := "DialSquare", name := "shelf", desc := "(III)I" } : Jvm.MethodName) prog_1_method_55_code (4 : Nat) (Option.some Jvm.ClassFile.FieldType.int)) ∈ tw := tw_of w_966 rfl
theorem q_967 : (Jvm.Cond.methodLink "DialSquare" (307 : Nat) ({ cls := "DialSquare$Host", name := "fillShelf", desc := "(III)V" } : Jvm.MethodName)) ∈ tw := tw_of w_967 rfl
theorem q_968 : (Jvm.Cond.instanceMethod ({ cls := "DialSquare$Host", name := "fillShelf", desc := "(III)V" } : Jvm.MethodName)) ∈ tw := tw_of w_968 rfl
theorem q_969 : (Jvm.Cond.selects "DialSquare$Host" ({ cls := "DialSquare$Host", name := "fillShelf", desc := "(III)V" } : Jvm.MethodName) ({ cls := "DialSquare$Host", name := "fillShelf", desc := "(III)V" } : Jvm.MethodName)) ∈ tw := tw_of w_969 rfl
theorem q_970 : (Jvm.Cond.code ({ cls := "DialSquare$Host", name := "fillShelf", desc := "(III)V" } : Jvm.MethodName) prog_4_method_5_code (5 : Nat) (Option.none : Option Jvm.ClassFile.FieldType)) ∈ tw := tw_of w_970 rfl
theorem q_971 : (Jvm.Cond.methodLink "DialSquareLaw" (201 : Nat) ({ cls := "DialSquare", name := "taken", desc := "(II)I" } : Jvm.MethodName)) ∈ tw := tw_of w_971 rfl
theorem q_972 : (Jvm.Cond.instanceMethod ({ cls := "DialSquare", name := "taken", desc := "(II)I" } : Jvm.MethodName)) ∈ tw := tw_of w_972 rfl
theorem q_973 : (Jvm.Cond.selects "DialSquare" ({ cls := "DialSquare", name := "taken", desc := "(II)I" } : Jvm.MethodName) ({ cls := "DialSquare", name := "taken", desc := "(II)I" } : Jvm.MethodName)) ∈ tw := tw_of w_973 rfl
theorem q_974 : (Jvm.Cond.code ({ cls := "DialSquare", name := "taken", desc := "(II)I" } : Jvm.MethodName) prog_1_method_56_code (4 : Nat) (Option.some Jvm.ClassFile.FieldType.int)) ∈ tw := tw_of w_974 rfl
theorem q_975 : (Jvm.Cond.methodLink "DialSquare" (320 : Nat) ({ cls := "DialSquare", name := "holdsDial", desc := "(I)Z" } : Jvm.MethodName)) ∈ tw := tw_of w_975 rfl
theorem q_977 : (Jvm.Cond.instanceMethod ({ cls := "DialSquare", name := "holdsDial", desc := "(I)Z" } : Jvm.MethodName)) ∈ tw := tw_of w_977 rfl
theorem q_978 : (Jvm.Cond.code ({ cls := "DialSquare", name := "holdsDial", desc := "(I)Z" } : Jvm.MethodName) prog_1_method_58_code (2 : Nat) (Option.some Jvm.ClassFile.FieldType.boolean)) ∈ tw := tw_of w_978 rfl
theorem q_979 : (Jvm.Cond.methodLink "DialSquare" (323 : Nat) ({ cls := "DialSquare", name := "isUnder", desc := "(II)Z" } : Jvm.MethodName)) ∈ tw := tw_of w_979 rfl
theorem q_980 : (Jvm.Cond.methodLink "DialSquareLaw" (205 : Nat) ({ cls := "DialSquare", name := "act", desc := "(III)I" } : Jvm.MethodName)) ∈ tw := tw_of w_980 rfl
theorem q_981 : (Jvm.Cond.instanceMethod ({ cls := "DialSquare", name := "act", desc := "(III)I" } : Jvm.MethodName)) ∈ tw := tw_of w_981 rfl
theorem q_982 : (Jvm.Cond.selects "DialSquare" ({ cls := "DialSquare", name := "act", desc := "(III)I" } : Jvm.MethodName) ({ cls := "DialSquare", name := "act", desc := "(III)I" } : Jvm.MethodName)) ∈ tw := tw_of w_982 rfl
theorem q_983 : (Jvm.Cond.code ({ cls := "DialSquare", name := "act", desc := "(III)I" } : Jvm.MethodName) prog_1_method_57_code (7 : Nat) (Option.some Jvm.ClassFile.FieldType.int)) ∈ tw := tw_of w_983 rfl
theorem q_984 : (Jvm.Cond.methodLink "DialSquare" (326 : Nat) ({ cls := "DialSquare$Host", name := "clearTrace", desc := "()V" } : Jvm.MethodName)) ∈ tw := tw_of w_984 rfl
theorem q_985 : (Jvm.Cond.instanceMethod ({ cls := "DialSquare$Host", name := "clearTrace", desc := "()V" } : Jvm.MethodName)) ∈ tw := tw_of w_985 rfl
theorem q_986 : (Jvm.Cond.selects "DialSquare$Host" ({ cls := "DialSquare$Host", name := "clearTrace", desc := "()V" } : Jvm.MethodName) ({ cls := "DialSquare$Host", name := "clearTrace", desc := "()V" } : Jvm.MethodName)) ∈ tw := tw_of w_986 rfl
theorem q_987 : (Jvm.Cond.code ({ cls := "DialSquare$Host", name := "clearTrace", desc := "()V" } : Jvm.MethodName) prog_4_method_6_code (1 : Nat) (Option.none : Option Jvm.ClassFile.FieldType)) ∈ tw := tw_of w_987 rfl
theorem q_988 : (Jvm.Cond.methodLink "DialSquare" (335 : Nat) ({ cls := "DialSquare$Square", name := "kindOf", desc := "(I)LDialSquare$Dial;" } : Jvm.MethodName)) ∈ tw := tw_of w_988 rfl
theorem q_989 : (Jvm.Cond.methodLink "DialSquare" (339 : Nat) ({ cls := "DialSquare$Dial", name := "points", desc := "(LDialSquare$Host;I)I" } : Jvm.MethodName)) ∈ tw := tw_of w_989 rfl
theorem q_990 : (Jvm.Cond.instanceMethod ({ cls := "DialSquare$Dial", name := "points", desc := "(LDialSquare$Host;I)I" } : Jvm.MethodName)) ∈ tw := tw_of w_990 rfl
theorem q_991 : (Jvm.Cond.selects "DialSquare$Dial" ({ cls := "DialSquare$Dial", name := "points", desc := "(LDialSquare$Host;I)I" } : Jvm.MethodName) ({ cls := "DialSquare$Dial", name := "points", desc := "(LDialSquare$Host;I)I" } : Jvm.MethodName)) ∈ tw := tw_of w_991 rfl
theorem q_992 : (Jvm.Cond.sameMethod "DialSquare$Dial" "DialSquare$Dial" "points" "(LDialSquare$Host;I)I") ∈ tw := tw_of w_992 rfl
theorem q_993 : (Jvm.Cond.selects "DialSquare$Guild" ({ cls := "DialSquare$Dial", name := "points", desc := "(LDialSquare$Host;I)I" } : Jvm.MethodName) ({ cls := "DialSquare$Guild", name := "points", desc := "(LDialSquare$Host;I)I" } : Jvm.MethodName)) ∈ tw := tw_of w_993 rfl
theorem q_994 : (Jvm.Cond.instanceMethod ({ cls := "DialSquare$Guild", name := "points", desc := "(LDialSquare$Host;I)I" } : Jvm.MethodName)) ∈ tw := tw_of w_994 rfl
theorem q_995 : (Jvm.Cond.code ({ cls := "DialSquare$Guild", name := "points", desc := "(LDialSquare$Host;I)I" } : Jvm.MethodName) prog_3_method_4_code (3 : Nat) (Option.some Jvm.ClassFile.FieldType.int)) ∈ tw := tw_of w_995 rfl
theorem q_996 : (Jvm.Cond.methodLink "DialSquare$Guild" (14 : Nat) ({ cls := "DialSquare$Host", name := "begin", desc := "(I)V" } : Jvm.MethodName)) ∈ tw := tw_of w_996 rfl
theorem q_997 : (Jvm.Cond.instanceMethod ({ cls := "DialSquare$Host", name := "begin", desc := "(I)V" } : Jvm.MethodName)) ∈ tw := tw_of w_997 rfl
theorem q_998 : (Jvm.Cond.selects "DialSquare$Host" ({ cls := "DialSquare$Host", name := "begin", desc := "(I)V" } : Jvm.MethodName) ({ cls := "DialSquare$Host", name := "begin", desc := "(I)V" } : Jvm.MethodName)) ∈ tw := tw_of w_998 rfl
theorem q_999 : (Jvm.Cond.code ({ cls := "DialSquare$Host", name := "begin", desc := "(I)V" } : Jvm.MethodName) prog_4_method_7_code (2 : Nat) (Option.none : Option Jvm.ClassFile.FieldType)) ∈ tw := tw_of w_999 rfl
theorem q_1000 : (Jvm.Cond.methodLink "DialSquare$Guild" (20 : Nat) ({ cls := "DialSquare$Tall", name := "points", desc := "(LDialSquare$Host;I)I" } : Jvm.MethodName)) ∈ tw := tw_of w_1000 rfl
theorem q_1001 : (Jvm.Cond.sameMethod "DialSquare$Tall" "DialSquare$Dial" "points" "(LDialSquare$Host;I)I") ∈ tw := tw_of w_1001 rfl
theorem q_1003 : (Jvm.Cond.selects "DialSquare$Low" ({ cls := "DialSquare$Dial", name := "points", desc := "(LDialSquare$Host;I)I" } : Jvm.MethodName) ({ cls := "DialSquare$Dial", name := "points", desc := "(LDialSquare$Host;I)I" } : Jvm.MethodName)) ∈ tw := tw_of w_1003 rfl
theorem q_1004 : (Jvm.Cond.selects "DialSquare$Noon" ({ cls := "DialSquare$Dial", name := "points", desc := "(LDialSquare$Host;I)I" } : Jvm.MethodName) ({ cls := "DialSquare$Noon", name := "points", desc := "(LDialSquare$Host;I)I" } : Jvm.MethodName)) ∈ tw := tw_of w_1004 rfl
theorem q_1005 : (Jvm.Cond.instanceMethod ({ cls := "DialSquare$Noon", name := "points", desc := "(LDialSquare$Host;I)I" } : Jvm.MethodName)) ∈ tw := tw_of w_1005 rfl
theorem q_1006 : (Jvm.Cond.code ({ cls := "DialSquare$Noon", name := "points", desc := "(LDialSquare$Host;I)I" } : Jvm.MethodName) prog_6_method_4_code (3 : Nat) (Option.some Jvm.ClassFile.FieldType.int)) ∈ tw := tw_of w_1006 rfl
theorem q_1007 : (Jvm.Cond.methodLink "DialSquare$Noon" (7 : Nat) ({ cls := "DialSquare$Host", name := "begin", desc := "(I)V" } : Jvm.MethodName)) ∈ tw := tw_of w_1007 rfl
theorem q_1008 : (Jvm.Cond.methodLink "DialSquare$Noon" (13 : Nat) ({ cls := "DialSquare$Dial", name := "points", desc := "(LDialSquare$Host;I)I" } : Jvm.MethodName)) ∈ tw := tw_of w_1008 rfl
theorem q_1009 : (Jvm.Cond.selects "DialSquare$Slit" ({ cls := "DialSquare$Dial", name := "points", desc := "(LDialSquare$Host;I)I" } : Jvm.MethodName) ({ cls := "DialSquare$Dial", name := "points", desc := "(LDialSquare$Host;I)I" } : Jvm.MethodName)) ∈ tw := tw_of w_1009 rfl
theorem q_1010 : (Jvm.Cond.selects "DialSquare$Tall" ({ cls := "DialSquare$Dial", name := "points", desc := "(LDialSquare$Host;I)I" } : Jvm.MethodName) ({ cls := "DialSquare$Dial", name := "points", desc := "(LDialSquare$Host;I)I" } : Jvm.MethodName)) ∈ tw := tw_of w_1010 rfl
theorem q_1011 : (Jvm.Cond.code ({ cls := "DialSquare$Dial", name := "points", desc := "(LDialSquare$Host;I)I" } : Jvm.MethodName) prog_2_method_4_code (3 : Nat) (Option.some Jvm.ClassFile.FieldType.int)) ∈ tw := tw_of w_1011 rfl
theorem q_1012 : (Jvm.Cond.methodLink "DialSquare$Dial" (7 : Nat) ({ cls := "DialSquare$Host", name := "begin", desc := "(I)V" } : Jvm.MethodName)) ∈ tw := tw_of w_1012 rfl
theorem q_1013 : (Jvm.Cond.methodLink "DialSquare" (343 : Nat) ({ cls := "DialSquare$Dial", name := "slants", desc := "(LDialSquare$Host;I)I" } : Jvm.MethodName)) ∈ tw := tw_of w_1013 rfl
theorem q_1014 : (Jvm.Cond.instanceMethod ({ cls := "DialSquare$Dial", name := "slants", desc := "(LDialSquare$Host;I)I" } : Jvm.MethodName)) ∈ tw := tw_of w_1014 rfl
theorem q_1015 : (Jvm.Cond.selects "DialSquare$Dial" ({ cls := "DialSquare$Dial", name := "slants", desc := "(LDialSquare$Host;I)I" } : Jvm.MethodName) ({ cls := "DialSquare$Dial", name := "slants", desc := "(LDialSquare$Host;I)I" } : Jvm.MethodName)) ∈ tw := tw_of w_1015 rfl
theorem q_1016 : (Jvm.Cond.sameMethod "DialSquare$Dial" "DialSquare$Dial" "slants" "(LDialSquare$Host;I)I") ∈ tw := tw_of w_1016 rfl
theorem q_1017 : (Jvm.Cond.selects "DialSquare$Guild" ({ cls := "DialSquare$Dial", name := "slants", desc := "(LDialSquare$Host;I)I" } : Jvm.MethodName) ({ cls := "DialSquare$Tall", name := "slants", desc := "(LDialSquare$Host;I)I" } : Jvm.MethodName)) ∈ tw := tw_of w_1017 rfl
theorem q_1018 : (Jvm.Cond.instanceMethod ({ cls := "DialSquare$Tall", name := "slants", desc := "(LDialSquare$Host;I)I" } : Jvm.MethodName)) ∈ tw := tw_of w_1018 rfl
theorem q_1019 : (Jvm.Cond.code ({ cls := "DialSquare$Tall", name := "slants", desc := "(LDialSquare$Host;I)I" } : Jvm.MethodName) prog_12_method_4_code (3 : Nat) (Option.some Jvm.ClassFile.FieldType.int)) ∈ tw := tw_of w_1019 rfl
theorem q_1020 : (Jvm.Cond.methodLink "DialSquare$Tall" (14 : Nat) ({ cls := "DialSquare$Host", name := "begin", desc := "(I)V" } : Jvm.MethodName)) ∈ tw := tw_of w_1020 rfl
theorem q_1021 : (Jvm.Cond.methodLink "DialSquare$Tall" (20 : Nat) ({ cls := "DialSquare$Dial", name := "slants", desc := "(LDialSquare$Host;I)I" } : Jvm.MethodName)) ∈ tw := tw_of w_1021 rfl
theorem q_1022 : (Jvm.Cond.selects "DialSquare$Low" ({ cls := "DialSquare$Dial", name := "slants", desc := "(LDialSquare$Host;I)I" } : Jvm.MethodName) ({ cls := "DialSquare$Dial", name := "slants", desc := "(LDialSquare$Host;I)I" } : Jvm.MethodName)) ∈ tw := tw_of w_1022 rfl
theorem q_1023 : (Jvm.Cond.selects "DialSquare$Noon" ({ cls := "DialSquare$Dial", name := "slants", desc := "(LDialSquare$Host;I)I" } : Jvm.MethodName) ({ cls := "DialSquare$Dial", name := "slants", desc := "(LDialSquare$Host;I)I" } : Jvm.MethodName)) ∈ tw := tw_of w_1023 rfl
theorem q_1024 : (Jvm.Cond.selects "DialSquare$Slit" ({ cls := "DialSquare$Dial", name := "slants", desc := "(LDialSquare$Host;I)I" } : Jvm.MethodName) ({ cls := "DialSquare$Slit", name := "slants", desc := "(LDialSquare$Host;I)I" } : Jvm.MethodName)) ∈ tw := tw_of w_1024 rfl
theorem q_1025 : (Jvm.Cond.instanceMethod ({ cls := "DialSquare$Slit", name := "slants", desc := "(LDialSquare$Host;I)I" } : Jvm.MethodName)) ∈ tw := tw_of w_1025 rfl
theorem q_1026 : (Jvm.Cond.code ({ cls := "DialSquare$Slit", name := "slants", desc := "(LDialSquare$Host;I)I" } : Jvm.MethodName) prog_10_method_4_code (3 : Nat) (Option.some Jvm.ClassFile.FieldType.int)) ∈ tw := tw_of w_1026 rfl
theorem q_1027 : (Jvm.Cond.methodLink "DialSquare$Slit" (14 : Nat) ({ cls := "DialSquare$Host", name := "begin", desc := "(I)V" } : Jvm.MethodName)) ∈ tw := tw_of w_1027 rfl
theorem q_1028 : (Jvm.Cond.methodLink "DialSquare$Slit" (20 : Nat) ({ cls := "DialSquare$Low", name := "slants", desc := "(LDialSquare$Host;I)I" } : Jvm.MethodName)) ∈ tw := tw_of w_1028 rfl
theorem q_1029 : (Jvm.Cond.sameMethod "DialSquare$Low" "DialSquare$Dial" "slants" "(LDialSquare$Host;I)I") ∈ tw := tw_of w_1029 rfl
theorem q_1031 : (Jvm.Cond.selects "DialSquare$Tall" ({ cls := "DialSquare$Dial", name := "slants", desc := "(LDialSquare$Host;I)I" } : Jvm.MethodName) ({ cls := "DialSquare$Tall", name := "slants", desc := "(LDialSquare$Host;I)I" } : Jvm.MethodName)) ∈ tw := tw_of w_1031 rfl
theorem q_1032 : (Jvm.Cond.code ({ cls := "DialSquare$Dial", name := "slants", desc := "(LDialSquare$Host;I)I" } : Jvm.MethodName) prog_2_method_5_code (3 : Nat) (Option.some Jvm.ClassFile.FieldType.int)) ∈ tw := tw_of w_1032 rfl
theorem q_1033 : (Jvm.Cond.methodLink "DialSquare$Dial" (17 : Nat) ({ cls := "DialSquare$Dial", name := "points", desc := "(LDialSquare$Host;I)I" } : Jvm.MethodName)) ∈ tw := tw_of w_1033 rfl
theorem q_1034 : (Jvm.Cond.methodLink "DialSquare" (346 : Nat) ({ cls := "DialSquare$Dial", name := "shares", desc := "(LDialSquare$Host;I)I" } : Jvm.MethodName)) ∈ tw := tw_of w_1034 rfl
theorem q_1035 : (Jvm.Cond.instanceMethod ({ cls := "DialSquare$Dial", name := "shares", desc := "(LDialSquare$Host;I)I" } : Jvm.MethodName)) ∈ tw := tw_of w_1035 rfl
theorem q_1036 : (Jvm.Cond.selects "DialSquare$Dial" ({ cls := "DialSquare$Dial", name := "shares", desc := "(LDialSquare$Host;I)I" } : Jvm.MethodName) ({ cls := "DialSquare$Dial", name := "shares", desc := "(LDialSquare$Host;I)I" } : Jvm.MethodName)) ∈ tw := tw_of w_1036 rfl
theorem q_1037 : (Jvm.Cond.sameMethod "DialSquare$Dial" "DialSquare$Dial" "shares" "(LDialSquare$Host;I)I") ∈ tw := tw_of w_1037 rfl
theorem q_1038 : (Jvm.Cond.selects "DialSquare$Guild" ({ cls := "DialSquare$Dial", name := "shares", desc := "(LDialSquare$Host;I)I" } : Jvm.MethodName) ({ cls := "DialSquare$Dial", name := "shares", desc := "(LDialSquare$Host;I)I" } : Jvm.MethodName)) ∈ tw := tw_of w_1038 rfl
theorem q_1039 : (Jvm.Cond.selects "DialSquare$Low" ({ cls := "DialSquare$Dial", name := "shares", desc := "(LDialSquare$Host;I)I" } : Jvm.MethodName) ({ cls := "DialSquare$Low", name := "shares", desc := "(LDialSquare$Host;I)I" } : Jvm.MethodName)) ∈ tw := tw_of w_1039 rfl
theorem q_1040 : (Jvm.Cond.instanceMethod ({ cls := "DialSquare$Low", name := "shares", desc := "(LDialSquare$Host;I)I" } : Jvm.MethodName)) ∈ tw := tw_of w_1040 rfl
theorem q_1041 : (Jvm.Cond.code ({ cls := "DialSquare$Low", name := "shares", desc := "(LDialSquare$Host;I)I" } : Jvm.MethodName) prog_5_method_4_code (3 : Nat) (Option.some Jvm.ClassFile.FieldType.int)) ∈ tw := tw_of w_1041 rfl
theorem q_1042 : (Jvm.Cond.methodLink "DialSquare$Low" (11 : Nat) ({ cls := "DialSquare$Host", name := "begin", desc := "(I)V" } : Jvm.MethodName)) ∈ tw := tw_of w_1042 rfl
theorem q_1043 : (Jvm.Cond.methodLink "DialSquare$Low" (17 : Nat) ({ cls := "DialSquare$Dial", name := "shares", desc := "(LDialSquare$Host;I)I" } : Jvm.MethodName)) ∈ tw := tw_of w_1043 rfl
theorem q_1044 : (Jvm.Cond.selects "DialSquare$Noon" ({ cls := "DialSquare$Dial", name := "shares", desc := "(LDialSquare$Host;I)I" } : Jvm.MethodName) ({ cls := "DialSquare$Dial", name := "shares", desc := "(LDialSquare$Host;I)I" } : Jvm.MethodName)) ∈ tw := tw_of w_1044 rfl
theorem q_1045 : (Jvm.Cond.selects "DialSquare$Slit" ({ cls := "DialSquare$Dial", name := "shares", desc := "(LDialSquare$Host;I)I" } : Jvm.MethodName) ({ cls := "DialSquare$Slit", name := "shares", desc := "(LDialSquare$Host;I)I" } : Jvm.MethodName)) ∈ tw := tw_of w_1045 rfl
theorem q_1046 : (Jvm.Cond.instanceMethod ({ cls := "DialSquare$Slit", name := "shares", desc := "(LDialSquare$Host;I)I" } : Jvm.MethodName)) ∈ tw := tw_of w_1046 rfl
theorem q_1047 : (Jvm.Cond.code ({ cls := "DialSquare$Slit", name := "shares", desc := "(LDialSquare$Host;I)I" } : Jvm.MethodName) prog_10_method_5_code (4 : Nat) (Option.some Jvm.ClassFile.FieldType.int)) ∈ tw := tw_of w_1047 rfl
theorem q_1048 : (Jvm.Cond.methodLink "DialSquare$Slit" (24 : Nat) ({ cls := "DialSquare$Low", name := "shares", desc := "(LDialSquare$Host;I)I" } : Jvm.MethodName)) ∈ tw := tw_of w_1048 rfl
theorem q_1049 : (Jvm.Cond.methodLink "DialSquare$Slit" (31 : Nat) ({ cls := "DialSquare$Slit", name := "points", desc := "(LDialSquare$Host;I)I" } : Jvm.MethodName)) ∈ tw := tw_of w_1049 rfl
theorem q_1050 : (Jvm.Cond.sameMethod "DialSquare$Slit" "DialSquare$Dial" "points" "(LDialSquare$Host;I)I") ∈ tw := tw_of w_1050 rfl
theorem q_1051 : (Jvm.Cond.selects "DialSquare$Slit" ({ cls := "DialSquare$Slit", name := "points", desc := "(LDialSquare$Host;I)I" } : Jvm.MethodName) ({ cls := "DialSquare$Dial", name := "points", desc := "(LDialSquare$Host;I)I" } : Jvm.MethodName)) ∈ tw := tw_of w_1051 rfl
theorem q_1052 : (Jvm.Cond.selects "DialSquare$Tall" ({ cls := "DialSquare$Dial", name := "shares", desc := "(LDialSquare$Host;I)I" } : Jvm.MethodName) ({ cls := "DialSquare$Dial", name := "shares", desc := "(LDialSquare$Host;I)I" } : Jvm.MethodName)) ∈ tw := tw_of w_1052 rfl
theorem q_1053 : (Jvm.Cond.code ({ cls := "DialSquare$Dial", name := "shares", desc := "(LDialSquare$Host;I)I" } : Jvm.MethodName) prog_2_method_6_code (4 : Nat) (Option.some Jvm.ClassFile.FieldType.int)) ∈ tw := tw_of w_1053 rfl
theorem q_1054 : (Jvm.Cond.methodLink "DialSquare" (349 : Nat) ({ cls := "DialSquare$Dial", name := "tells", desc := "(LDialSquare$Host;I)I" } : Jvm.MethodName)) ∈ tw := tw_of w_1054 rfl
theorem q_1055 : (Jvm.Cond.instanceMethod ({ cls := "DialSquare$Dial", name := "tells", desc := "(LDialSquare$Host;I)I" } : Jvm.MethodName)) ∈ tw := tw_of w_1055 rfl
theorem q_1056 : (Jvm.Cond.selects "DialSquare$Dial" ({ cls := "DialSquare$Dial", name := "tells", desc := "(LDialSquare$Host;I)I" } : Jvm.MethodName) ({ cls := "DialSquare$Dial", name := "tells", desc := "(LDialSquare$Host;I)I" } : Jvm.MethodName)) ∈ tw := tw_of w_1056 rfl
theorem q_1057 : (Jvm.Cond.sameMethod "DialSquare$Dial" "DialSquare$Dial" "tells" "(LDialSquare$Host;I)I") ∈ tw := tw_of w_1057 rfl
theorem q_1058 : (Jvm.Cond.selects "DialSquare$Guild" ({ cls := "DialSquare$Dial", name := "tells", desc := "(LDialSquare$Host;I)I" } : Jvm.MethodName) ({ cls := "DialSquare$Guild", name := "tells", desc := "(LDialSquare$Host;I)I" } : Jvm.MethodName)) ∈ tw := tw_of w_1058 rfl
theorem q_1059 : (Jvm.Cond.instanceMethod ({ cls := "DialSquare$Guild", name := "tells", desc := "(LDialSquare$Host;I)I" } : Jvm.MethodName)) ∈ tw := tw_of w_1059 rfl
theorem q_1060 : (Jvm.Cond.code ({ cls := "DialSquare$Guild", name := "tells", desc := "(LDialSquare$Host;I)I" } : Jvm.MethodName) prog_3_method_5_code (4 : Nat) (Option.some Jvm.ClassFile.FieldType.int)) ∈ tw := tw_of w_1060 rfl
theorem q_1061 : (Jvm.Cond.methodLink "DialSquare$Guild" (24 : Nat) ({ cls := "DialSquare$Tall", name := "tells", desc := "(LDialSquare$Host;I)I" } : Jvm.MethodName)) ∈ tw := tw_of w_1061 rfl
theorem q_1062 : (Jvm.Cond.sameMethod "DialSquare$Tall" "DialSquare$Dial" "tells" "(LDialSquare$Host;I)I") ∈ tw := tw_of w_1062 rfl
theorem q_1064 : (Jvm.Cond.methodLink "DialSquare$Guild" (31 : Nat) ({ cls := "DialSquare$Guild", name := "slants", desc := "(LDialSquare$Host;I)I" } : Jvm.MethodName)) ∈ tw := tw_of w_1064 rfl
theorem q_1065 : (Jvm.Cond.sameMethod "DialSquare$Guild" "DialSquare$Tall" "slants" "(LDialSquare$Host;I)I") ∈ tw := tw_of w_1065 rfl
theorem q_1067 : (Jvm.Cond.selects "DialSquare$Guild" ({ cls := "DialSquare$Guild", name := "slants", desc := "(LDialSquare$Host;I)I" } : Jvm.MethodName) ({ cls := "DialSquare$Tall", name := "slants", desc := "(LDialSquare$Host;I)I" } : Jvm.MethodName)) ∈ tw := tw_of w_1067 rfl
theorem q_1068 : (Jvm.Cond.selects "DialSquare$Low" ({ cls := "DialSquare$Dial", name := "tells", desc := "(LDialSquare$Host;I)I" } : Jvm.MethodName) ({ cls := "DialSquare$Dial", name := "tells", desc := "(LDialSquare$Host;I)I" } : Jvm.MethodName)) ∈ tw := tw_of w_1068 rfl
theorem q_1069 : (Jvm.Cond.selects "DialSquare$Noon" ({ cls := "DialSquare$Dial", name := "tells", desc := "(LDialSquare$Host;I)I" } : Jvm.MethodName) ({ cls := "DialSquare$Dial", name := "tells", desc := "(LDialSquare$Host;I)I" } : Jvm.MethodName)) ∈ tw := tw_of w_1069 rfl
theorem q_1070 : (Jvm.Cond.selects "DialSquare$Slit" ({ cls := "DialSquare$Dial", name := "tells", desc := "(LDialSquare$Host;I)I" } : Jvm.MethodName) ({ cls := "DialSquare$Dial", name := "tells", desc := "(LDialSquare$Host;I)I" } : Jvm.MethodName)) ∈ tw := tw_of w_1070 rfl
theorem q_1071 : (Jvm.Cond.selects "DialSquare$Tall" ({ cls := "DialSquare$Dial", name := "tells", desc := "(LDialSquare$Host;I)I" } : Jvm.MethodName) ({ cls := "DialSquare$Dial", name := "tells", desc := "(LDialSquare$Host;I)I" } : Jvm.MethodName)) ∈ tw := tw_of w_1071 rfl
theorem q_1072 : (Jvm.Cond.code ({ cls := "DialSquare$Dial", name := "tells", desc := "(LDialSquare$Host;I)I" } : Jvm.MethodName) prog_2_method_7_code (4 : Nat) (Option.some Jvm.ClassFile.FieldType.int)) ∈ tw := tw_of w_1072 rfl
theorem q_1073 : (Jvm.Cond.methodLink "DialSquare$Dial" (30 : Nat) ({ cls := "DialSquare$Dial", name := "slants", desc := "(LDialSquare$Host;I)I" } : Jvm.MethodName)) ∈ tw := tw_of w_1073 rfl
theorem q_1074 : (Jvm.Cond.methodLink "DialSquare$Dial" (33 : Nat) ({ cls := "DialSquare$Dial", name := "shares", desc := "(LDialSquare$Host;I)I" } : Jvm.MethodName)) ∈ tw := tw_of w_1074 rfl
theorem q_1075 : (Jvm.Cond.methodLink "DialSquareLaw" (209 : Nat) ({ cls := "DialSquare", name := "trace", desc := "(I)I" } : Jvm.MethodName)) ∈ tw := tw_of w_1075 rfl
theorem q_1076 : (Jvm.Cond.instanceMethod ({ cls := "DialSquare", name := "trace", desc := "(I)I" } : Jvm.MethodName)) ∈ tw := tw_of w_1076 rfl
theorem q_1077 : (Jvm.Cond.selects "DialSquare" ({ cls := "DialSquare", name := "trace", desc := "(I)I" } : Jvm.MethodName) ({ cls := "DialSquare", name := "trace", desc := "(I)I" } : Jvm.MethodName)) ∈ tw := tw_of w_1077 rfl
theorem q_1078 : (Jvm.Cond.code ({ cls := "DialSquare", name := "trace", desc := "(I)I" } : Jvm.MethodName) prog_1_method_59_code (2 : Nat) (Option.some Jvm.ClassFile.FieldType.int)) ∈ tw := tw_of w_1078 rfl
theorem q_1079 : (Jvm.Cond.methodLink "DialSquareLaw" (213 : Nat) ({ cls := "DialSquare", name := "many", desc := "(I)I" } : Jvm.MethodName)) ∈ tw := tw_of w_1079 rfl
theorem q_1080 : (Jvm.Cond.instanceMethod ({ cls := "DialSquare", name := "many", desc := "(I)I" } : Jvm.MethodName)) ∈ tw := tw_of w_1080 rfl
theorem q_1081 : (Jvm.Cond.selects "DialSquare" ({ cls := "DialSquare", name := "many", desc := "(I)I" } : Jvm.MethodName) ({ cls := "DialSquare", name := "many", desc := "(I)I" } : Jvm.MethodName)) ∈ tw := tw_of w_1081 rfl
theorem q_1082 : (Jvm.Cond.code ({ cls := "DialSquare", name := "many", desc := "(I)I" } : Jvm.MethodName) prog_1_method_60_code (2 : Nat) (Option.some Jvm.ClassFile.FieldType.int)) ∈ tw := tw_of w_1082 rfl
theorem q_1083 : (Jvm.Cond.methodLink "DialSquareLaw" (217 : Nat) ({ cls := "DialSquare", name := "keep", desc := "()I" } : Jvm.MethodName)) ∈ tw := tw_of w_1083 rfl
theorem q_1084 : (Jvm.Cond.instanceMethod ({ cls := "DialSquare", name := "keep", desc := "()I" } : Jvm.MethodName)) ∈ tw := tw_of w_1084 rfl
theorem q_1085 : (Jvm.Cond.selects "DialSquare" ({ cls := "DialSquare", name := "keep", desc := "()I" } : Jvm.MethodName) ({ cls := "DialSquare", name := "keep", desc := "()I" } : Jvm.MethodName)) ∈ tw := tw_of w_1085 rfl
theorem q_1086 : (Jvm.Cond.code ({ cls := "DialSquare", name := "keep", desc := "()I" } : Jvm.MethodName) prog_1_method_61_code (1 : Nat) (Option.some Jvm.ClassFile.FieldType.int)) ∈ tw := tw_of w_1086 rfl
theorem q_1087 : (Jvm.Cond.methodLink "DialSquareLaw" (221 : Nat) ({ cls := "DialSquare", name := "again", desc := "()I" } : Jvm.MethodName)) ∈ tw := tw_of w_1087 rfl
theorem q_1088 : (Jvm.Cond.instanceMethod ({ cls := "DialSquare", name := "again", desc := "()I" } : Jvm.MethodName)) ∈ tw := tw_of w_1088 rfl
theorem q_1089 : (Jvm.Cond.selects "DialSquare" ({ cls := "DialSquare", name := "again", desc := "()I" } : Jvm.MethodName) ({ cls := "DialSquare", name := "again", desc := "()I" } : Jvm.MethodName)) ∈ tw := tw_of w_1089 rfl
theorem q_1090 : (Jvm.Cond.code ({ cls := "DialSquare", name := "again", desc := "()I" } : Jvm.MethodName) prog_1_method_62_code (1 : Nat) (Option.some Jvm.ClassFile.FieldType.int)) ∈ tw := tw_of w_1090 rfl
theorem q_1091 : (Jvm.Cond.classLink "DialSquareLaw" (10 : Nat) "DialSquareModel") ∈ tw := tw_of w_1091 rfl
theorem q_1092 : (Jvm.Cond.instantiable "DialSquareModel" (37 : Nat)) ∈ tw := tw_of w_1092 rfl
theorem q_1093 : (Jvm.Cond.methodLink "DialSquareLaw" (12 : Nat) ({ cls := "DialSquareModel", name := "<init>", desc := "()V" } : Jvm.MethodName)) ∈ tw := tw_of w_1093 rfl
theorem q_1094 : (Jvm.Cond.instanceMethod ({ cls := "DialSquareModel", name := "<init>", desc := "()V" } : Jvm.MethodName)) ∈ tw := tw_of w_1094 rfl
theorem q_1095 : (Jvm.Cond.code ({ cls := "DialSquareModel", name := "<init>", desc := "()V" } : Jvm.MethodName) prog_14_method_1_code (2 : Nat) (Option.none : Option Jvm.ClassFile.FieldType)) ∈ tw := tw_of w_1095 rfl
theorem q_1096 : (Jvm.Cond.methodLink "DialSquareModel" (1 : Nat) ({ cls := "java/lang/Object", name := "<init>", desc := "()V" } : Jvm.MethodName)) ∈ tw := tw_of w_1096 rfl
theorem q_1097 : (Jvm.Cond.fieldLink "DialSquareModel" (9 : Nat) "DialSquareModel" "s" "[I") ∈ tw := tw_of w_1097 rfl
theorem q_1098 : (Jvm.Cond.fieldLink "DialSquareModel" (13 : Nat) "DialSquareModel" "kept" "[I") ∈ tw := tw_of w_1098 rfl
theorem q_1099 : (Jvm.Cond.fieldLink "DialSquareModel" (16 : Nat) "DialSquareModel" "laid" "[I") ∈ tw := tw_of w_1099 rfl
theorem q_1100 : (Jvm.Cond.fieldLink "DialSquareModel" (374 : Nat) "DialSquareModel" "isKept" "Z") ∈ tw := tw_of w_1100 rfl
theorem q_1101 : (Jvm.Cond.fieldLink "DialSquareModel" (19 : Nat) "DialSquareModel" "pile" "[I") ∈ tw := tw_of w_1101 rfl
theorem q_1102 : (Jvm.Cond.fieldLink "DialSquareModel" (22 : Nat) "DialSquareModel" "tape" "[I") ∈ tw := tw_of w_1102 rfl
theorem q_1103 : (Jvm.Cond.fieldLink "DialSquareModel" (128 : Nat) "DialSquareModel" "taped" "I") ∈ tw := tw_of w_1103 rfl
theorem q_1104 : (Jvm.Cond.fieldLink "DialSquareModel" (25 : Nat) "DialSquareModel" "letters" "[C") ∈ tw := tw_of w_1104 rfl
theorem q_1105 : (Jvm.Cond.fieldLink "DialSquareModel" (132 : Nat) "DialSquareModel" "at" "I") ∈ tw := tw_of w_1105 rfl
theorem q_1106 : (Jvm.Cond.fieldLink "DialSquareModel" (135 : Nat) "DialSquareModel" "begun" "I") ∈ tw := tw_of w_1106 rfl
theorem q_1107 : (Jvm.Cond.fieldLink "DialSquareModel" (141 : Nat) "DialSquareModel" "token" "I") ∈ tw := tw_of w_1107 rfl
theorem q_1108 : (Jvm.Cond.fieldLink "DialSquareModel" (148 : Nat) "DialSquareModel" "value" "I") ∈ tw := tw_of w_1108 rfl
theorem q_1109 : (Jvm.Cond.fieldLink "DialSquareModel" (171 : Nat) "DialSquareModel" "opened" "I") ∈ tw := tw_of w_1109 rfl
theorem q_1110 : (Jvm.Cond.fieldLink "DialSquareModel" (160 : Nat) "DialSquareModel" "steps" "I") ∈ tw := tw_of w_1110 rfl
theorem q_1111 : (Jvm.Cond.fieldLink "DialSquareModel" (29 : Nat) "DialSquareModel" "code0" "[I") ∈ tw := tw_of w_1111 rfl
theorem q_1112 : (Jvm.Cond.fieldLink "DialSquareModel" (32 : Nat) "DialSquareModel" "read" "[I") ∈ tw := tw_of w_1112 rfl
theorem q_1113 : (Jvm.Cond.fieldLink "DialSquareModel" (35 : Nat) "DialSquareModel" "saved" "[I") ∈ tw := tw_of w_1113 rfl
theorem q_1114 : (Jvm.Cond.fieldLink "DialSquareModel" (38 : Nat) "DialSquareModel" "plan" "[I") ∈ tw := tw_of w_1114 rfl
theorem q_1115 : (Jvm.Cond.fieldLink "DialSquareModel" (41 : Nat) "DialSquareModel" "bestPlan" "[I") ∈ tw := tw_of w_1115 rfl
theorem q_1116 : (Jvm.Cond.fieldLink "DialSquareModel" (264 : Nat) "DialSquareModel" "most" "I") ∈ tw := tw_of w_1116 rfl
theorem q_1117 : (Jvm.Cond.fieldLink "DialSquareModel" (267 : Nat) "DialSquareModel" "many" "I") ∈ tw := tw_of w_1117 rfl
theorem q_1118 : (Jvm.Cond.fieldLink "DialSquareModel" (270 : Nat) "DialSquareModel" "few" "I") ∈ tw := tw_of w_1118 rfl
theorem q_1119 : (Jvm.Cond.fieldLink "DialSquareModel" (273 : Nat) "DialSquareModel" "everRight" "I") ∈ tw := tw_of w_1119 rfl
theorem q_1120 : (Jvm.Cond.fieldLink "DialSquareModel" (44 : Nat) "DialSquareModel" "lagThen" "[I") ∈ tw := tw_of w_1120 rfl
theorem q_1121 : (Jvm.Cond.fieldLink "DialSquareModel" (47 : Nat) "DialSquareModel" "shadedThen" "[I") ∈ tw := tw_of w_1121 rfl
theorem q_1122 : (Jvm.Cond.fieldLink "DialSquareModel" (306 : Nat) "DialSquareModel" "firstFit" "I") ∈ tw := tw_of w_1122 rfl
theorem q_1123 : (Jvm.Cond.fieldLink "DialSquareModel" (50 : Nat) "DialSquareModel" "rows" "[I") ∈ tw := tw_of w_1123 rfl
theorem q_1124 : (Jvm.Cond.fieldLink "DialSquareModel" (322 : Nat) "DialSquareModel" "rowMany" "I") ∈ tw := tw_of w_1124 rfl
theorem q_1125 : (Jvm.Cond.fieldLink "DialSquareModel" (53 : Nat) "DialSquareModel" "sorts" "[I") ∈ tw := tw_of w_1125 rfl
theorem q_1126 : (Jvm.Cond.fieldLink "DialSquareModel" (56 : Nat) "DialSquareModel" "sizes" "[I") ∈ tw := tw_of w_1126 rfl
theorem q_1127 : (Jvm.Cond.fieldLink "DialSquareModel" (59 : Nat) "DialSquareModel" "number" "[I") ∈ tw := tw_of w_1127 rfl
theorem q_1128 : (Jvm.Cond.fieldLink "DialSquareModel" (62 : Nat) "DialSquareModel" "holds" "[I") ∈ tw := tw_of w_1128 rfl
theorem q_1129 : (Jvm.Cond.fieldLink "DialSquareModel" (65 : Nat) "DialSquareModel" "heldOne" "[I") ∈ tw := tw_of w_1129 rfl
theorem q_1130 : (Jvm.Cond.fieldLink "DialSquareModel" (68 : Nat) "DialSquareModel" "trace" "[I") ∈ tw := tw_of w_1130 rfl
theorem q_1131 : (Jvm.Cond.fieldLink "DialSquareModel" (346 : Nat) "DialSquareModel" "traced" "I") ∈ tw := tw_of w_1131 rfl
theorem q_1132 : (Jvm.Cond.fieldLink "DialSquareModel" (355 : Nat) "DialSquareModel" "own" "I") ∈ tw := tw_of w_1132 rfl
theorem q_1133 : (Jvm.Cond.fieldLink "DialSquareModel" (364 : Nat) "DialSquareModel" "isParted" "Z") ∈ tw := tw_of w_1133 rfl
theorem q_1134 : (Jvm.Cond.laysFinal "DialSquareModel" "DialSquareModel" "s" "[I") ∈ tw := tw_of w_1134 rfl
theorem q_1136 : (Jvm.Cond.laysFinal "DialSquareModel" "DialSquareModel" "kept" "[I") ∈ tw := tw_of w_1136 rfl
theorem q_1138 : (Jvm.Cond.laysFinal "DialSquareModel" "DialSquareModel" "laid" "[I") ∈ tw := tw_of w_1138 rfl
theorem q_1140 : (Jvm.Cond.lays "DialSquareModel" "DialSquareModel" "isKept" "Z") ∈ tw := tw_of w_1140 rfl
theorem q_1142 : (Jvm.Cond.laysFinal "DialSquareModel" "DialSquareModel" "pile" "[I") ∈ tw := tw_of w_1142 rfl
theorem q_1144 : (Jvm.Cond.laysFinal "DialSquareModel" "DialSquareModel" "tape" "[I") ∈ tw := tw_of w_1144 rfl
theorem q_1146 : (Jvm.Cond.lays "DialSquareModel" "DialSquareModel" "taped" "I") ∈ tw := tw_of w_1146 rfl
theorem q_1148 : (Jvm.Cond.laysFinal "DialSquareModel" "DialSquareModel" "letters" "[C") ∈ tw := tw_of w_1148 rfl
theorem q_1150 : (Jvm.Cond.lays "DialSquareModel" "DialSquareModel" "at" "I") ∈ tw := tw_of w_1150 rfl
theorem q_1152 : (Jvm.Cond.lays "DialSquareModel" "DialSquareModel" "begun" "I") ∈ tw := tw_of w_1152 rfl
theorem q_1154 : (Jvm.Cond.lays "DialSquareModel" "DialSquareModel" "token" "I") ∈ tw := tw_of w_1154 rfl
theorem q_1156 : (Jvm.Cond.lays "DialSquareModel" "DialSquareModel" "value" "I") ∈ tw := tw_of w_1156 rfl
theorem q_1158 : (Jvm.Cond.lays "DialSquareModel" "DialSquareModel" "opened" "I") ∈ tw := tw_of w_1158 rfl
theorem q_1160 : (Jvm.Cond.lays "DialSquareModel" "DialSquareModel" "steps" "I") ∈ tw := tw_of w_1160 rfl
theorem q_1162 : (Jvm.Cond.laysFinal "DialSquareModel" "DialSquareModel" "code0" "[I") ∈ tw := tw_of w_1162 rfl
theorem q_1164 : (Jvm.Cond.laysFinal "DialSquareModel" "DialSquareModel" "read" "[I") ∈ tw := tw_of w_1164 rfl
theorem q_1166 : (Jvm.Cond.laysFinal "DialSquareModel" "DialSquareModel" "saved" "[I") ∈ tw := tw_of w_1166 rfl
theorem q_1168 : (Jvm.Cond.laysFinal "DialSquareModel" "DialSquareModel" "plan" "[I") ∈ tw := tw_of w_1168 rfl
theorem q_1170 : (Jvm.Cond.laysFinal "DialSquareModel" "DialSquareModel" "bestPlan" "[I") ∈ tw := tw_of w_1170 rfl
theorem q_1172 : (Jvm.Cond.lays "DialSquareModel" "DialSquareModel" "most" "I") ∈ tw := tw_of w_1172 rfl
theorem q_1174 : (Jvm.Cond.lays "DialSquareModel" "DialSquareModel" "many" "I") ∈ tw := tw_of w_1174 rfl
theorem q_1176 : (Jvm.Cond.lays "DialSquareModel" "DialSquareModel" "few" "I") ∈ tw := tw_of w_1176 rfl
theorem q_1178 : (Jvm.Cond.lays "DialSquareModel" "DialSquareModel" "everRight" "I") ∈ tw := tw_of w_1178 rfl
theorem q_1180 : (Jvm.Cond.laysFinal "DialSquareModel" "DialSquareModel" "lagThen" "[I") ∈ tw := tw_of w_1180 rfl
theorem q_1182 : (Jvm.Cond.laysFinal "DialSquareModel" "DialSquareModel" "shadedThen" "[I") ∈ tw := tw_of w_1182 rfl
theorem q_1184 : (Jvm.Cond.lays "DialSquareModel" "DialSquareModel" "firstFit" "I") ∈ tw := tw_of w_1184 rfl
theorem q_1186 : (Jvm.Cond.laysFinal "DialSquareModel" "DialSquareModel" "rows" "[I") ∈ tw := tw_of w_1186 rfl
theorem q_1188 : (Jvm.Cond.lays "DialSquareModel" "DialSquareModel" "rowMany" "I") ∈ tw := tw_of w_1188 rfl
theorem q_1190 : (Jvm.Cond.laysFinal "DialSquareModel" "DialSquareModel" "sorts" "[I") ∈ tw := tw_of w_1190 rfl
theorem q_1192 : (Jvm.Cond.laysFinal "DialSquareModel" "DialSquareModel" "sizes" "[I") ∈ tw := tw_of w_1192 rfl
theorem q_1194 : (Jvm.Cond.laysFinal "DialSquareModel" "DialSquareModel" "number" "[I") ∈ tw := tw_of w_1194 rfl
theorem q_1196 : (Jvm.Cond.laysFinal "DialSquareModel" "DialSquareModel" "holds" "[I") ∈ tw := tw_of w_1196 rfl
theorem q_1198 : (Jvm.Cond.laysFinal "DialSquareModel" "DialSquareModel" "heldOne" "[I") ∈ tw := tw_of w_1198 rfl
theorem q_1200 : (Jvm.Cond.laysFinal "DialSquareModel" "DialSquareModel" "trace" "[I") ∈ tw := tw_of w_1200 rfl
theorem q_1202 : (Jvm.Cond.lays "DialSquareModel" "DialSquareModel" "traced" "I") ∈ tw := tw_of w_1202 rfl
theorem q_1204 : (Jvm.Cond.lays "DialSquareModel" "DialSquareModel" "own" "I") ∈ tw := tw_of w_1204 rfl
theorem q_1206 : (Jvm.Cond.lays "DialSquareModel" "DialSquareModel" "isParted" "Z") ∈ tw := tw_of w_1206 rfl
theorem q_1208 : (Jvm.Cond.superclass "DialSquareModel" "java/lang/Object") ∈ tw := tw_of w_1208 rfl
theorem q_1209 : (Jvm.Cond.arrayClass Jvm.ClassFile.FieldType.char) ∈ tw := tw_of w_1209 rfl
theorem q_1210 : (Jvm.Cond.methodLink "DialSquareLaw" (64 : Nat) ({ cls := "DialSquareModel", name := "feed", desc := "(JI)I" } : Jvm.MethodName)) ∈ tw := tw_of w_1210 rfl
theorem q_1211 : (Jvm.Cond.instanceMethod ({ cls := "DialSquareModel", name := "feed", desc := "(JI)I" } : Jvm.MethodName)) ∈ tw := tw_of w_1211 rfl
theorem q_1212 : (Jvm.Cond.selects "DialSquareModel" ({ cls := "DialSquareModel", name := "feed", desc := "(JI)I" } : Jvm.MethodName) ({ cls := "DialSquareModel", name := "feed", desc := "(JI)I" } : Jvm.MethodName)) ∈ tw := tw_of w_1212 rfl
theorem q_1213 : (Jvm.Cond.code ({ cls := "DialSquareModel", name := "feed", desc := "(JI)I" } : Jvm.MethodName) prog_14_method_44_code (5 : Nat) (Option.some Jvm.ClassFile.FieldType.int)) ∈ tw := tw_of w_1213 rfl
theorem q_1214 : (Jvm.Cond.methodLink "DialSquareModel" (71 : Nat) ({ cls := "DialSquareModel", name := "in1", desc := "(III)Z" } : Jvm.MethodName)) ∈ tw := tw_of w_1214 rfl
theorem q_1215 : (Jvm.Cond.static ({ cls := "DialSquareModel", name := "in1", desc := "(III)Z" } : Jvm.MethodName)) ∈ tw := tw_of w_1215 rfl
theorem q_1216 : (Jvm.Cond.code ({ cls := "DialSquareModel", name := "in1", desc := "(III)Z" } : Jvm.MethodName) prog_14_method_2_code (3 : Nat) (Option.some Jvm.ClassFile.FieldType.boolean)) ∈ tw := tw_of w_1216 rfl
theorem q_1217 : (Jvm.Cond.constantLong "DialSquareModel" (192 : Nat) (255 : Int64)) ∈ tw := tw_of w_1217 rfl
theorem q_1218 : (Jvm.Cond.methodLink "DialSquareLaw" (68 : Nat) ({ cls := "DialSquareModel", name := "rules", desc := "()I" } : Jvm.MethodName)) ∈ tw := tw_of w_1218 rfl
theorem q_1219 : (Jvm.Cond.instanceMethod ({ cls := "DialSquareModel", name := "rules", desc := "()I" } : Jvm.MethodName)) ∈ tw := tw_of w_1219 rfl
theorem q_1220 : (Jvm.Cond.selects "DialSquareModel" ({ cls := "DialSquareModel", name := "rules", desc := "()I" } : Jvm.MethodName) ({ cls := "DialSquareModel", name := "rules", desc := "()I" } : Jvm.MethodName)) ∈ tw := tw_of w_1220 rfl
theorem q_1221 : (Jvm.Cond.code ({ cls := "DialSquareModel", name := "rules", desc := "()I" } : Jvm.MethodName) prog_14_method_45_code (4 : Nat) (Option.some Jvm.ClassFile.FieldType.int)) ∈ tw := tw_of w_1221 rfl
theorem q_1222 : (Jvm.Cond.methodLink "DialSquareModel" (157 : Nat) ({ cls := "DialSquareModel", name := "next", desc := "()V" } : Jvm.MethodName)) ∈ tw := tw_of w_1222 rfl
theorem q_1224 : (Jvm.Cond.instanceMethod ({ cls := "DialSquareModel", name := "next", desc := "()V" } : Jvm.MethodName)) ∈ tw := tw_of w_1224 rfl
theorem q_1225 : (Jvm.Cond.code ({ cls := "DialSquareModel", name := "next", desc := "()V" } : Jvm.MethodName) prog_14_method_34_code (2 : Nat) (Option.none : Option Jvm.ClassFile.FieldType)) ∈ tw := tw_of w_1225 rfl
theorem q_1226 : (Jvm.Cond.methodLink "DialSquareModel" (138 : Nat) ({ cls := "DialSquareModel", name := "byteAt", desc := "(I)I" } : Jvm.MethodName)) ∈ tw := tw_of w_1226 rfl
theorem q_1228 : (Jvm.Cond.instanceMethod ({ cls := "DialSquareModel", name := "byteAt", desc := "(I)I" } : Jvm.MethodName)) ∈ tw := tw_of w_1228 rfl
theorem q_1229 : (Jvm.Cond.code ({ cls := "DialSquareModel", name := "byteAt", desc := "(I)I" } : Jvm.MethodName) prog_14_method_30_code (2 : Nat) (Option.some Jvm.ClassFile.FieldType.int)) ∈ tw := tw_of w_1229 rfl
theorem q_1230 : (Jvm.Cond.methodLink "DialSquareModel" (151 : Nat) ({ cls := "DialSquareModel", name := "readsName", desc := "()V" } : Jvm.MethodName)) ∈ tw := tw_of w_1230 rfl
theorem q_1232 : (Jvm.Cond.instanceMethod ({ cls := "DialSquareModel", name := "readsName", desc := "()V" } : Jvm.MethodName)) ∈ tw := tw_of w_1232 rfl
theorem q_1233 : (Jvm.Cond.code ({ cls := "DialSquareModel", name := "readsName", desc := "()V" } : Jvm.MethodName) prog_14_method_32_code (2 : Nat) (Option.none : Option Jvm.ClassFile.FieldType)) ∈ tw := tw_of w_1233 rfl
theorem q_1234 : (Jvm.Cond.methodLink "DialSquareModel" (144 : Nat) ({ cls := "DialSquareModel", name := "isNameOf", desc := "(I)Z" } : Jvm.MethodName)) ∈ tw := tw_of w_1234 rfl
theorem q_1236 : (Jvm.Cond.instanceMethod ({ cls := "DialSquareModel", name := "isNameOf", desc := "(I)Z" } : Jvm.MethodName)) ∈ tw := tw_of w_1236 rfl
theorem q_1237 : (Jvm.Cond.code ({ cls := "DialSquareModel", name := "isNameOf", desc := "(I)Z" } : Jvm.MethodName) prog_14_method_31_code (4 : Nat) (Option.some Jvm.ClassFile.FieldType.boolean)) ∈ tw := tw_of w_1237 rfl
theorem q_1238 : (Jvm.Cond.methodLink "DialSquareModel" (154 : Nat) ({ cls := "DialSquareModel", name := "readsNumber", desc := "()V" } : Jvm.MethodName)) ∈ tw := tw_of w_1238 rfl
theorem q_1240 : (Jvm.Cond.instanceMethod ({ cls := "DialSquareModel", name := "readsNumber", desc := "()V" } : Jvm.MethodName)) ∈ tw := tw_of w_1240 rfl
theorem q_1241 : (Jvm.Cond.code ({ cls := "DialSquareModel", name := "readsNumber", desc := "()V" } : Jvm.MethodName) prog_14_method_33_code (1 : Nat) (Option.none : Option Jvm.ClassFile.FieldType)) ∈ tw := tw_of w_1241 rfl
theorem q_1242 : (Jvm.Cond.methodLink "DialSquareModel" (194 : Nat) ({ cls := "DialSquareModel", name := "readsRule", desc := "(I)Z" } : Jvm.MethodName)) ∈ tw := tw_of w_1242 rfl
theorem q_1244 : (Jvm.Cond.instanceMethod ({ cls := "DialSquareModel", name := "readsRule", desc := "(I)Z" } : Jvm.MethodName)) ∈ tw := tw_of w_1244 rfl
theorem q_1245 : (Jvm.Cond.code ({ cls := "DialSquareModel", name := "readsRule", desc := "(I)Z" } : Jvm.MethodName) prog_14_method_43_code (2 : Nat) (Option.some Jvm.ClassFile.FieldType.boolean)) ∈ tw := tw_of w_1245 rfl
theorem q_1246 : (Jvm.Cond.methodLink "DialSquareModel" (177 : Nat) ({ cls := "DialSquareModel", name := "takes", desc := "(I)Z" } : Jvm.MethodName)) ∈ tw := tw_of w_1246 rfl
theorem q_1248 : (Jvm.Cond.instanceMethod ({ cls := "DialSquareModel", name := "takes", desc := "(I)Z" } : Jvm.MethodName)) ∈ tw := tw_of w_1248 rfl
theorem q_1249 : (Jvm.Cond.code ({ cls := "DialSquareModel", name := "takes", desc := "(I)Z" } : Jvm.MethodName) prog_14_method_35_code (3 : Nat) (Option.some Jvm.ClassFile.FieldType.boolean)) ∈ tw := tw_of w_1249 rfl
theorem q_1250 : (Jvm.Cond.methodLink "DialSquareModel" (174 : Nat) ({ cls := "DialSquareModel", name := "readsCondition", desc := "()Z" } : Jvm.MethodName)) ∈ tw := tw_of w_1250 rfl
theorem q_1252 : (Jvm.Cond.instanceMethod ({ cls := "DialSquareModel", name := "readsCondition", desc := "()Z" } : Jvm.MethodName)) ∈ tw := tw_of w_1252 rfl
theorem q_1253 : (Jvm.Cond.code ({ cls := "DialSquareModel", name := "readsCondition", desc := "()Z" } : Jvm.MethodName) prog_14_method_42_code (2 : Nat) (Option.some Jvm.ClassFile.FieldType.boolean)) ∈ tw := tw_of w_1253 rfl
theorem q_1254 : (Jvm.Cond.methodLink "DialSquareModel" (189 : Nat) ({ cls := "DialSquareModel", name := "readsAll", desc := "()Z" } : Jvm.MethodName)) ∈ tw := tw_of w_1254 rfl
theorem q_1256 : (Jvm.Cond.instanceMethod ({ cls := "DialSquareModel", name := "readsAll", desc := "()Z" } : Jvm.MethodName)) ∈ tw := tw_of w_1256 rfl
theorem q_1257 : (Jvm.Cond.code ({ cls := "DialSquareModel", name := "readsAll", desc := "()Z" } : Jvm.MethodName) prog_14_method_41_code (2 : Nat) (Option.some Jvm.ClassFile.FieldType.boolean)) ∈ tw := tw_of w_1257 rfl
theorem q_1258 : (Jvm.Cond.methodLink "DialSquareModel" (186 : Nat) ({ cls := "DialSquareModel", name := "readsOne", desc := "()Z" } : Jvm.MethodName)) ∈ tw := tw_of w_1258 rfl
theorem q_1260 : (Jvm.Cond.instanceMethod ({ cls := "DialSquareModel", name := "readsOne", desc := "()Z" } : Jvm.MethodName)) ∈ tw := tw_of w_1260 rfl
theorem q_1261 : (Jvm.Cond.code ({ cls := "DialSquareModel", name := "readsOne", desc := "()Z" } : Jvm.MethodName) prog_14_method_40_code (4 : Nat) (Option.some Jvm.ClassFile.FieldType.boolean)) ∈ tw := tw_of w_1261 rfl
theorem q_1262 : (Jvm.Cond.methodLink "DialSquareModel" (180 : Nat) ({ cls := "DialSquareModel", name := "readsWithin", desc := "()Z" } : Jvm.MethodName)) ∈ tw := tw_of w_1262 rfl
theorem q_1264 : (Jvm.Cond.instanceMethod ({ cls := "DialSquareModel", name := "readsWithin", desc := "()Z" } : Jvm.MethodName)) ∈ tw := tw_of w_1264 rfl
theorem q_1265 : (Jvm.Cond.code ({ cls := "DialSquareModel", name := "readsWithin", desc := "()Z" } : Jvm.MethodName) prog_14_method_39_code (1 : Nat) (Option.some Jvm.ClassFile.FieldType.boolean)) ∈ tw := tw_of w_1265 rfl
theorem q_1266 : (Jvm.Cond.methodLink "DialSquareModel" (183 : Nat) ({ cls := "DialSquareModel", name := "readsLike", desc := "()Z" } : Jvm.MethodName)) ∈ tw := tw_of w_1266 rfl
theorem q_1268 : (Jvm.Cond.instanceMethod ({ cls := "DialSquareModel", name := "readsLike", desc := "()Z" } : Jvm.MethodName)) ∈ tw := tw_of w_1268 rfl
theorem q_1269 : (Jvm.Cond.code ({ cls := "DialSquareModel", name := "readsLike", desc := "()Z" } : Jvm.MethodName) prog_14_method_38_code (2 : Nat) (Option.some Jvm.ClassFile.FieldType.boolean)) ∈ tw := tw_of w_1269 rfl
theorem q_1270 : (Jvm.Cond.methodLink "DialSquareModel" (167 : Nat) ({ cls := "DialSquareModel", name := "readsValue", desc := "()Z" } : Jvm.MethodName)) ∈ tw := tw_of w_1270 rfl
theorem q_1272 : (Jvm.Cond.instanceMethod ({ cls := "DialSquareModel", name := "readsValue", desc := "()Z" } : Jvm.MethodName)) ∈ tw := tw_of w_1272 rfl
theorem q_1273 : (Jvm.Cond.code ({ cls := "DialSquareModel", name := "readsValue", desc := "()Z" } : Jvm.MethodName) prog_14_method_37_code (2 : Nat) (Option.some Jvm.ClassFile.FieldType.boolean)) ∈ tw := tw_of w_1273 rfl
theorem q_1274 : (Jvm.Cond.methodLink "DialSquareModel" (163 : Nat) ({ cls := "DialSquareModel", name := "lays", desc := "(I)V" } : Jvm.MethodName)) ∈ tw := tw_of w_1274 rfl
theorem q_1276 : (Jvm.Cond.instanceMethod ({ cls := "DialSquareModel", name := "lays", desc := "(I)V" } : Jvm.MethodName)) ∈ tw := tw_of w_1276 rfl
theorem q_1277 : (Jvm.Cond.code ({ cls := "DialSquareModel", name := "lays", desc := "(I)V" } : Jvm.MethodName) prog_14_method_36_code (2 : Nat) (Option.none : Option Jvm.ClassFile.FieldType)) ∈ tw := tw_of w_1277 rfl
theorem q_1278 : (Jvm.Cond.methodLink "DialSquareLaw" (17 : Nat) ({ cls := "DialSquareModel", name := "dial", desc := "(IIII)I" } : Jvm.MethodName)) ∈ tw := tw_of w_1278 rfl
theorem q_1279 : (Jvm.Cond.instanceMethod ({ cls := "DialSquareModel", name := "dial", desc := "(IIII)I" } : Jvm.MethodName)) ∈ tw := tw_of w_1279 rfl
theorem q_1280 : (Jvm.Cond.selects "DialSquareModel" ({ cls := "DialSquareModel", name := "dial", desc := "(IIII)I" } : Jvm.MethodName) ({ cls := "DialSquareModel", name := "dial", desc := "(IIII)I" } : Jvm.MethodName)) ∈ tw := tw_of w_1280 rfl
theorem q_1281 : (Jvm.Cond.code ({ cls := "DialSquareModel", name := "dial", desc := "(IIII)I" } : Jvm.MethodName) prog_14_method_53_code (6 : Nat) (Option.some Jvm.ClassFile.FieldType.int)) ∈ tw := tw_of w_1281 rfl
theorem q_1282 : (Jvm.Cond.methodLink "DialSquareModel" (225 : Nat) ({ cls := "DialSquareModel", name := "isDigit", desc := "(I)Z" } : Jvm.MethodName)) ∈ tw := tw_of w_1282 rfl
theorem q_1283 : (Jvm.Cond.static ({ cls := "DialSquareModel", name := "isDigit", desc := "(I)Z" } : Jvm.MethodName)) ∈ tw := tw_of w_1283 rfl
theorem q_1284 : (Jvm.Cond.code ({ cls := "DialSquareModel", name := "isDigit", desc := "(I)Z" } : Jvm.MethodName) prog_14_method_51_code (1 : Nat) (Option.some Jvm.ClassFile.FieldType.boolean)) ∈ tw := tw_of w_1284 rfl
theorem q_1285 : (Jvm.Cond.methodLink "DialSquareModel" (228 : Nat) ({ cls := "DialSquareModel", name := "isSpot", desc := "(I)Z" } : Jvm.MethodName)) ∈ tw := tw_of w_1285 rfl
theorem q_1286 : (Jvm.Cond.static ({ cls := "DialSquareModel", name := "isSpot", desc := "(I)Z" } : Jvm.MethodName)) ∈ tw := tw_of w_1286 rfl
theorem q_1287 : (Jvm.Cond.code ({ cls := "DialSquareModel", name := "isSpot", desc := "(I)Z" } : Jvm.MethodName) prog_14_method_52_code (1 : Nat) (Option.some Jvm.ClassFile.FieldType.boolean)) ∈ tw := tw_of w_1287 rfl
theorem q_1288 : (Jvm.Cond.methodLink "DialSquareModel" (197 : Nat) ({ cls := "DialSquareModel", name := "puts", desc := "(III)V" } : Jvm.MethodName)) ∈ tw := tw_of w_1288 rfl
theorem q_1290 : (Jvm.Cond.instanceMethod ({ cls := "DialSquareModel", name := "puts", desc := "(III)V" } : Jvm.MethodName)) ∈ tw := tw_of w_1290 rfl
theorem q_1291 : (Jvm.Cond.code ({ cls := "DialSquareModel", name := "puts", desc := "(III)V" } : Jvm.MethodName) prog_14_method_7_code (4 : Nat) (Option.none : Option Jvm.ClassFile.FieldType)) ∈ tw := tw_of w_1291 rfl
theorem q_1292 : (Jvm.Cond.methodLink "DialSquareLaw" (22 : Nat) ({ cls := "DialSquareModel", name := "dialOf", desc := "(II)I" } : Jvm.MethodName)) ∈ tw := tw_of w_1292 rfl
theorem q_1293 : (Jvm.Cond.instanceMethod ({ cls := "DialSquareModel", name := "dialOf", desc := "(II)I" } : Jvm.MethodName)) ∈ tw := tw_of w_1293 rfl
theorem q_1294 : (Jvm.Cond.selects "DialSquareModel" ({ cls := "DialSquareModel", name := "dialOf", desc := "(II)I" } : Jvm.MethodName) ({ cls := "DialSquareModel", name := "dialOf", desc := "(II)I" } : Jvm.MethodName)) ∈ tw := tw_of w_1294 rfl
theorem q_1295 : (Jvm.Cond.code ({ cls := "DialSquareModel", name := "dialOf", desc := "(II)I" } : Jvm.MethodName) prog_14_method_54_code (3 : Nat) (Option.some Jvm.ClassFile.FieldType.int)) ∈ tw := tw_of w_1295 rfl
theorem q_1296 : (Jvm.Cond.methodLink "DialSquareModel" (231 : Nat) ({ cls := "DialSquareModel", name := "isDial", desc := "(I)Z" } : Jvm.MethodName)) ∈ tw := tw_of w_1296 rfl
theorem q_1298 : (Jvm.Cond.instanceMethod ({ cls := "DialSquareModel", name := "isDial", desc := "(I)Z" } : Jvm.MethodName)) ∈ tw := tw_of w_1298 rfl
theorem q_1299 : (Jvm.Cond.code ({ cls := "DialSquareModel", name := "isDial", desc := "(I)Z" } : Jvm.MethodName) prog_14_method_8_code (2 : Nat) (Option.some Jvm.ClassFile.FieldType.boolean)) ∈ tw := tw_of w_1299 rfl
theorem q_1300 : (Jvm.Cond.methodLink "DialSquareModel" (91 : Nat) ({ cls := "DialSquareModel", name := "shadesOf", desc := "(I)I" } : Jvm.MethodName)) ∈ tw := tw_of w_1300 rfl
theorem q_1302 : (Jvm.Cond.instanceMethod ({ cls := "DialSquareModel", name := "shadesOf", desc := "(I)I" } : Jvm.MethodName)) ∈ tw := tw_of w_1302 rfl
theorem q_1303 : (Jvm.Cond.code ({ cls := "DialSquareModel", name := "shadesOf", desc := "(I)I" } : Jvm.MethodName) prog_14_method_17_code (2 : Nat) (Option.some Jvm.ClassFile.FieldType.int)) ∈ tw := tw_of w_1303 rfl
theorem q_1304 : (Jvm.Cond.methodLink "DialSquareModel" (79 : Nat) ({ cls := "DialSquareModel", name := "get", desc := "(II)I" } : Jvm.MethodName)) ∈ tw := tw_of w_1304 rfl
theorem q_1306 : (Jvm.Cond.instanceMethod ({ cls := "DialSquareModel", name := "get", desc := "(II)I" } : Jvm.MethodName)) ∈ tw := tw_of w_1306 rfl
theorem q_1307 : (Jvm.Cond.code ({ cls := "DialSquareModel", name := "get", desc := "(II)I" } : Jvm.MethodName) prog_14_method_6_code (3 : Nat) (Option.some Jvm.ClassFile.FieldType.int)) ∈ tw := tw_of w_1307 rfl
theorem q_1308 : (Jvm.Cond.methodLink "DialSquareModel" (83 : Nat) ({ cls := "DialSquareModel", name := "skyNow", desc := "()I" } : Jvm.MethodName)) ∈ tw := tw_of w_1308 rfl
theorem q_1310 : (Jvm.Cond.instanceMethod ({ cls := "DialSquareModel", name := "skyNow", desc := "()I" } : Jvm.MethodName)) ∈ tw := tw_of w_1310 rfl
theorem q_1311 : (Jvm.Cond.code ({ cls := "DialSquareModel", name := "skyNow", desc := "()I" } : Jvm.MethodName) prog_14_method_16_code (1 : Nat) (Option.some Jvm.ClassFile.FieldType.int)) ∈ tw := tw_of w_1311 rfl
theorem q_1312 : (Jvm.Cond.methodLink "DialSquareModel" (87 : Nat) ({ cls := "DialSquareModel", name := "shadesBy", desc := "(III)I" } : Jvm.MethodName)) ∈ tw := tw_of w_1312 rfl
theorem q_1313 : (Jvm.Cond.static ({ cls := "DialSquareModel", name := "shadesBy", desc := "(III)I" } : Jvm.MethodName)) ∈ tw := tw_of w_1313 rfl
theorem q_1314 : (Jvm.Cond.code ({ cls := "DialSquareModel", name := "shadesBy", desc := "(III)I" } : Jvm.MethodName) prog_14_method_14_code (3 : Nat) (Option.some Jvm.ClassFile.FieldType.int)) ∈ tw := tw_of w_1314 rfl
theorem q_1315 : (Jvm.Cond.methodLink "DialSquareModel" (219 : Nat) ({ cls := "DialSquareModel", name := "slipsOf", desc := "(I)I" } : Jvm.MethodName)) ∈ tw := tw_of w_1315 rfl
theorem q_1317 : (Jvm.Cond.instanceMethod ({ cls := "DialSquareModel", name := "slipsOf", desc := "(I)I" } : Jvm.MethodName)) ∈ tw := tw_of w_1317 rfl
theorem q_1318 : (Jvm.Cond.code ({ cls := "DialSquareModel", name := "slipsOf", desc := "(I)I" } : Jvm.MethodName) prog_14_method_19_code (2 : Nat) (Option.some Jvm.ClassFile.FieldType.int)) ∈ tw := tw_of w_1318 rfl
theorem q_1319 : (Jvm.Cond.methodLink "DialSquareModel" (94 : Nat) ({ cls := "DialSquareModel", name := "shadeAt", desc := "(I)I" } : Jvm.MethodName)) ∈ tw := tw_of w_1319 rfl
theorem q_1321 : (Jvm.Cond.instanceMethod ({ cls := "DialSquareModel", name := "shadeAt", desc := "(I)I" } : Jvm.MethodName)) ∈ tw := tw_of w_1321 rfl
theorem q_1322 : (Jvm.Cond.code ({ cls := "DialSquareModel", name := "shadeAt", desc := "(I)I" } : Jvm.MethodName) prog_14_method_18_code (4 : Nat) (Option.some Jvm.ClassFile.FieldType.int)) ∈ tw := tw_of w_1322 rfl
theorem q_1323 : (Jvm.Cond.methodLink "DialSquareModel" (97 : Nat) ({ cls := "DialSquareModel", name := "slipsBy", desc := "(III)I" } : Jvm.MethodName)) ∈ tw := tw_of w_1323 rfl
theorem q_1324 : (Jvm.Cond.static ({ cls := "DialSquareModel", name := "slipsBy", desc := "(III)I" } : Jvm.MethodName)) ∈ tw := tw_of w_1324 rfl
theorem q_1325 : (Jvm.Cond.code ({ cls := "DialSquareModel", name := "slipsBy", desc := "(III)I" } : Jvm.MethodName) prog_14_method_15_code (6 : Nat) (Option.some Jvm.ClassFile.FieldType.int)) ∈ tw := tw_of w_1325 rfl
theorem q_1326 : (Jvm.Cond.methodLink "DialSquareModel" (103 : Nat) ({ cls := "DialSquareModel", name := "paysOf", desc := "(I)I" } : Jvm.MethodName)) ∈ tw := tw_of w_1326 rfl
theorem q_1328 : (Jvm.Cond.instanceMethod ({ cls := "DialSquareModel", name := "paysOf", desc := "(I)I" } : Jvm.MethodName)) ∈ tw := tw_of w_1328 rfl
theorem q_1329 : (Jvm.Cond.code ({ cls := "DialSquareModel", name := "paysOf", desc := "(I)I" } : Jvm.MethodName) prog_14_method_20_code (3 : Nat) (Option.some Jvm.ClassFile.FieldType.int)) ∈ tw := tw_of w_1329 rfl
theorem q_1330 : (Jvm.Cond.methodLink "DialSquareModel" (207 : Nat) ({ cls := "DialSquareModel", name := "maySet", desc := "(I)Z" } : Jvm.MethodName)) ∈ tw := tw_of w_1330 rfl
theorem q_1332 : (Jvm.Cond.instanceMethod ({ cls := "DialSquareModel", name := "maySet", desc := "(I)Z" } : Jvm.MethodName)) ∈ tw := tw_of w_1332 rfl
theorem q_1333 : (Jvm.Cond.code ({ cls := "DialSquareModel", name := "maySet", desc := "(I)Z" } : Jvm.MethodName) prog_14_method_21_code (2 : Nat) (Option.some Jvm.ClassFile.FieldType.boolean)) ∈ tw := tw_of w_1333 rfl
theorem q_1334 : (Jvm.Cond.methodLink "DialSquareModel" (100 : Nat) ({ cls := "DialSquareModel", name := "willOf", desc := "(I)I" } : Jvm.MethodName)) ∈ tw := tw_of w_1334 rfl
theorem q_1336 : (Jvm.Cond.instanceMethod ({ cls := "DialSquareModel", name := "willOf", desc := "(I)I" } : Jvm.MethodName)) ∈ tw := tw_of w_1336 rfl
theorem q_1337 : (Jvm.Cond.code ({ cls := "DialSquareModel", name := "willOf", desc := "(I)I" } : Jvm.MethodName) prog_14_method_29_code (3 : Nat) (Option.some Jvm.ClassFile.FieldType.int)) ∈ tw := tw_of w_1337 rfl
theorem q_1338 : (Jvm.Cond.methodLink "DialSquareModel" (113 : Nat) ({ cls := "DialSquareModel", name := "ruleOf", desc := "(II)I" } : Jvm.MethodName)) ∈ tw := tw_of w_1338 rfl
theorem q_1340 : (Jvm.Cond.instanceMethod ({ cls := "DialSquareModel", name := "ruleOf", desc := "(II)I" } : Jvm.MethodName)) ∈ tw := tw_of w_1340 rfl
theorem q_1341 : (Jvm.Cond.code ({ cls := "DialSquareModel", name := "ruleOf", desc := "(II)I" } : Jvm.MethodName) prog_14_method_27_code (3 : Nat) (Option.some Jvm.ClassFile.FieldType.int)) ∈ tw := tw_of w_1341 rfl
theorem q_1342 : (Jvm.Cond.methodLink "DialSquareModel" (122 : Nat) ({ cls := "DialSquareModel", name := "isUnder", desc := "(II)Z" } : Jvm.MethodName)) ∈ tw := tw_of w_1342 rfl
theorem q_1343 : (Jvm.Cond.static ({ cls := "DialSquareModel", name := "isUnder", desc := "(II)Z" } : Jvm.MethodName)) ∈ tw := tw_of w_1343 rfl
theorem q_1344 : (Jvm.Cond.code ({ cls := "DialSquareModel", name := "isUnder", desc := "(II)Z" } : Jvm.MethodName) prog_14_method_13_code (3 : Nat) (Option.some Jvm.ClassFile.FieldType.boolean)) ∈ tw := tw_of w_1344 rfl
theorem q_1345 : (Jvm.Cond.methodLink "DialSquareModel" (75 : Nat) ({ cls := "DialSquareModel", name := "above", desc := "(I)I" } : Jvm.MethodName)) ∈ tw := tw_of w_1345 rfl
theorem q_1346 : (Jvm.Cond.static ({ cls := "DialSquareModel", name := "above", desc := "(I)I" } : Jvm.MethodName)) ∈ tw := tw_of w_1346 rfl
theorem q_1347 : (Jvm.Cond.code ({ cls := "DialSquareModel", name := "above", desc := "(I)I" } : Jvm.MethodName) prog_14_method_12_code (1 : Nat) (Option.some Jvm.ClassFile.FieldType.int)) ∈ tw := tw_of w_1347 rfl
theorem q_1348 : (Jvm.Cond.methodLink "DialSquareModel" (125 : Nat) ({ cls := "DialSquareModel", name := "holdsFor", desc := "(II)Z" } : Jvm.MethodName)) ∈ tw := tw_of w_1348 rfl
theorem q_1350 : (Jvm.Cond.instanceMethod ({ cls := "DialSquareModel", name := "holdsFor", desc := "(II)Z" } : Jvm.MethodName)) ∈ tw := tw_of w_1350 rfl
theorem q_1351 : (Jvm.Cond.code ({ cls := "DialSquareModel", name := "holdsFor", desc := "(II)Z" } : Jvm.MethodName) prog_14_method_28_code (6 : Nat) (Option.some Jvm.ClassFile.FieldType.boolean)) ∈ tw := tw_of w_1351 rfl
theorem q_1352 : (Jvm.Cond.methodLink "DialSquareModel" (116 : Nat) ({ cls := "DialSquareModel", name := "knownOf", desc := "(II)I" } : Jvm.MethodName)) ∈ tw := tw_of w_1352 rfl
theorem q_1354 : (Jvm.Cond.instanceMethod ({ cls := "DialSquareModel", name := "knownOf", desc := "(II)I" } : Jvm.MethodName)) ∈ tw := tw_of w_1354 rfl
theorem q_1355 : (Jvm.Cond.code ({ cls := "DialSquareModel", name := "knownOf", desc := "(II)I" } : Jvm.MethodName) prog_14_method_25_code (3 : Nat) (Option.some Jvm.ClassFile.FieldType.int)) ∈ tw := tw_of w_1355 rfl
theorem q_1356 : (Jvm.Cond.methodLink "DialSquareModel" (119 : Nat) ({ cls := "DialSquareModel", name := "joined", desc := "(III)I" } : Jvm.MethodName)) ∈ tw := tw_of w_1356 rfl
theorem q_1357 : (Jvm.Cond.static ({ cls := "DialSquareModel", name := "joined", desc := "(III)I" } : Jvm.MethodName)) ∈ tw := tw_of w_1357 rfl
theorem q_1358 : (Jvm.Cond.code ({ cls := "DialSquareModel", name := "joined", desc := "(III)I" } : Jvm.MethodName) prog_14_method_26_code (3 : Nat) (Option.some Jvm.ClassFile.FieldType.int)) ∈ tw := tw_of w_1358 rfl
theorem q_1359 : (Jvm.Cond.methodLink "DialSquareLaw" (27 : Nat) ({ cls := "DialSquareModel", name := "change", desc := "(III)I" } : Jvm.MethodName)) ∈ tw := tw_of w_1359 rfl
theorem q_1360 : (Jvm.Cond.instanceMethod ({ cls := "DialSquareModel", name := "change", desc := "(III)I" } : Jvm.MethodName)) ∈ tw := tw_of w_1360 rfl
theorem q_1361 : (Jvm.Cond.selects "DialSquareModel" ({ cls := "DialSquareModel", name := "change", desc := "(III)I" } : Jvm.MethodName) ({ cls := "DialSquareModel", name := "change", desc := "(III)I" } : Jvm.MethodName)) ∈ tw := tw_of w_1361 rfl
theorem q_1362 : (Jvm.Cond.code ({ cls := "DialSquareModel", name := "change", desc := "(III)I" } : Jvm.MethodName) prog_14_method_55_code (5 : Nat) (Option.some Jvm.ClassFile.FieldType.int)) ∈ tw := tw_of w_1362 rfl
theorem q_1363 : (Jvm.Cond.methodLink "DialSquareModel" (234 : Nat) ({ cls := "DialSquareModel", name := "becomes", desc := "(II)I" } : Jvm.MethodName)) ∈ tw := tw_of w_1363 rfl
theorem q_1365 : (Jvm.Cond.instanceMethod ({ cls := "DialSquareModel", name := "becomes", desc := "(II)I" } : Jvm.MethodName)) ∈ tw := tw_of w_1365 rfl
theorem q_1366 : (Jvm.Cond.code ({ cls := "DialSquareModel", name := "becomes", desc := "(II)I" } : Jvm.MethodName) prog_14_method_11_code (4 : Nat) (Option.some Jvm.ClassFile.FieldType.int)) ∈ tw := tw_of w_1366 rfl
theorem q_1367 : (Jvm.Cond.methodLink "DialSquareLaw" (31 : Nat) ({ cls := "DialSquareModel", name := "remake", desc := "(II)I" } : Jvm.MethodName)) ∈ tw := tw_of w_1367 rfl
theorem q_1368 : (Jvm.Cond.instanceMethod ({ cls := "DialSquareModel", name := "remake", desc := "(II)I" } : Jvm.MethodName)) ∈ tw := tw_of w_1368 rfl
theorem q_1369 : (Jvm.Cond.selects "DialSquareModel" ({ cls := "DialSquareModel", name := "remake", desc := "(II)I" } : Jvm.MethodName) ({ cls := "DialSquareModel", name := "remake", desc := "(II)I" } : Jvm.MethodName)) ∈ tw := tw_of w_1369 rfl
theorem q_1370 : (Jvm.Cond.code ({ cls := "DialSquareModel", name := "remake", desc := "(II)I" } : Jvm.MethodName) prog_14_method_56_code (3 : Nat) (Option.some Jvm.ClassFile.FieldType.int)) ∈ tw := tw_of w_1370 rfl
theorem q_1371 : (Jvm.Cond.methodLink "DialSquareLaw" (35 : Nat) ({ cls := "DialSquareModel", name := "sky", desc := "(II)I" } : Jvm.MethodName)) ∈ tw := tw_of w_1371 rfl
theorem q_1372 : (Jvm.Cond.instanceMethod ({ cls := "DialSquareModel", name := "sky", desc := "(II)I" } : Jvm.MethodName)) ∈ tw := tw_of w_1372 rfl
theorem q_1373 : (Jvm.Cond.selects "DialSquareModel" ({ cls := "DialSquareModel", name := "sky", desc := "(II)I" } : Jvm.MethodName) ({ cls := "DialSquareModel", name := "sky", desc := "(II)I" } : Jvm.MethodName)) ∈ tw := tw_of w_1373 rfl
theorem q_1374 : (Jvm.Cond.code ({ cls := "DialSquareModel", name := "sky", desc := "(II)I" } : Jvm.MethodName) prog_14_method_57_code (3 : Nat) (Option.some Jvm.ClassFile.FieldType.int)) ∈ tw := tw_of w_1374 rfl
theorem q_1375 : (Jvm.Cond.methodLink "DialSquareLaw" (39 : Nat) ({ cls := "DialSquareModel", name := "spot", desc := "(III)I" } : Jvm.MethodName)) ∈ tw := tw_of w_1375 rfl
theorem q_1376 : (Jvm.Cond.instanceMethod ({ cls := "DialSquareModel", name := "spot", desc := "(III)I" } : Jvm.MethodName)) ∈ tw := tw_of w_1376 rfl
theorem q_1377 : (Jvm.Cond.selects "DialSquareModel" ({ cls := "DialSquareModel", name := "spot", desc := "(III)I" } : Jvm.MethodName) ({ cls := "DialSquareModel", name := "spot", desc := "(III)I" } : Jvm.MethodName)) ∈ tw := tw_of w_1377 rfl
theorem q_1378 : (Jvm.Cond.code ({ cls := "DialSquareModel", name := "spot", desc := "(III)I" } : Jvm.MethodName) prog_14_method_58_code (4 : Nat) (Option.some Jvm.ClassFile.FieldType.int)) ∈ tw := tw_of w_1378 rfl
theorem q_1379 : (Jvm.Cond.methodLink "DialSquareLaw" (43 : Nat) ({ cls := "DialSquareModel", name := "spotOf", desc := "(II)I" } : Jvm.MethodName)) ∈ tw := tw_of w_1379 rfl
theorem q_1380 : (Jvm.Cond.instanceMethod ({ cls := "DialSquareModel", name := "spotOf", desc := "(II)I" } : Jvm.MethodName)) ∈ tw := tw_of w_1380 rfl
theorem q_1381 : (Jvm.Cond.selects "DialSquareModel" ({ cls := "DialSquareModel", name := "spotOf", desc := "(II)I" } : Jvm.MethodName) ({ cls := "DialSquareModel", name := "spotOf", desc := "(II)I" } : Jvm.MethodName)) ∈ tw := tw_of w_1381 rfl
theorem q_1382 : (Jvm.Cond.code ({ cls := "DialSquareModel", name := "spotOf", desc := "(II)I" } : Jvm.MethodName) prog_14_method_59_code (3 : Nat) (Option.some Jvm.ClassFile.FieldType.int)) ∈ tw := tw_of w_1382 rfl
theorem q_1383 : (Jvm.Cond.methodLink "DialSquareLaw" (48 : Nat) ({ cls := "DialSquareModel", name := "ends", desc := "(I)I" } : Jvm.MethodName)) ∈ tw := tw_of w_1383 rfl
theorem q_1384 : (Jvm.Cond.instanceMethod ({ cls := "DialSquareModel", name := "ends", desc := "(I)I" } : Jvm.MethodName)) ∈ tw := tw_of w_1384 rfl
theorem q_1385 : (Jvm.Cond.selects "DialSquareModel" ({ cls := "DialSquareModel", name := "ends", desc := "(I)I" } : Jvm.MethodName) ({ cls := "DialSquareModel", name := "ends", desc := "(I)I" } : Jvm.MethodName)) ∈ tw := tw_of w_1385 rfl
theorem q_1386 : (Jvm.Cond.code ({ cls := "DialSquareModel", name := "ends", desc := "(I)I" } : Jvm.MethodName) prog_14_method_60_code (2 : Nat) (Option.some Jvm.ClassFile.FieldType.int)) ∈ tw := tw_of w_1386 rfl
theorem q_1387 : (Jvm.Cond.methodLink "DialSquareLaw" (53 : Nat) ({ cls := "DialSquareModel", name := "anew", desc := "()I" } : Jvm.MethodName)) ∈ tw := tw_of w_1387 rfl
theorem q_1388 : (Jvm.Cond.instanceMethod ({ cls := "DialSquareModel", name := "anew", desc := "()I" } : Jvm.MethodName)) ∈ tw := tw_of w_1388 rfl
theorem q_1389 : (Jvm.Cond.selects "DialSquareModel" ({ cls := "DialSquareModel", name := "anew", desc := "()I" } : Jvm.MethodName) ({ cls := "DialSquareModel", name := "anew", desc := "()I" } : Jvm.MethodName)) ∈ tw := tw_of w_1389 rfl
theorem q_1390 : (Jvm.Cond.code ({ cls := "DialSquareModel", name := "anew", desc := "()I" } : Jvm.MethodName) prog_14_method_61_code (2 : Nat) (Option.some Jvm.ClassFile.FieldType.int)) ∈ tw := tw_of w_1390 rfl
theorem q_1391 : (Jvm.Cond.methodLink "DialSquareLaw" (57 : Nat) ({ cls := "DialSquareModel", name := "state", desc := "(I)I" } : Jvm.MethodName)) ∈ tw := tw_of w_1391 rfl
theorem q_1392 : (Jvm.Cond.instanceMethod ({ cls := "DialSquareModel", name := "state", desc := "(I)I" } : Jvm.MethodName)) ∈ tw := tw_of w_1392 rfl
theorem q_1393 : (Jvm.Cond.selects "DialSquareModel" ({ cls := "DialSquareModel", name := "state", desc := "(I)I" } : Jvm.MethodName) ({ cls := "DialSquareModel", name := "state", desc := "(I)I" } : Jvm.MethodName)) ∈ tw := tw_of w_1393 rfl
theorem q_1394 : (Jvm.Cond.code ({ cls := "DialSquareModel", name := "state", desc := "(I)I" } : Jvm.MethodName) prog_14_method_63_code (2 : Nat) (Option.some Jvm.ClassFile.FieldType.int)) ∈ tw := tw_of w_1394 rfl
theorem q_1395 : (Jvm.Cond.methodLink "DialSquareModel" (237 : Nat) ({ cls := "DialSquareModel", name := "isOver", desc := "()Z" } : Jvm.MethodName)) ∈ tw := tw_of w_1395 rfl
theorem q_1397 : (Jvm.Cond.instanceMethod ({ cls := "DialSquareModel", name := "isOver", desc := "()Z" } : Jvm.MethodName)) ∈ tw := tw_of w_1397 rfl
theorem q_1398 : (Jvm.Cond.code ({ cls := "DialSquareModel", name := "isOver", desc := "()Z" } : Jvm.MethodName) prog_14_method_10_code (1 : Nat) (Option.some Jvm.ClassFile.FieldType.boolean)) ∈ tw := tw_of w_1398 rfl
theorem q_1399 : (Jvm.Cond.methodLink "DialSquareModel" (240 : Nat) ({ cls := "DialSquareModel", name := "those", desc := "(I)I" } : Jvm.MethodName)) ∈ tw := tw_of w_1399 rfl
theorem q_1401 : (Jvm.Cond.instanceMethod ({ cls := "DialSquareModel", name := "those", desc := "(I)I" } : Jvm.MethodName)) ∈ tw := tw_of w_1401 rfl
theorem q_1402 : (Jvm.Cond.code ({ cls := "DialSquareModel", name := "those", desc := "(I)I" } : Jvm.MethodName) prog_14_method_62_code (4 : Nat) (Option.some Jvm.ClassFile.FieldType.int)) ∈ tw := tw_of w_1402 rfl
theorem q_1403 : (Jvm.Cond.methodLink "DialSquareModel" (216 : Nat) ({ cls := "DialSquareModel", name := "pairsNow", desc := "()I" } : Jvm.MethodName)) ∈ tw := tw_of w_1403 rfl
theorem q_1405 : (Jvm.Cond.instanceMethod ({ cls := "DialSquareModel", name := "pairsNow", desc := "()I" } : Jvm.MethodName)) ∈ tw := tw_of w_1405 rfl
theorem q_1406 : (Jvm.Cond.code ({ cls := "DialSquareModel", name := "pairsNow", desc := "()I" } : Jvm.MethodName) prog_14_method_24_code (4 : Nat) (Option.some Jvm.ClassFile.FieldType.int)) ∈ tw := tw_of w_1406 rfl
theorem q_1407 : (Jvm.Cond.methodLink "DialSquareModel" (109 : Nat) ({ cls := "DialSquareModel", name := "doAgree", desc := "(II)Z" } : Jvm.MethodName)) ∈ tw := tw_of w_1407 rfl
theorem q_1409 : (Jvm.Cond.instanceMethod ({ cls := "DialSquareModel", name := "doAgree", desc := "(II)Z" } : Jvm.MethodName)) ∈ tw := tw_of w_1409 rfl
theorem q_1410 : (Jvm.Cond.code ({ cls := "DialSquareModel", name := "doAgree", desc := "(II)Z" } : Jvm.MethodName) prog_14_method_23_code (3 : Nat) (Option.some Jvm.ClassFile.FieldType.boolean)) ∈ tw := tw_of w_1410 rfl
theorem q_1411 : (Jvm.Cond.methodLink "DialSquareModel" (106 : Nat) ({ cls := "DialSquareModel", name := "apart", desc := "(II)I" } : Jvm.MethodName)) ∈ tw := tw_of w_1411 rfl
theorem q_1412 : (Jvm.Cond.static ({ cls := "DialSquareModel", name := "apart", desc := "(II)I" } : Jvm.MethodName)) ∈ tw := tw_of w_1412 rfl
theorem q_1413 : (Jvm.Cond.code ({ cls := "DialSquareModel", name := "apart", desc := "(II)I" } : Jvm.MethodName) prog_14_method_22_code (2 : Nat) (Option.some Jvm.ClassFile.FieldType.int)) ∈ tw := tw_of w_1413 rfl
theorem q_1414 : (Jvm.Cond.methodLink "DialSquareLaw" (72 : Nat) ({ cls := "DialSquareModel", name := "chime", desc := "()I" } : Jvm.MethodName)) ∈ tw := tw_of w_1414 rfl
theorem q_1415 : (Jvm.Cond.instanceMethod ({ cls := "DialSquareModel", name := "chime", desc := "()I" } : Jvm.MethodName)) ∈ tw := tw_of w_1415 rfl
theorem q_1416 : (Jvm.Cond.selects "DialSquareModel" ({ cls := "DialSquareModel", name := "chime", desc := "()I" } : Jvm.MethodName) ({ cls := "DialSquareModel", name := "chime", desc := "()I" } : Jvm.MethodName)) ∈ tw := tw_of w_1416 rfl
theorem q_1417 : (Jvm.Cond.code ({ cls := "DialSquareModel", name := "chime", desc := "()I" } : Jvm.MethodName) prog_14_method_64_code (1 : Nat) (Option.some Jvm.ClassFile.FieldType.int)) ∈ tw := tw_of w_1417 rfl
theorem q_1418 : (Jvm.Cond.methodLink "DialSquareModel" (243 : Nat) ({ cls := "DialSquareModel", name := "goesBy", desc := "(I)I" } : Jvm.MethodName)) ∈ tw := tw_of w_1418 rfl
theorem q_1420 : (Jvm.Cond.instanceMethod ({ cls := "DialSquareModel", name := "goesBy", desc := "(I)I" } : Jvm.MethodName)) ∈ tw := tw_of w_1420 rfl
theorem q_1421 : (Jvm.Cond.code ({ cls := "DialSquareModel", name := "goesBy", desc := "(I)I" } : Jvm.MethodName) prog_14_method_50_code (6 : Nat) (Option.some Jvm.ClassFile.FieldType.int)) ∈ tw := tw_of w_1421 rfl
theorem q_1422 : (Jvm.Cond.methodLink "DialSquareModel" (210 : Nat) ({ cls := "DialSquareModel", name := "restOne", desc := "()I" } : Jvm.MethodName)) ∈ tw := tw_of w_1422 rfl
theorem q_1424 : (Jvm.Cond.instanceMethod ({ cls := "DialSquareModel", name := "restOne", desc := "()I" } : Jvm.MethodName)) ∈ tw := tw_of w_1424 rfl
theorem q_1425 : (Jvm.Cond.code ({ cls := "DialSquareModel", name := "restOne", desc := "()I" } : Jvm.MethodName) prog_14_method_49_code (2 : Nat) (Option.some Jvm.ClassFile.FieldType.int)) ∈ tw := tw_of w_1425 rfl
theorem q_1426 : (Jvm.Cond.methodLink "DialSquareModel" (213 : Nat) ({ cls := "DialSquareModel", name := "meets", desc := "(I)I" } : Jvm.MethodName)) ∈ tw := tw_of w_1426 rfl
theorem q_1428 : (Jvm.Cond.instanceMethod ({ cls := "DialSquareModel", name := "meets", desc := "(I)I" } : Jvm.MethodName)) ∈ tw := tw_of w_1428 rfl
theorem q_1429 : (Jvm.Cond.code ({ cls := "DialSquareModel", name := "meets", desc := "(I)I" } : Jvm.MethodName) prog_14_method_48_code (3 : Nat) (Option.some Jvm.ClassFile.FieldType.int)) ∈ tw := tw_of w_1429 rfl
theorem q_1430 : (Jvm.Cond.methodLink "DialSquareModel" (201 : Nat) ({ cls := "DialSquareModel", name := "setsRight", desc := "(I)I" } : Jvm.MethodName)) ∈ tw := tw_of w_1430 rfl
theorem q_1432 : (Jvm.Cond.instanceMethod ({ cls := "DialSquareModel", name := "setsRight", desc := "(I)I" } : Jvm.MethodName)) ∈ tw := tw_of w_1432 rfl
theorem q_1433 : (Jvm.Cond.code ({ cls := "DialSquareModel", name := "setsRight", desc := "(I)I" } : Jvm.MethodName) prog_14_method_46_code (3 : Nat) (Option.some Jvm.ClassFile.FieldType.int)) ∈ tw := tw_of w_1433 rfl
theorem q_1434 : (Jvm.Cond.methodLink "DialSquareModel" (204 : Nat) ({ cls := "DialSquareModel", name := "argues", desc := "(I)I" } : Jvm.MethodName)) ∈ tw := tw_of w_1434 rfl
theorem q_1436 : (Jvm.Cond.instanceMethod ({ cls := "DialSquareModel", name := "argues", desc := "(I)I" } : Jvm.MethodName)) ∈ tw := tw_of w_1436 rfl
theorem q_1437 : (Jvm.Cond.code ({ cls := "DialSquareModel", name := "argues", desc := "(I)I" } : Jvm.MethodName) prog_14_method_47_code (6 : Nat) (Option.some Jvm.ClassFile.FieldType.int)) ∈ tw := tw_of w_1437 rfl
theorem q_1438 : (Jvm.Cond.methodLink "DialSquareModel" (222 : Nat) ({ cls := "DialSquareModel", name := "held", desc := "(II)I" } : Jvm.MethodName)) ∈ tw := tw_of w_1438 rfl
theorem q_1439 : (Jvm.Cond.static ({ cls := "DialSquareModel", name := "held", desc := "(II)I" } : Jvm.MethodName)) ∈ tw := tw_of w_1439 rfl
theorem q_1440 : (Jvm.Cond.code ({ cls := "DialSquareModel", name := "held", desc := "(II)I" } : Jvm.MethodName) prog_14_method_3_code (2 : Nat) (Option.some Jvm.ClassFile.FieldType.int)) ∈ tw := tw_of w_1440 rfl
theorem q_1441 : (Jvm.Cond.methodLink "DialSquareLaw" (76 : Nat) ({ cls := "DialSquareModel", name := "on", desc := "(I)I" } : Jvm.MethodName)) ∈ tw := tw_of w_1441 rfl
theorem q_1442 : (Jvm.Cond.instanceMethod ({ cls := "DialSquareModel", name := "on", desc := "(I)I" } : Jvm.MethodName)) ∈ tw := tw_of w_1442 rfl
theorem q_1443 : (Jvm.Cond.selects "DialSquareModel" ({ cls := "DialSquareModel", name := "on", desc := "(I)I" } : Jvm.MethodName) ({ cls := "DialSquareModel", name := "on", desc := "(I)I" } : Jvm.MethodName)) ∈ tw := tw_of w_1443 rfl
theorem q_1444 : (Jvm.Cond.code ({ cls := "DialSquareModel", name := "on", desc := "(I)I" } : Jvm.MethodName) prog_14_method_66_code (3 : Nat) (Option.some Jvm.ClassFile.FieldType.int)) ∈ tw := tw_of w_1444 rfl
theorem q_1445 : (Jvm.Cond.methodLink "DialSquareModel" (246 : Nat) ({ cls := "DialSquareModel", name := "layDown", desc := "()V" } : Jvm.MethodName)) ∈ tw := tw_of w_1445 rfl
theorem q_1447 : (Jvm.Cond.instanceMethod ({ cls := "DialSquareModel", name := "layDown", desc := "()V" } : Jvm.MethodName)) ∈ tw := tw_of w_1447 rfl
theorem q_1448 : (Jvm.Cond.code ({ cls := "DialSquareModel", name := "layDown", desc := "()V" } : Jvm.MethodName) prog_14_method_4_code (2 : Nat) (Option.none : Option Jvm.ClassFile.FieldType)) ∈ tw := tw_of w_1448 rfl
theorem q_1449 : (Jvm.Cond.methodLink "DialSquareModel" (249 : Nat) ({ cls := "DialSquareModel", name := "restOf", desc := "(I)I" } : Jvm.MethodName)) ∈ tw := tw_of w_1449 rfl
theorem q_1451 : (Jvm.Cond.instanceMethod ({ cls := "DialSquareModel", name := "restOf", desc := "(I)I" } : Jvm.MethodName)) ∈ tw := tw_of w_1451 rfl
theorem q_1452 : (Jvm.Cond.code ({ cls := "DialSquareModel", name := "restOf", desc := "(I)I" } : Jvm.MethodName) prog_14_method_65_code (4 : Nat) (Option.some Jvm.ClassFile.FieldType.int)) ∈ tw := tw_of w_1452 rfl
theorem q_1453 : (Jvm.Cond.methodLink "DialSquareModel" (252 : Nat) ({ cls := "DialSquareModel", name := "layBack", desc := "()V" } : Jvm.MethodName)) ∈ tw := tw_of w_1453 rfl
theorem q_1455 : (Jvm.Cond.instanceMethod ({ cls := "DialSquareModel", name := "layBack", desc := "()V" } : Jvm.MethodName)) ∈ tw := tw_of w_1455 rfl
theorem q_1456 : (Jvm.Cond.code ({ cls := "DialSquareModel", name := "layBack", desc := "()V" } : Jvm.MethodName) prog_14_method_5_code (2 : Nat) (Option.none : Option Jvm.ClassFile.FieldType)) ∈ tw := tw_of w_1456 rfl
theorem q_1457 : (Jvm.Cond.methodLink "DialSquareLaw" (80 : Nat) ({ cls := "DialSquareModel", name := "when", desc := "(I)I" } : Jvm.MethodName)) ∈ tw := tw_of w_1457 rfl
theorem q_1458 : (Jvm.Cond.instanceMethod ({ cls := "DialSquareModel", name := "when", desc := "(I)I" } : Jvm.MethodName)) ∈ tw := tw_of w_1458 rfl
theorem q_1459 : (Jvm.Cond.selects "DialSquareModel" ({ cls := "DialSquareModel", name := "when", desc := "(I)I" } : Jvm.MethodName) ({ cls := "DialSquareModel", name := "when", desc := "(I)I" } : Jvm.MethodName)) ∈ tw := tw_of w_1459 rfl
theorem q_1460 : (Jvm.Cond.code ({ cls := "DialSquareModel", name := "when", desc := "(I)I" } : Jvm.MethodName) prog_14_method_67_code (5 : Nat) (Option.some Jvm.ClassFile.FieldType.int)) ∈ tw := tw_of w_1460 rfl
theorem q_1461 : (Jvm.Cond.methodLink "DialSquareLaw" (84 : Nat) ({ cls := "DialSquareModel", name := "prideFor", desc := "(I)I" } : Jvm.MethodName)) ∈ tw := tw_of w_1461 rfl
theorem q_1462 : (Jvm.Cond.instanceMethod ({ cls := "DialSquareModel", name := "prideFor", desc := "(I)I" } : Jvm.MethodName)) ∈ tw := tw_of w_1462 rfl
theorem q_1463 : (Jvm.Cond.selects "DialSquareModel" ({ cls := "DialSquareModel", name := "prideFor", desc := "(I)I" } : Jvm.MethodName) ({ cls := "DialSquareModel", name := "prideFor", desc := "(I)I" } : Jvm.MethodName)) ∈ tw := tw_of w_1463 rfl
theorem q_1464 : (Jvm.Cond.code ({ cls := "DialSquareModel", name := "prideFor", desc := "(I)I" } : Jvm.MethodName) prog_14_method_69_code (2 : Nat) (Option.some Jvm.ClassFile.FieldType.int)) ∈ tw := tw_of w_1464 rfl
theorem q_1465 : (Jvm.Cond.methodLink "DialSquareModel" (255 : Nat) ({ cls := "DialSquareModel", name := "bestFor", desc := "(III)I" } : Jvm.MethodName)) ∈ tw := tw_of w_1465 rfl
theorem q_1467 : (Jvm.Cond.instanceMethod ({ cls := "DialSquareModel", name := "bestFor", desc := "(III)I" } : Jvm.MethodName)) ∈ tw := tw_of w_1467 rfl
theorem q_1468 : (Jvm.Cond.code ({ cls := "DialSquareModel", name := "bestFor", desc := "(III)I" } : Jvm.MethodName) prog_14_method_68_code (8 : Nat) (Option.some Jvm.ClassFile.FieldType.int)) ∈ tw := tw_of w_1468 rfl
theorem q_1469 : (Jvm.Cond.methodLink "DialSquareLaw" (88 : Nat) ({ cls := "DialSquareModel", name := "spotFor", desc := "(I)I" } : Jvm.MethodName)) ∈ tw := tw_of w_1469 rfl
theorem q_1470 : (Jvm.Cond.instanceMethod ({ cls := "DialSquareModel", name := "spotFor", desc := "(I)I" } : Jvm.MethodName)) ∈ tw := tw_of w_1470 rfl
theorem q_1471 : (Jvm.Cond.selects "DialSquareModel" ({ cls := "DialSquareModel", name := "spotFor", desc := "(I)I" } : Jvm.MethodName) ({ cls := "DialSquareModel", name := "spotFor", desc := "(I)I" } : Jvm.MethodName)) ∈ tw := tw_of w_1471 rfl
theorem q_1472 : (Jvm.Cond.code ({ cls := "DialSquareModel", name := "spotFor", desc := "(I)I" } : Jvm.MethodName) prog_14_method_70_code (2 : Nat) (Option.some Jvm.ClassFile.FieldType.int)) ∈ tw := tw_of w_1472 rfl
theorem q_1473 : (Jvm.Cond.methodLink "DialSquareLaw" (92 : Nat) ({ cls := "DialSquareModel", name := "late", desc := "(I)I" } : Jvm.MethodName)) ∈ tw := tw_of w_1473 rfl
theorem q_1474 : (Jvm.Cond.instanceMethod ({ cls := "DialSquareModel", name := "late", desc := "(I)I" } : Jvm.MethodName)) ∈ tw := tw_of w_1474 rfl
theorem q_1475 : (Jvm.Cond.selects "DialSquareModel" ({ cls := "DialSquareModel", name := "late", desc := "(I)I" } : Jvm.MethodName) ({ cls := "DialSquareModel", name := "late", desc := "(I)I" } : Jvm.MethodName)) ∈ tw := tw_of w_1475 rfl
theorem q_1476 : (Jvm.Cond.code ({ cls := "DialSquareModel", name := "late", desc := "(I)I" } : Jvm.MethodName) prog_14_method_71_code (4 : Nat) (Option.some Jvm.ClassFile.FieldType.int)) ∈ tw := tw_of w_1476 rfl
theorem q_1477 : (Jvm.Cond.methodLink "DialSquareLaw" (96 : Nat) ({ cls := "DialSquareModel", name := "middle", desc := "()I" } : Jvm.MethodName)) ∈ tw := tw_of w_1477 rfl
theorem q_1478 : (Jvm.Cond.instanceMethod ({ cls := "DialSquareModel", name := "middle", desc := "()I" } : Jvm.MethodName)) ∈ tw := tw_of w_1478 rfl
theorem q_1479 : (Jvm.Cond.selects "DialSquareModel" ({ cls := "DialSquareModel", name := "middle", desc := "()I" } : Jvm.MethodName) ({ cls := "DialSquareModel", name := "middle", desc := "()I" } : Jvm.MethodName)) ∈ tw := tw_of w_1479 rfl
theorem q_1480 : (Jvm.Cond.code ({ cls := "DialSquareModel", name := "middle", desc := "()I" } : Jvm.MethodName) prog_14_method_72_code (6 : Nat) (Option.some Jvm.ClassFile.FieldType.int)) ∈ tw := tw_of w_1480 rfl
theorem q_1481 : (Jvm.Cond.methodLink "DialSquareLaw" (100 : Nat) ({ cls := "DialSquareModel", name := "knots", desc := "(I)I" } : Jvm.MethodName)) ∈ tw := tw_of w_1481 rfl
theorem q_1482 : (Jvm.Cond.instanceMethod ({ cls := "DialSquareModel", name := "knots", desc := "(I)I" } : Jvm.MethodName)) ∈ tw := tw_of w_1482 rfl
theorem q_1483 : (Jvm.Cond.selects "DialSquareModel" ({ cls := "DialSquareModel", name := "knots", desc := "(I)I" } : Jvm.MethodName) ({ cls := "DialSquareModel", name := "knots", desc := "(I)I" } : Jvm.MethodName)) ∈ tw := tw_of w_1483 rfl
theorem q_1484 : (Jvm.Cond.code ({ cls := "DialSquareModel", name := "knots", desc := "(I)I" } : Jvm.MethodName) prog_14_method_75_code (5 : Nat) (Option.some Jvm.ClassFile.FieldType.int)) ∈ tw := tw_of w_1484 rfl
theorem q_1485 : (Jvm.Cond.methodLink "DialSquareModel" (261 : Nat) ({ cls := "DialSquareModel", name := "knotOf", desc := "(I)I" } : Jvm.MethodName)) ∈ tw := tw_of w_1485 rfl
theorem q_1487 : (Jvm.Cond.instanceMethod ({ cls := "DialSquareModel", name := "knotOf", desc := "(I)I" } : Jvm.MethodName)) ∈ tw := tw_of w_1487 rfl
theorem q_1488 : (Jvm.Cond.code ({ cls := "DialSquareModel", name := "knotOf", desc := "(I)I" } : Jvm.MethodName) prog_14_method_74_code (6 : Nat) (Option.some Jvm.ClassFile.FieldType.int)) ∈ tw := tw_of w_1488 rfl
theorem q_1489 : (Jvm.Cond.methodLink "DialSquareModel" (258 : Nat) ({ cls := "DialSquareModel", name := "areClose", desc := "(II)Z" } : Jvm.MethodName)) ∈ tw := tw_of w_1489 rfl
theorem q_1491 : (Jvm.Cond.instanceMethod ({ cls := "DialSquareModel", name := "areClose", desc := "(II)Z" } : Jvm.MethodName)) ∈ tw := tw_of w_1491 rfl
theorem q_1492 : (Jvm.Cond.code ({ cls := "DialSquareModel", name := "areClose", desc := "(II)Z" } : Jvm.MethodName) prog_14_method_73_code (3 : Nat) (Option.some Jvm.ClassFile.FieldType.boolean)) ∈ tw := tw_of w_1492 rfl
theorem q_1493 : (Jvm.Cond.methodLink "DialSquareLaw" (104 : Nat) ({ cls := "DialSquareModel", name := "seats", desc := "(II)I" } : Jvm.MethodName)) ∈ tw := tw_of w_1493 rfl
theorem q_1494 : (Jvm.Cond.instanceMethod ({ cls := "DialSquareModel", name := "seats", desc := "(II)I" } : Jvm.MethodName)) ∈ tw := tw_of w_1494 rfl
theorem q_1495 : (Jvm.Cond.selects "DialSquareModel" ({ cls := "DialSquareModel", name := "seats", desc := "(II)I" } : Jvm.MethodName) ({ cls := "DialSquareModel", name := "seats", desc := "(II)I" } : Jvm.MethodName)) ∈ tw := tw_of w_1495 rfl
theorem q_1496 : (Jvm.Cond.code ({ cls := "DialSquareModel", name := "seats", desc := "(II)I" } : Jvm.MethodName) prog_14_method_76_code (10 : Nat) (Option.some Jvm.ClassFile.FieldType.int)) ∈ tw := tw_of w_1496 rfl
theorem q_1497 : (Jvm.Cond.methodLink "DialSquareLaw" (108 : Nat) ({ cls := "DialSquareModel", name := "best", desc := "(I)I" } : Jvm.MethodName)) ∈ tw := tw_of w_1497 rfl
theorem q_1498 : (Jvm.Cond.instanceMethod ({ cls := "DialSquareModel", name := "best", desc := "(I)I" } : Jvm.MethodName)) ∈ tw := tw_of w_1498 rfl
theorem q_1499 : (Jvm.Cond.selects "DialSquareModel" ({ cls := "DialSquareModel", name := "best", desc := "(I)I" } : Jvm.MethodName) ({ cls := "DialSquareModel", name := "best", desc := "(I)I" } : Jvm.MethodName)) ∈ tw := tw_of w_1499 rfl
theorem q_1500 : (Jvm.Cond.code ({ cls := "DialSquareModel", name := "best", desc := "(I)I" } : Jvm.MethodName) prog_14_method_84_code (2 : Nat) (Option.some Jvm.ClassFile.FieldType.int)) ∈ tw := tw_of w_1500 rfl
theorem q_1501 : (Jvm.Cond.methodLink "DialSquareModel" (293 : Nat) ({ cls := "DialSquareModel", name := "isPlan", desc := "(I)Z" } : Jvm.MethodName)) ∈ tw := tw_of w_1501 rfl
theorem q_1502 : (Jvm.Cond.static ({ cls := "DialSquareModel", name := "isPlan", desc := "(I)Z" } : Jvm.MethodName)) ∈ tw := tw_of w_1502 rfl
theorem q_1503 : (Jvm.Cond.code ({ cls := "DialSquareModel", name := "isPlan", desc := "(I)Z" } : Jvm.MethodName) prog_14_method_83_code (1 : Nat) (Option.some Jvm.ClassFile.FieldType.boolean)) ∈ tw := tw_of w_1503 rfl
theorem q_1504 : (Jvm.Cond.methodLink "DialSquareModel" (296 : Nat) ({ cls := "DialSquareModel", name := "triesAll", desc := "(II)V" } : Jvm.MethodName)) ∈ tw := tw_of w_1504 rfl
theorem q_1506 : (Jvm.Cond.instanceMethod ({ cls := "DialSquareModel", name := "triesAll", desc := "(II)V" } : Jvm.MethodName)) ∈ tw := tw_of w_1506 rfl
theorem q_1507 : (Jvm.Cond.code ({ cls := "DialSquareModel", name := "triesAll", desc := "(II)V" } : Jvm.MethodName) prog_14_method_82_code (3 : Nat) (Option.none : Option Jvm.ClassFile.FieldType)) ∈ tw := tw_of w_1507 rfl
theorem q_1508 : (Jvm.Cond.methodLink "DialSquareModel" (290 : Nat) ({ cls := "DialSquareModel", name := "daysOf", desc := "(I)I" } : Jvm.MethodName)) ∈ tw := tw_of w_1508 rfl
theorem q_1510 : (Jvm.Cond.instanceMethod ({ cls := "DialSquareModel", name := "daysOf", desc := "(I)I" } : Jvm.MethodName)) ∈ tw := tw_of w_1510 rfl
theorem q_1511 : (Jvm.Cond.code ({ cls := "DialSquareModel", name := "daysOf", desc := "(I)I" } : Jvm.MethodName) prog_14_method_79_code (3 : Nat) (Option.some Jvm.ClassFile.FieldType.int)) ∈ tw := tw_of w_1511 rfl
theorem q_1512 : (Jvm.Cond.methodLink "DialSquareModel" (283 : Nat) ({ cls := "DialSquareModel", name := "goesPlans", desc := "(IIIII)V" } : Jvm.MethodName)) ∈ tw := tw_of w_1512 rfl
theorem q_1514 : (Jvm.Cond.instanceMethod ({ cls := "DialSquareModel", name := "goesPlans", desc := "(IIIII)V" } : Jvm.MethodName)) ∈ tw := tw_of w_1514 rfl
theorem q_1515 : (Jvm.Cond.code ({ cls := "DialSquareModel", name := "goesPlans", desc := "(IIIII)V" } : Jvm.MethodName) prog_14_method_81_code (8 : Nat) (Option.none : Option Jvm.ClassFile.FieldType)) ∈ tw := tw_of w_1515 rfl
theorem q_1516 : (Jvm.Cond.methodLink "DialSquareModel" (276 : Nat) ({ cls := "DialSquareModel", name := "endsPlan", desc := "(IIII)V" } : Jvm.MethodName)) ∈ tw := tw_of w_1516 rfl
theorem q_1518 : (Jvm.Cond.instanceMethod ({ cls := "DialSquareModel", name := "endsPlan", desc := "(IIII)V" } : Jvm.MethodName)) ∈ tw := tw_of w_1518 rfl
theorem q_1519 : (Jvm.Cond.code ({ cls := "DialSquareModel", name := "endsPlan", desc := "(IIII)V" } : Jvm.MethodName) prog_14_method_80_code (6 : Nat) (Option.none : Option Jvm.ClassFile.FieldType)) ∈ tw := tw_of w_1519 rfl
theorem q_1520 : (Jvm.Cond.methodLink "DialSquareModel" (280 : Nat) ({ cls := "DialSquareModel", name := "saves", desc := "(I)V" } : Jvm.MethodName)) ∈ tw := tw_of w_1520 rfl
theorem q_1522 : (Jvm.Cond.instanceMethod ({ cls := "DialSquareModel", name := "saves", desc := "(I)V" } : Jvm.MethodName)) ∈ tw := tw_of w_1522 rfl
theorem q_1523 : (Jvm.Cond.code ({ cls := "DialSquareModel", name := "saves", desc := "(I)V" } : Jvm.MethodName) prog_14_method_77_code (3 : Nat) (Option.none : Option Jvm.ClassFile.FieldType)) ∈ tw := tw_of w_1523 rfl
theorem q_1524 : (Jvm.Cond.methodLink "DialSquareModel" (287 : Nat) ({ cls := "DialSquareModel", name := "restores", desc := "(I)V" } : Jvm.MethodName)) ∈ tw := tw_of w_1524 rfl
theorem q_1526 : (Jvm.Cond.instanceMethod ({ cls := "DialSquareModel", name := "restores", desc := "(I)V" } : Jvm.MethodName)) ∈ tw := tw_of w_1526 rfl
theorem q_1527 : (Jvm.Cond.code ({ cls := "DialSquareModel", name := "restores", desc := "(I)V" } : Jvm.MethodName) prog_14_method_78_code (3 : Nat) (Option.none : Option Jvm.ClassFile.FieldType)) ∈ tw := tw_of w_1527 rfl
theorem q_1528 : (Jvm.Cond.methodLink "DialSquareLaw" (112 : Nat) ({ cls := "DialSquareModel", name := "ith", desc := "(II)I" } : Jvm.MethodName)) ∈ tw := tw_of w_1528 rfl
theorem q_1529 : (Jvm.Cond.instanceMethod ({ cls := "DialSquareModel", name := "ith", desc := "(II)I" } : Jvm.MethodName)) ∈ tw := tw_of w_1529 rfl
theorem q_1530 : (Jvm.Cond.selects "DialSquareModel" ({ cls := "DialSquareModel", name := "ith", desc := "(II)I" } : Jvm.MethodName) ({ cls := "DialSquareModel", name := "ith", desc := "(II)I" } : Jvm.MethodName)) ∈ tw := tw_of w_1530 rfl
theorem q_1531 : (Jvm.Cond.code ({ cls := "DialSquareModel", name := "ith", desc := "(II)I" } : Jvm.MethodName) prog_14_method_85_code (3 : Nat) (Option.some Jvm.ClassFile.FieldType.int)) ∈ tw := tw_of w_1531 rfl
theorem q_1532 : (Jvm.Cond.methodLink "DialSquareLaw" (116 : Nat) ({ cls := "DialSquareModel", name := "ways", desc := "(I)I" } : Jvm.MethodName)) ∈ tw := tw_of w_1532 rfl
theorem q_1533 : (Jvm.Cond.instanceMethod ({ cls := "DialSquareModel", name := "ways", desc := "(I)I" } : Jvm.MethodName)) ∈ tw := tw_of w_1533 rfl
theorem q_1534 : (Jvm.Cond.selects "DialSquareModel" ({ cls := "DialSquareModel", name := "ways", desc := "(I)I" } : Jvm.MethodName) ({ cls := "DialSquareModel", name := "ways", desc := "(I)I" } : Jvm.MethodName)) ∈ tw := tw_of w_1534 rfl
theorem q_1535 : (Jvm.Cond.code ({ cls := "DialSquareModel", name := "ways", desc := "(I)I" } : Jvm.MethodName) prog_14_method_86_code (2 : Nat) (Option.some Jvm.ClassFile.FieldType.int)) ∈ tw := tw_of w_1535 rfl
theorem q_1536 : (Jvm.Cond.methodLink "DialSquareLaw" (120 : Nat) ({ cls := "DialSquareModel", name := "order", desc := "(II)I" } : Jvm.MethodName)) ∈ tw := tw_of w_1536 rfl
theorem q_1537 : (Jvm.Cond.instanceMethod ({ cls := "DialSquareModel", name := "order", desc := "(II)I" } : Jvm.MethodName)) ∈ tw := tw_of w_1537 rfl
theorem q_1538 : (Jvm.Cond.selects "DialSquareModel" ({ cls := "DialSquareModel", name := "order", desc := "(II)I" } : Jvm.MethodName) ({ cls := "DialSquareModel", name := "order", desc := "(II)I" } : Jvm.MethodName)) ∈ tw := tw_of w_1538 rfl
theorem q_1539 : (Jvm.Cond.code ({ cls := "DialSquareModel", name := "order", desc := "(II)I" } : Jvm.MethodName) prog_14_method_88_code (3 : Nat) (Option.some Jvm.ClassFile.FieldType.int)) ∈ tw := tw_of w_1539 rfl
theorem q_1540 : (Jvm.Cond.methodLink "DialSquareModel" (300 : Nat) ({ cls := "DialSquareModel", name := "isSet", desc := "(I)Z" } : Jvm.MethodName)) ∈ tw := tw_of w_1540 rfl
theorem q_1542 : (Jvm.Cond.instanceMethod ({ cls := "DialSquareModel", name := "isSet", desc := "(I)Z" } : Jvm.MethodName)) ∈ tw := tw_of w_1542 rfl
theorem q_1543 : (Jvm.Cond.code ({ cls := "DialSquareModel", name := "isSet", desc := "(I)Z" } : Jvm.MethodName) prog_14_method_87_code (2 : Nat) (Option.some Jvm.ClassFile.FieldType.boolean)) ∈ tw := tw_of w_1543 rfl
theorem q_1544 : (Jvm.Cond.methodLink "DialSquareLaw" (124 : Nat) ({ cls := "DialSquareModel", name := "bars", desc := "(II)I" } : Jvm.MethodName)) ∈ tw := tw_of w_1544 rfl
theorem q_1545 : (Jvm.Cond.instanceMethod ({ cls := "DialSquareModel", name := "bars", desc := "(II)I" } : Jvm.MethodName)) ∈ tw := tw_of w_1545 rfl
theorem q_1546 : (Jvm.Cond.selects "DialSquareModel" ({ cls := "DialSquareModel", name := "bars", desc := "(II)I" } : Jvm.MethodName) ({ cls := "DialSquareModel", name := "bars", desc := "(II)I" } : Jvm.MethodName)) ∈ tw := tw_of w_1546 rfl
theorem q_1547 : (Jvm.Cond.code ({ cls := "DialSquareModel", name := "bars", desc := "(II)I" } : Jvm.MethodName) prog_14_method_89_code (5 : Nat) (Option.some Jvm.ClassFile.FieldType.int)) ∈ tw := tw_of w_1547 rfl
theorem q_1548 : (Jvm.Cond.methodLink "DialSquareLaw" (128 : Nat) ({ cls := "DialSquareModel", name := "game", desc := "(I)I" } : Jvm.MethodName)) ∈ tw := tw_of w_1548 rfl
theorem q_1549 : (Jvm.Cond.instanceMethod ({ cls := "DialSquareModel", name := "game", desc := "(I)I" } : Jvm.MethodName)) ∈ tw := tw_of w_1549 rfl
theorem q_1550 : (Jvm.Cond.selects "DialSquareModel" ({ cls := "DialSquareModel", name := "game", desc := "(I)I" } : Jvm.MethodName) ({ cls := "DialSquareModel", name := "game", desc := "(I)I" } : Jvm.MethodName)) ∈ tw := tw_of w_1550 rfl
theorem q_1551 : (Jvm.Cond.code ({ cls := "DialSquareModel", name := "game", desc := "(I)I" } : Jvm.MethodName) prog_14_method_91_code (2 : Nat) (Option.some Jvm.ClassFile.FieldType.int)) ∈ tw := tw_of w_1551 rfl
theorem q_1552 : (Jvm.Cond.methodLink "DialSquareModel" (303 : Nat) ({ cls := "DialSquareModel", name := "playedFrom", desc := "(II)I" } : Jvm.MethodName)) ∈ tw := tw_of w_1552 rfl
theorem q_1554 : (Jvm.Cond.instanceMethod ({ cls := "DialSquareModel", name := "playedFrom", desc := "(II)I" } : Jvm.MethodName)) ∈ tw := tw_of w_1554 rfl
theorem q_1555 : (Jvm.Cond.code ({ cls := "DialSquareModel", name := "playedFrom", desc := "(II)I" } : Jvm.MethodName) prog_14_method_90_code (9 : Nat) (Option.some Jvm.ClassFile.FieldType.int)) ∈ tw := tw_of w_1555 rfl
theorem q_1556 : (Jvm.Cond.methodLink "DialSquareLaw" (132 : Nat) ({ cls := "DialSquareModel", name := "play", desc := "(I)I" } : Jvm.MethodName)) ∈ tw := tw_of w_1556 rfl
theorem q_1557 : (Jvm.Cond.instanceMethod ({ cls := "DialSquareModel", name := "play", desc := "(I)I" } : Jvm.MethodName)) ∈ tw := tw_of w_1557 rfl
theorem q_1558 : (Jvm.Cond.selects "DialSquareModel" ({ cls := "DialSquareModel", name := "play", desc := "(I)I" } : Jvm.MethodName) ({ cls := "DialSquareModel", name := "play", desc := "(I)I" } : Jvm.MethodName)) ∈ tw := tw_of w_1558 rfl
theorem q_1559 : (Jvm.Cond.code ({ cls := "DialSquareModel", name := "play", desc := "(I)I" } : Jvm.MethodName) prog_14_method_92_code (3 : Nat) (Option.some Jvm.ClassFile.FieldType.int)) ∈ tw := tw_of w_1559 rfl
theorem q_1560 : (Jvm.Cond.methodLink "DialSquareLaw" (136 : Nat) ({ cls := "DialSquareModel", name := "report", desc := "(IIII)I" } : Jvm.MethodName)) ∈ tw := tw_of w_1560 rfl
theorem q_1561 : (Jvm.Cond.instanceMethod ({ cls := "DialSquareModel", name := "report", desc := "(IIII)I" } : Jvm.MethodName)) ∈ tw := tw_of w_1561 rfl
theorem q_1562 : (Jvm.Cond.selects "DialSquareModel" ({ cls := "DialSquareModel", name := "report", desc := "(IIII)I" } : Jvm.MethodName) ({ cls := "DialSquareModel", name := "report", desc := "(IIII)I" } : Jvm.MethodName)) ∈ tw := tw_of w_1562 rfl
theorem q_1563 : (Jvm.Cond.code ({ cls := "DialSquareModel", name := "report", desc := "(IIII)I" } : Jvm.MethodName) prog_14_method_93_code (7 : Nat) (Option.some Jvm.ClassFile.FieldType.int)) ∈ tw := tw_of w_1563 rfl
theorem q_1564 : (Jvm.Cond.methodLink "DialSquareLaw" (140 : Nat) ({ cls := "DialSquareModel", name := "forget", desc := "()I" } : Jvm.MethodName)) ∈ tw := tw_of w_1564 rfl
theorem q_1565 : (Jvm.Cond.instanceMethod ({ cls := "DialSquareModel", name := "forget", desc := "()I" } : Jvm.MethodName)) ∈ tw := tw_of w_1565 rfl
theorem q_1566 : (Jvm.Cond.selects "DialSquareModel" ({ cls := "DialSquareModel", name := "forget", desc := "()I" } : Jvm.MethodName) ({ cls := "DialSquareModel", name := "forget", desc := "()I" } : Jvm.MethodName)) ∈ tw := tw_of w_1566 rfl
theorem q_1567 : (Jvm.Cond.code ({ cls := "DialSquareModel", name := "forget", desc := "()I" } : Jvm.MethodName) prog_14_method_94_code (1 : Nat) (Option.some Jvm.ClassFile.FieldType.int)) ∈ tw := tw_of w_1567 rfl
theorem q_1568 : (Jvm.Cond.methodLink "DialSquareLaw" (144 : Nat) ({ cls := "DialSquareModel", name := "lone", desc := "(I)I" } : Jvm.MethodName)) ∈ tw := tw_of w_1568 rfl
theorem q_1569 : (Jvm.Cond.instanceMethod ({ cls := "DialSquareModel", name := "lone", desc := "(I)I" } : Jvm.MethodName)) ∈ tw := tw_of w_1569 rfl
theorem q_1570 : (Jvm.Cond.selects "DialSquareModel" ({ cls := "DialSquareModel", name := "lone", desc := "(I)I" } : Jvm.MethodName) ({ cls := "DialSquareModel", name := "lone", desc := "(I)I" } : Jvm.MethodName)) ∈ tw := tw_of w_1570 rfl
theorem q_1571 : (Jvm.Cond.code ({ cls := "DialSquareModel", name := "lone", desc := "(I)I" } : Jvm.MethodName) prog_14_method_98_code (3 : Nat) (Option.some Jvm.ClassFile.FieldType.int)) ∈ tw := tw_of w_1571 rfl
theorem q_1572 : (Jvm.Cond.methodLink "DialSquareModel" (315 : Nat) ({ cls := "DialSquareModel", name := "fitting", desc := "(I)I" } : Jvm.MethodName)) ∈ tw := tw_of w_1572 rfl
theorem q_1574 : (Jvm.Cond.instanceMethod ({ cls := "DialSquareModel", name := "fitting", desc := "(I)I" } : Jvm.MethodName)) ∈ tw := tw_of w_1574 rfl
theorem q_1575 : (Jvm.Cond.code ({ cls := "DialSquareModel", name := "fitting", desc := "(I)I" } : Jvm.MethodName) prog_14_method_97_code (6 : Nat) (Option.some Jvm.ClassFile.FieldType.int)) ∈ tw := tw_of w_1575 rfl
theorem q_1576 : (Jvm.Cond.methodLink "DialSquareModel" (309 : Nat) ({ cls := "DialSquareModel", name := "tellsLone", desc := "(III)V" } : Jvm.MethodName)) ∈ tw := tw_of w_1576 rfl
theorem q_1578 : (Jvm.Cond.instanceMethod ({ cls := "DialSquareModel", name := "tellsLone", desc := "(III)V" } : Jvm.MethodName)) ∈ tw := tw_of w_1578 rfl
theorem q_1579 : (Jvm.Cond.code ({ cls := "DialSquareModel", name := "tellsLone", desc := "(III)V" } : Jvm.MethodName) prog_14_method_95_code (8 : Nat) (Option.none : Option Jvm.ClassFile.FieldType)) ∈ tw := tw_of w_1579 rfl
theorem q_1580 : (Jvm.Cond.methodLink "DialSquareModel" (312 : Nat) ({ cls := "DialSquareModel", name := "isSo", desc := "(I)Z" } : Jvm.MethodName)) ∈ tw := tw_of w_1580 rfl
theorem q_1582 : (Jvm.Cond.instanceMethod ({ cls := "DialSquareModel", name := "isSo", desc := "(I)Z" } : Jvm.MethodName)) ∈ tw := tw_of w_1582 rfl
theorem q_1583 : (Jvm.Cond.code ({ cls := "DialSquareModel", name := "isSo", desc := "(I)Z" } : Jvm.MethodName) prog_14_method_96_code (3 : Nat) (Option.some Jvm.ClassFile.FieldType.boolean)) ∈ tw := tw_of w_1583 rfl
theorem q_1584 : (Jvm.Cond.methodLink "DialSquareLaw" (148 : Nat) ({ cls := "DialSquareModel", name := "liar", desc := "()I" } : Jvm.MethodName)) ∈ tw := tw_of w_1584 rfl
theorem q_1585 : (Jvm.Cond.instanceMethod ({ cls := "DialSquareModel", name := "liar", desc := "()I" } : Jvm.MethodName)) ∈ tw := tw_of w_1585 rfl
theorem q_1586 : (Jvm.Cond.selects "DialSquareModel" ({ cls := "DialSquareModel", name := "liar", desc := "()I" } : Jvm.MethodName) ({ cls := "DialSquareModel", name := "liar", desc := "()I" } : Jvm.MethodName)) ∈ tw := tw_of w_1586 rfl
theorem q_1587 : (Jvm.Cond.code ({ cls := "DialSquareModel", name := "liar", desc := "()I" } : Jvm.MethodName) prog_14_method_99_code (2 : Nat) (Option.some Jvm.ClassFile.FieldType.int)) ∈ tw := tw_of w_1587 rfl
theorem q_1588 : (Jvm.Cond.methodLink "DialSquareLaw" (152 : Nat) ({ cls := "DialSquareModel", name := "seed", desc := "(I)I" } : Jvm.MethodName)) ∈ tw := tw_of w_1588 rfl
theorem q_1589 : (Jvm.Cond.instanceMethod ({ cls := "DialSquareModel", name := "seed", desc := "(I)I" } : Jvm.MethodName)) ∈ tw := tw_of w_1589 rfl
theorem q_1590 : (Jvm.Cond.selects "DialSquareModel" ({ cls := "DialSquareModel", name := "seed", desc := "(I)I" } : Jvm.MethodName) ({ cls := "DialSquareModel", name := "seed", desc := "(I)I" } : Jvm.MethodName)) ∈ tw := tw_of w_1590 rfl
theorem q_1591 : (Jvm.Cond.code ({ cls := "DialSquareModel", name := "seed", desc := "(I)I" } : Jvm.MethodName) prog_14_method_100_code (2 : Nat) (Option.some Jvm.ClassFile.FieldType.int)) ∈ tw := tw_of w_1591 rfl
theorem q_1592 : (Jvm.Cond.methodLink "DialSquareLaw" (156 : Nat) ({ cls := "DialSquareModel", name := "lot", desc := "()I" } : Jvm.MethodName)) ∈ tw := tw_of w_1592 rfl
theorem q_1593 : (Jvm.Cond.instanceMethod ({ cls := "DialSquareModel", name := "lot", desc := "()I" } : Jvm.MethodName)) ∈ tw := tw_of w_1593 rfl
theorem q_1594 : (Jvm.Cond.selects "DialSquareModel" ({ cls := "DialSquareModel", name := "lot", desc := "()I" } : Jvm.MethodName) ({ cls := "DialSquareModel", name := "lot", desc := "()I" } : Jvm.MethodName)) ∈ tw := tw_of w_1594 rfl
theorem q_1595 : (Jvm.Cond.code ({ cls := "DialSquareModel", name := "lot", desc := "()I" } : Jvm.MethodName) prog_14_method_102_code (1 : Nat) (Option.some Jvm.ClassFile.FieldType.int)) ∈ tw := tw_of w_1595 rfl
theorem q_1596 : (Jvm.Cond.methodLink "DialSquareModel" (319 : Nat) ({ cls := "DialSquareModel", name := "byLot", desc := "()I" } : Jvm.MethodName)) ∈ tw := tw_of w_1596 rfl
theorem q_1598 : (Jvm.Cond.instanceMethod ({ cls := "DialSquareModel", name := "byLot", desc := "()I" } : Jvm.MethodName)) ∈ tw := tw_of w_1598 rfl
theorem q_1599 : (Jvm.Cond.code ({ cls := "DialSquareModel", name := "byLot", desc := "()I" } : Jvm.MethodName) prog_14_method_101_code (1 : Nat) (Option.some Jvm.ClassFile.FieldType.int)) ∈ tw := tw_of w_1599 rfl
theorem q_1600 : (Jvm.Cond.constant "DialSquareModel" (318 : Nat) (1103515245 : Int32)) ∈ tw := tw_of w_1600 rfl
theorem q_1601 : (Jvm.Cond.methodLink "DialSquareLaw" (160 : Nat) ({ cls := "DialSquareModel", name := "times", desc := "(II)I" } : Jvm.MethodName)) ∈ tw := tw_of w_1601 rfl
theorem q_1602 : (Jvm.Cond.instanceMethod ({ cls := "DialSquareModel", name := "times", desc := "(II)I" } : Jvm.MethodName)) ∈ tw := tw_of w_1602 rfl
theorem q_1603 : (Jvm.Cond.selects "DialSquareModel" ({ cls := "DialSquareModel", name := "times", desc := "(II)I" } : Jvm.MethodName) ({ cls := "DialSquareModel", name := "times", desc := "(II)I" } : Jvm.MethodName)) ∈ tw := tw_of w_1603 rfl
theorem q_1604 : (Jvm.Cond.code ({ cls := "DialSquareModel", name := "times", desc := "(II)I" } : Jvm.MethodName) prog_14_method_103_code (7 : Nat) (Option.some Jvm.ClassFile.FieldType.int)) ∈ tw := tw_of w_1604 rfl
theorem q_1605 : (Jvm.Cond.methodLink "DialSquareLaw" (164 : Nat) ({ cls := "DialSquareModel", name := "prove", desc := "(I)I" } : Jvm.MethodName)) ∈ tw := tw_of w_1605 rfl
theorem q_1606 : (Jvm.Cond.instanceMethod ({ cls := "DialSquareModel", name := "prove", desc := "(I)I" } : Jvm.MethodName)) ∈ tw := tw_of w_1606 rfl
theorem q_1607 : (Jvm.Cond.selects "DialSquareModel" ({ cls := "DialSquareModel", name := "prove", desc := "(I)I" } : Jvm.MethodName) ({ cls := "DialSquareModel", name := "prove", desc := "(I)I" } : Jvm.MethodName)) ∈ tw := tw_of w_1607 rfl
theorem q_1608 : (Jvm.Cond.code ({ cls := "DialSquareModel", name := "prove", desc := "(I)I" } : Jvm.MethodName) prog_14_method_104_code (3 : Nat) (Option.some Jvm.ClassFile.FieldType.int)) ∈ tw := tw_of w_1608 rfl
theorem q_1609 : (Jvm.Cond.methodLink "DialSquareLaw" (168 : Nat) ({ cls := "DialSquareModel", name := "row", desc := "(II)I" } : Jvm.MethodName)) ∈ tw := tw_of w_1609 rfl
theorem q_1610 : (Jvm.Cond.instanceMethod ({ cls := "DialSquareModel", name := "row", desc := "(II)I" } : Jvm.MethodName)) ∈ tw := tw_of w_1610 rfl
theorem q_1611 : (Jvm.Cond.selects "DialSquareModel" ({ cls := "DialSquareModel", name := "row", desc := "(II)I" } : Jvm.MethodName) ({ cls := "DialSquareModel", name := "row", desc := "(II)I" } : Jvm.MethodName)) ∈ tw := tw_of w_1611 rfl
theorem q_1612 : (Jvm.Cond.code ({ cls := "DialSquareModel", name := "row", desc := "(II)I" } : Jvm.MethodName) prog_14_method_106_code (3 : Nat) (Option.some Jvm.ClassFile.FieldType.int)) ∈ tw := tw_of w_1612 rfl
theorem q_1613 : (Jvm.Cond.methodLink "DialSquareModel" (325 : Nat) ({ cls := "DialSquareModel", name := "isRow", desc := "(II)Z" } : Jvm.MethodName)) ∈ tw := tw_of w_1613 rfl
theorem q_1615 : (Jvm.Cond.instanceMethod ({ cls := "DialSquareModel", name := "isRow", desc := "(II)Z" } : Jvm.MethodName)) ∈ tw := tw_of w_1615 rfl
theorem q_1616 : (Jvm.Cond.code ({ cls := "DialSquareModel", name := "isRow", desc := "(II)Z" } : Jvm.MethodName) prog_14_method_105_code (3 : Nat) (Option.some Jvm.ClassFile.FieldType.boolean)) ∈ tw := tw_of w_1616 rfl
theorem q_1617 : (Jvm.Cond.methodLink "DialSquareLaw" (172 : Nat) ({ cls := "DialSquareModel", name := "alterRow", desc := "(III)I" } : Jvm.MethodName)) ∈ tw := tw_of w_1617 rfl
theorem q_1618 : (Jvm.Cond.instanceMethod ({ cls := "DialSquareModel", name := "alterRow", desc := "(III)I" } : Jvm.MethodName)) ∈ tw := tw_of w_1618 rfl
theorem q_1619 : (Jvm.Cond.selects "DialSquareModel" ({ cls := "DialSquareModel", name := "alterRow", desc := "(III)I" } : Jvm.MethodName) ({ cls := "DialSquareModel", name := "alterRow", desc := "(III)I" } : Jvm.MethodName)) ∈ tw := tw_of w_1619 rfl
theorem q_1620 : (Jvm.Cond.code ({ cls := "DialSquareModel", name := "alterRow", desc := "(III)I" } : Jvm.MethodName) prog_14_method_107_code (5 : Nat) (Option.some Jvm.ClassFile.FieldType.int)) ∈ tw := tw_of w_1620 rfl
theorem q_1621 : (Jvm.Cond.methodLink "DialSquareLaw" (176 : Nat) ({ cls := "DialSquareModel", name := "judge", desc := "()I" } : Jvm.MethodName)) ∈ tw := tw_of w_1621 rfl
theorem q_1622 : (Jvm.Cond.instanceMethod ({ cls := "DialSquareModel", name := "judge", desc := "()I" } : Jvm.MethodName)) ∈ tw := tw_of w_1622 rfl
theorem q_1623 : (Jvm.Cond.selects "DialSquareModel" ({ cls := "DialSquareModel", name := "judge", desc := "()I" } : Jvm.MethodName) ({ cls := "DialSquareModel", name := "judge", desc := "()I" } : Jvm.MethodName)) ∈ tw := tw_of w_1623 rfl
theorem q_1624 : (Jvm.Cond.code ({ cls := "DialSquareModel", name := "judge", desc := "()I" } : Jvm.MethodName) prog_14_method_108_code (6 : Nat) (Option.some Jvm.ClassFile.FieldType.int)) ∈ tw := tw_of w_1624 rfl
theorem q_1625 : (Jvm.Cond.methodLink "DialSquareModel" (328 : Nat) ({ cls := "DialSquareModel", name := "isAct", desc := "(I)Z" } : Jvm.MethodName)) ∈ tw := tw_of w_1625 rfl
theorem q_1627 : (Jvm.Cond.instanceMethod ({ cls := "DialSquareModel", name := "isAct", desc := "(I)Z" } : Jvm.MethodName)) ∈ tw := tw_of w_1627 rfl
theorem q_1628 : (Jvm.Cond.code ({ cls := "DialSquareModel", name := "isAct", desc := "(I)Z" } : Jvm.MethodName) prog_14_method_9_code (2 : Nat) (Option.some Jvm.ClassFile.FieldType.boolean)) ∈ tw := tw_of w_1628 rfl
theorem q_1629 : (Jvm.Cond.methodLink "DialSquareLaw" (180 : Nat) ({ cls := "DialSquareModel", name := "sheet", desc := "(III)I" } : Jvm.MethodName)) ∈ tw := tw_of w_1629 rfl
theorem q_1630 : (Jvm.Cond.instanceMethod ({ cls := "DialSquareModel", name := "sheet", desc := "(III)I" } : Jvm.MethodName)) ∈ tw := tw_of w_1630 rfl
theorem q_1631 : (Jvm.Cond.selects "DialSquareModel" ({ cls := "DialSquareModel", name := "sheet", desc := "(III)I" } : Jvm.MethodName) ({ cls := "DialSquareModel", name := "sheet", desc := "(III)I" } : Jvm.MethodName)) ∈ tw := tw_of w_1631 rfl
theorem q_1632 : (Jvm.Cond.code ({ cls := "DialSquareModel", name := "sheet", desc := "(III)I" } : Jvm.MethodName) prog_14_method_110_code (5 : Nat) (Option.some Jvm.ClassFile.FieldType.int)) ∈ tw := tw_of w_1632 rfl
theorem q_1633 : (Jvm.Cond.methodLink "DialSquareModel" (331 : Nat) ({ cls := "DialSquareModel", name := "isSheet", desc := "(I)Z" } : Jvm.MethodName)) ∈ tw := tw_of w_1633 rfl
theorem q_1634 : (Jvm.Cond.static ({ cls := "DialSquareModel", name := "isSheet", desc := "(I)Z" } : Jvm.MethodName)) ∈ tw := tw_of w_1634 rfl
theorem q_1635 : (Jvm.Cond.code ({ cls := "DialSquareModel", name := "isSheet", desc := "(I)Z" } : Jvm.MethodName) prog_14_method_109_code (1 : Nat) (Option.some Jvm.ClassFile.FieldType.boolean)) ∈ tw := tw_of w_1635 rfl
theorem q_1636 : (Jvm.Cond.methodLink "DialSquareLaw" (184 : Nat) ({ cls := "DialSquareModel", name := "write", desc := "(III)I" } : Jvm.MethodName)) ∈ tw := tw_of w_1636 rfl
theorem q_1637 : (Jvm.Cond.instanceMethod ({ cls := "DialSquareModel", name := "write", desc := "(III)I" } : Jvm.MethodName)) ∈ tw := tw_of w_1637 rfl
theorem q_1638 : (Jvm.Cond.selects "DialSquareModel" ({ cls := "DialSquareModel", name := "write", desc := "(III)I" } : Jvm.MethodName) ({ cls := "DialSquareModel", name := "write", desc := "(III)I" } : Jvm.MethodName)) ∈ tw := tw_of w_1638 rfl
theorem q_1639 : (Jvm.Cond.code ({ cls := "DialSquareModel", name := "write", desc := "(III)I" } : Jvm.MethodName) prog_14_method_112_code (4 : Nat) (Option.some Jvm.ClassFile.FieldType.int)) ∈ tw := tw_of w_1639 rfl
theorem q_1640 : (Jvm.Cond.methodLink "DialSquareModel" (334 : Nat) ({ cls := "DialSquareModel", name := "narrowed", desc := "(II)I" } : Jvm.MethodName)) ∈ tw := tw_of w_1640 rfl
theorem q_1641 : (Jvm.Cond.static ({ cls := "DialSquareModel", name := "narrowed", desc := "(II)I" } : Jvm.MethodName)) ∈ tw := tw_of w_1641 rfl
theorem q_1642 : (Jvm.Cond.code ({ cls := "DialSquareModel", name := "narrowed", desc := "(II)I" } : Jvm.MethodName) prog_14_method_111_code (2 : Nat) (Option.some Jvm.ClassFile.FieldType.int)) ∈ tw := tw_of w_1642 rfl
theorem q_1643 : (Jvm.Cond.methodLink "DialSquareLaw" (188 : Nat) ({ cls := "DialSquareModel", name := "item", desc := "(III)I" } : Jvm.MethodName)) ∈ tw := tw_of w_1643 rfl
theorem q_1644 : (Jvm.Cond.instanceMethod ({ cls := "DialSquareModel", name := "item", desc := "(III)I" } : Jvm.MethodName)) ∈ tw := tw_of w_1644 rfl
theorem q_1645 : (Jvm.Cond.selects "DialSquareModel" ({ cls := "DialSquareModel", name := "item", desc := "(III)I" } : Jvm.MethodName) ({ cls := "DialSquareModel", name := "item", desc := "(III)I" } : Jvm.MethodName)) ∈ tw := tw_of w_1645 rfl
theorem q_1646 : (Jvm.Cond.code ({ cls := "DialSquareModel", name := "item", desc := "(III)I" } : Jvm.MethodName) prog_14_method_114_code (5 : Nat) (Option.some Jvm.ClassFile.FieldType.int)) ∈ tw := tw_of w_1646 rfl
theorem q_1647 : (Jvm.Cond.methodLink "DialSquareModel" (337 : Nat) ({ cls := "DialSquareModel", name := "lacks", desc := "(II)I" } : Jvm.MethodName)) ∈ tw := tw_of w_1647 rfl
theorem q_1649 : (Jvm.Cond.instanceMethod ({ cls := "DialSquareModel", name := "lacks", desc := "(II)I" } : Jvm.MethodName)) ∈ tw := tw_of w_1649 rfl
theorem q_1650 : (Jvm.Cond.code ({ cls := "DialSquareModel", name := "lacks", desc := "(II)I" } : Jvm.MethodName) prog_14_method_113_code (3 : Nat) (Option.some Jvm.ClassFile.FieldType.int)) ∈ tw := tw_of w_1650 rfl
theorem q_1651 : (Jvm.Cond.methodLink "DialSquareLaw" (192 : Nat) ({ cls := "DialSquareModel", name := "goAll", desc := "(III)I" } : Jvm.MethodName)) ∈ tw := tw_of w_1651 rfl
theorem q_1652 : (Jvm.Cond.instanceMethod ({ cls := "DialSquareModel", name := "goAll", desc := "(III)I" } : Jvm.MethodName)) ∈ tw := tw_of w_1652 rfl
theorem q_1653 : (Jvm.Cond.selects "DialSquareModel" ({ cls := "DialSquareModel", name := "goAll", desc := "(III)I" } : Jvm.MethodName) ({ cls := "DialSquareModel", name := "goAll", desc := "(III)I" } : Jvm.MethodName)) ∈ tw := tw_of w_1653 rfl
theorem q_1654 : (Jvm.Cond.code ({ cls := "DialSquareModel", name := "goAll", desc := "(III)I" } : Jvm.MethodName) prog_14_method_116_code (8 : Nat) (Option.some Jvm.ClassFile.FieldType.int)) ∈ tw := tw_of w_1654 rfl
theorem q_1655 : (Jvm.Cond.methodLink "DialSquareModel" (340 : Nat) ({ cls := "DialSquareModel", name := "isItem", desc := "(III)Z" } : Jvm.MethodName)) ∈ tw := tw_of w_1655 rfl
theorem q_1657 : (Jvm.Cond.instanceMethod ({ cls := "DialSquareModel", name := "isItem", desc := "(III)Z" } : Jvm.MethodName)) ∈ tw := tw_of w_1657 rfl
theorem q_1658 : (Jvm.Cond.code ({ cls := "DialSquareModel", name := "isItem", desc := "(III)Z" } : Jvm.MethodName) prog_14_method_115_code (4 : Nat) (Option.some Jvm.ClassFile.FieldType.boolean)) ∈ tw := tw_of w_1658 rfl
theorem q_1659 : (Jvm.Cond.methodLink "DialSquareLaw" (196 : Nat) ({ cls := "DialSquareModel", name := "wouldBe", desc := "(III)I" } : Jvm.MethodName)) ∈ tw := tw_of w_1659 rfl
theorem q_1660 : (Jvm.Cond.instanceMethod ({ cls := "DialSquareModel", name := "wouldBe", desc := "(III)I" } : Jvm.MethodName)) ∈ tw := tw_of w_1660 rfl
theorem q_1661 : (Jvm.Cond.selects "DialSquareModel" ({ cls := "DialSquareModel", name := "wouldBe", desc := "(III)I" } : Jvm.MethodName) ({ cls := "DialSquareModel", name := "wouldBe", desc := "(III)I" } : Jvm.MethodName)) ∈ tw := tw_of w_1661 rfl
theorem q_1662 : (Jvm.Cond.code ({ cls := "DialSquareModel", name := "wouldBe", desc := "(III)I" } : Jvm.MethodName) prog_14_method_117_code (8 : Nat) (Option.some Jvm.ClassFile.FieldType.int)) ∈ tw := tw_of w_1662 rfl
theorem q_1663 : (Jvm.Cond.methodLink "DialSquareLaw" (200 : Nat) ({ cls := "DialSquareModel", name := "shelf", desc := "(III)I" } : Jvm.MethodName)) ∈ tw := tw_of w_1663 rfl
theorem q_1664 : (Jvm.Cond.instanceMethod ({ cls := "DialSquareModel", name := "shelf", desc := "(III)I" } : Jvm.MethodName)) ∈ tw := tw_of w_1664 rfl
theorem q_1665 : (Jvm.Cond.selects "DialSquareModel" ({ cls := "DialSquareModel", name := "shelf", desc := "(III)I" } : Jvm.MethodName) ({ cls := "DialSquareModel", name := "shelf", desc := "(III)I" } : Jvm.MethodName)) ∈ tw := tw_of w_1665 rfl
theorem q_1666 : (Jvm.Cond.code ({ cls := "DialSquareModel", name := "shelf", desc := "(III)I" } : Jvm.MethodName) prog_14_method_118_code (4 : Nat) (Option.some Jvm.ClassFile.FieldType.int)) ∈ tw := tw_of w_1666 rfl
theorem q_1667 : (Jvm.Cond.methodLink "DialSquareLaw" (204 : Nat) ({ cls := "DialSquareModel", name := "taken", desc := "(II)I" } : Jvm.MethodName)) ∈ tw := tw_of w_1667 rfl
theorem q_1668 : (Jvm.Cond.instanceMethod ({ cls := "DialSquareModel", name := "taken", desc := "(II)I" } : Jvm.MethodName)) ∈ tw := tw_of w_1668 rfl
theorem q_1669 : (Jvm.Cond.selects "DialSquareModel" ({ cls := "DialSquareModel", name := "taken", desc := "(II)I" } : Jvm.MethodName) ({ cls := "DialSquareModel", name := "taken", desc := "(II)I" } : Jvm.MethodName)) ∈ tw := tw_of w_1669 rfl
theorem q_1670 : (Jvm.Cond.code ({ cls := "DialSquareModel", name := "taken", desc := "(II)I" } : Jvm.MethodName) prog_14_method_120_code (5 : Nat) (Option.some Jvm.ClassFile.FieldType.int)) ∈ tw := tw_of w_1670 rfl
theorem q_1671 : (Jvm.Cond.methodLink "DialSquareModel" (343 : Nat) ({ cls := "DialSquareModel", name := "heldOn", desc := "(I)I" } : Jvm.MethodName)) ∈ tw := tw_of w_1671 rfl
theorem q_1673 : (Jvm.Cond.instanceMethod ({ cls := "DialSquareModel", name := "heldOn", desc := "(I)I" } : Jvm.MethodName)) ∈ tw := tw_of w_1673 rfl
theorem q_1674 : (Jvm.Cond.code ({ cls := "DialSquareModel", name := "heldOn", desc := "(I)I" } : Jvm.MethodName) prog_14_method_119_code (2 : Nat) (Option.some Jvm.ClassFile.FieldType.int)) ∈ tw := tw_of w_1674 rfl
theorem q_1675 : (Jvm.Cond.methodLink "DialSquareLaw" (208 : Nat) ({ cls := "DialSquareModel", name := "act", desc := "(III)I" } : Jvm.MethodName)) ∈ tw := tw_of w_1675 rfl
theorem q_1676 : (Jvm.Cond.instanceMethod ({ cls := "DialSquareModel", name := "act", desc := "(III)I" } : Jvm.MethodName)) ∈ tw := tw_of w_1676 rfl
theorem q_1677 : (Jvm.Cond.selects "DialSquareModel" ({ cls := "DialSquareModel", name := "act", desc := "(III)I" } : Jvm.MethodName) ({ cls := "DialSquareModel", name := "act", desc := "(III)I" } : Jvm.MethodName)) ∈ tw := tw_of w_1677 rfl
theorem q_1678 : (Jvm.Cond.code ({ cls := "DialSquareModel", name := "act", desc := "(III)I" } : Jvm.MethodName) prog_14_method_126_code (6 : Nat) (Option.some Jvm.ClassFile.FieldType.int)) ∈ tw := tw_of w_1678 rfl
theorem q_1679 : (Jvm.Cond.methodLink "DialSquareModel" (352 : Nat) ({ cls := "DialSquareModel", name := "pointsAs", desc := "(II)I" } : Jvm.MethodName)) ∈ tw := tw_of w_1679 rfl
theorem q_1681 : (Jvm.Cond.instanceMethod ({ cls := "DialSquareModel", name := "pointsAs", desc := "(II)I" } : Jvm.MethodName)) ∈ tw := tw_of w_1681 rfl
theorem q_1682 : (Jvm.Cond.code ({ cls := "DialSquareModel", name := "pointsAs", desc := "(II)I" } : Jvm.MethodName) prog_14_method_122_code (3 : Nat) (Option.some Jvm.ClassFile.FieldType.int)) ∈ tw := tw_of w_1682 rfl
theorem q_1683 : (Jvm.Cond.methodLink "DialSquareModel" (349 : Nat) ({ cls := "DialSquareModel", name := "starts", desc := "(I)V" } : Jvm.MethodName)) ∈ tw := tw_of w_1683 rfl
theorem q_1685 : (Jvm.Cond.instanceMethod ({ cls := "DialSquareModel", name := "starts", desc := "(I)V" } : Jvm.MethodName)) ∈ tw := tw_of w_1685 rfl
theorem q_1686 : (Jvm.Cond.code ({ cls := "DialSquareModel", name := "starts", desc := "(I)V" } : Jvm.MethodName) prog_14_method_121_code (2 : Nat) (Option.none : Option Jvm.ClassFile.FieldType)) ∈ tw := tw_of w_1686 rfl
theorem q_1687 : (Jvm.Cond.methodLink "DialSquareModel" (358 : Nat) ({ cls := "DialSquareModel", name := "slantsAs", desc := "(II)I" } : Jvm.MethodName)) ∈ tw := tw_of w_1687 rfl
theorem q_1689 : (Jvm.Cond.instanceMethod ({ cls := "DialSquareModel", name := "slantsAs", desc := "(II)I" } : Jvm.MethodName)) ∈ tw := tw_of w_1689 rfl
theorem q_1690 : (Jvm.Cond.code ({ cls := "DialSquareModel", name := "slantsAs", desc := "(II)I" } : Jvm.MethodName) prog_14_method_123_code (3 : Nat) (Option.some Jvm.ClassFile.FieldType.int)) ∈ tw := tw_of w_1690 rfl
theorem q_1691 : (Jvm.Cond.methodLink "DialSquareModel" (361 : Nat) ({ cls := "DialSquareModel", name := "sharesAs", desc := "(II)I" } : Jvm.MethodName)) ∈ tw := tw_of w_1691 rfl
theorem q_1693 : (Jvm.Cond.instanceMethod ({ cls := "DialSquareModel", name := "sharesAs", desc := "(II)I" } : Jvm.MethodName)) ∈ tw := tw_of w_1693 rfl
theorem q_1694 : (Jvm.Cond.code ({ cls := "DialSquareModel", name := "sharesAs", desc := "(II)I" } : Jvm.MethodName) prog_14_method_124_code (4 : Nat) (Option.some Jvm.ClassFile.FieldType.int)) ∈ tw := tw_of w_1694 rfl
theorem q_1695 : (Jvm.Cond.methodLink "DialSquareModel" (368 : Nat) ({ cls := "DialSquareModel", name := "tellsAs", desc := "(II)I" } : Jvm.MethodName)) ∈ tw := tw_of w_1695 rfl
theorem q_1697 : (Jvm.Cond.instanceMethod ({ cls := "DialSquareModel", name := "tellsAs", desc := "(II)I" } : Jvm.MethodName)) ∈ tw := tw_of w_1697 rfl
theorem q_1698 : (Jvm.Cond.code ({ cls := "DialSquareModel", name := "tellsAs", desc := "(II)I" } : Jvm.MethodName) prog_14_method_125_code (4 : Nat) (Option.some Jvm.ClassFile.FieldType.int)) ∈ tw := tw_of w_1698 rfl
theorem q_1699 : (Jvm.Cond.methodLink "DialSquareLaw" (212 : Nat) ({ cls := "DialSquareModel", name := "trace", desc := "(I)I" } : Jvm.MethodName)) ∈ tw := tw_of w_1699 rfl
theorem q_1700 : (Jvm.Cond.instanceMethod ({ cls := "DialSquareModel", name := "trace", desc := "(I)I" } : Jvm.MethodName)) ∈ tw := tw_of w_1700 rfl
theorem q_1701 : (Jvm.Cond.selects "DialSquareModel" ({ cls := "DialSquareModel", name := "trace", desc := "(I)I" } : Jvm.MethodName) ({ cls := "DialSquareModel", name := "trace", desc := "(I)I" } : Jvm.MethodName)) ∈ tw := tw_of w_1701 rfl
theorem q_1702 : (Jvm.Cond.code ({ cls := "DialSquareModel", name := "trace", desc := "(I)I" } : Jvm.MethodName) prog_14_method_127_code (2 : Nat) (Option.some Jvm.ClassFile.FieldType.int)) ∈ tw := tw_of w_1702 rfl
theorem q_1703 : (Jvm.Cond.methodLink "DialSquareLaw" (216 : Nat) ({ cls := "DialSquareModel", name := "many", desc := "(I)I" } : Jvm.MethodName)) ∈ tw := tw_of w_1703 rfl
theorem q_1704 : (Jvm.Cond.instanceMethod ({ cls := "DialSquareModel", name := "many", desc := "(I)I" } : Jvm.MethodName)) ∈ tw := tw_of w_1704 rfl
theorem q_1705 : (Jvm.Cond.selects "DialSquareModel" ({ cls := "DialSquareModel", name := "many", desc := "(I)I" } : Jvm.MethodName) ({ cls := "DialSquareModel", name := "many", desc := "(I)I" } : Jvm.MethodName)) ∈ tw := tw_of w_1705 rfl
theorem q_1706 : (Jvm.Cond.code ({ cls := "DialSquareModel", name := "many", desc := "(I)I" } : Jvm.MethodName) prog_14_method_129_code (2 : Nat) (Option.some Jvm.ClassFile.FieldType.int)) ∈ tw := tw_of w_1706 rfl
theorem q_1707 : (Jvm.Cond.methodLink "DialSquareModel" (371 : Nat) ({ cls := "DialSquareModel", name := "ones", desc := "(I)I" } : Jvm.MethodName)) ∈ tw := tw_of w_1707 rfl
theorem q_1708 : (Jvm.Cond.static ({ cls := "DialSquareModel", name := "ones", desc := "(I)I" } : Jvm.MethodName)) ∈ tw := tw_of w_1708 rfl
theorem q_1709 : (Jvm.Cond.code ({ cls := "DialSquareModel", name := "ones", desc := "(I)I" } : Jvm.MethodName) prog_14_method_128_code (3 : Nat) (Option.some Jvm.ClassFile.FieldType.int)) ∈ tw := tw_of w_1709 rfl
theorem q_1710 : (Jvm.Cond.methodLink "DialSquareLaw" (220 : Nat) ({ cls := "DialSquareModel", name := "keep", desc := "()I" } : Jvm.MethodName)) ∈ tw := tw_of w_1710 rfl
theorem q_1711 : (Jvm.Cond.instanceMethod ({ cls := "DialSquareModel", name := "keep", desc := "()I" } : Jvm.MethodName)) ∈ tw := tw_of w_1711 rfl
theorem q_1712 : (Jvm.Cond.selects "DialSquareModel" ({ cls := "DialSquareModel", name := "keep", desc := "()I" } : Jvm.MethodName) ({ cls := "DialSquareModel", name := "keep", desc := "()I" } : Jvm.MethodName)) ∈ tw := tw_of w_1712 rfl
theorem q_1713 : (Jvm.Cond.code ({ cls := "DialSquareModel", name := "keep", desc := "()I" } : Jvm.MethodName) prog_14_method_130_code (2 : Nat) (Option.some Jvm.ClassFile.FieldType.int)) ∈ tw := tw_of w_1713 rfl
theorem q_1714 : (Jvm.Cond.methodLink "DialSquareLaw" (224 : Nat) ({ cls := "DialSquareModel", name := "again", desc := "()I" } : Jvm.MethodName)) ∈ tw := tw_of w_1714 rfl
theorem q_1715 : (Jvm.Cond.instanceMethod ({ cls := "DialSquareModel", name := "again", desc := "()I" } : Jvm.MethodName)) ∈ tw := tw_of w_1715 rfl
theorem q_1716 : (Jvm.Cond.selects "DialSquareModel" ({ cls := "DialSquareModel", name := "again", desc := "()I" } : Jvm.MethodName) ({ cls := "DialSquareModel", name := "again", desc := "()I" } : Jvm.MethodName)) ∈ tw := tw_of w_1716 rfl
theorem q_1717 : (Jvm.Cond.code ({ cls := "DialSquareModel", name := "again", desc := "()I" } : Jvm.MethodName) prog_14_method_131_code (2 : Nat) (Option.some Jvm.ClassFile.FieldType.int)) ∈ tw := tw_of w_1717 rfl
theorem q_1718 : (Jvm.Cond.constantLong "DialSquareLaw" (58 : Nat) (4294967295 : Int64)) ∈ tw := tw_of w_1718 rfl
theorem q_1719 : (Jvm.Cond.sameMethod "DialSquare$Tall" "DialSquare$Tall" "shades" "(II)I") ∈ tw := tw_of w_1719 rfl
theorem q_1720 : (Jvm.Cond.sameMethod "DialSquare$Low" "DialSquare$Low" "shades" "(II)I") ∈ tw := tw_of w_1720 rfl
theorem q_1721 : (Jvm.Cond.sameMethod "DialSquare$Tall" "DialSquare$Tall" "slips" "(II)I") ∈ tw := tw_of w_1721 rfl
theorem q_1722 : (Jvm.Cond.sameMethod "DialSquare$Low" "DialSquare$Low" "slips" "(II)I") ∈ tw := tw_of w_1722 rfl
theorem q_1723 : (Jvm.Cond.sameMethod "DialSquare$Low" "DialSquare$Low" "shares" "(LDialSquare$Host;I)I") ∈ tw := tw_of w_1723 rfl
theorem q_1729 : (Jvm.Cond.fieldLink "java/lang/String" (9 : Nat) "java/lang/String" "value" "[B") ∈ tw := tw_of w_1729 rfl
theorem q_1730 : (Jvm.Cond.fieldLink "java/lang/String" (15 : Nat) "java/lang/String" "coder" "B") ∈ tw := tw_of w_1730 rfl
theorem qs_0 : Cond.selects "DialSquare$Rules" (⟨"DialSquare$Rules", "holds", "(II[I)Z"⟩ : MethodName) (⟨"DialSquare$Rules", "holds", "(II[I)Z"⟩ : MethodName) ∈ tw := tw_sel (q := (⟨"DialSquare$Rules", "holds", "(II[I)Z"⟩, 6)) (List.mem_of_getElem? (i := 0) rfl) rfl
theorem qs_1 : Cond.selects "DialSquare$RuleText" (⟨"DialSquare$RuleText", "cutWords", "()V"⟩ : MethodName) (⟨"DialSquare$RuleText", "cutWords", "()V"⟩ : MethodName) ∈ tw := tw_sel (q := (⟨"DialSquare$RuleText", "cutWords", "()V"⟩, 11)) (List.mem_of_getElem? (i := 1) rfl) rfl
theorem qs_2 : Cond.selects "DialSquare$RuleText" (⟨"DialSquare$RuleText", "endOfRow", "(I)I"⟩ : MethodName) (⟨"DialSquare$RuleText", "endOfRow", "(I)I"⟩ : MethodName) ∈ tw := tw_sel (q := (⟨"DialSquare$RuleText", "endOfRow", "(I)I"⟩, 11)) (List.mem_of_getElem? (i := 2) rfl) rfl
theorem qs_3 : Cond.selects "DialSquare$RuleText" (⟨"DialSquare$RuleText", "numberOf", "(II)I"⟩ : MethodName) (⟨"DialSquare$RuleText", "numberOf", "(II)I"⟩ : MethodName) ∈ tw := tw_sel (q := (⟨"DialSquare$RuleText", "numberOf", "(II)I"⟩, 11)) (List.mem_of_getElem? (i := 3) rfl) rfl
theorem qs_4 : Cond.selects "DialSquare$RuleText" (⟨"DialSquare$RuleText", "wordOf", "(II)I"⟩ : MethodName) (⟨"DialSquare$RuleText", "wordOf", "(II)I"⟩ : MethodName) ∈ tw := tw_sel (q := (⟨"DialSquare$RuleText", "wordOf", "(II)I"⟩, 11)) (List.mem_of_getElem? (i := 4) rfl) rfl
theorem qs_5 : Cond.selects "DialSquare$RuleText" (⟨"DialSquare$RuleText", "isWord", "(III)Z"⟩ : MethodName) (⟨"DialSquare$RuleText", "isWord", "(III)Z"⟩ : MethodName) ∈ tw := tw_sel (q := (⟨"DialSquare$RuleText", "isWord", "(III)Z"⟩, 11)) (List.mem_of_getElem? (i := 5) rfl) rfl
theorem qs_6 : Cond.selects "DialSquare$RuleText" (⟨"DialSquare$RuleText", "readRule", "(I)Z"⟩ : MethodName) (⟨"DialSquare$RuleText", "readRule", "(I)Z"⟩ : MethodName) ∈ tw := tw_sel (q := (⟨"DialSquare$RuleText", "readRule", "(I)Z"⟩, 11)) (List.mem_of_getElem? (i := 6) rfl) rfl
theorem qs_7 : Cond.selects "DialSquare$RuleText" (⟨"DialSquare$RuleText", "takes", "(I)Z"⟩ : MethodName) (⟨"DialSquare$RuleText", "takes", "(I)Z"⟩ : MethodName) ∈ tw := tw_sel (q := (⟨"DialSquare$RuleText", "takes", "(I)Z"⟩, 11)) (List.mem_of_getElem? (i := 7) rfl) rfl
theorem qs_8 : Cond.selects "DialSquare$RuleText" (⟨"DialSquare$RuleText", "readCondition", "(I)Z"⟩ : MethodName) (⟨"DialSquare$RuleText", "readCondition", "(I)Z"⟩ : MethodName) ∈ tw := tw_sel (q := (⟨"DialSquare$RuleText", "readCondition", "(I)Z"⟩, 11)) (List.mem_of_getElem? (i := 8) rfl) rfl
theorem qs_9 : Cond.selects "DialSquare$RuleText" (⟨"DialSquare$RuleText", "readAll", "(I)Z"⟩ : MethodName) (⟨"DialSquare$RuleText", "readAll", "(I)Z"⟩ : MethodName) ∈ tw := tw_sel (q := (⟨"DialSquare$RuleText", "readAll", "(I)Z"⟩, 11)) (List.mem_of_getElem? (i := 9) rfl) rfl
theorem qs_10 : Cond.selects "DialSquare$RuleText" (⟨"DialSquare$RuleText", "readOne", "(I)Z"⟩ : MethodName) (⟨"DialSquare$RuleText", "readOne", "(I)Z"⟩ : MethodName) ∈ tw := tw_sel (q := (⟨"DialSquare$RuleText", "readOne", "(I)Z"⟩, 11)) (List.mem_of_getElem? (i := 10) rfl) rfl
theorem qs_11 : Cond.selects "DialSquare$RuleText" (⟨"DialSquare$RuleText", "readOpened", "(I)Z"⟩ : MethodName) (⟨"DialSquare$RuleText", "readOpened", "(I)Z"⟩ : MethodName) ∈ tw := tw_sel (q := (⟨"DialSquare$RuleText", "readOpened", "(I)Z"⟩, 11)) (List.mem_of_getElem? (i := 11) rfl) rfl
theorem qs_12 : Cond.selects "DialSquare$RuleText" (⟨"DialSquare$RuleText", "readCompared", "()Z"⟩ : MethodName) (⟨"DialSquare$RuleText", "readCompared", "()Z"⟩ : MethodName) ∈ tw := tw_sel (q := (⟨"DialSquare$RuleText", "readCompared", "()Z"⟩, 11)) (List.mem_of_getElem? (i := 12) rfl) rfl
theorem qs_13 : Cond.selects "DialSquare$RuleText" (⟨"DialSquare$RuleText", "emit", "(I)V"⟩ : MethodName) (⟨"DialSquare$RuleText", "emit", "(I)V"⟩ : MethodName) ∈ tw := tw_sel (q := (⟨"DialSquare$RuleText", "emit", "(I)V"⟩, 11)) (List.mem_of_getElem? (i := 13) rfl) rfl
theorem qs_14 : Cond.selects "DialSquare$Square" (⟨"DialSquare$Square", "restAct", "()I"⟩ : MethodName) (⟨"DialSquare$Square", "restAct", "()I"⟩ : MethodName) ∈ tw := tw_sel (q := (⟨"DialSquare$Square", "restAct", "()I"⟩, 14)) (List.mem_of_getElem? (i := 14) rfl) rfl
theorem qs_15 : Cond.selects "DialSquare$Square" (⟨"DialSquare$Square", "setRight", "(I)I"⟩ : MethodName) (⟨"DialSquare$Square", "setRight", "(I)I"⟩ : MethodName) ∈ tw := tw_sel (q := (⟨"DialSquare$Square", "setRight", "(I)I"⟩, 14)) (List.mem_of_getElem? (i := 15) rfl) rfl
theorem qs_16 : Cond.selects "DialSquare$Square" (⟨"DialSquare$Square", "arguedBy", "(I)I"⟩ : MethodName) (⟨"DialSquare$Square", "arguedBy", "(I)I"⟩ : MethodName) ∈ tw := tw_sel (q := (⟨"DialSquare$Square", "arguedBy", "(I)I"⟩, 14)) (List.mem_of_getElem? (i := 16) rfl) rfl
theorem qs_17 : Cond.selects "DialSquare$Square" (⟨"DialSquare$Square", "slipAll", "()V"⟩ : MethodName) (⟨"DialSquare$Square", "slipAll", "()V"⟩ : MethodName) ∈ tw := tw_sel (q := (⟨"DialSquare$Square", "slipAll", "()V"⟩, 14)) (List.mem_of_getElem? (i := 17) rfl) rfl
theorem qs_18 : Cond.selects "DialSquare" (⟨"DialSquare", "dearest", "(II)I"⟩ : MethodName) (⟨"DialSquare", "dearest", "(II)I"⟩ : MethodName) ∈ tw := tw_sel (q := (⟨"DialSquare", "dearest", "(II)I"⟩, 8)) (List.mem_of_getElem? (i := 18) rfl) rfl
theorem qs_19 : Cond.selects "DialSquare" (⟨"DialSquare", "countKnots", "()I"⟩ : MethodName) (⟨"DialSquare", "countKnots", "()I"⟩ : MethodName) ∈ tw := tw_sel (q := (⟨"DialSquare", "countKnots", "()I"⟩, 8)) (List.mem_of_getElem? (i := 19) rfl) rfl
theorem qs_20 : Cond.selects "DialSquare$Square" (⟨"DialSquare$Square", "closeTo", "(I)I"⟩ : MethodName) (⟨"DialSquare$Square", "closeTo", "(I)I"⟩ : MethodName) ∈ tw := tw_sel (q := (⟨"DialSquare$Square", "closeTo", "(I)I"⟩, 14)) (List.mem_of_getElem? (i := 20) rfl) rfl
theorem qs_21 : Cond.selects "DialSquare" (⟨"DialSquare", "spotsInShade", "(I)I"⟩ : MethodName) (⟨"DialSquare", "spotsInShade", "(I)I"⟩ : MethodName) ∈ tw := tw_sel (q := (⟨"DialSquare", "spotsInShade", "(I)I"⟩, 8)) (List.mem_of_getElem? (i := 21) rfl) rfl
theorem qs_22 : Cond.selects "DialSquare" (⟨"DialSquare", "benchesOf", "(I)I"⟩ : MethodName) (⟨"DialSquare", "benchesOf", "(I)I"⟩ : MethodName) ∈ tw := tw_sel (q := (⟨"DialSquare", "benchesOf", "(I)I"⟩, 8)) (List.mem_of_getElem? (i := 22) rfl) rfl
theorem qs_23 : Cond.selects "DialSquare$Plans" (⟨"DialSquare$Plans", "explore", "(III)V"⟩ : MethodName) (⟨"DialSquare$Plans", "explore", "(III)V"⟩ : MethodName) ∈ tw := tw_sel (q := (⟨"DialSquare$Plans", "explore", "(III)V"⟩, 14)) (List.mem_of_getElem? (i := 23) rfl) rfl
theorem qs_24 : Cond.selects "DialSquare$Plans" (⟨"DialSquare$Plans", "weigh", "(III)V"⟩ : MethodName) (⟨"DialSquare$Plans", "weigh", "(III)V"⟩ : MethodName) ∈ tw := tw_sel (q := (⟨"DialSquare$Plans", "weigh", "(III)V"⟩, 14)) (List.mem_of_getElem? (i := 24) rfl) rfl
theorem qs_25 : Cond.selects "DialSquare" (⟨"DialSquare", "isSetOfDials", "(I)Z"⟩ : MethodName) (⟨"DialSquare", "isSetOfDials", "(I)Z"⟩ : MethodName) ∈ tw := tw_sel (q := (⟨"DialSquare", "isSetOfDials", "(I)Z"⟩, 8)) (List.mem_of_getElem? (i := 25) rfl) rfl
theorem qs_26 : Cond.selects "DialSquare$Plans" (⟨"DialSquare$Plans", "valueFrom", "(I)I"⟩ : MethodName) (⟨"DialSquare$Plans", "valueFrom", "(I)I"⟩ : MethodName) ∈ tw := tw_sel (q := (⟨"DialSquare$Plans", "valueFrom", "(I)I"⟩, 14)) (List.mem_of_getElem? (i := 26) rfl) rfl
theorem qs_27 : Cond.selects "DialSquare" (⟨"DialSquare", "missedBy", "(I)I"⟩ : MethodName) (⟨"DialSquare", "missedBy", "(I)I"⟩ : MethodName) ∈ tw := tw_sel (q := (⟨"DialSquare", "missedBy", "(I)I"⟩, 8)) (List.mem_of_getElem? (i := 27) rfl) rfl
theorem qs_28 : Cond.selects "DialSquare$Square" (⟨"DialSquare$Square", "missedBehind", "(III)I"⟩ : MethodName) (⟨"DialSquare$Square", "missedBehind", "(III)I"⟩ : MethodName) ∈ tw := tw_sel (q := (⟨"DialSquare$Square", "missedBehind", "(III)I"⟩, 14)) (List.mem_of_getElem? (i := 28) rfl) rfl
theorem qs_29 : Cond.selects "DialSquare" (⟨"DialSquare", "holdsDial", "(I)Z"⟩ : MethodName) (⟨"DialSquare", "holdsDial", "(I)Z"⟩ : MethodName) ∈ tw := tw_sel (q := (⟨"DialSquare", "holdsDial", "(I)Z"⟩, 8)) (List.mem_of_getElem? (i := 29) rfl) rfl
theorem qs_30 : Cond.selects "DialSquareModel" (⟨"DialSquareModel", "next", "()V"⟩ : MethodName) (⟨"DialSquareModel", "next", "()V"⟩ : MethodName) ∈ tw := tw_sel (q := (⟨"DialSquareModel", "next", "()V"⟩, 37)) (List.mem_of_getElem? (i := 30) rfl) rfl
theorem qs_31 : Cond.selects "DialSquareModel" (⟨"DialSquareModel", "byteAt", "(I)I"⟩ : MethodName) (⟨"DialSquareModel", "byteAt", "(I)I"⟩ : MethodName) ∈ tw := tw_sel (q := (⟨"DialSquareModel", "byteAt", "(I)I"⟩, 37)) (List.mem_of_getElem? (i := 31) rfl) rfl
theorem qs_32 : Cond.selects "DialSquareModel" (⟨"DialSquareModel", "readsName", "()V"⟩ : MethodName) (⟨"DialSquareModel", "readsName", "()V"⟩ : MethodName) ∈ tw := tw_sel (q := (⟨"DialSquareModel", "readsName", "()V"⟩, 37)) (List.mem_of_getElem? (i := 32) rfl) rfl
theorem qs_33 : Cond.selects "DialSquareModel" (⟨"DialSquareModel", "isNameOf", "(I)Z"⟩ : MethodName) (⟨"DialSquareModel", "isNameOf", "(I)Z"⟩ : MethodName) ∈ tw := tw_sel (q := (⟨"DialSquareModel", "isNameOf", "(I)Z"⟩, 37)) (List.mem_of_getElem? (i := 33) rfl) rfl
theorem qs_34 : Cond.selects "DialSquareModel" (⟨"DialSquareModel", "readsNumber", "()V"⟩ : MethodName) (⟨"DialSquareModel", "readsNumber", "()V"⟩ : MethodName) ∈ tw := tw_sel (q := (⟨"DialSquareModel", "readsNumber", "()V"⟩, 37)) (List.mem_of_getElem? (i := 34) rfl) rfl
theorem qs_35 : Cond.selects "DialSquareModel" (⟨"DialSquareModel", "readsRule", "(I)Z"⟩ : MethodName) (⟨"DialSquareModel", "readsRule", "(I)Z"⟩ : MethodName) ∈ tw := tw_sel (q := (⟨"DialSquareModel", "readsRule", "(I)Z"⟩, 37)) (List.mem_of_getElem? (i := 35) rfl) rfl
theorem qs_36 : Cond.selects "DialSquareModel" (⟨"DialSquareModel", "takes", "(I)Z"⟩ : MethodName) (⟨"DialSquareModel", "takes", "(I)Z"⟩ : MethodName) ∈ tw := tw_sel (q := (⟨"DialSquareModel", "takes", "(I)Z"⟩, 37)) (List.mem_of_getElem? (i := 36) rfl) rfl
theorem qs_37 : Cond.selects "DialSquareModel" (⟨"DialSquareModel", "readsCondition", "()Z"⟩ : MethodName) (⟨"DialSquareModel", "readsCondition", "()Z"⟩ : MethodName) ∈ tw := tw_sel (q := (⟨"DialSquareModel", "readsCondition", "()Z"⟩, 37)) (List.mem_of_getElem? (i := 37) rfl) rfl
theorem qs_38 : Cond.selects "DialSquareModel" (⟨"DialSquareModel", "readsAll", "()Z"⟩ : MethodName) (⟨"DialSquareModel", "readsAll", "()Z"⟩ : MethodName) ∈ tw := tw_sel (q := (⟨"DialSquareModel", "readsAll", "()Z"⟩, 37)) (List.mem_of_getElem? (i := 38) rfl) rfl
theorem qs_39 : Cond.selects "DialSquareModel" (⟨"DialSquareModel", "readsOne", "()Z"⟩ : MethodName) (⟨"DialSquareModel", "readsOne", "()Z"⟩ : MethodName) ∈ tw := tw_sel (q := (⟨"DialSquareModel", "readsOne", "()Z"⟩, 37)) (List.mem_of_getElem? (i := 39) rfl) rfl
theorem qs_40 : Cond.selects "DialSquareModel" (⟨"DialSquareModel", "readsWithin", "()Z"⟩ : MethodName) (⟨"DialSquareModel", "readsWithin", "()Z"⟩ : MethodName) ∈ tw := tw_sel (q := (⟨"DialSquareModel", "readsWithin", "()Z"⟩, 37)) (List.mem_of_getElem? (i := 40) rfl) rfl
theorem qs_41 : Cond.selects "DialSquareModel" (⟨"DialSquareModel", "readsLike", "()Z"⟩ : MethodName) (⟨"DialSquareModel", "readsLike", "()Z"⟩ : MethodName) ∈ tw := tw_sel (q := (⟨"DialSquareModel", "readsLike", "()Z"⟩, 37)) (List.mem_of_getElem? (i := 41) rfl) rfl
theorem qs_42 : Cond.selects "DialSquareModel" (⟨"DialSquareModel", "readsValue", "()Z"⟩ : MethodName) (⟨"DialSquareModel", "readsValue", "()Z"⟩ : MethodName) ∈ tw := tw_sel (q := (⟨"DialSquareModel", "readsValue", "()Z"⟩, 37)) (List.mem_of_getElem? (i := 42) rfl) rfl
theorem qs_43 : Cond.selects "DialSquareModel" (⟨"DialSquareModel", "lays", "(I)V"⟩ : MethodName) (⟨"DialSquareModel", "lays", "(I)V"⟩ : MethodName) ∈ tw := tw_sel (q := (⟨"DialSquareModel", "lays", "(I)V"⟩, 37)) (List.mem_of_getElem? (i := 43) rfl) rfl
theorem qs_44 : Cond.selects "DialSquareModel" (⟨"DialSquareModel", "puts", "(III)V"⟩ : MethodName) (⟨"DialSquareModel", "puts", "(III)V"⟩ : MethodName) ∈ tw := tw_sel (q := (⟨"DialSquareModel", "puts", "(III)V"⟩, 37)) (List.mem_of_getElem? (i := 44) rfl) rfl
theorem qs_45 : Cond.selects "DialSquareModel" (⟨"DialSquareModel", "isDial", "(I)Z"⟩ : MethodName) (⟨"DialSquareModel", "isDial", "(I)Z"⟩ : MethodName) ∈ tw := tw_sel (q := (⟨"DialSquareModel", "isDial", "(I)Z"⟩, 37)) (List.mem_of_getElem? (i := 45) rfl) rfl
theorem qs_46 : Cond.selects "DialSquareModel" (⟨"DialSquareModel", "shadesOf", "(I)I"⟩ : MethodName) (⟨"DialSquareModel", "shadesOf", "(I)I"⟩ : MethodName) ∈ tw := tw_sel (q := (⟨"DialSquareModel", "shadesOf", "(I)I"⟩, 37)) (List.mem_of_getElem? (i := 46) rfl) rfl
theorem qs_47 : Cond.selects "DialSquareModel" (⟨"DialSquareModel", "get", "(II)I"⟩ : MethodName) (⟨"DialSquareModel", "get", "(II)I"⟩ : MethodName) ∈ tw := tw_sel (q := (⟨"DialSquareModel", "get", "(II)I"⟩, 37)) (List.mem_of_getElem? (i := 47) rfl) rfl
theorem qs_48 : Cond.selects "DialSquareModel" (⟨"DialSquareModel", "skyNow", "()I"⟩ : MethodName) (⟨"DialSquareModel", "skyNow", "()I"⟩ : MethodName) ∈ tw := tw_sel (q := (⟨"DialSquareModel", "skyNow", "()I"⟩, 37)) (List.mem_of_getElem? (i := 48) rfl) rfl
theorem qs_49 : Cond.selects "DialSquareModel" (⟨"DialSquareModel", "slipsOf", "(I)I"⟩ : MethodName) (⟨"DialSquareModel", "slipsOf", "(I)I"⟩ : MethodName) ∈ tw := tw_sel (q := (⟨"DialSquareModel", "slipsOf", "(I)I"⟩, 37)) (List.mem_of_getElem? (i := 49) rfl) rfl
theorem qs_50 : Cond.selects "DialSquareModel" (⟨"DialSquareModel", "shadeAt", "(I)I"⟩ : MethodName) (⟨"DialSquareModel", "shadeAt", "(I)I"⟩ : MethodName) ∈ tw := tw_sel (q := (⟨"DialSquareModel", "shadeAt", "(I)I"⟩, 37)) (List.mem_of_getElem? (i := 50) rfl) rfl
theorem qs_51 : Cond.selects "DialSquareModel" (⟨"DialSquareModel", "paysOf", "(I)I"⟩ : MethodName) (⟨"DialSquareModel", "paysOf", "(I)I"⟩ : MethodName) ∈ tw := tw_sel (q := (⟨"DialSquareModel", "paysOf", "(I)I"⟩, 37)) (List.mem_of_getElem? (i := 51) rfl) rfl
theorem qs_52 : Cond.selects "DialSquareModel" (⟨"DialSquareModel", "maySet", "(I)Z"⟩ : MethodName) (⟨"DialSquareModel", "maySet", "(I)Z"⟩ : MethodName) ∈ tw := tw_sel (q := (⟨"DialSquareModel", "maySet", "(I)Z"⟩, 37)) (List.mem_of_getElem? (i := 52) rfl) rfl
theorem qs_53 : Cond.selects "DialSquareModel" (⟨"DialSquareModel", "willOf", "(I)I"⟩ : MethodName) (⟨"DialSquareModel", "willOf", "(I)I"⟩ : MethodName) ∈ tw := tw_sel (q := (⟨"DialSquareModel", "willOf", "(I)I"⟩, 37)) (List.mem_of_getElem? (i := 53) rfl) rfl
theorem qs_54 : Cond.selects "DialSquareModel" (⟨"DialSquareModel", "ruleOf", "(II)I"⟩ : MethodName) (⟨"DialSquareModel", "ruleOf", "(II)I"⟩ : MethodName) ∈ tw := tw_sel (q := (⟨"DialSquareModel", "ruleOf", "(II)I"⟩, 37)) (List.mem_of_getElem? (i := 54) rfl) rfl
theorem qs_55 : Cond.selects "DialSquareModel" (⟨"DialSquareModel", "holdsFor", "(II)Z"⟩ : MethodName) (⟨"DialSquareModel", "holdsFor", "(II)Z"⟩ : MethodName) ∈ tw := tw_sel (q := (⟨"DialSquareModel", "holdsFor", "(II)Z"⟩, 37)) (List.mem_of_getElem? (i := 55) rfl) rfl
theorem qs_56 : Cond.selects "DialSquareModel" (⟨"DialSquareModel", "knownOf", "(II)I"⟩ : MethodName) (⟨"DialSquareModel", "knownOf", "(II)I"⟩ : MethodName) ∈ tw := tw_sel (q := (⟨"DialSquareModel", "knownOf", "(II)I"⟩, 37)) (List.mem_of_getElem? (i := 56) rfl) rfl
theorem qs_57 : Cond.selects "DialSquareModel" (⟨"DialSquareModel", "becomes", "(II)I"⟩ : MethodName) (⟨"DialSquareModel", "becomes", "(II)I"⟩ : MethodName) ∈ tw := tw_sel (q := (⟨"DialSquareModel", "becomes", "(II)I"⟩, 37)) (List.mem_of_getElem? (i := 57) rfl) rfl
theorem qs_58 : Cond.selects "DialSquareModel" (⟨"DialSquareModel", "isOver", "()Z"⟩ : MethodName) (⟨"DialSquareModel", "isOver", "()Z"⟩ : MethodName) ∈ tw := tw_sel (q := (⟨"DialSquareModel", "isOver", "()Z"⟩, 37)) (List.mem_of_getElem? (i := 58) rfl) rfl
theorem qs_59 : Cond.selects "DialSquareModel" (⟨"DialSquareModel", "those", "(I)I"⟩ : MethodName) (⟨"DialSquareModel", "those", "(I)I"⟩ : MethodName) ∈ tw := tw_sel (q := (⟨"DialSquareModel", "those", "(I)I"⟩, 37)) (List.mem_of_getElem? (i := 59) rfl) rfl
theorem qs_60 : Cond.selects "DialSquareModel" (⟨"DialSquareModel", "pairsNow", "()I"⟩ : MethodName) (⟨"DialSquareModel", "pairsNow", "()I"⟩ : MethodName) ∈ tw := tw_sel (q := (⟨"DialSquareModel", "pairsNow", "()I"⟩, 37)) (List.mem_of_getElem? (i := 60) rfl) rfl
theorem qs_61 : Cond.selects "DialSquareModel" (⟨"DialSquareModel", "doAgree", "(II)Z"⟩ : MethodName) (⟨"DialSquareModel", "doAgree", "(II)Z"⟩ : MethodName) ∈ tw := tw_sel (q := (⟨"DialSquareModel", "doAgree", "(II)Z"⟩, 37)) (List.mem_of_getElem? (i := 61) rfl) rfl
theorem qs_62 : Cond.selects "DialSquareModel" (⟨"DialSquareModel", "goesBy", "(I)I"⟩ : MethodName) (⟨"DialSquareModel", "goesBy", "(I)I"⟩ : MethodName) ∈ tw := tw_sel (q := (⟨"DialSquareModel", "goesBy", "(I)I"⟩, 37)) (List.mem_of_getElem? (i := 62) rfl) rfl
theorem qs_63 : Cond.selects "DialSquareModel" (⟨"DialSquareModel", "restOne", "()I"⟩ : MethodName) (⟨"DialSquareModel", "restOne", "()I"⟩ : MethodName) ∈ tw := tw_sel (q := (⟨"DialSquareModel", "restOne", "()I"⟩, 37)) (List.mem_of_getElem? (i := 63) rfl) rfl
theorem qs_64 : Cond.selects "DialSquareModel" (⟨"DialSquareModel", "meets", "(I)I"⟩ : MethodName) (⟨"DialSquareModel", "meets", "(I)I"⟩ : MethodName) ∈ tw := tw_sel (q := (⟨"DialSquareModel", "meets", "(I)I"⟩, 37)) (List.mem_of_getElem? (i := 64) rfl) rfl
theorem qs_65 : Cond.selects "DialSquareModel" (⟨"DialSquareModel", "setsRight", "(I)I"⟩ : MethodName) (⟨"DialSquareModel", "setsRight", "(I)I"⟩ : MethodName) ∈ tw := tw_sel (q := (⟨"DialSquareModel", "setsRight", "(I)I"⟩, 37)) (List.mem_of_getElem? (i := 65) rfl) rfl
theorem qs_66 : Cond.selects "DialSquareModel" (⟨"DialSquareModel", "argues", "(I)I"⟩ : MethodName) (⟨"DialSquareModel", "argues", "(I)I"⟩ : MethodName) ∈ tw := tw_sel (q := (⟨"DialSquareModel", "argues", "(I)I"⟩, 37)) (List.mem_of_getElem? (i := 66) rfl) rfl
theorem qs_67 : Cond.selects "DialSquareModel" (⟨"DialSquareModel", "layDown", "()V"⟩ : MethodName) (⟨"DialSquareModel", "layDown", "()V"⟩ : MethodName) ∈ tw := tw_sel (q := (⟨"DialSquareModel", "layDown", "()V"⟩, 37)) (List.mem_of_getElem? (i := 67) rfl) rfl
theorem qs_68 : Cond.selects "DialSquareModel" (⟨"DialSquareModel", "restOf", "(I)I"⟩ : MethodName) (⟨"DialSquareModel", "restOf", "(I)I"⟩ : MethodName) ∈ tw := tw_sel (q := (⟨"DialSquareModel", "restOf", "(I)I"⟩, 37)) (List.mem_of_getElem? (i := 68) rfl) rfl
theorem qs_69 : Cond.selects "DialSquareModel" (⟨"DialSquareModel", "layBack", "()V"⟩ : MethodName) (⟨"DialSquareModel", "layBack", "()V"⟩ : MethodName) ∈ tw := tw_sel (q := (⟨"DialSquareModel", "layBack", "()V"⟩, 37)) (List.mem_of_getElem? (i := 69) rfl) rfl
theorem qs_70 : Cond.selects "DialSquareModel" (⟨"DialSquareModel", "bestFor", "(III)I"⟩ : MethodName) (⟨"DialSquareModel", "bestFor", "(III)I"⟩ : MethodName) ∈ tw := tw_sel (q := (⟨"DialSquareModel", "bestFor", "(III)I"⟩, 37)) (List.mem_of_getElem? (i := 70) rfl) rfl
theorem qs_71 : Cond.selects "DialSquareModel" (⟨"DialSquareModel", "knotOf", "(I)I"⟩ : MethodName) (⟨"DialSquareModel", "knotOf", "(I)I"⟩ : MethodName) ∈ tw := tw_sel (q := (⟨"DialSquareModel", "knotOf", "(I)I"⟩, 37)) (List.mem_of_getElem? (i := 71) rfl) rfl
theorem qs_72 : Cond.selects "DialSquareModel" (⟨"DialSquareModel", "areClose", "(II)Z"⟩ : MethodName) (⟨"DialSquareModel", "areClose", "(II)Z"⟩ : MethodName) ∈ tw := tw_sel (q := (⟨"DialSquareModel", "areClose", "(II)Z"⟩, 37)) (List.mem_of_getElem? (i := 72) rfl) rfl
theorem qs_73 : Cond.selects "DialSquareModel" (⟨"DialSquareModel", "triesAll", "(II)V"⟩ : MethodName) (⟨"DialSquareModel", "triesAll", "(II)V"⟩ : MethodName) ∈ tw := tw_sel (q := (⟨"DialSquareModel", "triesAll", "(II)V"⟩, 37)) (List.mem_of_getElem? (i := 73) rfl) rfl
theorem qs_74 : Cond.selects "DialSquareModel" (⟨"DialSquareModel", "daysOf", "(I)I"⟩ : MethodName) (⟨"DialSquareModel", "daysOf", "(I)I"⟩ : MethodName) ∈ tw := tw_sel (q := (⟨"DialSquareModel", "daysOf", "(I)I"⟩, 37)) (List.mem_of_getElem? (i := 74) rfl) rfl
theorem qs_75 : Cond.selects "DialSquareModel" (⟨"DialSquareModel", "goesPlans", "(IIIII)V"⟩ : MethodName) (⟨"DialSquareModel", "goesPlans", "(IIIII)V"⟩ : MethodName) ∈ tw := tw_sel (q := (⟨"DialSquareModel", "goesPlans", "(IIIII)V"⟩, 37)) (List.mem_of_getElem? (i := 75) rfl) rfl
theorem qs_76 : Cond.selects "DialSquareModel" (⟨"DialSquareModel", "endsPlan", "(IIII)V"⟩ : MethodName) (⟨"DialSquareModel", "endsPlan", "(IIII)V"⟩ : MethodName) ∈ tw := tw_sel (q := (⟨"DialSquareModel", "endsPlan", "(IIII)V"⟩, 37)) (List.mem_of_getElem? (i := 76) rfl) rfl
theorem qs_77 : Cond.selects "DialSquareModel" (⟨"DialSquareModel", "saves", "(I)V"⟩ : MethodName) (⟨"DialSquareModel", "saves", "(I)V"⟩ : MethodName) ∈ tw := tw_sel (q := (⟨"DialSquareModel", "saves", "(I)V"⟩, 37)) (List.mem_of_getElem? (i := 77) rfl) rfl
theorem qs_78 : Cond.selects "DialSquareModel" (⟨"DialSquareModel", "restores", "(I)V"⟩ : MethodName) (⟨"DialSquareModel", "restores", "(I)V"⟩ : MethodName) ∈ tw := tw_sel (q := (⟨"DialSquareModel", "restores", "(I)V"⟩, 37)) (List.mem_of_getElem? (i := 78) rfl) rfl
theorem qs_79 : Cond.selects "DialSquareModel" (⟨"DialSquareModel", "isSet", "(I)Z"⟩ : MethodName) (⟨"DialSquareModel", "isSet", "(I)Z"⟩ : MethodName) ∈ tw := tw_sel (q := (⟨"DialSquareModel", "isSet", "(I)Z"⟩, 37)) (List.mem_of_getElem? (i := 79) rfl) rfl
theorem qs_80 : Cond.selects "DialSquareModel" (⟨"DialSquareModel", "playedFrom", "(II)I"⟩ : MethodName) (⟨"DialSquareModel", "playedFrom", "(II)I"⟩ : MethodName) ∈ tw := tw_sel (q := (⟨"DialSquareModel", "playedFrom", "(II)I"⟩, 37)) (List.mem_of_getElem? (i := 80) rfl) rfl
theorem qs_81 : Cond.selects "DialSquareModel" (⟨"DialSquareModel", "fitting", "(I)I"⟩ : MethodName) (⟨"DialSquareModel", "fitting", "(I)I"⟩ : MethodName) ∈ tw := tw_sel (q := (⟨"DialSquareModel", "fitting", "(I)I"⟩, 37)) (List.mem_of_getElem? (i := 81) rfl) rfl
theorem qs_82 : Cond.selects "DialSquareModel" (⟨"DialSquareModel", "tellsLone", "(III)V"⟩ : MethodName) (⟨"DialSquareModel", "tellsLone", "(III)V"⟩ : MethodName) ∈ tw := tw_sel (q := (⟨"DialSquareModel", "tellsLone", "(III)V"⟩, 37)) (List.mem_of_getElem? (i := 82) rfl) rfl
theorem qs_83 : Cond.selects "DialSquareModel" (⟨"DialSquareModel", "isSo", "(I)Z"⟩ : MethodName) (⟨"DialSquareModel", "isSo", "(I)Z"⟩ : MethodName) ∈ tw := tw_sel (q := (⟨"DialSquareModel", "isSo", "(I)Z"⟩, 37)) (List.mem_of_getElem? (i := 83) rfl) rfl
theorem qs_84 : Cond.selects "DialSquareModel" (⟨"DialSquareModel", "byLot", "()I"⟩ : MethodName) (⟨"DialSquareModel", "byLot", "()I"⟩ : MethodName) ∈ tw := tw_sel (q := (⟨"DialSquareModel", "byLot", "()I"⟩, 37)) (List.mem_of_getElem? (i := 84) rfl) rfl
theorem qs_85 : Cond.selects "DialSquareModel" (⟨"DialSquareModel", "isRow", "(II)Z"⟩ : MethodName) (⟨"DialSquareModel", "isRow", "(II)Z"⟩ : MethodName) ∈ tw := tw_sel (q := (⟨"DialSquareModel", "isRow", "(II)Z"⟩, 37)) (List.mem_of_getElem? (i := 85) rfl) rfl
theorem qs_86 : Cond.selects "DialSquareModel" (⟨"DialSquareModel", "isAct", "(I)Z"⟩ : MethodName) (⟨"DialSquareModel", "isAct", "(I)Z"⟩ : MethodName) ∈ tw := tw_sel (q := (⟨"DialSquareModel", "isAct", "(I)Z"⟩, 37)) (List.mem_of_getElem? (i := 86) rfl) rfl
theorem qs_87 : Cond.selects "DialSquareModel" (⟨"DialSquareModel", "lacks", "(II)I"⟩ : MethodName) (⟨"DialSquareModel", "lacks", "(II)I"⟩ : MethodName) ∈ tw := tw_sel (q := (⟨"DialSquareModel", "lacks", "(II)I"⟩, 37)) (List.mem_of_getElem? (i := 87) rfl) rfl
theorem qs_88 : Cond.selects "DialSquareModel" (⟨"DialSquareModel", "isItem", "(III)Z"⟩ : MethodName) (⟨"DialSquareModel", "isItem", "(III)Z"⟩ : MethodName) ∈ tw := tw_sel (q := (⟨"DialSquareModel", "isItem", "(III)Z"⟩, 37)) (List.mem_of_getElem? (i := 88) rfl) rfl
theorem qs_89 : Cond.selects "DialSquareModel" (⟨"DialSquareModel", "heldOn", "(I)I"⟩ : MethodName) (⟨"DialSquareModel", "heldOn", "(I)I"⟩ : MethodName) ∈ tw := tw_sel (q := (⟨"DialSquareModel", "heldOn", "(I)I"⟩, 37)) (List.mem_of_getElem? (i := 89) rfl) rfl
theorem qs_90 : Cond.selects "DialSquareModel" (⟨"DialSquareModel", "pointsAs", "(II)I"⟩ : MethodName) (⟨"DialSquareModel", "pointsAs", "(II)I"⟩ : MethodName) ∈ tw := tw_sel (q := (⟨"DialSquareModel", "pointsAs", "(II)I"⟩, 37)) (List.mem_of_getElem? (i := 90) rfl) rfl
theorem qs_91 : Cond.selects "DialSquareModel" (⟨"DialSquareModel", "starts", "(I)V"⟩ : MethodName) (⟨"DialSquareModel", "starts", "(I)V"⟩ : MethodName) ∈ tw := tw_sel (q := (⟨"DialSquareModel", "starts", "(I)V"⟩, 37)) (List.mem_of_getElem? (i := 91) rfl) rfl
theorem qs_92 : Cond.selects "DialSquareModel" (⟨"DialSquareModel", "slantsAs", "(II)I"⟩ : MethodName) (⟨"DialSquareModel", "slantsAs", "(II)I"⟩ : MethodName) ∈ tw := tw_sel (q := (⟨"DialSquareModel", "slantsAs", "(II)I"⟩, 37)) (List.mem_of_getElem? (i := 92) rfl) rfl
theorem qs_93 : Cond.selects "DialSquareModel" (⟨"DialSquareModel", "sharesAs", "(II)I"⟩ : MethodName) (⟨"DialSquareModel", "sharesAs", "(II)I"⟩ : MethodName) ∈ tw := tw_sel (q := (⟨"DialSquareModel", "sharesAs", "(II)I"⟩, 37)) (List.mem_of_getElem? (i := 93) rfl) rfl
theorem qs_94 : Cond.selects "DialSquareModel" (⟨"DialSquareModel", "tellsAs", "(II)I"⟩ : MethodName) (⟨"DialSquareModel", "tellsAs", "(II)I"⟩ : MethodName) ∈ tw := tw_sel (q := (⟨"DialSquareModel", "tellsAs", "(II)I"⟩, 37)) (List.mem_of_getElem? (i := 94) rfl) rfl
theorem lay_0 : ∀ w ∈ u_ws RX0 TX0 0, w ∈ tw := by
  intro w h; exact absurd h (by simp [u_ws])
theorem lay_1 : ∀ w ∈ u_ws RX1 TX1 0, w ∈ tw := by
  intro w h; exact absurd h (by simp [u_ws])
theorem lay_2 : ∀ w ∈ u_ws RX2 TX2 11, w ∈ tw := by
  show ∀ w ∈ (List.range 11).map (u_lay RX2 TX2), w ∈ tw
  intro w h
  obtain ⟨k, hk, rfl⟩ := List.mem_map.mp h
  have hk := List.mem_range.mp hk
  match k, hk with
  | 0, _ => exact q_105
  | 1, _ => exact q_107
  | 2, _ => exact q_109
  | 3, _ => exact q_111
  | 4, _ => exact q_113
  | 5, _ => exact q_115
  | 6, _ => exact q_117
  | 7, _ => exact q_119
  | 8, _ => exact q_121
  | 9, _ => exact q_123
  | 10, _ => exact q_125
  | k + 11, hk => exact absurd hk (by omega)
theorem lay_3 : ∀ w ∈ u_ws RX3 TX3 0, w ∈ tw := by
  intro w h; exact absurd h (by simp [u_ws])
theorem lay_4 : ∀ w ∈ u_ws RX4 TX4 0, w ∈ tw := by
  intro w h; exact absurd h (by simp [u_ws])
theorem lay_5 : ∀ w ∈ u_ws RX5 TX5 14, w ∈ tw := by
  show ∀ w ∈ (List.range 14).map (u_lay RX5 TX5), w ∈ tw
  intro w h
  obtain ⟨k, hk, rfl⟩ := List.mem_map.mp h
  have hk := List.mem_range.mp hk
  match k, hk with
  | 0, _ => exact q_292
  | 1, _ => exact q_294
  | 2, _ => exact q_296
  | 3, _ => exact q_298
  | 4, _ => exact q_300
  | 5, _ => exact q_302
  | 6, _ => exact q_304
  | 7, _ => exact q_306
  | 8, _ => exact q_308
  | 9, _ => exact q_310
  | 10, _ => exact q_312
  | 11, _ => exact q_314
  | 12, _ => exact q_316
  | 13, _ => exact q_318
  | k + 14, hk => exact absurd hk (by omega)
theorem lay_6 : ∀ w ∈ u_ws RX6 TX6 11, w ∈ tw := by
  show ∀ w ∈ (List.range 11).map (u_lay RX6 TX6), w ∈ tw
  intro w h
  obtain ⟨k, hk, rfl⟩ := List.mem_map.mp h
  have hk := List.mem_range.mp hk
  match k, hk with
  | 0, _ => exact q_48
  | 1, _ => exact q_50
  | 2, _ => exact q_52
  | 3, _ => exact q_54
  | 4, _ => exact q_56
  | 5, _ => exact q_58
  | 6, _ => exact q_60
  | 7, _ => exact q_62
  | 8, _ => exact q_64
  | 9, _ => exact q_66
  | 10, _ => exact q_68
  | k + 11, hk => exact absurd hk (by omega)
theorem lay_7 : ∀ w ∈ u_ws RX7 TX7 6, w ∈ tw := by
  show ∀ w ∈ (List.range 6).map (u_lay RX7 TX7), w ∈ tw
  intro w h
  obtain ⟨k, hk, rfl⟩ := List.mem_map.mp h
  have hk := List.mem_range.mp hk
  match k, hk with
  | 0, _ => exact q_184
  | 1, _ => exact q_186
  | 2, _ => exact q_188
  | 3, _ => exact q_190
  | 4, _ => exact q_192
  | 5, _ => exact q_194
  | k + 6, hk => exact absurd hk (by omega)
theorem lay_8 : ∀ w ∈ u_ws RX8 TX8 0, w ∈ tw := by
  intro w h; exact absurd h (by simp [u_ws])
theorem lay_9 : ∀ w ∈ u_ws RX9 TX9 14, w ∈ tw := by
  show ∀ w ∈ (List.range 14).map (u_lay RX9 TX9), w ∈ tw
  intro w h
  obtain ⟨k, hk, rfl⟩ := List.mem_map.mp h
  have hk := List.mem_range.mp hk
  match k, hk with
  | 0, _ => exact q_233
  | 1, _ => exact q_235
  | 2, _ => exact q_237
  | 3, _ => exact q_239
  | 4, _ => exact q_241
  | 5, _ => exact q_243
  | 6, _ => exact q_245
  | 7, _ => exact q_247
  | 8, _ => exact q_249
  | 9, _ => exact q_251
  | 10, _ => exact q_253
  | 11, _ => exact q_255
  | 12, _ => exact q_257
  | 13, _ => exact q_259
  | k + 14, hk => exact absurd hk (by omega)
theorem lay_10 : ∀ w ∈ u_ws RX10 TX10 0, w ∈ tw := by
  intro w h; exact absurd h (by simp [u_ws])
theorem lay_11 : ∀ w ∈ u_ws RX11 TX11 8, w ∈ tw := by
  show ∀ w ∈ (List.range 8).map (u_lay RX11 TX11), w ∈ tw
  intro w h
  obtain ⟨k, hk, rfl⟩ := List.mem_map.mp h
  have hk := List.mem_range.mp hk
  match k, hk with
  | 0, _ => exact q_329
  | 1, _ => exact q_331
  | 2, _ => exact q_333
  | 3, _ => exact q_335
  | 4, _ => exact q_337
  | 5, _ => exact q_339
  | 6, _ => exact q_341
  | 7, _ => exact q_343
  | k + 8, hk => exact absurd hk (by omega)
theorem lay_12 : ∀ w ∈ u_ws RX12 TX12 37, w ∈ tw := by
  show ∀ w ∈ (List.range 37).map (u_lay RX12 TX12), w ∈ tw
  intro w h
  obtain ⟨k, hk, rfl⟩ := List.mem_map.mp h
  have hk := List.mem_range.mp hk
  match k, hk with
  | 0, _ => exact q_1134
  | 1, _ => exact q_1136
  | 2, _ => exact q_1138
  | 3, _ => exact q_1140
  | 4, _ => exact q_1142
  | 5, _ => exact q_1144
  | 6, _ => exact q_1146
  | 7, _ => exact q_1148
  | 8, _ => exact q_1150
  | 9, _ => exact q_1152
  | 10, _ => exact q_1154
  | 11, _ => exact q_1156
  | 12, _ => exact q_1158
  | 13, _ => exact q_1160
  | 14, _ => exact q_1162
  | 15, _ => exact q_1164
  | 16, _ => exact q_1166
  | 17, _ => exact q_1168
  | 18, _ => exact q_1170
  | 19, _ => exact q_1172
  | 20, _ => exact q_1174
  | 21, _ => exact q_1176
  | 22, _ => exact q_1178
  | 23, _ => exact q_1180
  | 24, _ => exact q_1182
  | 25, _ => exact q_1184
  | 26, _ => exact q_1186
  | 27, _ => exact q_1188
  | 28, _ => exact q_1190
  | 29, _ => exact q_1192
  | 30, _ => exact q_1194
  | 31, _ => exact q_1196
  | 32, _ => exact q_1198
  | 33, _ => exact q_1200
  | 34, _ => exact q_1202
  | 35, _ => exact q_1204
  | 36, _ => exact q_1206
  | k + 37, hk => exact absurd hk (by omega)
